theorem in_X3_X3_meanSpeed : ∀ w ∈ u_ws RX3 TX3 2, w ∈ wsX3_meanSpeed := by decide +kernel
theorem fk_X3_meanSpeed_10 : Cond.fieldLink RX3 10 (TX3 0).1 (TX3 0).2.1 (TX3 0).2.2.1 ∈ wsX3_meanSpeed := by decide +kernel
set_option maxRecDepth 100000 in
set_option maxHeartbeats 4000000 in
theorem k_X3_meanSpeed (l : Launch) (D : va_G) (cI cZ cT : ClassId) (c : Nat) (a b : Nat → Nat) (t g t2 g2 : Nat → Nat → Int32) (nT nS nW : Nat) (ok : Ok t g nT nS nW) (hq : ¬ m_present t nT = 0 → vf_n64 (FP.ddiv (FP.i2d (m_speeds t nT)) (FP.i2d (m_present t nT)))) : CD l D kCl (kTy cI cZ cT) yX3_meanSpeed wsX3_meanSpeed ({ frames := 1, cells := 0, slots := 0, locals := 22 }) 0 0 [.ref c] (WB cI cZ cT c a b t g t2 g2) (S := Unit) (fun r _ => r = q_mean t nT) (fun _ => WB cI cZ cT c a b t g t2 g2) := by
  refine CD_of (own := RX3) (by decide) rfl rfl (Nat.le_of_ble_eq_true rfl) rfl (fun X A hC hE => ?_)
  obtain ⟨hT, hT4, hS, hS4, hW, hW3, hz, hb⟩ := id ok
  refine V_aload_n hC dX3_meanSpeed_0 rfl rfl rfl ?_
  refine V_get (q0 := 0) (C := RX3) (T := TX3) (N := 2) hC dX3_meanSpeed_1 in_X3_X3_meanSpeed rfl rfl 0 (Nat.le_of_ble_eq_true rfl) fk_X3_meanSpeed_10 rfl rfl ?_
  refine V_callIVf (q0 := 4) (n := 0) hC dX3_meanSpeed_4 (k_X0_countPresent l D cI cZ cT a _ _ _ hT hT4) gX3_meanSpeed_X0_countPresent rfl ⟨rfl, rfl⟩ (by decide +kernel) ⟨Nat.le_of_ble_eq_true rfl, Nat.le_of_ble_eq_true rfl⟩ ⟨Nat.le_of_ble_eq_true rfl, Nat.le_of_ble_eq_true rfl⟩ WB_a.symm rfl rfl rfl rfl (by exact Nat.le_of_ble_eq_true rfl) rfl (fun r_4 u_4 h_4 => ?_)
  subst h_4
  refine V_ws WB_a ?_
  refine V_istore_n hC dX3_meanSpeed_7 rfl (Nat.le_of_ble_eq_true rfl) rfl ?_
  refine V_iload_n hC dX3_meanSpeed_8 rfl rfl rfl ?_
  refine V_if_ne (tgt := 16) hC dX3_meanSpeed_9 (by decide) rfl (fun c_9 => ?_) (fun c_9 => ?_)
  · refine V_aload_n hC dX3_meanSpeed_16 rfl rfl rfl ?_
    refine V_get (q0 := 0) (C := RX3) (T := TX3) (N := 2) hC dX3_meanSpeed_17 in_X3_X3_meanSpeed rfl rfl 0 (Nat.le_of_ble_eq_true rfl) fk_X3_meanSpeed_10 rfl rfl ?_
    refine V_callIVf (q0 := 4) (n := 0) hC dX3_meanSpeed_20 (k_X0_sumOfSpeeds l D cI cZ cT a _ _ _ hT hT4) gX3_meanSpeed_X0_sumOfSpeeds rfl ⟨rfl, rfl⟩ (by decide +kernel) ⟨Nat.le_of_ble_eq_true rfl, Nat.le_of_ble_eq_true rfl⟩ ⟨Nat.le_of_ble_eq_true rfl, Nat.le_of_ble_eq_true rfl⟩ WB_a.symm rfl rfl rfl rfl (by exact Nat.le_of_ble_eq_true rfl) rfl (fun r_20 u_20 h_20 => ?_)
    subst h_20
    refine V_ws WB_a ?_
    refine V_i2d hC dX3_meanSpeed_23 rfl ?_
    refine V_iload_n hC dX3_meanSpeed_24 rfl rfl rfl ?_
    refine V_i2d hC dX3_meanSpeed_25 rfl ?_
    refine V_ddiv hC dX3_meanSpeed_26 (hq c_9) rfl ?_
    exact hE _ () _ _ _ dX3_meanSpeed_27 trivial rfl (by simp [q_mean, *])
  · refine V_dconst0 hC dX3_meanSpeed_12 rfl ?_
    refine V_goto (tgt := 27) hC dX3_meanSpeed_13 (by decide) ?_
    exact hE _ () _ _ _ dX3_meanSpeed_27 trivial rfl (by simp [q_mean, *])
theorem in_X3_X3_reaches : ∀ w ∈ u_ws RX3 TX3 2, w ∈ wsX3_reaches := by decide +kernel
theorem fk_X3_reaches_10 : Cond.fieldLink RX3 10 (TX3 0).1 (TX3 0).2.1 (TX3 0).2.2.1 ∈ wsX3_reaches := by decide +kernel
theorem in_X0_X3_reaches : ∀ w ∈ u_ws RX0 TX0 4, w ∈ wsX3_reaches := by decide +kernel
theorem fk_X3_reaches_80 : Cond.fieldLink RX3 80 (TX0 1).1 (TX0 1).2.1 (TX0 1).2.2.1 ∈ wsX3_reaches := by decide +kernel
theorem in_X2_X3_reaches : ∀ w ∈ u_ws RX2 TX2 18, w ∈ wsX3_reaches := by decide +kernel
theorem fk_X3_reaches_168 : Cond.fieldLink RX3 168 (TX2 4).1 (TX2 4).2.1 (TX2 4).2.2.1 ∈ wsX3_reaches := by decide +kernel
theorem fk_X3_reaches_16 : Cond.fieldLink RX3 16 (TX3 1).1 (TX3 1).2.1 (TX3 1).2.2.1 ∈ wsX3_reaches := by decide +kernel
set_option maxRecDepth 100000 in
set_option maxHeartbeats 4000000 in
theorem k_X3_reaches (l : Launch) (D : va_G) (cI cZ cT : ClassId) (c : Nat) (a b : Nat → Nat) (t g t2 g2 : Nat → Nat → Int32) (nT nS nW : Nat) (ok : Ok t g nT nS nW) (i : Nat) (hi : i < nT) (m : Int32) (n : Nat) (h1 : m_in m 0 2999 = 1) (hn : n ≤ 600) (h2 : m_in (nI n) 1 600 = 1) : CI l D kCl (kTy cI cZ cT) yX3_reaches wsX3_reaches ({ frames := 5, cells := 0, slots := 0, locals := 114 }) 0 0 [.ref c, .int (nI i), .int m, .int (nI n)] (WB cI cZ cT c a b t g t2 g2) (S := LnS) (fun r _ => r = q_reach t g nT nS nW i m n) (fun u => WB cI cZ cT c a b t g u.1 u.2) := by
  refine CI_of (own := RX3) (by decide) rfl rfl (Nat.le_of_ble_eq_true rfl) rfl (fun X A hC hE => ?_)
  obtain ⟨hT, hT4, hS, hS4, hW, hW3, hz, hb⟩ := id ok
  have hi4 : i < 4 := Nat.lt_of_lt_of_le hi hT4
  refine V_aload_n hC dX3_reaches_0 rfl rfl rfl ?_
  refine V_iload_n hC dX3_reaches_1 rfl rfl rfl ?_
  refine V_callVV (q0 := 0) (n := 1) hC dX3_reaches_2 (k_X3_needTrain l D cI cZ cT c a b _ _ _ _ _ _ _ ok _ hi) gX3_reaches_X3_needTrain rfl ⟨rfl, rfl⟩ (by decide +kernel) ⟨Nat.le_of_ble_eq_true rfl, Nat.le_of_ble_eq_true rfl⟩ ⟨Nat.le_of_ble_eq_true rfl, Nat.le_of_ble_eq_true rfl⟩ rfl rfl rfl rfl (by exact Nat.le_of_ble_eq_true rfl) rfl (fun u_2 h_2 => ?_)
  refine V_iload_n hC dX3_reaches_5 rfl rfl rfl ?_
  refine V_iconst (v := 0) hC dX3_reaches_6 (by decide) rfl ?_
  refine V_sipush (v := 2999) hC dX3_reaches_7 (by decide) rfl ?_
  refine V_callIS0 (n := 3) hC dX3_reaches_10 (k_X3_isWithin l D cI cZ cT _ _ _) gX3_reaches_X3_isWithin rfl ⟨rfl, rfl⟩ (by decide +kernel) ⟨Nat.le_of_ble_eq_true rfl, Nat.le_of_ble_eq_true rfl⟩ ⟨Nat.le_of_ble_eq_true rfl, Nat.le_of_ble_eq_true rfl⟩ rfl rfl (by exact Nat.le_of_ble_eq_true rfl) rfl (fun r_10 u_10 h_10 => ?_)
  subst h_10
  refine V_if_eq (tgt := 31) hC dX3_reaches_13 (by decide) rfl (fun c_13 => ?_) (fun c_13 => ?_)
  · exact absurd (c_13.symm.trans h1) (by decide)
  · refine V_iload_n hC dX3_reaches_16 rfl rfl rfl ?_
    refine V_iconst (v := 1) hC dX3_reaches_17 (by decide) rfl ?_
    refine V_sipush (v := 600) hC dX3_reaches_18 (by decide) rfl ?_
    refine V_callIS0 (n := 3) hC dX3_reaches_21 (k_X3_isWithin l D cI cZ cT _ _ _) gX3_reaches_X3_isWithin rfl ⟨rfl, rfl⟩ (by decide +kernel) ⟨Nat.le_of_ble_eq_true rfl, Nat.le_of_ble_eq_true rfl⟩ ⟨Nat.le_of_ble_eq_true rfl, Nat.le_of_ble_eq_true rfl⟩ rfl rfl (by exact Nat.le_of_ble_eq_true rfl) rfl (fun r_21 u_21 h_21 => ?_)
    subst h_21
    refine V_if_eq (tgt := 31) hC dX3_reaches_24 (by decide) rfl (fun c_24 => ?_) (fun c_24 => ?_)
    · exact absurd (c_24.symm.trans h2) (by decide)
    · refine V_iconst (v := 1) hC dX3_reaches_27 (by decide) rfl ?_
      refine V_goto (tgt := 32) hC dX3_reaches_28 (by decide) ?_
      refine V_callVS0 (n := 1) hC dX3_reaches_32 (k_X3_need l D cI cZ cT _ (by decide)) gX3_reaches_X3_need rfl ⟨rfl, rfl⟩ (by decide +kernel) ⟨Nat.le_of_ble_eq_true rfl, Nat.le_of_ble_eq_true rfl⟩ ⟨Nat.le_of_ble_eq_true rfl, Nat.le_of_ble_eq_true rfl⟩ rfl rfl (by exact Nat.le_of_ble_eq_true rfl) rfl (fun u_32 h_32 => ?_)
      refine V_aload_n hC dX3_reaches_35 rfl rfl rfl ?_
      refine V_get (q0 := 0) (C := RX3) (T := TX3) (N := 2) hC dX3_reaches_36 in_X3_X3_reaches rfl rfl 0 (Nat.le_of_ble_eq_true rfl) fk_X3_reaches_10 rfl rfl ?_
      refine V_get (q0 := 5) (C := RX0) (T := TX0) (N := 4) hC dX3_reaches_39 in_X0_X3_reaches rfl rfl 1 (Nat.le_of_ble_eq_true rfl) fk_X3_reaches_80 rfl rfl ?_
      refine V_iload_n hC dX3_reaches_42 rfl rfl rfl ?_
      refine V_aald (q0 := 15) hC dX3_reaches_43 rfl 2 rfl rfl hi4 (by decide) (trA_at hi4) rfl ?_
      refine V_get (C := RX2) (T := TX2) (N := 18) hC dX3_reaches_44 in_X2_X3_reaches (WB_ta hi4) rfl 4 (Nat.le_of_ble_eq_true rfl) fk_X3_reaches_168 rfl rfl ?_
      refine V_iload_n hC dX3_reaches_47 rfl rfl rfl ?_
      refine V_icmp_lt (tgt := 53) hC dX3_reaches_48 (by decide) rfl (fun c_48 => ?_) (fun c_48 => ?_)
      · refine V_aload_n hC dX3_reaches_53 rfl rfl rfl ?_
        refine V_get (q0 := 0) (C := RX3) (T := TX3) (N := 2) hC dX3_reaches_54 in_X3_X3_reaches rfl rfl 1 (Nat.le_of_ble_eq_true rfl) fk_X3_reaches_16 rfl rfl ?_
        refine V_aload_n hC dX3_reaches_57 rfl rfl rfl ?_
        refine V_get (q0 := 0) (C := RX3) (T := TX3) (N := 2) hC dX3_reaches_58 in_X3_X3_reaches rfl rfl 0 (Nat.le_of_ble_eq_true rfl) fk_X3_reaches_10 rfl rfl ?_
        refine V_callVVf (q0 := 19) (n := 1) hC dX3_reaches_61 (k_X0_copyFrom l D cI cZ cT a b _ _ _ _ hz hb) gX3_reaches_X0_copyFrom rfl ⟨rfl, rfl⟩ (by decide +kernel) ⟨Nat.le_of_ble_eq_true rfl, Nat.le_of_ble_eq_true rfl⟩ ⟨Nat.le_of_ble_eq_true rfl, Nat.le_of_ble_eq_true rfl⟩ WB_ab.symm rfl rfl rfl rfl (by exact Nat.le_of_ble_eq_true rfl) rfl (fun u_61 h_61 => ?_)
        refine V_ws WB_ab ?_
        refine V_iconst (v := 1) hC dX3_reaches_64 (by decide) rfl ?_
        refine V_istore hC dX3_reaches_65 (Nat.le_of_ble_eq_true rfl) rfl ?_
        have loop_67 : ∀ (d f k : Nat), f < d → k + f = n → q_rs t g nT nS nW i m f (k + 1) = q_rs t g nT nS nW i m n 1 → V X 0 0 (WB cI cZ cT c a b t g (m_it (-1) nT nS nW t g k).1 (m_it (-1) nT nS nW t g k).2) [(0, .ref c), (1, .int (nI i)), (2, .int m), (3, .int (nI n)), (4, .int (nI (k + 1)))] 67 [] := by
          intro d_1
          induction d_1 with
          | zero => intro f; intros; omega
          | succ d_1 ih_1 =>
            intro f k h hk hr
            refine V_iload hC dX3_reaches_67 rfl rfl ?_
            refine V_iload_n hC dX3_reaches_69 rfl rfl rfl ?_
            refine V_icmp_gt (tgt := 107) hC dX3_reaches_70 (by decide) rfl (fun c_70 => ?_) (fun c_70 => ?_)
            · have c1 := nI_lt' c_70 (by omega) (by omega)
              obtain rfl : f = 0 := by omega
              refine V_iconst (v := (-1)) hC dX3_reaches_107 (by decide) rfl ?_
              exact hE _ (_, _) _ _ _ dX3_reaches_108 rfl rfl (by rw [q_reach, if_pos c_48, ← hr]; rfl)
            · have c1 := nI_nlt' c_70 (by omega) (by omega)
              obtain ⟨f, rfl⟩ : ∃ z, f = z + 1 := ⟨f - 1, by omega⟩
              obtain ⟨hT1, hT14, hS1, hS14, hW1, hW13, hz1, hb1⟩ := ok.it (-1) k
              refine V_aload_n hC dX3_reaches_73 rfl rfl rfl ?_
              refine V_get (q0 := 0) (C := RX3) (T := TX3) (N := 2) hC dX3_reaches_74 in_X3_X3_reaches rfl rfl 1 (Nat.le_of_ble_eq_true rfl) fk_X3_reaches_16 rfl rfl ?_
              refine V_iconst (v := (-1)) hC dX3_reaches_77 (by decide) rfl ?_
              refine V_callIVf (q0 := 4) (n := 1) hC dX3_reaches_78 (k_X0_goOn l D cI cZ cT b _ _ _ _ hT1 hT14 _ hS1 hS14 _ hW1 hW13 hz1) gX3_reaches_X0_goOn rfl ⟨rfl, rfl⟩ (by decide +kernel) ⟨Nat.le_of_ble_eq_true rfl, Nat.le_of_ble_eq_true rfl⟩ ⟨Nat.le_of_ble_eq_true rfl, Nat.le_of_ble_eq_true rfl⟩ WB_b.symm rfl rfl rfl rfl (by exact Nat.le_of_ble_eq_true rfl) rfl (fun r_78 u_78 h_78 => ?_)
              subst h_78
              refine V_ws WB_b ?_
              refine V_pop hC dX3_reaches_81 rfl rfl ?_
              refine V_aload_n hC dX3_reaches_82 rfl rfl rfl ?_
              refine V_get (q0 := 0) (C := RX3) (T := TX3) (N := 2) hC dX3_reaches_83 in_X3_X3_reaches rfl rfl 1 (Nat.le_of_ble_eq_true rfl) fk_X3_reaches_16 rfl rfl ?_
              refine V_get (q0 := 20) (C := RX0) (T := TX0) (N := 4) hC dX3_reaches_86 in_X0_X3_reaches rfl rfl 1 (Nat.le_of_ble_eq_true rfl) fk_X3_reaches_80 rfl rfl ?_
              refine V_iload_n hC dX3_reaches_89 rfl rfl rfl ?_
              refine V_aald (q0 := 30) hC dX3_reaches_90 rfl 2 rfl rfl hi4 (by decide) (trA_at hi4) rfl ?_
              refine V_get (C := RX2) (T := TX2) (N := 18) hC dX3_reaches_91 in_X2_X3_reaches (WB_tb hi4) rfl 4 (Nat.le_of_ble_eq_true rfl) fk_X3_reaches_168 rfl rfl ?_
              refine V_iload_n hC dX3_reaches_94 rfl rfl rfl ?_
              refine V_icmp_lt (tgt := 101) hC dX3_reaches_95 (by decide) rfl (fun c_95 => ?_) (fun c_95 => ?_)
              · refine V_iinc hC dX3_reaches_101 rfl (nI_1 (k + 1)) (Nat.le_of_ble_eq_true rfl) rfl ?_
                refine V_goto (tgt := 67) hC dX3_reaches_104 (by decide) ?_
                exact V_to (ih_1 f (k + 1) (by omega) (by omega) ((if_pos c_95).symm.trans hr)) (lc rfl (lc rfl (lc rfl (lc rfl (lc rfl ln)))))
              · refine V_iload hC dX3_reaches_98 rfl rfl ?_
                exact hE _ (_, _) _ _ _ dX3_reaches_100 rfl rfl (by rw [q_reach, if_pos c_48, ← hr]; exact (if_neg c_95).symm)
        exact V_to (loop_67 _ n 0 (Nat.lt_succ_self _) (by omega) rfl) (lc rfl (lc rfl (lc rfl (lc rfl (lc rfl ln)))))
      · refine V_iconst (v := 0) hC dX3_reaches_51 (by decide) rfl ?_
        exact hE _ (_, _) _ _ _ dX3_reaches_52 rfl rfl (by rw [q_reach, if_neg c_48])
theorem in_X3_X3_closest : ∀ w ∈ u_ws RX3 TX3 2, w ∈ wsX3_closest := by decide +kernel
theorem fk_X3_closest_10 : Cond.fieldLink RX3 10 (TX3 0).1 (TX3 0).2.1 (TX3 0).2.2.1 ∈ wsX3_closest := by decide +kernel
theorem in_X0_X3_closest : ∀ w ∈ u_ws RX0 TX0 4, w ∈ wsX3_closest := by decide +kernel
theorem fk_X3_closest_80 : Cond.fieldLink RX3 80 (TX0 1).1 (TX0 1).2.1 (TX0 1).2.2.1 ∈ wsX3_closest := by decide +kernel
theorem in_X2_X3_closest : ∀ w ∈ u_ws RX2 TX2 18, w ∈ wsX3_closest := by decide +kernel
theorem fk_X3_closest_138 : Cond.fieldLink RX3 138 (TX2 9).1 (TX2 9).2.1 (TX2 9).2.2.1 ∈ wsX3_closest := by decide +kernel
theorem fk_X3_closest_16 : Cond.fieldLink RX3 16 (TX3 1).1 (TX3 1).2.1 (TX3 1).2.2.1 ∈ wsX3_closest := by decide +kernel
theorem k175_X3_closest : Cond.constant RX3 175 1000000 ∈ wsX3_closest := by decide +kernel
theorem fk_X3_closest_176 : Cond.fieldLink RX3 176 (TX2 17).1 (TX2 17).2.1 (TX2 17).2.2.1 ∈ wsX3_closest := by decide +kernel
set_option maxRecDepth 100000 in
set_option maxHeartbeats 4000000 in
theorem k_X3_closest (l : Launch) (D : va_G) (cI cZ cT : ClassId) (c : Nat) (a b : Nat → Nat) (t g t2 g2 : Nat → Nat → Int32) (nT nS nW : Nat) (ok : Ok t g nT nS nW) (i : Nat) (hi : i < nT) (n : Nat) (hn : n ≤ 120) (h2 : m_in (nI n) 1 120 = 1) : CI l D kCl (kTy cI cZ cT) yX3_closest wsX3_closest ({ frames := 5, cells := 0, slots := 0, locals := 114 }) 0 0 [.ref c, .int (nI i), .int (nI n)] (WB cI cZ cT c a b t g t2 g2) (S := LnS) (fun r _ => r = q_close t g nT nS nW i n) (fun u => WB cI cZ cT c a b t g u.1 u.2) := by
  refine CI_of (own := RX3) (by decide) rfl rfl (Nat.le_of_ble_eq_true rfl) rfl (fun X A hC hE => ?_)
  obtain ⟨hT, hT4, hS, hS4, hW, hW3, hz, hb⟩ := id ok
  have hi4 : i < 4 := Nat.lt_of_lt_of_le hi hT4
  refine V_aload_n hC dX3_closest_0 rfl rfl rfl ?_
  refine V_iload_n hC dX3_closest_1 rfl rfl rfl ?_
  refine V_callVV (q0 := 0) (n := 1) hC dX3_closest_2 (k_X3_needTrain l D cI cZ cT c a b _ _ _ _ _ _ _ ok _ hi) gX3_closest_X3_needTrain rfl ⟨rfl, rfl⟩ (by decide +kernel) ⟨Nat.le_of_ble_eq_true rfl, Nat.le_of_ble_eq_true rfl⟩ ⟨Nat.le_of_ble_eq_true rfl, Nat.le_of_ble_eq_true rfl⟩ rfl rfl rfl rfl (by exact Nat.le_of_ble_eq_true rfl) rfl (fun u_2 h_2 => ?_)
  refine V_iload_n hC dX3_closest_5 rfl rfl rfl ?_
  refine V_iconst (v := 1) hC dX3_closest_6 (by decide) rfl ?_
  refine V_bipush (v := 120) hC dX3_closest_7 (by decide) rfl ?_
  refine V_callIS0 (n := 3) hC dX3_closest_9 (k_X3_isWithin l D cI cZ cT _ _ _) gX3_closest_X3_isWithin rfl ⟨rfl, rfl⟩ (by decide +kernel) ⟨Nat.le_of_ble_eq_true rfl, Nat.le_of_ble_eq_true rfl⟩ ⟨Nat.le_of_ble_eq_true rfl, Nat.le_of_ble_eq_true rfl⟩ rfl rfl (by exact Nat.le_of_ble_eq_true rfl) rfl (fun r_9 u_9 h_9 => ?_)
  subst h_9
  refine V_callVS0 (n := 1) hC dX3_closest_12 (k_X3_need l D cI cZ cT _ (by rw [h2]; decide)) gX3_closest_X3_need rfl ⟨rfl, rfl⟩ (by decide +kernel) ⟨Nat.le_of_ble_eq_true rfl, Nat.le_of_ble_eq_true rfl⟩ ⟨Nat.le_of_ble_eq_true rfl, Nat.le_of_ble_eq_true rfl⟩ rfl rfl (by exact Nat.le_of_ble_eq_true rfl) rfl (fun u_12 h_12 => ?_)
  refine V_aload_n hC dX3_closest_15 rfl rfl rfl ?_
  refine V_get (q0 := 0) (C := RX3) (T := TX3) (N := 2) hC dX3_closest_16 in_X3_X3_closest rfl rfl 0 (Nat.le_of_ble_eq_true rfl) fk_X3_closest_10 rfl rfl ?_
  refine V_iload_n hC dX3_closest_19 rfl rfl rfl ?_
  refine V_callIVf (q0 := 4) (n := 1) hC dX3_closest_20 (k_X0_aheadOf l D cI cZ cT a _ _ _ hi4) gX3_closest_X0_aheadOf rfl ⟨rfl, rfl⟩ (by decide +kernel) ⟨Nat.le_of_ble_eq_true rfl, Nat.le_of_ble_eq_true rfl⟩ ⟨Nat.le_of_ble_eq_true rfl, Nat.le_of_ble_eq_true rfl⟩ WB_a.symm rfl rfl rfl rfl (by exact Nat.le_of_ble_eq_true rfl) rfl (fun r_20 u_20 h_20 => ?_)
  subst h_20
  refine V_ws WB_a ?_
  refine V_istore_n hC dX3_closest_23 rfl (Nat.le_of_ble_eq_true rfl) rfl ?_
  refine V_iload_n hC dX3_closest_24 rfl rfl rfl ?_
  refine V_iconst (v := (-1)) hC dX3_closest_25 (by decide) rfl ?_
  refine V_icmp_eq (tgt := 44) hC dX3_closest_26 (by decide) rfl (fun c_26 => ?_) (fun c_26 => ?_)
  · have hj := nxI_nn (fun j q => by have := m_ahead_lt q; omega) c_26
    refine V_iconst (v := (-1)) hC dX3_closest_44 (by decide) rfl ?_
    exact hE _ (_, _) _ _ _ dX3_closest_45 rfl rfl (by rw [q_close, hj]; first | done | exact (if_neg c_41).symm)
  · have h9 := nxI_some c_26
    obtain ⟨j, hj, hj2⟩ := h9
    have hj3 := m_ahead_lt hj
    have j4 : j < 4 := by omega
    rw [hj2]
    refine V_aload_n hC dX3_closest_29 rfl rfl rfl ?_
    refine V_get (q0 := 0) (C := RX3) (T := TX3) (N := 2) hC dX3_closest_30 in_X3_X3_closest rfl rfl 0 (Nat.le_of_ble_eq_true rfl) fk_X3_closest_10 rfl rfl ?_
    refine V_get (q0 := 5) (C := RX0) (T := TX0) (N := 4) hC dX3_closest_33 in_X0_X3_closest rfl rfl 1 (Nat.le_of_ble_eq_true rfl) fk_X3_closest_80 rfl rfl ?_
    refine V_iload_n hC dX3_closest_36 rfl rfl rfl ?_
    refine V_aald (q0 := 15) hC dX3_closest_37 rfl 2 rfl rfl hi4 (by decide) (trA_at hi4) rfl ?_
    refine V_get (C := RX2) (T := TX2) (N := 18) hC dX3_closest_38 in_X2_X3_closest (WB_ta hi4) rfl 9 (Nat.le_of_ble_eq_true rfl) fk_X3_closest_138 rfl rfl ?_
    refine V_if_eq (tgt := 46) hC dX3_closest_41 (by decide) rfl (fun c_41 => ?_) (fun c_41 => ?_)
    · refine V_aload_n hC dX3_closest_46 rfl rfl rfl ?_
      refine V_get (q0 := 0) (C := RX3) (T := TX3) (N := 2) hC dX3_closest_47 in_X3_X3_closest rfl rfl 1 (Nat.le_of_ble_eq_true rfl) fk_X3_closest_16 rfl rfl ?_
      refine V_aload_n hC dX3_closest_50 rfl rfl rfl ?_
      refine V_get (q0 := 0) (C := RX3) (T := TX3) (N := 2) hC dX3_closest_51 in_X3_X3_closest rfl rfl 0 (Nat.le_of_ble_eq_true rfl) fk_X3_closest_10 rfl rfl ?_
      refine V_callVVf (q0 := 19) (n := 1) hC dX3_closest_54 (k_X0_copyFrom l D cI cZ cT a b _ _ _ _ hz hb) gX3_closest_X0_copyFrom rfl ⟨rfl, rfl⟩ (by decide +kernel) ⟨Nat.le_of_ble_eq_true rfl, Nat.le_of_ble_eq_true rfl⟩ ⟨Nat.le_of_ble_eq_true rfl, Nat.le_of_ble_eq_true rfl⟩ WB_ab.symm rfl rfl rfl rfl (by exact Nat.le_of_ble_eq_true rfl) rfl (fun u_54 h_54 => ?_)
      refine V_ws WB_ab ?_
      refine V_aload_n hC dX3_closest_57 rfl rfl rfl ?_
      refine V_get (q0 := 0) (C := RX3) (T := TX3) (N := 2) hC dX3_closest_58 in_X3_X3_closest rfl rfl 1 (Nat.le_of_ble_eq_true rfl) fk_X3_closest_16 rfl rfl ?_
      refine V_get (q0 := 20) (C := RX0) (T := TX0) (N := 4) hC dX3_closest_61 in_X0_X3_closest rfl rfl 1 (Nat.le_of_ble_eq_true rfl) fk_X3_closest_80 rfl rfl ?_
      refine V_iload_n hC dX3_closest_64 rfl rfl rfl ?_
      refine V_aald (q0 := 30) hC dX3_closest_65 rfl 2 rfl rfl hi4 (by decide) (trA_at hi4) rfl ?_
      refine V_ldc (v := 1000000) hC dX3_closest_66 k175_X3_closest rfl ?_
      refine V_put (C := RX2) (T := TX2) (N := 18) hC dX3_closest_68 in_X2_X3_closest tyX2 tyX2_ok nmX2 (WB_tb hi4) rfl 17 (Nat.le_of_ble_eq_true rfl) fk_X3_closest_176 rfl rfl rfl rfl (Nat.le_of_ble_eq_true rfl) (WB_setb hi4 (by decide)) rfl ?_
      have ok2 : Ok (up2 t i 17 1000000) g nT nS nW := ⟨hT, hT4, hS, hS4, hW, hW3, hz, hb.up (Or.inl (by decide))⟩
      refine V_iconst (v := 1) hC dX3_closest_71 (by decide) rfl ?_
      refine V_istore hC dX3_closest_72 (Nat.le_of_ble_eq_true rfl) rfl ?_
      have loop_74 : ∀ (d k : Nat), n - k < d → k ≤ n → V X 0 0 (WB cI cZ cT c a b t g (m_it (nI j) nT nS nW (up2 t i 17 1000000) g k).1 (m_it (nI j) nT nS nW (up2 t i 17 1000000) g k).2) [(0, .ref c), (1, .int (nI i)), (2, .int (nI n)), (3, .int (nI j)), (4, .int (nI (k + 1)))] 74 [] := by
        intro d_1
        induction d_1 with
        | zero => intro k; intros; omega
        | succ d_1 ih_1 =>
          intro k h hk
          refine V_iload hC dX3_closest_74 rfl rfl ?_
          refine V_iload_n hC dX3_closest_76 rfl rfl rfl ?_
          refine V_icmp_gt (tgt := 95) hC dX3_closest_77 (by decide) rfl (fun c_77 => ?_) (fun c_77 => ?_)
          · have c1 := nI_lt' c_77 (by omega) (by omega)
            obtain rfl : n = k := by omega
            refine V_aload_n hC dX3_closest_95 rfl rfl rfl ?_
            refine V_get (q0 := 0) (C := RX3) (T := TX3) (N := 2) hC dX3_closest_96 in_X3_X3_closest rfl rfl 1 (Nat.le_of_ble_eq_true rfl) fk_X3_closest_16 rfl rfl ?_
            refine V_get (q0 := 20) (C := RX0) (T := TX0) (N := 4) hC dX3_closest_99 in_X0_X3_closest rfl rfl 1 (Nat.le_of_ble_eq_true rfl) fk_X3_closest_80 rfl rfl ?_
            refine V_iload_n hC dX3_closest_102 rfl rfl rfl ?_
            refine V_aald (q0 := 30) hC dX3_closest_103 rfl 2 rfl rfl hi4 (by decide) (trA_at hi4) rfl ?_
            refine V_callIVf (n := 0) hC dX3_closest_104 (k_X2_leastGapOrNone l D cI cZ cT b _ _ _ hi4) gX3_closest_X2_leastGapOrNone rfl ⟨rfl, rfl⟩ (by decide +kernel) ⟨Nat.le_of_ble_eq_true rfl, Nat.le_of_ble_eq_true rfl⟩ ⟨Nat.le_of_ble_eq_true rfl, Nat.le_of_ble_eq_true rfl⟩ WB_b.symm (Wl_t hi4) rfl rfl rfl (by exact Nat.le_of_ble_eq_true rfl) rfl (fun r_104 u_104 h_104 => ?_)
            subst h_104
            refine V_ws WB_b ?_
            exact hE _ (_, _) _ _ _ dX3_closest_107 rfl rfl (by rw [q_close, hj]; exact (if_pos c_41).symm)
          · have c1 := nI_nlt' c_77 (by omega) (by omega)
            obtain ⟨hT1, hT14, hS1, hS14, hW1, hW13, hz1, hb1⟩ := ok2.it (nI j) k
            refine V_aload_n hC dX3_closest_80 rfl rfl rfl ?_
            refine V_get (q0 := 0) (C := RX3) (T := TX3) (N := 2) hC dX3_closest_81 in_X3_X3_closest rfl rfl 1 (Nat.le_of_ble_eq_true rfl) fk_X3_closest_16 rfl rfl ?_
            refine V_iload_n hC dX3_closest_84 rfl rfl rfl ?_
            refine V_callIVf (q0 := 4) (n := 1) hC dX3_closest_85 (k_X0_goOn l D cI cZ cT b _ _ _ _ hT1 hT14 _ hS1 hS14 _ hW1 hW13 hz1) gX3_closest_X0_goOn rfl ⟨rfl, rfl⟩ (by decide +kernel) ⟨Nat.le_of_ble_eq_true rfl, Nat.le_of_ble_eq_true rfl⟩ ⟨Nat.le_of_ble_eq_true rfl, Nat.le_of_ble_eq_true rfl⟩ WB_b.symm rfl rfl rfl rfl (by exact Nat.le_of_ble_eq_true rfl) rfl (fun r_85 u_85 h_85 => ?_)
            subst h_85
            refine V_ws WB_b ?_
            refine V_pop hC dX3_closest_88 rfl rfl ?_
            refine V_iinc hC dX3_closest_89 rfl (nI_1 (k + 1)) (Nat.le_of_ble_eq_true rfl) rfl ?_
            refine V_goto (tgt := 74) hC dX3_closest_92 (by decide) ?_
            exact V_to (ih_1 (k + 1) (by omega) (by omega)) (lc rfl (lc rfl (lc rfl (lc rfl (lc rfl ln)))))
      exact V_to (loop_74 _ 0 (Nat.lt_succ_self _) (by omega)) (lc rfl (lc rfl (lc rfl (lc rfl (lc rfl ln)))))
    · refine V_iconst (v := (-1)) hC dX3_closest_44 (by decide) rfl ?_
      exact hE _ (_, _) _ _ _ dX3_closest_45 rfl rfl (by rw [q_close, hj]; first | done | exact (if_neg c_41).symm)
theorem in_X3_X3_worksIn : ∀ w ∈ u_ws RX3 TX3 2, w ∈ wsX3_worksIn := by decide +kernel
theorem fk_X3_worksIn_16 : Cond.fieldLink RX3 16 (TX3 1).1 (TX3 1).2.1 (TX3 1).2.2.1 ∈ wsX3_worksIn := by decide +kernel
theorem fk_X3_worksIn_10 : Cond.fieldLink RX3 10 (TX3 0).1 (TX3 0).2.1 (TX3 0).2.2.1 ∈ wsX3_worksIn := by decide +kernel
set_option maxRecDepth 100000 in
set_option maxHeartbeats 4000000 in
theorem k_X3_worksIn (l : Launch) (D : va_G) (cI cZ cT : ClassId) (c : Nat) (a b : Nat → Nat) (t g t2 g2 : Nat → Nat → Int32) (nT nS nW : Nat) (ok : Ok t g nT nS nW) (f e n : Nat) (hf : f < 20) (he : e < 20) (hfe : f ≤ e) (hn : n ≤ 300) (h2 : m_in (nI n) 1 300 = 1) : CI l D kCl (kTy cI cZ cT) yX3_worksIn wsX3_worksIn ({ frames := 5, cells := 0, slots := 0, locals := 114 }) 0 0 [.ref c, .int (nI f), .int (nI e), .int (nI n)] (WB cI cZ cT c a b t g t2 g2) (S := LnS) (fun r _ => r = q_ws t g nT nS nW (nI f) (nI e) n 0) (fun u => WB cI cZ cT c a b t g u.1 u.2) := by
  refine CI_of (own := RX3) (by decide) rfl rfl (Nat.le_of_ble_eq_true rfl) rfl (fun X A hC hE => ?_)
  obtain ⟨hT, hT4, hS, hS4, hW, hW3, hz, hb⟩ := id ok
  refine V_iload_n hC dX3_worksIn_0 rfl rfl rfl ?_
  refine V_callVS0 (n := 1) hC dX3_worksIn_1 (k_X3_needSection l D cI cZ cT _ hf) gX3_worksIn_X3_needSection rfl ⟨rfl, rfl⟩ (by decide +kernel) ⟨Nat.le_of_ble_eq_true rfl, Nat.le_of_ble_eq_true rfl⟩ ⟨Nat.le_of_ble_eq_true rfl, Nat.le_of_ble_eq_true rfl⟩ rfl rfl (by exact Nat.le_of_ble_eq_true rfl) rfl (fun u_1 h_1 => ?_)
  refine V_iload_n hC dX3_worksIn_4 rfl rfl rfl ?_
  refine V_callVS0 (n := 1) hC dX3_worksIn_5 (k_X3_needSection l D cI cZ cT _ he) gX3_worksIn_X3_needSection rfl ⟨rfl, rfl⟩ (by decide +kernel) ⟨Nat.le_of_ble_eq_true rfl, Nat.le_of_ble_eq_true rfl⟩ ⟨Nat.le_of_ble_eq_true rfl, Nat.le_of_ble_eq_true rfl⟩ rfl rfl (by exact Nat.le_of_ble_eq_true rfl) rfl (fun u_5 h_5 => ?_)
  refine V_iload_n hC dX3_worksIn_8 rfl rfl rfl ?_
  refine V_iload_n hC dX3_worksIn_9 rfl rfl rfl ?_
  refine V_icmp_gt (tgt := 28) hC dX3_worksIn_10 (by decide) rfl (fun c_10 => ?_) (fun c_10 => ?_)
  · exact absurd c_10 (nI_nlt hfe (by omega))
  · refine V_iload_n hC dX3_worksIn_13 rfl rfl rfl ?_
    refine V_iconst (v := 1) hC dX3_worksIn_14 (by decide) rfl ?_
    refine V_sipush (v := 300) hC dX3_worksIn_15 (by decide) rfl ?_
    refine V_callIS0 (n := 3) hC dX3_worksIn_18 (k_X3_isWithin l D cI cZ cT _ _ _) gX3_worksIn_X3_isWithin rfl ⟨rfl, rfl⟩ (by decide +kernel) ⟨Nat.le_of_ble_eq_true rfl, Nat.le_of_ble_eq_true rfl⟩ ⟨Nat.le_of_ble_eq_true rfl, Nat.le_of_ble_eq_true rfl⟩ rfl rfl (by exact Nat.le_of_ble_eq_true rfl) rfl (fun r_18 u_18 h_18 => ?_)
    subst h_18
    refine V_if_eq (tgt := 28) hC dX3_worksIn_21 (by decide) rfl (fun c_21 => ?_) (fun c_21 => ?_)
    · exact absurd (c_21.symm.trans h2) (by decide)
    · refine V_iconst (v := 1) hC dX3_worksIn_24 (by decide) rfl ?_
      refine V_goto (tgt := 29) hC dX3_worksIn_25 (by decide) ?_
      refine V_callVS0 (n := 1) hC dX3_worksIn_29 (k_X3_need l D cI cZ cT _ (by decide)) gX3_worksIn_X3_need rfl ⟨rfl, rfl⟩ (by decide +kernel) ⟨Nat.le_of_ble_eq_true rfl, Nat.le_of_ble_eq_true rfl⟩ ⟨Nat.le_of_ble_eq_true rfl, Nat.le_of_ble_eq_true rfl⟩ rfl rfl (by exact Nat.le_of_ble_eq_true rfl) rfl (fun u_29 h_29 => ?_)
      refine V_aload_n hC dX3_worksIn_32 rfl rfl rfl ?_
      refine V_get (q0 := 0) (C := RX3) (T := TX3) (N := 2) hC dX3_worksIn_33 in_X3_X3_worksIn rfl rfl 1 (Nat.le_of_ble_eq_true rfl) fk_X3_worksIn_16 rfl rfl ?_
      refine V_aload_n hC dX3_worksIn_36 rfl rfl rfl ?_
      refine V_get (q0 := 0) (C := RX3) (T := TX3) (N := 2) hC dX3_worksIn_37 in_X3_X3_worksIn rfl rfl 0 (Nat.le_of_ble_eq_true rfl) fk_X3_worksIn_10 rfl rfl ?_
      refine V_callVVf (q0 := 19) (n := 1) hC dX3_worksIn_40 (k_X0_copyFrom l D cI cZ cT a b _ _ _ _ hz hb) gX3_worksIn_X0_copyFrom rfl ⟨rfl, rfl⟩ (by decide +kernel) ⟨Nat.le_of_ble_eq_true rfl, Nat.le_of_ble_eq_true rfl⟩ ⟨Nat.le_of_ble_eq_true rfl, Nat.le_of_ble_eq_true rfl⟩ WB_ab.symm rfl rfl rfl rfl (by exact Nat.le_of_ble_eq_true rfl) rfl (fun u_40 h_40 => ?_)
      refine V_ws WB_ab ?_
      refine V_iconst (v := 0) hC dX3_worksIn_43 (by decide) rfl ?_
      refine V_istore hC dX3_worksIn_44 (Nat.le_of_ble_eq_true rfl) rfl ?_
      have loop_46 : ∀ (d q k : Nat), q < d → k + q = n → q_ws t g nT nS nW (nI f) (nI e) q k = q_ws t g nT nS nW (nI f) (nI e) n 0 → V X 0 0 (WB cI cZ cT c a b t g (m_it (-1) nT nS nW t g k).1 (m_it (-1) nT nS nW t g k).2) [(0, .ref c), (1, .int (nI f)), (2, .int (nI e)), (3, .int (nI n)), (4, .int (nI k))] 46 [] := by
        intro d_1
        induction d_1 with
        | zero => intro q; intros; omega
        | succ d_1 ih_1 =>
          intro q k h hk hr
          refine V_iload hC dX3_worksIn_46 rfl rfl ?_
          refine V_iload_n hC dX3_worksIn_48 rfl rfl rfl ?_
          refine V_icmp_ge (tgt := 82) hC dX3_worksIn_49 (by decide) rfl (fun c_49 => ?_) (fun c_49 => ?_)
          · have c1 := nI_le' c_49 (by omega) (by omega)
            obtain rfl : q = 0 := by omega
            obtain rfl : n = k := by omega
            obtain ⟨hT1, hT14, hS1, hS14, hW1, hW13, hz1, hb1⟩ := ok.it (-1) n
            refine V_aload_n hC dX3_worksIn_82 rfl rfl rfl ?_
            refine V_get (q0 := 0) (C := RX3) (T := TX3) (N := 2) hC dX3_worksIn_83 in_X3_X3_worksIn rfl rfl 1 (Nat.le_of_ble_eq_true rfl) fk_X3_worksIn_16 rfl rfl ?_
            refine V_iload_n hC dX3_worksIn_86 rfl rfl rfl ?_
            refine V_iload_n hC dX3_worksIn_87 rfl rfl rfl ?_
            refine V_callIVf (q0 := 4) (n := 2) hC dX3_worksIn_88 (k_X0_hindranceOfWorks l D cI cZ cT b _ _ _ _ _ hT1 hT14) gX3_worksIn_X0_hindranceOfWorks rfl ⟨rfl, rfl⟩ (by decide +kernel) ⟨Nat.le_of_ble_eq_true rfl, Nat.le_of_ble_eq_true rfl⟩ ⟨Nat.le_of_ble_eq_true rfl, Nat.le_of_ble_eq_true rfl⟩ WB_b.symm rfl rfl rfl rfl (by exact Nat.le_of_ble_eq_true rfl) rfl (fun r_88 u_88 h_88 => ?_)
            subst h_88
            refine V_ws WB_b ?_
            refine V_if_ne (tgt := 98) hC dX3_worksIn_91 (by decide) rfl (fun c_91 => ?_) (fun c_91 => ?_)
            · refine V_iconst (v := (-1)) hC dX3_worksIn_98 (by decide) rfl ?_
              exact hE _ (_, _) _ _ _ dX3_worksIn_99 rfl rfl (by rw [← hr]; first | exact (if_pos c_91).symm | exact (if_neg c_91).symm)
            · refine V_iload_n hC dX3_worksIn_94 rfl rfl rfl ?_
              refine V_goto (tgt := 99) hC dX3_worksIn_95 (by decide) ?_
              exact hE _ (_, _) _ _ _ dX3_worksIn_99 rfl rfl (by rw [← hr]; first | exact (if_pos c_91).symm | exact (if_neg c_91).symm)
          · have c1 := nI_nle' c_49 (by omega) (by omega)
            obtain ⟨q, rfl⟩ : ∃ z, q = z + 1 := ⟨q - 1, by omega⟩
            obtain ⟨hT1, hT14, hS1, hS14, hW1, hW13, hz1, hb1⟩ := ok.it (-1) k
            refine V_aload_n hC dX3_worksIn_52 rfl rfl rfl ?_
            refine V_get (q0 := 0) (C := RX3) (T := TX3) (N := 2) hC dX3_worksIn_53 in_X3_X3_worksIn rfl rfl 1 (Nat.le_of_ble_eq_true rfl) fk_X3_worksIn_16 rfl rfl ?_
            refine V_iload_n hC dX3_worksIn_56 rfl rfl rfl ?_
            refine V_iload_n hC dX3_worksIn_57 rfl rfl rfl ?_
            refine V_callIVf (q0 := 4) (n := 2) hC dX3_worksIn_58 (k_X0_hindranceOfWorks l D cI cZ cT b _ _ _ _ _ hT1 hT14) gX3_worksIn_X0_hindranceOfWorks rfl ⟨rfl, rfl⟩ (by decide +kernel) ⟨Nat.le_of_ble_eq_true rfl, Nat.le_of_ble_eq_true rfl⟩ ⟨Nat.le_of_ble_eq_true rfl, Nat.le_of_ble_eq_true rfl⟩ WB_b.symm rfl rfl rfl rfl (by exact Nat.le_of_ble_eq_true rfl) rfl (fun r_58 u_58 h_58 => ?_)
            subst h_58
            refine V_ws WB_b ?_
            refine V_if_ne (tgt := 67) hC dX3_worksIn_61 (by decide) rfl (fun c_61 => ?_) (fun c_61 => ?_)
            · refine V_aload_n hC dX3_worksIn_67 rfl rfl rfl ?_
              refine V_get (q0 := 0) (C := RX3) (T := TX3) (N := 2) hC dX3_worksIn_68 in_X3_X3_worksIn rfl rfl 1 (Nat.le_of_ble_eq_true rfl) fk_X3_worksIn_16 rfl rfl ?_
              refine V_iconst (v := (-1)) hC dX3_worksIn_71 (by decide) rfl ?_
              refine V_callIVf (q0 := 4) (n := 1) hC dX3_worksIn_72 (k_X0_goOn l D cI cZ cT b _ _ _ _ hT1 hT14 _ hS1 hS14 _ hW1 hW13 hz1) gX3_worksIn_X0_goOn rfl ⟨rfl, rfl⟩ (by decide +kernel) ⟨Nat.le_of_ble_eq_true rfl, Nat.le_of_ble_eq_true rfl⟩ ⟨Nat.le_of_ble_eq_true rfl, Nat.le_of_ble_eq_true rfl⟩ WB_b.symm rfl rfl rfl rfl (by exact Nat.le_of_ble_eq_true rfl) rfl (fun r_72 u_72 h_72 => ?_)
              subst h_72
              refine V_ws WB_b ?_
              refine V_pop hC dX3_worksIn_75 rfl rfl ?_
              refine V_iinc hC dX3_worksIn_76 rfl (nI_1 k) (Nat.le_of_ble_eq_true rfl) rfl ?_
              refine V_goto (tgt := 46) hC dX3_worksIn_79 (by decide) ?_
              exact V_to (ih_1 q (k + 1) (by omega) (by omega) ((if_neg c_61).symm.trans hr)) (lc rfl (lc rfl (lc rfl (lc rfl (lc rfl ln)))))
            · refine V_iload hC dX3_worksIn_64 rfl rfl ?_
              exact hE _ (_, _) _ _ _ dX3_worksIn_66 rfl rfl (by rw [← hr]; exact (if_pos c_61).symm)
      exact V_to (loop_46 _ n 0 (Nat.lt_succ_self _) (by omega) rfl) (lc rfl (lc rfl (lc rfl (lc rfl (lc (kv nI_0.symm) ln)))))
