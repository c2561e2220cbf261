theorem ab1_L_isSo : Cond.methodLink RL 88 yJ9_abs_294c1 ∈ wsL_isSo := by decide +kernel
theorem ab2_L_isSo : Cond.static yJ9_abs_294c1 ∈ wsL_isSo := by decide +kernel
theorem ab3_L_isSo : Cond.initialized RJ9 ∈ wsL_isSo := by decide +kernel
theorem ab4_L_isSo : Cond.code yJ9_abs_294c1 cJ9_abs_294c1 2 (some .double) ∈ wsL_isSo := by decide +kernel
theorem aci_L_isSo : Cond.arrayClass .int ∈ wsL_isSo := by decide +kernel
theorem k92_L_isSo : Cond.constantDouble RL 92 4547007122018943789 ∈ wsL_isSo := by decide +kernel
theorem ml81_L_isSo : Cond.methodLink RL 81 Lib.Math.max.name ∈ wsL_isSo := by decide +kernel
theorem msmax_L_isSo : Cond.static Lib.Math.max.name ∈ wsL_isSo := by decide +kernel
theorem mi_L_isSo : Cond.initialized "java/lang/Math" ∈ wsL_isSo := by decide +kernel
theorem mcmax_L_isSo : Cond.code Lib.Math.max.name Lib.Math.max.code 2 (some .int) ∈ wsL_isSo := by decide +kernel
set_option maxRecDepth 100000 in
set_option maxHeartbeats 4000000 in
theorem k_L_isSo (l : Launch) (D : va_G) (cI cZ cT : ClassId) (c : Nat) (a b : Nat → Nat) (t g t2 g2 : Nat → Nat → Int32) (nT nS nW : Nat) (o : Nat) (cl : Nat → Int32) (n : Nat)  (h : LI t g nT nS nW n (fun i => (cl i).toInt)) (hn : n < 100000) : CI l D kCl (kTy cI cZ cT) yL_isSo wsL_isSo ({ frames := 4, cells := 1, slots := 5, locals := 91 }) 1 5 [.ref c, .int (nI nT), .int (nI nS), .int (nI nW), .ref o] (W6 cI cZ cT c a b t g t2 g2 o cl) (S := Unit) (fun r _ => r = 1) (fun _ => W6 cI cZ cT c a b t g t2 g2 o cl) := by
  refine CI_of (own := RL) (by decide) rfl rfl (Nat.le_of_ble_eq_true rfl) rfl (fun X A hC hE => ?_)
  obtain ⟨hT0, nT4, hS0, nS4, hW0, nW3, -, -⟩ := id h.1
  have hg := h.2.1
  have hTI := fun i hi => (h.2.2.2.1 i hi).1
  have hBI := fun i hi => (h.2.2.2.1 i hi).2
  have hgap := h.2.2.2.2.2.1
  obtain ⟨x1, x2, x3, x4, x5, x6, x7⟩ := so_all h
  obtain ⟨sp, pn, y1, y2, y3, y4, y5, y6, y7⟩ := so_mean h
  refine V_iconst (v := 5) hC dL_isSo_0 (by decide) rfl ?_
  refine V_newai hC dL_isSo_1 rfl aci_L_isSo 0 rfl (by decide) rfl (Nat.le_of_ble_eq_true rfl) (Nat.le_of_ble_eq_true rfl) (Nat.le_of_ble_eq_true rfl) rfl (fun z1 => ?_)
  refine V_astore hC dL_isSo_3 (Nat.le_of_ble_eq_true rfl) rfl ?_
  refine V_ws (ws' := (W5 cI cZ cT c a b t g t2 g2 o z1 cl (fun _ => 0))) rfl ?_
  refine V_iconst (v := 0) hC dL_isSo_5 (by decide) rfl ?_
  refine V_istore hC dL_isSo_6 (Nat.le_of_ble_eq_true rfl) rfl ?_
  refine V_iconst (v := 0) hC dL_isSo_8 (by decide) rfl ?_
  refine V_istore hC dL_isSo_9 (Nat.le_of_ble_eq_true rfl) rfl ?_
  refine V_iconst (v := 0) hC dL_isSo_11 (by decide) rfl ?_
  refine V_istore hC dL_isSo_12 (Nat.le_of_ble_eq_true rfl) rfl ?_
  have loop_14 : ∀ (d k : Nat) (f : Nat → Int32), nT - k < d → k ≤ nT → (f 0 = q_left t k ∧ f 1 = m_tot t 6 k ∧ f 2 = m_tot t 7 k ∧ f 3 = m_tot t 8 k) → V X 1 5 (W5 cI cZ cT c a b t g t2 g2 o z1 cl f) [(0, .ref c), (1, .int (nI nT)), (2, .int (nI nS)), (3, .int (nI nW)), (4, .ref o), (5, .ref z1), (6, .int (q_run t k)), (7, .int (m_speeds t k)), (8, .int (nI k))] 14 [] := by
    intro d_1
    induction d_1 with
    | zero => intro k f; intros; omega
    | succ d_1 ih_1 =>
      intro k f hd1 hk hf
      refine V_iload hC dL_isSo_14 rfl rfl ?_
      refine V_iload_n hC dL_isSo_16 rfl rfl rfl ?_
      refine V_icmp_ge (tgt := 468) hC dL_isSo_17 (by decide) rfl (fun c_17 => ?_) (fun c_17 => ?_)
      · have c1 := nI_le' c_17 (by omega) (by omega)
        obtain rfl : nT = k := by omega
        refine V_iconst (v := 0) hC dL_isSo_468 (by decide) rfl ?_
        refine V_istore hC dL_isSo_469 (Nat.le_of_ble_eq_true rfl) rfl ?_
        refine V_iconst (v := 0) hC dL_isSo_471 (by decide) rfl ?_
        refine V_istore hC dL_isSo_472 (Nat.le_of_ble_eq_true rfl) rfl ?_
        have loop_474 : ∀ (d k : Nat), 20 - k < d → k ≤ 20 → V X 1 5 (W5 cI cZ cT c a b t g t2 g2 o z1 cl f) [(0, .ref c), (1, .int (nI nT)), (2, .int (nI nS)), (3, .int (nI nW)), (4, .ref o), (5, .ref z1), (6, .int (q_run t nT)), (7, .int (m_speeds t nT)), (8, .int (q_there t nT k)), (9, .int (nI k))] 474 [] := by
          intro d_2
          induction d_2 with
          | zero => intro k; intros; omega
          | succ d_2 ih_2 =>
            intro k hd2 hk2
            refine V_iload hC dL_isSo_474 rfl rfl ?_
            refine V_bipush (v := 20) hC dL_isSo_476 (by decide) rfl ?_
            refine V_icmp_ge (tgt := 499) hC dL_isSo_478 (by decide) rfl (fun c_478 => ?_) (fun c_478 => ?_)
            · have c2 := nI_le' (a := 20) c_478 (by omega) (by omega)
              obtain rfl : k = 20 := by omega
              refine V_iconst (v := 0) hC dL_isSo_499 (by decide) rfl ?_
              refine V_istore hC dL_isSo_500 (Nat.le_of_ble_eq_true rfl) rfl ?_
              refine V_iconst (v := 0) hC dL_isSo_502 (by decide) rfl ?_
              refine V_istore hC dL_isSo_503 (Nat.le_of_ble_eq_true rfl) rfl ?_
              refine V_iconst (v := 0) hC dL_isSo_505 (by decide) rfl ?_
              refine V_istore hC dL_isSo_506 (Nat.le_of_ble_eq_true rfl) rfl ?_
              have loop_508 : ∀ (d k : Nat), nS - k < d → k ≤ nS → V X 1 5 (W5 cI cZ cT c a b t g t2 g2 o z1 cl f) [(0, .ref c), (1, .int (nI nT)), (2, .int (nI nS)), (3, .int (nI nW)), (4, .ref o), (5, .ref z1), (6, .int (q_run t nT)), (7, .int (m_speeds t nT)), (8, .int (q_there t nT 20)), (9, .int (s32 (g 5) k)), (10, .int 0), (11, .int (nI k))] 508 [] := by
                intro d_3
                induction d_3 with
                | zero => intro k; intros; omega
                | succ d_3 ih_3 =>
                  intro k hd3 hk3
                  refine V_iload hC dL_isSo_508 rfl rfl ?_
                  refine V_iload_n hC dL_isSo_510 rfl rfl rfl ?_
                  refine V_icmp_ge (tgt := 532) hC dL_isSo_511 (by decide) rfl (fun c_511 => ?_) (fun c_511 => ?_)
                  · have c3 := nI_le' c_511 (by omega) (by omega)
                    obtain rfl : nS = k := by omega
                    refine V_iconst (v := 0) hC dL_isSo_532 (by decide) rfl ?_
                    refine V_istore hC dL_isSo_533 (Nat.le_of_ble_eq_true rfl) rfl ?_
                    have loop_535 : ∀ (d k : Nat), nT - k < d → k ≤ nT → V X 1 5 (W5 cI cZ cT c a b t g t2 g2 o z1 cl f) [(0, .ref c), (1, .int (nI nT)), (2, .int (nI nS)), (3, .int (nI nW)), (4, .ref o), (5, .ref z1), (6, .int (q_run t nT)), (7, .int (m_speeds t nT)), (8, .int (q_there t nT 20)), (9, .int (s32 (g 5) nS)), (10, .int (s32 cl k)), (11, .int (nI k))] 535 [] := by
                      intro d_4
                      induction d_4 with
                      | zero => intro k; intros; omega
                      | succ d_4 ih_4 =>
                        intro k hd4 hk4
                        refine V_iload hC dL_isSo_535 rfl rfl ?_
                        refine V_iload_n hC dL_isSo_537 rfl rfl rfl ?_
                        refine V_icmp_ge (tgt := 557) hC dL_isSo_538 (by decide) rfl (fun c_538 => ?_) (fun c_538 => ?_)
                        · have c4 := nI_le' c_538 (by omega) (by omega)
                          obtain rfl : nT = k := by omega
                          refine V_iload hC dL_isSo_557 rfl rfl ?_
                          refine V_iload hC dL_isSo_559 rfl rfl ?_
                          refine V_icmp_lt (tgt := 689) hC dL_isSo_561 (by decide) rfl (fun c_561 => ?_) (fun c_561 => ?_)
                          · exact absurd c_561 x1
                          · refine V_iload hC dL_isSo_564 rfl rfl ?_
                            refine V_iconst (v := 3) hC dL_isSo_566 (by decide) rfl ?_
                            refine V_iload hC dL_isSo_567 rfl rfl ?_
                            refine V_imul hC dL_isSo_569 rfl ?_
                            refine V_icmp_gt (tgt := 689) hC dL_isSo_570 (by decide) rfl (fun c_570 => ?_) (fun c_570 => ?_)
                            · exact absurd c_570 x2
                            · refine V_iload hC dL_isSo_573 rfl rfl ?_
                              refine V_aload hC dL_isSo_575 rfl rfl ?_
                              refine V_iconst (v := 3) hC dL_isSo_577 (by decide) rfl ?_
                              refine V_iald (q0 := 32) hC dL_isSo_578 rfl 0 rfl (show (3 : Int32) = nI 3 from rfl) (by decide) (by decide) rfl ?_
                              refine V_iadd hC dL_isSo_579 rfl ?_
                              refine V_iload hC dL_isSo_580 rfl rfl ?_
                              refine V_icmp_gt (tgt := 689) hC dL_isSo_582 (by decide) rfl (fun c_582 => ?_) (fun c_582 => ?_)
                              · exact absurd c_582 (by rw [hf.2.2.2]; exact x3)
                              · refine V_aload_n hC dL_isSo_585 rfl rfl rfl ?_
                                refine V_iconst (v := 1) hC dL_isSo_586 (by decide) rfl ?_
                                refine V_callIVf (q0 := 0) (n := 1) (pre := []) (suf := (S5 cI o z1 cl f)) hC dL_isSo_587 (k_X3_many l D cI cZ cT c a b _ _ _ _ _ _ _ h.1 _ (by decide)) gL_isSo_X3_many rfl ⟨rfl, rfl⟩ (by decide +kernel) ⟨Nat.le_of_ble_eq_true rfl, Nat.le_of_ble_eq_true rfl⟩ ⟨Nat.le_of_ble_eq_true rfl, Nat.le_of_ble_eq_true rfl⟩ rfl rfl rfl rfl rfl (by exact Nat.le_of_ble_eq_true rfl) rfl (fun r_587 u_587 h_587 => ?_)
                                subst h_587
                                refine V_ws (ws' := (W5 cI cZ cT c a b t g t2 g2 o z1 cl f)) rfl ?_
                                refine V_iload_n hC dL_isSo_590 rfl rfl rfl ?_
                                refine V_icmp_ne (tgt := 689) hC dL_isSo_591 (by decide) rfl (fun c_591 => ?_) (fun c_591 => ?_)
                                · exact absurd x4 c_591
                                · refine V_aload_n hC dL_isSo_594 rfl rfl rfl ?_
                                  refine V_iconst (v := 2) hC dL_isSo_595 (by decide) rfl ?_
                                  refine V_callIVf (q0 := 0) (n := 1) (pre := []) (suf := (S5 cI o z1 cl f)) hC dL_isSo_596 (k_X3_many l D cI cZ cT c a b _ _ _ _ _ _ _ h.1 _ (by decide)) gL_isSo_X3_many rfl ⟨rfl, rfl⟩ (by decide +kernel) ⟨Nat.le_of_ble_eq_true rfl, Nat.le_of_ble_eq_true rfl⟩ ⟨Nat.le_of_ble_eq_true rfl, Nat.le_of_ble_eq_true rfl⟩ rfl rfl rfl rfl rfl (by exact Nat.le_of_ble_eq_true rfl) rfl (fun r_596 u_596 h_596 => ?_)
                                  subst h_596
                                  refine V_ws (ws' := (W5 cI cZ cT c a b t g t2 g2 o z1 cl f)) rfl ?_
                                  refine V_aload hC dL_isSo_599 rfl rfl ?_
                                  refine V_iconst (v := 0) hC dL_isSo_601 (by decide) rfl ?_
                                  refine V_iald (q0 := 32) hC dL_isSo_602 rfl 0 rfl (show (0 : Int32) = nI 0 from rfl) (by decide) (by decide) rfl ?_
                                  refine V_icmp_ne (tgt := 689) hC dL_isSo_603 (by decide) rfl (fun c_603 => ?_) (fun c_603 => ?_)
                                  · exact absurd (x5.trans hf.1.symm) c_603
                                  · refine V_aload_n hC dL_isSo_606 rfl rfl rfl ?_
                                    refine V_iconst (v := 4) hC dL_isSo_607 (by decide) rfl ?_
                                    refine V_callIVf (q0 := 0) (n := 1) (pre := []) (suf := (S5 cI o z1 cl f)) hC dL_isSo_608 (k_X3_many l D cI cZ cT c a b _ _ _ _ _ _ _ h.1 _ (by decide)) gL_isSo_X3_many rfl ⟨rfl, rfl⟩ (by decide +kernel) ⟨Nat.le_of_ble_eq_true rfl, Nat.le_of_ble_eq_true rfl⟩ ⟨Nat.le_of_ble_eq_true rfl, Nat.le_of_ble_eq_true rfl⟩ rfl rfl rfl rfl rfl (by exact Nat.le_of_ble_eq_true rfl) rfl (fun r_608 u_608 h_608 => ?_)
                                    subst h_608
                                    refine V_ws (ws' := (W5 cI cZ cT c a b t g t2 g2 o z1 cl f)) rfl ?_
                                    refine V_iload_n hC dL_isSo_611 rfl rfl rfl ?_
                                    refine V_icmp_ne (tgt := 689) hC dL_isSo_612 (by decide) rfl (fun c_612 => ?_) (fun c_612 => ?_)
                                    · exact absurd x6 c_612
                                    · refine V_aload_n hC dL_isSo_615 rfl rfl rfl ?_
                                      refine V_iconst (v := 5) hC dL_isSo_616 (by decide) rfl ?_
                                      refine V_callIVf (q0 := 0) (n := 1) (pre := []) (suf := (S5 cI o z1 cl f)) hC dL_isSo_617 (k_X3_many l D cI cZ cT c a b _ _ _ _ _ _ _ h.1 _ (by decide)) gL_isSo_X3_many rfl ⟨rfl, rfl⟩ (by decide +kernel) ⟨Nat.le_of_ble_eq_true rfl, Nat.le_of_ble_eq_true rfl⟩ ⟨Nat.le_of_ble_eq_true rfl, Nat.le_of_ble_eq_true rfl⟩ rfl rfl rfl rfl rfl (by exact Nat.le_of_ble_eq_true rfl) rfl (fun r_617 u_617 h_617 => ?_)
                                      subst h_617
                                      refine V_ws (ws' := (W5 cI cZ cT c a b t g t2 g2 o z1 cl f)) rfl ?_
                                      refine V_iload_n hC dL_isSo_620 rfl rfl rfl ?_
                                      refine V_icmp_ne (tgt := 689) hC dL_isSo_621 (by decide) rfl (fun c_621 => ?_) (fun c_621 => ?_)
                                      · exact absurd x7 c_621
                                      · refine V_aload_n hC dL_isSo_624 rfl rfl rfl ?_
                                        refine V_bipush (v := 6) hC dL_isSo_625 (by decide) rfl ?_
                                        refine V_callIVf (q0 := 0) (n := 1) (pre := []) (suf := (S5 cI o z1 cl f)) hC dL_isSo_627 (k_X3_many l D cI cZ cT c a b _ _ _ _ _ _ _ h.1 _ (by decide)) gL_isSo_X3_many rfl ⟨rfl, rfl⟩ (by decide +kernel) ⟨Nat.le_of_ble_eq_true rfl, Nat.le_of_ble_eq_true rfl⟩ ⟨Nat.le_of_ble_eq_true rfl, Nat.le_of_ble_eq_true rfl⟩ rfl rfl rfl rfl rfl (by exact Nat.le_of_ble_eq_true rfl) rfl (fun r_627 u_627 h_627 => ?_)
                                        subst h_627
                                        refine V_ws (ws' := (W5 cI cZ cT c a b t g t2 g2 o z1 cl f)) rfl ?_
                                        refine V_aload hC dL_isSo_630 rfl rfl ?_
                                        refine V_iconst (v := 1) hC dL_isSo_632 (by decide) rfl ?_
                                        refine V_iald (q0 := 32) hC dL_isSo_633 rfl 0 rfl (show (1 : Int32) = nI 1 from rfl) (by decide) (by decide) rfl ?_
                                        refine V_icmp_ne (tgt := 689) hC dL_isSo_634 (by decide) rfl (fun c_634 => ?_) (fun c_634 => ?_)
                                        · exact absurd hf.2.1.symm c_634
                                        · refine V_aload_n hC dL_isSo_637 rfl rfl rfl ?_
                                          refine V_bipush (v := 7) hC dL_isSo_638 (by decide) rfl ?_
                                          refine V_callIVf (q0 := 0) (n := 1) (pre := []) (suf := (S5 cI o z1 cl f)) hC dL_isSo_640 (k_X3_many l D cI cZ cT c a b _ _ _ _ _ _ _ h.1 _ (by decide)) gL_isSo_X3_many rfl ⟨rfl, rfl⟩ (by decide +kernel) ⟨Nat.le_of_ble_eq_true rfl, Nat.le_of_ble_eq_true rfl⟩ ⟨Nat.le_of_ble_eq_true rfl, Nat.le_of_ble_eq_true rfl⟩ rfl rfl rfl rfl rfl (by exact Nat.le_of_ble_eq_true rfl) rfl (fun r_640 u_640 h_640 => ?_)
                                          subst h_640
                                          refine V_ws (ws' := (W5 cI cZ cT c a b t g t2 g2 o z1 cl f)) rfl ?_
                                          refine V_aload hC dL_isSo_643 rfl rfl ?_
                                          refine V_iconst (v := 2) hC dL_isSo_645 (by decide) rfl ?_
                                          refine V_iald (q0 := 32) hC dL_isSo_646 rfl 0 rfl (show (2 : Int32) = nI 2 from rfl) (by decide) (by decide) rfl ?_
                                          refine V_icmp_ne (tgt := 689) hC dL_isSo_647 (by decide) rfl (fun c_647 => ?_) (fun c_647 => ?_)
                                          · exact absurd hf.2.2.1.symm c_647
                                          · refine V_aload_n hC dL_isSo_650 rfl rfl rfl ?_
                                            refine V_bipush (v := 8) hC dL_isSo_651 (by decide) rfl ?_
                                            refine V_callIVf (q0 := 0) (n := 1) (pre := []) (suf := (S5 cI o z1 cl f)) hC dL_isSo_653 (k_X3_many l D cI cZ cT c a b _ _ _ _ _ _ _ h.1 _ (by decide)) gL_isSo_X3_many rfl ⟨rfl, rfl⟩ (by decide +kernel) ⟨Nat.le_of_ble_eq_true rfl, Nat.le_of_ble_eq_true rfl⟩ ⟨Nat.le_of_ble_eq_true rfl, Nat.le_of_ble_eq_true rfl⟩ rfl rfl rfl rfl rfl (by exact Nat.le_of_ble_eq_true rfl) rfl (fun r_653 u_653 h_653 => ?_)
                                            subst h_653
                                            refine V_ws (ws' := (W5 cI cZ cT c a b t g t2 g2 o z1 cl f)) rfl ?_
                                            refine V_aload hC dL_isSo_656 rfl rfl ?_
                                            refine V_iconst (v := 3) hC dL_isSo_658 (by decide) rfl ?_
                                            refine V_iald (q0 := 32) hC dL_isSo_659 rfl 0 rfl (show (3 : Int32) = nI 3 from rfl) (by decide) (by decide) rfl ?_
                                            refine V_icmp_ne (tgt := 689) hC dL_isSo_660 (by decide) rfl (fun c_660 => ?_) (fun c_660 => ?_)
                                            · exact absurd hf.2.2.2.symm c_660
                                            · refine V_aload_n hC dL_isSo_663 rfl rfl rfl ?_
                                              refine V_callDVf (q0 := 0) (n := 0) (pre := []) (suf := (S5 cI o z1 cl f)) hC dL_isSo_664 (k_X3_meanSpeed l D cI cZ cT c a b _ _ _ _ _ _ _ h.1 y4) gL_isSo_X3_meanSpeed rfl ⟨rfl, rfl⟩ (by decide +kernel) ⟨Nat.le_of_ble_eq_true rfl, Nat.le_of_ble_eq_true rfl⟩ ⟨Nat.le_of_ble_eq_true rfl, Nat.le_of_ble_eq_true rfl⟩ rfl rfl rfl rfl rfl (by exact Nat.le_of_ble_eq_true rfl) rfl (fun r_664 u_664 h_664 => ?_)
                                              subst h_664
                                              refine V_ws (ws' := (W5 cI cZ cT c a b t g t2 g2 o z1 cl f)) rfl ?_
                                              rw [y3]
                                              refine V_iload hC dL_isSo_667 rfl rfl ?_
                                              rw [y2]
                                              refine V_i2d hC dL_isSo_669 rfl ?_
                                              refine V_dmul hC dL_isSo_670 y5 rfl ?_
                                              refine V_iload hC dL_isSo_671 rfl rfl ?_
                                              rw [y1]
                                              refine V_i2d hC dL_isSo_673 rfl ?_
                                              refine V_dsub hC dL_isSo_674 y6 rfl ?_
                                              refine V_dabs hC y6 dL_isSo_675 ab1_L_isSo ab2_L_isSo ab3_L_isSo ab4_L_isSo (Nat.le_of_ble_eq_true rfl) (Nat.le_of_ble_eq_true rfl) rfl ?_
                                              refine V_ldc2d (v := 4547007122018943789) hC dL_isSo_678 k92_L_isSo rfl ?_
                                              refine V_dcmp hC dL_isSo_681 rfl ?_
                                              refine V_if_ge (tgt := 689) hC dL_isSo_682 (by decide) rfl (fun c_682 => ?_) (fun c_682 => ?_)
                                              · exact absurd c_682 (by rw [y7]; decide)
                                              · refine V_iconst (v := 1) hC dL_isSo_685 (by decide) rfl ?_
                                                refine V_goto (tgt := 690) hC dL_isSo_686 (by decide) ?_
                                                refine V_drop W5_drop ?_
                                                exact hE _ () _ _ _ dL_isSo_690 rfl rfl rfl
                        · have c4 := nI_nle' c_538 (by omega) (by omega)
                          have k4 : k < 4 := by omega
                          refine V_iload hC dL_isSo_541 rfl rfl ?_
                          refine V_aload hC dL_isSo_543 rfl rfl ?_
                          refine V_iload hC dL_isSo_545 rfl rfl ?_
                          refine V_iald (q0 := 31) hC dL_isSo_547 rfl 0 rfl rfl k4 (by decide) rfl ?_
                          refine V_iadd hC dL_isSo_548 rfl ?_
                          refine V_istore hC dL_isSo_549 (Nat.le_of_ble_eq_true rfl) rfl ?_
                          refine V_iinc hC dL_isSo_551 rfl (nI_1 k) (Nat.le_of_ble_eq_true rfl) rfl ?_
                          refine V_goto (tgt := 535) hC dL_isSo_554 (by decide) ?_
                          exact V_to (ih_4 (k + 1) (by omega) (by omega)) (lc rfl (lc rfl (lc rfl (lc rfl (lc rfl (lc rfl (lc rfl (lc rfl (lc rfl (lc rfl (lc rfl (lc rfl ln))))))))))))
                    exact V_to (loop_535 _ 0 (Nat.lt_succ_self _) (by omega)) (lc rfl (lc rfl (lc rfl (lc rfl (lc rfl (lc rfl (lc rfl (lc rfl (lc rfl (lc rfl (lc rfl (lc (kv nI_0.symm) ln))))))))))))
                  · have c3 := nI_nle' c_511 (by omega) (by omega)
                    refine V_iload hC dL_isSo_514 rfl rfl ?_
                    refine V_aload_n hC dL_isSo_516 rfl rfl rfl ?_
                    refine V_iload hC dL_isSo_517 rfl rfl ?_
                    refine V_iconst (v := 2) hC dL_isSo_519 (by decide) rfl ?_
                    refine V_callIVf (q0 := 0) (n := 2) (pre := []) (suf := (S5 cI o z1 cl f)) hC dL_isSo_520 (k_X3_ofStation l D cI cZ cT c a b _ _ _ _ _ _ _ h.1 k c3 _ (Or.inr (Or.inr rfl))) gL_isSo_X3_ofStation rfl ⟨rfl, rfl⟩ (by decide +kernel) ⟨Nat.le_of_ble_eq_true rfl, Nat.le_of_ble_eq_true rfl⟩ ⟨Nat.le_of_ble_eq_true rfl, Nat.le_of_ble_eq_true rfl⟩ rfl rfl rfl rfl rfl (by exact Nat.le_of_ble_eq_true rfl) rfl (fun r_520 u_520 h_520 => ?_)
                    subst h_520
                    refine V_ws (ws' := (W5 cI cZ cT c a b t g t2 g2 o z1 cl f)) rfl ?_
                    rw [show q_stn g k 2 = g 5 k from rfl]
                    refine V_iadd hC dL_isSo_523 rfl ?_
                    refine V_istore hC dL_isSo_524 (Nat.le_of_ble_eq_true rfl) rfl ?_
                    refine V_iinc hC dL_isSo_526 rfl (nI_1 k) (Nat.le_of_ble_eq_true rfl) rfl ?_
                    refine V_goto (tgt := 508) hC dL_isSo_529 (by decide) ?_
                    exact V_to (ih_3 (k + 1) (by omega) (by omega)) (lc rfl (lc rfl (lc rfl (lc rfl (lc rfl (lc rfl (lc rfl (lc rfl (lc rfl (lc rfl (lc rfl (lc rfl ln))))))))))))
              exact V_to (loop_508 _ 0 (Nat.lt_succ_self _) (by omega)) (lc rfl (lc rfl (lc rfl (lc rfl (lc rfl (lc rfl (lc rfl (lc rfl (lc rfl (lc rfl (lc rfl (lc (kv nI_0.symm) ln))))))))))))
            · have c2 := nI_nle' (a := 20) c_478 (by omega) (by omega)
              refine V_iload hC dL_isSo_481 rfl rfl ?_
              refine V_aload_n hC dL_isSo_483 rfl rfl rfl ?_
              refine V_iload hC dL_isSo_484 rfl rfl ?_
              refine V_iconst (v := 3) hC dL_isSo_486 (by decide) rfl ?_
              refine V_callIVf (q0 := 0) (n := 2) (pre := []) (suf := (S5 cI o z1 cl f)) hC dL_isSo_487 (k_X3_ofSection l D cI cZ cT c a b _ _ _ _ _ _ _ h.1 k c2 _ (by decide)) gL_isSo_X3_ofSection rfl ⟨rfl, rfl⟩ (by decide +kernel) ⟨Nat.le_of_ble_eq_true rfl, Nat.le_of_ble_eq_true rfl⟩ ⟨Nat.le_of_ble_eq_true rfl, Nat.le_of_ble_eq_true rfl⟩ rfl rfl rfl rfl rfl (by exact Nat.le_of_ble_eq_true rfl) rfl (fun r_487 u_487 h_487 => ?_)
              subst h_487
              refine V_ws (ws' := (W5 cI cZ cT c a b t g t2 g2 o z1 cl f)) rfl ?_
              rw [show q_sec t g nT nW k 3 = m_on t (nI k) (nI k) nT from rfl]
              refine V_iadd hC dL_isSo_490 rfl ?_
              refine V_istore hC dL_isSo_491 (Nat.le_of_ble_eq_true rfl) rfl ?_
              refine V_iinc hC dL_isSo_493 rfl (nI_1 k) (Nat.le_of_ble_eq_true rfl) rfl ?_
              refine V_goto (tgt := 474) hC dL_isSo_496 (by decide) ?_
              exact V_to (ih_2 (k + 1) (by omega) (by omega)) (lc rfl (lc rfl (lc rfl (lc rfl (lc rfl (lc rfl (lc rfl (lc rfl (lc rfl (lc rfl ln))))))))))
        exact V_to (loop_474 _ 0 (Nat.lt_succ_self _) (by omega)) (lc rfl (lc rfl (lc rfl (lc rfl (lc rfl (lc rfl (lc rfl (lc rfl (lc rfl (lc (kv nI_0.symm) ln))))))))))
      · have c1 := nI_nle' c_17 (by omega) (by omega)
        have k4 : k < 4 := by omega
        obtain ⟨a1, a2, a3, a4, a5, a6, a7, a8, a9, a10, a11⟩ := so_one (g := g) (nS := nS) (hTI k c1)
        obtain ⟨b1, b2, b3, b4⟩ := so_may (t := t) (i := k) hg (hTI k c1)
        have hah := ahead_i t k (fun j hj => (hTI j (by omega)).b9)
        refine V_aload_n hC dL_isSo_20 rfl rfl rfl ?_
        refine V_iload hC dL_isSo_21 rfl rfl ?_
        refine V_bipush (v := 7) hC dL_isSo_23 (by decide) rfl ?_
        refine V_callIVf (q0 := 0) (n := 2) (pre := []) (suf := (S5 cI o z1 cl f)) hC dL_isSo_25 (k_X3_ofTrain l D cI cZ cT c a b _ _ _ _ _ _ _ h.1 k c1 _ (by decide)) gL_isSo_X3_ofTrain rfl ⟨rfl, rfl⟩ (by decide +kernel) ⟨Nat.le_of_ble_eq_true rfl, Nat.le_of_ble_eq_true rfl⟩ ⟨Nat.le_of_ble_eq_true rfl, Nat.le_of_ble_eq_true rfl⟩ rfl rfl rfl rfl rfl (by exact Nat.le_of_ble_eq_true rfl) rfl (fun r_25 u_25 h_25 => ?_)
        subst h_25
        refine V_ws (ws' := (W5 cI cZ cT c a b t g t2 g2 o z1 cl f)) rfl ?_
        rw [qt7]
        refine V_istore hC dL_isSo_28 (Nat.le_of_ble_eq_true rfl) rfl ?_
        refine V_aload_n hC dL_isSo_30 rfl rfl rfl ?_
        refine V_iload hC dL_isSo_31 rfl rfl ?_
        refine V_iconst (v := 0) hC dL_isSo_33 (by decide) rfl ?_
        refine V_callIVf (q0 := 0) (n := 2) (pre := []) (suf := (S5 cI o z1 cl f)) hC dL_isSo_34 (k_X3_ofTrain l D cI cZ cT c a b _ _ _ _ _ _ _ h.1 k c1 _ (by decide)) gL_isSo_X3_ofTrain rfl ⟨rfl, rfl⟩ (by decide +kernel) ⟨Nat.le_of_ble_eq_true rfl, Nat.le_of_ble_eq_true rfl⟩ ⟨Nat.le_of_ble_eq_true rfl, Nat.le_of_ble_eq_true rfl⟩ rfl rfl rfl rfl rfl (by exact Nat.le_of_ble_eq_true rfl) rfl (fun r_34 u_34 h_34 => ?_)
        subst h_34
        refine V_ws (ws' := (W5 cI cZ cT c a b t g t2 g2 o z1 cl f)) rfl ?_
        rw [qt0]
        refine V_istore hC dL_isSo_37 (Nat.le_of_ble_eq_true rfl) rfl ?_
        refine V_aload_n hC dL_isSo_39 rfl rfl rfl ?_
        refine V_iload hC dL_isSo_40 rfl rfl ?_
        refine V_iconst (v := 1) hC dL_isSo_42 (by decide) rfl ?_
        refine V_callIVf (q0 := 0) (n := 2) (pre := []) (suf := (S5 cI o z1 cl f)) hC dL_isSo_43 (k_X3_ofTrain l D cI cZ cT c a b _ _ _ _ _ _ _ h.1 k c1 _ (by decide)) gL_isSo_X3_ofTrain rfl ⟨rfl, rfl⟩ (by decide +kernel) ⟨Nat.le_of_ble_eq_true rfl, Nat.le_of_ble_eq_true rfl⟩ ⟨Nat.le_of_ble_eq_true rfl, Nat.le_of_ble_eq_true rfl⟩ rfl rfl rfl rfl rfl (by exact Nat.le_of_ble_eq_true rfl) rfl (fun r_43 u_43 h_43 => ?_)
        subst h_43
        refine V_ws (ws' := (W5 cI cZ cT c a b t g t2 g2 o z1 cl f)) rfl ?_
        rw [qt1]
        refine V_istore hC dL_isSo_46 (Nat.le_of_ble_eq_true rfl) rfl ?_
        have join_66 : V X 1 5 (W5 cI cZ cT c a b t g t2 g2 o z1 cl (upd f 0 (q_left t (k + 1)))) [(0, .ref c), (1, .int (nI nT)), (2, .int (nI nS)), (3, .int (nI nW)), (4, .ref o), (5, .ref z1), (6, .int (q_run t k)), (7, .int (m_speeds t k)), (8, .int (nI k)), (9, .int (stt (t k))), (10, .int (t k 4)), (11, .int (m_rear (t k)))] 66 [] := by
          skip
          refine V_aload hC dL_isSo_66 rfl rfl ?_
          refine V_iconst (v := 1) hC dL_isSo_68 (by decide) rfl ?_
          refine V_dup2 hC dL_isSo_69 rfl rfl rfl ?_
          refine V_iald (q0 := 32) hC dL_isSo_70 rfl 0 rfl (show (1 : Int32) = nI 1 from rfl) (by decide) (by decide) rfl ?_
          refine V_aload_n hC dL_isSo_71 rfl rfl rfl ?_
          refine V_iload hC dL_isSo_72 rfl rfl ?_
          refine V_bipush (v := 11) hC dL_isSo_74 (by decide) rfl ?_
          refine V_callIVf (q0 := 0) (n := 2) (pre := []) (suf := (S5 cI o z1 cl (upd f 0 (q_left t (k + 1))))) hC dL_isSo_76 (k_X3_ofTrain l D cI cZ cT c a b _ _ _ _ _ _ _ h.1 k c1 _ (by decide)) gL_isSo_X3_ofTrain rfl ⟨rfl, rfl⟩ (by decide +kernel) ⟨Nat.le_of_ble_eq_true rfl, Nat.le_of_ble_eq_true rfl⟩ ⟨Nat.le_of_ble_eq_true rfl, Nat.le_of_ble_eq_true rfl⟩ rfl rfl rfl rfl rfl (by exact Nat.le_of_ble_eq_true rfl) rfl (fun r_76 u_76 h_76 => ?_)
          subst h_76
          refine V_ws (ws' := (W5 cI cZ cT c a b t g t2 g2 o z1 cl (upd f 0 (q_left t (k + 1))))) rfl ?_
          rw [qt11]
          refine V_iadd hC dL_isSo_79 rfl ?_
          refine V_iast (q0 := 32) hC dL_isSo_80 rfl 0 rfl (show (1 : Int32) = nI 1 from rfl) (by decide) (by decide) W5_s rfl ?_
          refine V_aload hC dL_isSo_81 rfl rfl ?_
          refine V_iconst (v := 2) hC dL_isSo_83 (by decide) rfl ?_
          refine V_dup2 hC dL_isSo_84 rfl rfl rfl ?_
          refine V_iald (q0 := 32) hC dL_isSo_85 rfl 0 rfl (show (2 : Int32) = nI 2 from rfl) (by decide) (by decide) rfl ?_
          refine V_aload_n hC dL_isSo_86 rfl rfl rfl ?_
          refine V_iload hC dL_isSo_87 rfl rfl ?_
          refine V_bipush (v := 12) hC dL_isSo_89 (by decide) rfl ?_
          refine V_callIVf (q0 := 0) (n := 2) (pre := []) (suf := (S5 cI o z1 cl (upd (upd f 0 (q_left t (k + 1))) 1 ((upd f 0 (q_left t (k + 1))) 1 + t k 14)))) hC dL_isSo_91 (k_X3_ofTrain l D cI cZ cT c a b _ _ _ _ _ _ _ h.1 k c1 _ (by decide)) gL_isSo_X3_ofTrain rfl ⟨rfl, rfl⟩ (by decide +kernel) ⟨Nat.le_of_ble_eq_true rfl, Nat.le_of_ble_eq_true rfl⟩ ⟨Nat.le_of_ble_eq_true rfl, Nat.le_of_ble_eq_true rfl⟩ rfl rfl rfl rfl rfl (by exact Nat.le_of_ble_eq_true rfl) rfl (fun r_91 u_91 h_91 => ?_)
          subst h_91
          refine V_ws (ws' := (W5 cI cZ cT c a b t g t2 g2 o z1 cl (upd (upd f 0 (q_left t (k + 1))) 1 ((upd f 0 (q_left t (k + 1))) 1 + t k 14)))) rfl ?_
          rw [qt12]
          refine V_iadd hC dL_isSo_94 rfl ?_
          refine V_iast (q0 := 32) hC dL_isSo_95 rfl 0 rfl (show (2 : Int32) = nI 2 from rfl) (by decide) (by decide) W5_s rfl ?_
          refine V_aload hC dL_isSo_96 rfl rfl ?_
          refine V_iconst (v := 3) hC dL_isSo_98 (by decide) rfl ?_
          refine V_dup2 hC dL_isSo_99 rfl rfl rfl ?_
          refine V_iald (q0 := 32) hC dL_isSo_100 rfl 0 rfl (show (3 : Int32) = nI 3 from rfl) (by decide) (by decide) rfl ?_
          refine V_aload_n hC dL_isSo_101 rfl rfl rfl ?_
          refine V_iload hC dL_isSo_102 rfl rfl ?_
          refine V_bipush (v := 13) hC dL_isSo_104 (by decide) rfl ?_
          refine V_callIVf (q0 := 0) (n := 2) (pre := []) (suf := (S5 cI o z1 cl (upd (upd (upd f 0 (q_left t (k + 1))) 1 ((upd f 0 (q_left t (k + 1))) 1 + t k 14)) 2 ((upd (upd f 0 (q_left t (k + 1))) 1 ((upd f 0 (q_left t (k + 1))) 1 + t k 14)) 2 + t k 15)))) hC dL_isSo_106 (k_X3_ofTrain l D cI cZ cT c a b _ _ _ _ _ _ _ h.1 k c1 _ (by decide)) gL_isSo_X3_ofTrain rfl ⟨rfl, rfl⟩ (by decide +kernel) ⟨Nat.le_of_ble_eq_true rfl, Nat.le_of_ble_eq_true rfl⟩ ⟨Nat.le_of_ble_eq_true rfl, Nat.le_of_ble_eq_true rfl⟩ rfl rfl rfl rfl rfl (by exact Nat.le_of_ble_eq_true rfl) rfl (fun r_106 u_106 h_106 => ?_)
          subst h_106
          refine V_ws (ws' := (W5 cI cZ cT c a b t g t2 g2 o z1 cl (upd (upd (upd f 0 (q_left t (k + 1))) 1 ((upd f 0 (q_left t (k + 1))) 1 + t k 14)) 2 ((upd (upd f 0 (q_left t (k + 1))) 1 ((upd f 0 (q_left t (k + 1))) 1 + t k 14)) 2 + t k 15)))) rfl ?_
          rw [qt13]
          refine V_iadd hC dL_isSo_109 rfl ?_
          refine V_iast (q0 := 32) hC dL_isSo_110 rfl 0 rfl (show (3 : Int32) = nI 3 from rfl) (by decide) (by decide) W5_s rfl ?_
          have hf4 : (upd (upd (upd (upd f 0 (q_left t (k + 1))) 1 ((upd f 0 (q_left t (k + 1))) 1 + t k 14)) 2 ((upd (upd f 0 (q_left t (k + 1))) 1 ((upd f 0 (q_left t (k + 1))) 1 + t k 14)) 2 + t k 15)) 3 ((upd (upd (upd f 0 (q_left t (k + 1))) 1 ((upd f 0 (q_left t (k + 1))) 1 + t k 14)) 2 ((upd (upd f 0 (q_left t (k + 1))) 1 ((upd f 0 (q_left t (k + 1))) 1 + t k 14)) 2 + t k 15)) 3 + t k 16)) 0 = q_left t (k + 1) ∧ (upd (upd (upd (upd f 0 (q_left t (k + 1))) 1 ((upd f 0 (q_left t (k + 1))) 1 + t k 14)) 2 ((upd (upd f 0 (q_left t (k + 1))) 1 ((upd f 0 (q_left t (k + 1))) 1 + t k 14)) 2 + t k 15)) 3 ((upd (upd (upd f 0 (q_left t (k + 1))) 1 ((upd f 0 (q_left t (k + 1))) 1 + t k 14)) 2 ((upd (upd f 0 (q_left t (k + 1))) 1 ((upd f 0 (q_left t (k + 1))) 1 + t k 14)) 2 + t k 15)) 3 + t k 16)) 1 = m_tot t 6 (k + 1) ∧ (upd (upd (upd (upd f 0 (q_left t (k + 1))) 1 ((upd f 0 (q_left t (k + 1))) 1 + t k 14)) 2 ((upd (upd f 0 (q_left t (k + 1))) 1 ((upd f 0 (q_left t (k + 1))) 1 + t k 14)) 2 + t k 15)) 3 ((upd (upd (upd f 0 (q_left t (k + 1))) 1 ((upd f 0 (q_left t (k + 1))) 1 + t k 14)) 2 ((upd (upd f 0 (q_left t (k + 1))) 1 ((upd f 0 (q_left t (k + 1))) 1 + t k 14)) 2 + t k 15)) 3 + t k 16)) 2 = m_tot t 7 (k + 1) ∧ (upd (upd (upd (upd f 0 (q_left t (k + 1))) 1 ((upd f 0 (q_left t (k + 1))) 1 + t k 14)) 2 ((upd (upd f 0 (q_left t (k + 1))) 1 ((upd f 0 (q_left t (k + 1))) 1 + t k 14)) 2 + t k 15)) 3 ((upd (upd (upd f 0 (q_left t (k + 1))) 1 ((upd f 0 (q_left t (k + 1))) 1 + t k 14)) 2 ((upd (upd f 0 (q_left t (k + 1))) 1 ((upd f 0 (q_left t (k + 1))) 1 + t k 14)) 2 + t k 15)) 3 + t k 16)) 3 = m_tot t 8 (k + 1) := ⟨rfl, congrArg (· + t k 14) hf.2.1, congrArg (· + t k 15) hf.2.2.1, congrArg (· + t k 16) hf.2.2.2⟩
          revert hf4
          generalize upd (upd (upd (upd f 0 (q_left t (k + 1))) 1 ((upd f 0 (q_left t (k + 1))) 1 + t k 14)) 2 ((upd (upd f 0 (q_left t (k + 1))) 1 ((upd f 0 (q_left t (k + 1))) 1 + t k 14)) 2 + t k 15)) 3 ((upd (upd (upd f 0 (q_left t (k + 1))) 1 ((upd f 0 (q_left t (k + 1))) 1 + t k 14)) 2 ((upd (upd f 0 (q_left t (k + 1))) 1 ((upd f 0 (q_left t (k + 1))) 1 + t k 14)) 2 + t k 15)) 3 + t k 16) = f4
          intro hf4
          refine V_iload hC dL_isSo_111 rfl rfl ?_
          have join_127 : V X 1 5 (W5 cI cZ cT c a b t g t2 g2 o z1 cl f4) [(0, .ref c), (1, .int (nI nT)), (2, .int (nI nS)), (3, .int (nI nW)), (4, .ref o), (5, .ref z1), (6, .int (q_run t (k + 1))), (7, .int (m_speeds t k)), (8, .int (nI k)), (9, .int (stt (t k))), (10, .int (t k 4)), (11, .int (m_rear (t k)))] 127 [] := by
            skip
            refine V_iload hC dL_isSo_127 rfl rfl ?_
            refine V_aload_n hC dL_isSo_129 rfl rfl rfl ?_
            refine V_iload hC dL_isSo_130 rfl rfl ?_
            refine V_iconst (v := 2) hC dL_isSo_132 (by decide) rfl ?_
            refine V_callIVf (q0 := 0) (n := 2) (pre := []) (suf := (S5 cI o z1 cl f4)) hC dL_isSo_133 (k_X3_ofTrain l D cI cZ cT c a b _ _ _ _ _ _ _ h.1 k c1 _ (by decide)) gL_isSo_X3_ofTrain rfl ⟨rfl, rfl⟩ (by decide +kernel) ⟨Nat.le_of_ble_eq_true rfl, Nat.le_of_ble_eq_true rfl⟩ ⟨Nat.le_of_ble_eq_true rfl, Nat.le_of_ble_eq_true rfl⟩ rfl rfl rfl rfl rfl (by exact Nat.le_of_ble_eq_true rfl) rfl (fun r_133 u_133 h_133 => ?_)
            subst h_133
            refine V_ws (ws' := (W5 cI cZ cT c a b t g t2 g2 o z1 cl f4)) rfl ?_
            rw [qt2]
            refine V_iadd hC dL_isSo_136 rfl ?_
            refine V_istore hC dL_isSo_137 (Nat.le_of_ble_eq_true rfl) rfl ?_
            refine V_aload_n hC dL_isSo_139 rfl rfl rfl ?_
            refine V_iload hC dL_isSo_140 rfl rfl ?_
            refine V_bipush (v := 8) hC dL_isSo_142 (by decide) rfl ?_
            refine V_callIVf (q0 := 0) (n := 2) (pre := []) (suf := (S5 cI o z1 cl f4)) hC dL_isSo_144 (k_X3_ofTrain l D cI cZ cT c a b _ _ _ _ _ _ _ h.1 k c1 _ (by decide)) gL_isSo_X3_ofTrain rfl ⟨rfl, rfl⟩ (by decide +kernel) ⟨Nat.le_of_ble_eq_true rfl, Nat.le_of_ble_eq_true rfl⟩ ⟨Nat.le_of_ble_eq_true rfl, Nat.le_of_ble_eq_true rfl⟩ rfl rfl rfl rfl rfl (by exact Nat.le_of_ble_eq_true rfl) rfl (fun r_144 u_144 h_144 => ?_)
            subst h_144
            refine V_ws (ws' := (W5 cI cZ cT c a b t g t2 g2 o z1 cl f4)) rfl ?_
            rw [qt8]
            refine V_iload hC dL_isSo_147 rfl rfl ?_
            refine V_icmp_gt (tgt := 229) hC dL_isSo_149 (by decide) rfl (fun c_149 => ?_) (fun c_149 => ?_)
            · exact absurd c_149 a1
            · refine V_aload_n hC dL_isSo_152 rfl rfl rfl ?_
              refine V_iload hC dL_isSo_153 rfl rfl ?_
              refine V_bipush (v := 9) hC dL_isSo_155 (by decide) rfl ?_
              refine V_callIVf (q0 := 0) (n := 2) (pre := []) (suf := (S5 cI o z1 cl f4)) hC dL_isSo_157 (k_X3_ofTrain l D cI cZ cT c a b _ _ _ _ _ _ _ h.1 k c1 _ (by decide)) gL_isSo_X3_ofTrain rfl ⟨rfl, rfl⟩ (by decide +kernel) ⟨Nat.le_of_ble_eq_true rfl, Nat.le_of_ble_eq_true rfl⟩ ⟨Nat.le_of_ble_eq_true rfl, Nat.le_of_ble_eq_true rfl⟩ rfl rfl rfl rfl rfl (by exact Nat.le_of_ble_eq_true rfl) rfl (fun r_157 u_157 h_157 => ?_)
              subst h_157
              refine V_ws (ws' := (W5 cI cZ cT c a b t g t2 g2 o z1 cl f4)) rfl ?_
              rw [qt9]
              refine V_iload hC dL_isSo_160 rfl rfl ?_
              refine V_icmp_gt (tgt := 229) hC dL_isSo_162 (by decide) rfl (fun c_162 => ?_) (fun c_162 => ?_)
              · exact absurd c_162 a2
              · refine V_iload hC dL_isSo_165 rfl rfl ?_
                refine V_if_lt (tgt := 229) hC dL_isSo_167 (by decide) rfl (fun c_167 => ?_) (fun c_167 => ?_)
                · exact absurd c_167 a3
                · refine V_iload hC dL_isSo_170 rfl rfl ?_
                  refine V_iload hC dL_isSo_172 rfl rfl ?_
                  refine V_icmp_gt (tgt := 229) hC dL_isSo_174 (by decide) rfl (fun c_174 => ?_) (fun c_174 => ?_)
                  · exact absurd c_174 a4
                  · refine V_aload_n hC dL_isSo_177 rfl rfl rfl ?_
                    refine V_iload hC dL_isSo_178 rfl rfl ?_
                    refine V_iconst (v := 2) hC dL_isSo_180 (by decide) rfl ?_
                    refine V_callIVf (q0 := 0) (n := 2) (pre := []) (suf := (S5 cI o z1 cl f4)) hC dL_isSo_181 (k_X3_ofTrain l D cI cZ cT c a b _ _ _ _ _ _ _ h.1 k c1 _ (by decide)) gL_isSo_X3_ofTrain rfl ⟨rfl, rfl⟩ (by decide +kernel) ⟨Nat.le_of_ble_eq_true rfl, Nat.le_of_ble_eq_true rfl⟩ ⟨Nat.le_of_ble_eq_true rfl, Nat.le_of_ble_eq_true rfl⟩ rfl rfl rfl rfl rfl (by exact Nat.le_of_ble_eq_true rfl) rfl (fun r_181 u_181 h_181 => ?_)
                    subst h_181
                    refine V_ws (ws' := (W5 cI cZ cT c a b t g t2 g2 o z1 cl f4)) rfl ?_
                    rw [qt2]
                    refine V_if_lt (tgt := 229) hC dL_isSo_184 (by decide) rfl (fun c_184 => ?_) (fun c_184 => ?_)
                    · exact absurd c_184 a5
                    · refine V_aload_n hC dL_isSo_187 rfl rfl rfl ?_
                      refine V_iload hC dL_isSo_188 rfl rfl ?_
                      refine V_iconst (v := 2) hC dL_isSo_190 (by decide) rfl ?_
                      refine V_callIVf (q0 := 0) (n := 2) (pre := []) (suf := (S5 cI o z1 cl f4)) hC dL_isSo_191 (k_X3_ofTrain l D cI cZ cT c a b _ _ _ _ _ _ _ h.1 k c1 _ (by decide)) gL_isSo_X3_ofTrain rfl ⟨rfl, rfl⟩ (by decide +kernel) ⟨Nat.le_of_ble_eq_true rfl, Nat.le_of_ble_eq_true rfl⟩ ⟨Nat.le_of_ble_eq_true rfl, Nat.le_of_ble_eq_true rfl⟩ rfl rfl rfl rfl rfl (by exact Nat.le_of_ble_eq_true rfl) rfl (fun r_191 u_191 h_191 => ?_)
                      subst h_191
                      refine V_ws (ws' := (W5 cI cZ cT c a b t g t2 g2 o z1 cl f4)) rfl ?_
                      rw [qt2]
                      refine V_bipush (v := 40) hC dL_isSo_194 (by decide) rfl ?_
                      refine V_icmp_gt (tgt := 229) hC dL_isSo_196 (by decide) rfl (fun c_196 => ?_) (fun c_196 => ?_)
                      · exact absurd c_196 a6
                      · have join_231 : V X 1 5 (W5 cI cZ cT c a b t g t2 g2 o z1 cl f4) [(0, .ref c), (1, .int (nI nT)), (2, .int (nI nS)), (3, .int (nI nW)), (4, .ref o), (5, .ref z1), (6, .int (q_run t (k + 1))), (7, .int (m_speeds t (k + 1))), (8, .int (nI k)), (9, .int (stt (t k))), (10, .int (t k 4)), (11, .int (m_rear (t k)))] 231 [] := by
                          skip
                          refine V_iload hC dL_isSo_231 rfl rfl ?_
                          have join_281 : V X 1 5 (W5 cI cZ cT c a b t g t2 g2 o z1 cl f4) [(0, .ref c), (1, .int (nI nT)), (2, .int (nI nS)), (3, .int (nI nW)), (4, .ref o), (5, .ref z1), (6, .int (q_run t (k + 1))), (7, .int (m_speeds t (k + 1))), (8, .int (nI k)), (9, .int (stt (t k))), (10, .int (t k 4)), (11, .int (m_rear (t k)))] 281 [] := by
                            skip
                            refine V_aload_n hC dL_isSo_281 rfl rfl rfl ?_
                            refine V_iload hC dL_isSo_282 rfl rfl ?_
                            refine V_callIVf (q0 := 0) (n := 1) (pre := []) (suf := (S5 cI o z1 cl f4)) hC dL_isSo_284 (k_X3_may l D cI cZ cT c a b _ _ _ _ _ _ _ h.1 k c1) gL_isSo_X3_may rfl ⟨rfl, rfl⟩ (by decide +kernel) ⟨Nat.le_of_ble_eq_true rfl, Nat.le_of_ble_eq_true rfl⟩ ⟨Nat.le_of_ble_eq_true rfl, Nat.le_of_ble_eq_true rfl⟩ rfl rfl rfl rfl rfl (by exact Nat.le_of_ble_eq_true rfl) rfl (fun r_284 u_284 h_284 => ?_)
                            subst h_284
                            refine V_ws (ws' := (W5 cI cZ cT c a b t g t2 g2 o z1 cl f4)) rfl ?_
                            refine V_if_lt (tgt := 330) hC dL_isSo_287 (by decide) rfl (fun c_287 => ?_) (fun c_287 => ?_)
                            · exact absurd c_287 b1
                            · refine V_aload_n hC dL_isSo_290 rfl rfl rfl ?_
                              refine V_iload hC dL_isSo_291 rfl rfl ?_
                              refine V_callIVf (q0 := 0) (n := 1) (pre := []) (suf := (S5 cI o z1 cl f4)) hC dL_isSo_293 (k_X3_may l D cI cZ cT c a b _ _ _ _ _ _ _ h.1 k c1) gL_isSo_X3_may rfl ⟨rfl, rfl⟩ (by decide +kernel) ⟨Nat.le_of_ble_eq_true rfl, Nat.le_of_ble_eq_true rfl⟩ ⟨Nat.le_of_ble_eq_true rfl, Nat.le_of_ble_eq_true rfl⟩ rfl rfl rfl rfl rfl (by exact Nat.le_of_ble_eq_true rfl) rfl (fun r_293 u_293 h_293 => ?_)
                              subst h_293
                              refine V_ws (ws' := (W5 cI cZ cT c a b t g t2 g2 o z1 cl f4)) rfl ?_
                              refine V_bipush (v := 40) hC dL_isSo_296 (by decide) rfl ?_
                              refine V_icmp_gt (tgt := 330) hC dL_isSo_298 (by decide) rfl (fun c_298 => ?_) (fun c_298 => ?_)
                              · exact absurd c_298 b2
                              · refine V_aload_n hC dL_isSo_301 rfl rfl rfl ?_
                                refine V_iload hC dL_isSo_302 rfl rfl ?_
                                refine V_aload_n hC dL_isSo_304 rfl rfl rfl ?_
                                refine V_iload hC dL_isSo_305 rfl rfl ?_
                                refine V_callIVf (q0 := 0) (n := 1) (pre := []) (suf := (S5 cI o z1 cl f4)) hC dL_isSo_307 (k_X3_may l D cI cZ cT c a b _ _ _ _ _ _ _ h.1 k c1) gL_isSo_X3_may rfl ⟨rfl, rfl⟩ (by decide +kernel) ⟨Nat.le_of_ble_eq_true rfl, Nat.le_of_ble_eq_true rfl⟩ ⟨Nat.le_of_ble_eq_true rfl, Nat.le_of_ble_eq_true rfl⟩ rfl rfl rfl rfl rfl (by exact Nat.le_of_ble_eq_true rfl) rfl (fun r_307 u_307 h_307 => ?_)
                                subst h_307
                                refine V_ws (ws' := (W5 cI cZ cT c a b t g t2 g2 o z1 cl f4)) rfl ?_
                                refine V_callIVf (q0 := 0) (n := 2) (pre := []) (suf := (S5 cI o z1 cl f4)) hC dL_isSo_310 (k_X3_stops l D cI cZ cT c a b _ _ _ _ _ _ _ h.1 k c1 _ b3) gL_isSo_X3_stops rfl ⟨rfl, rfl⟩ (by decide +kernel) ⟨Nat.le_of_ble_eq_true rfl, Nat.le_of_ble_eq_true rfl⟩ ⟨Nat.le_of_ble_eq_true rfl, Nat.le_of_ble_eq_true rfl⟩ rfl rfl rfl rfl rfl (by exact Nat.le_of_ble_eq_true rfl) rfl (fun r_310 u_310 h_310 => ?_)
                                subst h_310
                                refine V_ws (ws' := (W5 cI cZ cT c a b t g t2 g2 o z1 cl f4)) rfl ?_
                                refine V_iconst (v := 0) hC dL_isSo_313 (by decide) rfl ?_
                                refine V_aload_n hC dL_isSo_314 rfl rfl rfl ?_
                                refine V_iload hC dL_isSo_315 rfl rfl ?_
                                refine V_iconst (v := 3) hC dL_isSo_317 (by decide) rfl ?_
                                refine V_callIVf (q0 := 0) (n := 2) (pre := []) (suf := (S5 cI o z1 cl f4)) hC dL_isSo_318 (k_X3_ofTrain l D cI cZ cT c a b _ _ _ _ _ _ _ h.1 k c1 _ (by decide)) gL_isSo_X3_ofTrain rfl ⟨rfl, rfl⟩ (by decide +kernel) ⟨Nat.le_of_ble_eq_true rfl, Nat.le_of_ble_eq_true rfl⟩ ⟨Nat.le_of_ble_eq_true rfl, Nat.le_of_ble_eq_true rfl⟩ rfl rfl rfl rfl rfl (by exact Nat.le_of_ble_eq_true rfl) rfl (fun r_318 u_318 h_318 => ?_)
                                subst h_318
                                refine V_ws (ws' := (W5 cI cZ cT c a b t g t2 g2 o z1 cl f4)) rfl ?_
                                rw [qt3]
                                refine V_iload hC dL_isSo_321 rfl rfl ?_
                                refine V_isub hC dL_isSo_323 rfl ?_
                                refine V_mmax hC dL_isSo_324 ml81_L_isSo msmax_L_isSo mi_L_isSo mcmax_L_isSo (Nat.le_of_ble_eq_true rfl) (Nat.le_of_ble_eq_true rfl) (Nat.le_of_ble_eq_true rfl) (Nat.le_of_ble_eq_true rfl) rfl ?_
                                refine V_icmp_le (tgt := 332) hC dL_isSo_327 (by decide) rfl (fun c_327 => ?_) (fun c_327 => ?_)
                                · have join_367 : V X 1 5 (W5 cI cZ cT c a b t g t2 g2 o z1 cl f4) [(0, .ref c), (1, .int (nI nT)), (2, .int (nI nS)), (3, .int (nI nW)), (4, .ref o), (5, .ref z1), (6, .int (q_run t (k + 1))), (7, .int (m_speeds t (k + 1))), (8, .int (nI k)), (9, .int (stt (t k))), (10, .int (t k 4)), (11, .int (m_rear (t k)))] 367 [] := by
                                    skip
                                    refine V_aload_n hC dL_isSo_367 rfl rfl rfl ?_
                                    refine V_iload hC dL_isSo_368 rfl rfl ?_
                                    refine V_bipush (v := 13) hC dL_isSo_370 (by decide) rfl ?_
                                    refine V_callIVf (q0 := 0) (n := 2) (pre := []) (suf := (S5 cI o z1 cl f4)) hC dL_isSo_372 (k_X3_ofTrain l D cI cZ cT c a b _ _ _ _ _ _ _ h.1 k c1 _ (by decide)) gL_isSo_X3_ofTrain rfl ⟨rfl, rfl⟩ (by decide +kernel) ⟨Nat.le_of_ble_eq_true rfl, Nat.le_of_ble_eq_true rfl⟩ ⟨Nat.le_of_ble_eq_true rfl, Nat.le_of_ble_eq_true rfl⟩ rfl rfl rfl rfl rfl (by exact Nat.le_of_ble_eq_true rfl) rfl (fun r_372 u_372 h_372 => ?_)
                                    subst h_372
                                    refine V_ws (ws' := (W5 cI cZ cT c a b t g t2 g2 o z1 cl f4)) rfl ?_
                                    rw [qt13]
                                    refine V_aload hC dL_isSo_375 rfl rfl ?_
                                    refine V_iload hC dL_isSo_377 rfl rfl ?_
                                    refine V_iald (q0 := 31) hC dL_isSo_379 rfl 0 rfl rfl k4 (by decide) rfl ?_
                                    refine V_icmp_le (tgt := 385) hC dL_isSo_380 (by decide) rfl (fun c_380 => ?_) (fun c_380 => ?_)
                                    · refine V_aload_n hC dL_isSo_385 rfl rfl rfl ?_
                                      refine V_iload hC dL_isSo_386 rfl rfl ?_
                                      refine V_bipush (v := 15) hC dL_isSo_388 (by decide) rfl ?_
                                      refine V_callIVf (q0 := 0) (n := 2) (pre := []) (suf := (S5 cI o z1 cl f4)) hC dL_isSo_390 (k_X3_ofTrain l D cI cZ cT c a b _ _ _ _ _ _ _ h.1 k c1 _ (by decide)) gL_isSo_X3_ofTrain rfl ⟨rfl, rfl⟩ (by decide +kernel) ⟨Nat.le_of_ble_eq_true rfl, Nat.le_of_ble_eq_true rfl⟩ ⟨Nat.le_of_ble_eq_true rfl, Nat.le_of_ble_eq_true rfl⟩ rfl rfl rfl rfl rfl (by exact Nat.le_of_ble_eq_true rfl) rfl (fun r_390 u_390 h_390 => ?_)
                                      subst h_390
                                      refine V_ws (ws' := (W5 cI cZ cT c a b t g t2 g2 o z1 cl f4)) rfl ?_
                                      rw [qt15]
                                      refine V_istore hC dL_isSo_393 (Nat.le_of_ble_eq_true rfl) rfl ?_
                                      have join_427 : V X 1 5 (W5 cI cZ cT c a b t g t2 g2 o z1 cl f4) [(0, .ref c), (1, .int (nI nT)), (2, .int (nI nS)), (3, .int (nI nW)), (4, .ref o), (5, .ref z1), (6, .int (q_run t (k + 1))), (7, .int (m_speeds t (k + 1))), (8, .int (nI k)), (9, .int (stt (t k))), (10, .int (t k 4)), (11, .int (m_rear (t k))), (13, .int (nxI (m_ahead t k)))] 427 [] := by
                                        skip
                                        refine V_iload hC dL_isSo_427 rfl rfl ?_
                                        refine V_if_lt (tgt := 462) hC dL_isSo_429 (by decide) rfl (fun c_429 => ?_) (fun c_429 => ?_)
                                        · refine V_iinc hC dL_isSo_462 rfl (nI_1 k) (Nat.le_of_ble_eq_true rfl) rfl ?_
                                          refine V_goto (tgt := 14) hC dL_isSo_465 (by decide) ?_
                                          refine V_to (ih_1 (k + 1) _ (by omega) (by omega) hf4) (lc rfl (lc rfl (lc rfl (lc rfl (lc rfl (lc rfl (lc rfl (lc rfl (lc rfl ln)))))))))
                                        · obtain ⟨j, hj, hj1⟩ := nx_nn c_429
                                          obtain ⟨hjk, hj9⟩ := ah_some hj
                                          have hjT : j < nT := by omega
                                          rw [hj1]
                                          refine V_iload hC dL_isSo_432 rfl rfl ?_
                                          refine V_if_ne (tgt := 462) hC dL_isSo_434 (by decide) rfl (fun c_434 => ?_) (fun c_434 => ?_)
                                          · refine V_iinc hC dL_isSo_462 rfl (nI_1 k) (Nat.le_of_ble_eq_true rfl) rfl ?_
                                            refine V_goto (tgt := 14) hC dL_isSo_465 (by decide) ?_
                                            refine V_to (ih_1 (k + 1) _ (by omega) (by omega) hf4) (lc rfl (lc rfl (lc rfl (lc rfl (lc rfl (lc rfl (lc rfl (lc rfl (lc rfl ln)))))))))
                                          · refine V_aload_n hC dL_isSo_437 rfl rfl rfl ?_
                                            refine V_iload hC dL_isSo_438 rfl rfl ?_
                                            refine V_bipush (v := 7) hC dL_isSo_440 (by decide) rfl ?_
                                            refine V_callIVf (q0 := 0) (n := 2) (pre := []) (suf := (S5 cI o z1 cl f4)) hC dL_isSo_442 (k_X3_ofTrain l D cI cZ cT c a b _ _ _ _ _ _ _ h.1 j hjT _ (by decide)) gL_isSo_X3_ofTrain rfl ⟨rfl, rfl⟩ (by decide +kernel) ⟨Nat.le_of_ble_eq_true rfl, Nat.le_of_ble_eq_true rfl⟩ ⟨Nat.le_of_ble_eq_true rfl, Nat.le_of_ble_eq_true rfl⟩ rfl rfl rfl rfl rfl (by exact Nat.le_of_ble_eq_true rfl) rfl (fun r_442 u_442 h_442 => ?_)
                                            subst h_442
                                            refine V_ws (ws' := (W5 cI cZ cT c a b t g t2 g2 o z1 cl f4)) rfl ?_
                                            rw [qt7]
                                            refine V_if_ne (tgt := 462) hC dL_isSo_445 (by decide) rfl (fun c_445 => ?_) (fun c_445 => ?_)
                                            · refine V_iinc hC dL_isSo_462 rfl (nI_1 k) (Nat.le_of_ble_eq_true rfl) rfl ?_
                                              refine V_goto (tgt := 14) hC dL_isSo_465 (by decide) ?_
                                              refine V_to (ih_1 (k + 1) _ (by omega) (by omega) hf4) (lc rfl (lc rfl (lc rfl (lc rfl (lc rfl (lc rfl (lc rfl (lc rfl (lc rfl ln)))))))))
                                            · have hlt : t k 4 < m_rear (t j) := by
                                                subst hjk
                                                exact so_gap (hTI _ hjT) (hTI _ c1) (hgap j c1 ((stt_0 (hTI _ hjT).b9).mp c_445) ((stt_0 (hTI _ c1).b9).mp c_434))
                                              refine V_aload_n hC dL_isSo_448 rfl rfl rfl ?_
                                              refine V_iload hC dL_isSo_449 rfl rfl ?_
                                              refine V_iconst (v := 1) hC dL_isSo_451 (by decide) rfl ?_
                                              refine V_callIVf (q0 := 0) (n := 2) (pre := []) (suf := (S5 cI o z1 cl f4)) hC dL_isSo_452 (k_X3_ofTrain l D cI cZ cT c a b _ _ _ _ _ _ _ h.1 j hjT _ (by decide)) gL_isSo_X3_ofTrain rfl ⟨rfl, rfl⟩ (by decide +kernel) ⟨Nat.le_of_ble_eq_true rfl, Nat.le_of_ble_eq_true rfl⟩ ⟨Nat.le_of_ble_eq_true rfl, Nat.le_of_ble_eq_true rfl⟩ rfl rfl rfl rfl rfl (by exact Nat.le_of_ble_eq_true rfl) rfl (fun r_452 u_452 h_452 => ?_)
                                              subst h_452
                                              refine V_ws (ws' := (W5 cI cZ cT c a b t g t2 g2 o z1 cl f4)) rfl ?_
                                              rw [qt1]
                                              refine V_iload hC dL_isSo_455 rfl rfl ?_
                                              refine V_icmp_gt (tgt := 462) hC dL_isSo_457 (by decide) rfl (fun c_457 => ?_) (fun c_457 => ?_)
                                              · refine V_iinc hC dL_isSo_462 rfl (nI_1 k) (Nat.le_of_ble_eq_true rfl) rfl ?_
                                                refine V_goto (tgt := 14) hC dL_isSo_465 (by decide) ?_
                                                refine V_to (ih_1 (k + 1) _ (by omega) (by omega) hf4) (lc rfl (lc rfl (lc rfl (lc rfl (lc rfl (lc rfl (lc rfl (lc rfl (lc rfl ln)))))))))
                                              · exact absurd hlt c_457
                                      refine V_iload hC dL_isSo_395 rfl rfl ?_
                                      refine V_iload hC dL_isSo_397 rfl rfl ?_
                                      refine V_if_le (tgt := 423) hC dL_isSo_399 (by decide) rfl (fun c_399 => ?_) (fun c_399 => ?_)
                                      · refine V_iconst (v := (-1)) hC dL_isSo_423 (by decide) rfl ?_
                                        refine V_icmp_ne (tgt := 460) hC dL_isSo_424 (by decide) rfl (fun c_424 => ?_) (fun c_424 => ?_)
                                        · first | exact absurd (hah.trans (if_neg (fun z => absurd z.1 (by have := nI_le0 (by omega) c_399; omega)))) c_424 | exact absurd (hah.trans (if_neg (fun z => z.2 c_413))) c_424 | exact absurd ((hah.trans (if_pos ⟨hk0, c_413⟩)).trans (nI_pred' hk0).symm) c_424
                                        · exact V_to join_427 (lc rfl (lc rfl (lc rfl (lc rfl (lc rfl (lc rfl (lc rfl (lc rfl (lc rfl (lc rfl (lc rfl (lc rfl (lc rfl ln)))))))))))))
                                      · have hk0 : 0 < k := Nat.pos_of_ne_zero (fun z => c_399 (by rw [z]; decide))
                                        have hk1 : k - 1 < nT := by omega
                                        refine V_aload_n hC dL_isSo_402 rfl rfl rfl ?_
                                        refine V_iload hC dL_isSo_403 rfl rfl ?_
                                        refine V_iconst (v := 1) hC dL_isSo_405 (by decide) rfl ?_
                                        refine V_isub hC dL_isSo_406 rfl ?_
                                        rw [nI_pred' hk0]
                                        refine V_bipush (v := 7) hC dL_isSo_407 (by decide) rfl ?_
                                        refine V_callIVf (q0 := 0) (n := 2) (pre := []) (suf := (S5 cI o z1 cl f4)) hC dL_isSo_409 (k_X3_ofTrain l D cI cZ cT c a b _ _ _ _ _ _ _ h.1 (k - 1) hk1 _ (by decide)) gL_isSo_X3_ofTrain rfl ⟨rfl, rfl⟩ (by decide +kernel) ⟨Nat.le_of_ble_eq_true rfl, Nat.le_of_ble_eq_true rfl⟩ ⟨Nat.le_of_ble_eq_true rfl, Nat.le_of_ble_eq_true rfl⟩ rfl rfl rfl rfl rfl (by exact Nat.le_of_ble_eq_true rfl) rfl (fun r_409 u_409 h_409 => ?_)
                                        subst h_409
                                        refine V_ws (ws' := (W5 cI cZ cT c a b t g t2 g2 o z1 cl f4)) rfl ?_
                                        rw [qt7]
                                        refine V_iconst (v := 1) hC dL_isSo_412 (by decide) rfl ?_
                                        refine V_icmp_eq (tgt := 423) hC dL_isSo_413 (by decide) rfl (fun c_413 => ?_) (fun c_413 => ?_)
                                        · refine V_iconst (v := (-1)) hC dL_isSo_423 (by decide) rfl ?_
                                          refine V_icmp_ne (tgt := 460) hC dL_isSo_424 (by decide) rfl (fun c_424 => ?_) (fun c_424 => ?_)
                                          · first | exact absurd (hah.trans (if_neg (fun z => absurd z.1 (by have := nI_le0 (by omega) c_399; omega)))) c_424 | exact absurd (hah.trans (if_neg (fun z => z.2 c_413))) c_424 | exact absurd ((hah.trans (if_pos ⟨hk0, c_413⟩)).trans (nI_pred' hk0).symm) c_424
                                          · exact V_to join_427 (lc rfl (lc rfl (lc rfl (lc rfl (lc rfl (lc rfl (lc rfl (lc rfl (lc rfl (lc rfl (lc rfl (lc rfl (lc rfl ln)))))))))))))
                                        · refine V_iload hC dL_isSo_416 rfl rfl ?_
                                          refine V_iconst (v := 1) hC dL_isSo_418 (by decide) rfl ?_
                                          refine V_isub hC dL_isSo_419 rfl ?_
                                          refine V_goto (tgt := 424) hC dL_isSo_420 (by decide) ?_
                                          refine V_icmp_ne (tgt := 460) hC dL_isSo_424 (by decide) rfl (fun c_424 => ?_) (fun c_424 => ?_)
                                          · first | exact absurd (hah.trans (if_neg (fun z => absurd z.1 (by have := nI_le0 (by omega) c_399; omega)))) c_424 | exact absurd (hah.trans (if_neg (fun z => z.2 c_413))) c_424 | exact absurd ((hah.trans (if_pos ⟨hk0, c_413⟩)).trans (nI_pred' hk0).symm) c_424
                                          · exact V_to join_427 (lc rfl (lc rfl (lc rfl (lc rfl (lc rfl (lc rfl (lc rfl (lc rfl (lc rfl (lc rfl (lc rfl (lc rfl (lc rfl ln)))))))))))))
                                    · exact absurd (so_miss (hBI k c1)) c_380
                                  refine V_aload_n hC dL_isSo_332 rfl rfl rfl ?_
                                  refine V_iload hC dL_isSo_333 rfl rfl ?_
                                  refine V_bipush (v := 6) hC dL_isSo_335 (by decide) rfl ?_
                                  refine V_callIVf (q0 := 0) (n := 2) (pre := []) (suf := (S5 cI o z1 cl f4)) hC dL_isSo_337 (k_X3_ofTrain l D cI cZ cT c a b _ _ _ _ _ _ _ h.1 k c1 _ (by decide)) gL_isSo_X3_ofTrain rfl ⟨rfl, rfl⟩ (by decide +kernel) ⟨Nat.le_of_ble_eq_true rfl, Nat.le_of_ble_eq_true rfl⟩ ⟨Nat.le_of_ble_eq_true rfl, Nat.le_of_ble_eq_true rfl⟩ rfl rfl rfl rfl rfl (by exact Nat.le_of_ble_eq_true rfl) rfl (fun r_337 u_337 h_337 => ?_)
                                  subst h_337
                                  refine V_ws (ws' := (W5 cI cZ cT c a b t g t2 g2 o z1 cl f4)) rfl ?_
                                  rw [qt6]
                                  refine V_istore hC dL_isSo_340 (Nat.le_of_ble_eq_true rfl) rfl ?_
                                  refine V_iload hC dL_isSo_342 rfl rfl ?_
                                  refine V_if_lt (tgt := 367) hC dL_isSo_344 (by decide) rfl (fun c_344 => ?_) (fun c_344 => ?_)
                                  · exact V_to join_367 (lc rfl (lc rfl (lc rfl (lc rfl (lc rfl (lc rfl (lc rfl (lc rfl (lc rfl (lc rfl (lc rfl (lc rfl ln))))))))))))
                                  · obtain ⟨j, hj, hj1⟩ := nx_nn c_344
                                    rw [hj1]
                                    obtain ⟨hjS, hj2, hj3⟩ := so_next nS4 (hBI k c1) hj
                                    refine V_aload_n hC dL_isSo_347 rfl rfl rfl ?_
                                    refine V_iload hC dL_isSo_348 rfl rfl ?_
                                    refine V_iconst (v := 0) hC dL_isSo_350 (by decide) rfl ?_
                                    refine V_callIVf (q0 := 0) (n := 2) (pre := []) (suf := (S5 cI o z1 cl f4)) hC dL_isSo_351 (k_X3_ofStation l D cI cZ cT c a b _ _ _ _ _ _ _ h.1 j hjS _ (Or.inl rfl)) gL_isSo_X3_ofStation rfl ⟨rfl, rfl⟩ (by decide +kernel) ⟨Nat.le_of_ble_eq_true rfl, Nat.le_of_ble_eq_true rfl⟩ ⟨Nat.le_of_ble_eq_true rfl, Nat.le_of_ble_eq_true rfl⟩ rfl rfl rfl rfl rfl (by exact Nat.le_of_ble_eq_true rfl) rfl (fun r_351 u_351 h_351 => ?_)
                                    subst h_351
                                    refine V_ws (ws' := (W5 cI cZ cT c a b t g t2 g2 o z1 cl f4)) rfl ?_
                                    rw [show q_stn g j 0 = g 3 j from rfl]
                                    refine V_iload hC dL_isSo_354 rfl rfl ?_
                                    refine V_icmp_lt (tgt := 383) hC dL_isSo_356 (by decide) rfl (fun c_356 => ?_) (fun c_356 => ?_)
                                    · exact absurd c_356 hj2
                                    · refine V_aload hC dL_isSo_359 rfl rfl ?_
                                      refine V_iload hC dL_isSo_361 rfl rfl ?_
                                      refine V_iald (q0 := 31) hC dL_isSo_363 rfl 0 rfl rfl k4 (by decide) rfl ?_
                                      refine V_if_eq (tgt := 383) hC dL_isSo_364 (by decide) rfl (fun c_364 => ?_) (fun c_364 => ?_)
                                      · exact absurd c_364 hj3
                                      · exact V_to join_367 (lc rfl (lc rfl (lc rfl (lc rfl (lc rfl (lc rfl (lc rfl (lc rfl (lc rfl (lc rfl (lc rfl (lc rfl ln))))))))))))
                                · exact absurd b4 c_327
                          refine V_iconst (v := 1) hC dL_isSo_233 (by decide) rfl ?_
                          refine V_icmp_ne (tgt := 241) hC dL_isSo_234 (by decide) rfl (fun c_234 => ?_) (fun c_234 => ?_)
                          · refine V_iconst (v := 0) hC dL_isSo_241 (by decide) rfl ?_
                            refine V_iload hC dL_isSo_242 rfl rfl ?_
                            refine V_sipush (v := 2999) hC dL_isSo_244 (by decide) rfl ?_
                            refine V_icmp_le (tgt := 254) hC dL_isSo_247 (by decide) rfl (fun c_247 => ?_) (fun c_247 => ?_)
                            · refine V_iconst (v := 0) hC dL_isSo_254 (by decide) rfl ?_
                              refine V_icmp_ne (tgt := 330) hC dL_isSo_255 (by decide) rfl (fun c => absurd c (by decide)) (fun _ => ?_)
                              refine V_aload_n hC dL_isSo_258 rfl rfl rfl ?_
                              refine V_iload hC dL_isSo_259 rfl rfl ?_
                              refine V_bipush (v := 12) hC dL_isSo_261 (by decide) rfl ?_
                              refine V_callIVf (q0 := 0) (n := 2) (pre := []) (suf := (S5 cI o z1 cl f4)) hC dL_isSo_263 (k_X3_ofTrain l D cI cZ cT c a b _ _ _ _ _ _ _ h.1 k c1 _ (by decide)) gL_isSo_X3_ofTrain rfl ⟨rfl, rfl⟩ (by decide +kernel) ⟨Nat.le_of_ble_eq_true rfl, Nat.le_of_ble_eq_true rfl⟩ ⟨Nat.le_of_ble_eq_true rfl, Nat.le_of_ble_eq_true rfl⟩ rfl rfl rfl rfl rfl (by exact Nat.le_of_ble_eq_true rfl) rfl (fun r_263 u_263 h_263 => ?_)
                              subst h_263
                              refine V_ws (ws' := (W5 cI cZ cT c a b t g t2 g2 o z1 cl f4)) rfl ?_
                              rw [qt12]
                              refine V_if_ne (tgt := 281) hC dL_isSo_266 (by decide) rfl (fun c_266 => ?_) (fun c_266 => ?_)
                              · exact V_to join_281 (lc rfl (lc rfl (lc rfl (lc rfl (lc rfl (lc rfl (lc rfl (lc rfl (lc rfl (lc rfl (lc rfl (lc rfl ln))))))))))))
                              · refine V_iload hC dL_isSo_269 rfl rfl ?_
                                refine V_aload_n hC dL_isSo_271 rfl rfl rfl ?_
                                refine V_iload hC dL_isSo_272 rfl rfl ?_
                                refine V_iconst (v := 3) hC dL_isSo_274 (by decide) rfl ?_
                                refine V_callIVf (q0 := 0) (n := 2) (pre := []) (suf := (S5 cI o z1 cl f4)) hC dL_isSo_275 (k_X3_ofTrain l D cI cZ cT c a b _ _ _ _ _ _ _ h.1 k c1 _ (by decide)) gL_isSo_X3_ofTrain rfl ⟨rfl, rfl⟩ (by decide +kernel) ⟨Nat.le_of_ble_eq_true rfl, Nat.le_of_ble_eq_true rfl⟩ ⟨Nat.le_of_ble_eq_true rfl, Nat.le_of_ble_eq_true rfl⟩ rfl rfl rfl rfl rfl (by exact Nat.le_of_ble_eq_true rfl) rfl (fun r_275 u_275 h_275 => ?_)
                                subst h_275
                                refine V_ws (ws' := (W5 cI cZ cT c a b t g t2 g2 o z1 cl f4)) rfl ?_
                                rw [qt3]
                                refine V_icmp_gt (tgt := 330) hC dL_isSo_278 (by decide) rfl (fun c_278 => ?_) (fun c_278 => ?_)
                                · exact absurd c_278 (a11 c_266)
                                · exact V_to join_281 (lc rfl (lc rfl (lc rfl (lc rfl (lc rfl (lc rfl (lc rfl (lc rfl (lc rfl (lc rfl (lc rfl (lc rfl ln))))))))))))
                            · exact absurd (a10 c_234) c_247
                          · refine V_iconst (v := 1) hC dL_isSo_237 (by decide) rfl ?_
                            refine V_goto (tgt := 242) hC dL_isSo_238 (by decide) ?_
                            refine V_iload hC dL_isSo_242 rfl rfl ?_
                            refine V_sipush (v := 2999) hC dL_isSo_244 (by decide) rfl ?_
                            refine V_icmp_le (tgt := 254) hC dL_isSo_247 (by decide) rfl (fun c_247 => ?_) (fun c_247 => ?_)
                            · exact absurd c_247 (a9 c_234)
                            · refine V_iconst (v := 1) hC dL_isSo_250 (by decide) rfl ?_
                              refine V_goto (tgt := 255) hC dL_isSo_251 (by decide) ?_
                              refine V_icmp_ne (tgt := 330) hC dL_isSo_255 (by decide) rfl (fun c => absurd c (by decide)) (fun _ => ?_)
                              refine V_aload_n hC dL_isSo_258 rfl rfl rfl ?_
                              refine V_iload hC dL_isSo_259 rfl rfl ?_
                              refine V_bipush (v := 12) hC dL_isSo_261 (by decide) rfl ?_
                              refine V_callIVf (q0 := 0) (n := 2) (pre := []) (suf := (S5 cI o z1 cl f4)) hC dL_isSo_263 (k_X3_ofTrain l D cI cZ cT c a b _ _ _ _ _ _ _ h.1 k c1 _ (by decide)) gL_isSo_X3_ofTrain rfl ⟨rfl, rfl⟩ (by decide +kernel) ⟨Nat.le_of_ble_eq_true rfl, Nat.le_of_ble_eq_true rfl⟩ ⟨Nat.le_of_ble_eq_true rfl, Nat.le_of_ble_eq_true rfl⟩ rfl rfl rfl rfl rfl (by exact Nat.le_of_ble_eq_true rfl) rfl (fun r_263 u_263 h_263 => ?_)
                              subst h_263
                              refine V_ws (ws' := (W5 cI cZ cT c a b t g t2 g2 o z1 cl f4)) rfl ?_
                              rw [qt12]
                              refine V_if_ne (tgt := 281) hC dL_isSo_266 (by decide) rfl (fun c_266 => ?_) (fun c_266 => ?_)
                              · exact V_to join_281 (lc rfl (lc rfl (lc rfl (lc rfl (lc rfl (lc rfl (lc rfl (lc rfl (lc rfl (lc rfl (lc rfl (lc rfl ln))))))))))))
                              · refine V_iload hC dL_isSo_269 rfl rfl ?_
                                refine V_aload_n hC dL_isSo_271 rfl rfl rfl ?_
                                refine V_iload hC dL_isSo_272 rfl rfl ?_
                                refine V_iconst (v := 3) hC dL_isSo_274 (by decide) rfl ?_
                                refine V_callIVf (q0 := 0) (n := 2) (pre := []) (suf := (S5 cI o z1 cl f4)) hC dL_isSo_275 (k_X3_ofTrain l D cI cZ cT c a b _ _ _ _ _ _ _ h.1 k c1 _ (by decide)) gL_isSo_X3_ofTrain rfl ⟨rfl, rfl⟩ (by decide +kernel) ⟨Nat.le_of_ble_eq_true rfl, Nat.le_of_ble_eq_true rfl⟩ ⟨Nat.le_of_ble_eq_true rfl, Nat.le_of_ble_eq_true rfl⟩ rfl rfl rfl rfl rfl (by exact Nat.le_of_ble_eq_true rfl) rfl (fun r_275 u_275 h_275 => ?_)
                                subst h_275
                                refine V_ws (ws' := (W5 cI cZ cT c a b t g t2 g2 o z1 cl f4)) rfl ?_
                                rw [qt3]
                                refine V_icmp_gt (tgt := 330) hC dL_isSo_278 (by decide) rfl (fun c_278 => ?_) (fun c_278 => ?_)
                                · exact absurd c_278 (a11 c_266)
                                · exact V_to join_281 (lc rfl (lc rfl (lc rfl (lc rfl (lc rfl (lc rfl (lc rfl (lc rfl (lc rfl (lc rfl (lc rfl (lc rfl ln))))))))))))
                        refine V_aload_n hC dL_isSo_199 rfl rfl rfl ?_
                        refine V_iload hC dL_isSo_200 rfl rfl ?_
                        refine V_iconst (v := 5) hC dL_isSo_202 (by decide) rfl ?_
                        refine V_callIVf (q0 := 0) (n := 2) (pre := []) (suf := (S5 cI o z1 cl f4)) hC dL_isSo_203 (k_X3_ofTrain l D cI cZ cT c a b _ _ _ _ _ _ _ h.1 k c1 _ (by decide)) gL_isSo_X3_ofTrain rfl ⟨rfl, rfl⟩ (by decide +kernel) ⟨Nat.le_of_ble_eq_true rfl, Nat.le_of_ble_eq_true rfl⟩ ⟨Nat.le_of_ble_eq_true rfl, Nat.le_of_ble_eq_true rfl⟩ rfl rfl rfl rfl rfl (by exact Nat.le_of_ble_eq_true rfl) rfl (fun r_203 u_203 h_203 => ?_)
                        subst h_203
                        refine V_ws (ws' := (W5 cI cZ cT c a b t g t2 g2 o z1 cl f4)) rfl ?_
                        rw [qt5]
                        refine V_if_lt (tgt := 229) hC dL_isSo_206 (by decide) rfl (fun c_206 => ?_) (fun c_206 => ?_)
                        · exact absurd c_206 a7
                        · refine V_aload_n hC dL_isSo_209 rfl rfl rfl ?_
                          refine V_iload hC dL_isSo_210 rfl rfl ?_
                          refine V_iconst (v := 5) hC dL_isSo_212 (by decide) rfl ?_
                          refine V_callIVf (q0 := 0) (n := 2) (pre := []) (suf := (S5 cI o z1 cl f4)) hC dL_isSo_213 (k_X3_ofTrain l D cI cZ cT c a b _ _ _ _ _ _ _ h.1 k c1 _ (by decide)) gL_isSo_X3_ofTrain rfl ⟨rfl, rfl⟩ (by decide +kernel) ⟨Nat.le_of_ble_eq_true rfl, Nat.le_of_ble_eq_true rfl⟩ ⟨Nat.le_of_ble_eq_true rfl, Nat.le_of_ble_eq_true rfl⟩ rfl rfl rfl rfl rfl (by exact Nat.le_of_ble_eq_true rfl) rfl (fun r_213 u_213 h_213 => ?_)
                          subst h_213
                          refine V_ws (ws' := (W5 cI cZ cT c a b t g t2 g2 o z1 cl f4)) rfl ?_
                          rw [qt5]
                          refine V_if_le (tgt := 231) hC dL_isSo_216 (by decide) rfl (fun c_216 => ?_) (fun c_216 => ?_)
                          · exact V_to join_231 (lc rfl (lc rfl (lc rfl (lc rfl (lc rfl (lc rfl (lc rfl (lc rfl (lc rfl (lc rfl (lc rfl (lc rfl ln))))))))))))
                          · refine V_aload_n hC dL_isSo_219 rfl rfl rfl ?_
                            refine V_iload hC dL_isSo_220 rfl rfl ?_
                            refine V_iconst (v := 2) hC dL_isSo_222 (by decide) rfl ?_
                            refine V_callIVf (q0 := 0) (n := 2) (pre := []) (suf := (S5 cI o z1 cl f4)) hC dL_isSo_223 (k_X3_ofTrain l D cI cZ cT c a b _ _ _ _ _ _ _ h.1 k c1 _ (by decide)) gL_isSo_X3_ofTrain rfl ⟨rfl, rfl⟩ (by decide +kernel) ⟨Nat.le_of_ble_eq_true rfl, Nat.le_of_ble_eq_true rfl⟩ ⟨Nat.le_of_ble_eq_true rfl, Nat.le_of_ble_eq_true rfl⟩ rfl rfl rfl rfl rfl (by exact Nat.le_of_ble_eq_true rfl) rfl (fun r_223 u_223 h_223 => ?_)
                            subst h_223
                            refine V_ws (ws' := (W5 cI cZ cT c a b t g t2 g2 o z1 cl f4)) rfl ?_
                            rw [qt2]
                            refine V_if_eq (tgt := 231) hC dL_isSo_226 (by decide) rfl (fun c_226 => ?_) (fun c_226 => ?_)
                            · exact V_to join_231 (lc rfl (lc rfl (lc rfl (lc rfl (lc rfl (lc rfl (lc rfl (lc rfl (lc rfl (lc rfl (lc rfl (lc rfl ln))))))))))))
                            · exact absurd (a8 c_216) c_226
          refine V_iload hC dL_isSo_113 rfl rfl ?_
          refine V_iconst (v := 1) hC dL_isSo_115 (by decide) rfl ?_
          refine V_icmp_ne (tgt := 123) hC dL_isSo_116 (by decide) rfl (fun c_116 => ?_) (fun c_116 => ?_)
          · refine V_iconst (v := 1) hC dL_isSo_123 (by decide) rfl ?_
            refine V_iadd hC dL_isSo_124 rfl ?_
            refine V_istore hC dL_isSo_125 (Nat.le_of_ble_eq_true rfl) rfl ?_
            exact V_to join_127 (lc rfl (lc rfl (lc rfl (lc rfl (lc rfl (lc rfl (lc (kv (by first | exact qr_1 c_116 | exact qr_0 c_116)) (lc rfl (lc rfl (lc rfl (lc rfl (lc rfl ln))))))))))))
          · refine V_iconst (v := 0) hC dL_isSo_119 (by decide) rfl ?_
            refine V_goto (tgt := 124) hC dL_isSo_120 (by decide) ?_
            refine V_iadd hC dL_isSo_124 rfl ?_
            refine V_istore hC dL_isSo_125 (Nat.le_of_ble_eq_true rfl) rfl ?_
            exact V_to join_127 (lc rfl (lc rfl (lc rfl (lc rfl (lc rfl (lc rfl (lc (kv (by first | exact qr_1 c_116 | exact qr_0 c_116)) (lc rfl (lc rfl (lc rfl (lc rfl (lc rfl ln))))))))))))
        refine V_aload hC dL_isSo_48 rfl rfl ?_
        refine V_iconst (v := 0) hC dL_isSo_50 (by decide) rfl ?_
        refine V_dup2 hC dL_isSo_51 rfl rfl rfl ?_
        refine V_iald (q0 := 32) hC dL_isSo_52 rfl 0 rfl (show (0 : Int32) = nI 0 from rfl) (by decide) (by decide) rfl ?_
        refine V_iload hC dL_isSo_53 rfl rfl ?_
        refine V_iconst (v := 1) hC dL_isSo_55 (by decide) rfl ?_
        refine V_icmp_ne (tgt := 63) hC dL_isSo_56 (by decide) rfl (fun c_56 => ?_) (fun c_56 => ?_)
        · refine V_iconst (v := 0) hC dL_isSo_63 (by decide) rfl ?_
          refine V_iadd hC dL_isSo_64 rfl ?_
          refine V_iast (q0 := 32) hC dL_isSo_65 rfl 0 rfl (show (0 : Int32) = nI 0 from rfl) (by decide) (by decide) W5_s rfl ?_
          refine V_ws (ws' := (W5 cI cZ cT c a b t g t2 g2 o z1 cl (upd f 0 (q_left t (k + 1))))) (by first | rw [hf.1, ql_1 c_56] | rw [hf.1, ql_0 c_56]) ?_
          exact V_to (join_66) (lc rfl (lc rfl (lc rfl (lc rfl (lc rfl (lc rfl (lc rfl (lc rfl (lc rfl (lc rfl (lc rfl (lc rfl ln))))))))))))
        · refine V_iconst (v := 1) hC dL_isSo_59 (by decide) rfl ?_
          refine V_goto (tgt := 64) hC dL_isSo_60 (by decide) ?_
          refine V_iadd hC dL_isSo_64 rfl ?_
          refine V_iast (q0 := 32) hC dL_isSo_65 rfl 0 rfl (show (0 : Int32) = nI 0 from rfl) (by decide) (by decide) W5_s rfl ?_
          refine V_ws (ws' := (W5 cI cZ cT c a b t g t2 g2 o z1 cl (upd f 0 (q_left t (k + 1))))) (by first | rw [hf.1, ql_1 c_56] | rw [hf.1, ql_0 c_56]) ?_
          exact V_to (join_66) (lc rfl (lc rfl (lc rfl (lc rfl (lc rfl (lc rfl (lc rfl (lc rfl (lc rfl (lc rfl (lc rfl (lc rfl ln))))))))))))
  refine V_to (loop_14 _ 0 _ (Nat.lt_succ_self _) (by omega) ⟨rfl, rfl, rfl, rfl⟩) (lc rfl (lc rfl (lc rfl (lc rfl (lc rfl (lc rfl (lc rfl (lc rfl (lc (kv nI_0.symm) ln)))))))))
