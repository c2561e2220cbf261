theorem in_X3_L_law : ∀ w ∈ u_ws RX3 TX3 2, w ∈ wsL_law := by decide +kernel
theorem cl9_L_law : Cond.classLink RL 9 RX3 ∈ wsL_law := by decide +kernel
theorem insX3_L_law : Cond.instantiable RX3 2 ∈ wsL_law := by decide +kernel
theorem iniX3_L_law : Cond.initialized RX3 ∈ wsL_law := by decide +kernel
theorem inmX3_init_L_law : Cond.instanceMethod yX3_init ∈ wsL_law := by decide +kernel
theorem mlk11_L_law : Cond.methodLink RL 11 yX3_init ∈ wsL_law := by decide +kernel
theorem aci_L_law : Cond.arrayClass .int ∈ wsL_law := by decide +kernel
theorem ml46_L_law : Cond.methodLink RL 46 Lib.Math.min.name ∈ wsL_law := by decide +kernel
theorem msmin_L_law : Cond.static Lib.Math.min.name ∈ wsL_law := by decide +kernel
theorem mi_L_law : Cond.initialized "java/lang/Math" ∈ wsL_law := by decide +kernel
theorem mcmin_L_law : Cond.code Lib.Math.min.name Lib.Math.min.code 2 (some .int) ∈ wsL_law := by decide +kernel
set_option maxRecDepth 100000 in
set_option maxHeartbeats 32000000 in
theorem law_all (l : Launch) (D : va_G) (cI cZ cT : ClassId) {X : VC} {A : Nat → Prop} {sb L : Nat} {xs : Nat → Int32} (hL : L < 2 ^ 31) {ret0 : Option FieldType} (hC : Cx X l room_1 D kCl (kTy cI cZ cT) A code 12 RL wsL_law ret0) (hsc : Sc X sb L xs) (hE : ∀ (ws : va_W) (lv : List (Nat × Value)) (pc : Nat), decode code pc = .ok (.ireturn, 1) → V X 600104 7301313 ws lv pc [.int 1]) : V X 0 0 [] [(0, .ref sb)] 0 [] := by
  refine V_new (ci := 3) (C := RX3) (T := TX3) (N := 2) (fs := [.null, .null]) hC dL_law_0 in_X3_L_law tyX3 tyX3_ok cl9_L_law insX3_L_law iniX3_L_law rfl nw_X3 (Nat.le_of_ble_eq_true rfl) (Nat.le_of_ble_eq_true rfl) rfl (fun z1 => ?_)
  refine V_dup hC dL_law_3 rfl rfl ?_
  refine V_callVIf (n := 0) (suf := []) hC dL_law_4 (k_X3_init l D cI cZ cT z1) gL_law_X3_init iniX3_L_law mlk11_L_law inmX3_init_L_law rfl rfl ⟨rfl, rfl⟩ (by decide +kernel) ⟨Nat.le_of_ble_eq_true rfl, Nat.le_of_ble_eq_true rfl⟩ ⟨Nat.le_of_ble_eq_true rfl, Nat.le_of_ble_eq_true rfl⟩ rfl rfl rfl (by exact Nat.le_of_ble_eq_true rfl) rfl (fun u_z1 h_z1 => ?_)
  obtain ⟨a, b⟩ := u_z1
  refine V_ws (ws' := WB cI cZ cT z1 a b tI gI tI gI) (by simp) ?_
  refine V_astore_n hC dL_law_7 rfl (Nat.le_of_ble_eq_true rfl) rfl ?_
  refine V_iconst (v := 0) hC dL_law_8 (by decide) rfl ?_
  refine V_istore_n hC dL_law_9 rfl (Nat.le_of_ble_eq_true rfl) rfl ?_
  have loop_10 : ∀ (d k : Nat) (g : Nat → Nat → Int32), 20 - k < d → k ≤ 20 → LI tI g 0 0 0 0 (fun _ => 0) → (∀ j, k ≤ j → j < 20 → g 0 j = 40) → V X 31 338 (WB cI cZ cT z1 a b tI g tI gI) [(0, .ref sb), (1, .ref z1), (2, .int (nI k))] 10 [] := by
    intro d_1
    induction d_1 with
    | zero => intro k g; intros; omega
    | succ d_1 ih_1 =>
      intro k g hd1 hk hl h40
      refine V_iload_n hC dL_law_10 rfl rfl rfl ?_
      refine V_bipush (v := 20) hC dL_law_11 (by decide) rfl ?_
      refine V_icmp_ge (tgt := 93) hC dL_law_13 (by decide) rfl (fun c_13 => ?_) (fun c_13 => ?_)
      · have c1 := nI_le' (a := 20) c_13 (by omega) (by omega)
        obtain rfl : k = 20 := by omega
        refine V_aload_n hC dL_law_93 rfl rfl rfl ?_
        refine V_bipush (v := 10) hC dL_law_94 (by decide) rfl ?_
        refine V_callCS (n := 2) hC hsc dL_law_96 (k_L_cell l D cI cZ cT sb L xs hL _ 10 rfl (by decide)) gL_law_L_cell rfl ⟨rfl, rfl⟩ (by decide +kernel) ⟨Nat.le_of_ble_eq_true rfl, Nat.le_of_ble_eq_true rfl⟩ ⟨Nat.le_of_ble_eq_true rfl, Nat.le_of_ble_eq_true rfl⟩ rfl rfl (by exact Nat.le_of_ble_eq_true rfl) rfl (fun r_96 => ?_)
        refine V_iconst (v := 5) hC dL_law_99 (by decide) rfl ?_
        refine V_callIS0 (n := 2) hC dL_law_100 (k_L_below l D cI cZ cT _ 5 (by decide) (by decide)) gL_law_L_below rfl ⟨rfl, rfl⟩ (by decide +kernel) ⟨Nat.le_of_ble_eq_true rfl, Nat.le_of_ble_eq_true rfl⟩ ⟨Nat.le_of_ble_eq_true rfl, Nat.le_of_ble_eq_true rfl⟩ rfl rfl (by exact Nat.le_of_ble_eq_true rfl) rfl (fun r_100 u_100 h_100 => ?_)
        obtain ⟨rfl, b_100⟩ := h_100
        refine V_istore_n hC dL_law_103 rfl (Nat.le_of_ble_eq_true rfl) rfl ?_
        refine V_iconst (v := 0) hC dL_law_104 (by decide) rfl ?_
        refine V_istore_n hC dL_law_105 rfl (Nat.le_of_ble_eq_true rfl) rfl ?_
        have loop_106 : ∀ (d k : Nat) (g : Nat → Nat → Int32), u_100 - k < d → k ≤ u_100 → LI tI g 0 k 0 0 (fun _ => 0) → (∀ j, j < k → (g 3 j).toInt < ((700 * k : Nat) : Int)) → V X 31 338 (WB cI cZ cT z1 a b tI g tI gI) [(0, .ref sb), (1, .ref z1), (2, .int (nI u_100)), (3, .int (nI k))] 106 [] := by
          intro d_2
          induction d_2 with
          | zero => intro k g; intros; omega
          | succ d_2 ih_2 =>
            intro k g hd2 hk2 hl2 hm
            refine V_iload_n hC dL_law_106 rfl rfl rfl ?_
            refine V_iload_n hC dL_law_107 rfl rfl rfl ?_
            refine V_icmp_ge (tgt := 160) hC dL_law_108 (by decide) rfl (fun c_108 => ?_) (fun c_108 => ?_)
            · have c2 := nI_le' c_108 (by omega) (by omega)
              obtain rfl : u_100 = k := by omega
              refine V_iconst (v := 0) hC dL_law_160 (by decide) rfl ?_
              refine V_istore_n hC dL_law_161 rfl (Nat.le_of_ble_eq_true rfl) rfl ?_
              refine V_iconst (v := 0) hC dL_law_162 (by decide) rfl ?_
              refine V_istore hC dL_law_163 (Nat.le_of_ble_eq_true rfl) rfl ?_
              refine V_iconst (v := 4) hC dL_law_165 (by decide) rfl ?_
              refine V_newai hC dL_law_166 rfl aci_L_law 0 rfl (by decide) rfl (Nat.le_of_ble_eq_true rfl) (Nat.le_of_ble_eq_true rfl) (Nat.le_of_ble_eq_true rfl) rfl (fun z2 => ?_)
              refine V_astore hC dL_law_168 (Nat.le_of_ble_eq_true rfl) rfl ?_
              refine V_ws (ws' := (W6 cI cZ cT z1 a b tI g tI gI z2 (fun _ => 0))) rfl ?_
              refine V_iconst (v := 0) hC dL_law_170 (by decide) rfl ?_
              refine V_istore hC dL_law_171 (Nat.le_of_ble_eq_true rfl) rfl ?_
              have loop_173 : ∀ (d time : Nat) (t g : Nat → Nat → Int32) (nT nW n : Nat) (cl : Nat → Int32), 60 - time < d → time ≤ 60 → LI t g nT u_100 nW n (fun i => (cl i).toInt) → n ≤ 12 * time → (∀ i, nT ≤ i → cl i = 0) → V X (100 + 60 * time) (1000 + 300 * time) (W6 cI cZ cT z1 a b t g tI gI z2 cl) [(0, .ref sb), (1, .ref z1), (2, .int (nI u_100)), (3, .int (nI nT)), (4, .int (nI nW)), (5, .ref z2), (6, .int (nI time))] 173 [] := by
                intro d_3
                induction d_3 with
                | zero => intro time t g nT nW n cl; intros; omega
                | succ d_3 ih_3 =>
                  intro time t g nT nW n cl hd3 ht hli hnt hc0
                  refine V_iload hC dL_law_173 rfl rfl ?_
                  refine V_bipush (v := 60) hC dL_law_175 (by decide) rfl ?_
                  refine V_icmp_ge (tgt := 819) hC dL_law_177 (by decide) rfl (fun c_177 => ?_) (fun c_177 => ?_)
                  · have c3 := nI_le' (a := 60) c_177 (by omega) (by omega)
                    obtain rfl : time = 60 := by omega
                    refine V_aload_n hC dL_law_819 rfl rfl rfl ?_
                    refine V_callLVf (q0 := 0) (n := 0) (pre := []) (suf := [(z2, .inl (cI, 4, .inl cl))]) hC dL_law_820 (k_X3_digest l D cI cZ cT z1 a b _ _ _ _ _ _ _ hli.1) gL_law_X3_digest rfl ⟨rfl, rfl⟩ (by decide +kernel) ⟨Nat.le_of_ble_eq_true rfl, Nat.le_of_ble_eq_true rfl⟩ (rm_ok (by omega) (by omega)) rfl rfl rfl rfl rfl (by exact Nat.le_of_ble_eq_true rfl) rfl (fun r_820 u_820 h_820 => ?_)
                    subst h_820
                    refine V_ws (ws' := (W6 cI cZ cT z1 a b t g u_820.1 u_820.2 z2 cl)) rfl ?_
                    refine V_lstore hC dL_law_823 (Nat.le_of_ble_eq_true rfl) rfl ?_
                    refine V_aload_n hC dL_law_825 rfl rfl rfl ?_
                    refine V_iload_n hC dL_law_826 rfl rfl rfl ?_
                    refine V_iload_n hC dL_law_827 rfl rfl rfl ?_
                    refine V_iload hC dL_law_828 rfl rfl ?_
                    refine V_aload hC dL_law_830 rfl rfl ?_
                    refine V_callIS (n := 5) hC dL_law_832 (k_L_isSo l D cI cZ cT z1 a b _ _ _ _ _ _ _ _ _ _ hli (by omega)) gL_law_L_isSo rfl ⟨rfl, rfl⟩ (by decide +kernel) ⟨Nat.le_of_ble_eq_true rfl, Nat.le_of_ble_eq_true rfl⟩ (rm_ok (by omega) (by omega)) rfl rfl (by exact Nat.le_of_ble_eq_true rfl) rfl (fun r_832 u_832 h_832 => ?_)
                    subst h_832
                    refine V_if_eq (tgt := 852) hC dL_law_835 (by decide) rfl (fun c_835 => ?_) (fun c_835 => ?_)
                    · exact absurd c_835 (by decide)
                    · refine V_aload_n hC dL_law_838 rfl rfl rfl ?_
                      refine V_callLVf (q0 := 0) (n := 0) (pre := []) (suf := [(z2, .inl (cI, 4, .inl cl))]) hC dL_law_839 (k_X3_digest l D cI cZ cT z1 a b _ _ _ _ _ _ _ hli.1) gL_law_X3_digest rfl ⟨rfl, rfl⟩ (by decide +kernel) ⟨Nat.le_of_ble_eq_true rfl, Nat.le_of_ble_eq_true rfl⟩ (rm_ok (by omega) (by omega)) rfl rfl rfl rfl rfl (by exact Nat.le_of_ble_eq_true rfl) rfl (fun r_839 u_839 h_839 => ?_)
                      subst h_839
                      refine V_ws (ws' := (W6 cI cZ cT z1 a b t g u_839.1 u_839.2 z2 cl)) rfl ?_
                      refine V_lload hC dL_law_842 rfl rfl ?_
                      refine V_lcmp hC dL_law_844 rfl ?_
                      refine V_if_ne (tgt := 852) hC dL_law_845 (by decide) rfl (fun c_845 => ?_) (fun c_845 => ?_)
                      · exact absurd (lg_self _) c_845
                      · refine V_iconst (v := 1) hC dL_law_848 (by decide) rfl ?_
                        refine V_goto (tgt := 853) hC dL_law_849 (by decide) ?_
                        refine V_widen (k := 600104) (n := 7301313) (by omega) (by omega) ?_
                        exact hE _ _ _ dL_law_853
                  · have c3 := nI_nle' (a := 60) c_177 (by omega) (by omega)
                    obtain ⟨hT0, nT4, hS0, nS4, hW0, nW3, -, -⟩ := id hli.1
                    have hn5 : n < 100000 := by omega
                    have hJ := hli
                    have hJc := hc0
                    refine V_aload_n hC dL_law_180 rfl rfl rfl ?_
                    refine V_bipush (v := 13) hC dL_law_181 (by decide) rfl ?_
                    refine V_iload hC dL_law_183 rfl rfl ?_
                    refine V_bipush (v := 17) hC dL_law_185 (by decide) rfl ?_
                    refine V_irem hC dL_law_187 (by decide) rfl ?_
                    refine V_iadd hC dL_law_188 rfl ?_
                    refine V_callCS (n := 2) hC hsc dL_law_189 (k_L_cell l D cI cZ cT sb L xs hL _ (13 + time % 17) (cellx c3) (by omega)) gL_law_L_cell rfl ⟨rfl, rfl⟩ (by decide +kernel) ⟨Nat.le_of_ble_eq_true rfl, Nat.le_of_ble_eq_true rfl⟩ (rm_ok (by omega) (by omega)) rfl rfl (by exact Nat.le_of_ble_eq_true rfl) rfl (fun r_189 => ?_)
                    refine V_iload hC dL_law_192 rfl rfl ?_
                    refine V_bipush (v := 17) hC dL_law_194 (by decide) rfl ?_
                    refine V_idiv hC dL_law_196 (by decide) rfl ?_
                    refine V_iconst (v := 3) hC dL_law_197 (by decide) rfl ?_
                    refine V_imul hC dL_law_198 rfl ?_
                    refine V_ishr hC dL_law_199 rfl ?_
                    refine V_istore hC dL_law_200 (Nat.le_of_ble_eq_true rfl) rfl ?_
                    generalize r_189 >>> (nI time / 17 * 3 &&& 31) = x
                    refine V_iload hC dL_law_202 rfl rfl ?_
                    have join_798 : ∀ (t g : Nat → Nat → Int32) (nT nW n : Nat) (cl : Nat → Int32), LI t g nT u_100 nW n (fun i => (cl i).toInt) → n ≤ 12 * (time + 1) → (∀ i, nT ≤ i → cl i = 0) → V X (100 + 60 * time + 48) (1000 + 300 * time + 192) (W6 cI cZ cT z1 a b t g tI gI z2 cl) [(0, .ref sb), (1, .ref z1), (2, .int (nI u_100)), (3, .int (nI nT)), (4, .int (nI nW)), (5, .ref z2), (6, .int (nI time))] 798 [] := by
                      intro t g nT nW n cl hli hnt hc0
                      refine V_aload_n hC dL_law_798 rfl rfl rfl ?_
                      refine V_iload_n hC dL_law_799 rfl rfl rfl ?_
                      refine V_iload_n hC dL_law_800 rfl rfl rfl ?_
                      refine V_iload hC dL_law_801 rfl rfl ?_
                      refine V_aload hC dL_law_803 rfl rfl ?_
                      refine V_callIS (n := 5) hC dL_law_805 (k_L_isSo l D cI cZ cT z1 a b _ _ _ _ _ _ _ _ _ _ hli (by omega)) gL_law_L_isSo rfl ⟨rfl, rfl⟩ (by decide +kernel) ⟨Nat.le_of_ble_eq_true rfl, Nat.le_of_ble_eq_true rfl⟩ (rm_ok (by omega) (by omega)) rfl rfl (by exact Nat.le_of_ble_eq_true rfl) rfl (fun r_805 u_805 h_805 => ?_)
                      subst h_805
                      refine V_if_ne (tgt := 813) hC dL_law_808 (by decide) rfl (fun c_808 => ?_) (fun c_808 => ?_)
                      · refine V_iinc hC dL_law_813 rfl (nI_1 time) (Nat.le_of_ble_eq_true rfl) rfl ?_
                        refine V_goto (tgt := 173) hC dL_law_816 (by decide) ?_
                        refine V_widen (k := 100 + 60 * (time + 1)) (n := 1000 + 300 * (time + 1)) (by omega) (by omega) ?_
                        exact V_to (ih_3 (time + 1) _ _ _ _ _ _ (by omega) (by omega) hli (by omega) hc0) (lc rfl (lc rfl (lc rfl (lc rfl (lc rfl (lc rfl (lc rfl ln)))))))
                      · exact absurd c_808 (by decide)
                    refine V_bipush (v := 12) hC dL_law_204 (by decide) rfl ?_
                    have join_248 : V X (100 + 60 * time) (1000 + 300 * time) (W6 cI cZ cT z1 a b t g tI gI z2 cl) [(0, .ref sb), (1, .ref z1), (2, .int (nI u_100)), (3, .int (nI nT)), (4, .int (nI nW)), (5, .ref z2), (6, .int (nI time)), (7, .int x)] 248 [] := by
                      skip
                      refine V_bipush (v := 20) hC dL_law_248 (by decide) rfl ?_
                      refine V_iload hC dL_law_250 rfl rfl ?_
                      refine V_iconst (v := 4) hC dL_law_252 (by decide) rfl ?_
                      refine V_ishr hC dL_law_253 rfl ?_
                      refine V_sipush (v := 181) hC dL_law_254 (by decide) rfl ?_
                      refine V_callIS0 (n := 2) hC dL_law_257 (k_L_below l D cI cZ cT _ 181 (by decide) (by decide)) gL_law_L_below rfl ⟨rfl, rfl⟩ (by decide +kernel) ⟨Nat.le_of_ble_eq_true rfl, Nat.le_of_ble_eq_true rfl⟩ (rm_ok (by omega) (by omega)) rfl rfl (by exact Nat.le_of_ble_eq_true rfl) rfl (fun r_257 u_257 h_257 => ?_)
                      obtain ⟨rfl, b_257⟩ := h_257
                      refine V_iadd hC dL_law_260 rfl ?_
                      rw [show (20 : Int32) + nI u_257 = nI (20 + u_257) from nI_add 20 u_257]
                      refine V_istore hC dL_law_261 (Nat.le_of_ble_eq_true rfl) rfl ?_
                      have join_275 : ∀ v : Int32, ((v = 1 ∧ nT < 4) ∨ v = 0) → V X (100 + 60 * time) (1000 + 300 * time) (W6 cI cZ cT z1 a b t g tI gI z2 cl) [(0, .ref sb), (1, .ref z1), (2, .int (nI u_100)), (3, .int (nI nT)), (4, .int (nI nW)), (5, .ref z2), (6, .int (nI time)), (7, .int x), (8, .int (nI (20 + u_257))), (9, .int v)] 275 [] := by
                        intro v hv
                        refine V_iconst (v := 0) hC dL_law_275 (by decide) rfl ?_
                        refine V_istore hC dL_law_276 (Nat.le_of_ble_eq_true rfl) rfl ?_
                        have loop_278 : ∀ (d k : Nat) (v : Int32), nT - k < d → k ≤ nT → ((v = 1 ∧ nT < 4 ∧ ∀ j, j < k → stt (t j) = 1 ∨ nI (20 + u_257) < m_rear (t j)) ∨ v = 0) → V X (100 + 60 * time) (1000 + 300 * time) (W6 cI cZ cT z1 a b t g tI gI z2 cl) [(0, .ref sb), (1, .ref z1), (2, .int (nI u_100)), (3, .int (nI nT)), (4, .int (nI nW)), (5, .ref z2), (6, .int (nI time)), (7, .int x), (8, .int (nI (20 + u_257))), (9, .int v), (10, .int (nI k))] 278 [] := by
                          intro d_4
                          induction d_4 with
                          | zero => intro k v; intros; omega
                          | succ d_4 ih_4 =>
                            intro k v hd4 hk4 hv4
                            refine V_iload hC dL_law_278 rfl rfl ?_
                            refine V_iload_n hC dL_law_280 rfl rfl rfl ?_
                            refine V_icmp_ge (tgt := 324) hC dL_law_281 (by decide) rfl (fun c_281 => ?_) (fun c_281 => ?_)
                            · have c4 := nI_le' c_281 (by omega) (by omega)
                              obtain rfl : nT = k := by omega
                              refine V_iload hC dL_law_324 rfl rfl ?_
                              refine V_if_ne (tgt := 332) hC dL_law_326 (by decide) rfl (fun c_326 => ?_) (fun c_326 => ?_)
                              · obtain ⟨rfl, hT4, hfree⟩ := hv4.resolve_right c_326
                                have hfr : ∀ k, k < nT → t k 9 = 0 → ¬ m_rear (t k) ≤ nI (20 + u_257) := fun k hk h9 => (hfree k hk).elim (fun z => absurd ((stt_1 (hli.2.2.2.1 k hk).1.b9).mp z) (by rw [h9]; decide)) (fun z => Int32.not_le.mpr z)
                                have join_351 : ∀ sp : Int32, b01 sp → V X (100 + 60 * time) (1000 + 300 * time) (W6 cI cZ cT z1 a b t g tI gI z2 cl) [(0, .ref sb), (1, .ref z1), (2, .int (nI u_100)), (3, .int (nI nT)), (4, .int (nI nW)), (5, .ref z2), (6, .int (nI time)), (7, .int x), (8, .int (nI (20 + u_257))), (10, .int sp)] 351 [] := by
                                  intro sp hsp
                                  refine V_aload_n hC dL_law_351 rfl rfl rfl ?_
                                  refine V_iload hC dL_law_352 rfl rfl ?_
                                  refine V_iconst (v := 1) hC dL_law_354 (by decide) rfl ?_
                                  refine V_iload hC dL_law_355 rfl rfl ?_
                                  refine V_iconst (v := 2) hC dL_law_357 (by decide) rfl ?_
                                  refine V_ishr hC dL_law_358 rfl ?_
                                  refine V_iconst (v := 4) hC dL_law_359 (by decide) rfl ?_
                                  refine V_callIS0 (n := 2) hC dL_law_360 (k_L_below l D cI cZ cT _ 4 (by decide) (by decide)) gL_law_L_below rfl ⟨rfl, rfl⟩ (by decide +kernel) ⟨Nat.le_of_ble_eq_true rfl, Nat.le_of_ble_eq_true rfl⟩ (rm_ok (by omega) (by omega)) rfl rfl (by exact Nat.le_of_ble_eq_true rfl) rfl (fun r_360 u_360 h_360 => ?_)
                                  obtain ⟨rfl, b_360⟩ := h_360
                                  refine V_iadd hC dL_law_363 rfl ?_
                                  refine V_iconst (v := 1) hC dL_law_364 (by decide) rfl ?_
                                  refine V_iload hC dL_law_365 rfl rfl ?_
                                  refine V_iconst (v := 5) hC dL_law_367 (by decide) rfl ?_
                                  refine V_ishr hC dL_law_368 rfl ?_
                                  refine V_iconst (v := 3) hC dL_law_369 (by decide) rfl ?_
                                  refine V_callIS0 (n := 2) hC dL_law_370 (k_L_below l D cI cZ cT _ 3 (by decide) (by decide)) gL_law_L_below rfl ⟨rfl, rfl⟩ (by decide +kernel) ⟨Nat.le_of_ble_eq_true rfl, Nat.le_of_ble_eq_true rfl⟩ (rm_ok (by omega) (by omega)) rfl rfl (by exact Nat.le_of_ble_eq_true rfl) rfl (fun r_370 u_370 h_370 => ?_)
                                  obtain ⟨rfl, b_370⟩ := h_370
                                  refine V_iadd hC dL_law_373 rfl ?_
                                  refine V_iload hC dL_law_374 rfl rfl ?_
                                  refine V_callIVf (q0 := 0) (n := 4) (pre := []) (suf := [(z2, .inl (cI, 4, .inl cl))]) hC dL_law_376 (k_X3_train l D cI cZ cT z1 a b _ _ _ _ nT u_100 nW hli.1 _ _ _ _ (len_in b_257).1 (brk_in b_360).1 (pul_in b_370).1 hT4 hfr) gL_law_X3_train rfl ⟨rfl, rfl⟩ (by decide +kernel) ⟨Nat.le_of_ble_eq_true rfl, Nat.le_of_ble_eq_true rfl⟩ (rm_ok (by omega) (by omega)) rfl rfl rfl rfl rfl (by exact Nat.le_of_ble_eq_true rfl) rfl (fun r_376 u_376 h_376 => ?_)
                                  subst h_376
                                  obtain ⟨t', g', et, eg, hA, hA4, hA6, hA13, hg3⟩ := add_law (sp := sp) hli hn5 hT4 (len_in b_257).2 (brk_in b_360).2 (pul_in b_370).2 hfr
                                  rw [et, eg]
                                  refine V_ws (ws' := (W6 cI cZ cT z1 a b t' g' tI gI z2 cl)) rfl ?_
                                  refine V_iload_n hC dL_law_379 rfl rfl rfl ?_
                                  refine V_icmp_ne (tgt := 424) hC dL_law_380 (by decide) rfl (fun c_380 => ?_) (fun c_380 => ?_)
                                  · exact absurd rfl c_380
                                  · refine V_aload_n hC dL_law_383 rfl rfl rfl ?_
                                    refine V_iload_n hC dL_law_384 rfl rfl rfl ?_
                                    refine V_iconst (v := 0) hC dL_law_385 (by decide) rfl ?_
                                    refine V_callIVf (q0 := 0) (n := 2) (pre := []) (suf := [(z2, .inl (cI, 4, .inl cl))]) hC dL_law_386 (k_X3_ofTrain l D cI cZ cT z1 a b _ _ _ _ _ _ _ hA.1 nT (Nat.lt_succ_self _) _ (by decide)) gL_law_X3_ofTrain rfl ⟨rfl, rfl⟩ (by decide +kernel) ⟨Nat.le_of_ble_eq_true rfl, Nat.le_of_ble_eq_true rfl⟩ (rm_ok (by omega) (by omega)) rfl rfl rfl rfl rfl (by exact Nat.le_of_ble_eq_true rfl) rfl (fun r_386 u_386 h_386 => ?_)
                                    subst h_386
                                    refine V_ws (ws' := (W6 cI cZ cT z1 a b t' g' tI gI z2 cl)) rfl ?_
                                    rw [qt0, hA4]
                                    refine V_iload hC dL_law_389 rfl rfl ?_
                                    refine V_iconst (v := 1) hC dL_law_391 (by decide) rfl ?_
                                    refine V_isub hC dL_law_392 rfl ?_
                                    refine V_icmp_ne (tgt := 424) hC dL_law_393 (by decide) rfl (fun c_393 => ?_) (fun c_393 => ?_)
                                    · exact absurd rfl c_393
                                    · refine V_aload_n hC dL_law_396 rfl rfl rfl ?_
                                      refine V_iload_n hC dL_law_397 rfl rfl rfl ?_
                                      refine V_iconst (v := 3) hC dL_law_398 (by decide) rfl ?_
                                      refine V_callIVf (q0 := 0) (n := 2) (pre := []) (suf := [(z2, .inl (cI, 4, .inl cl))]) hC dL_law_399 (k_X3_ofTrain l D cI cZ cT z1 a b _ _ _ _ _ _ _ hA.1 nT (Nat.lt_succ_self _) _ (by decide)) gL_law_X3_ofTrain rfl ⟨rfl, rfl⟩ (by decide +kernel) ⟨Nat.le_of_ble_eq_true rfl, Nat.le_of_ble_eq_true rfl⟩ (rm_ok (by omega) (by omega)) rfl rfl rfl rfl rfl (by exact Nat.le_of_ble_eq_true rfl) rfl (fun r_399 u_399 h_399 => ?_)
                                      subst h_399
                                      refine V_ws (ws' := (W6 cI cZ cT z1 a b t' g' tI gI z2 cl)) rfl ?_
                                      rw [qt3, hA6]
                                      refine V_iload hC dL_law_402 rfl rfl ?_
                                      refine V_iconst (v := 1) hC dL_law_404 (by decide) rfl ?_
                                      refine V_isub hC dL_law_405 rfl ?_
                                      refine V_icmp_ne (tgt := 424) hC dL_law_406 (by decide) rfl (fun c_406 => ?_) (fun c_406 => ?_)
                                      · exact absurd rfl c_406
                                      · refine V_aload_n hC dL_law_409 rfl rfl rfl ?_
                                        refine V_iload_n hC dL_law_410 rfl rfl rfl ?_
                                        refine V_bipush (v := 10) hC dL_law_411 (by decide) rfl ?_
                                        refine V_callIVf (q0 := 0) (n := 2) (pre := []) (suf := [(z2, .inl (cI, 4, .inl cl))]) hC dL_law_413 (k_X3_ofTrain l D cI cZ cT z1 a b _ _ _ _ _ _ _ hA.1 nT (Nat.lt_succ_self _) _ (by decide)) gL_law_X3_ofTrain rfl ⟨rfl, rfl⟩ (by decide +kernel) ⟨Nat.le_of_ble_eq_true rfl, Nat.le_of_ble_eq_true rfl⟩ (rm_ok (by omega) (by omega)) rfl rfl rfl rfl rfl (by exact Nat.le_of_ble_eq_true rfl) rfl (fun r_413 u_413 h_413 => ?_)
                                        subst h_413
                                        refine V_ws (ws' := (W6 cI cZ cT z1 a b t' g' tI gI z2 cl)) rfl ?_
                                        rw [qt10, hA13]
                                        refine V_aload_n hC dL_law_416 rfl rfl rfl ?_
                                        refine V_iconst (v := 0) hC dL_law_417 (by decide) rfl ?_
                                        refine V_callIVf (q0 := 0) (n := 1) (pre := []) (suf := [(z2, .inl (cI, 4, .inl cl))]) hC dL_law_418 (k_X3_many l D cI cZ cT z1 a b _ _ _ _ _ _ _ hA.1 _ (by decide)) gL_law_X3_many rfl ⟨rfl, rfl⟩ (by decide +kernel) ⟨Nat.le_of_ble_eq_true rfl, Nat.le_of_ble_eq_true rfl⟩ (rm_ok (by omega) (by omega)) rfl rfl rfl rfl rfl (by exact Nat.le_of_ble_eq_true rfl) rfl (fun r_418 u_418 h_418 => ?_)
                                        subst h_418
                                        refine V_ws (ws' := (W6 cI cZ cT z1 a b t' g' tI gI z2 cl)) rfl ?_
                                        refine V_icmp_eq (tgt := 426) hC dL_law_421 (by decide) rfl (fun c_421 => ?_) (fun c_421 => ?_)
                                        · refine V_iconst (v := 0) hC dL_law_426 (by decide) rfl ?_
                                          refine V_istore hC dL_law_427 (Nat.le_of_ble_eq_true rfl) rfl ?_
                                          have loop_429 : ∀ (d k : Nat), u_100 - k < d → k ≤ u_100 → V X (100 + 60 * time) (1000 + 300 * time) (W6 cI cZ cT z1 a b t' g' tI gI z2 (upd cl nT (nI (cA (g 3) (nI (20 + u_257) - 1) sp k)))) [(0, .ref sb), (1, .ref z1), (2, .int (nI u_100)), (3, .int (nI nT)), (4, .int (nI nW)), (5, .ref z2), (6, .int (nI time)), (7, .int x), (8, .int (nI (20 + u_257))), (10, .int sp), (11, .int (nI k))] 429 [] := by
                                            intro d_5
                                            induction d_5 with
                                            | zero => intro k; intros; omega
                                            | succ d_5 ih_5 =>
                                              intro k hd5 hk5
                                              refine V_iload hC dL_law_429 rfl rfl ?_
                                              refine V_iload_n hC dL_law_431 rfl rfl rfl ?_
                                              refine V_icmp_ge (tgt := 472) hC dL_law_432 (by decide) rfl (fun c_432 => ?_) (fun c_432 => ?_)
                                              · have c5 := nI_le' c_432 (by omega) (by omega)
                                                obtain rfl : u_100 = k := by omega
                                                have hJ := hA
                                                have hJc : ∀ i, nT + 1 ≤ i → (upd cl nT (nI (cA (g 3) (nI (20 + u_257) - 1) sp u_100))) i = 0 := fun i hi => (updJ (by omega)).trans (hc0 i (by omega))
                                                refine V_iinc hC dL_law_472 rfl (nI_1 nT) (Nat.le_of_ble_eq_true rfl) rfl ?_
                                                refine V_goto (tgt := 798) hC dL_law_475 (by decide) ?_
                                                refine V_widen (k := 100 + 60 * time + 48) (n := 1000 + 300 * time + 192) (by omega) (by omega) ?_
                                                first
                                                | exact V_to (join_798 _ _ _ _ _ _ hJ (by omega) hJc) (lc rfl (lc rfl (lc rfl (lc rfl (lc rfl (lc rfl (lc rfl ln)))))))
                                                | exact V_to (join_798 _ _ _ _ _ _ (hJ _ (by first | exact Or.inl rfl | exact Or.inr rfl)) (by omega) hJc) (lc rfl (lc rfl (lc rfl (lc rfl (lc rfl (lc rfl (lc rfl ln)))))))
                                              · have c5 := nI_nle' c_432 (by omega) (by omega)
                                                refine V_aload hC dL_law_435 rfl rfl ?_
                                                refine V_iload_n hC dL_law_437 rfl rfl rfl ?_
                                                refine V_dup2 hC dL_law_438 rfl rfl rfl ?_
                                                refine V_iald (q0 := 31) hC dL_law_439 rfl 0 rfl rfl hT4 (by decide) rfl ?_
                                                rw [updA]
                                                refine V_iload hC dL_law_440 rfl rfl ?_
                                                refine V_if_eq (tgt := 463) hC dL_law_442 (by decide) rfl (fun c_442 => ?_) (fun c_442 => ?_)
                                                · refine V_iconst (v := 0) hC dL_law_463 (by decide) rfl ?_
                                                  refine V_iadd hC dL_law_464 rfl ?_
                                                  refine V_iast (q0 := 31) hC dL_law_465 rfl 0 rfl rfl hT4 (by decide) W6_s rfl ?_
                                                  refine V_iinc hC dL_law_466 rfl (nI_1 k) (Nat.le_of_ble_eq_true rfl) rfl ?_
                                                  refine V_goto (tgt := 429) hC dL_law_469 (by decide) ?_
                                                  refine V_ws (ws' := (W6 cI cZ cT z1 a b t' g' tI gI z2 (upd cl nT (nI (cA (g 3) (nI (20 + u_257) - 1) sp (k + 1)))))) (by rw [upd_upd]; first | rw [cA_s0 c_442] | rw [cA_s1 c_442 c_456] | rw [cA_s2 c_442 c_456]) ?_
                                                  exact V_to (ih_5 (k + 1) (by omega) (by omega)) (lc rfl (lc rfl (lc rfl (lc rfl (lc rfl (lc rfl (lc rfl (lc rfl (lc rfl (lc rfl (lc rfl ln)))))))))))
                                                · refine V_aload_n hC dL_law_445 rfl rfl rfl ?_
                                                  refine V_iload hC dL_law_446 rfl rfl ?_
                                                  refine V_iconst (v := 0) hC dL_law_448 (by decide) rfl ?_
                                                  refine V_callIVf (q0 := 0) (n := 2) (pre := []) (suf := [(z2, .inl (cI, 4, .inl (upd cl nT (nI (cA (g 3) (nI (20 + u_257) - 1) sp k)))))]) hC dL_law_449 (k_X3_ofStation l D cI cZ cT z1 a b _ _ _ _ _ _ _ hA.1 k c5 _ (Or.inl rfl)) gL_law_X3_ofStation rfl ⟨rfl, rfl⟩ (by decide +kernel) ⟨Nat.le_of_ble_eq_true rfl, Nat.le_of_ble_eq_true rfl⟩ (rm_ok (by omega) (by omega)) rfl rfl rfl rfl rfl (by exact Nat.le_of_ble_eq_true rfl) rfl (fun r_449 u_449 h_449 => ?_)
                                                  subst h_449
                                                  refine V_ws (ws' := (W6 cI cZ cT z1 a b t' g' tI gI z2 (upd cl nT (nI (cA (g 3) (nI (20 + u_257) - 1) sp k))))) rfl ?_
                                                  rw [show q_stn g' k 0 = g' 3 k from rfl, hg3]
                                                  refine V_iload hC dL_law_452 rfl rfl ?_
                                                  refine V_iconst (v := 1) hC dL_law_454 (by decide) rfl ?_
                                                  refine V_isub hC dL_law_455 rfl ?_
                                                  refine V_icmp_lt (tgt := 463) hC dL_law_456 (by decide) rfl (fun c_456 => ?_) (fun c_456 => ?_)
                                                  · refine V_iconst (v := 0) hC dL_law_463 (by decide) rfl ?_
                                                    refine V_iadd hC dL_law_464 rfl ?_
                                                    refine V_iast (q0 := 31) hC dL_law_465 rfl 0 rfl rfl hT4 (by decide) W6_s rfl ?_
                                                    refine V_iinc hC dL_law_466 rfl (nI_1 k) (Nat.le_of_ble_eq_true rfl) rfl ?_
                                                    refine V_goto (tgt := 429) hC dL_law_469 (by decide) ?_
                                                    refine V_ws (ws' := (W6 cI cZ cT z1 a b t' g' tI gI z2 (upd cl nT (nI (cA (g 3) (nI (20 + u_257) - 1) sp (k + 1)))))) (by rw [upd_upd]; first | rw [cA_s0 c_442] | rw [cA_s1 c_442 c_456] | rw [cA_s2 c_442 c_456]) ?_
                                                    exact V_to (ih_5 (k + 1) (by omega) (by omega)) (lc rfl (lc rfl (lc rfl (lc rfl (lc rfl (lc rfl (lc rfl (lc rfl (lc rfl (lc rfl (lc rfl ln)))))))))))
                                                  · refine V_iconst (v := 1) hC dL_law_459 (by decide) rfl ?_
                                                    refine V_goto (tgt := 464) hC dL_law_460 (by decide) ?_
                                                    refine V_iadd hC dL_law_464 rfl ?_
                                                    refine V_iast (q0 := 31) hC dL_law_465 rfl 0 rfl rfl hT4 (by decide) W6_s rfl ?_
                                                    refine V_iinc hC dL_law_466 rfl (nI_1 k) (Nat.le_of_ble_eq_true rfl) rfl ?_
                                                    refine V_goto (tgt := 429) hC dL_law_469 (by decide) ?_
                                                    refine V_ws (ws' := (W6 cI cZ cT z1 a b t' g' tI gI z2 (upd cl nT (nI (cA (g 3) (nI (20 + u_257) - 1) sp (k + 1)))))) (by rw [upd_upd]; first | rw [cA_s0 c_442] | rw [cA_s1 c_442 c_456] | rw [cA_s2 c_442 c_456]) ?_
                                                    exact V_to (ih_5 (k + 1) (by omega) (by omega)) (lc rfl (lc rfl (lc rfl (lc rfl (lc rfl (lc rfl (lc rfl (lc rfl (lc rfl (lc rfl (lc rfl ln)))))))))))
                                          refine V_ws (ws' := (W6 cI cZ cT z1 a b t' g' tI gI z2 (upd cl nT (nI (cA (g 3) (nI (20 + u_257) - 1) sp 0))))) (by rw [cA_0 (hc0 nT (Nat.le_refl _))]) ?_
                                          exact V_to (loop_429 _ 0 (Nat.lt_succ_self _) (by omega)) (lc rfl (lc rfl (lc rfl (lc rfl (lc rfl (lc rfl (lc rfl (lc rfl (lc rfl (lc rfl (lc (kv nI_0.symm) ln)))))))))))
                                        · exact absurd rfl c_421
                                refine V_iload hC dL_law_332 rfl rfl ?_
                                refine V_bipush (v := 6) hC dL_law_334 (by decide) rfl ?_
                                refine V_ishr hC dL_law_336 rfl ?_
                                refine V_iconst (v := 2) hC dL_law_337 (by decide) rfl ?_
                                refine V_callIS0 (n := 2) hC dL_law_338 (k_L_below l D cI cZ cT _ 2 (by decide) (by decide)) gL_law_L_below rfl ⟨rfl, rfl⟩ (by decide +kernel) ⟨Nat.le_of_ble_eq_true rfl, Nat.le_of_ble_eq_true rfl⟩ (rm_ok (by omega) (by omega)) rfl rfl (by exact Nat.le_of_ble_eq_true rfl) rfl (fun r_338 u_338 h_338 => ?_)
                                refine V_if_ne (tgt := 348) hC dL_law_341 (by decide) rfl (fun c_341 => ?_) (fun c_341 => ?_)
                                · refine V_iconst (v := 0) hC dL_law_348 (by decide) rfl ?_
                                  refine V_istore hC dL_law_349 (Nat.le_of_ble_eq_true rfl) rfl ?_
                                  exact V_to (join_351 _ (by first | exact Or.inl rfl | exact Or.inr rfl)) (lc rfl (lc rfl (lc rfl (lc rfl (lc rfl (lc rfl (lc rfl (lc rfl (lc rfl (lc rfl ln))))))))))
                                · refine V_iconst (v := 1) hC dL_law_344 (by decide) rfl ?_
                                  refine V_goto (tgt := 349) hC dL_law_345 (by decide) ?_
                                  refine V_istore hC dL_law_349 (Nat.le_of_ble_eq_true rfl) rfl ?_
                                  exact V_to (join_351 _ (by first | exact Or.inl rfl | exact Or.inr rfl)) (lc rfl (lc rfl (lc rfl (lc rfl (lc rfl (lc rfl (lc rfl (lc rfl (lc rfl (lc rfl ln))))))))))
                              · refine V_goto (tgt := 798) hC dL_law_329 (by decide) ?_
                                refine V_widen (k := 100 + 60 * time + 48) (n := 1000 + 300 * time + 192) (by omega) (by omega) ?_
                                first
                                | exact V_to (join_798 _ _ _ _ _ _ hJ (by omega) hJc) (lc rfl (lc rfl (lc rfl (lc rfl (lc rfl (lc rfl (lc rfl ln)))))))
                                | exact V_to (join_798 _ _ _ _ _ _ (hJ _ (by first | exact Or.inl rfl | exact Or.inr rfl)) (by omega) hJc) (lc rfl (lc rfl (lc rfl (lc rfl (lc rfl (lc rfl (lc rfl ln)))))))
                            · have c4 := nI_nle' c_281 (by omega) (by omega)
                              refine V_iload hC dL_law_284 rfl rfl ?_
                              refine V_aload_n hC dL_law_286 rfl rfl rfl ?_
                              refine V_iload hC dL_law_287 rfl rfl ?_
                              refine V_bipush (v := 7) hC dL_law_289 (by decide) rfl ?_
                              refine V_callIVf (q0 := 0) (n := 2) (pre := []) (suf := [(z2, .inl (cI, 4, .inl cl))]) hC dL_law_291 (k_X3_ofTrain l D cI cZ cT z1 a b _ _ _ _ _ _ _ hli.1 k c4 _ (by decide)) gL_law_X3_ofTrain rfl ⟨rfl, rfl⟩ (by decide +kernel) ⟨Nat.le_of_ble_eq_true rfl, Nat.le_of_ble_eq_true rfl⟩ (rm_ok (by omega) (by omega)) rfl rfl rfl rfl rfl (by exact Nat.le_of_ble_eq_true rfl) rfl (fun r_291 u_291 h_291 => ?_)
                              subst h_291
                              refine V_ws (ws' := (W6 cI cZ cT z1 a b t g tI gI z2 cl)) rfl ?_
                              rw [qt7]
                              refine V_iconst (v := 1) hC dL_law_294 (by decide) rfl ?_
                              refine V_icmp_eq (tgt := 310) hC dL_law_295 (by decide) rfl (fun c_295 => ?_) (fun c_295 => ?_)
                              · refine V_iconst (v := 1) hC dL_law_310 (by decide) rfl ?_
                                refine V_goto (tgt := 315) hC dL_law_311 (by decide) ?_
                                refine V_iand hC dL_law_315 rfl ?_
                                refine V_istore hC dL_law_316 (Nat.le_of_ble_eq_true rfl) rfl ?_
                                refine V_iinc hC dL_law_318 rfl (nI_1 k) (Nat.le_of_ble_eq_true rfl) rfl ?_
                                refine V_goto (tgt := 278) hC dL_law_321 (by decide) ?_
                                refine V_to (ih_4 (k + 1) _ (by omega) (by omega) ?_) (lc rfl (lc rfl (lc rfl (lc rfl (lc rfl (lc rfl (lc rfl (lc rfl (lc rfl (lc rfl (lc rfl ln)))))))))))
                                rcases hv4 with ⟨rfl, h4, hj⟩ | rfl
                                · first
                                  | exact Or.inl ⟨by decide, h4, fun j hj2 => (Nat.lt_succ_iff_lt_or_eq.mp hj2).elim (hj j) (fun e => e ▸ Or.inl c_295)⟩
                                  | exact Or.inl ⟨by decide, h4, fun j hj2 => (Nat.lt_succ_iff_lt_or_eq.mp hj2).elim (hj j) (fun e => e ▸ Or.inr (Int32.not_le.mp c_307))⟩
                                  | exact Or.inr (by decide)
                                · exact Or.inr (by decide)
                              · refine V_aload_n hC dL_law_298 rfl rfl rfl ?_
                                refine V_iload hC dL_law_299 rfl rfl ?_
                                refine V_iconst (v := 1) hC dL_law_301 (by decide) rfl ?_
                                refine V_callIVf (q0 := 0) (n := 2) (pre := []) (suf := [(z2, .inl (cI, 4, .inl cl))]) hC dL_law_302 (k_X3_ofTrain l D cI cZ cT z1 a b _ _ _ _ _ _ _ hli.1 k c4 _ (by decide)) gL_law_X3_ofTrain rfl ⟨rfl, rfl⟩ (by decide +kernel) ⟨Nat.le_of_ble_eq_true rfl, Nat.le_of_ble_eq_true rfl⟩ (rm_ok (by omega) (by omega)) rfl rfl rfl rfl rfl (by exact Nat.le_of_ble_eq_true rfl) rfl (fun r_302 u_302 h_302 => ?_)
                                subst h_302
                                refine V_ws (ws' := (W6 cI cZ cT z1 a b t g tI gI z2 cl)) rfl ?_
                                rw [qt1]
                                refine V_iload hC dL_law_305 rfl rfl ?_
                                refine V_icmp_le (tgt := 314) hC dL_law_307 (by decide) rfl (fun c_307 => ?_) (fun c_307 => ?_)
                                · refine V_iconst (v := 0) hC dL_law_314 (by decide) rfl ?_
                                  refine V_iand hC dL_law_315 rfl ?_
                                  refine V_istore hC dL_law_316 (Nat.le_of_ble_eq_true rfl) rfl ?_
                                  refine V_iinc hC dL_law_318 rfl (nI_1 k) (Nat.le_of_ble_eq_true rfl) rfl ?_
                                  refine V_goto (tgt := 278) hC dL_law_321 (by decide) ?_
                                  refine V_to (ih_4 (k + 1) _ (by omega) (by omega) ?_) (lc rfl (lc rfl (lc rfl (lc rfl (lc rfl (lc rfl (lc rfl (lc rfl (lc rfl (lc rfl (lc rfl ln)))))))))))
                                  rcases hv4 with ⟨rfl, h4, hj⟩ | rfl
                                  · first
                                    | exact Or.inl ⟨by decide, h4, fun j hj2 => (Nat.lt_succ_iff_lt_or_eq.mp hj2).elim (hj j) (fun e => e ▸ Or.inl c_295)⟩
                                    | exact Or.inl ⟨by decide, h4, fun j hj2 => (Nat.lt_succ_iff_lt_or_eq.mp hj2).elim (hj j) (fun e => e ▸ Or.inr (Int32.not_le.mp c_307))⟩
                                    | exact Or.inr (by decide)
                                  · exact Or.inr (by decide)
                                · refine V_iconst (v := 1) hC dL_law_310 (by decide) rfl ?_
                                  refine V_goto (tgt := 315) hC dL_law_311 (by decide) ?_
                                  refine V_iand hC dL_law_315 rfl ?_
                                  refine V_istore hC dL_law_316 (Nat.le_of_ble_eq_true rfl) rfl ?_
                                  refine V_iinc hC dL_law_318 rfl (nI_1 k) (Nat.le_of_ble_eq_true rfl) rfl ?_
                                  refine V_goto (tgt := 278) hC dL_law_321 (by decide) ?_
                                  refine V_to (ih_4 (k + 1) _ (by omega) (by omega) ?_) (lc rfl (lc rfl (lc rfl (lc rfl (lc rfl (lc rfl (lc rfl (lc rfl (lc rfl (lc rfl (lc rfl ln)))))))))))
                                  rcases hv4 with ⟨rfl, h4, hj⟩ | rfl
                                  · first
                                    | exact Or.inl ⟨by decide, h4, fun j hj2 => (Nat.lt_succ_iff_lt_or_eq.mp hj2).elim (hj j) (fun e => e ▸ Or.inl c_295)⟩
                                    | exact Or.inl ⟨by decide, h4, fun j hj2 => (Nat.lt_succ_iff_lt_or_eq.mp hj2).elim (hj j) (fun e => e ▸ Or.inr (Int32.not_le.mp c_307))⟩
                                    | exact Or.inr (by decide)
                                  · exact Or.inr (by decide)
                        exact V_to (loop_278 _ 0 _ (Nat.lt_succ_self _) (by omega) (hv.imp (fun z => ⟨z.1, z.2, fun j hj => absurd hj (Nat.not_lt_zero _)⟩) id)) (lc rfl (lc rfl (lc rfl (lc rfl (lc rfl (lc rfl (lc rfl (lc rfl (lc rfl (lc rfl (lc (kv nI_0.symm) ln)))))))))))
                      refine V_iload_n hC dL_law_263 rfl rfl rfl ?_
                      refine V_iconst (v := 4) hC dL_law_264 (by decide) rfl ?_
                      refine V_icmp_ge (tgt := 272) hC dL_law_265 (by decide) rfl (fun c_265 => ?_) (fun c_265 => ?_)
                      · refine V_iconst (v := 0) hC dL_law_272 (by decide) rfl ?_
                        refine V_istore hC dL_law_273 (Nat.le_of_ble_eq_true rfl) rfl ?_
                        exact V_to (join_275 _ (by first | exact Or.inl ⟨rfl, nI_nle' (a := 4) c_265 (by omega) (by omega)⟩ | exact Or.inr rfl)) (lc rfl (lc rfl (lc rfl (lc rfl (lc rfl (lc rfl (lc rfl (lc rfl (lc rfl (lc rfl ln))))))))))
                      · refine V_iconst (v := 1) hC dL_law_268 (by decide) rfl ?_
                        refine V_goto (tgt := 273) hC dL_law_269 (by decide) ?_
                        refine V_istore hC dL_law_273 (Nat.le_of_ble_eq_true rfl) rfl ?_
                        exact V_to (join_275 _ (by first | exact Or.inl ⟨rfl, nI_nle' (a := 4) c_265 (by omega) (by omega)⟩ | exact Or.inr rfl)) (lc rfl (lc rfl (lc rfl (lc rfl (lc rfl (lc rfl (lc rfl (lc rfl (lc rfl (lc rfl ln))))))))))
                    refine V_callIS0 (n := 2) hC dL_law_206 (k_L_below l D cI cZ cT _ 12 (by decide) (by decide)) gL_law_L_below rfl ⟨rfl, rfl⟩ (by decide +kernel) ⟨Nat.le_of_ble_eq_true rfl, Nat.le_of_ble_eq_true rfl⟩ (rm_ok (by omega) (by omega)) rfl rfl (by exact Nat.le_of_ble_eq_true rfl) rfl (fun r_206 u_206 h_206 => ?_)
                    by_cases w_0 : r_206 = 0
                    · subst w_0
                      refine V_tableIn (tgt := 248) (off := 39) hC dL_law_209 (by decide) (by decide) (by decide) (by decide) ?_
                      refine V_widen (k := 100 + 60 * time) (n := 1000 + 300 * time) (by omega) (by omega) ?_
                      exact V_to join_248 (lc rfl (lc rfl (lc rfl (lc rfl (lc rfl (lc rfl (lc rfl (lc rfl ln))))))))
                    by_cases w_1 : r_206 = 1
                    · subst w_1
                      refine V_tableIn (tgt := 248) (off := 39) hC dL_law_209 (by decide) (by decide) (by decide) (by decide) ?_
                      refine V_widen (k := 100 + 60 * time) (n := 1000 + 300 * time) (by omega) (by omega) ?_
                      exact V_to join_248 (lc rfl (lc rfl (lc rfl (lc rfl (lc rfl (lc rfl (lc rfl (lc rfl ln))))))))
                    by_cases w_2 : r_206 = 2
                    · subst w_2
                      refine V_tableIn (tgt := 478) (off := 269) hC dL_law_209 (by decide) (by decide) (by decide) (by decide) ?_
                      refine V_iload_n hC dL_law_478 rfl rfl rfl ?_
                      refine V_if_le (tgt := 798) hC dL_law_479 (by decide) rfl (fun c_479 => ?_) (fun c_479 => ?_)
                      · refine V_widen (k := 100 + 60 * time + 48) (n := 1000 + 300 * time + 192) (by omega) (by omega) ?_
                        first
                        | exact V_to (join_798 _ _ _ _ _ _ hJ (by omega) hJc) (lc rfl (lc rfl (lc rfl (lc rfl (lc rfl (lc rfl (lc rfl ln)))))))
                        | exact V_to (join_798 _ _ _ _ _ _ (hJ _ (by first | exact Or.inl rfl | exact Or.inr rfl)) (by omega) hJc) (lc rfl (lc rfl (lc rfl (lc rfl (lc rfl (lc rfl (lc rfl ln)))))))
                      · have hTp : 0 < nT := Nat.pos_of_ne_zero (fun z => c_479 (by rw [z]; decide))
                        refine V_aload_n hC dL_law_482 rfl rfl rfl ?_
                        refine V_iload hC dL_law_483 rfl rfl ?_
                        refine V_iconst (v := 3) hC dL_law_485 (by decide) rfl ?_
                        refine V_ishr hC dL_law_486 rfl ?_
                        refine V_iload_n hC dL_law_487 rfl rfl rfl ?_
                        refine V_callIS0 (n := 2) hC dL_law_488 (k_L_below l D cI cZ cT _ nT hTp (by omega)) gL_law_L_below rfl ⟨rfl, rfl⟩ (by decide +kernel) ⟨Nat.le_of_ble_eq_true rfl, Nat.le_of_ble_eq_true rfl⟩ (rm_ok (by omega) (by omega)) rfl rfl (by exact Nat.le_of_ble_eq_true rfl) rfl (fun r_488 u_488 h_488 => ?_)
                        obtain ⟨rfl, b_488⟩ := h_488
                        refine V_iload hC dL_law_491 rfl rfl ?_
                        refine V_bipush (v := 6) hC dL_law_493 (by decide) rfl ?_
                        refine V_ishr hC dL_law_495 rfl ?_
                        refine V_iconst (v := 2) hC dL_law_496 (by decide) rfl ?_
                        refine V_callIS0 (n := 2) hC dL_law_497 (k_L_below l D cI cZ cT _ 2 (by decide) (by decide)) gL_law_L_below rfl ⟨rfl, rfl⟩ (by decide +kernel) ⟨Nat.le_of_ble_eq_true rfl, Nat.le_of_ble_eq_true rfl⟩ (rm_ok (by omega) (by omega)) rfl rfl (by exact Nat.le_of_ble_eq_true rfl) rfl (fun r_497 u_497 h_497 => ?_)
                        refine V_if_ne (tgt := 507) hC dL_law_500 (by decide) rfl (fun c_500 => ?_) (fun c_500 => ?_)
                        · refine V_iconst (v := 0) hC dL_law_507 (by decide) rfl ?_
                          refine V_callIVf (q0 := 0) (n := 2) (pre := []) (suf := [(z2, .inl (cI, 4, .inl cl))]) hC dL_law_508 (k_X3_whole l D cI cZ cT z1 a b _ _ _ _ _ _ _ hli.1 u_488 b_488 _ (by first | exact Or.inl rfl | exact Or.inr rfl)) gL_law_X3_whole rfl ⟨rfl, rfl⟩ (by decide +kernel) ⟨Nat.le_of_ble_eq_true rfl, Nat.le_of_ble_eq_true rfl⟩ (rm_ok (by omega) (by omega)) rfl rfl rfl rfl rfl (by exact Nat.le_of_ble_eq_true rfl) rfl (fun r_508 u_508 h_508 => ?_)
                          subst h_508
                          have hJ := fun (v : Int32) (hv : b01 v) => hli.whole b_488 hv
                          refine V_ws (ws' := (W6 cI cZ cT z1 a b (up2 t u_488 3 _) g tI gI z2 cl)) rfl ?_
                          refine V_pop hC dL_law_511 rfl rfl ?_
                          refine V_goto (tgt := 798) hC dL_law_512 (by decide) ?_
                          refine V_widen (k := 100 + 60 * time + 48) (n := 1000 + 300 * time + 192) (by omega) (by omega) ?_
                          first
                          | exact V_to (join_798 _ _ _ _ _ _ hJ (by omega) hJc) (lc rfl (lc rfl (lc rfl (lc rfl (lc rfl (lc rfl (lc rfl ln)))))))
                          | exact V_to (join_798 _ _ _ _ _ _ (hJ _ (by first | exact Or.inl rfl | exact Or.inr rfl)) (by omega) hJc) (lc rfl (lc rfl (lc rfl (lc rfl (lc rfl (lc rfl (lc rfl ln)))))))
                        · refine V_iconst (v := 1) hC dL_law_503 (by decide) rfl ?_
                          refine V_goto (tgt := 508) hC dL_law_504 (by decide) ?_
                          refine V_callIVf (q0 := 0) (n := 2) (pre := []) (suf := [(z2, .inl (cI, 4, .inl cl))]) hC dL_law_508 (k_X3_whole l D cI cZ cT z1 a b _ _ _ _ _ _ _ hli.1 u_488 b_488 _ (by first | exact Or.inl rfl | exact Or.inr rfl)) gL_law_X3_whole rfl ⟨rfl, rfl⟩ (by decide +kernel) ⟨Nat.le_of_ble_eq_true rfl, Nat.le_of_ble_eq_true rfl⟩ (rm_ok (by omega) (by omega)) rfl rfl rfl rfl rfl (by exact Nat.le_of_ble_eq_true rfl) rfl (fun r_508 u_508 h_508 => ?_)
                          subst h_508
                          have hJ := fun (v : Int32) (hv : b01 v) => hli.whole b_488 hv
                          refine V_ws (ws' := (W6 cI cZ cT z1 a b (up2 t u_488 3 _) g tI gI z2 cl)) rfl ?_
                          refine V_pop hC dL_law_511 rfl rfl ?_
                          refine V_goto (tgt := 798) hC dL_law_512 (by decide) ?_
                          refine V_widen (k := 100 + 60 * time + 48) (n := 1000 + 300 * time + 192) (by omega) (by omega) ?_
                          first
                          | exact V_to (join_798 _ _ _ _ _ _ hJ (by omega) hJc) (lc rfl (lc rfl (lc rfl (lc rfl (lc rfl (lc rfl (lc rfl ln)))))))
                          | exact V_to (join_798 _ _ _ _ _ _ (hJ _ (by first | exact Or.inl rfl | exact Or.inr rfl)) (by omega) hJc) (lc rfl (lc rfl (lc rfl (lc rfl (lc rfl (lc rfl (lc rfl ln)))))))
                    by_cases w_3 : r_206 = 3
                    · subst w_3
                      refine V_tableIn (tgt := 515) (off := 306) hC dL_law_209 (by decide) (by decide) (by decide) (by decide) ?_
                      refine V_iload hC dL_law_515 rfl rfl ?_
                      refine V_iconst (v := 3) hC dL_law_517 (by decide) rfl ?_
                      refine V_ishr hC dL_law_518 rfl ?_
                      refine V_bipush (v := 20) hC dL_law_519 (by decide) rfl ?_
                      refine V_callIS0 (n := 2) hC dL_law_521 (k_L_below l D cI cZ cT _ 20 (by decide) (by decide)) gL_law_L_below rfl ⟨rfl, rfl⟩ (by decide +kernel) ⟨Nat.le_of_ble_eq_true rfl, Nat.le_of_ble_eq_true rfl⟩ (rm_ok (by omega) (by omega)) rfl rfl (by exact Nat.le_of_ble_eq_true rfl) rfl (fun r_521 u_521 h_521 => ?_)
                      obtain ⟨rfl, b_521⟩ := h_521
                      refine V_istore hC dL_law_524 (Nat.le_of_ble_eq_true rfl) rfl ?_
                      refine V_bipush (v := 19) hC dL_law_526 (by decide) rfl ?_
                      refine V_iload hC dL_law_528 rfl rfl ?_
                      refine V_iload hC dL_law_530 rfl rfl ?_
                      refine V_bipush (v := 6) hC dL_law_532 (by decide) rfl ?_
                      refine V_ishr hC dL_law_534 rfl ?_
                      refine V_iconst (v := 3) hC dL_law_535 (by decide) rfl ?_
                      refine V_callIS0 (n := 2) hC dL_law_536 (k_L_below l D cI cZ cT _ 3 (by decide) (by decide)) gL_law_L_below rfl ⟨rfl, rfl⟩ (by decide +kernel) ⟨Nat.le_of_ble_eq_true rfl, Nat.le_of_ble_eq_true rfl⟩ (rm_ok (by omega) (by omega)) rfl rfl (by exact Nat.le_of_ble_eq_true rfl) rfl (fun r_536 u_536 h_536 => ?_)
                      obtain ⟨rfl, b_536⟩ := h_536
                      refine V_iadd hC dL_law_539 rfl ?_
                      refine V_mmin hC dL_law_540 ml46_L_law msmin_L_law mi_L_law mcmin_L_law (Nat.le_of_ble_eq_true rfl) (Nat.le_of_ble_eq_true rfl) (rm_c (by omega)) (rm_s (by omega)) rfl ?_
                      obtain ⟨e, he, hfe, ee⟩ := min19 b_521 b_536
                      rw [ee]
                      refine V_istore hC dL_law_543 (Nat.le_of_ble_eq_true rfl) rfl ?_
                      refine V_iload hC dL_law_545 rfl rfl ?_
                      refine V_iconst (v := 3) hC dL_law_547 (by decide) rfl ?_
                      refine V_icmp_ne (tgt := 554) hC dL_law_548 (by decide) rfl (fun c_548 => ?_) (fun c_548 => ?_)
                      · have hW3 : nW < 3 := (Nat.lt_or_eq_of_le nW3).elim id (fun q => absurd (by rw [q]; rfl) c_548)
                        refine V_aload_n hC dL_law_554 rfl rfl rfl ?_
                        refine V_iload hC dL_law_555 rfl rfl ?_
                        refine V_iload hC dL_law_557 rfl rfl ?_
                        refine V_callIVf (q0 := 0) (n := 2) (pre := []) (suf := [(z2, .inl (cI, 4, .inl cl))]) hC dL_law_559 (k_X3_works l D cI cZ cT z1 a b _ _ _ _ _ _ _ hli.1 u_521 e b_521 he hfe hW3) gL_law_X3_works rfl ⟨rfl, rfl⟩ (by decide +kernel) ⟨Nat.le_of_ble_eq_true rfl, Nat.le_of_ble_eq_true rfl⟩ (rm_ok (by omega) (by omega)) rfl rfl rfl rfl rfl (by exact Nat.le_of_ble_eq_true rfl) rfl (fun r_559 u_559 h_559 => ?_)
                        subst h_559
                        rcases hind_or t (nI u_521) (nI e) nT with hh | hh | hh
                        · obtain ⟨G, hG, hJ, hwk⟩ := wrk_law hli hW3 b_521 he hh
                          rw [if_pos hh, if_pos hh, hG]
                          refine V_ws (ws' := (W6 cI cZ cT z1 a b t G tI gI z2 cl)) rfl ?_
                          refine V_istore hC dL_law_562 (Nat.le_of_ble_eq_true rfl) rfl ?_
                          refine V_iload hC dL_law_564 rfl rfl ?_
                          refine V_bipush (v := (-2)) hC dL_law_566 (by decide) rfl ?_
                          refine V_icmp_eq (tgt := 589) hC dL_law_568 (by decide) rfl (fun c_568 => ?_) (fun c_568 => ?_)
                          · exact absurd c_568 (nI_n2 (by omega))
                          · refine V_iload hC dL_law_571 rfl rfl ?_
                            refine V_bipush (v := (-3)) hC dL_law_573 (by decide) rfl ?_
                            refine V_icmp_eq (tgt := 589) hC dL_law_575 (by decide) rfl (fun c_575 => ?_) (fun c_575 => ?_)
                            · exact absurd c_575 (nI_n3 (by omega))
                            · refine V_iload hC dL_law_578 rfl rfl ?_
                              refine V_iload hC dL_law_580 rfl rfl ?_
                              refine V_iconst (v := 1) hC dL_law_582 (by decide) rfl ?_
                              refine V_iadd hC dL_law_583 rfl ?_
                              refine V_icmp_eq (tgt := 589) hC dL_law_584 (by decide) rfl (fun c_584 => ?_) (fun c_584 => ?_)
                              · refine V_iload hC dL_law_589 rfl rfl ?_
                                refine V_iload hC dL_law_591 rfl rfl ?_
                                refine V_if_le (tgt := 600) hC dL_law_593 (by decide) rfl (fun c_593 => ?_) (fun c_593 => ?_)
                                · exact absurd c_593 (nI_nle (by omega) (by omega))
                                · refine V_iconst (v := 1) hC dL_law_596 (by decide) rfl ?_
                                  refine V_goto (tgt := 601) hC dL_law_597 (by decide) ?_
                                  refine V_iadd hC dL_law_601 rfl ?_
                                  rw [nI_1]
                                  refine V_istore hC dL_law_602 (Nat.le_of_ble_eq_true rfl) rfl ?_
                                  refine V_iload hC dL_law_604 rfl rfl ?_
                                  refine V_istore hC dL_law_606 (Nat.le_of_ble_eq_true rfl) rfl ?_
                                  have loop_608 : ∀ (d k : Nat), e + 1 - k < d → u_521 ≤ k → k ≤ e + 1 → V X (100 + 60 * time) (1000 + 300 * time) (W6 cI cZ cT z1 a b t G tI gI z2 cl) [(0, .ref sb), (1, .ref z1), (2, .int (nI u_100)), (3, .int (nI nT)), (4, .int (nI (nW + 1))), (5, .ref z2), (6, .int (nI time)), (9, .int (nI e)), (10, .int (nI (nW + 1))), (11, .int (nI k))] 608 [] := by
                                    intro d_6
                                    induction d_6 with
                                    | zero => intro k; intros; omega
                                    | succ d_6 ih_6 =>
                                      intro k hd6 hk6 hk7
                                      refine V_iload hC dL_law_608 rfl rfl ?_
                                      refine V_iload hC dL_law_610 rfl rfl ?_
                                      refine V_icmp_gt (tgt := 649) hC dL_law_612 (by decide) rfl (fun c_612 => ?_) (fun c_612 => ?_)
                                      · refine V_goto (tgt := 798) hC dL_law_649 (by decide) ?_
                                        refine V_widen (k := 100 + 60 * time + 48) (n := 1000 + 300 * time + 192) (by omega) (by omega) ?_
                                        first
                                        | exact V_to (join_798 _ _ _ _ _ _ hJ (by omega) hJc) (lc rfl (lc rfl (lc rfl (lc rfl (lc rfl (lc rfl (lc rfl ln)))))))
                                        | exact V_to (join_798 _ _ _ _ _ _ (hJ _ (by first | exact Or.inl rfl | exact Or.inr rfl)) (by omega) hJc) (lc rfl (lc rfl (lc rfl (lc rfl (lc rfl (lc rfl (lc rfl ln)))))))
                                      · have c7 := Nat.not_lt.mp (fun z => c_612 (nI_lt z (by omega)))
                                        refine V_iload hC dL_law_615 rfl rfl ?_
                                        refine V_if_le (tgt := 649) hC dL_law_617 (by decide) rfl (fun c_617 => ?_) (fun c_617 => ?_)
                                        · exact absurd c_617 (nI_nle (by omega) (by omega))
                                        · refine V_aload_n hC dL_law_620 rfl rfl rfl ?_
                                          refine V_iload hC dL_law_621 rfl rfl ?_
                                          refine V_iconst (v := 3) hC dL_law_623 (by decide) rfl ?_
                                          refine V_callIVf (q0 := 0) (n := 2) (pre := []) (suf := [(z2, .inl (cI, 4, .inl cl))]) hC dL_law_624 (k_X3_ofSection l D cI cZ cT z1 a b _ _ _ _ _ _ _ hJ.1 k (by omega) _ (by decide)) gL_law_X3_ofSection rfl ⟨rfl, rfl⟩ (by decide +kernel) ⟨Nat.le_of_ble_eq_true rfl, Nat.le_of_ble_eq_true rfl⟩ (rm_ok (by omega) (by omega)) rfl rfl rfl rfl rfl (by exact Nat.le_of_ble_eq_true rfl) rfl (fun r_624 u_624 h_624 => ?_)
                                          subst h_624
                                          refine V_ws (ws' := (W6 cI cZ cT z1 a b t G tI gI z2 cl)) rfl ?_
                                          rw [(hwk k hk6 c7).1]
                                          refine V_if_ne (tgt := 641) hC dL_law_627 (by decide) rfl (fun c_627 => ?_) (fun c_627 => ?_)
                                          · exact absurd rfl c_627
                                          · refine V_aload_n hC dL_law_630 rfl rfl rfl ?_
                                            refine V_iload hC dL_law_631 rfl rfl ?_
                                            refine V_iconst (v := 4) hC dL_law_633 (by decide) rfl ?_
                                            refine V_callIVf (q0 := 0) (n := 2) (pre := []) (suf := [(z2, .inl (cI, 4, .inl cl))]) hC dL_law_634 (k_X3_ofSection l D cI cZ cT z1 a b _ _ _ _ _ _ _ hJ.1 k (by omega) _ (by decide)) gL_law_X3_ofSection rfl ⟨rfl, rfl⟩ (by decide +kernel) ⟨Nat.le_of_ble_eq_true rfl, Nat.le_of_ble_eq_true rfl⟩ (rm_ok (by omega) (by omega)) rfl rfl rfl rfl rfl (by exact Nat.le_of_ble_eq_true rfl) rfl (fun r_634 u_634 h_634 => ?_)
                                            subst h_634
                                            refine V_ws (ws' := (W6 cI cZ cT z1 a b t G tI gI z2 cl)) rfl ?_
                                            rw [(hwk k hk6 c7).2]
                                            refine V_iconst (v := 1) hC dL_law_637 (by decide) rfl ?_
                                            refine V_icmp_eq (tgt := 643) hC dL_law_638 (by decide) rfl (fun c_638 => ?_) (fun c_638 => ?_)
                                            · refine V_iinc hC dL_law_643 rfl (nI_1 k) (Nat.le_of_ble_eq_true rfl) rfl ?_
                                              refine V_goto (tgt := 608) hC dL_law_646 (by decide) ?_
                                              exact V_to (ih_6 (k + 1) (by omega) (by omega) (by omega)) (lc rfl (lc rfl (lc rfl (lc rfl (lc rfl (lc rfl (lc rfl (lc rfl (lc rfl (lc rfl ln))))))))))
                                            · exact absurd rfl c_638
                                  refine V_widen (k := 100 + 60 * time) (n := 1000 + 300 * time) (by omega) (by omega) ?_
                                  exact V_to (loop_608 _ u_521 (Nat.lt_succ_self _) (Nat.le_refl _) (by omega)) (lc rfl (lc rfl (lc rfl (lc rfl (lc rfl (lc rfl (lc rfl (lc rfl (lc rfl (lc rfl ln))))))))))
                              · exact absurd (nI_succ nW) c_584
                        · rw [if_neg (by rw [hh]; decide), if_neg (by rw [hh]; decide), hh]
                          refine V_ws (ws' := (W6 cI cZ cT z1 a b t g tI gI z2 cl)) rfl ?_
                          refine V_istore hC dL_law_562 (Nat.le_of_ble_eq_true rfl) rfl ?_
                          refine V_iload hC dL_law_564 rfl rfl ?_
                          refine V_bipush (v := (-2)) hC dL_law_566 (by decide) rfl ?_
                          refine V_icmp_eq (tgt := 589) hC dL_law_568 (by decide) rfl (fun c_568 => ?_) (fun c_568 => ?_)
                          · refine V_iload hC dL_law_589 rfl rfl ?_
                            refine V_iload hC dL_law_591 rfl rfl ?_
                            refine V_if_le (tgt := 600) hC dL_law_593 (by decide) rfl (fun c_593 => ?_) (fun c_593 => ?_)
                            · refine V_iconst (v := 0) hC dL_law_600 (by decide) rfl ?_
                              refine V_iadd hC dL_law_601 rfl ?_
                              rw [Int32.add_zero]
                              refine V_istore hC dL_law_602 (Nat.le_of_ble_eq_true rfl) rfl ?_
                              refine V_iload hC dL_law_604 rfl rfl ?_
                              refine V_istore hC dL_law_606 (Nat.le_of_ble_eq_true rfl) rfl ?_
                              refine V_iload hC dL_law_608 rfl rfl ?_
                              refine V_iload hC dL_law_610 rfl rfl ?_
                              refine V_icmp_gt (tgt := 649) hC dL_law_612 (by decide) rfl (fun c_612 => ?_) (fun c_612 => ?_)
                              · refine V_goto (tgt := 798) hC dL_law_649 (by decide) ?_
                                refine V_widen (k := 100 + 60 * time + 48) (n := 1000 + 300 * time + 192) (by omega) (by omega) ?_
                                first
                                | exact V_to (join_798 _ _ _ _ _ _ hJ (by omega) hJc) (lc rfl (lc rfl (lc rfl (lc rfl (lc rfl (lc rfl (lc rfl ln)))))))
                                | exact V_to (join_798 _ _ _ _ _ _ (hJ _ (by first | exact Or.inl rfl | exact Or.inr rfl)) (by omega) hJc) (lc rfl (lc rfl (lc rfl (lc rfl (lc rfl (lc rfl (lc rfl ln)))))))
                              · have c7 := Nat.not_lt.mp (fun z => c_612 (nI_lt z (by omega)))
                                refine V_iload hC dL_law_615 rfl rfl ?_
                                refine V_if_le (tgt := 649) hC dL_law_617 (by decide) rfl (fun c_617 => ?_) (fun c_617 => ?_)
                                · refine V_goto (tgt := 798) hC dL_law_649 (by decide) ?_
                                  refine V_widen (k := 100 + 60 * time + 48) (n := 1000 + 300 * time + 192) (by omega) (by omega) ?_
                                  first
                                  | exact V_to (join_798 _ _ _ _ _ _ hJ (by omega) hJc) (lc rfl (lc rfl (lc rfl (lc rfl (lc rfl (lc rfl (lc rfl ln)))))))
                                  | exact V_to (join_798 _ _ _ _ _ _ (hJ _ (by first | exact Or.inl rfl | exact Or.inr rfl)) (by omega) hJc) (lc rfl (lc rfl (lc rfl (lc rfl (lc rfl (lc rfl (lc rfl ln)))))))
                                · exact absurd (by decide) c_617
                            · exact absurd (by decide) c_593
                          · exact absurd rfl c_568
                        · rw [if_neg (by rw [hh]; decide), if_neg (by rw [hh]; decide), hh]
                          refine V_ws (ws' := (W6 cI cZ cT z1 a b t g tI gI z2 cl)) rfl ?_
                          refine V_istore hC dL_law_562 (Nat.le_of_ble_eq_true rfl) rfl ?_
                          refine V_iload hC dL_law_564 rfl rfl ?_
                          refine V_bipush (v := (-2)) hC dL_law_566 (by decide) rfl ?_
                          refine V_icmp_eq (tgt := 589) hC dL_law_568 (by decide) rfl (fun c_568 => ?_) (fun c_568 => ?_)
                          · exact absurd c_568 (by decide)
                          · refine V_iload hC dL_law_571 rfl rfl ?_
                            refine V_bipush (v := (-3)) hC dL_law_573 (by decide) rfl ?_
                            refine V_icmp_eq (tgt := 589) hC dL_law_575 (by decide) rfl (fun c_575 => ?_) (fun c_575 => ?_)
                            · refine V_iload hC dL_law_589 rfl rfl ?_
                              refine V_iload hC dL_law_591 rfl rfl ?_
                              refine V_if_le (tgt := 600) hC dL_law_593 (by decide) rfl (fun c_593 => ?_) (fun c_593 => ?_)
                              · refine V_iconst (v := 0) hC dL_law_600 (by decide) rfl ?_
                                refine V_iadd hC dL_law_601 rfl ?_
                                rw [Int32.add_zero]
                                refine V_istore hC dL_law_602 (Nat.le_of_ble_eq_true rfl) rfl ?_
                                refine V_iload hC dL_law_604 rfl rfl ?_
                                refine V_istore hC dL_law_606 (Nat.le_of_ble_eq_true rfl) rfl ?_
                                refine V_iload hC dL_law_608 rfl rfl ?_
                                refine V_iload hC dL_law_610 rfl rfl ?_
                                refine V_icmp_gt (tgt := 649) hC dL_law_612 (by decide) rfl (fun c_612 => ?_) (fun c_612 => ?_)
                                · refine V_goto (tgt := 798) hC dL_law_649 (by decide) ?_
                                  refine V_widen (k := 100 + 60 * time + 48) (n := 1000 + 300 * time + 192) (by omega) (by omega) ?_
                                  first
                                  | exact V_to (join_798 _ _ _ _ _ _ hJ (by omega) hJc) (lc rfl (lc rfl (lc rfl (lc rfl (lc rfl (lc rfl (lc rfl ln)))))))
                                  | exact V_to (join_798 _ _ _ _ _ _ (hJ _ (by first | exact Or.inl rfl | exact Or.inr rfl)) (by omega) hJc) (lc rfl (lc rfl (lc rfl (lc rfl (lc rfl (lc rfl (lc rfl ln)))))))
                                · have c7 := Nat.not_lt.mp (fun z => c_612 (nI_lt z (by omega)))
                                  refine V_iload hC dL_law_615 rfl rfl ?_
                                  refine V_if_le (tgt := 649) hC dL_law_617 (by decide) rfl (fun c_617 => ?_) (fun c_617 => ?_)
                                  · refine V_goto (tgt := 798) hC dL_law_649 (by decide) ?_
                                    refine V_widen (k := 100 + 60 * time + 48) (n := 1000 + 300 * time + 192) (by omega) (by omega) ?_
                                    first
                                    | exact V_to (join_798 _ _ _ _ _ _ hJ (by omega) hJc) (lc rfl (lc rfl (lc rfl (lc rfl (lc rfl (lc rfl (lc rfl ln)))))))
                                    | exact V_to (join_798 _ _ _ _ _ _ (hJ _ (by first | exact Or.inl rfl | exact Or.inr rfl)) (by omega) hJc) (lc rfl (lc rfl (lc rfl (lc rfl (lc rfl (lc rfl (lc rfl ln)))))))
                                  · exact absurd (by decide) c_617
                              · exact absurd (by decide) c_593
                            · exact absurd rfl c_575
                      · refine V_goto (tgt := 798) hC dL_law_551 (by decide) ?_
                        refine V_widen (k := 100 + 60 * time + 48) (n := 1000 + 300 * time + 192) (by omega) (by omega) ?_
                        first
                        | exact V_to (join_798 _ _ _ _ _ _ hJ (by omega) hJc) (lc rfl (lc rfl (lc rfl (lc rfl (lc rfl (lc rfl (lc rfl ln)))))))
                        | exact V_to (join_798 _ _ _ _ _ _ (hJ _ (by first | exact Or.inl rfl | exact Or.inr rfl)) (by omega) hJc) (lc rfl (lc rfl (lc rfl (lc rfl (lc rfl (lc rfl (lc rfl ln)))))))
                    by_cases w_4 : r_206 = 4
                    · subst w_4
                      refine V_tableIn (tgt := 652) (off := 443) hC dL_law_209 (by decide) (by decide) (by decide) (by decide) ?_
                      refine V_iload hC dL_law_652 rfl rfl ?_
                      refine V_if_ne (tgt := 660) hC dL_law_654 (by decide) rfl (fun c_654 => ?_) (fun c_654 => ?_)
                      · have hw0 : nW ≠ 0 := fun z => c_654 (by rw [z]; rfl)
                        obtain ⟨w, rfl⟩ : ∃ w, nW = w + 1 := ⟨nW - 1, by omega⟩
                        refine V_iinc hC dL_law_660 rfl (pk_m1 w) (Nat.le_of_ble_eq_true rfl) rfl ?_
                        refine V_aload_n hC dL_law_663 rfl rfl rfl ?_
                        refine V_iload hC dL_law_664 rfl rfl ?_
                        refine V_iconst (v := 3) hC dL_law_666 (by decide) rfl ?_
                        refine V_ishr hC dL_law_667 rfl ?_
                        refine V_iload hC dL_law_668 rfl rfl ?_
                        refine V_iconst (v := 1) hC dL_law_670 (by decide) rfl ?_
                        refine V_iadd hC dL_law_671 rfl ?_
                        rw [nI_1]
                        refine V_callIS0 (n := 2) hC dL_law_672 (k_L_below l D cI cZ cT _ (w + 1) (by omega) (by omega)) gL_law_L_below rfl ⟨rfl, rfl⟩ (by decide +kernel) ⟨Nat.le_of_ble_eq_true rfl, Nat.le_of_ble_eq_true rfl⟩ (rm_ok (by omega) (by omega)) rfl rfl (by exact Nat.le_of_ble_eq_true rfl) rfl (fun r_672 u_672 h_672 => ?_)
                        obtain ⟨rfl, b_672⟩ := h_672
                        refine V_callIVf (q0 := 0) (n := 1) (pre := []) (suf := [(z2, .inl (cI, 4, .inl cl))]) hC dL_law_675 (k_X3_end l D cI cZ cT z1 a b _ _ _ _ _ _ _ hli.1 u_672 b_672) gL_law_X3_end rfl ⟨rfl, rfl⟩ (by decide +kernel) ⟨Nat.le_of_ble_eq_true rfl, Nat.le_of_ble_eq_true rfl⟩ (rm_ok (by omega) (by omega)) rfl rfl rfl rfl rfl (by exact Nat.le_of_ble_eq_true rfl) rfl (fun r_675 u_675 h_675 => ?_)
                        subst h_675
                        have hJ := hli.end u_672 (w + 1 - 1 - u_672)
                        refine V_ws (ws' := (W6 cI cZ cT z1 a b t (up2 (m_sh g u_672 (w + 1 - 1 - u_672)) 8 3 (nI (w + 1 - 1))) tI gI z2 cl)) rfl ?_
                        refine V_iload hC dL_law_678 rfl rfl ?_
                        refine V_icmp_eq (tgt := 798) hC dL_law_680 (by decide) rfl (fun c_680 => ?_) (fun c_680 => ?_)
                        · refine V_widen (k := 100 + 60 * time + 48) (n := 1000 + 300 * time + 192) (by omega) (by omega) ?_
                          first
                          | exact V_to (join_798 _ _ _ _ _ _ hJ (by omega) hJc) (lc rfl (lc rfl (lc rfl (lc rfl (lc rfl (lc rfl (lc rfl ln)))))))
                          | exact V_to (join_798 _ _ _ _ _ _ (hJ _ (by first | exact Or.inl rfl | exact Or.inr rfl)) (by omega) hJc) (lc rfl (lc rfl (lc rfl (lc rfl (lc rfl (lc rfl (lc rfl ln)))))))
                        · exact absurd rfl c_680
                      · refine V_goto (tgt := 798) hC dL_law_657 (by decide) ?_
                        refine V_widen (k := 100 + 60 * time + 48) (n := 1000 + 300 * time + 192) (by omega) (by omega) ?_
                        first
                        | exact V_to (join_798 _ _ _ _ _ _ hJ (by omega) hJc) (lc rfl (lc rfl (lc rfl (lc rfl (lc rfl (lc rfl (lc rfl ln)))))))
                        | exact V_to (join_798 _ _ _ _ _ _ (hJ _ (by first | exact Or.inl rfl | exact Or.inr rfl)) (by omega) hJc) (lc rfl (lc rfl (lc rfl (lc rfl (lc rfl (lc rfl (lc rfl ln)))))))
                    by_cases w_5 : r_206 = 5
                    · subst w_5
                      refine V_tableIn (tgt := 685) (off := 476) hC dL_law_209 (by decide) (by decide) (by decide) (by decide) ?_
                      refine V_iload hC dL_law_685 rfl rfl ?_
                      refine V_iconst (v := 3) hC dL_law_687 (by decide) rfl ?_
                      refine V_ishr hC dL_law_688 rfl ?_
                      refine V_bipush (v := 20) hC dL_law_689 (by decide) rfl ?_
                      refine V_callIS0 (n := 2) hC dL_law_691 (k_L_below l D cI cZ cT _ 20 (by decide) (by decide)) gL_law_L_below rfl ⟨rfl, rfl⟩ (by decide +kernel) ⟨Nat.le_of_ble_eq_true rfl, Nat.le_of_ble_eq_true rfl⟩ (rm_ok (by omega) (by omega)) rfl rfl (by exact Nat.le_of_ble_eq_true rfl) rfl (fun r_691 u_691 h_691 => ?_)
                      obtain ⟨rfl, b_691⟩ := h_691
                      refine V_istore hC dL_law_694 (Nat.le_of_ble_eq_true rfl) rfl ?_
                      refine V_iconst (v := 5) hC dL_law_696 (by decide) rfl ?_
                      refine V_iload hC dL_law_697 rfl rfl ?_
                      refine V_iconst (v := 2) hC dL_law_699 (by decide) rfl ?_
                      refine V_ishr hC dL_law_700 rfl ?_
                      refine V_bipush (v := 36) hC dL_law_701 (by decide) rfl ?_
                      refine V_callIS0 (n := 2) hC dL_law_703 (k_L_below l D cI cZ cT _ 36 (by decide) (by decide)) gL_law_L_below rfl ⟨rfl, rfl⟩ (by decide +kernel) ⟨Nat.le_of_ble_eq_true rfl, Nat.le_of_ble_eq_true rfl⟩ (rm_ok (by omega) (by omega)) rfl rfl (by exact Nat.le_of_ble_eq_true rfl) rfl (fun r_703 u_703 h_703 => ?_)
                      obtain ⟨rfl, b_703⟩ := h_703
                      refine V_iadd hC dL_law_706 rfl ?_
                      refine V_istore hC dL_law_707 (Nat.le_of_ble_eq_true rfl) rfl ?_
                      refine V_aload_n hC dL_law_709 rfl rfl rfl ?_
                      refine V_iload hC dL_law_710 rfl rfl ?_
                      refine V_iload hC dL_law_712 rfl rfl ?_
                      refine V_iload hC dL_law_714 rfl rfl ?_
                      refine V_iconst (v := 4) hC dL_law_716 (by decide) rfl ?_
                      refine V_ishr hC dL_law_717 rfl ?_
                      refine V_iconst (v := 5) hC dL_law_718 (by decide) rfl ?_
                      refine V_callIS0 (n := 2) hC dL_law_719 (k_L_below l D cI cZ cT _ 5 (by decide) (by decide)) gL_law_L_below rfl ⟨rfl, rfl⟩ (by decide +kernel) ⟨Nat.le_of_ble_eq_true rfl, Nat.le_of_ble_eq_true rfl⟩ (rm_ok (by omega) (by omega)) rfl rfl (by exact Nat.le_of_ble_eq_true rfl) rfl (fun r_719 u_719 h_719 => ?_)
                      obtain ⟨rfl, b_719⟩ := h_719
                      refine V_iconst (v := 2) hC dL_law_722 (by decide) rfl ?_
                      refine V_isub hC dL_law_723 rfl ?_
                      refine V_iload hC dL_law_724 rfl rfl ?_
                      refine V_bipush (v := 6) hC dL_law_726 (by decide) rfl ?_
                      refine V_ishr hC dL_law_728 rfl ?_
                      refine V_iconst (v := 4) hC dL_law_729 (by decide) rfl ?_
                      refine V_callIS0 (n := 2) hC dL_law_730 (k_L_below l D cI cZ cT _ 4 (by decide) (by decide)) gL_law_L_below rfl ⟨rfl, rfl⟩ (by decide +kernel) ⟨Nat.le_of_ble_eq_true rfl, Nat.le_of_ble_eq_true rfl⟩ (rm_ok (by omega) (by omega)) rfl rfl (by exact Nat.le_of_ble_eq_true rfl) rfl (fun r_730 u_730 h_730 => ?_)
                      refine V_if_le (tgt := 740) hC dL_law_733 (by decide) rfl (fun c_733 => ?_) (fun c_733 => ?_)
                      · refine V_iconst (v := 0) hC dL_law_740 (by decide) rfl ?_
                        refine V_callIVf (q0 := 0) (n := 4) (pre := []) (suf := [(z2, .inl (cI, 4, .inl cl))]) hC dL_law_741 (k_X3_section l D cI cZ cT z1 a b _ _ _ _ u_691 b_691 _ _ _ (lim_in b_703).1 (gr_in b_719).1 (by first | exact Or.inl rfl | exact Or.inr rfl)) gL_law_X3_section rfl ⟨rfl, rfl⟩ (by decide +kernel) ⟨Nat.le_of_ble_eq_true rfl, Nat.le_of_ble_eq_true rfl⟩ (rm_ok (by omega) (by omega)) rfl rfl rfl rfl rfl (by exact Nat.le_of_ble_eq_true rfl) rfl (fun r_741 u_741 h_741 => ?_)
                        subst h_741
                        have hJ := fun (ra : Int32) (hra : b01 ra) => hli.section (k := u_691) (lim_in b_703).2 (gr_in b_719).2 hra
                        refine V_ws (ws' := (W6 cI cZ cT z1 a b t (up2 (up2 (up2 g 0 u_691 (5 + nI u_703)) 1 u_691 (nI u_719 - 2)) 2 u_691 _) tI gI z2 cl)) rfl ?_
                        refine V_pop hC dL_law_744 rfl rfl ?_
                        refine V_aload_n hC dL_law_745 rfl rfl rfl ?_
                        refine V_iload hC dL_law_746 rfl rfl ?_
                        refine V_iconst (v := 0) hC dL_law_748 (by decide) rfl ?_
                        refine V_callIVf (q0 := 0) (n := 2) (pre := []) (suf := [(z2, .inl (cI, 4, .inl cl))]) hC dL_law_749 (k_X3_ofSection l D cI cZ cT z1 a b _ _ _ _ _ _ _ (hJ _ (by first | exact Or.inl rfl | exact Or.inr rfl)).1 u_691 b_691 _ (by decide)) gL_law_X3_ofSection rfl ⟨rfl, rfl⟩ (by decide +kernel) ⟨Nat.le_of_ble_eq_true rfl, Nat.le_of_ble_eq_true rfl⟩ (rm_ok (by omega) (by omega)) rfl rfl rfl rfl rfl (by exact Nat.le_of_ble_eq_true rfl) rfl (fun r_749 u_749 h_749 => ?_)
                        subst h_749
                        refine V_ws (ws' := (W6 cI cZ cT z1 a b t (up2 (up2 (up2 g 0 u_691 (5 + nI u_703)) 1 u_691 (nI u_719 - 2)) 2 u_691 _) tI gI z2 cl)) rfl ?_
                        rw [sec_l]
                        refine V_iload hC dL_law_752 rfl rfl ?_
                        refine V_icmp_eq (tgt := 798) hC dL_law_754 (by decide) rfl (fun c_754 => ?_) (fun c_754 => ?_)
                        · refine V_widen (k := 100 + 60 * time + 48) (n := 1000 + 300 * time + 192) (by omega) (by omega) ?_
                          first
                          | exact V_to (join_798 _ _ _ _ _ _ hJ (by omega) hJc) (lc rfl (lc rfl (lc rfl (lc rfl (lc rfl (lc rfl (lc rfl ln)))))))
                          | exact V_to (join_798 _ _ _ _ _ _ (hJ _ (by first | exact Or.inl rfl | exact Or.inr rfl)) (by omega) hJc) (lc rfl (lc rfl (lc rfl (lc rfl (lc rfl (lc rfl (lc rfl ln)))))))
                        · exact absurd rfl c_754
                      · refine V_iconst (v := 1) hC dL_law_736 (by decide) rfl ?_
                        refine V_goto (tgt := 741) hC dL_law_737 (by decide) ?_
                        refine V_callIVf (q0 := 0) (n := 4) (pre := []) (suf := [(z2, .inl (cI, 4, .inl cl))]) hC dL_law_741 (k_X3_section l D cI cZ cT z1 a b _ _ _ _ u_691 b_691 _ _ _ (lim_in b_703).1 (gr_in b_719).1 (by first | exact Or.inl rfl | exact Or.inr rfl)) gL_law_X3_section rfl ⟨rfl, rfl⟩ (by decide +kernel) ⟨Nat.le_of_ble_eq_true rfl, Nat.le_of_ble_eq_true rfl⟩ (rm_ok (by omega) (by omega)) rfl rfl rfl rfl rfl (by exact Nat.le_of_ble_eq_true rfl) rfl (fun r_741 u_741 h_741 => ?_)
                        subst h_741
                        have hJ := fun (ra : Int32) (hra : b01 ra) => hli.section (k := u_691) (lim_in b_703).2 (gr_in b_719).2 hra
                        refine V_ws (ws' := (W6 cI cZ cT z1 a b t (up2 (up2 (up2 g 0 u_691 (5 + nI u_703)) 1 u_691 (nI u_719 - 2)) 2 u_691 _) tI gI z2 cl)) rfl ?_
                        refine V_pop hC dL_law_744 rfl rfl ?_
                        refine V_aload_n hC dL_law_745 rfl rfl rfl ?_
                        refine V_iload hC dL_law_746 rfl rfl ?_
                        refine V_iconst (v := 0) hC dL_law_748 (by decide) rfl ?_
                        refine V_callIVf (q0 := 0) (n := 2) (pre := []) (suf := [(z2, .inl (cI, 4, .inl cl))]) hC dL_law_749 (k_X3_ofSection l D cI cZ cT z1 a b _ _ _ _ _ _ _ (hJ _ (by first | exact Or.inl rfl | exact Or.inr rfl)).1 u_691 b_691 _ (by decide)) gL_law_X3_ofSection rfl ⟨rfl, rfl⟩ (by decide +kernel) ⟨Nat.le_of_ble_eq_true rfl, Nat.le_of_ble_eq_true rfl⟩ (rm_ok (by omega) (by omega)) rfl rfl rfl rfl rfl (by exact Nat.le_of_ble_eq_true rfl) rfl (fun r_749 u_749 h_749 => ?_)
                        subst h_749
                        refine V_ws (ws' := (W6 cI cZ cT z1 a b t (up2 (up2 (up2 g 0 u_691 (5 + nI u_703)) 1 u_691 (nI u_719 - 2)) 2 u_691 _) tI gI z2 cl)) rfl ?_
                        rw [sec_l]
                        refine V_iload hC dL_law_752 rfl rfl ?_
                        refine V_icmp_eq (tgt := 798) hC dL_law_754 (by decide) rfl (fun c_754 => ?_) (fun c_754 => ?_)
                        · refine V_widen (k := 100 + 60 * time + 48) (n := 1000 + 300 * time + 192) (by omega) (by omega) ?_
                          first
                          | exact V_to (join_798 _ _ _ _ _ _ hJ (by omega) hJc) (lc rfl (lc rfl (lc rfl (lc rfl (lc rfl (lc rfl (lc rfl ln)))))))
                          | exact V_to (join_798 _ _ _ _ _ _ (hJ _ (by first | exact Or.inl rfl | exact Or.inr rfl)) (by omega) hJc) (lc rfl (lc rfl (lc rfl (lc rfl (lc rfl (lc rfl (lc rfl ln)))))))
                        · exact absurd rfl c_754
                    have s_0 := sw_no w_0 (z := 0) (by decide)
                    have s_1 := sw_no w_1 (z := 1) (by decide)
                    have s_2 := sw_no w_2 (z := 2) (by decide)
                    have s_3 := sw_no w_3 (z := 3) (by decide)
                    have s_4 := sw_no w_4 (z := 4) (by decide)
                    have s_5 := sw_no w_5 (z := 5) (by decide)
                    refine V_tableOut (tgt := 759) hC dL_law_209 (by omega) (by decide) ?_
                    refine V_iconst (v := 1) hC dL_law_759 (by decide) rfl ?_
                    refine V_iload hC dL_law_760 rfl rfl ?_
                    refine V_iconst (v := 3) hC dL_law_762 (by decide) rfl ?_
                    refine V_ishr hC dL_law_763 rfl ?_
                    refine V_bipush (v := 12) hC dL_law_764 (by decide) rfl ?_
                    refine V_callIS0 (n := 2) hC dL_law_766 (k_L_below l D cI cZ cT _ 12 (by decide) (by decide)) gL_law_L_below rfl ⟨rfl, rfl⟩ (by decide +kernel) ⟨Nat.le_of_ble_eq_true rfl, Nat.le_of_ble_eq_true rfl⟩ (rm_ok (by omega) (by omega)) rfl rfl (by exact Nat.le_of_ble_eq_true rfl) rfl (fun r_766 u_766 h_766 => ?_)
                    obtain ⟨rfl, b_766⟩ := h_766
                    refine V_iadd hC dL_law_769 rfl ?_
                    rw [show (1 : Int32) + nI u_766 = nI (1 + u_766) from nI_add 1 u_766]
                    refine V_istore hC dL_law_770 (Nat.le_of_ble_eq_true rfl) rfl ?_
                    refine V_iconst (v := 0) hC dL_law_772 (by decide) rfl ?_
                    refine V_istore hC dL_law_773 (Nat.le_of_ble_eq_true rfl) rfl ?_
                    have loop_775 : ∀ (d k : Nat) (t g : Nat → Nat → Int32) (m : Nat), 1 + u_766 - k < d → k ≤ 1 + u_766 → LI t g nT u_100 nW m (fun i => (cl i).toInt) → m ≤ n + k → V X (100 + 60 * time + 4 * k) (1000 + 300 * time + 16 * k) (W6 cI cZ cT z1 a b t g tI gI z2 cl) [(0, .ref sb), (1, .ref z1), (2, .int (nI u_100)), (3, .int (nI nT)), (4, .int (nI nW)), (5, .ref z2), (6, .int (nI time)), (8, .int (nI (1 + u_766))), (9, .int (nI k))] 775 [] := by
                      intro d_7
                      induction d_7 with
                      | zero => intro k t g m; intros; omega
                      | succ d_7 ih_7 =>
                        intro k t g m hd8 hk8 hl8 hm8
                        refine V_iload hC dL_law_775 rfl rfl ?_
                        refine V_iload hC dL_law_777 rfl rfl ?_
                        refine V_icmp_ge (tgt := 798) hC dL_law_779 (by decide) rfl (fun c_779 => ?_) (fun c_779 => ?_)
                        · have c8 := nI_le' c_779 (by omega) (by omega)
                          have hJ := hl8
                          refine V_widen (k := 100 + 60 * time + 48) (n := 1000 + 300 * time + 192) (by omega) (by omega) ?_
                          first
                          | exact V_to (join_798 _ _ _ _ _ _ hJ (by omega) hJc) (lc rfl (lc rfl (lc rfl (lc rfl (lc rfl (lc rfl (lc rfl ln)))))))
                          | exact V_to (join_798 _ _ _ _ _ _ (hJ _ (by first | exact Or.inl rfl | exact Or.inr rfl)) (by omega) hJc) (lc rfl (lc rfl (lc rfl (lc rfl (lc rfl (lc rfl (lc rfl ln)))))))
                        · have c8 := nI_nle' c_779 (by omega) (by omega)
                          refine V_aload_n hC dL_law_782 rfl rfl rfl ?_
                          refine V_iload_n hC dL_law_783 rfl rfl rfl ?_
                          refine V_callISf (n := 2) (pre := []) (suf := [(z2, .inl (cI, 4, .inl cl))]) hC dL_law_784 (k_L_isSecond l D cI cZ cT z1 a b _ _ _ _ _ _ _ _ _ hl8 (by omega)) gL_law_L_isSecond rfl ⟨rfl, rfl⟩ (by decide +kernel) ⟨Nat.le_of_ble_eq_true rfl, Nat.le_of_ble_eq_true rfl⟩ (rm_ok (by omega) (by omega)) rfl rfl rfl (by exact Nat.le_of_ble_eq_true rfl) rfl (fun r_784 u_784 h_784 => ?_)
                          subst h_784
                          refine V_ws (ws' := (W6 cI cZ cT z1 a b (m_goOn (-1) nT u_100 nW t g).1 (m_goOn (-1) nT u_100 nW t g).2 tI gI z2 cl)) rfl ?_
                          refine V_if_ne (tgt := 792) hC dL_law_787 (by decide) rfl (fun c_787 => ?_) (fun c_787 => ?_)
                          · refine V_iinc hC dL_law_792 rfl (nI_1 k) (Nat.le_of_ble_eq_true rfl) rfl ?_
                            refine V_goto (tgt := 775) hC dL_law_795 (by decide) ?_
                            refine V_widen (k := 100 + 60 * time + 4 * (k + 1)) (n := 1000 + 300 * time + 16 * (k + 1)) (by omega) (by omega) ?_
                            exact V_to (ih_7 (k + 1) _ _ (m + 1) (by omega) (by omega) (hl8.sec (by omega)).1 (by omega)) (lc rfl (lc rfl (lc rfl (lc rfl (lc rfl (lc rfl (lc rfl (lc rfl (lc rfl ln)))))))))
                          · exact absurd c_787 (by decide)
                    refine V_widen (k := 100 + 60 * time + 4 * 0) (n := 1000 + 300 * time + 16 * 0) (by omega) (by omega) ?_
                    exact V_to (loop_775 _ 0 _ _ n (Nat.lt_succ_self _) (by omega) hli (by omega)) (lc rfl (lc rfl (lc rfl (lc rfl (lc rfl (lc rfl (lc rfl (lc rfl (lc (kv nI_0.symm) ln)))))))))
              refine V_widen (k := 100 + 60 * 0) (n := 1000 + 300 * 0) (Nat.le_of_ble_eq_true rfl) (Nat.le_of_ble_eq_true rfl) ?_
              exact V_to (loop_173 _ 0 _ _ 0 0 0 (fun _ => 0) (Nat.lt_succ_self _) (by omega) (by rw [cl_00]; exact hl2) (by omega) (fun i _ => rfl)) (lc rfl (lc rfl (lc rfl (lc (kv nI_0.symm) (lc (kv nI_0.symm) (lc rfl (lc (kv nI_0.symm) ln)))))))
            · have c2 := nI_nle' c_108 (by omega) (by omega)
              refine V_aload_n hC dL_law_111 rfl rfl rfl ?_
              refine V_sipush (v := 700) hC dL_law_112 (by decide) rfl ?_
              refine V_iload_n hC dL_law_115 rfl rfl rfl ?_
              refine V_imul hC dL_law_116 rfl ?_
              refine V_aload_n hC dL_law_117 rfl rfl rfl ?_
              refine V_bipush (v := 11) hC dL_law_118 (by decide) rfl ?_
              refine V_callCS (n := 2) hC hsc dL_law_120 (k_L_cell l D cI cZ cT sb L xs hL _ 11 rfl (by decide)) gL_law_L_cell rfl ⟨rfl, rfl⟩ (by decide +kernel) ⟨Nat.le_of_ble_eq_true rfl, Nat.le_of_ble_eq_true rfl⟩ ⟨Nat.le_of_ble_eq_true rfl, Nat.le_of_ble_eq_true rfl⟩ rfl rfl (by exact Nat.le_of_ble_eq_true rfl) rfl (fun r_120 => ?_)
              refine V_iload_n hC dL_law_123 rfl rfl rfl ?_
              refine V_ishr hC dL_law_124 rfl ?_
              refine V_sipush (v := 600) hC dL_law_125 (by decide) rfl ?_
              refine V_callIS0 (n := 2) hC dL_law_128 (k_L_below l D cI cZ cT _ 600 (by decide) (by decide)) gL_law_L_below rfl ⟨rfl, rfl⟩ (by decide +kernel) ⟨Nat.le_of_ble_eq_true rfl, Nat.le_of_ble_eq_true rfl⟩ ⟨Nat.le_of_ble_eq_true rfl, Nat.le_of_ble_eq_true rfl⟩ rfl rfl (by exact Nat.le_of_ble_eq_true rfl) rfl (fun r_128 u_128 h_128 => ?_)
              obtain ⟨rfl, b_128⟩ := h_128
              refine V_iadd hC dL_law_131 rfl ?_
              rw [mtr]
              refine V_aload_n hC dL_law_132 rfl rfl rfl ?_
              refine V_bipush (v := 12) hC dL_law_133 (by decide) rfl ?_
              refine V_callCS (n := 2) hC hsc dL_law_135 (k_L_cell l D cI cZ cT sb L xs hL _ 12 rfl (by decide)) gL_law_L_cell rfl ⟨rfl, rfl⟩ (by decide +kernel) ⟨Nat.le_of_ble_eq_true rfl, Nat.le_of_ble_eq_true rfl⟩ ⟨Nat.le_of_ble_eq_true rfl, Nat.le_of_ble_eq_true rfl⟩ rfl rfl (by exact Nat.le_of_ble_eq_true rfl) rfl (fun r_135 => ?_)
              refine V_iload_n hC dL_law_138 rfl rfl rfl ?_
              refine V_ishr hC dL_law_139 rfl ?_
              refine V_bipush (v := 40) hC dL_law_140 (by decide) rfl ?_
              refine V_callIS0 (n := 2) hC dL_law_142 (k_L_below l D cI cZ cT _ 40 (by decide) (by decide)) gL_law_L_below rfl ⟨rfl, rfl⟩ (by decide +kernel) ⟨Nat.le_of_ble_eq_true rfl, Nat.le_of_ble_eq_true rfl⟩ ⟨Nat.le_of_ble_eq_true rfl, Nat.le_of_ble_eq_true rfl⟩ rfl rfl (by exact Nat.le_of_ble_eq_true rfl) rfl (fun r_142 u_142 h_142 => ?_)
              obtain ⟨rfl, b_142⟩ := h_142
              refine V_callIV (q0 := 0) (n := 2) hC dL_law_145 (k_X3_station l D cI cZ cT z1 a b _ _ _ _ 0 k 0 hl2.1 _ _ (m_inN (a := 0) (b := 2999) (by omega) (by omega) (by decide)) (sta_new (by omega) b_128 hm) (m_inN (a := 0) (b := 60) (by omega) (by omega) (by decide)) (by omega) rfl) gL_law_X3_station rfl ⟨rfl, rfl⟩ (by decide +kernel) ⟨Nat.le_of_ble_eq_true rfl, Nat.le_of_ble_eq_true rfl⟩ ⟨Nat.le_of_ble_eq_true rfl, Nat.le_of_ble_eq_true rfl⟩ rfl rfl rfl rfl (by exact Nat.le_of_ble_eq_true rfl) rfl (fun r_145 u_145 h_145 => ?_)
              subst h_145
              refine V_iload_n hC dL_law_148 rfl rfl rfl ?_
              refine V_icmp_eq (tgt := 154) hC dL_law_149 (by decide) rfl (fun c_149 => ?_) (fun c_149 => ?_)
              · refine V_iinc hC dL_law_154 rfl (nI_1 k) (Nat.le_of_ble_eq_true rfl) rfl ?_
                refine V_goto (tgt := 106) hC dL_law_157 (by decide) ?_
                exact V_to (ih_2 (k + 1) _ (by omega) (by omega) (hl2.station (by omega) (by rw [i_nI (by omega)]; omega) (by rw [i_nI (by omega)]; omega)) (sta_hm (by omega) b_128 hm)) (lc rfl (lc rfl (lc rfl (lc rfl ln))))
              · exact absurd rfl c_149
        exact V_to (loop_106 _ 0 _ (Nat.lt_succ_self _) (by omega) hl (fun j hj => absurd hj (Nat.not_lt_zero _))) (lc rfl (lc rfl (lc rfl (lc (kv nI_0.symm) ln))))
      · have c1 := nI_nle' (a := 20) c_13 (by omega) (by omega)
        refine V_aload_n hC dL_law_16 rfl rfl rfl ?_
        refine V_iload_n hC dL_law_17 rfl rfl rfl ?_
        refine V_bipush (v := 10) hC dL_law_18 (by decide) rfl ?_
        refine V_irem hC dL_law_20 (by decide) rfl ?_
        refine V_callCS (n := 2) hC hsc dL_law_21 (k_L_cell l D cI cZ cT sb L xs hL _ (k % 10) (pk_rem (d := 10) (by omega) (by decide) (by decide)) (by omega)) gL_law_L_cell rfl ⟨rfl, rfl⟩ (by decide +kernel) ⟨Nat.le_of_ble_eq_true rfl, Nat.le_of_ble_eq_true rfl⟩ ⟨Nat.le_of_ble_eq_true rfl, Nat.le_of_ble_eq_true rfl⟩ rfl rfl (by exact Nat.le_of_ble_eq_true rfl) rfl (fun r_21 => ?_)
        refine V_iload_n hC dL_law_24 rfl rfl rfl ?_
        refine V_bipush (v := 10) hC dL_law_25 (by decide) rfl ?_
        refine V_idiv hC dL_law_27 (by decide) rfl ?_
        refine V_iconst (v := 5) hC dL_law_28 (by decide) rfl ?_
        refine V_imul hC dL_law_29 rfl ?_
        refine V_ishr hC dL_law_30 rfl ?_
        refine V_istore_n hC dL_law_31 rfl (Nat.le_of_ble_eq_true rfl) rfl ?_
        refine V_iload_n hC dL_law_32 rfl rfl rfl ?_
        refine V_iconst (v := 3) hC dL_law_33 (by decide) rfl ?_
        refine V_callIS0 (n := 2) hC dL_law_34 (k_L_below l D cI cZ cT _ 3 (by decide) (by decide)) gL_law_L_below rfl ⟨rfl, rfl⟩ (by decide +kernel) ⟨Nat.le_of_ble_eq_true rfl, Nat.le_of_ble_eq_true rfl⟩ ⟨Nat.le_of_ble_eq_true rfl, Nat.le_of_ble_eq_true rfl⟩ rfl rfl (by exact Nat.le_of_ble_eq_true rfl) rfl (fun r_34 u_34 h_34 => ?_)
        refine V_if_ne (tgt := 87) hC dL_law_37 (by decide) rfl (fun c_37 => ?_) (fun c_37 => ?_)
        · refine V_iinc hC dL_law_87 rfl (nI_1 k) (Nat.le_of_ble_eq_true rfl) rfl ?_
          refine V_goto (tgt := 10) hC dL_law_90 (by decide) ?_
          first
          | exact V_to (ih_1 (k + 1) _ (by omega) (by omega) hl (fun j h1 h2 => h40 j (by omega) h2)) (lc rfl (lc rfl (lc rfl ln)))
          | exact V_to (ih_1 (k + 1) _ (by omega) (by omega) (hl.section (lim_in b_48).2 (gr_in b_56).2 (by first | exact Or.inl rfl | exact Or.inr rfl)) (fun j h1 h2 => sec_40 h1 (h40 j (by omega) h2))) (lc rfl (lc rfl (lc rfl ln)))
        · refine V_aload_n hC dL_law_40 rfl rfl rfl ?_
          refine V_iload_n hC dL_law_41 rfl rfl rfl ?_
          refine V_iconst (v := 5) hC dL_law_42 (by decide) rfl ?_
          refine V_iload_n hC dL_law_43 rfl rfl rfl ?_
          refine V_iconst (v := 2) hC dL_law_44 (by decide) rfl ?_
          refine V_ishr hC dL_law_45 rfl ?_
          refine V_bipush (v := 36) hC dL_law_46 (by decide) rfl ?_
          refine V_callIS0 (n := 2) hC dL_law_48 (k_L_below l D cI cZ cT _ 36 (by decide) (by decide)) gL_law_L_below rfl ⟨rfl, rfl⟩ (by decide +kernel) ⟨Nat.le_of_ble_eq_true rfl, Nat.le_of_ble_eq_true rfl⟩ ⟨Nat.le_of_ble_eq_true rfl, Nat.le_of_ble_eq_true rfl⟩ rfl rfl (by exact Nat.le_of_ble_eq_true rfl) rfl (fun r_48 u_48 h_48 => ?_)
          obtain ⟨rfl, b_48⟩ := h_48
          refine V_iadd hC dL_law_51 rfl ?_
          refine V_iload_n hC dL_law_52 rfl rfl rfl ?_
          refine V_iconst (v := 4) hC dL_law_53 (by decide) rfl ?_
          refine V_ishr hC dL_law_54 rfl ?_
          refine V_iconst (v := 5) hC dL_law_55 (by decide) rfl ?_
          refine V_callIS0 (n := 2) hC dL_law_56 (k_L_below l D cI cZ cT _ 5 (by decide) (by decide)) gL_law_L_below rfl ⟨rfl, rfl⟩ (by decide +kernel) ⟨Nat.le_of_ble_eq_true rfl, Nat.le_of_ble_eq_true rfl⟩ ⟨Nat.le_of_ble_eq_true rfl, Nat.le_of_ble_eq_true rfl⟩ rfl rfl (by exact Nat.le_of_ble_eq_true rfl) rfl (fun r_56 u_56 h_56 => ?_)
          obtain ⟨rfl, b_56⟩ := h_56
          refine V_iconst (v := 2) hC dL_law_59 (by decide) rfl ?_
          refine V_isub hC dL_law_60 rfl ?_
          refine V_iload_n hC dL_law_61 rfl rfl rfl ?_
          refine V_bipush (v := 6) hC dL_law_62 (by decide) rfl ?_
          refine V_ishr hC dL_law_64 rfl ?_
          refine V_iconst (v := 4) hC dL_law_65 (by decide) rfl ?_
          refine V_callIS0 (n := 2) hC dL_law_66 (k_L_below l D cI cZ cT _ 4 (by decide) (by decide)) gL_law_L_below rfl ⟨rfl, rfl⟩ (by decide +kernel) ⟨Nat.le_of_ble_eq_true rfl, Nat.le_of_ble_eq_true rfl⟩ ⟨Nat.le_of_ble_eq_true rfl, Nat.le_of_ble_eq_true rfl⟩ rfl rfl (by exact Nat.le_of_ble_eq_true rfl) rfl (fun r_66 u_66 h_66 => ?_)
          refine V_if_le (tgt := 76) hC dL_law_69 (by decide) rfl (fun c_69 => ?_) (fun c_69 => ?_)
          · refine V_iconst (v := 0) hC dL_law_76 (by decide) rfl ?_
            refine V_callIV (q0 := 0) (n := 4) hC dL_law_77 (k_X3_section l D cI cZ cT z1 a b _ _ _ _ k c1 _ _ _ (lim_in b_48).1 (gr_in b_56).1 (by first | exact Or.inl rfl | exact Or.inr rfl)) gL_law_X3_section rfl ⟨rfl, rfl⟩ (by decide +kernel) ⟨Nat.le_of_ble_eq_true rfl, Nat.le_of_ble_eq_true rfl⟩ ⟨Nat.le_of_ble_eq_true rfl, Nat.le_of_ble_eq_true rfl⟩ rfl rfl rfl rfl (by exact Nat.le_of_ble_eq_true rfl) rfl (fun r_77 u_77 h_77 => ?_)
            subst h_77
            refine V_bipush (v := 40) hC dL_law_80 (by decide) rfl ?_
            refine V_icmp_eq (tgt := 87) hC dL_law_82 (by decide) rfl (fun c_82 => ?_) (fun c_82 => ?_)
            · refine V_iinc hC dL_law_87 rfl (nI_1 k) (Nat.le_of_ble_eq_true rfl) rfl ?_
              refine V_goto (tgt := 10) hC dL_law_90 (by decide) ?_
              first
              | exact V_to (ih_1 (k + 1) _ (by omega) (by omega) hl (fun j h1 h2 => h40 j (by omega) h2)) (lc rfl (lc rfl (lc rfl ln)))
              | exact V_to (ih_1 (k + 1) _ (by omega) (by omega) (hl.section (lim_in b_48).2 (gr_in b_56).2 (by first | exact Or.inl rfl | exact Or.inr rfl)) (fun j h1 h2 => sec_40 h1 (h40 j (by omega) h2))) (lc rfl (lc rfl (lc rfl ln)))
            · exact absurd (h40 k (Nat.le_refl _) c1) c_82
          · refine V_iconst (v := 1) hC dL_law_72 (by decide) rfl ?_
            refine V_goto (tgt := 77) hC dL_law_73 (by decide) ?_
            refine V_callIV (q0 := 0) (n := 4) hC dL_law_77 (k_X3_section l D cI cZ cT z1 a b _ _ _ _ k c1 _ _ _ (lim_in b_48).1 (gr_in b_56).1 (by first | exact Or.inl rfl | exact Or.inr rfl)) gL_law_X3_section rfl ⟨rfl, rfl⟩ (by decide +kernel) ⟨Nat.le_of_ble_eq_true rfl, Nat.le_of_ble_eq_true rfl⟩ ⟨Nat.le_of_ble_eq_true rfl, Nat.le_of_ble_eq_true rfl⟩ rfl rfl rfl rfl (by exact Nat.le_of_ble_eq_true rfl) rfl (fun r_77 u_77 h_77 => ?_)
            subst h_77
            refine V_bipush (v := 40) hC dL_law_80 (by decide) rfl ?_
            refine V_icmp_eq (tgt := 87) hC dL_law_82 (by decide) rfl (fun c_82 => ?_) (fun c_82 => ?_)
            · refine V_iinc hC dL_law_87 rfl (nI_1 k) (Nat.le_of_ble_eq_true rfl) rfl ?_
              refine V_goto (tgt := 10) hC dL_law_90 (by decide) ?_
              first
              | exact V_to (ih_1 (k + 1) _ (by omega) (by omega) hl (fun j h1 h2 => h40 j (by omega) h2)) (lc rfl (lc rfl (lc rfl ln)))
              | exact V_to (ih_1 (k + 1) _ (by omega) (by omega) (hl.section (lim_in b_48).2 (gr_in b_56).2 (by first | exact Or.inl rfl | exact Or.inr rfl)) (fun j h1 h2 => sec_40 h1 (h40 j (by omega) h2))) (lc rfl (lc rfl (lc rfl ln)))
            · exact absurd (h40 k (Nat.le_refl _) c1) c_82
  exact V_to (loop_10 _ 0 _ (Nat.lt_succ_self _) (by omega) LI_0 (fun j _ hj => fl_in j hj)) (lc rfl (lc rfl (lc (kv nI_0.symm) ln)))
