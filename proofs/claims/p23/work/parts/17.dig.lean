theorem k185_X3_digest : Cond.constantLong RX3 185 4810 ∈ wsX3_digest := by decide +kernel
theorem in_X3_X3_digest : ∀ w ∈ u_ws RX3 TX3 2, w ∈ wsX3_digest := by decide +kernel
theorem fk_X3_digest_10 : Cond.fieldLink RX3 10 (TX3 0).1 (TX3 0).2.1 (TX3 0).2.2.1 ∈ wsX3_digest := by decide +kernel
theorem in_X0_X3_digest : ∀ w ∈ u_ws RX0 TX0 4, w ∈ wsX3_digest := by decide +kernel
theorem fk_X3_digest_67 : Cond.fieldLink RX3 67 (TX0 2).1 (TX0 2).2.1 (TX0 2).2.2.1 ∈ wsX3_digest := by decide +kernel
theorem fk_X3_digest_31 : Cond.fieldLink RX3 31 (TX0 0).1 (TX0 0).2.1 (TX0 0).2.2.1 ∈ wsX3_digest := by decide +kernel
theorem in_X1_X3_digest : ∀ w ∈ u_ws RX1 TX1 10, w ∈ wsX3_digest := by decide +kernel
theorem fk_X3_digest_52 : Cond.fieldLink RX3 52 (TX1 6).1 (TX1 6).2.1 (TX1 6).2.2.1 ∈ wsX3_digest := by decide +kernel
theorem k187_X3_digest : Cond.constantLong RX3 187 31 ∈ wsX3_digest := by decide +kernel
set_option maxRecDepth 100000 in
set_option maxHeartbeats 4000000 in
theorem k_X3_digest (l : Launch) (D : va_G) (cI cZ cT : ClassId) (c : Nat) (a b : Nat → Nat) (t g t2 g2 : Nat → Nat → Int32) (nT nS nW : Nat) (ok : Ok t g nT nS nW)  : CL l D kCl (kTy cI cZ cT) yX3_digest wsX3_digest ({ frames := 6, cells := 0, slots := 0, locals := 138 }) 0 0 [.ref c] (WB cI cZ cT c a b t g t2 g2) (S := LnS) (fun r _ => r = q_dig t g nT nS nW) (fun u => WB cI cZ cT c a b t g u.1 u.2) := by
  refine CL_of (own := RX3) (by decide) rfl rfl (Nat.le_of_ble_eq_true rfl) rfl (fun X A hC hE => ?_)
  obtain ⟨hT, hT4, hS, hS4, hW, hW3, hz, hb⟩ := id ok
  refine V_ldc2 (v := 4810) hC dX3_digest_0 k185_X3_digest rfl ?_
  refine V_lstore_n hC dX3_digest_3 rfl (Nat.le_of_ble_eq_true rfl) rfl ?_
  refine V_iconst (v := 0) hC dX3_digest_4 (by decide) rfl ?_
  refine V_istore_n hC dX3_digest_5 rfl (Nat.le_of_ble_eq_true rfl) rfl ?_
  have loop_6 : ∀ (d k : Nat) (u : LnS), 10 - k < d → k ≤ 10 → V X 0 0 (WB cI cZ cT c a b t g u.1 u.2) [(0, .ref c), (1, .long (q_d1 t g nT k)), (3, .int (nI k))] 6 [] := by
    intro d_1
    induction d_1 with
    | zero => intro k; intros; omega
    | succ d_1 ih_1 =>
      intro k u h1 hk1
      refine V_iload_n hC dX3_digest_6 rfl rfl rfl ?_
      refine V_bipush (v := 9) hC dX3_digest_7 (by decide) rfl ?_
      refine V_icmp_gt (tgt := 31) hC dX3_digest_9 (by decide) rfl (fun c_9 => ?_) (fun c_9 => ?_)
      · have c1 := nI_lt' (a := 9) c_9 (by omega) (by omega)
        obtain rfl : k = 10 := by omega
        refine V_iconst (v := 0) hC dX3_digest_31 (by decide) rfl ?_
        refine V_istore_n hC dX3_digest_32 rfl (Nat.le_of_ble_eq_true rfl) rfl ?_
        have loop_33 : ∀ (d k : Nat) (u : LnS), 20 - k < d → k ≤ 20 → V X 0 0 (WB cI cZ cT c a b t g u.1 u.2) [(0, .ref c), (1, .long (q_d2 t g nT nW k)), (3, .int (nI k))] 33 [] := by
          intro d_2
          induction d_2 with
          | zero => intro k; intros; omega
          | succ d_2 ih_2 =>
            intro k u h2 hk2
            refine V_iload_n hC dX3_digest_33 rfl rfl rfl ?_
            refine V_bipush (v := 20) hC dX3_digest_34 (by decide) rfl ?_
            refine V_icmp_ge (tgt := 75) hC dX3_digest_36 (by decide) rfl (fun c_36 => ?_) (fun c_36 => ?_)
            · have c1 := nI_le' (a := 20) c_36 (by omega) (by omega)
              obtain rfl : k = 20 := by omega
              refine V_iconst (v := 0) hC dX3_digest_75 (by decide) rfl ?_
              refine V_istore_n hC dX3_digest_76 rfl (Nat.le_of_ble_eq_true rfl) rfl ?_
              have loop_77 : ∀ (d k : Nat) (u : LnS), nT - k < d → k ≤ nT → V X 0 0 (WB cI cZ cT c a b t g u.1 u.2) [(0, .ref c), (1, .long (q_d3 t g nT nS nW k)), (3, .int (nI k))] 77 [] := by
                intro d_4
                induction d_4 with
                | zero => intro k; intros; omega
                | succ d_4 ih_4 =>
                  intro k u h4 hk4
                  refine V_iload_n hC dX3_digest_77 rfl rfl rfl ?_
                  refine V_aload_n hC dX3_digest_78 rfl rfl rfl ?_
                  refine V_get (q0 := 0) (C := RX3) (T := TX3) (N := 2) hC dX3_digest_79 in_X3_X3_digest rfl rfl 0 (Nat.le_of_ble_eq_true rfl) fk_X3_digest_10 rfl rfl ?_
                  refine V_get (q0 := 5) (C := RX0) (T := TX0) (N := 4) hC dX3_digest_82 in_X0_X3_digest rfl rfl 2 (Nat.le_of_ble_eq_true rfl) fk_X3_digest_67 rfl rfl ?_
                  refine V_icmp_ge (tgt := 199) hC dX3_digest_85 (by decide) rfl (fun c_85 => ?_) (fun c_85 => ?_)
                  · rw [hT] at c_85
                    have c1 := nI_le' c_85 (by omega) (by omega)
                    obtain rfl : nT = k := by omega
                    refine V_iconst (v := 0) hC dX3_digest_199 (by decide) rfl ?_
                    refine V_istore_n hC dX3_digest_200 rfl (Nat.le_of_ble_eq_true rfl) rfl ?_
                    have loop_201 : ∀ (d k : Nat) (u : LnS), nS - k < d → k ≤ nS → V X 0 0 (WB cI cZ cT c a b t g u.1 u.2) [(0, .ref c), (1, .long (q_d4 t g nT nS nW k)), (3, .int (nI k))] 201 [] := by
                      intro d_6
                      induction d_6 with
                      | zero => intro k; intros; omega
                      | succ d_6 ih_6 =>
                        intro k u h6 hk6
                        refine V_iload_n hC dX3_digest_201 rfl rfl rfl ?_
                        refine V_aload_n hC dX3_digest_202 rfl rfl rfl ?_
                        refine V_get (q0 := 0) (C := RX3) (T := TX3) (N := 2) hC dX3_digest_203 in_X3_X3_digest rfl rfl 0 (Nat.le_of_ble_eq_true rfl) fk_X3_digest_10 rfl rfl ?_
                        refine V_get (q0 := 5) (C := RX0) (T := TX0) (N := 4) hC dX3_digest_206 in_X0_X3_digest rfl rfl 0 (Nat.le_of_ble_eq_true rfl) fk_X3_digest_31 rfl rfl ?_
                        refine V_get (q0 := 6) (C := RX1) (T := TX1) (N := 10) hC dX3_digest_209 in_X1_X3_digest rfl rfl 6 (Nat.le_of_ble_eq_true rfl) fk_X3_digest_52 rfl rfl ?_
                        refine V_icmp_ge (tgt := 251) hC dX3_digest_212 (by decide) rfl (fun c_212 => ?_) (fun c_212 => ?_)
                        · rw [hS] at c_212
                          have c1 := nI_le' c_212 (by omega) (by omega)
                          obtain rfl : nS = k := by omega
                          refine V_lload_n hC dX3_digest_251 rfl rfl rfl ?_
                          refine V_ldc2 (v := 31) hC dX3_digest_252 k187_X3_digest rfl ?_
                          refine V_lmul hC dX3_digest_255 rfl ?_
                          refine V_aload_n hC dX3_digest_256 rfl rfl rfl ?_
                          refine V_iconst (v := 5) hC dX3_digest_257 (by decide) rfl ?_
                          refine V_bipush (v := 6) hC dX3_digest_258 (by decide) rfl ?_
                          refine V_bipush (v := 60) hC dX3_digest_260 (by decide) rfl ?_
                          refine V_callIV (q0 := 0) (n := 3) hC dX3_digest_262 (k_X3_worksIn l D cI cZ cT c a b _ _ _ _ _ _ _ ok 5 6 60 (by decide) (by decide) (by decide) (by decide) (by decide)) gX3_digest_X3_worksIn rfl ⟨rfl, rfl⟩ (by decide +kernel) ⟨Nat.le_of_ble_eq_true rfl, Nat.le_of_ble_eq_true rfl⟩ ⟨Nat.le_of_ble_eq_true rfl, Nat.le_of_ble_eq_true rfl⟩ rfl rfl rfl rfl (by exact Nat.le_of_ble_eq_true rfl) rfl (fun r_262 u_262 h_262 => ?_)
                          subst h_262
                          refine V_i2l hC dX3_digest_265 rfl ?_
                          refine V_ladd hC dX3_digest_266 rfl ?_
                          exact hE _ (_, _) _ _ _ dX3_digest_267 trivial rfl rfl
                        · rw [hS] at c_212
                          have c1 := nI_nle' c_212 (by omega) (by omega)
                          have hkS : k < nS := c1
                          refine V_iconst (v := 0) hC dX3_digest_215 (by decide) rfl ?_
                          refine V_istore hC dX3_digest_216 (Nat.le_of_ble_eq_true rfl) rfl ?_
                          have loop_218 : ∀ (d w : Nat) (u : LnS), 3 - w < d → w ≤ 3 → V X 0 0 (WB cI cZ cT c a b t g u.1 u.2) [(0, .ref c), (1, .long (foldN (fun w d => dg (q_stn g k (nI w)) d) w (q_d4 t g nT nS nW k))), (3, .int (nI k)), (4, .int (nI w))] 218 [] := by
                            intro d_7
                            induction d_7 with
                            | zero => intro w; intros; omega
                            | succ d_7 ih_7 =>
                              intro w u h7 hk7
                              refine V_iload hC dX3_digest_218 rfl rfl ?_
                              refine V_iconst (v := 2) hC dX3_digest_220 (by decide) rfl ?_
                              refine V_icmp_gt (tgt := 245) hC dX3_digest_221 (by decide) rfl (fun c_221 => ?_) (fun c_221 => ?_)
                              · have c1 := nI_lt' (a := 2) c_221 (by omega) (by omega)
                                obtain rfl : w = 3 := by omega
                                refine V_iinc hC dX3_digest_245 rfl (nI_1 k) (Nat.le_of_ble_eq_true rfl) rfl ?_
                                refine V_goto (tgt := 201) hC dX3_digest_248 (by decide) ?_
                                exact V_to (ih_6 (k + 1) (_, _) (by omega) (by omega)) (lc rfl (lc (kvl (q_d4_s t g nT nS nW k).symm) (lc rfl ln)))
                              · have c1 := nI_nlt' (a := 2) c_221 (by omega) (by omega)
                                refine V_lload_n hC dX3_digest_224 rfl rfl rfl ?_
                                refine V_ldc2 (v := 31) hC dX3_digest_225 k187_X3_digest rfl ?_
                                refine V_lmul hC dX3_digest_228 rfl ?_
                                refine V_aload_n hC dX3_digest_229 rfl rfl rfl ?_
                                refine V_iload_n hC dX3_digest_230 rfl rfl rfl ?_
                                refine V_iload hC dX3_digest_231 rfl rfl ?_
                                refine V_callIV (q0 := 0) (n := 2) hC dX3_digest_233 (k_X3_ofStation l D cI cZ cT c a b _ _ _ _ _ _ _ ok k hkS _ (nI_012 (by omega))) gX3_digest_X3_ofStation rfl ⟨rfl, rfl⟩ (by decide +kernel) ⟨Nat.le_of_ble_eq_true rfl, Nat.le_of_ble_eq_true rfl⟩ ⟨Nat.le_of_ble_eq_true rfl, Nat.le_of_ble_eq_true rfl⟩ rfl rfl rfl rfl (by exact Nat.le_of_ble_eq_true rfl) rfl (fun r_233 u_233 h_233 => ?_)
                                subst h_233
                                refine V_i2l hC dX3_digest_236 rfl ?_
                                refine V_ladd hC dX3_digest_237 rfl ?_
                                refine V_lstore_n hC dX3_digest_238 rfl (Nat.le_of_ble_eq_true rfl) rfl ?_
                                refine V_iinc hC dX3_digest_239 rfl (nI_1 w) (Nat.le_of_ble_eq_true rfl) rfl ?_
                                refine V_goto (tgt := 218) hC dX3_digest_242 (by decide) ?_
                                exact V_to (ih_7 (w + 1) (_, _) (by omega) (by omega)) (lc rfl (lc (kvl (foldN_s (fun w d => dg (q_stn g k (nI w)) d) w _).symm) (lc rfl (lc rfl ln))))
                          exact V_to (loop_218 _ 0 (_, _) (Nat.lt_succ_self _) (by omega)) (lc rfl (lc (kvl (foldN_0 _ _).symm) (lc rfl (lc (kv nI_0.symm) ln))))
                    exact V_to (loop_201 _ 0 (_, _) (Nat.lt_succ_self _) (by omega)) (lc rfl (lc (kvl (q_d4_0 t g nT nS nW).symm) (lc (kv nI_0.symm) ln)))
                  · rw [hT] at c_85
                    have c1 := nI_nle' c_85 (by omega) (by omega)
                    have hkT : k < nT := c1
                    refine V_iconst (v := 0) hC dX3_digest_88 (by decide) rfl ?_
                    refine V_istore hC dX3_digest_89 (Nat.le_of_ble_eq_true rfl) rfl ?_
                    have loop_91 : ∀ (d w : Nat) (u : LnS), 16 - w < d → w ≤ 16 → V X 0 0 (WB cI cZ cT c a b t g u.1 u.2) [(0, .ref c), (1, .long (foldN (fun w d => dg (q_trn t g nS k (nI w)) d) w (q_d3 t g nT nS nW k))), (3, .int (nI k)), (4, .int (nI w))] 91 [] := by
                      intro d_5
                      induction d_5 with
                      | zero => intro w; intros; omega
                      | succ d_5 ih_5 =>
                        intro w u h5 hk5
                        refine V_iload hC dX3_digest_91 rfl rfl ?_
                        refine V_bipush (v := 15) hC dX3_digest_93 (by decide) rfl ?_
                        refine V_icmp_gt (tgt := 119) hC dX3_digest_95 (by decide) rfl (fun c_95 => ?_) (fun c_95 => ?_)
                        · have c1 := nI_lt' (a := 15) c_95 (by omega) (by omega)
                          obtain rfl : w = 16 := by omega
                          refine V_lload_n hC dX3_digest_119 rfl rfl rfl ?_
                          refine V_ldc2 (v := 31) hC dX3_digest_120 k187_X3_digest rfl ?_
                          refine V_lmul hC dX3_digest_123 rfl ?_
                          refine V_aload_n hC dX3_digest_124 rfl rfl rfl ?_
                          refine V_iload_n hC dX3_digest_125 rfl rfl rfl ?_
                          refine V_bipush (v := 20) hC dX3_digest_126 (by decide) rfl ?_
                          refine V_callIV (q0 := 0) (n := 2) hC dX3_digest_128 (k_X3_stops l D cI cZ cT c a b _ _ _ _ _ _ _ ok k hkT 20 (by decide)) gX3_digest_X3_stops rfl ⟨rfl, rfl⟩ (by decide +kernel) ⟨Nat.le_of_ble_eq_true rfl, Nat.le_of_ble_eq_true rfl⟩ ⟨Nat.le_of_ble_eq_true rfl, Nat.le_of_ble_eq_true rfl⟩ rfl rfl rfl rfl (by exact Nat.le_of_ble_eq_true rfl) rfl (fun r_128 u_128 h_128 => ?_)
                          subst h_128
                          refine V_i2l hC dX3_digest_131 rfl ?_
                          refine V_ladd hC dX3_digest_132 rfl ?_
                          refine V_lstore_n hC dX3_digest_133 rfl (Nat.le_of_ble_eq_true rfl) rfl ?_
                          refine V_lload_n hC dX3_digest_134 rfl rfl rfl ?_
                          refine V_ldc2 (v := 31) hC dX3_digest_135 k187_X3_digest rfl ?_
                          refine V_lmul hC dX3_digest_138 rfl ?_
                          refine V_aload_n hC dX3_digest_139 rfl rfl rfl ?_
                          refine V_iload_n hC dX3_digest_140 rfl rfl rfl ?_
                          refine V_callIV (q0 := 0) (n := 1) hC dX3_digest_141 (k_X3_may l D cI cZ cT c a b _ _ _ _ _ _ _ ok k hkT) gX3_digest_X3_may rfl ⟨rfl, rfl⟩ (by decide +kernel) ⟨Nat.le_of_ble_eq_true rfl, Nat.le_of_ble_eq_true rfl⟩ ⟨Nat.le_of_ble_eq_true rfl, Nat.le_of_ble_eq_true rfl⟩ rfl rfl rfl rfl (by exact Nat.le_of_ble_eq_true rfl) rfl (fun r_141 u_141 h_141 => ?_)
                          subst h_141
                          refine V_i2l hC dX3_digest_144 rfl ?_
                          refine V_ladd hC dX3_digest_145 rfl ?_
                          refine V_lstore_n hC dX3_digest_146 rfl (Nat.le_of_ble_eq_true rfl) rfl ?_
                          refine V_lload_n hC dX3_digest_147 rfl rfl rfl ?_
                          refine V_ldc2 (v := 31) hC dX3_digest_148 k187_X3_digest rfl ?_
                          refine V_lmul hC dX3_digest_151 rfl ?_
                          refine V_aload_n hC dX3_digest_152 rfl rfl rfl ?_
                          refine V_iload_n hC dX3_digest_153 rfl rfl rfl ?_
                          refine V_callIV (q0 := 0) (n := 1) hC dX3_digest_154 (k_X3_why l D cI cZ cT c a b _ _ _ _ _ _ _ ok k hkT) gX3_digest_X3_why rfl ⟨rfl, rfl⟩ (by decide +kernel) ⟨Nat.le_of_ble_eq_true rfl, Nat.le_of_ble_eq_true rfl⟩ ⟨Nat.le_of_ble_eq_true rfl, Nat.le_of_ble_eq_true rfl⟩ rfl rfl rfl rfl (by exact Nat.le_of_ble_eq_true rfl) rfl (fun r_154 u_154 h_154 => ?_)
                          subst h_154
                          refine V_i2l hC dX3_digest_157 rfl ?_
                          refine V_ladd hC dX3_digest_158 rfl ?_
                          refine V_lstore_n hC dX3_digest_159 rfl (Nat.le_of_ble_eq_true rfl) rfl ?_
                          refine V_lload_n hC dX3_digest_160 rfl rfl rfl ?_
                          refine V_ldc2 (v := 31) hC dX3_digest_161 k187_X3_digest rfl ?_
                          refine V_lmul hC dX3_digest_164 rfl ?_
                          refine V_aload_n hC dX3_digest_165 rfl rfl rfl ?_
                          refine V_iload_n hC dX3_digest_166 rfl rfl rfl ?_
                          refine V_sipush (v := 2000) hC dX3_digest_167 (by decide) rfl ?_
                          refine V_bipush (v := 90) hC dX3_digest_170 (by decide) rfl ?_
                          refine V_callIV (q0 := 0) (n := 3) hC dX3_digest_172 (k_X3_reaches l D cI cZ cT c a b _ _ _ _ _ _ _ ok k hkT 2000 90 (by decide) (by decide) (by decide)) gX3_digest_X3_reaches rfl ⟨rfl, rfl⟩ (by decide +kernel) ⟨Nat.le_of_ble_eq_true rfl, Nat.le_of_ble_eq_true rfl⟩ ⟨Nat.le_of_ble_eq_true rfl, Nat.le_of_ble_eq_true rfl⟩ rfl rfl rfl rfl (by exact Nat.le_of_ble_eq_true rfl) rfl (fun r_172 u_172 h_172 => ?_)
                          subst h_172
                          refine V_i2l hC dX3_digest_175 rfl ?_
                          refine V_ladd hC dX3_digest_176 rfl ?_
                          refine V_lstore_n hC dX3_digest_177 rfl (Nat.le_of_ble_eq_true rfl) rfl ?_
                          refine V_lload_n hC dX3_digest_178 rfl rfl rfl ?_
                          refine V_ldc2 (v := 31) hC dX3_digest_179 k187_X3_digest rfl ?_
                          refine V_lmul hC dX3_digest_182 rfl ?_
                          refine V_aload_n hC dX3_digest_183 rfl rfl rfl ?_
                          refine V_iload_n hC dX3_digest_184 rfl rfl rfl ?_
                          refine V_bipush (v := 30) hC dX3_digest_185 (by decide) rfl ?_
                          refine V_callIV (q0 := 0) (n := 2) hC dX3_digest_187 (k_X3_closest l D cI cZ cT c a b _ _ _ _ _ _ _ ok k hkT 30 (by decide) (by decide)) gX3_digest_X3_closest rfl ⟨rfl, rfl⟩ (by decide +kernel) ⟨Nat.le_of_ble_eq_true rfl, Nat.le_of_ble_eq_true rfl⟩ ⟨Nat.le_of_ble_eq_true rfl, Nat.le_of_ble_eq_true rfl⟩ rfl rfl rfl rfl (by exact Nat.le_of_ble_eq_true rfl) rfl (fun r_187 u_187 h_187 => ?_)
                          subst h_187
                          refine V_i2l hC dX3_digest_190 rfl ?_
                          refine V_ladd hC dX3_digest_191 rfl ?_
                          refine V_lstore_n hC dX3_digest_192 rfl (Nat.le_of_ble_eq_true rfl) rfl ?_
                          refine V_iinc hC dX3_digest_193 rfl (nI_1 k) (Nat.le_of_ble_eq_true rfl) rfl ?_
                          refine V_goto (tgt := 77) hC dX3_digest_196 (by decide) ?_
                          exact V_to (ih_4 (k + 1) (_, _) (by omega) (by omega)) (lc rfl (lc (kvl (q_d3_s t g nT nS nW k).symm) (lc rfl ln)))
                        · have c1 := nI_nlt' (a := 15) c_95 (by omega) (by omega)
                          refine V_lload_n hC dX3_digest_98 rfl rfl rfl ?_
                          refine V_ldc2 (v := 31) hC dX3_digest_99 k187_X3_digest rfl ?_
                          refine V_lmul hC dX3_digest_102 rfl ?_
                          refine V_aload_n hC dX3_digest_103 rfl rfl rfl ?_
                          refine V_iload_n hC dX3_digest_104 rfl rfl rfl ?_
                          refine V_iload hC dX3_digest_105 rfl rfl ?_
                          refine V_callIV (q0 := 0) (n := 2) hC dX3_digest_107 (k_X3_ofTrain l D cI cZ cT c a b _ _ _ _ _ _ _ ok k hkT _ (m_inN (a := 0) (b := 15) (by omega) (by omega) (by decide))) gX3_digest_X3_ofTrain rfl ⟨rfl, rfl⟩ (by decide +kernel) ⟨Nat.le_of_ble_eq_true rfl, Nat.le_of_ble_eq_true rfl⟩ ⟨Nat.le_of_ble_eq_true rfl, Nat.le_of_ble_eq_true rfl⟩ rfl rfl rfl rfl (by exact Nat.le_of_ble_eq_true rfl) rfl (fun r_107 u_107 h_107 => ?_)
                          subst h_107
                          refine V_i2l hC dX3_digest_110 rfl ?_
                          refine V_ladd hC dX3_digest_111 rfl ?_
                          refine V_lstore_n hC dX3_digest_112 rfl (Nat.le_of_ble_eq_true rfl) rfl ?_
                          refine V_iinc hC dX3_digest_113 rfl (nI_1 w) (Nat.le_of_ble_eq_true rfl) rfl ?_
                          refine V_goto (tgt := 91) hC dX3_digest_116 (by decide) ?_
                          exact V_to (ih_5 (w + 1) (_, _) (by omega) (by omega)) (lc rfl (lc (kvl (foldN_s (fun w d => dg (q_trn t g nS k (nI w)) d) w _).symm) (lc rfl (lc rfl ln))))
                    exact V_to (loop_91 _ 0 (_, _) (Nat.lt_succ_self _) (by omega)) (lc rfl (lc (kvl (foldN_0 _ _).symm) (lc rfl (lc (kv nI_0.symm) ln))))
              exact V_to (loop_77 _ 0 (_, _) (Nat.lt_succ_self _) (by omega)) (lc rfl (lc (kvl (q_d3_0 t g nT nS nW).symm) (lc (kv nI_0.symm) ln)))
            · have c1 := nI_nle' (a := 20) c_36 (by omega) (by omega)
              refine V_iconst (v := 0) hC dX3_digest_39 (by decide) rfl ?_
              refine V_istore hC dX3_digest_40 (Nat.le_of_ble_eq_true rfl) rfl ?_
              have loop_42 : ∀ (d w : Nat) (u : LnS), 5 - w < d → w ≤ 5 → V X 0 0 (WB cI cZ cT c a b t g u.1 u.2) [(0, .ref c), (1, .long (foldN (fun w d => dg (q_sec t g nT nW k (nI w)) d) w (q_d2 t g nT nW k))), (3, .int (nI k)), (4, .int (nI w))] 42 [] := by
                intro d_3
                induction d_3 with
                | zero => intro w; intros; omega
                | succ d_3 ih_3 =>
                  intro w u h3 hk3
                  refine V_iload hC dX3_digest_42 rfl rfl ?_
                  refine V_iconst (v := 4) hC dX3_digest_44 (by decide) rfl ?_
                  refine V_icmp_gt (tgt := 69) hC dX3_digest_45 (by decide) rfl (fun c_45 => ?_) (fun c_45 => ?_)
                  · have c1 := nI_lt' (a := 4) c_45 (by omega) (by omega)
                    obtain rfl : w = 5 := by omega
                    refine V_iinc hC dX3_digest_69 rfl (nI_1 k) (Nat.le_of_ble_eq_true rfl) rfl ?_
                    refine V_goto (tgt := 33) hC dX3_digest_72 (by decide) ?_
                    exact V_to (ih_2 (k + 1) (_, _) (by omega) (by omega)) (lc rfl (lc (kvl (q_d2_s t g nT nW k).symm) (lc rfl ln)))
                  · have c1 := nI_nlt' (a := 4) c_45 (by omega) (by omega)
                    refine V_lload_n hC dX3_digest_48 rfl rfl rfl ?_
                    refine V_ldc2 (v := 31) hC dX3_digest_49 k187_X3_digest rfl ?_
                    refine V_lmul hC dX3_digest_52 rfl ?_
                    refine V_aload_n hC dX3_digest_53 rfl rfl rfl ?_
                    refine V_iload_n hC dX3_digest_54 rfl rfl rfl ?_
                    refine V_iload hC dX3_digest_55 rfl rfl ?_
                    refine V_callIV (q0 := 0) (n := 2) hC dX3_digest_57 (k_X3_ofSection l D cI cZ cT c a b _ _ _ _ _ _ _ ok k (by omega) _ (m_inN (a := 0) (b := 4) (by omega) (by omega) (by decide))) gX3_digest_X3_ofSection rfl ⟨rfl, rfl⟩ (by decide +kernel) ⟨Nat.le_of_ble_eq_true rfl, Nat.le_of_ble_eq_true rfl⟩ ⟨Nat.le_of_ble_eq_true rfl, Nat.le_of_ble_eq_true rfl⟩ rfl rfl rfl rfl (by exact Nat.le_of_ble_eq_true rfl) rfl (fun r_57 u_57 h_57 => ?_)
                    subst h_57
                    refine V_i2l hC dX3_digest_60 rfl ?_
                    refine V_ladd hC dX3_digest_61 rfl ?_
                    refine V_lstore_n hC dX3_digest_62 rfl (Nat.le_of_ble_eq_true rfl) rfl ?_
                    refine V_iinc hC dX3_digest_63 rfl (nI_1 w) (Nat.le_of_ble_eq_true rfl) rfl ?_
                    refine V_goto (tgt := 42) hC dX3_digest_66 (by decide) ?_
                    exact V_to (ih_3 (w + 1) (_, _) (by omega) (by omega)) (lc rfl (lc (kvl (foldN_s (fun w d => dg (q_sec t g nT nW k (nI w)) d) w _).symm) (lc rfl (lc rfl ln))))
              exact V_to (loop_42 _ 0 (_, _) (Nat.lt_succ_self _) (by omega)) (lc rfl (lc (kvl (foldN_0 _ _).symm) (lc rfl (lc (kv nI_0.symm) ln))))
        exact V_to (loop_33 _ 0 (_, _) (Nat.lt_succ_self _) (by omega)) (lc rfl (lc (kvl (q_d2_0 t g nT nW).symm) (lc (kv nI_0.symm) ln)))
      · have c1 := nI_nlt' (a := 9) c_9 (by omega) (by omega)
        refine V_lload_n hC dX3_digest_12 rfl rfl rfl ?_
        refine V_ldc2 (v := 31) hC dX3_digest_13 k187_X3_digest rfl ?_
        refine V_lmul hC dX3_digest_16 rfl ?_
        refine V_aload_n hC dX3_digest_17 rfl rfl rfl ?_
        refine V_iload_n hC dX3_digest_18 rfl rfl rfl ?_
        refine V_callIV (q0 := 0) (n := 1) hC dX3_digest_19 (k_X3_many l D cI cZ cT c a b _ _ _ _ _ _ _ ok _ (m_inN (a := 0) (b := 9) (by omega) (by omega) (by decide))) gX3_digest_X3_many rfl ⟨rfl, rfl⟩ (by decide +kernel) ⟨Nat.le_of_ble_eq_true rfl, Nat.le_of_ble_eq_true rfl⟩ ⟨Nat.le_of_ble_eq_true rfl, Nat.le_of_ble_eq_true rfl⟩ rfl rfl rfl rfl (by exact Nat.le_of_ble_eq_true rfl) rfl (fun r_19 u_19 h_19 => ?_)
        subst h_19
        refine V_i2l hC dX3_digest_22 rfl ?_
        refine V_ladd hC dX3_digest_23 rfl ?_
        refine V_lstore_n hC dX3_digest_24 rfl (Nat.le_of_ble_eq_true rfl) rfl ?_
        refine V_iinc hC dX3_digest_25 rfl (nI_1 k) (Nat.le_of_ble_eq_true rfl) rfl ?_
        refine V_goto (tgt := 6) hC dX3_digest_28 (by decide) ?_
        exact V_to (ih_1 (k + 1) (_, _) (by omega) (by omega)) (lc rfl (lc (kvl (q_d1_s t g nT k).symm) (lc rfl ln)))
  exact V_to (loop_6 _ 0 (_, _) (Nat.lt_succ_self _) (by omega)) (lc rfl (lc (kvl (q_d1_0 t g nT).symm) (lc (kv nI_0.symm) ln)))
