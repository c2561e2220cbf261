set_option maxRecDepth 100000 in
set_option maxHeartbeats 16000000 in
theorem law_body {l : Launch} {D : va_G} {cI cZ cT : ClassId} (hfl : l.stackTraces = false) {X : VC} {A : Nat → Prop} {sb L : Nat} {xs : Nat → Int32} (hL : L ≤ 5) {ret0 : Option FieldType} (hC : Cx X l room_1 D kC2 (kT2 D cI cZ cT) A code 9 RL wsL_law ret0) (hsc : Sc X sb L xs) (hE : ∀ (ws : va_W) (lv : List (Nat × Value)) (pc : Nat), decode code pc = .ok (.ireturn, 1) → V X 639801 7182833 ws lv pc [.int 1]) (c : Nat) (a b : Nat → Nat) (m : Nat) (r : Nat → Nat) (o : Nat) : V X 100 1000 ((WB cI cZ cT c a b tI gI tI gI ++ [(o, .inl (D.1 102, 1, .inr (.inl (fun _ => 0))))]) ++ Wm D cI m 0 0 r (FI 20) (fun _ => 0) (D.2 100 0)) [(0, .ref sb), (1, .ref c), (2, .ref m), (3, .ref o)] 20 [] := by
  have ex_ : L = 5 → ∀ ws : va_W, V X 639801 7182833 ws [(0, .ref sb), (4, .int 0)] 1502 [] := by
    rintro rfl ws
    refine V_iinc (v := 5) hC dL_law_1502 rfl (by decide) (Nat.le_of_ble_eq_true rfl) rfl ?_
    refine V_goto (tgt := 23) hC dL_law_1505 (by decide) ?_
    refine V_iload hC dL_law_23 rfl rfl ?_
    refine V_aload_n hC dL_law_25 rfl rfl rfl ?_
    refine V_slen hC hsc dL_law_26 rfl ?_
    refine V_iconst (v := 5) hC dL_law_27 (by decide) rfl ?_
    refine V_isub hC dL_law_28 rfl ?_
    refine V_icmp_gt (tgt := 1508) hC dL_law_29 (by decide) rfl (fun c_29 => ?_) (fun c_29 => ?_)
    · refine V_iconst (v := 1) hC dL_law_1508 (by decide) rfl ?_
      refine V_widen (k := 639801) (n := 7182833) (Nat.le_of_ble_eq_true rfl) (Nat.le_of_ble_eq_true rfl) ?_
      exact hE _ _ _ dL_law_1509
    · exact absurd (by decide) c_29
  refine V_iconst (v := 0) hC dL_law_20 (by decide) rfl ?_
  refine V_istore hC dL_law_21 (Nat.le_of_ble_eq_true rfl) rfl ?_
  refine V_iload hC dL_law_23 rfl rfl ?_
  refine V_aload_n hC dL_law_25 rfl rfl rfl ?_
  refine V_slen hC hsc dL_law_26 rfl ?_
  refine V_iconst (v := 5) hC dL_law_27 (by decide) rfl ?_
  refine V_isub hC dL_law_28 rfl ?_
  refine V_icmp_gt (tgt := 1508) hC dL_law_29 (by decide) rfl (fun c_29 => ?_) (fun c_29 => ?_)
  · refine V_iconst (v := 1) hC dL_law_1508 (by decide) rfl ?_
    refine V_widen (k := 639801) (n := 7182833) (Nat.le_of_ble_eq_true rfl) (Nat.le_of_ble_eq_true rfl) ?_
    exact hE _ _ _ dL_law_1509
  · rcases (show L = 0 ∨ L = 1 ∨ L = 2 ∨ L = 3 ∨ L = 4 ∨ L = 5 by omega) with rfl | rfl | rfl | rfl | rfl | rfl
    · exact absurd (by decide) c_29
    · exact absurd (by decide) c_29
    · exact absurd (by decide) c_29
    · exact absurd (by decide) c_29
    · exact absurd (by decide) c_29
    refine V_aload_n hC dL_law_32 rfl rfl rfl ?_
    refine V_iload hC dL_law_33 rfl rfl ?_
    refine V_sld (i := 0) hC hsc dL_law_35 (by decide) (by decide) (by decide) rfl ?_
    refine V_bipush (v := 31) hC dL_law_36 (by decide) rfl ?_
    refine V_iand hC dL_law_38 rfl ?_
    generalize xs 0 &&& 31 = w
    by_cases w_0 : w = 0
    · subst w_0
      refine V_tableIn (tgt := 132) (off := 93) hC dL_law_39 (by decide) (by decide) (by decide) (by decide) ?_
      refine V_aload_n hC dL_law_132 rfl rfl rfl ?_
      refine V_aload_n hC dL_law_133 rfl rfl rfl ?_
      refine V_iload hC dL_law_134 rfl rfl ?_
      refine V_iconst (v := 1) hC dL_law_136 (by decide) rfl ?_
      refine V_iadd hC dL_law_137 rfl ?_
      refine V_sld (i := 1) hC hsc dL_law_138 (by decide) (by decide) (by decide) rfl ?_
      refine V_aload_n hC dL_law_139 rfl rfl rfl ?_
      refine V_iload hC dL_law_140 rfl rfl ?_
      refine V_iconst (v := 2) hC dL_law_142 (by decide) rfl ?_
      refine V_iadd hC dL_law_143 rfl ?_
      refine V_sld (i := 2) hC hsc dL_law_144 (by decide) (by decide) (by decide) rfl ?_
      refine V_aload_n hC dL_law_145 rfl rfl rfl ?_
      refine V_iload hC dL_law_146 rfl rfl ?_
      refine V_iconst (v := 3) hC dL_law_148 (by decide) rfl ?_
      refine V_iadd hC dL_law_149 rfl ?_
      refine V_sld (i := 3) hC hsc dL_law_150 (by decide) (by decide) (by decide) rfl ?_
      refine V_aload_n hC dL_law_151 rfl rfl rfl ?_
      refine V_iload hC dL_law_152 rfl rfl ?_
      refine V_iconst (v := 4) hC dL_law_154 (by decide) rfl ?_
      refine V_iadd hC dL_law_155 rfl ?_
      refine V_sld (i := 4) hC hsc dL_law_156 (by decide) (by decide) (by decide) rfl ?_
      refine V_if_eq (tgt := 164) hC dL_law_157 (by decide) rfl (fun c_157 => ?_) (fun c_157 => ?_)
      · refine V_iconst (v := 0) hC dL_law_164 (by decide) rfl ?_
        refine V_aload_n hC dL_law_165 rfl rfl rfl ?_
        refine V_callWS (n := 6) (pre := []) (suf := Wm D cI m 0 0 r (FI 20) (fun _ => 0) (D.2 100 0)) hC dL_law_166 (k_L_section l D cI cZ cT hfl c a b o _ _ _ _ _ (by first | exact Or.inl rfl | exact Or.inr rfl)) gL_law_L_section rfl ⟨rfl, rfl⟩ (by decide +kernel) ⟨Nat.le_of_ble_eq_true rfl, Nat.le_of_ble_eq_true rfl⟩ ⟨Nat.le_of_ble_eq_true rfl, Nat.le_of_ble_eq_true rfl⟩ rfl rfl rfl (by exact Nat.le_of_ble_eq_true rfl) rfl (fun r_166 u_166 h_166 => ?_)
        refine V_ws (ws' := [(o, .inl (D.1 102, 1, .inr (.inl u_166)))] ++ (Wm D cI m 0 0 r (FI 20) (fun _ => 0) (D.2 100 0) ++ [])) (by simp) ?_
        refine V_istore hC dL_law_169 (Nat.le_of_ble_eq_true rfl) rfl ?_
        refine V_aload_n hC dL_law_171 rfl rfl rfl ?_
        refine V_aload_n hC dL_law_172 rfl rfl rfl ?_
        refine V_iload hC dL_law_173 rfl rfl ?_
        refine V_iconst (v := 1) hC dL_law_175 (by decide) rfl ?_
        refine V_iadd hC dL_law_176 rfl ?_
        refine V_sld (i := 1) hC hsc dL_law_177 (by decide) (by decide) (by decide) rfl ?_
        refine V_aload_n hC dL_law_178 rfl rfl rfl ?_
        refine V_iload hC dL_law_179 rfl rfl ?_
        refine V_iconst (v := 2) hC dL_law_181 (by decide) rfl ?_
        refine V_iadd hC dL_law_182 rfl ?_
        refine V_sld (i := 2) hC hsc dL_law_183 (by decide) (by decide) (by decide) rfl ?_
        refine V_aload_n hC dL_law_184 rfl rfl rfl ?_
        refine V_iload hC dL_law_185 rfl rfl ?_
        refine V_iconst (v := 3) hC dL_law_187 (by decide) rfl ?_
        refine V_iadd hC dL_law_188 rfl ?_
        refine V_sld (i := 3) hC hsc dL_law_189 (by decide) (by decide) (by decide) rfl ?_
        refine V_aload_n hC dL_law_190 rfl rfl rfl ?_
        refine V_iload hC dL_law_191 rfl rfl ?_
        refine V_iconst (v := 4) hC dL_law_193 (by decide) rfl ?_
        refine V_iadd hC dL_law_194 rfl ?_
        refine V_sld (i := 4) hC hsc dL_law_195 (by decide) (by decide) (by decide) rfl ?_
        refine V_if_eq (tgt := 203) hC dL_law_196 (by decide) rfl (fun c_196 => ?_) (fun c_196 => ?_)
        · refine V_iconst (v := 0) hC dL_law_203 (by decide) rfl ?_
          refine V_callIVf (q0 := 0) (n := 4) (pre := [(o, .inl (D.1 102, 1, .inr (.inl u_166)))]) (suf := []) hC dL_law_204 (k_X5_section l D cI cZ cT _ _ _ _ _ _ _ rfl _ _ _ _) gL_law_X5_section rfl ⟨rfl, rfl⟩ (by decide +kernel) ⟨Nat.le_of_ble_eq_true rfl, Nat.le_of_ble_eq_true rfl⟩ ⟨Nat.le_of_ble_eq_true rfl, Nat.le_of_ble_eq_true rfl⟩ rfl rfl rfl rfl rfl (by exact Nat.le_of_ble_eq_true rfl) rfl (fun r_204 u_204 h_204 => ?_)
          refine V_istore hC dL_law_207 (Nat.le_of_ble_eq_true rfl) rfl ?_
          refine V_aload_n hC dL_law_209 rfl rfl rfl ?_
          refine V_callIVf (q0 := 0) (n := 0) (pre := [(o, .inl (D.1 102, 1, .inr (.inl u_166)))]) (suf := []) hC dL_law_210 (k_X5_thrown l D cI cZ cT _ _ _ _ _ _ _ ) gL_law_X5_thrown rfl ⟨rfl, rfl⟩ (by decide +kernel) ⟨Nat.le_of_ble_eq_true rfl, Nat.le_of_ble_eq_true rfl⟩ ⟨Nat.le_of_ble_eq_true rfl, Nat.le_of_ble_eq_true rfl⟩ rfl rfl rfl rfl rfl (by exact Nat.le_of_ble_eq_true rfl) rfl (fun r_210 u_210 h_210 => ?_)
          subst h_210
          refine V_iload hC dL_law_213 rfl rfl ?_
          refine V_icmp_eq (tgt := 220) hC dL_law_215 (by decide) rfl (fun c_215 => ?_) (fun c_215 => ?_)
          · refine V_iload hC dL_law_220 rfl rfl ?_
            refine V_if_ne (tgt := 237) hC dL_law_222 (by decide) rfl (fun c_222 => ?_) (fun c_222 => ?_)
            · refine V_goto (tgt := 1502) hC dL_law_237 (by decide) ?_
              refine V_widen (k := 639801) (n := 7182833) (Nat.le_of_ble_eq_true rfl) (Nat.le_of_ble_eq_true rfl) ?_
              exact V_to (ex_ rfl _) (lc rfl (lc rfl ln))
            · have hx0 := h_166.1.symm.trans c_222
              refine V_aload_n hC dL_law_225 rfl rfl rfl ?_
              refine V_iconst (v := 0) hC dL_law_226 (by decide) rfl ?_
              refine V_lald (q0 := 0) hC dL_law_227 rfl 5 rfl (show (0 : Int32) = nI 0 from rfl) (by decide) (by decide) rfl ?_
              refine V_iload hC dL_law_228 rfl rfl ?_
              refine V_i2l hC dL_law_230 rfl ?_
              refine V_lcmp hC dL_law_231 rfl ?_
              refine V_if_eq (tgt := 237) hC dL_law_232 (by decide) rfl (fun c_232 => ?_) (fun c_232 => ?_)
              · refine V_goto (tgt := 1502) hC dL_law_237 (by decide) ?_
                refine V_widen (k := 639801) (n := 7182833) (Nat.le_of_ble_eq_true rfl) (Nat.le_of_ble_eq_true rfl) ?_
                exact V_to (ex_ rfl _) (lc rfl (lc rfl ln))
              · exact absurd (by rw [h_166.2 hx0, h_204.2 hx0]; exact lg_self _) c_232
          · exact absurd (h_204.1.trans h_166.1.symm) c_215
        · refine V_iconst (v := 1) hC dL_law_199 (by decide) rfl ?_
          refine V_goto (tgt := 204) hC dL_law_200 (by decide) ?_
          refine V_callIVf (q0 := 0) (n := 4) (pre := [(o, .inl (D.1 102, 1, .inr (.inl u_166)))]) (suf := []) hC dL_law_204 (k_X5_section l D cI cZ cT _ _ _ _ _ _ _ rfl _ _ _ _) gL_law_X5_section rfl ⟨rfl, rfl⟩ (by decide +kernel) ⟨Nat.le_of_ble_eq_true rfl, Nat.le_of_ble_eq_true rfl⟩ ⟨Nat.le_of_ble_eq_true rfl, Nat.le_of_ble_eq_true rfl⟩ rfl rfl rfl rfl rfl (by exact Nat.le_of_ble_eq_true rfl) rfl (fun r_204 u_204 h_204 => ?_)
          refine V_istore hC dL_law_207 (Nat.le_of_ble_eq_true rfl) rfl ?_
          refine V_aload_n hC dL_law_209 rfl rfl rfl ?_
          refine V_callIVf (q0 := 0) (n := 0) (pre := [(o, .inl (D.1 102, 1, .inr (.inl u_166)))]) (suf := []) hC dL_law_210 (k_X5_thrown l D cI cZ cT _ _ _ _ _ _ _ ) gL_law_X5_thrown rfl ⟨rfl, rfl⟩ (by decide +kernel) ⟨Nat.le_of_ble_eq_true rfl, Nat.le_of_ble_eq_true rfl⟩ ⟨Nat.le_of_ble_eq_true rfl, Nat.le_of_ble_eq_true rfl⟩ rfl rfl rfl rfl rfl (by exact Nat.le_of_ble_eq_true rfl) rfl (fun r_210 u_210 h_210 => ?_)
          subst h_210
          refine V_iload hC dL_law_213 rfl rfl ?_
          refine V_icmp_eq (tgt := 220) hC dL_law_215 (by decide) rfl (fun c_215 => ?_) (fun c_215 => ?_)
          · refine V_iload hC dL_law_220 rfl rfl ?_
            refine V_if_ne (tgt := 237) hC dL_law_222 (by decide) rfl (fun c_222 => ?_) (fun c_222 => ?_)
            · refine V_goto (tgt := 1502) hC dL_law_237 (by decide) ?_
              refine V_widen (k := 639801) (n := 7182833) (Nat.le_of_ble_eq_true rfl) (Nat.le_of_ble_eq_true rfl) ?_
              exact V_to (ex_ rfl _) (lc rfl (lc rfl ln))
            · have hx0 := h_166.1.symm.trans c_222
              refine V_aload_n hC dL_law_225 rfl rfl rfl ?_
              refine V_iconst (v := 0) hC dL_law_226 (by decide) rfl ?_
              refine V_lald (q0 := 0) hC dL_law_227 rfl 5 rfl (show (0 : Int32) = nI 0 from rfl) (by decide) (by decide) rfl ?_
              refine V_iload hC dL_law_228 rfl rfl ?_
              refine V_i2l hC dL_law_230 rfl ?_
              refine V_lcmp hC dL_law_231 rfl ?_
              refine V_if_eq (tgt := 237) hC dL_law_232 (by decide) rfl (fun c_232 => ?_) (fun c_232 => ?_)
              · refine V_goto (tgt := 1502) hC dL_law_237 (by decide) ?_
                refine V_widen (k := 639801) (n := 7182833) (Nat.le_of_ble_eq_true rfl) (Nat.le_of_ble_eq_true rfl) ?_
                exact V_to (ex_ rfl _) (lc rfl (lc rfl ln))
              · exact absurd (by rw [h_166.2 hx0, h_204.2 hx0]; exact lg_self _) c_232
          · exact absurd (h_204.1.trans h_166.1.symm) c_215
      · refine V_iconst (v := 1) hC dL_law_160 (by decide) rfl ?_
        refine V_goto (tgt := 165) hC dL_law_161 (by decide) ?_
        refine V_aload_n hC dL_law_165 rfl rfl rfl ?_
        refine V_callWS (n := 6) (pre := []) (suf := Wm D cI m 0 0 r (FI 20) (fun _ => 0) (D.2 100 0)) hC dL_law_166 (k_L_section l D cI cZ cT hfl c a b o _ _ _ _ _ (by first | exact Or.inl rfl | exact Or.inr rfl)) gL_law_L_section rfl ⟨rfl, rfl⟩ (by decide +kernel) ⟨Nat.le_of_ble_eq_true rfl, Nat.le_of_ble_eq_true rfl⟩ ⟨Nat.le_of_ble_eq_true rfl, Nat.le_of_ble_eq_true rfl⟩ rfl rfl rfl (by exact Nat.le_of_ble_eq_true rfl) rfl (fun r_166 u_166 h_166 => ?_)
        refine V_ws (ws' := [(o, .inl (D.1 102, 1, .inr (.inl u_166)))] ++ (Wm D cI m 0 0 r (FI 20) (fun _ => 0) (D.2 100 0) ++ [])) (by simp) ?_
        refine V_istore hC dL_law_169 (Nat.le_of_ble_eq_true rfl) rfl ?_
        refine V_aload_n hC dL_law_171 rfl rfl rfl ?_
        refine V_aload_n hC dL_law_172 rfl rfl rfl ?_
        refine V_iload hC dL_law_173 rfl rfl ?_
        refine V_iconst (v := 1) hC dL_law_175 (by decide) rfl ?_
        refine V_iadd hC dL_law_176 rfl ?_
        refine V_sld (i := 1) hC hsc dL_law_177 (by decide) (by decide) (by decide) rfl ?_
        refine V_aload_n hC dL_law_178 rfl rfl rfl ?_
        refine V_iload hC dL_law_179 rfl rfl ?_
        refine V_iconst (v := 2) hC dL_law_181 (by decide) rfl ?_
        refine V_iadd hC dL_law_182 rfl ?_
        refine V_sld (i := 2) hC hsc dL_law_183 (by decide) (by decide) (by decide) rfl ?_
        refine V_aload_n hC dL_law_184 rfl rfl rfl ?_
        refine V_iload hC dL_law_185 rfl rfl ?_
        refine V_iconst (v := 3) hC dL_law_187 (by decide) rfl ?_
        refine V_iadd hC dL_law_188 rfl ?_
        refine V_sld (i := 3) hC hsc dL_law_189 (by decide) (by decide) (by decide) rfl ?_
        refine V_aload_n hC dL_law_190 rfl rfl rfl ?_
        refine V_iload hC dL_law_191 rfl rfl ?_
        refine V_iconst (v := 4) hC dL_law_193 (by decide) rfl ?_
        refine V_iadd hC dL_law_194 rfl ?_
        refine V_sld (i := 4) hC hsc dL_law_195 (by decide) (by decide) (by decide) rfl ?_
        refine V_if_eq (tgt := 203) hC dL_law_196 (by decide) rfl (fun c_196 => ?_) (fun c_196 => ?_)
        · refine V_iconst (v := 0) hC dL_law_203 (by decide) rfl ?_
          refine V_callIVf (q0 := 0) (n := 4) (pre := [(o, .inl (D.1 102, 1, .inr (.inl u_166)))]) (suf := []) hC dL_law_204 (k_X5_section l D cI cZ cT _ _ _ _ _ _ _ rfl _ _ _ _) gL_law_X5_section rfl ⟨rfl, rfl⟩ (by decide +kernel) ⟨Nat.le_of_ble_eq_true rfl, Nat.le_of_ble_eq_true rfl⟩ ⟨Nat.le_of_ble_eq_true rfl, Nat.le_of_ble_eq_true rfl⟩ rfl rfl rfl rfl rfl (by exact Nat.le_of_ble_eq_true rfl) rfl (fun r_204 u_204 h_204 => ?_)
          refine V_istore hC dL_law_207 (Nat.le_of_ble_eq_true rfl) rfl ?_
          refine V_aload_n hC dL_law_209 rfl rfl rfl ?_
          refine V_callIVf (q0 := 0) (n := 0) (pre := [(o, .inl (D.1 102, 1, .inr (.inl u_166)))]) (suf := []) hC dL_law_210 (k_X5_thrown l D cI cZ cT _ _ _ _ _ _ _ ) gL_law_X5_thrown rfl ⟨rfl, rfl⟩ (by decide +kernel) ⟨Nat.le_of_ble_eq_true rfl, Nat.le_of_ble_eq_true rfl⟩ ⟨Nat.le_of_ble_eq_true rfl, Nat.le_of_ble_eq_true rfl⟩ rfl rfl rfl rfl rfl (by exact Nat.le_of_ble_eq_true rfl) rfl (fun r_210 u_210 h_210 => ?_)
          subst h_210
          refine V_iload hC dL_law_213 rfl rfl ?_
          refine V_icmp_eq (tgt := 220) hC dL_law_215 (by decide) rfl (fun c_215 => ?_) (fun c_215 => ?_)
          · refine V_iload hC dL_law_220 rfl rfl ?_
            refine V_if_ne (tgt := 237) hC dL_law_222 (by decide) rfl (fun c_222 => ?_) (fun c_222 => ?_)
            · refine V_goto (tgt := 1502) hC dL_law_237 (by decide) ?_
              refine V_widen (k := 639801) (n := 7182833) (Nat.le_of_ble_eq_true rfl) (Nat.le_of_ble_eq_true rfl) ?_
              exact V_to (ex_ rfl _) (lc rfl (lc rfl ln))
            · have hx0 := h_166.1.symm.trans c_222
              refine V_aload_n hC dL_law_225 rfl rfl rfl ?_
              refine V_iconst (v := 0) hC dL_law_226 (by decide) rfl ?_
              refine V_lald (q0 := 0) hC dL_law_227 rfl 5 rfl (show (0 : Int32) = nI 0 from rfl) (by decide) (by decide) rfl ?_
              refine V_iload hC dL_law_228 rfl rfl ?_
              refine V_i2l hC dL_law_230 rfl ?_
              refine V_lcmp hC dL_law_231 rfl ?_
              refine V_if_eq (tgt := 237) hC dL_law_232 (by decide) rfl (fun c_232 => ?_) (fun c_232 => ?_)
              · refine V_goto (tgt := 1502) hC dL_law_237 (by decide) ?_
                refine V_widen (k := 639801) (n := 7182833) (Nat.le_of_ble_eq_true rfl) (Nat.le_of_ble_eq_true rfl) ?_
                exact V_to (ex_ rfl _) (lc rfl (lc rfl ln))
              · exact absurd (by rw [h_166.2 hx0, h_204.2 hx0]; exact lg_self _) c_232
          · exact absurd (h_204.1.trans h_166.1.symm) c_215
        · refine V_iconst (v := 1) hC dL_law_199 (by decide) rfl ?_
          refine V_goto (tgt := 204) hC dL_law_200 (by decide) ?_
          refine V_callIVf (q0 := 0) (n := 4) (pre := [(o, .inl (D.1 102, 1, .inr (.inl u_166)))]) (suf := []) hC dL_law_204 (k_X5_section l D cI cZ cT _ _ _ _ _ _ _ rfl _ _ _ _) gL_law_X5_section rfl ⟨rfl, rfl⟩ (by decide +kernel) ⟨Nat.le_of_ble_eq_true rfl, Nat.le_of_ble_eq_true rfl⟩ ⟨Nat.le_of_ble_eq_true rfl, Nat.le_of_ble_eq_true rfl⟩ rfl rfl rfl rfl rfl (by exact Nat.le_of_ble_eq_true rfl) rfl (fun r_204 u_204 h_204 => ?_)
          refine V_istore hC dL_law_207 (Nat.le_of_ble_eq_true rfl) rfl ?_
          refine V_aload_n hC dL_law_209 rfl rfl rfl ?_
          refine V_callIVf (q0 := 0) (n := 0) (pre := [(o, .inl (D.1 102, 1, .inr (.inl u_166)))]) (suf := []) hC dL_law_210 (k_X5_thrown l D cI cZ cT _ _ _ _ _ _ _ ) gL_law_X5_thrown rfl ⟨rfl, rfl⟩ (by decide +kernel) ⟨Nat.le_of_ble_eq_true rfl, Nat.le_of_ble_eq_true rfl⟩ ⟨Nat.le_of_ble_eq_true rfl, Nat.le_of_ble_eq_true rfl⟩ rfl rfl rfl rfl rfl (by exact Nat.le_of_ble_eq_true rfl) rfl (fun r_210 u_210 h_210 => ?_)
          subst h_210
          refine V_iload hC dL_law_213 rfl rfl ?_
          refine V_icmp_eq (tgt := 220) hC dL_law_215 (by decide) rfl (fun c_215 => ?_) (fun c_215 => ?_)
          · refine V_iload hC dL_law_220 rfl rfl ?_
            refine V_if_ne (tgt := 237) hC dL_law_222 (by decide) rfl (fun c_222 => ?_) (fun c_222 => ?_)
            · refine V_goto (tgt := 1502) hC dL_law_237 (by decide) ?_
              refine V_widen (k := 639801) (n := 7182833) (Nat.le_of_ble_eq_true rfl) (Nat.le_of_ble_eq_true rfl) ?_
              exact V_to (ex_ rfl _) (lc rfl (lc rfl ln))
            · have hx0 := h_166.1.symm.trans c_222
              refine V_aload_n hC dL_law_225 rfl rfl rfl ?_
              refine V_iconst (v := 0) hC dL_law_226 (by decide) rfl ?_
              refine V_lald (q0 := 0) hC dL_law_227 rfl 5 rfl (show (0 : Int32) = nI 0 from rfl) (by decide) (by decide) rfl ?_
              refine V_iload hC dL_law_228 rfl rfl ?_
              refine V_i2l hC dL_law_230 rfl ?_
              refine V_lcmp hC dL_law_231 rfl ?_
              refine V_if_eq (tgt := 237) hC dL_law_232 (by decide) rfl (fun c_232 => ?_) (fun c_232 => ?_)
              · refine V_goto (tgt := 1502) hC dL_law_237 (by decide) ?_
                refine V_widen (k := 639801) (n := 7182833) (Nat.le_of_ble_eq_true rfl) (Nat.le_of_ble_eq_true rfl) ?_
                exact V_to (ex_ rfl _) (lc rfl (lc rfl ln))
              · exact absurd (by rw [h_166.2 hx0, h_204.2 hx0]; exact lg_self _) c_232
          · exact absurd (h_204.1.trans h_166.1.symm) c_215
    by_cases w_1 : w = 1
    · subst w_1
      refine V_tableIn (tgt := 240) (off := 201) hC dL_law_39 (by decide) (by decide) (by decide) (by decide) ?_
      refine V_aload_n hC dL_law_240 rfl rfl rfl ?_
      refine V_aload_n hC dL_law_241 rfl rfl rfl ?_
      refine V_iload hC dL_law_242 rfl rfl ?_
      refine V_iconst (v := 1) hC dL_law_244 (by decide) rfl ?_
      refine V_iadd hC dL_law_245 rfl ?_
      refine V_sld (i := 1) hC hsc dL_law_246 (by decide) (by decide) (by decide) rfl ?_
      refine V_aload_n hC dL_law_247 rfl rfl rfl ?_
      refine V_iload hC dL_law_248 rfl rfl ?_
      refine V_iconst (v := 2) hC dL_law_250 (by decide) rfl ?_
      refine V_iadd hC dL_law_251 rfl ?_
      refine V_sld (i := 2) hC hsc dL_law_252 (by decide) (by decide) (by decide) rfl ?_
      refine V_aload_n hC dL_law_253 rfl rfl rfl ?_
      refine V_callWS (n := 4) (pre := []) (suf := Wm D cI m 0 0 r (FI 20) (fun _ => 0) (D.2 100 0)) hC dL_law_254 (k_L_station l D cI cZ cT hfl c a b o _ _ _) gL_law_L_station rfl ⟨rfl, rfl⟩ (by decide +kernel) ⟨Nat.le_of_ble_eq_true rfl, Nat.le_of_ble_eq_true rfl⟩ ⟨Nat.le_of_ble_eq_true rfl, Nat.le_of_ble_eq_true rfl⟩ rfl rfl rfl (by exact Nat.le_of_ble_eq_true rfl) rfl (fun r_254 u_254 h_254 => ?_)
      refine V_ws (ws' := [(o, .inl (D.1 102, 1, .inr (.inl u_254)))] ++ (Wm D cI m 0 0 r (FI 20) (fun _ => 0) (D.2 100 0) ++ [])) (by simp) ?_
      refine V_istore hC dL_law_257 (Nat.le_of_ble_eq_true rfl) rfl ?_
      refine V_aload_n hC dL_law_259 rfl rfl rfl ?_
      refine V_aload_n hC dL_law_260 rfl rfl rfl ?_
      refine V_iload hC dL_law_261 rfl rfl ?_
      refine V_iconst (v := 1) hC dL_law_263 (by decide) rfl ?_
      refine V_iadd hC dL_law_264 rfl ?_
      refine V_sld (i := 1) hC hsc dL_law_265 (by decide) (by decide) (by decide) rfl ?_
      refine V_aload_n hC dL_law_266 rfl rfl rfl ?_
      refine V_iload hC dL_law_267 rfl rfl ?_
      refine V_iconst (v := 2) hC dL_law_269 (by decide) rfl ?_
      refine V_iadd hC dL_law_270 rfl ?_
      refine V_sld (i := 2) hC hsc dL_law_271 (by decide) (by decide) (by decide) rfl ?_
      refine V_callIVf (q0 := 0) (n := 2) (pre := [(o, .inl (D.1 102, 1, .inr (.inl u_254)))]) (suf := []) hC dL_law_272 (k_X5_station l D cI cZ cT _ _ _ _ _ _ _ (show (fun _ : Nat => (0 : Int32)) 0 = 0 from rfl) (show (fun _ : Nat => (0 : Int32)) 1 = 0 from rfl) _ _) gL_law_X5_station rfl ⟨rfl, rfl⟩ (by decide +kernel) ⟨Nat.le_of_ble_eq_true rfl, Nat.le_of_ble_eq_true rfl⟩ ⟨Nat.le_of_ble_eq_true rfl, Nat.le_of_ble_eq_true rfl⟩ rfl rfl rfl rfl rfl (by exact Nat.le_of_ble_eq_true rfl) rfl (fun r_272 u_272 h_272 => ?_)
      refine V_istore hC dL_law_275 (Nat.le_of_ble_eq_true rfl) rfl ?_
      refine V_aload_n hC dL_law_277 rfl rfl rfl ?_
      refine V_callIVf (q0 := 0) (n := 0) (pre := [(o, .inl (D.1 102, 1, .inr (.inl u_254)))]) (suf := []) hC dL_law_278 (k_X5_thrown l D cI cZ cT _ _ _ _ _ _ _ ) gL_law_X5_thrown rfl ⟨rfl, rfl⟩ (by decide +kernel) ⟨Nat.le_of_ble_eq_true rfl, Nat.le_of_ble_eq_true rfl⟩ ⟨Nat.le_of_ble_eq_true rfl, Nat.le_of_ble_eq_true rfl⟩ rfl rfl rfl rfl rfl (by exact Nat.le_of_ble_eq_true rfl) rfl (fun r_278 u_278 h_278 => ?_)
      subst h_278
      refine V_iload hC dL_law_281 rfl rfl ?_
      refine V_icmp_eq (tgt := 288) hC dL_law_283 (by decide) rfl (fun c_283 => ?_) (fun c_283 => ?_)
      · refine V_iload hC dL_law_288 rfl rfl ?_
        refine V_if_ne (tgt := 305) hC dL_law_290 (by decide) rfl (fun c_290 => ?_) (fun c_290 => ?_)
        · refine V_goto (tgt := 1502) hC dL_law_305 (by decide) ?_
          refine V_widen (k := 639801) (n := 7182833) (Nat.le_of_ble_eq_true rfl) (Nat.le_of_ble_eq_true rfl) ?_
          exact V_to (ex_ rfl _) (lc rfl (lc rfl ln))
        · have hx0 := h_254.1.symm.trans c_290
          refine V_aload_n hC dL_law_293 rfl rfl rfl ?_
          refine V_iconst (v := 0) hC dL_law_294 (by decide) rfl ?_
          refine V_lald (q0 := 0) hC dL_law_295 rfl 5 rfl (show (0 : Int32) = nI 0 from rfl) (by decide) (by decide) rfl ?_
          refine V_iload hC dL_law_296 rfl rfl ?_
          refine V_i2l hC dL_law_298 rfl ?_
          refine V_lcmp hC dL_law_299 rfl ?_
          refine V_if_eq (tgt := 305) hC dL_law_300 (by decide) rfl (fun c_300 => ?_) (fun c_300 => ?_)
          · refine V_goto (tgt := 1502) hC dL_law_305 (by decide) ?_
            refine V_widen (k := 639801) (n := 7182833) (Nat.le_of_ble_eq_true rfl) (Nat.le_of_ble_eq_true rfl) ?_
            exact V_to (ex_ rfl _) (lc rfl (lc rfl ln))
          · exact absurd (by rw [h_254.2 hx0, h_272.2 hx0]; exact lg_self _) c_300
      · exact absurd (h_272.1.trans h_254.1.symm) c_283
    by_cases w_2 : w = 2
    · subst w_2
      refine V_tableIn (tgt := 308) (off := 269) hC dL_law_39 (by decide) (by decide) (by decide) (by decide) ?_
      refine V_aload_n hC dL_law_308 rfl rfl rfl ?_
      refine V_aload_n hC dL_law_309 rfl rfl rfl ?_
      refine V_iload hC dL_law_310 rfl rfl ?_
      refine V_iconst (v := 1) hC dL_law_312 (by decide) rfl ?_
      refine V_iadd hC dL_law_313 rfl ?_
      refine V_sld (i := 1) hC hsc dL_law_314 (by decide) (by decide) (by decide) rfl ?_
      refine V_aload_n hC dL_law_315 rfl rfl rfl ?_
      refine V_iload hC dL_law_316 rfl rfl ?_
      refine V_iconst (v := 2) hC dL_law_318 (by decide) rfl ?_
      refine V_iadd hC dL_law_319 rfl ?_
      refine V_sld (i := 2) hC hsc dL_law_320 (by decide) (by decide) (by decide) rfl ?_
      refine V_aload_n hC dL_law_321 rfl rfl rfl ?_
      refine V_iload hC dL_law_322 rfl rfl ?_
      refine V_iconst (v := 3) hC dL_law_324 (by decide) rfl ?_
      refine V_iadd hC dL_law_325 rfl ?_
      refine V_sld (i := 3) hC hsc dL_law_326 (by decide) (by decide) (by decide) rfl ?_
      refine V_aload_n hC dL_law_327 rfl rfl rfl ?_
      refine V_iload hC dL_law_328 rfl rfl ?_
      refine V_iconst (v := 4) hC dL_law_330 (by decide) rfl ?_
      refine V_iadd hC dL_law_331 rfl ?_
      refine V_sld (i := 4) hC hsc dL_law_332 (by decide) (by decide) (by decide) rfl ?_
      refine V_if_eq (tgt := 340) hC dL_law_333 (by decide) rfl (fun c_333 => ?_) (fun c_333 => ?_)
      · refine V_iconst (v := 0) hC dL_law_340 (by decide) rfl ?_
        refine V_aload_n hC dL_law_341 rfl rfl rfl ?_
        refine V_callWS (n := 6) (pre := []) (suf := Wm D cI m 0 0 r (FI 20) (fun _ => 0) (D.2 100 0)) hC dL_law_342 (k_L_train l D cI cZ cT hfl c a b o _ _ _ _ _ (by first | exact Or.inl rfl | exact Or.inr rfl)) gL_law_L_train rfl ⟨rfl, rfl⟩ (by decide +kernel) ⟨Nat.le_of_ble_eq_true rfl, Nat.le_of_ble_eq_true rfl⟩ ⟨Nat.le_of_ble_eq_true rfl, Nat.le_of_ble_eq_true rfl⟩ rfl rfl rfl (by exact Nat.le_of_ble_eq_true rfl) rfl (fun r_342 u_342 h_342 => ?_)
        refine V_ws (ws' := [(o, .inl (D.1 102, 1, .inr (.inl u_342)))] ++ (Wm D cI m 0 0 r (FI 20) (fun _ => 0) (D.2 100 0) ++ [])) (by simp) ?_
        refine V_istore hC dL_law_345 (Nat.le_of_ble_eq_true rfl) rfl ?_
        refine V_aload_n hC dL_law_347 rfl rfl rfl ?_
        refine V_aload_n hC dL_law_348 rfl rfl rfl ?_
        refine V_iload hC dL_law_349 rfl rfl ?_
        refine V_iconst (v := 1) hC dL_law_351 (by decide) rfl ?_
        refine V_iadd hC dL_law_352 rfl ?_
        refine V_sld (i := 1) hC hsc dL_law_353 (by decide) (by decide) (by decide) rfl ?_
        refine V_aload_n hC dL_law_354 rfl rfl rfl ?_
        refine V_iload hC dL_law_355 rfl rfl ?_
        refine V_iconst (v := 2) hC dL_law_357 (by decide) rfl ?_
        refine V_iadd hC dL_law_358 rfl ?_
        refine V_sld (i := 2) hC hsc dL_law_359 (by decide) (by decide) (by decide) rfl ?_
        refine V_aload_n hC dL_law_360 rfl rfl rfl ?_
        refine V_iload hC dL_law_361 rfl rfl ?_
        refine V_iconst (v := 3) hC dL_law_363 (by decide) rfl ?_
        refine V_iadd hC dL_law_364 rfl ?_
        refine V_sld (i := 3) hC hsc dL_law_365 (by decide) (by decide) (by decide) rfl ?_
        refine V_aload_n hC dL_law_366 rfl rfl rfl ?_
        refine V_iload hC dL_law_367 rfl rfl ?_
        refine V_iconst (v := 4) hC dL_law_369 (by decide) rfl ?_
        refine V_iadd hC dL_law_370 rfl ?_
        refine V_sld (i := 4) hC hsc dL_law_371 (by decide) (by decide) (by decide) rfl ?_
        refine V_if_eq (tgt := 379) hC dL_law_372 (by decide) rfl (fun c_372 => ?_) (fun c_372 => ?_)
        · refine V_iconst (v := 0) hC dL_law_379 (by decide) rfl ?_
          refine V_callIVf (q0 := 0) (n := 4) (pre := [(o, .inl (D.1 102, 1, .inr (.inl u_342)))]) (suf := []) hC dL_law_380 (k_X5_train l D cI cZ cT _ _ _ _ _ _ _ (show (fun _ : Nat => (0 : Int32)) 0 = 0 from rfl) (show (fun _ : Nat => (0 : Int32)) 1 = 0 from rfl) _ _ _ _) gL_law_X5_train rfl ⟨rfl, rfl⟩ (by decide +kernel) ⟨Nat.le_of_ble_eq_true rfl, Nat.le_of_ble_eq_true rfl⟩ ⟨Nat.le_of_ble_eq_true rfl, Nat.le_of_ble_eq_true rfl⟩ rfl rfl rfl rfl rfl (by exact Nat.le_of_ble_eq_true rfl) rfl (fun r_380 u_380 h_380 => ?_)
          refine V_istore hC dL_law_383 (Nat.le_of_ble_eq_true rfl) rfl ?_
          refine V_aload_n hC dL_law_385 rfl rfl rfl ?_
          refine V_callIVf (q0 := 0) (n := 0) (pre := [(o, .inl (D.1 102, 1, .inr (.inl u_342)))]) (suf := []) hC dL_law_386 (k_X5_thrown l D cI cZ cT _ _ _ _ _ _ _ ) gL_law_X5_thrown rfl ⟨rfl, rfl⟩ (by decide +kernel) ⟨Nat.le_of_ble_eq_true rfl, Nat.le_of_ble_eq_true rfl⟩ ⟨Nat.le_of_ble_eq_true rfl, Nat.le_of_ble_eq_true rfl⟩ rfl rfl rfl rfl rfl (by exact Nat.le_of_ble_eq_true rfl) rfl (fun r_386 u_386 h_386 => ?_)
          subst h_386
          refine V_iload hC dL_law_389 rfl rfl ?_
          refine V_icmp_eq (tgt := 396) hC dL_law_391 (by decide) rfl (fun c_391 => ?_) (fun c_391 => ?_)
          · refine V_iload hC dL_law_396 rfl rfl ?_
            refine V_if_ne (tgt := 413) hC dL_law_398 (by decide) rfl (fun c_398 => ?_) (fun c_398 => ?_)
            · refine V_goto (tgt := 1502) hC dL_law_413 (by decide) ?_
              refine V_widen (k := 639801) (n := 7182833) (Nat.le_of_ble_eq_true rfl) (Nat.le_of_ble_eq_true rfl) ?_
              exact V_to (ex_ rfl _) (lc rfl (lc rfl ln))
            · have hx0 := h_342.1.symm.trans c_398
              refine V_aload_n hC dL_law_401 rfl rfl rfl ?_
              refine V_iconst (v := 0) hC dL_law_402 (by decide) rfl ?_
              refine V_lald (q0 := 0) hC dL_law_403 rfl 5 rfl (show (0 : Int32) = nI 0 from rfl) (by decide) (by decide) rfl ?_
              refine V_iload hC dL_law_404 rfl rfl ?_
              refine V_i2l hC dL_law_406 rfl ?_
              refine V_lcmp hC dL_law_407 rfl ?_
              refine V_if_eq (tgt := 413) hC dL_law_408 (by decide) rfl (fun c_408 => ?_) (fun c_408 => ?_)
              · refine V_goto (tgt := 1502) hC dL_law_413 (by decide) ?_
                refine V_widen (k := 639801) (n := 7182833) (Nat.le_of_ble_eq_true rfl) (Nat.le_of_ble_eq_true rfl) ?_
                exact V_to (ex_ rfl _) (lc rfl (lc rfl ln))
              · exact absurd (by rw [h_342.2 hx0, h_380.2 hx0]; exact lg_self _) c_408
          · exact absurd (h_380.1.trans h_342.1.symm) c_391
        · refine V_iconst (v := 1) hC dL_law_375 (by decide) rfl ?_
          refine V_goto (tgt := 380) hC dL_law_376 (by decide) ?_
          refine V_callIVf (q0 := 0) (n := 4) (pre := [(o, .inl (D.1 102, 1, .inr (.inl u_342)))]) (suf := []) hC dL_law_380 (k_X5_train l D cI cZ cT _ _ _ _ _ _ _ (show (fun _ : Nat => (0 : Int32)) 0 = 0 from rfl) (show (fun _ : Nat => (0 : Int32)) 1 = 0 from rfl) _ _ _ _) gL_law_X5_train rfl ⟨rfl, rfl⟩ (by decide +kernel) ⟨Nat.le_of_ble_eq_true rfl, Nat.le_of_ble_eq_true rfl⟩ ⟨Nat.le_of_ble_eq_true rfl, Nat.le_of_ble_eq_true rfl⟩ rfl rfl rfl rfl rfl (by exact Nat.le_of_ble_eq_true rfl) rfl (fun r_380 u_380 h_380 => ?_)
          refine V_istore hC dL_law_383 (Nat.le_of_ble_eq_true rfl) rfl ?_
          refine V_aload_n hC dL_law_385 rfl rfl rfl ?_
          refine V_callIVf (q0 := 0) (n := 0) (pre := [(o, .inl (D.1 102, 1, .inr (.inl u_342)))]) (suf := []) hC dL_law_386 (k_X5_thrown l D cI cZ cT _ _ _ _ _ _ _ ) gL_law_X5_thrown rfl ⟨rfl, rfl⟩ (by decide +kernel) ⟨Nat.le_of_ble_eq_true rfl, Nat.le_of_ble_eq_true rfl⟩ ⟨Nat.le_of_ble_eq_true rfl, Nat.le_of_ble_eq_true rfl⟩ rfl rfl rfl rfl rfl (by exact Nat.le_of_ble_eq_true rfl) rfl (fun r_386 u_386 h_386 => ?_)
          subst h_386
          refine V_iload hC dL_law_389 rfl rfl ?_
          refine V_icmp_eq (tgt := 396) hC dL_law_391 (by decide) rfl (fun c_391 => ?_) (fun c_391 => ?_)
          · refine V_iload hC dL_law_396 rfl rfl ?_
            refine V_if_ne (tgt := 413) hC dL_law_398 (by decide) rfl (fun c_398 => ?_) (fun c_398 => ?_)
            · refine V_goto (tgt := 1502) hC dL_law_413 (by decide) ?_
              refine V_widen (k := 639801) (n := 7182833) (Nat.le_of_ble_eq_true rfl) (Nat.le_of_ble_eq_true rfl) ?_
              exact V_to (ex_ rfl _) (lc rfl (lc rfl ln))
            · have hx0 := h_342.1.symm.trans c_398
              refine V_aload_n hC dL_law_401 rfl rfl rfl ?_
              refine V_iconst (v := 0) hC dL_law_402 (by decide) rfl ?_
              refine V_lald (q0 := 0) hC dL_law_403 rfl 5 rfl (show (0 : Int32) = nI 0 from rfl) (by decide) (by decide) rfl ?_
              refine V_iload hC dL_law_404 rfl rfl ?_
              refine V_i2l hC dL_law_406 rfl ?_
              refine V_lcmp hC dL_law_407 rfl ?_
              refine V_if_eq (tgt := 413) hC dL_law_408 (by decide) rfl (fun c_408 => ?_) (fun c_408 => ?_)
              · refine V_goto (tgt := 1502) hC dL_law_413 (by decide) ?_
                refine V_widen (k := 639801) (n := 7182833) (Nat.le_of_ble_eq_true rfl) (Nat.le_of_ble_eq_true rfl) ?_
                exact V_to (ex_ rfl _) (lc rfl (lc rfl ln))
              · exact absurd (by rw [h_342.2 hx0, h_380.2 hx0]; exact lg_self _) c_408
          · exact absurd (h_380.1.trans h_342.1.symm) c_391
      · refine V_iconst (v := 1) hC dL_law_336 (by decide) rfl ?_
        refine V_goto (tgt := 341) hC dL_law_337 (by decide) ?_
        refine V_aload_n hC dL_law_341 rfl rfl rfl ?_
        refine V_callWS (n := 6) (pre := []) (suf := Wm D cI m 0 0 r (FI 20) (fun _ => 0) (D.2 100 0)) hC dL_law_342 (k_L_train l D cI cZ cT hfl c a b o _ _ _ _ _ (by first | exact Or.inl rfl | exact Or.inr rfl)) gL_law_L_train rfl ⟨rfl, rfl⟩ (by decide +kernel) ⟨Nat.le_of_ble_eq_true rfl, Nat.le_of_ble_eq_true rfl⟩ ⟨Nat.le_of_ble_eq_true rfl, Nat.le_of_ble_eq_true rfl⟩ rfl rfl rfl (by exact Nat.le_of_ble_eq_true rfl) rfl (fun r_342 u_342 h_342 => ?_)
        refine V_ws (ws' := [(o, .inl (D.1 102, 1, .inr (.inl u_342)))] ++ (Wm D cI m 0 0 r (FI 20) (fun _ => 0) (D.2 100 0) ++ [])) (by simp) ?_
        refine V_istore hC dL_law_345 (Nat.le_of_ble_eq_true rfl) rfl ?_
        refine V_aload_n hC dL_law_347 rfl rfl rfl ?_
        refine V_aload_n hC dL_law_348 rfl rfl rfl ?_
        refine V_iload hC dL_law_349 rfl rfl ?_
        refine V_iconst (v := 1) hC dL_law_351 (by decide) rfl ?_
        refine V_iadd hC dL_law_352 rfl ?_
        refine V_sld (i := 1) hC hsc dL_law_353 (by decide) (by decide) (by decide) rfl ?_
        refine V_aload_n hC dL_law_354 rfl rfl rfl ?_
        refine V_iload hC dL_law_355 rfl rfl ?_
        refine V_iconst (v := 2) hC dL_law_357 (by decide) rfl ?_
        refine V_iadd hC dL_law_358 rfl ?_
        refine V_sld (i := 2) hC hsc dL_law_359 (by decide) (by decide) (by decide) rfl ?_
        refine V_aload_n hC dL_law_360 rfl rfl rfl ?_
        refine V_iload hC dL_law_361 rfl rfl ?_
        refine V_iconst (v := 3) hC dL_law_363 (by decide) rfl ?_
        refine V_iadd hC dL_law_364 rfl ?_
        refine V_sld (i := 3) hC hsc dL_law_365 (by decide) (by decide) (by decide) rfl ?_
        refine V_aload_n hC dL_law_366 rfl rfl rfl ?_
        refine V_iload hC dL_law_367 rfl rfl ?_
        refine V_iconst (v := 4) hC dL_law_369 (by decide) rfl ?_
        refine V_iadd hC dL_law_370 rfl ?_
        refine V_sld (i := 4) hC hsc dL_law_371 (by decide) (by decide) (by decide) rfl ?_
        refine V_if_eq (tgt := 379) hC dL_law_372 (by decide) rfl (fun c_372 => ?_) (fun c_372 => ?_)
        · refine V_iconst (v := 0) hC dL_law_379 (by decide) rfl ?_
          refine V_callIVf (q0 := 0) (n := 4) (pre := [(o, .inl (D.1 102, 1, .inr (.inl u_342)))]) (suf := []) hC dL_law_380 (k_X5_train l D cI cZ cT _ _ _ _ _ _ _ (show (fun _ : Nat => (0 : Int32)) 0 = 0 from rfl) (show (fun _ : Nat => (0 : Int32)) 1 = 0 from rfl) _ _ _ _) gL_law_X5_train rfl ⟨rfl, rfl⟩ (by decide +kernel) ⟨Nat.le_of_ble_eq_true rfl, Nat.le_of_ble_eq_true rfl⟩ ⟨Nat.le_of_ble_eq_true rfl, Nat.le_of_ble_eq_true rfl⟩ rfl rfl rfl rfl rfl (by exact Nat.le_of_ble_eq_true rfl) rfl (fun r_380 u_380 h_380 => ?_)
          refine V_istore hC dL_law_383 (Nat.le_of_ble_eq_true rfl) rfl ?_
          refine V_aload_n hC dL_law_385 rfl rfl rfl ?_
          refine V_callIVf (q0 := 0) (n := 0) (pre := [(o, .inl (D.1 102, 1, .inr (.inl u_342)))]) (suf := []) hC dL_law_386 (k_X5_thrown l D cI cZ cT _ _ _ _ _ _ _ ) gL_law_X5_thrown rfl ⟨rfl, rfl⟩ (by decide +kernel) ⟨Nat.le_of_ble_eq_true rfl, Nat.le_of_ble_eq_true rfl⟩ ⟨Nat.le_of_ble_eq_true rfl, Nat.le_of_ble_eq_true rfl⟩ rfl rfl rfl rfl rfl (by exact Nat.le_of_ble_eq_true rfl) rfl (fun r_386 u_386 h_386 => ?_)
          subst h_386
          refine V_iload hC dL_law_389 rfl rfl ?_
          refine V_icmp_eq (tgt := 396) hC dL_law_391 (by decide) rfl (fun c_391 => ?_) (fun c_391 => ?_)
          · refine V_iload hC dL_law_396 rfl rfl ?_
            refine V_if_ne (tgt := 413) hC dL_law_398 (by decide) rfl (fun c_398 => ?_) (fun c_398 => ?_)
            · refine V_goto (tgt := 1502) hC dL_law_413 (by decide) ?_
              refine V_widen (k := 639801) (n := 7182833) (Nat.le_of_ble_eq_true rfl) (Nat.le_of_ble_eq_true rfl) ?_
              exact V_to (ex_ rfl _) (lc rfl (lc rfl ln))
            · have hx0 := h_342.1.symm.trans c_398
              refine V_aload_n hC dL_law_401 rfl rfl rfl ?_
              refine V_iconst (v := 0) hC dL_law_402 (by decide) rfl ?_
              refine V_lald (q0 := 0) hC dL_law_403 rfl 5 rfl (show (0 : Int32) = nI 0 from rfl) (by decide) (by decide) rfl ?_
              refine V_iload hC dL_law_404 rfl rfl ?_
              refine V_i2l hC dL_law_406 rfl ?_
              refine V_lcmp hC dL_law_407 rfl ?_
              refine V_if_eq (tgt := 413) hC dL_law_408 (by decide) rfl (fun c_408 => ?_) (fun c_408 => ?_)
              · refine V_goto (tgt := 1502) hC dL_law_413 (by decide) ?_
                refine V_widen (k := 639801) (n := 7182833) (Nat.le_of_ble_eq_true rfl) (Nat.le_of_ble_eq_true rfl) ?_
                exact V_to (ex_ rfl _) (lc rfl (lc rfl ln))
              · exact absurd (by rw [h_342.2 hx0, h_380.2 hx0]; exact lg_self _) c_408
          · exact absurd (h_380.1.trans h_342.1.symm) c_391
        · refine V_iconst (v := 1) hC dL_law_375 (by decide) rfl ?_
          refine V_goto (tgt := 380) hC dL_law_376 (by decide) ?_
          refine V_callIVf (q0 := 0) (n := 4) (pre := [(o, .inl (D.1 102, 1, .inr (.inl u_342)))]) (suf := []) hC dL_law_380 (k_X5_train l D cI cZ cT _ _ _ _ _ _ _ (show (fun _ : Nat => (0 : Int32)) 0 = 0 from rfl) (show (fun _ : Nat => (0 : Int32)) 1 = 0 from rfl) _ _ _ _) gL_law_X5_train rfl ⟨rfl, rfl⟩ (by decide +kernel) ⟨Nat.le_of_ble_eq_true rfl, Nat.le_of_ble_eq_true rfl⟩ ⟨Nat.le_of_ble_eq_true rfl, Nat.le_of_ble_eq_true rfl⟩ rfl rfl rfl rfl rfl (by exact Nat.le_of_ble_eq_true rfl) rfl (fun r_380 u_380 h_380 => ?_)
          refine V_istore hC dL_law_383 (Nat.le_of_ble_eq_true rfl) rfl ?_
          refine V_aload_n hC dL_law_385 rfl rfl rfl ?_
          refine V_callIVf (q0 := 0) (n := 0) (pre := [(o, .inl (D.1 102, 1, .inr (.inl u_342)))]) (suf := []) hC dL_law_386 (k_X5_thrown l D cI cZ cT _ _ _ _ _ _ _ ) gL_law_X5_thrown rfl ⟨rfl, rfl⟩ (by decide +kernel) ⟨Nat.le_of_ble_eq_true rfl, Nat.le_of_ble_eq_true rfl⟩ ⟨Nat.le_of_ble_eq_true rfl, Nat.le_of_ble_eq_true rfl⟩ rfl rfl rfl rfl rfl (by exact Nat.le_of_ble_eq_true rfl) rfl (fun r_386 u_386 h_386 => ?_)
          subst h_386
          refine V_iload hC dL_law_389 rfl rfl ?_
          refine V_icmp_eq (tgt := 396) hC dL_law_391 (by decide) rfl (fun c_391 => ?_) (fun c_391 => ?_)
          · refine V_iload hC dL_law_396 rfl rfl ?_
            refine V_if_ne (tgt := 413) hC dL_law_398 (by decide) rfl (fun c_398 => ?_) (fun c_398 => ?_)
            · refine V_goto (tgt := 1502) hC dL_law_413 (by decide) ?_
              refine V_widen (k := 639801) (n := 7182833) (Nat.le_of_ble_eq_true rfl) (Nat.le_of_ble_eq_true rfl) ?_
              exact V_to (ex_ rfl _) (lc rfl (lc rfl ln))
            · have hx0 := h_342.1.symm.trans c_398
              refine V_aload_n hC dL_law_401 rfl rfl rfl ?_
              refine V_iconst (v := 0) hC dL_law_402 (by decide) rfl ?_
              refine V_lald (q0 := 0) hC dL_law_403 rfl 5 rfl (show (0 : Int32) = nI 0 from rfl) (by decide) (by decide) rfl ?_
              refine V_iload hC dL_law_404 rfl rfl ?_
              refine V_i2l hC dL_law_406 rfl ?_
              refine V_lcmp hC dL_law_407 rfl ?_
              refine V_if_eq (tgt := 413) hC dL_law_408 (by decide) rfl (fun c_408 => ?_) (fun c_408 => ?_)
              · refine V_goto (tgt := 1502) hC dL_law_413 (by decide) ?_
                refine V_widen (k := 639801) (n := 7182833) (Nat.le_of_ble_eq_true rfl) (Nat.le_of_ble_eq_true rfl) ?_
                exact V_to (ex_ rfl _) (lc rfl (lc rfl ln))
              · exact absurd (by rw [h_342.2 hx0, h_380.2 hx0]; exact lg_self _) c_408
          · exact absurd (h_380.1.trans h_342.1.symm) c_391
    by_cases w_3 : w = 3
    · subst w_3
      refine V_tableIn (tgt := 416) (off := 377) hC dL_law_39 (by decide) (by decide) (by decide) (by decide) ?_
      refine V_aload_n hC dL_law_416 rfl rfl rfl ?_
      refine V_aload_n hC dL_law_417 rfl rfl rfl ?_
      refine V_iload hC dL_law_418 rfl rfl ?_
      refine V_iconst (v := 1) hC dL_law_420 (by decide) rfl ?_
      refine V_iadd hC dL_law_421 rfl ?_
      refine V_sld (i := 1) hC hsc dL_law_422 (by decide) (by decide) (by decide) rfl ?_
      refine V_aload_n hC dL_law_423 rfl rfl rfl ?_
      refine V_iload hC dL_law_424 rfl rfl ?_
      refine V_iconst (v := 2) hC dL_law_426 (by decide) rfl ?_
      refine V_iadd hC dL_law_427 rfl ?_
      refine V_sld (i := 2) hC hsc dL_law_428 (by decide) (by decide) (by decide) rfl ?_
      refine V_if_eq (tgt := 436) hC dL_law_429 (by decide) rfl (fun c_429 => ?_) (fun c_429 => ?_)
      · refine V_iconst (v := 0) hC dL_law_436 (by decide) rfl ?_
        refine V_aload_n hC dL_law_437 rfl rfl rfl ?_
        refine V_callWS (n := 4) (pre := []) (suf := Wm D cI m 0 0 r (FI 20) (fun _ => 0) (D.2 100 0)) hC dL_law_438 (k_L_whole l D cI cZ cT hfl c a b o _ _ _ (by first | exact Or.inl rfl | exact Or.inr rfl)) gL_law_L_whole rfl ⟨rfl, rfl⟩ (by decide +kernel) ⟨Nat.le_of_ble_eq_true rfl, Nat.le_of_ble_eq_true rfl⟩ ⟨Nat.le_of_ble_eq_true rfl, Nat.le_of_ble_eq_true rfl⟩ rfl rfl rfl (by exact Nat.le_of_ble_eq_true rfl) rfl (fun r_438 u_438 h_438 => ?_)
        refine V_ws (ws' := [(o, .inl (D.1 102, 1, .inr (.inl u_438)))] ++ (Wm D cI m 0 0 r (FI 20) (fun _ => 0) (D.2 100 0) ++ [])) (by simp) ?_
        refine V_istore hC dL_law_441 (Nat.le_of_ble_eq_true rfl) rfl ?_
        refine V_aload_n hC dL_law_443 rfl rfl rfl ?_
        refine V_aload_n hC dL_law_444 rfl rfl rfl ?_
        refine V_iload hC dL_law_445 rfl rfl ?_
        refine V_iconst (v := 1) hC dL_law_447 (by decide) rfl ?_
        refine V_iadd hC dL_law_448 rfl ?_
        refine V_sld (i := 1) hC hsc dL_law_449 (by decide) (by decide) (by decide) rfl ?_
        refine V_aload_n hC dL_law_450 rfl rfl rfl ?_
        refine V_iload hC dL_law_451 rfl rfl ?_
        refine V_iconst (v := 2) hC dL_law_453 (by decide) rfl ?_
        refine V_iadd hC dL_law_454 rfl ?_
        refine V_sld (i := 2) hC hsc dL_law_455 (by decide) (by decide) (by decide) rfl ?_
        refine V_if_eq (tgt := 463) hC dL_law_456 (by decide) rfl (fun c_456 => ?_) (fun c_456 => ?_)
        · refine V_iconst (v := 0) hC dL_law_463 (by decide) rfl ?_
          refine V_callIVf (q0 := 0) (n := 2) (pre := [(o, .inl (D.1 102, 1, .inr (.inl u_438)))]) (suf := []) hC dL_law_464 (k_X5_whole l D cI cZ cT _ _ _ _ _ _ _ (show (fun _ : Nat => (0 : Int32)) 1 = 0 from rfl) _ _) gL_law_X5_whole rfl ⟨rfl, rfl⟩ (by decide +kernel) ⟨Nat.le_of_ble_eq_true rfl, Nat.le_of_ble_eq_true rfl⟩ ⟨Nat.le_of_ble_eq_true rfl, Nat.le_of_ble_eq_true rfl⟩ rfl rfl rfl rfl rfl (by exact Nat.le_of_ble_eq_true rfl) rfl (fun r_464 u_464 h_464 => ?_)
          refine V_istore hC dL_law_467 (Nat.le_of_ble_eq_true rfl) rfl ?_
          refine V_aload_n hC dL_law_469 rfl rfl rfl ?_
          refine V_callIVf (q0 := 0) (n := 0) (pre := [(o, .inl (D.1 102, 1, .inr (.inl u_438)))]) (suf := []) hC dL_law_470 (k_X5_thrown l D cI cZ cT _ _ _ _ _ _ _ ) gL_law_X5_thrown rfl ⟨rfl, rfl⟩ (by decide +kernel) ⟨Nat.le_of_ble_eq_true rfl, Nat.le_of_ble_eq_true rfl⟩ ⟨Nat.le_of_ble_eq_true rfl, Nat.le_of_ble_eq_true rfl⟩ rfl rfl rfl rfl rfl (by exact Nat.le_of_ble_eq_true rfl) rfl (fun r_470 u_470 h_470 => ?_)
          subst h_470
          refine V_iload hC dL_law_473 rfl rfl ?_
          refine V_icmp_eq (tgt := 480) hC dL_law_475 (by decide) rfl (fun c_475 => ?_) (fun c_475 => ?_)
          · refine V_iload hC dL_law_480 rfl rfl ?_
            refine V_if_ne (tgt := 504) hC dL_law_482 (by decide) rfl (fun c_482 => ?_) (fun c_482 => ?_)
            · refine V_goto (tgt := 1502) hC dL_law_504 (by decide) ?_
              refine V_widen (k := 639801) (n := 7182833) (Nat.le_of_ble_eq_true rfl) (Nat.le_of_ble_eq_true rfl) ?_
              exact V_to (ex_ rfl _) (lc rfl (lc rfl ln))
            · exact absurd (h_438.symm.trans c_482) (by decide)
          · exact absurd h_438.symm c_475
        · refine V_iconst (v := 1) hC dL_law_459 (by decide) rfl ?_
          refine V_goto (tgt := 464) hC dL_law_460 (by decide) ?_
          refine V_callIVf (q0 := 0) (n := 2) (pre := [(o, .inl (D.1 102, 1, .inr (.inl u_438)))]) (suf := []) hC dL_law_464 (k_X5_whole l D cI cZ cT _ _ _ _ _ _ _ (show (fun _ : Nat => (0 : Int32)) 1 = 0 from rfl) _ _) gL_law_X5_whole rfl ⟨rfl, rfl⟩ (by decide +kernel) ⟨Nat.le_of_ble_eq_true rfl, Nat.le_of_ble_eq_true rfl⟩ ⟨Nat.le_of_ble_eq_true rfl, Nat.le_of_ble_eq_true rfl⟩ rfl rfl rfl rfl rfl (by exact Nat.le_of_ble_eq_true rfl) rfl (fun r_464 u_464 h_464 => ?_)
          refine V_istore hC dL_law_467 (Nat.le_of_ble_eq_true rfl) rfl ?_
          refine V_aload_n hC dL_law_469 rfl rfl rfl ?_
          refine V_callIVf (q0 := 0) (n := 0) (pre := [(o, .inl (D.1 102, 1, .inr (.inl u_438)))]) (suf := []) hC dL_law_470 (k_X5_thrown l D cI cZ cT _ _ _ _ _ _ _ ) gL_law_X5_thrown rfl ⟨rfl, rfl⟩ (by decide +kernel) ⟨Nat.le_of_ble_eq_true rfl, Nat.le_of_ble_eq_true rfl⟩ ⟨Nat.le_of_ble_eq_true rfl, Nat.le_of_ble_eq_true rfl⟩ rfl rfl rfl rfl rfl (by exact Nat.le_of_ble_eq_true rfl) rfl (fun r_470 u_470 h_470 => ?_)
          subst h_470
          refine V_iload hC dL_law_473 rfl rfl ?_
          refine V_icmp_eq (tgt := 480) hC dL_law_475 (by decide) rfl (fun c_475 => ?_) (fun c_475 => ?_)
          · refine V_iload hC dL_law_480 rfl rfl ?_
            refine V_if_ne (tgt := 504) hC dL_law_482 (by decide) rfl (fun c_482 => ?_) (fun c_482 => ?_)
            · refine V_goto (tgt := 1502) hC dL_law_504 (by decide) ?_
              refine V_widen (k := 639801) (n := 7182833) (Nat.le_of_ble_eq_true rfl) (Nat.le_of_ble_eq_true rfl) ?_
              exact V_to (ex_ rfl _) (lc rfl (lc rfl ln))
            · exact absurd (h_438.symm.trans c_482) (by decide)
          · exact absurd h_438.symm c_475
      · refine V_iconst (v := 1) hC dL_law_432 (by decide) rfl ?_
        refine V_goto (tgt := 437) hC dL_law_433 (by decide) ?_
        refine V_aload_n hC dL_law_437 rfl rfl rfl ?_
        refine V_callWS (n := 4) (pre := []) (suf := Wm D cI m 0 0 r (FI 20) (fun _ => 0) (D.2 100 0)) hC dL_law_438 (k_L_whole l D cI cZ cT hfl c a b o _ _ _ (by first | exact Or.inl rfl | exact Or.inr rfl)) gL_law_L_whole rfl ⟨rfl, rfl⟩ (by decide +kernel) ⟨Nat.le_of_ble_eq_true rfl, Nat.le_of_ble_eq_true rfl⟩ ⟨Nat.le_of_ble_eq_true rfl, Nat.le_of_ble_eq_true rfl⟩ rfl rfl rfl (by exact Nat.le_of_ble_eq_true rfl) rfl (fun r_438 u_438 h_438 => ?_)
        refine V_ws (ws' := [(o, .inl (D.1 102, 1, .inr (.inl u_438)))] ++ (Wm D cI m 0 0 r (FI 20) (fun _ => 0) (D.2 100 0) ++ [])) (by simp) ?_
        refine V_istore hC dL_law_441 (Nat.le_of_ble_eq_true rfl) rfl ?_
        refine V_aload_n hC dL_law_443 rfl rfl rfl ?_
        refine V_aload_n hC dL_law_444 rfl rfl rfl ?_
        refine V_iload hC dL_law_445 rfl rfl ?_
        refine V_iconst (v := 1) hC dL_law_447 (by decide) rfl ?_
        refine V_iadd hC dL_law_448 rfl ?_
        refine V_sld (i := 1) hC hsc dL_law_449 (by decide) (by decide) (by decide) rfl ?_
        refine V_aload_n hC dL_law_450 rfl rfl rfl ?_
        refine V_iload hC dL_law_451 rfl rfl ?_
        refine V_iconst (v := 2) hC dL_law_453 (by decide) rfl ?_
        refine V_iadd hC dL_law_454 rfl ?_
        refine V_sld (i := 2) hC hsc dL_law_455 (by decide) (by decide) (by decide) rfl ?_
        refine V_if_eq (tgt := 463) hC dL_law_456 (by decide) rfl (fun c_456 => ?_) (fun c_456 => ?_)
        · refine V_iconst (v := 0) hC dL_law_463 (by decide) rfl ?_
          refine V_callIVf (q0 := 0) (n := 2) (pre := [(o, .inl (D.1 102, 1, .inr (.inl u_438)))]) (suf := []) hC dL_law_464 (k_X5_whole l D cI cZ cT _ _ _ _ _ _ _ (show (fun _ : Nat => (0 : Int32)) 1 = 0 from rfl) _ _) gL_law_X5_whole rfl ⟨rfl, rfl⟩ (by decide +kernel) ⟨Nat.le_of_ble_eq_true rfl, Nat.le_of_ble_eq_true rfl⟩ ⟨Nat.le_of_ble_eq_true rfl, Nat.le_of_ble_eq_true rfl⟩ rfl rfl rfl rfl rfl (by exact Nat.le_of_ble_eq_true rfl) rfl (fun r_464 u_464 h_464 => ?_)
          refine V_istore hC dL_law_467 (Nat.le_of_ble_eq_true rfl) rfl ?_
          refine V_aload_n hC dL_law_469 rfl rfl rfl ?_
          refine V_callIVf (q0 := 0) (n := 0) (pre := [(o, .inl (D.1 102, 1, .inr (.inl u_438)))]) (suf := []) hC dL_law_470 (k_X5_thrown l D cI cZ cT _ _ _ _ _ _ _ ) gL_law_X5_thrown rfl ⟨rfl, rfl⟩ (by decide +kernel) ⟨Nat.le_of_ble_eq_true rfl, Nat.le_of_ble_eq_true rfl⟩ ⟨Nat.le_of_ble_eq_true rfl, Nat.le_of_ble_eq_true rfl⟩ rfl rfl rfl rfl rfl (by exact Nat.le_of_ble_eq_true rfl) rfl (fun r_470 u_470 h_470 => ?_)
          subst h_470
          refine V_iload hC dL_law_473 rfl rfl ?_
          refine V_icmp_eq (tgt := 480) hC dL_law_475 (by decide) rfl (fun c_475 => ?_) (fun c_475 => ?_)
          · refine V_iload hC dL_law_480 rfl rfl ?_
            refine V_if_ne (tgt := 504) hC dL_law_482 (by decide) rfl (fun c_482 => ?_) (fun c_482 => ?_)
            · refine V_goto (tgt := 1502) hC dL_law_504 (by decide) ?_
              refine V_widen (k := 639801) (n := 7182833) (Nat.le_of_ble_eq_true rfl) (Nat.le_of_ble_eq_true rfl) ?_
              exact V_to (ex_ rfl _) (lc rfl (lc rfl ln))
            · exact absurd (h_438.symm.trans c_482) (by decide)
          · exact absurd h_438.symm c_475
        · refine V_iconst (v := 1) hC dL_law_459 (by decide) rfl ?_
          refine V_goto (tgt := 464) hC dL_law_460 (by decide) ?_
          refine V_callIVf (q0 := 0) (n := 2) (pre := [(o, .inl (D.1 102, 1, .inr (.inl u_438)))]) (suf := []) hC dL_law_464 (k_X5_whole l D cI cZ cT _ _ _ _ _ _ _ (show (fun _ : Nat => (0 : Int32)) 1 = 0 from rfl) _ _) gL_law_X5_whole rfl ⟨rfl, rfl⟩ (by decide +kernel) ⟨Nat.le_of_ble_eq_true rfl, Nat.le_of_ble_eq_true rfl⟩ ⟨Nat.le_of_ble_eq_true rfl, Nat.le_of_ble_eq_true rfl⟩ rfl rfl rfl rfl rfl (by exact Nat.le_of_ble_eq_true rfl) rfl (fun r_464 u_464 h_464 => ?_)
          refine V_istore hC dL_law_467 (Nat.le_of_ble_eq_true rfl) rfl ?_
          refine V_aload_n hC dL_law_469 rfl rfl rfl ?_
          refine V_callIVf (q0 := 0) (n := 0) (pre := [(o, .inl (D.1 102, 1, .inr (.inl u_438)))]) (suf := []) hC dL_law_470 (k_X5_thrown l D cI cZ cT _ _ _ _ _ _ _ ) gL_law_X5_thrown rfl ⟨rfl, rfl⟩ (by decide +kernel) ⟨Nat.le_of_ble_eq_true rfl, Nat.le_of_ble_eq_true rfl⟩ ⟨Nat.le_of_ble_eq_true rfl, Nat.le_of_ble_eq_true rfl⟩ rfl rfl rfl rfl rfl (by exact Nat.le_of_ble_eq_true rfl) rfl (fun r_470 u_470 h_470 => ?_)
          subst h_470
          refine V_iload hC dL_law_473 rfl rfl ?_
          refine V_icmp_eq (tgt := 480) hC dL_law_475 (by decide) rfl (fun c_475 => ?_) (fun c_475 => ?_)
          · refine V_iload hC dL_law_480 rfl rfl ?_
            refine V_if_ne (tgt := 504) hC dL_law_482 (by decide) rfl (fun c_482 => ?_) (fun c_482 => ?_)
            · refine V_goto (tgt := 1502) hC dL_law_504 (by decide) ?_
              refine V_widen (k := 639801) (n := 7182833) (Nat.le_of_ble_eq_true rfl) (Nat.le_of_ble_eq_true rfl) ?_
              exact V_to (ex_ rfl _) (lc rfl (lc rfl ln))
            · exact absurd (h_438.symm.trans c_482) (by decide)
          · exact absurd h_438.symm c_475
    by_cases w_4 : w = 4
    · subst w_4
      refine V_tableIn (tgt := 507) (off := 468) hC dL_law_39 (by decide) (by decide) (by decide) (by decide) ?_
      refine V_aload_n hC dL_law_507 rfl rfl rfl ?_
      refine V_aload_n hC dL_law_508 rfl rfl rfl ?_
      refine V_iload hC dL_law_509 rfl rfl ?_
      refine V_iconst (v := 1) hC dL_law_511 (by decide) rfl ?_
      refine V_iadd hC dL_law_512 rfl ?_
      refine V_sld (i := 1) hC hsc dL_law_513 (by decide) (by decide) (by decide) rfl ?_
      refine V_aload_n hC dL_law_514 rfl rfl rfl ?_
      refine V_iload hC dL_law_515 rfl rfl ?_
      refine V_iconst (v := 2) hC dL_law_517 (by decide) rfl ?_
      refine V_iadd hC dL_law_518 rfl ?_
      refine V_sld (i := 2) hC hsc dL_law_519 (by decide) (by decide) (by decide) rfl ?_
      refine V_aload_n hC dL_law_520 rfl rfl rfl ?_
      refine V_callWS (n := 4) (pre := []) (suf := Wm D cI m 0 0 r (FI 20) (fun _ => 0) (D.2 100 0)) hC dL_law_521 (k_L_works l D cI cZ cT hfl c a b o _ _ _) gL_law_L_works rfl ⟨rfl, rfl⟩ (by decide +kernel) ⟨Nat.le_of_ble_eq_true rfl, Nat.le_of_ble_eq_true rfl⟩ ⟨Nat.le_of_ble_eq_true rfl, Nat.le_of_ble_eq_true rfl⟩ rfl rfl rfl (by exact Nat.le_of_ble_eq_true rfl) rfl (fun r_521 u_521 h_521 => ?_)
      refine V_ws (ws' := [(o, .inl (D.1 102, 1, .inr (.inl u_521)))] ++ (Wm D cI m 0 0 r (FI 20) (fun _ => 0) (D.2 100 0) ++ [])) (by simp) ?_
      refine V_istore hC dL_law_524 (Nat.le_of_ble_eq_true rfl) rfl ?_
      refine V_aload_n hC dL_law_526 rfl rfl rfl ?_
      refine V_aload_n hC dL_law_527 rfl rfl rfl ?_
      refine V_iload hC dL_law_528 rfl rfl ?_
      refine V_iconst (v := 1) hC dL_law_530 (by decide) rfl ?_
      refine V_iadd hC dL_law_531 rfl ?_
      refine V_sld (i := 1) hC hsc dL_law_532 (by decide) (by decide) (by decide) rfl ?_
      refine V_aload_n hC dL_law_533 rfl rfl rfl ?_
      refine V_iload hC dL_law_534 rfl rfl ?_
      refine V_iconst (v := 2) hC dL_law_536 (by decide) rfl ?_
      refine V_iadd hC dL_law_537 rfl ?_
      refine V_sld (i := 2) hC hsc dL_law_538 (by decide) (by decide) (by decide) rfl ?_
      refine V_callIVf (q0 := 0) (n := 2) (pre := [(o, .inl (D.1 102, 1, .inr (.inl u_521)))]) (suf := []) hC dL_law_539 (k_X5_works l D cI cZ cT _ _ _ _ _ _ (show (fun _ : Nat => (0 : Int32)) 1 = 0 from rfl) (show (fun _ : Nat => (0 : Int32)) 4 = 0 from rfl) _ _) gL_law_X5_works rfl ⟨rfl, rfl⟩ (by decide +kernel) ⟨Nat.le_of_ble_eq_true rfl, Nat.le_of_ble_eq_true rfl⟩ ⟨Nat.le_of_ble_eq_true rfl, Nat.le_of_ble_eq_true rfl⟩ rfl rfl rfl rfl rfl (by exact Nat.le_of_ble_eq_true rfl) rfl (fun r_539 u_539 h_539 => ?_)
      refine V_istore hC dL_law_542 (Nat.le_of_ble_eq_true rfl) rfl ?_
      refine V_aload_n hC dL_law_544 rfl rfl rfl ?_
      refine V_callIVf (q0 := 0) (n := 0) (pre := [(o, .inl (D.1 102, 1, .inr (.inl u_521)))]) (suf := []) hC dL_law_545 (k_X5_thrown l D cI cZ cT _ _ _ _ _ _ _ ) gL_law_X5_thrown rfl ⟨rfl, rfl⟩ (by decide +kernel) ⟨Nat.le_of_ble_eq_true rfl, Nat.le_of_ble_eq_true rfl⟩ ⟨Nat.le_of_ble_eq_true rfl, Nat.le_of_ble_eq_true rfl⟩ rfl rfl rfl rfl rfl (by exact Nat.le_of_ble_eq_true rfl) rfl (fun r_545 u_545 h_545 => ?_)
      subst h_545
      refine V_iload hC dL_law_548 rfl rfl ?_
      refine V_icmp_eq (tgt := 555) hC dL_law_550 (by decide) rfl (fun c_550 => ?_) (fun c_550 => ?_)
      · refine V_iload hC dL_law_555 rfl rfl ?_
        refine V_if_ne (tgt := 572) hC dL_law_557 (by decide) rfl (fun c_557 => ?_) (fun c_557 => ?_)
        · refine V_goto (tgt := 1502) hC dL_law_572 (by decide) ?_
          refine V_widen (k := 639801) (n := 7182833) (Nat.le_of_ble_eq_true rfl) (Nat.le_of_ble_eq_true rfl) ?_
          exact V_to (ex_ rfl _) (lc rfl (lc rfl ln))
        · have hx0 := h_521.1.symm.trans c_557
          refine V_aload_n hC dL_law_560 rfl rfl rfl ?_
          refine V_iconst (v := 0) hC dL_law_561 (by decide) rfl ?_
          refine V_lald (q0 := 0) hC dL_law_562 rfl 5 rfl (show (0 : Int32) = nI 0 from rfl) (by decide) (by decide) rfl ?_
          refine V_iload hC dL_law_563 rfl rfl ?_
          refine V_i2l hC dL_law_565 rfl ?_
          refine V_lcmp hC dL_law_566 rfl ?_
          refine V_if_eq (tgt := 572) hC dL_law_567 (by decide) rfl (fun c_567 => ?_) (fun c_567 => ?_)
          · refine V_goto (tgt := 1502) hC dL_law_572 (by decide) ?_
            refine V_widen (k := 639801) (n := 7182833) (Nat.le_of_ble_eq_true rfl) (Nat.le_of_ble_eq_true rfl) ?_
            exact V_to (ex_ rfl _) (lc rfl (lc rfl ln))
          · exact absurd (by rw [h_521.2 hx0, h_539.2 hx0]; exact lg_self _) c_567
      · exact absurd (h_539.1.trans h_521.1.symm) c_550
    by_cases w_5 : w = 5
    · subst w_5
      refine V_tableIn (tgt := 575) (off := 536) hC dL_law_39 (by decide) (by decide) (by decide) (by decide) ?_
      refine V_aload_n hC dL_law_575 rfl rfl rfl ?_
      refine V_aload_n hC dL_law_576 rfl rfl rfl ?_
      refine V_iload hC dL_law_577 rfl rfl ?_
      refine V_iconst (v := 1) hC dL_law_579 (by decide) rfl ?_
      refine V_iadd hC dL_law_580 rfl ?_
      refine V_sld (i := 1) hC hsc dL_law_581 (by decide) (by decide) (by decide) rfl ?_
      refine V_aload_n hC dL_law_582 rfl rfl rfl ?_
      refine V_callWS (n := 3) (pre := []) (suf := Wm D cI m 0 0 r (FI 20) (fun _ => 0) (D.2 100 0)) hC dL_law_583 (k_L_end l D cI cZ cT hfl c a b o _ _) gL_law_L_end rfl ⟨rfl, rfl⟩ (by decide +kernel) ⟨Nat.le_of_ble_eq_true rfl, Nat.le_of_ble_eq_true rfl⟩ ⟨Nat.le_of_ble_eq_true rfl, Nat.le_of_ble_eq_true rfl⟩ rfl rfl rfl (by exact Nat.le_of_ble_eq_true rfl) rfl (fun r_583 u_583 h_583 => ?_)
      refine V_ws (ws' := [(o, .inl (D.1 102, 1, .inr (.inl u_583)))] ++ (Wm D cI m 0 0 r (FI 20) (fun _ => 0) (D.2 100 0) ++ [])) (by simp) ?_
      refine V_istore hC dL_law_586 (Nat.le_of_ble_eq_true rfl) rfl ?_
      refine V_aload_n hC dL_law_588 rfl rfl rfl ?_
      refine V_aload_n hC dL_law_589 rfl rfl rfl ?_
      refine V_iload hC dL_law_590 rfl rfl ?_
      refine V_iconst (v := 1) hC dL_law_592 (by decide) rfl ?_
      refine V_iadd hC dL_law_593 rfl ?_
      refine V_sld (i := 1) hC hsc dL_law_594 (by decide) (by decide) (by decide) rfl ?_
      refine V_callIVf (q0 := 0) (n := 1) (pre := [(o, .inl (D.1 102, 1, .inr (.inl u_583)))]) (suf := []) hC dL_law_595 (k_X5_end l D cI cZ cT _ _ _ _ _ _ _ (show (fun _ : Nat => (0 : Int32)) 4 = 0 from rfl) _) gL_law_X5_end rfl ⟨rfl, rfl⟩ (by decide +kernel) ⟨Nat.le_of_ble_eq_true rfl, Nat.le_of_ble_eq_true rfl⟩ ⟨Nat.le_of_ble_eq_true rfl, Nat.le_of_ble_eq_true rfl⟩ rfl rfl rfl rfl rfl (by exact Nat.le_of_ble_eq_true rfl) rfl (fun r_595 u_595 h_595 => ?_)
      refine V_istore hC dL_law_598 (Nat.le_of_ble_eq_true rfl) rfl ?_
      refine V_aload_n hC dL_law_600 rfl rfl rfl ?_
      refine V_callIVf (q0 := 0) (n := 0) (pre := [(o, .inl (D.1 102, 1, .inr (.inl u_583)))]) (suf := []) hC dL_law_601 (k_X5_thrown l D cI cZ cT _ _ _ _ _ _ _ ) gL_law_X5_thrown rfl ⟨rfl, rfl⟩ (by decide +kernel) ⟨Nat.le_of_ble_eq_true rfl, Nat.le_of_ble_eq_true rfl⟩ ⟨Nat.le_of_ble_eq_true rfl, Nat.le_of_ble_eq_true rfl⟩ rfl rfl rfl rfl rfl (by exact Nat.le_of_ble_eq_true rfl) rfl (fun r_601 u_601 h_601 => ?_)
      subst h_601
      refine V_iload hC dL_law_604 rfl rfl ?_
      refine V_icmp_eq (tgt := 611) hC dL_law_606 (by decide) rfl (fun c_606 => ?_) (fun c_606 => ?_)
      · refine V_iload hC dL_law_611 rfl rfl ?_
        refine V_if_ne (tgt := 628) hC dL_law_613 (by decide) rfl (fun c_613 => ?_) (fun c_613 => ?_)
        · refine V_goto (tgt := 1502) hC dL_law_628 (by decide) ?_
          refine V_widen (k := 639801) (n := 7182833) (Nat.le_of_ble_eq_true rfl) (Nat.le_of_ble_eq_true rfl) ?_
          exact V_to (ex_ rfl _) (lc rfl (lc rfl ln))
        · exact absurd (h_583.symm.trans c_613) (by decide)
      · exact absurd h_583.symm c_606
    by_cases w_6 : w = 6
    · subst w_6
      refine V_tableIn (tgt := 631) (off := 592) hC dL_law_39 (by decide) (by decide) (by decide) (by decide) ?_
      refine V_aload_n hC dL_law_631 rfl rfl rfl ?_
      refine V_aload_n hC dL_law_632 rfl rfl rfl ?_
      refine V_iload hC dL_law_633 rfl rfl ?_
      refine V_iconst (v := 1) hC dL_law_635 (by decide) rfl ?_
      refine V_iadd hC dL_law_636 rfl ?_
      refine V_sld (i := 1) hC hsc dL_law_637 (by decide) (by decide) (by decide) rfl ?_
      refine V_aload_n hC dL_law_638 rfl rfl rfl ?_
      refine V_callWS (n := 3) (pre := []) (suf := Wm D cI m 0 0 r (FI 20) (fun _ => 0) (D.2 100 0)) hC dL_law_639 (k_L_pass l D cI cZ cT hfl c a b o _ _) gL_law_L_pass rfl ⟨rfl, rfl⟩ (by decide +kernel) ⟨Nat.le_of_ble_eq_true rfl, Nat.le_of_ble_eq_true rfl⟩ ⟨Nat.le_of_ble_eq_true rfl, Nat.le_of_ble_eq_true rfl⟩ rfl rfl rfl (by exact Nat.le_of_ble_eq_true rfl) rfl (fun r_639 u_639 h_639 => ?_)
      refine V_ws (ws' := [(o, .inl (D.1 102, 1, .inr (.inl u_639)))] ++ (Wm D cI m 0 0 r (FI 20) (fun _ => 0) (D.2 100 0) ++ [])) (by simp) ?_
      refine V_istore hC dL_law_642 (Nat.le_of_ble_eq_true rfl) rfl ?_
      refine V_aload_n hC dL_law_644 rfl rfl rfl ?_
      refine V_aload_n hC dL_law_645 rfl rfl rfl ?_
      refine V_iload hC dL_law_646 rfl rfl ?_
      refine V_iconst (v := 1) hC dL_law_648 (by decide) rfl ?_
      refine V_iadd hC dL_law_649 rfl ?_
      refine V_sld (i := 1) hC hsc dL_law_650 (by decide) (by decide) (by decide) rfl ?_
      refine V_callIVf (q0 := 0) (n := 1) (pre := [(o, .inl (D.1 102, 1, .inr (.inl u_639)))]) (suf := []) hC dL_law_651 (k_X5_pass l D cI cZ cT _ _ _ _ _ _ _ (show (fun _ : Nat => (0 : Int32)) 1 = 0 from rfl) _) gL_law_X5_pass rfl ⟨rfl, rfl⟩ (by decide +kernel) ⟨Nat.le_of_ble_eq_true rfl, Nat.le_of_ble_eq_true rfl⟩ ⟨Nat.le_of_ble_eq_true rfl, Nat.le_of_ble_eq_true rfl⟩ rfl rfl rfl rfl rfl (by exact Nat.le_of_ble_eq_true rfl) rfl (fun r_651 u_651 h_651 => ?_)
      refine V_istore hC dL_law_654 (Nat.le_of_ble_eq_true rfl) rfl ?_
      refine V_aload_n hC dL_law_656 rfl rfl rfl ?_
      refine V_callIVf (q0 := 0) (n := 0) (pre := [(o, .inl (D.1 102, 1, .inr (.inl u_639)))]) (suf := []) hC dL_law_657 (k_X5_thrown l D cI cZ cT _ _ _ _ _ _ _ ) gL_law_X5_thrown rfl ⟨rfl, rfl⟩ (by decide +kernel) ⟨Nat.le_of_ble_eq_true rfl, Nat.le_of_ble_eq_true rfl⟩ ⟨Nat.le_of_ble_eq_true rfl, Nat.le_of_ble_eq_true rfl⟩ rfl rfl rfl rfl rfl (by exact Nat.le_of_ble_eq_true rfl) rfl (fun r_657 u_657 h_657 => ?_)
      subst h_657
      refine V_iload hC dL_law_660 rfl rfl ?_
      refine V_icmp_eq (tgt := 667) hC dL_law_662 (by decide) rfl (fun c_662 => ?_) (fun c_662 => ?_)
      · refine V_iload hC dL_law_667 rfl rfl ?_
        refine V_if_ne (tgt := 684) hC dL_law_669 (by decide) rfl (fun c_669 => ?_) (fun c_669 => ?_)
        · refine V_goto (tgt := 1502) hC dL_law_684 (by decide) ?_
          refine V_widen (k := 639801) (n := 7182833) (Nat.le_of_ble_eq_true rfl) (Nat.le_of_ble_eq_true rfl) ?_
          exact V_to (ex_ rfl _) (lc rfl (lc rfl ln))
        · have hx0 := h_639.1.symm.trans c_669
          refine V_aload_n hC dL_law_672 rfl rfl rfl ?_
          refine V_iconst (v := 0) hC dL_law_673 (by decide) rfl ?_
          refine V_lald (q0 := 0) hC dL_law_674 rfl 5 rfl (show (0 : Int32) = nI 0 from rfl) (by decide) (by decide) rfl ?_
          refine V_iload hC dL_law_675 rfl rfl ?_
          refine V_i2l hC dL_law_677 rfl ?_
          refine V_lcmp hC dL_law_678 rfl ?_
          refine V_if_eq (tgt := 684) hC dL_law_679 (by decide) rfl (fun c_679 => ?_) (fun c_679 => ?_)
          · refine V_goto (tgt := 1502) hC dL_law_684 (by decide) ?_
            refine V_widen (k := 639801) (n := 7182833) (Nat.le_of_ble_eq_true rfl) (Nat.le_of_ble_eq_true rfl) ?_
            exact V_to (ex_ rfl _) (lc rfl (lc rfl ln))
          · exact absurd (by rw [h_639.2 hx0, h_651.2 hx0]; exact lg_self _) c_679
      · exact absurd (h_651.1.trans h_639.1.symm) c_662
    by_cases w_7 : w = 7
    · subst w_7
      refine V_tableIn (tgt := 687) (off := 648) hC dL_law_39 (by decide) (by decide) (by decide) (by decide) ?_
      refine V_aload_n hC dL_law_687 rfl rfl rfl ?_
      refine V_aload_n hC dL_law_688 rfl rfl rfl ?_
      refine V_iload hC dL_law_689 rfl rfl ?_
      refine V_iconst (v := 1) hC dL_law_691 (by decide) rfl ?_
      refine V_iadd hC dL_law_692 rfl ?_
      refine V_sld (i := 1) hC hsc dL_law_693 (by decide) (by decide) (by decide) rfl ?_
      refine V_aload_n hC dL_law_694 rfl rfl rfl ?_
      refine V_iload hC dL_law_695 rfl rfl ?_
      refine V_iconst (v := 2) hC dL_law_697 (by decide) rfl ?_
      refine V_iadd hC dL_law_698 rfl ?_
      refine V_sld (i := 2) hC hsc dL_law_699 (by decide) (by decide) (by decide) rfl ?_
      refine V_aload_n hC dL_law_700 rfl rfl rfl ?_
      refine V_callWS (n := 4) (pre := []) (suf := Wm D cI m 0 0 r (FI 20) (fun _ => 0) (D.2 100 0)) hC dL_law_701 (k_L_ofSection l D cI cZ cT hfl c a b o _ _ _) gL_law_L_ofSection rfl ⟨rfl, rfl⟩ (by decide +kernel) ⟨Nat.le_of_ble_eq_true rfl, Nat.le_of_ble_eq_true rfl⟩ ⟨Nat.le_of_ble_eq_true rfl, Nat.le_of_ble_eq_true rfl⟩ rfl rfl rfl (by exact Nat.le_of_ble_eq_true rfl) rfl (fun r_701 u_701 h_701 => ?_)
      refine V_ws (ws' := [(o, .inl (D.1 102, 1, .inr (.inl u_701)))] ++ (Wm D cI m 0 0 r (FI 20) (fun _ => 0) (D.2 100 0) ++ [])) (by simp) ?_
      refine V_istore hC dL_law_704 (Nat.le_of_ble_eq_true rfl) rfl ?_
      refine V_aload_n hC dL_law_706 rfl rfl rfl ?_
      refine V_aload_n hC dL_law_707 rfl rfl rfl ?_
      refine V_iload hC dL_law_708 rfl rfl ?_
      refine V_iconst (v := 1) hC dL_law_710 (by decide) rfl ?_
      refine V_iadd hC dL_law_711 rfl ?_
      refine V_sld (i := 1) hC hsc dL_law_712 (by decide) (by decide) (by decide) rfl ?_
      refine V_aload_n hC dL_law_713 rfl rfl rfl ?_
      refine V_iload hC dL_law_714 rfl rfl ?_
      refine V_iconst (v := 2) hC dL_law_716 (by decide) rfl ?_
      refine V_iadd hC dL_law_717 rfl ?_
      refine V_sld (i := 2) hC hsc dL_law_718 (by decide) (by decide) (by decide) rfl ?_
      refine V_callIVf (q0 := 0) (n := 2) (pre := [(o, .inl (D.1 102, 1, .inr (.inl u_701)))]) (suf := []) hC dL_law_719 (k_X5_ofSection l D cI cZ cT _ _ _ _ _ _ _ rfl (show (fun _ : Nat => (0 : Int32)) 1 = 0 from rfl) (show (fun _ : Nat => (0 : Int32)) 4 = 0 from rfl) _ _) gL_law_X5_ofSection rfl ⟨rfl, rfl⟩ (by decide +kernel) ⟨Nat.le_of_ble_eq_true rfl, Nat.le_of_ble_eq_true rfl⟩ ⟨Nat.le_of_ble_eq_true rfl, Nat.le_of_ble_eq_true rfl⟩ rfl rfl rfl rfl rfl (by exact Nat.le_of_ble_eq_true rfl) rfl (fun r_719 u_719 h_719 => ?_)
      refine V_istore hC dL_law_722 (Nat.le_of_ble_eq_true rfl) rfl ?_
      refine V_aload_n hC dL_law_724 rfl rfl rfl ?_
      refine V_callIVf (q0 := 0) (n := 0) (pre := [(o, .inl (D.1 102, 1, .inr (.inl u_701)))]) (suf := []) hC dL_law_725 (k_X5_thrown l D cI cZ cT _ _ _ _ _ _ _ ) gL_law_X5_thrown rfl ⟨rfl, rfl⟩ (by decide +kernel) ⟨Nat.le_of_ble_eq_true rfl, Nat.le_of_ble_eq_true rfl⟩ ⟨Nat.le_of_ble_eq_true rfl, Nat.le_of_ble_eq_true rfl⟩ rfl rfl rfl rfl rfl (by exact Nat.le_of_ble_eq_true rfl) rfl (fun r_725 u_725 h_725 => ?_)
      subst h_725
      refine V_iload hC dL_law_728 rfl rfl ?_
      refine V_icmp_eq (tgt := 735) hC dL_law_730 (by decide) rfl (fun c_730 => ?_) (fun c_730 => ?_)
      · refine V_iload hC dL_law_735 rfl rfl ?_
        refine V_if_ne (tgt := 752) hC dL_law_737 (by decide) rfl (fun c_737 => ?_) (fun c_737 => ?_)
        · refine V_goto (tgt := 1502) hC dL_law_752 (by decide) ?_
          refine V_widen (k := 639801) (n := 7182833) (Nat.le_of_ble_eq_true rfl) (Nat.le_of_ble_eq_true rfl) ?_
          exact V_to (ex_ rfl _) (lc rfl (lc rfl ln))
        · have hx0 := h_701.1.symm.trans c_737
          refine V_aload_n hC dL_law_740 rfl rfl rfl ?_
          refine V_iconst (v := 0) hC dL_law_741 (by decide) rfl ?_
          refine V_lald (q0 := 0) hC dL_law_742 rfl 5 rfl (show (0 : Int32) = nI 0 from rfl) (by decide) (by decide) rfl ?_
          refine V_iload hC dL_law_743 rfl rfl ?_
          refine V_i2l hC dL_law_745 rfl ?_
          refine V_lcmp hC dL_law_746 rfl ?_
          refine V_if_eq (tgt := 752) hC dL_law_747 (by decide) rfl (fun c_747 => ?_) (fun c_747 => ?_)
          · refine V_goto (tgt := 1502) hC dL_law_752 (by decide) ?_
            refine V_widen (k := 639801) (n := 7182833) (Nat.le_of_ble_eq_true rfl) (Nat.le_of_ble_eq_true rfl) ?_
            exact V_to (ex_ rfl _) (lc rfl (lc rfl ln))
          · exact absurd (by rw [h_701.2 hx0, h_719.2 hx0]; exact lg_self _) c_747
      · exact absurd (h_719.1.trans h_701.1.symm) c_730
    by_cases w_8 : w = 8
    · subst w_8
      refine V_tableIn (tgt := 755) (off := 716) hC dL_law_39 (by decide) (by decide) (by decide) (by decide) ?_
      refine V_aload_n hC dL_law_755 rfl rfl rfl ?_
      refine V_aload_n hC dL_law_756 rfl rfl rfl ?_
      refine V_iload hC dL_law_757 rfl rfl ?_
      refine V_iconst (v := 1) hC dL_law_759 (by decide) rfl ?_
      refine V_iadd hC dL_law_760 rfl ?_
      refine V_sld (i := 1) hC hsc dL_law_761 (by decide) (by decide) (by decide) rfl ?_
      refine V_aload_n hC dL_law_762 rfl rfl rfl ?_
      refine V_iload hC dL_law_763 rfl rfl ?_
      refine V_iconst (v := 2) hC dL_law_765 (by decide) rfl ?_
      refine V_iadd hC dL_law_766 rfl ?_
      refine V_sld (i := 2) hC hsc dL_law_767 (by decide) (by decide) (by decide) rfl ?_
      refine V_aload_n hC dL_law_768 rfl rfl rfl ?_
      refine V_callWS (n := 4) (pre := []) (suf := Wm D cI m 0 0 r (FI 20) (fun _ => 0) (D.2 100 0)) hC dL_law_769 (k_L_ofTrain l D cI cZ cT hfl c a b o _ _ _) gL_law_L_ofTrain rfl ⟨rfl, rfl⟩ (by decide +kernel) ⟨Nat.le_of_ble_eq_true rfl, Nat.le_of_ble_eq_true rfl⟩ ⟨Nat.le_of_ble_eq_true rfl, Nat.le_of_ble_eq_true rfl⟩ rfl rfl rfl (by exact Nat.le_of_ble_eq_true rfl) rfl (fun r_769 u_769 h_769 => ?_)
      refine V_ws (ws' := [(o, .inl (D.1 102, 1, .inr (.inl u_769)))] ++ (Wm D cI m 0 0 r (FI 20) (fun _ => 0) (D.2 100 0) ++ [])) (by simp) ?_
      refine V_istore hC dL_law_772 (Nat.le_of_ble_eq_true rfl) rfl ?_
      refine V_aload_n hC dL_law_774 rfl rfl rfl ?_
      refine V_aload_n hC dL_law_775 rfl rfl rfl ?_
      refine V_iload hC dL_law_776 rfl rfl ?_
      refine V_iconst (v := 1) hC dL_law_778 (by decide) rfl ?_
      refine V_iadd hC dL_law_779 rfl ?_
      refine V_sld (i := 1) hC hsc dL_law_780 (by decide) (by decide) (by decide) rfl ?_
      refine V_aload_n hC dL_law_781 rfl rfl rfl ?_
      refine V_iload hC dL_law_782 rfl rfl ?_
      refine V_iconst (v := 2) hC dL_law_784 (by decide) rfl ?_
      refine V_iadd hC dL_law_785 rfl ?_
      refine V_sld (i := 2) hC hsc dL_law_786 (by decide) (by decide) (by decide) rfl ?_
      refine V_callIVf (q0 := 0) (n := 2) (pre := [(o, .inl (D.1 102, 1, .inr (.inl u_769)))]) (suf := []) hC dL_law_787 (k_X5_ofTrain l D cI cZ cT _ _ _ _ _ _ _ (show (fun _ : Nat => (0 : Int32)) 1 = 0 from rfl) _ _) gL_law_X5_ofTrain rfl ⟨rfl, rfl⟩ (by decide +kernel) ⟨Nat.le_of_ble_eq_true rfl, Nat.le_of_ble_eq_true rfl⟩ ⟨Nat.le_of_ble_eq_true rfl, Nat.le_of_ble_eq_true rfl⟩ rfl rfl rfl rfl rfl (by exact Nat.le_of_ble_eq_true rfl) rfl (fun r_787 u_787 h_787 => ?_)
      refine V_istore hC dL_law_790 (Nat.le_of_ble_eq_true rfl) rfl ?_
      refine V_aload_n hC dL_law_792 rfl rfl rfl ?_
      refine V_callIVf (q0 := 0) (n := 0) (pre := [(o, .inl (D.1 102, 1, .inr (.inl u_769)))]) (suf := []) hC dL_law_793 (k_X5_thrown l D cI cZ cT _ _ _ _ _ _ _ ) gL_law_X5_thrown rfl ⟨rfl, rfl⟩ (by decide +kernel) ⟨Nat.le_of_ble_eq_true rfl, Nat.le_of_ble_eq_true rfl⟩ ⟨Nat.le_of_ble_eq_true rfl, Nat.le_of_ble_eq_true rfl⟩ rfl rfl rfl rfl rfl (by exact Nat.le_of_ble_eq_true rfl) rfl (fun r_793 u_793 h_793 => ?_)
      subst h_793
      refine V_iload hC dL_law_796 rfl rfl ?_
      refine V_icmp_eq (tgt := 803) hC dL_law_798 (by decide) rfl (fun c_798 => ?_) (fun c_798 => ?_)
      · refine V_iload hC dL_law_803 rfl rfl ?_
        refine V_if_ne (tgt := 820) hC dL_law_805 (by decide) rfl (fun c_805 => ?_) (fun c_805 => ?_)
        · refine V_goto (tgt := 1502) hC dL_law_820 (by decide) ?_
          refine V_widen (k := 639801) (n := 7182833) (Nat.le_of_ble_eq_true rfl) (Nat.le_of_ble_eq_true rfl) ?_
          exact V_to (ex_ rfl _) (lc rfl (lc rfl ln))
        · exact absurd (h_769.symm.trans c_805) (by decide)
      · exact absurd h_769.symm c_798
    by_cases w_9 : w = 9
    · subst w_9
      refine V_tableIn (tgt := 823) (off := 784) hC dL_law_39 (by decide) (by decide) (by decide) (by decide) ?_
      refine V_aload_n hC dL_law_823 rfl rfl rfl ?_
      refine V_aload_n hC dL_law_824 rfl rfl rfl ?_
      refine V_iload hC dL_law_825 rfl rfl ?_
      refine V_iconst (v := 1) hC dL_law_827 (by decide) rfl ?_
      refine V_iadd hC dL_law_828 rfl ?_
      refine V_sld (i := 1) hC hsc dL_law_829 (by decide) (by decide) (by decide) rfl ?_
      refine V_aload_n hC dL_law_830 rfl rfl rfl ?_
      refine V_iload hC dL_law_831 rfl rfl ?_
      refine V_iconst (v := 2) hC dL_law_833 (by decide) rfl ?_
      refine V_iadd hC dL_law_834 rfl ?_
      refine V_sld (i := 2) hC hsc dL_law_835 (by decide) (by decide) (by decide) rfl ?_
      refine V_aload_n hC dL_law_836 rfl rfl rfl ?_
      refine V_callWS (n := 4) (pre := []) (suf := Wm D cI m 0 0 r (FI 20) (fun _ => 0) (D.2 100 0)) hC dL_law_837 (k_L_stops l D cI cZ cT hfl c a b o _ _ _) gL_law_L_stops rfl ⟨rfl, rfl⟩ (by decide +kernel) ⟨Nat.le_of_ble_eq_true rfl, Nat.le_of_ble_eq_true rfl⟩ ⟨Nat.le_of_ble_eq_true rfl, Nat.le_of_ble_eq_true rfl⟩ rfl rfl rfl (by exact Nat.le_of_ble_eq_true rfl) rfl (fun r_837 u_837 h_837 => ?_)
      refine V_ws (ws' := [(o, .inl (D.1 102, 1, .inr (.inl u_837)))] ++ (Wm D cI m 0 0 r (FI 20) (fun _ => 0) (D.2 100 0) ++ [])) (by simp) ?_
      refine V_istore hC dL_law_840 (Nat.le_of_ble_eq_true rfl) rfl ?_
      refine V_aload_n hC dL_law_842 rfl rfl rfl ?_
      refine V_aload_n hC dL_law_843 rfl rfl rfl ?_
      refine V_iload hC dL_law_844 rfl rfl ?_
      refine V_iconst (v := 1) hC dL_law_846 (by decide) rfl ?_
      refine V_iadd hC dL_law_847 rfl ?_
      refine V_sld (i := 1) hC hsc dL_law_848 (by decide) (by decide) (by decide) rfl ?_
      refine V_aload_n hC dL_law_849 rfl rfl rfl ?_
      refine V_iload hC dL_law_850 rfl rfl ?_
      refine V_iconst (v := 2) hC dL_law_852 (by decide) rfl ?_
      refine V_iadd hC dL_law_853 rfl ?_
      refine V_sld (i := 2) hC hsc dL_law_854 (by decide) (by decide) (by decide) rfl ?_
      refine V_callIVf (q0 := 0) (n := 2) (pre := [(o, .inl (D.1 102, 1, .inr (.inl u_837)))]) (suf := []) hC dL_law_855 (k_X5_stops l D cI cZ cT _ _ _ _ _ _ _ (show (fun _ : Nat => (0 : Int32)) 1 = 0 from rfl) _ _) gL_law_X5_stops rfl ⟨rfl, rfl⟩ (by decide +kernel) ⟨Nat.le_of_ble_eq_true rfl, Nat.le_of_ble_eq_true rfl⟩ ⟨Nat.le_of_ble_eq_true rfl, Nat.le_of_ble_eq_true rfl⟩ rfl rfl rfl rfl rfl (by exact Nat.le_of_ble_eq_true rfl) rfl (fun r_855 u_855 h_855 => ?_)
      refine V_istore hC dL_law_858 (Nat.le_of_ble_eq_true rfl) rfl ?_
      refine V_aload_n hC dL_law_860 rfl rfl rfl ?_
      refine V_callIVf (q0 := 0) (n := 0) (pre := [(o, .inl (D.1 102, 1, .inr (.inl u_837)))]) (suf := []) hC dL_law_861 (k_X5_thrown l D cI cZ cT _ _ _ _ _ _ _ ) gL_law_X5_thrown rfl ⟨rfl, rfl⟩ (by decide +kernel) ⟨Nat.le_of_ble_eq_true rfl, Nat.le_of_ble_eq_true rfl⟩ ⟨Nat.le_of_ble_eq_true rfl, Nat.le_of_ble_eq_true rfl⟩ rfl rfl rfl rfl rfl (by exact Nat.le_of_ble_eq_true rfl) rfl (fun r_861 u_861 h_861 => ?_)
      subst h_861
      refine V_iload hC dL_law_864 rfl rfl ?_
      refine V_icmp_eq (tgt := 871) hC dL_law_866 (by decide) rfl (fun c_866 => ?_) (fun c_866 => ?_)
      · refine V_iload hC dL_law_871 rfl rfl ?_
        refine V_if_ne (tgt := 888) hC dL_law_873 (by decide) rfl (fun c_873 => ?_) (fun c_873 => ?_)
        · refine V_goto (tgt := 1502) hC dL_law_888 (by decide) ?_
          refine V_widen (k := 639801) (n := 7182833) (Nat.le_of_ble_eq_true rfl) (Nat.le_of_ble_eq_true rfl) ?_
          exact V_to (ex_ rfl _) (lc rfl (lc rfl ln))
        · exact absurd (h_837.symm.trans c_873) (by decide)
      · exact absurd h_837.symm c_866
    by_cases w_10 : w = 10
    · subst w_10
      refine V_tableIn (tgt := 891) (off := 852) hC dL_law_39 (by decide) (by decide) (by decide) (by decide) ?_
      refine V_aload_n hC dL_law_891 rfl rfl rfl ?_
      refine V_aload_n hC dL_law_892 rfl rfl rfl ?_
      refine V_iload hC dL_law_893 rfl rfl ?_
      refine V_iconst (v := 1) hC dL_law_895 (by decide) rfl ?_
      refine V_iadd hC dL_law_896 rfl ?_
      refine V_sld (i := 1) hC hsc dL_law_897 (by decide) (by decide) (by decide) rfl ?_
      refine V_aload_n hC dL_law_898 rfl rfl rfl ?_
      refine V_callWS (n := 3) (pre := []) (suf := Wm D cI m 0 0 r (FI 20) (fun _ => 0) (D.2 100 0)) hC dL_law_899 (k_L_may l D cI cZ cT hfl c a b o _ _) gL_law_L_may rfl ⟨rfl, rfl⟩ (by decide +kernel) ⟨Nat.le_of_ble_eq_true rfl, Nat.le_of_ble_eq_true rfl⟩ ⟨Nat.le_of_ble_eq_true rfl, Nat.le_of_ble_eq_true rfl⟩ rfl rfl rfl (by exact Nat.le_of_ble_eq_true rfl) rfl (fun r_899 u_899 h_899 => ?_)
      refine V_ws (ws' := [(o, .inl (D.1 102, 1, .inr (.inl u_899)))] ++ (Wm D cI m 0 0 r (FI 20) (fun _ => 0) (D.2 100 0) ++ [])) (by simp) ?_
      refine V_istore hC dL_law_902 (Nat.le_of_ble_eq_true rfl) rfl ?_
      refine V_aload_n hC dL_law_904 rfl rfl rfl ?_
      refine V_aload_n hC dL_law_905 rfl rfl rfl ?_
      refine V_iload hC dL_law_906 rfl rfl ?_
      refine V_iconst (v := 1) hC dL_law_908 (by decide) rfl ?_
      refine V_iadd hC dL_law_909 rfl ?_
      refine V_sld (i := 1) hC hsc dL_law_910 (by decide) (by decide) (by decide) rfl ?_
      refine V_callIVf (q0 := 0) (n := 1) (pre := [(o, .inl (D.1 102, 1, .inr (.inl u_899)))]) (suf := []) hC dL_law_911 (k_X5_may l D cI cZ cT _ _ _ _ _ _ _ (show (fun _ : Nat => (0 : Int32)) 1 = 0 from rfl) _) gL_law_X5_may rfl ⟨rfl, rfl⟩ (by decide +kernel) ⟨Nat.le_of_ble_eq_true rfl, Nat.le_of_ble_eq_true rfl⟩ ⟨Nat.le_of_ble_eq_true rfl, Nat.le_of_ble_eq_true rfl⟩ rfl rfl rfl rfl rfl (by exact Nat.le_of_ble_eq_true rfl) rfl (fun r_911 u_911 h_911 => ?_)
      refine V_istore hC dL_law_914 (Nat.le_of_ble_eq_true rfl) rfl ?_
      refine V_aload_n hC dL_law_916 rfl rfl rfl ?_
      refine V_callIVf (q0 := 0) (n := 0) (pre := [(o, .inl (D.1 102, 1, .inr (.inl u_899)))]) (suf := []) hC dL_law_917 (k_X5_thrown l D cI cZ cT _ _ _ _ _ _ _ ) gL_law_X5_thrown rfl ⟨rfl, rfl⟩ (by decide +kernel) ⟨Nat.le_of_ble_eq_true rfl, Nat.le_of_ble_eq_true rfl⟩ ⟨Nat.le_of_ble_eq_true rfl, Nat.le_of_ble_eq_true rfl⟩ rfl rfl rfl rfl rfl (by exact Nat.le_of_ble_eq_true rfl) rfl (fun r_917 u_917 h_917 => ?_)
      subst h_917
      refine V_iload hC dL_law_920 rfl rfl ?_
      refine V_icmp_eq (tgt := 927) hC dL_law_922 (by decide) rfl (fun c_922 => ?_) (fun c_922 => ?_)
      · refine V_iload hC dL_law_927 rfl rfl ?_
        refine V_if_ne (tgt := 944) hC dL_law_929 (by decide) rfl (fun c_929 => ?_) (fun c_929 => ?_)
        · refine V_goto (tgt := 1502) hC dL_law_944 (by decide) ?_
          refine V_widen (k := 639801) (n := 7182833) (Nat.le_of_ble_eq_true rfl) (Nat.le_of_ble_eq_true rfl) ?_
          exact V_to (ex_ rfl _) (lc rfl (lc rfl ln))
        · exact absurd (h_899.symm.trans c_929) (by decide)
      · exact absurd h_899.symm c_922
    by_cases w_11 : w = 11
    · subst w_11
      refine V_tableIn (tgt := 947) (off := 908) hC dL_law_39 (by decide) (by decide) (by decide) (by decide) ?_
      refine V_aload_n hC dL_law_947 rfl rfl rfl ?_
      refine V_aload_n hC dL_law_948 rfl rfl rfl ?_
      refine V_iload hC dL_law_949 rfl rfl ?_
      refine V_iconst (v := 1) hC dL_law_951 (by decide) rfl ?_
      refine V_iadd hC dL_law_952 rfl ?_
      refine V_sld (i := 1) hC hsc dL_law_953 (by decide) (by decide) (by decide) rfl ?_
      refine V_aload_n hC dL_law_954 rfl rfl rfl ?_
      refine V_callWS (n := 3) (pre := []) (suf := Wm D cI m 0 0 r (FI 20) (fun _ => 0) (D.2 100 0)) hC dL_law_955 (k_L_why l D cI cZ cT hfl c a b o _ _) gL_law_L_why rfl ⟨rfl, rfl⟩ (by decide +kernel) ⟨Nat.le_of_ble_eq_true rfl, Nat.le_of_ble_eq_true rfl⟩ ⟨Nat.le_of_ble_eq_true rfl, Nat.le_of_ble_eq_true rfl⟩ rfl rfl rfl (by exact Nat.le_of_ble_eq_true rfl) rfl (fun r_955 u_955 h_955 => ?_)
      refine V_ws (ws' := [(o, .inl (D.1 102, 1, .inr (.inl u_955)))] ++ (Wm D cI m 0 0 r (FI 20) (fun _ => 0) (D.2 100 0) ++ [])) (by simp) ?_
      refine V_istore hC dL_law_958 (Nat.le_of_ble_eq_true rfl) rfl ?_
      refine V_aload_n hC dL_law_960 rfl rfl rfl ?_
      refine V_aload_n hC dL_law_961 rfl rfl rfl ?_
      refine V_iload hC dL_law_962 rfl rfl ?_
      refine V_iconst (v := 1) hC dL_law_964 (by decide) rfl ?_
      refine V_iadd hC dL_law_965 rfl ?_
      refine V_sld (i := 1) hC hsc dL_law_966 (by decide) (by decide) (by decide) rfl ?_
      refine V_callIVf (q0 := 0) (n := 1) (pre := [(o, .inl (D.1 102, 1, .inr (.inl u_955)))]) (suf := []) hC dL_law_967 (k_X5_why l D cI cZ cT _ _ _ _ _ _ _ (show (fun _ : Nat => (0 : Int32)) 1 = 0 from rfl) _) gL_law_X5_why rfl ⟨rfl, rfl⟩ (by decide +kernel) ⟨Nat.le_of_ble_eq_true rfl, Nat.le_of_ble_eq_true rfl⟩ ⟨Nat.le_of_ble_eq_true rfl, Nat.le_of_ble_eq_true rfl⟩ rfl rfl rfl rfl rfl (by exact Nat.le_of_ble_eq_true rfl) rfl (fun r_967 u_967 h_967 => ?_)
      refine V_istore hC dL_law_970 (Nat.le_of_ble_eq_true rfl) rfl ?_
      refine V_aload_n hC dL_law_972 rfl rfl rfl ?_
      refine V_callIVf (q0 := 0) (n := 0) (pre := [(o, .inl (D.1 102, 1, .inr (.inl u_955)))]) (suf := []) hC dL_law_973 (k_X5_thrown l D cI cZ cT _ _ _ _ _ _ _ ) gL_law_X5_thrown rfl ⟨rfl, rfl⟩ (by decide +kernel) ⟨Nat.le_of_ble_eq_true rfl, Nat.le_of_ble_eq_true rfl⟩ ⟨Nat.le_of_ble_eq_true rfl, Nat.le_of_ble_eq_true rfl⟩ rfl rfl rfl rfl rfl (by exact Nat.le_of_ble_eq_true rfl) rfl (fun r_973 u_973 h_973 => ?_)
      subst h_973
      refine V_iload hC dL_law_976 rfl rfl ?_
      refine V_icmp_eq (tgt := 983) hC dL_law_978 (by decide) rfl (fun c_978 => ?_) (fun c_978 => ?_)
      · refine V_iload hC dL_law_983 rfl rfl ?_
        refine V_if_ne (tgt := 1000) hC dL_law_985 (by decide) rfl (fun c_985 => ?_) (fun c_985 => ?_)
        · refine V_goto (tgt := 1502) hC dL_law_1000 (by decide) ?_
          refine V_widen (k := 639801) (n := 7182833) (Nat.le_of_ble_eq_true rfl) (Nat.le_of_ble_eq_true rfl) ?_
          exact V_to (ex_ rfl _) (lc rfl (lc rfl ln))
        · exact absurd (h_955.symm.trans c_985) (by decide)
      · exact absurd h_955.symm c_978
    by_cases w_12 : w = 12
    · subst w_12
      refine V_tableIn (tgt := 1003) (off := 964) hC dL_law_39 (by decide) (by decide) (by decide) (by decide) ?_
      refine V_aload_n hC dL_law_1003 rfl rfl rfl ?_
      refine V_aload_n hC dL_law_1004 rfl rfl rfl ?_
      refine V_iload hC dL_law_1005 rfl rfl ?_
      refine V_iconst (v := 1) hC dL_law_1007 (by decide) rfl ?_
      refine V_iadd hC dL_law_1008 rfl ?_
      refine V_sld (i := 1) hC hsc dL_law_1009 (by decide) (by decide) (by decide) rfl ?_
      refine V_aload_n hC dL_law_1010 rfl rfl rfl ?_
      refine V_iload hC dL_law_1011 rfl rfl ?_
      refine V_iconst (v := 2) hC dL_law_1013 (by decide) rfl ?_
      refine V_iadd hC dL_law_1014 rfl ?_
      refine V_sld (i := 2) hC hsc dL_law_1015 (by decide) (by decide) (by decide) rfl ?_
      refine V_aload_n hC dL_law_1016 rfl rfl rfl ?_
      refine V_callWS (n := 4) (pre := []) (suf := Wm D cI m 0 0 r (FI 20) (fun _ => 0) (D.2 100 0)) hC dL_law_1017 (k_L_ofStation l D cI cZ cT hfl c a b o _ _ _) gL_law_L_ofStation rfl ⟨rfl, rfl⟩ (by decide +kernel) ⟨Nat.le_of_ble_eq_true rfl, Nat.le_of_ble_eq_true rfl⟩ ⟨Nat.le_of_ble_eq_true rfl, Nat.le_of_ble_eq_true rfl⟩ rfl rfl rfl (by exact Nat.le_of_ble_eq_true rfl) rfl (fun r_1017 u_1017 h_1017 => ?_)
      refine V_ws (ws' := [(o, .inl (D.1 102, 1, .inr (.inl u_1017)))] ++ (Wm D cI m 0 0 r (FI 20) (fun _ => 0) (D.2 100 0) ++ [])) (by simp) ?_
      refine V_istore hC dL_law_1020 (Nat.le_of_ble_eq_true rfl) rfl ?_
      refine V_aload_n hC dL_law_1022 rfl rfl rfl ?_
      refine V_aload_n hC dL_law_1023 rfl rfl rfl ?_
      refine V_iload hC dL_law_1024 rfl rfl ?_
      refine V_iconst (v := 1) hC dL_law_1026 (by decide) rfl ?_
      refine V_iadd hC dL_law_1027 rfl ?_
      refine V_sld (i := 1) hC hsc dL_law_1028 (by decide) (by decide) (by decide) rfl ?_
      refine V_aload_n hC dL_law_1029 rfl rfl rfl ?_
      refine V_iload hC dL_law_1030 rfl rfl ?_
      refine V_iconst (v := 2) hC dL_law_1032 (by decide) rfl ?_
      refine V_iadd hC dL_law_1033 rfl ?_
      refine V_sld (i := 2) hC hsc dL_law_1034 (by decide) (by decide) (by decide) rfl ?_
      refine V_callIVf (q0 := 0) (n := 2) (pre := [(o, .inl (D.1 102, 1, .inr (.inl u_1017)))]) (suf := []) hC dL_law_1035 (k_X5_ofStation l D cI cZ cT _ _ _ _ _ _ _ (show (fun _ : Nat => (0 : Int32)) 0 = 0 from rfl) _ _) gL_law_X5_ofStation rfl ⟨rfl, rfl⟩ (by decide +kernel) ⟨Nat.le_of_ble_eq_true rfl, Nat.le_of_ble_eq_true rfl⟩ ⟨Nat.le_of_ble_eq_true rfl, Nat.le_of_ble_eq_true rfl⟩ rfl rfl rfl rfl rfl (by exact Nat.le_of_ble_eq_true rfl) rfl (fun r_1035 u_1035 h_1035 => ?_)
      refine V_istore hC dL_law_1038 (Nat.le_of_ble_eq_true rfl) rfl ?_
      refine V_aload_n hC dL_law_1040 rfl rfl rfl ?_
      refine V_callIVf (q0 := 0) (n := 0) (pre := [(o, .inl (D.1 102, 1, .inr (.inl u_1017)))]) (suf := []) hC dL_law_1041 (k_X5_thrown l D cI cZ cT _ _ _ _ _ _ _ ) gL_law_X5_thrown rfl ⟨rfl, rfl⟩ (by decide +kernel) ⟨Nat.le_of_ble_eq_true rfl, Nat.le_of_ble_eq_true rfl⟩ ⟨Nat.le_of_ble_eq_true rfl, Nat.le_of_ble_eq_true rfl⟩ rfl rfl rfl rfl rfl (by exact Nat.le_of_ble_eq_true rfl) rfl (fun r_1041 u_1041 h_1041 => ?_)
      subst h_1041
      refine V_iload hC dL_law_1044 rfl rfl ?_
      refine V_icmp_eq (tgt := 1051) hC dL_law_1046 (by decide) rfl (fun c_1046 => ?_) (fun c_1046 => ?_)
      · refine V_iload hC dL_law_1051 rfl rfl ?_
        refine V_if_ne (tgt := 1068) hC dL_law_1053 (by decide) rfl (fun c_1053 => ?_) (fun c_1053 => ?_)
        · refine V_goto (tgt := 1502) hC dL_law_1068 (by decide) ?_
          refine V_widen (k := 639801) (n := 7182833) (Nat.le_of_ble_eq_true rfl) (Nat.le_of_ble_eq_true rfl) ?_
          exact V_to (ex_ rfl _) (lc rfl (lc rfl ln))
        · exact absurd (h_1017.symm.trans c_1053) (by decide)
      · exact absurd h_1017.symm c_1046
    by_cases w_13 : w = 13
    · subst w_13
      refine V_tableIn (tgt := 1071) (off := 1032) hC dL_law_39 (by decide) (by decide) (by decide) (by decide) ?_
      refine V_aload_n hC dL_law_1071 rfl rfl rfl ?_
      refine V_aload_n hC dL_law_1072 rfl rfl rfl ?_
      refine V_iload hC dL_law_1073 rfl rfl ?_
      refine V_iconst (v := 1) hC dL_law_1075 (by decide) rfl ?_
      refine V_iadd hC dL_law_1076 rfl ?_
      refine V_sld (i := 1) hC hsc dL_law_1077 (by decide) (by decide) (by decide) rfl ?_
      refine V_aload_n hC dL_law_1078 rfl rfl rfl ?_
      refine V_callWS (n := 3) (pre := []) (suf := Wm D cI m 0 0 r (FI 20) (fun _ => 0) (D.2 100 0)) hC dL_law_1079 (k_L_many l D cI cZ cT hfl c a b o _ _) gL_law_L_many rfl ⟨rfl, rfl⟩ (by decide +kernel) ⟨Nat.le_of_ble_eq_true rfl, Nat.le_of_ble_eq_true rfl⟩ ⟨Nat.le_of_ble_eq_true rfl, Nat.le_of_ble_eq_true rfl⟩ rfl rfl rfl (by exact Nat.le_of_ble_eq_true rfl) rfl (fun r_1079 u_1079 h_1079 => ?_)
      refine V_ws (ws' := [(o, .inl (D.1 102, 1, .inr (.inl u_1079)))] ++ (Wm D cI m 0 0 r (FI 20) (fun _ => 0) (D.2 100 0) ++ [])) (by simp) ?_
      refine V_istore hC dL_law_1082 (Nat.le_of_ble_eq_true rfl) rfl ?_
      refine V_aload_n hC dL_law_1084 rfl rfl rfl ?_
      refine V_aload_n hC dL_law_1085 rfl rfl rfl ?_
      refine V_iload hC dL_law_1086 rfl rfl ?_
      refine V_iconst (v := 1) hC dL_law_1088 (by decide) rfl ?_
      refine V_iadd hC dL_law_1089 rfl ?_
      refine V_sld (i := 1) hC hsc dL_law_1090 (by decide) (by decide) (by decide) rfl ?_
      refine V_callIVf (q0 := 0) (n := 1) (pre := [(o, .inl (D.1 102, 1, .inr (.inl u_1079)))]) (suf := []) hC dL_law_1091 (k_X5_many l D cI cZ cT _ _ _ _ _ _ _ (fun _ => rfl) _) gL_law_X5_many rfl ⟨rfl, rfl⟩ (by decide +kernel) ⟨Nat.le_of_ble_eq_true rfl, Nat.le_of_ble_eq_true rfl⟩ ⟨Nat.le_of_ble_eq_true rfl, Nat.le_of_ble_eq_true rfl⟩ rfl rfl rfl rfl rfl (by exact Nat.le_of_ble_eq_true rfl) rfl (fun r_1091 u_1091 h_1091 => ?_)
      refine V_istore hC dL_law_1094 (Nat.le_of_ble_eq_true rfl) rfl ?_
      refine V_aload_n hC dL_law_1096 rfl rfl rfl ?_
      refine V_callIVf (q0 := 0) (n := 0) (pre := [(o, .inl (D.1 102, 1, .inr (.inl u_1079)))]) (suf := []) hC dL_law_1097 (k_X5_thrown l D cI cZ cT _ _ _ _ _ _ _ ) gL_law_X5_thrown rfl ⟨rfl, rfl⟩ (by decide +kernel) ⟨Nat.le_of_ble_eq_true rfl, Nat.le_of_ble_eq_true rfl⟩ ⟨Nat.le_of_ble_eq_true rfl, Nat.le_of_ble_eq_true rfl⟩ rfl rfl rfl rfl rfl (by exact Nat.le_of_ble_eq_true rfl) rfl (fun r_1097 u_1097 h_1097 => ?_)
      subst h_1097
      refine V_iload hC dL_law_1100 rfl rfl ?_
      refine V_icmp_eq (tgt := 1107) hC dL_law_1102 (by decide) rfl (fun c_1102 => ?_) (fun c_1102 => ?_)
      · refine V_iload hC dL_law_1107 rfl rfl ?_
        refine V_if_ne (tgt := 1124) hC dL_law_1109 (by decide) rfl (fun c_1109 => ?_) (fun c_1109 => ?_)
        · refine V_goto (tgt := 1502) hC dL_law_1124 (by decide) ?_
          refine V_widen (k := 639801) (n := 7182833) (Nat.le_of_ble_eq_true rfl) (Nat.le_of_ble_eq_true rfl) ?_
          exact V_to (ex_ rfl _) (lc rfl (lc rfl ln))
        · have hx0 := h_1079.1.symm.trans c_1109
          refine V_aload_n hC dL_law_1112 rfl rfl rfl ?_
          refine V_iconst (v := 0) hC dL_law_1113 (by decide) rfl ?_
          refine V_lald (q0 := 0) hC dL_law_1114 rfl 5 rfl (show (0 : Int32) = nI 0 from rfl) (by decide) (by decide) rfl ?_
          refine V_iload hC dL_law_1115 rfl rfl ?_
          refine V_i2l hC dL_law_1117 rfl ?_
          refine V_lcmp hC dL_law_1118 rfl ?_
          refine V_if_eq (tgt := 1124) hC dL_law_1119 (by decide) rfl (fun c_1119 => ?_) (fun c_1119 => ?_)
          · refine V_goto (tgt := 1502) hC dL_law_1124 (by decide) ?_
            refine V_widen (k := 639801) (n := 7182833) (Nat.le_of_ble_eq_true rfl) (Nat.le_of_ble_eq_true rfl) ?_
            exact V_to (ex_ rfl _) (lc rfl (lc rfl ln))
          · exact absurd (by rw [h_1079.2 hx0, h_1091.2 hx0]; exact lg_self _) c_1119
      · exact absurd (h_1091.1.trans h_1079.1.symm) c_1102
    by_cases w_14 : w = 14
    · subst w_14
      refine V_tableIn (tgt := 1127) (off := 1088) hC dL_law_39 (by decide) (by decide) (by decide) (by decide) ?_
      refine V_aload_n hC dL_law_1127 rfl rfl rfl ?_
      refine V_callDVf (q0 := 0) (n := 0) (pre := []) (suf := [(o, .inl (D.1 102, 1, .inr (.inl (fun _ => 0))))] ++ Wm D cI m 0 0 r (FI 20) (fun _ => 0) (D.2 100 0)) hC dL_law_1128 (CD_up (ws0 := []) Sb2 (Lo_of rfl) (k_X3_meanSpeed l D cI cZ cT c a b _ _ _ _ 0 0 0 okI (fun h => absurd rfl h))) gL_law_X3_meanSpeed rfl ⟨rfl, rfl⟩ (by decide +kernel) ⟨Nat.le_of_ble_eq_true rfl, Nat.le_of_ble_eq_true rfl⟩ ⟨Nat.le_of_ble_eq_true rfl, Nat.le_of_ble_eq_true rfl⟩ rfl rfl rfl rfl rfl (by exact Nat.le_of_ble_eq_true rfl) rfl (fun r_1128 u_1128 h_1128 => ?_)
      subst h_1128
      refine V_ws (ws' := ((WB cI cZ cT c a b tI gI tI gI ++ [(o, .inl (D.1 102, 1, .inr (.inl (fun _ => 0))))]) ++ Wm D cI m 0 0 r (FI 20) (fun _ => 0) (D.2 100 0))) rfl ?_
      refine V_dstore hC dL_law_1131 (Nat.le_of_ble_eq_true rfl) rfl ?_
      refine V_aload_n hC dL_law_1133 rfl rfl rfl ?_
      refine V_callDVf (q0 := 0) (n := 0) (pre := WB cI cZ cT c a b tI gI tI gI ++ [(o, .inl (D.1 102, 1, .inr (.inl (fun _ => 0))))]) (suf := []) hC dL_law_1134 (k_X5_meanSpeed l D cI cZ cT m 0 0 r (FI 20) (fun _ => 0) (D.2 100 0) rfl) gL_law_X5_meanSpeed rfl ⟨rfl, rfl⟩ (by decide +kernel) ⟨Nat.le_of_ble_eq_true rfl, Nat.le_of_ble_eq_true rfl⟩ ⟨Nat.le_of_ble_eq_true rfl, Nat.le_of_ble_eq_true rfl⟩ (by rw [List.append_nil]) rfl rfl rfl rfl (by exact Nat.le_of_ble_eq_true rfl) rfl (fun r_1134 u_1134 h_1134 => ?_)
      subst h_1134
      refine V_dstore hC dL_law_1137 (Nat.le_of_ble_eq_true rfl) rfl ?_
      refine V_dload hC dL_law_1139 rfl rfl ?_
      refine V_dload hC dL_law_1141 rfl rfl ?_
      refine V_dcmp hC dL_law_1143 rfl ?_
      refine V_if_eq (tgt := 1165) hC dL_law_1144 (by decide) rfl (fun c_1144 => ?_) (fun c_1144 => ?_)
      · refine V_goto (tgt := 1502) hC dL_law_1165 (by decide) ?_
        refine V_widen (k := 639801) (n := 7182833) (Nat.le_of_ble_eq_true rfl) (Nat.le_of_ble_eq_true rfl) ?_
        exact V_to (ex_ rfl _) (lc rfl (lc rfl ln))
      · exact absurd (by show Op.cmpValue (FP.dcmp FP.dconst0 FP.dconst0) .l = 0; decide +kernel) c_1144
    by_cases w_15 : w = 15
    · subst w_15
      refine V_tableIn (tgt := 1168) (off := 1129) hC dL_law_39 (by decide) (by decide) (by decide) (by decide) ?_
      refine V_aload_n hC dL_law_1168 rfl rfl rfl ?_
      refine V_aload_n hC dL_law_1169 rfl rfl rfl ?_
      refine V_iload hC dL_law_1170 rfl rfl ?_
      refine V_iconst (v := 1) hC dL_law_1172 (by decide) rfl ?_
      refine V_iadd hC dL_law_1173 rfl ?_
      refine V_sld (i := 1) hC hsc dL_law_1174 (by decide) (by decide) (by decide) rfl ?_
      refine V_aload_n hC dL_law_1175 rfl rfl rfl ?_
      refine V_iload hC dL_law_1176 rfl rfl ?_
      refine V_iconst (v := 2) hC dL_law_1178 (by decide) rfl ?_
      refine V_iadd hC dL_law_1179 rfl ?_
      refine V_sld (i := 2) hC hsc dL_law_1180 (by decide) (by decide) (by decide) rfl ?_
      refine V_aload_n hC dL_law_1181 rfl rfl rfl ?_
      refine V_iload hC dL_law_1182 rfl rfl ?_
      refine V_iconst (v := 3) hC dL_law_1184 (by decide) rfl ?_
      refine V_iadd hC dL_law_1185 rfl ?_
      refine V_sld (i := 3) hC hsc dL_law_1186 (by decide) (by decide) (by decide) rfl ?_
      refine V_aload_n hC dL_law_1187 rfl rfl rfl ?_
      refine V_callWS (n := 5) (pre := []) (suf := Wm D cI m 0 0 r (FI 20) (fun _ => 0) (D.2 100 0)) hC dL_law_1188 (k_L_reaches l D cI cZ cT hfl c a b o _ _ _ _) gL_law_L_reaches rfl ⟨rfl, rfl⟩ (by decide +kernel) ⟨Nat.le_of_ble_eq_true rfl, Nat.le_of_ble_eq_true rfl⟩ ⟨Nat.le_of_ble_eq_true rfl, Nat.le_of_ble_eq_true rfl⟩ rfl rfl rfl (by exact Nat.le_of_ble_eq_true rfl) rfl (fun r_1188 u_1188 h_1188 => ?_)
      refine V_ws (ws' := [(o, .inl (D.1 102, 1, .inr (.inl u_1188)))] ++ (Wm D cI m 0 0 r (FI 20) (fun _ => 0) (D.2 100 0) ++ [])) (by simp) ?_
      refine V_istore hC dL_law_1191 (Nat.le_of_ble_eq_true rfl) rfl ?_
      refine V_aload_n hC dL_law_1193 rfl rfl rfl ?_
      refine V_aload_n hC dL_law_1194 rfl rfl rfl ?_
      refine V_iload hC dL_law_1195 rfl rfl ?_
      refine V_iconst (v := 1) hC dL_law_1197 (by decide) rfl ?_
      refine V_iadd hC dL_law_1198 rfl ?_
      refine V_sld (i := 1) hC hsc dL_law_1199 (by decide) (by decide) (by decide) rfl ?_
      refine V_aload_n hC dL_law_1200 rfl rfl rfl ?_
      refine V_iload hC dL_law_1201 rfl rfl ?_
      refine V_iconst (v := 2) hC dL_law_1203 (by decide) rfl ?_
      refine V_iadd hC dL_law_1204 rfl ?_
      refine V_sld (i := 2) hC hsc dL_law_1205 (by decide) (by decide) (by decide) rfl ?_
      refine V_aload_n hC dL_law_1206 rfl rfl rfl ?_
      refine V_iload hC dL_law_1207 rfl rfl ?_
      refine V_iconst (v := 3) hC dL_law_1209 (by decide) rfl ?_
      refine V_iadd hC dL_law_1210 rfl ?_
      refine V_sld (i := 3) hC hsc dL_law_1211 (by decide) (by decide) (by decide) rfl ?_
      refine V_callIVf (q0 := 0) (n := 3) (pre := [(o, .inl (D.1 102, 1, .inr (.inl u_1188)))]) (suf := []) hC dL_law_1212 (k_X5_reaches l D cI cZ cT _ _ _ _ _ _ _ (show (fun _ : Nat => (0 : Int32)) 1 = 0 from rfl) _ _ _) gL_law_X5_reaches rfl ⟨rfl, rfl⟩ (by decide +kernel) ⟨Nat.le_of_ble_eq_true rfl, Nat.le_of_ble_eq_true rfl⟩ ⟨Nat.le_of_ble_eq_true rfl, Nat.le_of_ble_eq_true rfl⟩ rfl rfl rfl rfl rfl (by exact Nat.le_of_ble_eq_true rfl) rfl (fun r_1212 u_1212 h_1212 => ?_)
      refine V_istore hC dL_law_1215 (Nat.le_of_ble_eq_true rfl) rfl ?_
      refine V_aload_n hC dL_law_1217 rfl rfl rfl ?_
      refine V_callIVf (q0 := 0) (n := 0) (pre := [(o, .inl (D.1 102, 1, .inr (.inl u_1188)))]) (suf := []) hC dL_law_1218 (k_X5_thrown l D cI cZ cT _ _ _ _ _ _ _ ) gL_law_X5_thrown rfl ⟨rfl, rfl⟩ (by decide +kernel) ⟨Nat.le_of_ble_eq_true rfl, Nat.le_of_ble_eq_true rfl⟩ ⟨Nat.le_of_ble_eq_true rfl, Nat.le_of_ble_eq_true rfl⟩ rfl rfl rfl rfl rfl (by exact Nat.le_of_ble_eq_true rfl) rfl (fun r_1218 u_1218 h_1218 => ?_)
      subst h_1218
      refine V_iload hC dL_law_1221 rfl rfl ?_
      refine V_icmp_eq (tgt := 1228) hC dL_law_1223 (by decide) rfl (fun c_1223 => ?_) (fun c_1223 => ?_)
      · refine V_iload hC dL_law_1228 rfl rfl ?_
        refine V_if_ne (tgt := 1245) hC dL_law_1230 (by decide) rfl (fun c_1230 => ?_) (fun c_1230 => ?_)
        · refine V_goto (tgt := 1502) hC dL_law_1245 (by decide) ?_
          refine V_widen (k := 639801) (n := 7182833) (Nat.le_of_ble_eq_true rfl) (Nat.le_of_ble_eq_true rfl) ?_
          exact V_to (ex_ rfl _) (lc rfl (lc rfl ln))
        · exact absurd (h_1188.symm.trans c_1230) (by decide)
      · exact absurd h_1188.symm c_1223
    by_cases w_16 : w = 16
    · subst w_16
      refine V_tableIn (tgt := 1248) (off := 1209) hC dL_law_39 (by decide) (by decide) (by decide) (by decide) ?_
      refine V_aload_n hC dL_law_1248 rfl rfl rfl ?_
      refine V_aload_n hC dL_law_1249 rfl rfl rfl ?_
      refine V_iload hC dL_law_1250 rfl rfl ?_
      refine V_iconst (v := 1) hC dL_law_1252 (by decide) rfl ?_
      refine V_iadd hC dL_law_1253 rfl ?_
      refine V_sld (i := 1) hC hsc dL_law_1254 (by decide) (by decide) (by decide) rfl ?_
      refine V_aload_n hC dL_law_1255 rfl rfl rfl ?_
      refine V_iload hC dL_law_1256 rfl rfl ?_
      refine V_iconst (v := 2) hC dL_law_1258 (by decide) rfl ?_
      refine V_iadd hC dL_law_1259 rfl ?_
      refine V_sld (i := 2) hC hsc dL_law_1260 (by decide) (by decide) (by decide) rfl ?_
      refine V_aload_n hC dL_law_1261 rfl rfl rfl ?_
      refine V_callWS (n := 4) (pre := []) (suf := Wm D cI m 0 0 r (FI 20) (fun _ => 0) (D.2 100 0)) hC dL_law_1262 (k_L_closest l D cI cZ cT hfl c a b o _ _ _) gL_law_L_closest rfl ⟨rfl, rfl⟩ (by decide +kernel) ⟨Nat.le_of_ble_eq_true rfl, Nat.le_of_ble_eq_true rfl⟩ ⟨Nat.le_of_ble_eq_true rfl, Nat.le_of_ble_eq_true rfl⟩ rfl rfl rfl (by exact Nat.le_of_ble_eq_true rfl) rfl (fun r_1262 u_1262 h_1262 => ?_)
      refine V_ws (ws' := [(o, .inl (D.1 102, 1, .inr (.inl u_1262)))] ++ (Wm D cI m 0 0 r (FI 20) (fun _ => 0) (D.2 100 0) ++ [])) (by simp) ?_
      refine V_istore hC dL_law_1265 (Nat.le_of_ble_eq_true rfl) rfl ?_
      refine V_aload_n hC dL_law_1267 rfl rfl rfl ?_
      refine V_aload_n hC dL_law_1268 rfl rfl rfl ?_
      refine V_iload hC dL_law_1269 rfl rfl ?_
      refine V_iconst (v := 1) hC dL_law_1271 (by decide) rfl ?_
      refine V_iadd hC dL_law_1272 rfl ?_
      refine V_sld (i := 1) hC hsc dL_law_1273 (by decide) (by decide) (by decide) rfl ?_
      refine V_aload_n hC dL_law_1274 rfl rfl rfl ?_
      refine V_iload hC dL_law_1275 rfl rfl ?_
      refine V_iconst (v := 2) hC dL_law_1277 (by decide) rfl ?_
      refine V_iadd hC dL_law_1278 rfl ?_
      refine V_sld (i := 2) hC hsc dL_law_1279 (by decide) (by decide) (by decide) rfl ?_
      refine V_callIVf (q0 := 0) (n := 2) (pre := [(o, .inl (D.1 102, 1, .inr (.inl u_1262)))]) (suf := []) hC dL_law_1280 (k_X5_closest l D cI cZ cT _ _ _ _ _ _ _ (show (fun _ : Nat => (0 : Int32)) 1 = 0 from rfl) _ _) gL_law_X5_closest rfl ⟨rfl, rfl⟩ (by decide +kernel) ⟨Nat.le_of_ble_eq_true rfl, Nat.le_of_ble_eq_true rfl⟩ ⟨Nat.le_of_ble_eq_true rfl, Nat.le_of_ble_eq_true rfl⟩ rfl rfl rfl rfl rfl (by exact Nat.le_of_ble_eq_true rfl) rfl (fun r_1280 u_1280 h_1280 => ?_)
      refine V_istore hC dL_law_1283 (Nat.le_of_ble_eq_true rfl) rfl ?_
      refine V_aload_n hC dL_law_1285 rfl rfl rfl ?_
      refine V_callIVf (q0 := 0) (n := 0) (pre := [(o, .inl (D.1 102, 1, .inr (.inl u_1262)))]) (suf := []) hC dL_law_1286 (k_X5_thrown l D cI cZ cT _ _ _ _ _ _ _ ) gL_law_X5_thrown rfl ⟨rfl, rfl⟩ (by decide +kernel) ⟨Nat.le_of_ble_eq_true rfl, Nat.le_of_ble_eq_true rfl⟩ ⟨Nat.le_of_ble_eq_true rfl, Nat.le_of_ble_eq_true rfl⟩ rfl rfl rfl rfl rfl (by exact Nat.le_of_ble_eq_true rfl) rfl (fun r_1286 u_1286 h_1286 => ?_)
      subst h_1286
      refine V_iload hC dL_law_1289 rfl rfl ?_
      refine V_icmp_eq (tgt := 1296) hC dL_law_1291 (by decide) rfl (fun c_1291 => ?_) (fun c_1291 => ?_)
      · refine V_iload hC dL_law_1296 rfl rfl ?_
        refine V_if_ne (tgt := 1313) hC dL_law_1298 (by decide) rfl (fun c_1298 => ?_) (fun c_1298 => ?_)
        · refine V_goto (tgt := 1502) hC dL_law_1313 (by decide) ?_
          refine V_widen (k := 639801) (n := 7182833) (Nat.le_of_ble_eq_true rfl) (Nat.le_of_ble_eq_true rfl) ?_
          exact V_to (ex_ rfl _) (lc rfl (lc rfl ln))
        · exact absurd (h_1262.symm.trans c_1298) (by decide)
      · exact absurd h_1262.symm c_1291
    by_cases w_17 : w = 17
    · subst w_17
      refine V_tableIn (tgt := 1316) (off := 1277) hC dL_law_39 (by decide) (by decide) (by decide) (by decide) ?_
      refine V_aload_n hC dL_law_1316 rfl rfl rfl ?_
      refine V_aload_n hC dL_law_1317 rfl rfl rfl ?_
      refine V_iload hC dL_law_1318 rfl rfl ?_
      refine V_iconst (v := 1) hC dL_law_1320 (by decide) rfl ?_
      refine V_iadd hC dL_law_1321 rfl ?_
      refine V_sld (i := 1) hC hsc dL_law_1322 (by decide) (by decide) (by decide) rfl ?_
      refine V_aload_n hC dL_law_1323 rfl rfl rfl ?_
      refine V_iload hC dL_law_1324 rfl rfl ?_
      refine V_iconst (v := 2) hC dL_law_1326 (by decide) rfl ?_
      refine V_iadd hC dL_law_1327 rfl ?_
      refine V_sld (i := 2) hC hsc dL_law_1328 (by decide) (by decide) (by decide) rfl ?_
      refine V_aload_n hC dL_law_1329 rfl rfl rfl ?_
      refine V_iload hC dL_law_1330 rfl rfl ?_
      refine V_iconst (v := 3) hC dL_law_1332 (by decide) rfl ?_
      refine V_iadd hC dL_law_1333 rfl ?_
      refine V_sld (i := 3) hC hsc dL_law_1334 (by decide) (by decide) (by decide) rfl ?_
      refine V_aload_n hC dL_law_1335 rfl rfl rfl ?_
      refine V_iload hC dL_law_1336 rfl rfl ?_
      refine V_iconst (v := 4) hC dL_law_1338 (by decide) rfl ?_
      refine V_iadd hC dL_law_1339 rfl ?_
      refine V_sld (i := 4) hC hsc dL_law_1340 (by decide) (by decide) (by decide) rfl ?_
      refine V_aload_n hC dL_law_1341 rfl rfl rfl ?_
      refine V_callWS (n := 6) (pre := []) (suf := Wm D cI m 0 0 r (FI 20) (fun _ => 0) (D.2 100 0)) hC dL_law_1342 (k_L_lost l D cI cZ cT hfl c a b o _ _ _ _ _) gL_law_L_lost rfl ⟨rfl, rfl⟩ (by decide +kernel) ⟨Nat.le_of_ble_eq_true rfl, Nat.le_of_ble_eq_true rfl⟩ ⟨Nat.le_of_ble_eq_true rfl, Nat.le_of_ble_eq_true rfl⟩ rfl rfl rfl (by exact Nat.le_of_ble_eq_true rfl) rfl (fun r_1342 u_1342 h_1342 => ?_)
      refine V_ws (ws' := [(o, .inl (D.1 102, 1, .inr (.inl u_1342)))] ++ (Wm D cI m 0 0 r (FI 20) (fun _ => 0) (D.2 100 0) ++ [])) (by simp) ?_
      refine V_istore hC dL_law_1345 (Nat.le_of_ble_eq_true rfl) rfl ?_
      refine V_aload_n hC dL_law_1347 rfl rfl rfl ?_
      refine V_aload_n hC dL_law_1348 rfl rfl rfl ?_
      refine V_iload hC dL_law_1349 rfl rfl ?_
      refine V_iconst (v := 1) hC dL_law_1351 (by decide) rfl ?_
      refine V_iadd hC dL_law_1352 rfl ?_
      refine V_sld (i := 1) hC hsc dL_law_1353 (by decide) (by decide) (by decide) rfl ?_
      refine V_aload_n hC dL_law_1354 rfl rfl rfl ?_
      refine V_iload hC dL_law_1355 rfl rfl ?_
      refine V_iconst (v := 2) hC dL_law_1357 (by decide) rfl ?_
      refine V_iadd hC dL_law_1358 rfl ?_
      refine V_sld (i := 2) hC hsc dL_law_1359 (by decide) (by decide) (by decide) rfl ?_
      refine V_aload_n hC dL_law_1360 rfl rfl rfl ?_
      refine V_iload hC dL_law_1361 rfl rfl ?_
      refine V_iconst (v := 3) hC dL_law_1363 (by decide) rfl ?_
      refine V_iadd hC dL_law_1364 rfl ?_
      refine V_sld (i := 3) hC hsc dL_law_1365 (by decide) (by decide) (by decide) rfl ?_
      refine V_aload_n hC dL_law_1366 rfl rfl rfl ?_
      refine V_iload hC dL_law_1367 rfl rfl ?_
      refine V_iconst (v := 4) hC dL_law_1369 (by decide) rfl ?_
      refine V_iadd hC dL_law_1370 rfl ?_
      refine V_sld (i := 4) hC hsc dL_law_1371 (by decide) (by decide) (by decide) rfl ?_
      refine V_callIVf (q0 := 0) (n := 4) (pre := [(o, .inl (D.1 102, 1, .inr (.inl u_1342)))]) (suf := []) hC dL_law_1372 (k_X5_lost l D cI cZ cT _ _ _ _ _ _ _ (show (fun _ : Nat => (0 : Int32)) 1 = 0 from rfl) _ _ _ _) gL_law_X5_lost rfl ⟨rfl, rfl⟩ (by decide +kernel) ⟨Nat.le_of_ble_eq_true rfl, Nat.le_of_ble_eq_true rfl⟩ ⟨Nat.le_of_ble_eq_true rfl, Nat.le_of_ble_eq_true rfl⟩ rfl rfl rfl rfl rfl (by exact Nat.le_of_ble_eq_true rfl) rfl (fun r_1372 u_1372 h_1372 => ?_)
      refine V_istore hC dL_law_1375 (Nat.le_of_ble_eq_true rfl) rfl ?_
      refine V_aload_n hC dL_law_1377 rfl rfl rfl ?_
      refine V_callIVf (q0 := 0) (n := 0) (pre := [(o, .inl (D.1 102, 1, .inr (.inl u_1342)))]) (suf := []) hC dL_law_1378 (k_X5_thrown l D cI cZ cT _ _ _ _ _ _ _ ) gL_law_X5_thrown rfl ⟨rfl, rfl⟩ (by decide +kernel) ⟨Nat.le_of_ble_eq_true rfl, Nat.le_of_ble_eq_true rfl⟩ ⟨Nat.le_of_ble_eq_true rfl, Nat.le_of_ble_eq_true rfl⟩ rfl rfl rfl rfl rfl (by exact Nat.le_of_ble_eq_true rfl) rfl (fun r_1378 u_1378 h_1378 => ?_)
      subst h_1378
      refine V_iload hC dL_law_1381 rfl rfl ?_
      refine V_icmp_eq (tgt := 1388) hC dL_law_1383 (by decide) rfl (fun c_1383 => ?_) (fun c_1383 => ?_)
      · refine V_iload hC dL_law_1388 rfl rfl ?_
        refine V_if_ne (tgt := 1405) hC dL_law_1390 (by decide) rfl (fun c_1390 => ?_) (fun c_1390 => ?_)
        · refine V_goto (tgt := 1502) hC dL_law_1405 (by decide) ?_
          refine V_widen (k := 639801) (n := 7182833) (Nat.le_of_ble_eq_true rfl) (Nat.le_of_ble_eq_true rfl) ?_
          exact V_to (ex_ rfl _) (lc rfl (lc rfl ln))
        · exact absurd (h_1342.symm.trans c_1390) (by decide)
      · exact absurd h_1342.symm c_1383
    by_cases w_18 : w = 18
    · subst w_18
      refine V_tableIn (tgt := 1408) (off := 1369) hC dL_law_39 (by decide) (by decide) (by decide) (by decide) ?_
      refine V_aload_n hC dL_law_1408 rfl rfl rfl ?_
      refine V_aload_n hC dL_law_1409 rfl rfl rfl ?_
      refine V_iload hC dL_law_1410 rfl rfl ?_
      refine V_iconst (v := 1) hC dL_law_1412 (by decide) rfl ?_
      refine V_iadd hC dL_law_1413 rfl ?_
      refine V_sld (i := 1) hC hsc dL_law_1414 (by decide) (by decide) (by decide) rfl ?_
      refine V_aload_n hC dL_law_1415 rfl rfl rfl ?_
      refine V_iload hC dL_law_1416 rfl rfl ?_
      refine V_iconst (v := 2) hC dL_law_1418 (by decide) rfl ?_
      refine V_iadd hC dL_law_1419 rfl ?_
      refine V_sld (i := 2) hC hsc dL_law_1420 (by decide) (by decide) (by decide) rfl ?_
      refine V_aload_n hC dL_law_1421 rfl rfl rfl ?_
      refine V_iload hC dL_law_1422 rfl rfl ?_
      refine V_iconst (v := 3) hC dL_law_1424 (by decide) rfl ?_
      refine V_iadd hC dL_law_1425 rfl ?_
      refine V_sld (i := 3) hC hsc dL_law_1426 (by decide) (by decide) (by decide) rfl ?_
      refine V_aload_n hC dL_law_1427 rfl rfl rfl ?_
      refine V_callWS (n := 5) (pre := []) (suf := Wm D cI m 0 0 r (FI 20) (fun _ => 0) (D.2 100 0)) hC dL_law_1428 (k_L_worksIn l D cI cZ cT hfl c a b o _ _ _ _) gL_law_L_worksIn rfl ⟨rfl, rfl⟩ (by decide +kernel) ⟨Nat.le_of_ble_eq_true rfl, Nat.le_of_ble_eq_true rfl⟩ ⟨Nat.le_of_ble_eq_true rfl, Nat.le_of_ble_eq_true rfl⟩ rfl rfl rfl (by exact Nat.le_of_ble_eq_true rfl) rfl (fun r_1428 u_1428 h_1428 => ?_)
      refine V_ws (ws' := [(o, .inl (D.1 102, 1, .inr (.inl u_1428)))] ++ (Wm D cI m 0 0 r (FI 20) (fun _ => 0) (D.2 100 0) ++ [])) (by simp) ?_
      refine V_istore hC dL_law_1431 (Nat.le_of_ble_eq_true rfl) rfl ?_
      refine V_aload_n hC dL_law_1433 rfl rfl rfl ?_
      refine V_aload_n hC dL_law_1434 rfl rfl rfl ?_
      refine V_iload hC dL_law_1435 rfl rfl ?_
      refine V_iconst (v := 1) hC dL_law_1437 (by decide) rfl ?_
      refine V_iadd hC dL_law_1438 rfl ?_
      refine V_sld (i := 1) hC hsc dL_law_1439 (by decide) (by decide) (by decide) rfl ?_
      refine V_aload_n hC dL_law_1440 rfl rfl rfl ?_
      refine V_iload hC dL_law_1441 rfl rfl ?_
      refine V_iconst (v := 2) hC dL_law_1443 (by decide) rfl ?_
      refine V_iadd hC dL_law_1444 rfl ?_
      refine V_sld (i := 2) hC hsc dL_law_1445 (by decide) (by decide) (by decide) rfl ?_
      refine V_aload_n hC dL_law_1446 rfl rfl rfl ?_
      refine V_iload hC dL_law_1447 rfl rfl ?_
      refine V_iconst (v := 3) hC dL_law_1449 (by decide) rfl ?_
      refine V_iadd hC dL_law_1450 rfl ?_
      refine V_sld (i := 3) hC hsc dL_law_1451 (by decide) (by decide) (by decide) rfl ?_
      refine V_callIVf (q0 := 0) (n := 3) (pre := [(o, .inl (D.1 102, 1, .inr (.inl u_1428)))]) (suf := []) hC dL_law_1452 (k_X5_worksIn l D cI cZ cT _ _ _ _ _ _ (show (fun _ : Nat => (0 : Int32)) 1 = 0 from rfl) (show (fun _ : Nat => (0 : Int32)) 4 = 0 from rfl) _ _ _) gL_law_X5_worksIn rfl ⟨rfl, rfl⟩ (by decide +kernel) ⟨Nat.le_of_ble_eq_true rfl, Nat.le_of_ble_eq_true rfl⟩ ⟨Nat.le_of_ble_eq_true rfl, Nat.le_of_ble_eq_true rfl⟩ rfl rfl rfl rfl rfl (by exact Nat.le_of_ble_eq_true rfl) rfl (fun r_1452 u_1452 h_1452 => ?_)
      refine V_istore hC dL_law_1455 (Nat.le_of_ble_eq_true rfl) rfl ?_
      refine V_aload_n hC dL_law_1457 rfl rfl rfl ?_
      refine V_callIVf (q0 := 0) (n := 0) (pre := [(o, .inl (D.1 102, 1, .inr (.inl u_1428)))]) (suf := []) hC dL_law_1458 (k_X5_thrown l D cI cZ cT _ _ _ _ _ _ _ ) gL_law_X5_thrown rfl ⟨rfl, rfl⟩ (by decide +kernel) ⟨Nat.le_of_ble_eq_true rfl, Nat.le_of_ble_eq_true rfl⟩ ⟨Nat.le_of_ble_eq_true rfl, Nat.le_of_ble_eq_true rfl⟩ rfl rfl rfl rfl rfl (by exact Nat.le_of_ble_eq_true rfl) rfl (fun r_1458 u_1458 h_1458 => ?_)
      subst h_1458
      refine V_iload hC dL_law_1461 rfl rfl ?_
      refine V_icmp_eq (tgt := 1468) hC dL_law_1463 (by decide) rfl (fun c_1463 => ?_) (fun c_1463 => ?_)
      · refine V_iload hC dL_law_1468 rfl rfl ?_
        refine V_if_ne (tgt := 1485) hC dL_law_1470 (by decide) rfl (fun c_1470 => ?_) (fun c_1470 => ?_)
        · refine V_goto (tgt := 1502) hC dL_law_1485 (by decide) ?_
          refine V_widen (k := 639801) (n := 7182833) (Nat.le_of_ble_eq_true rfl) (Nat.le_of_ble_eq_true rfl) ?_
          exact V_to (ex_ rfl _) (lc rfl (lc rfl ln))
        · have hx0 := h_1428.1.symm.trans c_1470
          refine V_aload_n hC dL_law_1473 rfl rfl rfl ?_
          refine V_iconst (v := 0) hC dL_law_1474 (by decide) rfl ?_
          refine V_lald (q0 := 0) hC dL_law_1475 rfl 5 rfl (show (0 : Int32) = nI 0 from rfl) (by decide) (by decide) rfl ?_
          refine V_iload hC dL_law_1476 rfl rfl ?_
          refine V_i2l hC dL_law_1478 rfl ?_
          refine V_lcmp hC dL_law_1479 rfl ?_
          refine V_if_eq (tgt := 1485) hC dL_law_1480 (by decide) rfl (fun c_1480 => ?_) (fun c_1480 => ?_)
          · refine V_goto (tgt := 1502) hC dL_law_1485 (by decide) ?_
            refine V_widen (k := 639801) (n := 7182833) (Nat.le_of_ble_eq_true rfl) (Nat.le_of_ble_eq_true rfl) ?_
            exact V_to (ex_ rfl _) (lc rfl (lc rfl ln))
          · exact absurd (by rw [h_1428.2 hx0, h_1452.2 hx0]; exact lg_self _) c_1480
      · exact absurd (h_1452.1.trans h_1428.1.symm) c_1463
    by_cases w_19 : w = 19
    · subst w_19
      refine V_tableIn (tgt := 1488) (off := 1449) hC dL_law_39 (by decide) (by decide) (by decide) (by decide) ?_
      refine V_aload_n hC dL_law_1488 rfl rfl rfl ?_
      refine V_callLVf (q0 := 0) (n := 0) (pre := []) (suf := [(o, .inl (D.1 102, 1, .inr (.inl (fun _ => 0))))] ++ Wm D cI m 0 0 r (FI 20) (fun _ => 0) (D.2 100 0)) hC dL_law_1489 (CL_up (ws0 := []) Sb2 (Lo_of rfl) (k_X3_digest l D cI cZ cT c a b _ _ _ _ 0 0 0 okI)) gL_law_X3_digest rfl ⟨rfl, rfl⟩ (by decide +kernel) ⟨Nat.le_of_ble_eq_true rfl, Nat.le_of_ble_eq_true rfl⟩ ⟨Nat.le_of_ble_eq_true rfl, Nat.le_of_ble_eq_true rfl⟩ rfl rfl rfl rfl rfl (by exact Nat.le_of_ble_eq_true rfl) rfl (fun r_1489 u_1489 h_1489 => ?_)
      subst h_1489
      refine V_ws (ws' := (WB cI cZ cT c a b tI gI u_1489.1 u_1489.2 ++ [(o, .inl (D.1 102, 1, .inr (.inl (fun _ => 0))))]) ++ Wm D cI m 0 0 r (FI 20) (fun _ => 0) (D.2 100 0)) rfl ?_
      refine V_aload_n hC dL_law_1492 rfl rfl rfl ?_
      refine V_callLVf (q0 := 0) (n := 0) (pre := WB cI cZ cT c a b tI gI u_1489.1 u_1489.2 ++ [(o, .inl (D.1 102, 1, .inr (.inl (fun _ => 0))))]) (suf := []) hC dL_law_1493 (k_X5_digest l D cI cZ cT _ _ _ _) gL_law_X5_digest rfl ⟨rfl, rfl⟩ (by decide +kernel) ⟨Nat.le_of_ble_eq_true rfl, Nat.le_of_ble_eq_true rfl⟩ ⟨Nat.le_of_ble_eq_true rfl, Nat.le_of_ble_eq_true rfl⟩ (by rw [List.append_nil]) rfl rfl rfl rfl (by exact Nat.le_of_ble_eq_true rfl) rfl (fun r_1493 u_1493 h_1493 => ?_)
      subst h_1493
      refine V_lcmp hC dL_law_1496 rfl ?_
      refine V_if_eq (tgt := 1502) hC dL_law_1497 (by decide) rfl (fun c_1497 => ?_) (fun c_1497 => ?_)
      · refine V_widen (k := 639801) (n := 7182833) (Nat.le_of_ble_eq_true rfl) (Nat.le_of_ble_eq_true rfl) ?_
        exact V_to (ex_ rfl _) (lc rfl (lc rfl ln))
      · exact absurd (by rw [dig0]; exact lg_self _) c_1497
    have s_0 := sw_no w_0 (z := 0) (by decide)
    have s_1 := sw_no w_1 (z := 1) (by decide)
    have s_2 := sw_no w_2 (z := 2) (by decide)
    have s_3 := sw_no w_3 (z := 3) (by decide)
    have s_4 := sw_no w_4 (z := 4) (by decide)
    have s_5 := sw_no w_5 (z := 5) (by decide)
    have s_6 := sw_no w_6 (z := 6) (by decide)
    have s_7 := sw_no w_7 (z := 7) (by decide)
    have s_8 := sw_no w_8 (z := 8) (by decide)
    have s_9 := sw_no w_9 (z := 9) (by decide)
    have s_10 := sw_no w_10 (z := 10) (by decide)
    have s_11 := sw_no w_11 (z := 11) (by decide)
    have s_12 := sw_no w_12 (z := 12) (by decide)
    have s_13 := sw_no w_13 (z := 13) (by decide)
    have s_14 := sw_no w_14 (z := 14) (by decide)
    have s_15 := sw_no w_15 (z := 15) (by decide)
    have s_16 := sw_no w_16 (z := 16) (by decide)
    have s_17 := sw_no w_17 (z := 17) (by decide)
    have s_18 := sw_no w_18 (z := 18) (by decide)
    have s_19 := sw_no w_19 (z := 19) (by decide)
    refine V_tableOut (tgt := 1502) hC dL_law_39 (by omega) (by decide) ?_
    refine V_widen (k := 639801) (n := 7182833) (Nat.le_of_ble_eq_true rfl) (Nat.le_of_ble_eq_true rfl) ?_
    exact V_to (ex_ rfl _) (lc rfl (lc rfl ln))
theorem in_X3_L_law : ∀ w ∈ u_ws RX3 TX3 2, w ∈ wsL_law := by decide +kernel
theorem cl8_L_law : Cond.classLink RL 8 RX3 ∈ wsL_law := by decide +kernel
theorem insX3_L_law : Cond.instantiable RX3 2 ∈ wsL_law := by decide +kernel
theorem iniX3_L_law : Cond.initialized RX3 ∈ wsL_law := by decide +kernel
theorem inmX3_init_L_law : Cond.instanceMethod yX3_init ∈ wsL_law := by decide +kernel
theorem mlk75_L_law : Cond.methodLink RL 75 yX3_init ∈ wsL_law := by decide +kernel
theorem in_X5_L_law : ∀ w ∈ u_ws RX5 TX5 3, w ∈ wsL_law := by decide +kernel
theorem cl76_L_law : Cond.classLink RL 76 RX5 ∈ wsL_law := by decide +kernel
theorem insX5_L_law : Cond.instantiable RX5 3 ∈ wsL_law := by decide +kernel
theorem iniX5_L_law : Cond.initialized RX5 ∈ wsL_law := by decide +kernel
theorem inmX5_init_L_law : Cond.instanceMethod yX5_init ∈ wsL_law := by decide +kernel
theorem mlk78_L_law : Cond.methodLink RL 78 yX5_init ∈ wsL_law := by decide +kernel
theorem acj_L_law : Cond.arrayClass .long ∈ wsL_law := by decide +kernel
theorem ab_o {a b : va_W} {o : Nat × va_E} : ((a ++ b) ++ [o]).Perm ((a ++ [o]) ++ b) := by
  rw [List.append_assoc, List.append_assoc]
  exact List.Perm.append_left a List.perm_append_comm
set_option maxRecDepth 100000 in
set_option maxHeartbeats 4000000 in
theorem law_head {l : Launch} {D : va_G} {cI cZ cT : ClassId} (hfl : l.stackTraces = false) {X : VC} {A : Nat → Prop} {sb L : Nat} {xs : Nat → Int32} (hL : L ≤ 5) {ret0 : Option FieldType} (hC : Cx X l room_1 D kC2 (kT2 D cI cZ cT) A code 9 RL wsL_law ret0) (hsc : Sc X sb L xs) (hE : ∀ (ws : va_W) (lv : List (Nat × Value)) (pc : Nat), decode code pc = .ok (.ireturn, 1) → V X 639801 7182833 ws lv pc [.int 1]) : V X 0 0 [] [(0, .ref sb)] 0 [] := by
  refine V_new (ci := 3) (C := RX3) (T := TX3) (N := 2) (fs := [.null, .null]) hC dL_law_0 in_X3_L_law tyX3 tyX3_ok cl8_L_law insX3_L_law iniX3_L_law rfl nw_X3 (Nat.le_of_ble_eq_true rfl) (Nat.le_of_ble_eq_true rfl) rfl (fun z1 => ?_)
  refine V_dup hC dL_law_3 rfl rfl ?_
  refine V_callVIf (n := 0) (suf := []) hC dL_law_4 (CV_up (ws0 := []) Sb2 (Lo_of rfl) (k_X3_init l D cI cZ cT z1)) gL_law_X3_init iniX3_L_law mlk75_L_law inmX3_init_L_law rfl rfl ⟨rfl, rfl⟩ (by decide +kernel) ⟨Nat.le_of_ble_eq_true rfl, Nat.le_of_ble_eq_true rfl⟩ ⟨Nat.le_of_ble_eq_true rfl, Nat.le_of_ble_eq_true rfl⟩ rfl rfl rfl (by exact Nat.le_of_ble_eq_true rfl) rfl (fun u_z1 h_z1 => ?_)
  refine V_ws (ws' := WB cI cZ cT z1 u_z1.1 u_z1.2 tI gI tI gI) (by simp) ?_
  refine V_astore_n hC dL_law_7 rfl (Nat.le_of_ble_eq_true rfl) rfl ?_
  refine V_new (ci := 5) (C := RX5) (T := TX5) (N := 3) (fs := [.int 0, .null, .long 0]) hC dL_law_8 in_X5_L_law tyX5 tyX5_ok cl76_L_law insX5_L_law iniX5_L_law rfl nw_X5 (Nat.le_of_ble_eq_true rfl) (Nat.le_of_ble_eq_true rfl) rfl (fun z2 => ?_)
  refine V_dup hC dL_law_11 rfl rfl ?_
  refine V_callVIf (n := 0) (suf := []) hC dL_law_12 (k_X5_init l D cI cZ cT z2) gL_law_X5_init iniX5_L_law mlk78_L_law inmX5_init_L_law rfl rfl ⟨rfl, rfl⟩ (by decide +kernel) ⟨Nat.le_of_ble_eq_true rfl, Nat.le_of_ble_eq_true rfl⟩ ⟨Nat.le_of_ble_eq_true rfl, Nat.le_of_ble_eq_true rfl⟩ rfl rfl rfl (by exact Nat.le_of_ble_eq_true rfl) rfl (fun u_z2 h_z2 => ?_)
  refine V_astore_n hC dL_law_15 rfl (Nat.le_of_ble_eq_true rfl) rfl ?_
  refine V_iconst (v := 1) hC dL_law_16 (by decide) rfl ?_
  refine V_newaJ hC dL_law_17 rfl acj_L_law 5 rfl (by decide) rfl (Nat.le_of_ble_eq_true rfl) (Nat.le_of_ble_eq_true rfl) (Nat.le_of_ble_eq_true rfl) rfl (fun z3 => ?_)
  refine V_astore_n hC dL_law_19 rfl (Nat.le_of_ble_eq_true rfl) rfl ?_
  refine V_ws (ws' := ((WB cI cZ cT z1 u_z1.1 u_z1.2 tI gI tI gI ++ Wm D cI z2 0 0 u_z2 (FI 20) (fun _ => 0) (D.2 100 0)) ++ [(z3, .inl (D.1 102, 1, .inr (.inl (fun _ => 0))))])) (by simp) ?_
  refine V_perm ab_o ?_
  refine V_widen (k := 100) (n := 1000) (Nat.le_of_ble_eq_true rfl) (Nat.le_of_ble_eq_true rfl) ?_
  exact V_to (law_body hfl hL hC hsc hE z1 u_z1.1 u_z1.2 z2 u_z2 z3) (lc rfl (lc rfl (lc rfl (lc rfl ln))))
