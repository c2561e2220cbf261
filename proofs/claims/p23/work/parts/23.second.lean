theorem aci_L_isSecond : Cond.arrayClass .int ∈ wsL_isSecond := by decide +kernel
theorem ml46_L_isSecond : Cond.methodLink RL 46 Lib.Math.min.name ∈ wsL_isSecond := by decide +kernel
theorem msmin_L_isSecond : Cond.static Lib.Math.min.name ∈ wsL_isSecond := by decide +kernel
theorem mi_L_isSecond : Cond.initialized "java/lang/Math" ∈ wsL_isSecond := by decide +kernel
theorem mcmin_L_isSecond : Cond.code Lib.Math.min.name Lib.Math.min.code 2 (some .int) ∈ wsL_isSecond := by decide +kernel
set_option maxRecDepth 100000 in
set_option maxHeartbeats 4000000 in
theorem k_L_isSecond (l : Launch) (D : va_G) (cI cZ cT : ClassId) (c : Nat) (a b : Nat → Nat) (t g t2 g2 : Nat → Nat → Int32) (nT nS nW : Nat) (n : Nat) (cl : Nat → Int) (h : LI t g nT nS nW n cl) (hn : n < 100000) : CI l D kCl (kTy cI cZ cT) yL_isSecond wsL_isSecond ({ frames := 6, cells := 4, slots := 16, locals := 137 }) 4 16 [.ref c, .int (nI nT)] (WB cI cZ cT c a b t g t2 g2) (S := Unit) (fun r _ => r = 1) (fun _ => WB cI cZ cT c a b (m_goOn (-1) nT nS nW t g).1 (m_goOn (-1) nT nS nW t g).2 t2 g2) := by
  refine CI_of (own := RL) (by decide) rfl rfl (Nat.le_of_ble_eq_true rfl) rfl (fun X A hC hE => ?_)
  obtain ⟨u, G, hU, h2, hse, hgone, hout⟩ := sec_all h hn
  obtain ⟨-, nT4, -⟩ := id h.1
  have hnow := h.2.2.1
  have hnow2 := h2.2.2.1
  have hTI := fun i hi => (h.2.2.2.1 i hi).1
  have hTI2 := fun i hi => (h2.2.2.2.1 i hi).1
  refine V_iconst (v := 4) hC dL_isSecond_0 (by decide) rfl ?_
  refine V_newai hC dL_isSecond_1 rfl aci_L_isSecond 0 rfl (by decide) rfl (Nat.le_of_ble_eq_true rfl) (Nat.le_of_ble_eq_true rfl) (Nat.le_of_ble_eq_true rfl) rfl (fun z1 => ?_)
  refine V_astore_n hC dL_isSecond_3 rfl (Nat.le_of_ble_eq_true rfl) rfl ?_
  refine V_iconst (v := 4) hC dL_isSecond_4 (by decide) rfl ?_
  refine V_newai hC dL_isSecond_5 rfl aci_L_isSecond 0 rfl (by decide) rfl (Nat.le_of_ble_eq_true rfl) (Nat.le_of_ble_eq_true rfl) (Nat.le_of_ble_eq_true rfl) rfl (fun z2 => ?_)
  refine V_astore_n hC dL_isSecond_7 rfl (Nat.le_of_ble_eq_true rfl) rfl ?_
  refine V_iconst (v := 4) hC dL_isSecond_8 (by decide) rfl ?_
  refine V_newai hC dL_isSecond_9 rfl aci_L_isSecond 0 rfl (by decide) rfl (Nat.le_of_ble_eq_true rfl) (Nat.le_of_ble_eq_true rfl) (Nat.le_of_ble_eq_true rfl) rfl (fun z3 => ?_)
  refine V_astore hC dL_isSecond_11 (Nat.le_of_ble_eq_true rfl) rfl ?_
  refine V_iconst (v := 4) hC dL_isSecond_13 (by decide) rfl ?_
  refine V_newai hC dL_isSecond_14 rfl aci_L_isSecond 0 rfl (by decide) rfl (Nat.le_of_ble_eq_true rfl) (Nat.le_of_ble_eq_true rfl) (Nat.le_of_ble_eq_true rfl) rfl (fun z4 => ?_)
  refine V_astore hC dL_isSecond_16 (Nat.le_of_ble_eq_true rfl) rfl ?_
  refine V_ws (ws' := (W4 cI cZ cT c a b t g t2 g2 z1 z2 z3 z4 ((fun _ => 0)) ((fun _ => 0)) ((fun _ => 0)) ((fun _ => 0)))) rfl ?_
  refine V_iconst (v := 0) hC dL_isSecond_18 (by decide) rfl ?_
  refine V_istore hC dL_isSecond_19 (Nat.le_of_ble_eq_true rfl) rfl ?_
  have loop_21 : ∀ (d k : Nat) (f1 f2 f3 f4 : Nat → Int32), nT - k < d → k ≤ nT → (∀ i, i < k → f1 i = t i 4 ∧ f2 i = t i 5 ∧ f3 i = stt (t i) ∧ Rpt g n (t i) (f4 i)) → V X 4 16 (W4 cI cZ cT c a b t g t2 g2 z1 z2 z3 z4 f1 f2 f3 f4) [(0, .ref c), (1, .int (nI nT)), (2, .ref z1), (3, .ref z2), (4, .ref z3), (5, .ref z4), (6, .int (nI k))] 21 [] := by
    intro d_1
    induction d_1 with
    | zero => intro k f1 f2 f3 f4; intros; omega
    | succ d_1 ih_1 =>
      intro k f1 f2 f3 f4 hd1 hk hf
      refine V_iload hC dL_isSecond_21 rfl rfl ?_
      refine V_iload_n hC dL_isSecond_23 rfl rfl rfl ?_
      refine V_icmp_ge (tgt := 134) hC dL_isSecond_24 (by decide) rfl (fun c_24 => ?_) (fun c_24 => ?_)
      · have c1 := nI_le' c_24 (by omega) (by omega)
        obtain rfl : nT = k := by omega
        refine V_aload_n hC dL_isSecond_134 rfl rfl rfl ?_
        refine V_bipush (v := 9) hC dL_isSecond_135 (by decide) rfl ?_
        refine V_callIVf (q0 := 0) (n := 1) (pre := []) (suf := (S4 cI z1 z2 z3 z4 f1 f2 f3 f4)) hC dL_isSecond_137 (k_X3_many l D cI cZ cT c a b _ _ _ _ _ _ _ h.1 _ (by decide)) gL_isSecond_X3_many rfl ⟨rfl, rfl⟩ (by decide +kernel) ⟨Nat.le_of_ble_eq_true rfl, Nat.le_of_ble_eq_true rfl⟩ ⟨Nat.le_of_ble_eq_true rfl, Nat.le_of_ble_eq_true rfl⟩ rfl rfl rfl rfl rfl (by exact Nat.le_of_ble_eq_true rfl) rfl (fun r_137 u_137 h_137 => ?_)
        subst h_137
        refine V_ws (ws' := (W4 cI cZ cT c a b t g t2 g2 z1 z2 z3 z4 f1 f2 f3 f4)) rfl ?_
        refine V_istore hC dL_isSecond_140 (Nat.le_of_ble_eq_true rfl) rfl ?_
        refine V_aload_n hC dL_isSecond_142 rfl rfl rfl ?_
        refine V_iconst (v := 2) hC dL_isSecond_143 (by decide) rfl ?_
        refine V_callIVf (q0 := 0) (n := 1) (pre := []) (suf := (S4 cI z1 z2 z3 z4 f1 f2 f3 f4)) hC dL_isSecond_144 (k_X3_many l D cI cZ cT c a b _ _ _ _ _ _ _ h.1 _ (by decide)) gL_isSecond_X3_many rfl ⟨rfl, rfl⟩ (by decide +kernel) ⟨Nat.le_of_ble_eq_true rfl, Nat.le_of_ble_eq_true rfl⟩ ⟨Nat.le_of_ble_eq_true rfl, Nat.le_of_ble_eq_true rfl⟩ rfl rfl rfl rfl rfl (by exact Nat.le_of_ble_eq_true rfl) rfl (fun r_144 u_144 h_144 => ?_)
        subst h_144
        refine V_ws (ws' := (W4 cI cZ cT c a b t g t2 g2 z1 z2 z3 z4 f1 f2 f3 f4)) rfl ?_
        refine V_istore hC dL_isSecond_147 (Nat.le_of_ble_eq_true rfl) rfl ?_
        refine V_aload_n hC dL_isSecond_149 rfl rfl rfl ?_
        refine V_iconst (v := 1) hC dL_isSecond_150 (by decide) rfl ?_
        refine V_callIVf (q0 := 0) (n := 1) (pre := []) (suf := (S4 cI z1 z2 z3 z4 f1 f2 f3 f4)) hC dL_isSecond_151 (k_X3_pass l D cI cZ cT c a b _ _ _ _ _ _ _ h.1 1 (by decide) (by decide)) gL_isSecond_X3_pass rfl ⟨rfl, rfl⟩ (by decide +kernel) ⟨Nat.le_of_ble_eq_true rfl, Nat.le_of_ble_eq_true rfl⟩ ⟨Nat.le_of_ble_eq_true rfl, Nat.le_of_ble_eq_true rfl⟩ rfl rfl rfl rfl rfl (by exact Nat.le_of_ble_eq_true rfl) rfl (fun r_151 u_151 h_151 => ?_)
        subst h_151
        rw [show m_it (-1) nT nS nW t g 1 = (u, G) from hU]
        refine V_ws (ws' := (W4 cI cZ cT c a b u G t2 g2 z1 z2 z3 z4 f1 f2 f3 f4)) rfl ?_
        refine V_istore hC dL_isSecond_154 (Nat.le_of_ble_eq_true rfl) rfl ?_
        refine V_iconst (v := 0) hC dL_isSecond_156 (by decide) rfl ?_
        refine V_istore hC dL_isSecond_157 (Nat.le_of_ble_eq_true rfl) rfl ?_
        refine V_iconst (v := 0) hC dL_isSecond_159 (by decide) rfl ?_
        refine V_istore hC dL_isSecond_160 (Nat.le_of_ble_eq_true rfl) rfl ?_
        have loop_162 : ∀ (d k : Nat), nT - k < d → k ≤ nT → V X 4 16 (W4 cI cZ cT c a b u G t2 g2 z1 z2 z3 z4 f1 f2 f3 f4) [(0, .ref c), (1, .int (nI nT)), (2, .ref z1), (3, .ref z2), (4, .ref z3), (5, .ref z4), (6, .int (q_many t g nT 9)), (7, .int (q_many t g nT 2)), (8, .int (m_outs t g nT nS nW 1)), (9, .int (s_by t u k)), (10, .int (nI k))] 162 [] := by
          intro d_2
          induction d_2 with
          | zero => intro k; intros; omega
          | succ d_2 ih_2 =>
            intro k hd2 hk2
            refine V_iload hC dL_isSecond_162 rfl rfl ?_
            refine V_iload_n hC dL_isSecond_164 rfl rfl rfl ?_
            refine V_icmp_ge (tgt := 366) hC dL_isSecond_165 (by decide) rfl (fun c_165 => ?_) (fun c_165 => ?_)
            · have c2 := nI_le' c_165 (by omega) (by omega)
              obtain rfl : nT = k := by omega
              refine V_aload_n hC dL_isSecond_366 rfl rfl rfl ?_
              refine V_bipush (v := 9) hC dL_isSecond_367 (by decide) rfl ?_
              refine V_callIVf (q0 := 0) (n := 1) (pre := []) (suf := (S4 cI z1 z2 z3 z4 f1 f2 f3 f4)) hC dL_isSecond_369 (k_X3_many l D cI cZ cT c a b _ _ _ _ _ _ _ h2.1 _ (by decide)) gL_isSecond_X3_many rfl ⟨rfl, rfl⟩ (by decide +kernel) ⟨Nat.le_of_ble_eq_true rfl, Nat.le_of_ble_eq_true rfl⟩ ⟨Nat.le_of_ble_eq_true rfl, Nat.le_of_ble_eq_true rfl⟩ rfl rfl rfl rfl rfl (by exact Nat.le_of_ble_eq_true rfl) rfl (fun r_369 u_369 h_369 => ?_)
              subst h_369
              refine V_ws (ws' := (W4 cI cZ cT c a b u G t2 g2 z1 z2 z3 z4 f1 f2 f3 f4)) rfl ?_
              refine V_iload hC dL_isSecond_372 rfl rfl ?_
              refine V_iload hC dL_isSecond_374 rfl rfl ?_
              refine V_iadd hC dL_isSecond_376 rfl ?_
              refine V_icmp_ne (tgt := 397) hC dL_isSecond_377 (by decide) rfl (fun c_377 => ?_) (fun c_377 => ?_)
              · exact absurd hgone c_377
              · refine V_aload_n hC dL_isSecond_380 rfl rfl rfl ?_
                refine V_iconst (v := 2) hC dL_isSecond_381 (by decide) rfl ?_
                refine V_callIVf (q0 := 0) (n := 1) (pre := []) (suf := (S4 cI z1 z2 z3 z4 f1 f2 f3 f4)) hC dL_isSecond_382 (k_X3_many l D cI cZ cT c a b _ _ _ _ _ _ _ h2.1 _ (by decide)) gL_isSecond_X3_many rfl ⟨rfl, rfl⟩ (by decide +kernel) ⟨Nat.le_of_ble_eq_true rfl, Nat.le_of_ble_eq_true rfl⟩ ⟨Nat.le_of_ble_eq_true rfl, Nat.le_of_ble_eq_true rfl⟩ rfl rfl rfl rfl rfl (by exact Nat.le_of_ble_eq_true rfl) rfl (fun r_382 u_382 h_382 => ?_)
                subst h_382
                refine V_ws (ws' := (W4 cI cZ cT c a b u G t2 g2 z1 z2 z3 z4 f1 f2 f3 f4)) rfl ?_
                refine V_iload hC dL_isSecond_385 rfl rfl ?_
                refine V_iload hC dL_isSecond_387 rfl rfl ?_
                refine V_iadd hC dL_isSecond_389 rfl ?_
                refine V_icmp_ne (tgt := 397) hC dL_isSecond_390 (by decide) rfl (fun c_390 => ?_) (fun c_390 => ?_)
                · exact absurd hout c_390
                · refine V_iconst (v := 1) hC dL_isSecond_393 (by decide) rfl ?_
                  refine V_goto (tgt := 398) hC dL_isSecond_394 (by decide) ?_
                  refine V_drop (ws' := WB cI cZ cT c a b u G t2 g2) (x := (S4 cI z1 z2 z3 z4 f1 f2 f3 f4)) rfl ?_
                  exact hE _ () _ _ _ dL_isSecond_398 rfl (by rw [hU]) rfl
            · have c2 := nI_nle' c_165 (by omega) (by omega)
              have k4 : k < 4 := by omega
              obtain ⟨hf1, hf2, hf3, hf4⟩ := hf k c2
              obtain ⟨q1, q2, q3, q4, q5, q6⟩ := sec_asks (hTI k c2) (hTI2 k c2) (hse k c2)
              obtain ⟨r1, r2⟩ := rep_asks hn (hTI k c2) (hse k c2) hf4
              refine V_aload_n hC dL_isSecond_168 rfl rfl rfl ?_
              refine V_iload hC dL_isSecond_169 rfl rfl ?_
              refine V_iconst (v := 0) hC dL_isSecond_171 (by decide) rfl ?_
              refine V_callIVf (q0 := 0) (n := 2) (pre := []) (suf := (S4 cI z1 z2 z3 z4 f1 f2 f3 f4)) hC dL_isSecond_172 (k_X3_ofTrain l D cI cZ cT c a b _ _ _ _ _ _ _ h2.1 k c2 _ (by decide)) gL_isSecond_X3_ofTrain rfl ⟨rfl, rfl⟩ (by decide +kernel) ⟨Nat.le_of_ble_eq_true rfl, Nat.le_of_ble_eq_true rfl⟩ ⟨Nat.le_of_ble_eq_true rfl, Nat.le_of_ble_eq_true rfl⟩ rfl rfl rfl rfl rfl (by exact Nat.le_of_ble_eq_true rfl) rfl (fun r_172 u_172 h_172 => ?_)
              subst h_172
              refine V_ws (ws' := (W4 cI cZ cT c a b u G t2 g2 z1 z2 z3 z4 f1 f2 f3 f4)) rfl ?_
              rw [qt0]
              refine V_aload_n hC dL_isSecond_175 rfl rfl rfl ?_
              refine V_iload hC dL_isSecond_176 rfl rfl ?_
              refine V_iald (q0 := 31) hC dL_isSecond_178 rfl 0 rfl rfl k4 (by decide) rfl ?_
              rw [hf1]
              refine V_isub hC dL_isSecond_179 rfl ?_
              refine V_istore hC dL_isSecond_180 (Nat.le_of_ble_eq_true rfl) rfl ?_
              refine V_aload_n hC dL_isSecond_182 rfl rfl rfl ?_
              refine V_iload hC dL_isSecond_183 rfl rfl ?_
              refine V_bipush (v := 7) hC dL_isSecond_185 (by decide) rfl ?_
              refine V_callIVf (q0 := 0) (n := 2) (pre := []) (suf := (S4 cI z1 z2 z3 z4 f1 f2 f3 f4)) hC dL_isSecond_187 (k_X3_ofTrain l D cI cZ cT c a b _ _ _ _ _ _ _ h2.1 k c2 _ (by decide)) gL_isSecond_X3_ofTrain rfl ⟨rfl, rfl⟩ (by decide +kernel) ⟨Nat.le_of_ble_eq_true rfl, Nat.le_of_ble_eq_true rfl⟩ ⟨Nat.le_of_ble_eq_true rfl, Nat.le_of_ble_eq_true rfl⟩ rfl rfl rfl rfl rfl (by exact Nat.le_of_ble_eq_true rfl) rfl (fun r_187 u_187 h_187 => ?_)
              subst h_187
              refine V_ws (ws' := (W4 cI cZ cT c a b u G t2 g2 z1 z2 z3 z4 f1 f2 f3 f4)) rfl ?_
              rw [qt7]
              refine V_istore hC dL_isSecond_190 (Nat.le_of_ble_eq_true rfl) rfl ?_
              refine V_iload hC dL_isSecond_192 rfl rfl ?_
              refine V_iload hC dL_isSecond_194 rfl rfl ?_
              refine V_iadd hC dL_isSecond_196 rfl ?_
              refine V_istore hC dL_isSecond_197 (Nat.le_of_ble_eq_true rfl) rfl ?_
              have join_285 : V X 4 16 (W4 cI cZ cT c a b u G t2 g2 z1 z2 z3 z4 f1 f2 f3 f4) [(0, .ref c), (1, .int (nI nT)), (2, .ref z1), (3, .ref z2), (4, .ref z3), (5, .ref z4), (6, .int (q_many t g nT 9)), (7, .int (q_many t g nT 2)), (8, .int (m_outs t g nT nS nW 1)), (9, .int (s_by t u (k + 1))), (10, .int (nI k))] 285 [] := by
                skip
                refine V_aload_n hC dL_isSecond_285 rfl rfl rfl ?_
                refine V_iload hC dL_isSecond_286 rfl rfl ?_
                refine V_bipush (v := 10) hC dL_isSecond_288 (by decide) rfl ?_
                refine V_callIVf (q0 := 0) (n := 2) (pre := []) (suf := (S4 cI z1 z2 z3 z4 f1 f2 f3 f4)) hC dL_isSecond_290 (k_X3_ofTrain l D cI cZ cT c a b _ _ _ _ _ _ _ h2.1 k c2 _ (by decide)) gL_isSecond_X3_ofTrain rfl ⟨rfl, rfl⟩ (by decide +kernel) ⟨Nat.le_of_ble_eq_true rfl, Nat.le_of_ble_eq_true rfl⟩ ⟨Nat.le_of_ble_eq_true rfl, Nat.le_of_ble_eq_true rfl⟩ rfl rfl rfl rfl rfl (by exact Nat.le_of_ble_eq_true rfl) rfl (fun r_290 u_290 h_290 => ?_)
                subst h_290
                refine V_ws (ws' := (W4 cI cZ cT c a b u G t2 g2 z1 z2 z3 z4 f1 f2 f3 f4)) rfl ?_
                rw [qt10]
                refine V_aload hC dL_isSecond_293 rfl rfl ?_
                refine V_iload hC dL_isSecond_295 rfl rfl ?_
                refine V_iald (q0 := 34) hC dL_isSecond_297 rfl 0 rfl rfl k4 (by decide) rfl ?_
                refine V_icmp_ne (tgt := 329) hC dL_isSecond_298 (by decide) rfl (fun c_298 => ?_) (fun c_298 => ?_)
                · exact absurd r1 c_298
                · refine V_aload hC dL_isSecond_301 rfl rfl ?_
                  refine V_iload hC dL_isSecond_303 rfl rfl ?_
                  refine V_iald (q0 := 34) hC dL_isSecond_305 rfl 0 rfl rfl k4 (by decide) rfl ?_
                  refine V_aload_n hC dL_isSecond_306 rfl rfl rfl ?_
                  refine V_iconst (v := 0) hC dL_isSecond_307 (by decide) rfl ?_
                  refine V_callIVf (q0 := 0) (n := 1) (pre := []) (suf := (S4 cI z1 z2 z3 z4 f1 f2 f3 f4)) hC dL_isSecond_308 (k_X3_many l D cI cZ cT c a b _ _ _ _ _ _ _ h2.1 _ (by decide)) gL_isSecond_X3_many rfl ⟨rfl, rfl⟩ (by decide +kernel) ⟨Nat.le_of_ble_eq_true rfl, Nat.le_of_ble_eq_true rfl⟩ ⟨Nat.le_of_ble_eq_true rfl, Nat.le_of_ble_eq_true rfl⟩ rfl rfl rfl rfl rfl (by exact Nat.le_of_ble_eq_true rfl) rfl (fun r_308 u_308 h_308 => ?_)
                  subst h_308
                  refine V_ws (ws' := (W4 cI cZ cT c a b u G t2 g2 z1 z2 z3 z4 f1 f2 f3 f4)) rfl ?_
                  rw [show q_many u G nT 0 = G 8 1 from rfl, hnow2]
                  refine V_icmp_ne (tgt := 331) hC dL_isSecond_311 (by decide) rfl (fun c_311 => ?_) (fun c_311 => ?_)
                  · refine V_aload hC dL_isSecond_331 rfl rfl ?_
                    refine V_iload hC dL_isSecond_333 rfl rfl ?_
                    refine V_iald (q0 := 34) hC dL_isSecond_335 rfl 0 rfl rfl k4 (by decide) rfl ?_
                    refine V_aload_n hC dL_isSecond_336 rfl rfl rfl ?_
                    refine V_iconst (v := 0) hC dL_isSecond_337 (by decide) rfl ?_
                    refine V_callIVf (q0 := 0) (n := 1) (pre := []) (suf := (S4 cI z1 z2 z3 z4 f1 f2 f3 f4)) hC dL_isSecond_338 (k_X3_many l D cI cZ cT c a b _ _ _ _ _ _ _ h2.1 _ (by decide)) gL_isSecond_X3_many rfl ⟨rfl, rfl⟩ (by decide +kernel) ⟨Nat.le_of_ble_eq_true rfl, Nat.le_of_ble_eq_true rfl⟩ ⟨Nat.le_of_ble_eq_true rfl, Nat.le_of_ble_eq_true rfl⟩ rfl rfl rfl rfl rfl (by exact Nat.le_of_ble_eq_true rfl) rfl (fun r_338 u_338 h_338 => ?_)
                    subst h_338
                    refine V_ws (ws' := (W4 cI cZ cT c a b u G t2 g2 z1 z2 z3 z4 f1 f2 f3 f4)) rfl ?_
                    rw [show q_many u G nT 0 = G 8 1 from rfl, hnow2]
                    refine V_icmp_ne (tgt := 360) hC dL_isSecond_341 (by decide) rfl (fun c_341 => ?_) (fun c_341 => ?_)
                    · refine V_iinc hC dL_isSecond_360 rfl (nI_1 k) (Nat.le_of_ble_eq_true rfl) rfl ?_
                      refine V_goto (tgt := 162) hC dL_isSecond_363 (by decide) ?_
                      exact V_to (ih_2 (k + 1) (by omega) (by omega)) (lc rfl (lc rfl (lc rfl (lc rfl (lc rfl (lc rfl (lc rfl (lc rfl (lc rfl (lc rfl (lc rfl ln)))))))))))
                    · refine V_aload_n hC dL_isSecond_344 rfl rfl rfl ?_
                      refine V_iload hC dL_isSecond_345 rfl rfl ?_
                      refine V_iconst (v := 3) hC dL_isSecond_347 (by decide) rfl ?_
                      refine V_callIVf (q0 := 0) (n := 2) (pre := []) (suf := (S4 cI z1 z2 z3 z4 f1 f2 f3 f4)) hC dL_isSecond_348 (k_X3_ofTrain l D cI cZ cT c a b _ _ _ _ _ _ _ h2.1 k c2 _ (by decide)) gL_isSecond_X3_ofTrain rfl ⟨rfl, rfl⟩ (by decide +kernel) ⟨Nat.le_of_ble_eq_true rfl, Nat.le_of_ble_eq_true rfl⟩ ⟨Nat.le_of_ble_eq_true rfl, Nat.le_of_ble_eq_true rfl⟩ rfl rfl rfl rfl rfl (by exact Nat.le_of_ble_eq_true rfl) rfl (fun r_348 u_348 h_348 => ?_)
                      subst h_348
                      refine V_ws (ws' := (W4 cI cZ cT c a b u G t2 g2 z1 z2 z3 z4 f1 f2 f3 f4)) rfl ?_
                      rw [qt3]
                      refine V_aload_n hC dL_isSecond_351 rfl rfl rfl ?_
                      refine V_iload hC dL_isSecond_352 rfl rfl ?_
                      refine V_iald (q0 := 31) hC dL_isSecond_354 rfl 0 rfl rfl k4 (by decide) rfl ?_
                      rw [hf1]
                      refine V_icmp_ge (tgt := 360) hC dL_isSecond_355 (by decide) rfl (fun c_355 => ?_) (fun c_355 => ?_)
                      · refine V_iinc hC dL_isSecond_360 rfl (nI_1 k) (Nat.le_of_ble_eq_true rfl) rfl ?_
                        refine V_goto (tgt := 162) hC dL_isSecond_363 (by decide) ?_
                        exact V_to (ih_2 (k + 1) (by omega) (by omega)) (lc rfl (lc rfl (lc rfl (lc rfl (lc rfl (lc rfl (lc rfl (lc rfl (lc rfl (lc rfl (lc rfl ln)))))))))))
                      · exact absurd (r2 c_341).2 c_355
                  · refine V_aload_n hC dL_isSecond_314 rfl rfl rfl ?_
                    refine V_iload hC dL_isSecond_315 rfl rfl ?_
                    refine V_bipush (v := 8) hC dL_isSecond_317 (by decide) rfl ?_
                    refine V_callIVf (q0 := 0) (n := 2) (pre := []) (suf := (S4 cI z1 z2 z3 z4 f1 f2 f3 f4)) hC dL_isSecond_319 (k_X3_ofTrain l D cI cZ cT c a b _ _ _ _ _ _ _ h2.1 k c2 _ (by decide)) gL_isSecond_X3_ofTrain rfl ⟨rfl, rfl⟩ (by decide +kernel) ⟨Nat.le_of_ble_eq_true rfl, Nat.le_of_ble_eq_true rfl⟩ ⟨Nat.le_of_ble_eq_true rfl, Nat.le_of_ble_eq_true rfl⟩ rfl rfl rfl rfl rfl (by exact Nat.le_of_ble_eq_true rfl) rfl (fun r_319 u_319 h_319 => ?_)
                    subst h_319
                    refine V_ws (ws' := (W4 cI cZ cT c a b u G t2 g2 z1 z2 z3 z4 f1 f2 f3 f4)) rfl ?_
                    rw [qt8]
                    refine V_aload_n hC dL_isSecond_322 rfl rfl rfl ?_
                    refine V_iload hC dL_isSecond_323 rfl rfl ?_
                    refine V_iald (q0 := 31) hC dL_isSecond_325 rfl 0 rfl rfl k4 (by decide) rfl ?_
                    rw [hf1]
                    refine V_icmp_eq (tgt := 331) hC dL_isSecond_326 (by decide) rfl (fun c_326 => ?_) (fun c_326 => ?_)
                    · refine V_aload hC dL_isSecond_331 rfl rfl ?_
                      refine V_iload hC dL_isSecond_333 rfl rfl ?_
                      refine V_iald (q0 := 34) hC dL_isSecond_335 rfl 0 rfl rfl k4 (by decide) rfl ?_
                      refine V_aload_n hC dL_isSecond_336 rfl rfl rfl ?_
                      refine V_iconst (v := 0) hC dL_isSecond_337 (by decide) rfl ?_
                      refine V_callIVf (q0 := 0) (n := 1) (pre := []) (suf := (S4 cI z1 z2 z3 z4 f1 f2 f3 f4)) hC dL_isSecond_338 (k_X3_many l D cI cZ cT c a b _ _ _ _ _ _ _ h2.1 _ (by decide)) gL_isSecond_X3_many rfl ⟨rfl, rfl⟩ (by decide +kernel) ⟨Nat.le_of_ble_eq_true rfl, Nat.le_of_ble_eq_true rfl⟩ ⟨Nat.le_of_ble_eq_true rfl, Nat.le_of_ble_eq_true rfl⟩ rfl rfl rfl rfl rfl (by exact Nat.le_of_ble_eq_true rfl) rfl (fun r_338 u_338 h_338 => ?_)
                      subst h_338
                      refine V_ws (ws' := (W4 cI cZ cT c a b u G t2 g2 z1 z2 z3 z4 f1 f2 f3 f4)) rfl ?_
                      rw [show q_many u G nT 0 = G 8 1 from rfl, hnow2]
                      refine V_icmp_ne (tgt := 360) hC dL_isSecond_341 (by decide) rfl (fun c_341 => ?_) (fun c_341 => ?_)
                      · refine V_iinc hC dL_isSecond_360 rfl (nI_1 k) (Nat.le_of_ble_eq_true rfl) rfl ?_
                        refine V_goto (tgt := 162) hC dL_isSecond_363 (by decide) ?_
                        exact V_to (ih_2 (k + 1) (by omega) (by omega)) (lc rfl (lc rfl (lc rfl (lc rfl (lc rfl (lc rfl (lc rfl (lc rfl (lc rfl (lc rfl (lc rfl ln)))))))))))
                      · refine V_aload_n hC dL_isSecond_344 rfl rfl rfl ?_
                        refine V_iload hC dL_isSecond_345 rfl rfl ?_
                        refine V_iconst (v := 3) hC dL_isSecond_347 (by decide) rfl ?_
                        refine V_callIVf (q0 := 0) (n := 2) (pre := []) (suf := (S4 cI z1 z2 z3 z4 f1 f2 f3 f4)) hC dL_isSecond_348 (k_X3_ofTrain l D cI cZ cT c a b _ _ _ _ _ _ _ h2.1 k c2 _ (by decide)) gL_isSecond_X3_ofTrain rfl ⟨rfl, rfl⟩ (by decide +kernel) ⟨Nat.le_of_ble_eq_true rfl, Nat.le_of_ble_eq_true rfl⟩ ⟨Nat.le_of_ble_eq_true rfl, Nat.le_of_ble_eq_true rfl⟩ rfl rfl rfl rfl rfl (by exact Nat.le_of_ble_eq_true rfl) rfl (fun r_348 u_348 h_348 => ?_)
                        subst h_348
                        refine V_ws (ws' := (W4 cI cZ cT c a b u G t2 g2 z1 z2 z3 z4 f1 f2 f3 f4)) rfl ?_
                        rw [qt3]
                        refine V_aload_n hC dL_isSecond_351 rfl rfl rfl ?_
                        refine V_iload hC dL_isSecond_352 rfl rfl ?_
                        refine V_iald (q0 := 31) hC dL_isSecond_354 rfl 0 rfl rfl k4 (by decide) rfl ?_
                        rw [hf1]
                        refine V_icmp_ge (tgt := 360) hC dL_isSecond_355 (by decide) rfl (fun c_355 => ?_) (fun c_355 => ?_)
                        · refine V_iinc hC dL_isSecond_360 rfl (nI_1 k) (Nat.le_of_ble_eq_true rfl) rfl ?_
                          refine V_goto (tgt := 162) hC dL_isSecond_363 (by decide) ?_
                          exact V_to (ih_2 (k + 1) (by omega) (by omega)) (lc rfl (lc rfl (lc rfl (lc rfl (lc rfl (lc rfl (lc rfl (lc rfl (lc rfl (lc rfl (lc rfl ln)))))))))))
                        · exact absurd (r2 c_341).2 c_355
                    · exact absurd (r2 c_311).1 c_326
              refine V_iload hC dL_isSecond_199 rfl rfl ?_
              refine V_if_lt (tgt := 283) hC dL_isSecond_201 (by decide) rfl (fun c_201 => ?_) (fun c_201 => ?_)
              · exact absurd c_201 q1
              · refine V_iload hC dL_isSecond_204 rfl rfl ?_
                refine V_bipush (v := 40) hC dL_isSecond_206 (by decide) rfl ?_
                refine V_icmp_gt (tgt := 283) hC dL_isSecond_208 (by decide) rfl (fun c_208 => ?_) (fun c_208 => ?_)
                · exact absurd c_208 q2
                · refine V_iload hC dL_isSecond_211 rfl rfl ?_
                  refine V_aload_n hC dL_isSecond_213 rfl rfl rfl ?_
                  refine V_iload hC dL_isSecond_214 rfl rfl ?_
                  refine V_iald (q0 := 32) hC dL_isSecond_216 rfl 0 rfl rfl k4 (by decide) rfl ?_
                  rw [hf2]
                  refine V_iconst (v := 3) hC dL_isSecond_217 (by decide) rfl ?_
                  refine V_iadd hC dL_isSecond_218 rfl ?_
                  refine V_icmp_gt (tgt := 283) hC dL_isSecond_219 (by decide) rfl (fun c_219 => ?_) (fun c_219 => ?_)
                  · exact absurd c_219 q3
                  · refine V_aload hC dL_isSecond_222 rfl rfl ?_
                    refine V_iload hC dL_isSecond_224 rfl rfl ?_
                    refine V_iald (q0 := 33) hC dL_isSecond_226 rfl 0 rfl rfl k4 (by decide) rfl ?_
                    rw [hf3]
                    refine V_if_eq (tgt := 251) hC dL_isSecond_227 (by decide) rfl (fun c_227 => ?_) (fun c_227 => ?_)
                    · refine V_iload hC dL_isSecond_251 rfl rfl ?_
                      refine V_if_ne (tgt := 268) hC dL_isSecond_253 (by decide) rfl (fun c_253 => ?_) (fun c_253 => ?_)
                      · refine V_iload hC dL_isSecond_268 rfl rfl ?_
                        refine V_if_eq (tgt := 285) hC dL_isSecond_270 (by decide) rfl (fun c_270 => ?_) (fun c_270 => ?_)
                        · exact V_to join_285 (lc rfl (lc rfl (lc rfl (lc rfl (lc rfl (lc rfl (lc rfl (lc rfl (lc rfl (lc rfl (lc rfl ln)))))))))))
                        · refine V_aload_n hC dL_isSecond_273 rfl rfl rfl ?_
                          refine V_iload hC dL_isSecond_274 rfl rfl ?_
                          refine V_iconst (v := 2) hC dL_isSecond_276 (by decide) rfl ?_
                          refine V_callIVf (q0 := 0) (n := 2) (pre := []) (suf := (S4 cI z1 z2 z3 z4 f1 f2 f3 f4)) hC dL_isSecond_277 (k_X3_ofTrain l D cI cZ cT c a b _ _ _ _ _ _ _ h2.1 k c2 _ (by decide)) gL_isSecond_X3_ofTrain rfl ⟨rfl, rfl⟩ (by decide +kernel) ⟨Nat.le_of_ble_eq_true rfl, Nat.le_of_ble_eq_true rfl⟩ ⟨Nat.le_of_ble_eq_true rfl, Nat.le_of_ble_eq_true rfl⟩ rfl rfl rfl rfl rfl (by exact Nat.le_of_ble_eq_true rfl) rfl (fun r_277 u_277 h_277 => ?_)
                          subst h_277
                          refine V_ws (ws' := (W4 cI cZ cT c a b u G t2 g2 z1 z2 z3 z4 f1 f2 f3 f4)) rfl ?_
                          rw [qt2]
                          refine V_if_eq (tgt := 285) hC dL_isSecond_280 (by decide) rfl (fun c_280 => ?_) (fun c_280 => ?_)
                          · exact V_to join_285 (lc rfl (lc rfl (lc rfl (lc rfl (lc rfl (lc rfl (lc rfl (lc rfl (lc rfl (lc rfl (lc rfl ln)))))))))))
                          · exact absurd (q6 c_270) c_280
                      · refine V_aload_n hC dL_isSecond_256 rfl rfl rfl ?_
                        refine V_iload hC dL_isSecond_257 rfl rfl ?_
                        refine V_iconst (v := 2) hC dL_isSecond_259 (by decide) rfl ?_
                        refine V_callIVf (q0 := 0) (n := 2) (pre := []) (suf := (S4 cI z1 z2 z3 z4 f1 f2 f3 f4)) hC dL_isSecond_260 (k_X3_ofTrain l D cI cZ cT c a b _ _ _ _ _ _ _ h2.1 k c2 _ (by decide)) gL_isSecond_X3_ofTrain rfl ⟨rfl, rfl⟩ (by decide +kernel) ⟨Nat.le_of_ble_eq_true rfl, Nat.le_of_ble_eq_true rfl⟩ ⟨Nat.le_of_ble_eq_true rfl, Nat.le_of_ble_eq_true rfl⟩ rfl rfl rfl rfl rfl (by exact Nat.le_of_ble_eq_true rfl) rfl (fun r_260 u_260 h_260 => ?_)
                        subst h_260
                        refine V_ws (ws' := (W4 cI cZ cT c a b u G t2 g2 z1 z2 z3 z4 f1 f2 f3 f4)) rfl ?_
                        rw [qt2]
                        refine V_iload hC dL_isSecond_263 rfl rfl ?_
                        refine V_icmp_ne (tgt := 283) hC dL_isSecond_265 (by decide) rfl (fun c_265 => ?_) (fun c_265 => ?_)
                        · exact absurd (q5 c_253) c_265
                        · refine V_iload hC dL_isSecond_268 rfl rfl ?_
                          refine V_if_eq (tgt := 285) hC dL_isSecond_270 (by decide) rfl (fun c_270 => ?_) (fun c_270 => ?_)
                          · exact V_to join_285 (lc rfl (lc rfl (lc rfl (lc rfl (lc rfl (lc rfl (lc rfl (lc rfl (lc rfl (lc rfl (lc rfl ln)))))))))))
                          · refine V_aload_n hC dL_isSecond_273 rfl rfl rfl ?_
                            refine V_iload hC dL_isSecond_274 rfl rfl ?_
                            refine V_iconst (v := 2) hC dL_isSecond_276 (by decide) rfl ?_
                            refine V_callIVf (q0 := 0) (n := 2) (pre := []) (suf := (S4 cI z1 z2 z3 z4 f1 f2 f3 f4)) hC dL_isSecond_277 (k_X3_ofTrain l D cI cZ cT c a b _ _ _ _ _ _ _ h2.1 k c2 _ (by decide)) gL_isSecond_X3_ofTrain rfl ⟨rfl, rfl⟩ (by decide +kernel) ⟨Nat.le_of_ble_eq_true rfl, Nat.le_of_ble_eq_true rfl⟩ ⟨Nat.le_of_ble_eq_true rfl, Nat.le_of_ble_eq_true rfl⟩ rfl rfl rfl rfl rfl (by exact Nat.le_of_ble_eq_true rfl) rfl (fun r_277 u_277 h_277 => ?_)
                            subst h_277
                            refine V_ws (ws' := (W4 cI cZ cT c a b u G t2 g2 z1 z2 z3 z4 f1 f2 f3 f4)) rfl ?_
                            rw [qt2]
                            refine V_if_eq (tgt := 285) hC dL_isSecond_280 (by decide) rfl (fun c_280 => ?_) (fun c_280 => ?_)
                            · exact V_to join_285 (lc rfl (lc rfl (lc rfl (lc rfl (lc rfl (lc rfl (lc rfl (lc rfl (lc rfl (lc rfl (lc rfl ln)))))))))))
                            · exact absurd (q6 c_270) c_280
                    · refine V_iload hC dL_isSecond_230 rfl rfl ?_
                      refine V_if_ne (tgt := 283) hC dL_isSecond_232 (by decide) rfl (fun c_232 => ?_) (fun c_232 => ?_)
                      · exact absurd (q4 c_227).1 c_232
                      · refine V_iload hC dL_isSecond_235 rfl rfl ?_
                        refine V_aload hC dL_isSecond_237 rfl rfl ?_
                        refine V_iload hC dL_isSecond_239 rfl rfl ?_
                        refine V_iald (q0 := 33) hC dL_isSecond_241 rfl 0 rfl rfl k4 (by decide) rfl ?_
                        rw [hf3]
                        refine V_icmp_eq (tgt := 251) hC dL_isSecond_242 (by decide) rfl (fun c_242 => ?_) (fun c_242 => ?_)
                        · refine V_iload hC dL_isSecond_251 rfl rfl ?_
                          refine V_if_ne (tgt := 268) hC dL_isSecond_253 (by decide) rfl (fun c_253 => ?_) (fun c_253 => ?_)
                          · refine V_iload hC dL_isSecond_268 rfl rfl ?_
                            refine V_if_eq (tgt := 285) hC dL_isSecond_270 (by decide) rfl (fun c_270 => ?_) (fun c_270 => ?_)
                            · exact V_to join_285 (lc rfl (lc rfl (lc rfl (lc rfl (lc rfl (lc rfl (lc rfl (lc rfl (lc rfl (lc rfl (lc rfl ln)))))))))))
                            · refine V_aload_n hC dL_isSecond_273 rfl rfl rfl ?_
                              refine V_iload hC dL_isSecond_274 rfl rfl ?_
                              refine V_iconst (v := 2) hC dL_isSecond_276 (by decide) rfl ?_
                              refine V_callIVf (q0 := 0) (n := 2) (pre := []) (suf := (S4 cI z1 z2 z3 z4 f1 f2 f3 f4)) hC dL_isSecond_277 (k_X3_ofTrain l D cI cZ cT c a b _ _ _ _ _ _ _ h2.1 k c2 _ (by decide)) gL_isSecond_X3_ofTrain rfl ⟨rfl, rfl⟩ (by decide +kernel) ⟨Nat.le_of_ble_eq_true rfl, Nat.le_of_ble_eq_true rfl⟩ ⟨Nat.le_of_ble_eq_true rfl, Nat.le_of_ble_eq_true rfl⟩ rfl rfl rfl rfl rfl (by exact Nat.le_of_ble_eq_true rfl) rfl (fun r_277 u_277 h_277 => ?_)
                              subst h_277
                              refine V_ws (ws' := (W4 cI cZ cT c a b u G t2 g2 z1 z2 z3 z4 f1 f2 f3 f4)) rfl ?_
                              rw [qt2]
                              refine V_if_eq (tgt := 285) hC dL_isSecond_280 (by decide) rfl (fun c_280 => ?_) (fun c_280 => ?_)
                              · exact V_to join_285 (lc rfl (lc rfl (lc rfl (lc rfl (lc rfl (lc rfl (lc rfl (lc rfl (lc rfl (lc rfl (lc rfl ln)))))))))))
                              · exact absurd (q6 c_270) c_280
                          · refine V_aload_n hC dL_isSecond_256 rfl rfl rfl ?_
                            refine V_iload hC dL_isSecond_257 rfl rfl ?_
                            refine V_iconst (v := 2) hC dL_isSecond_259 (by decide) rfl ?_
                            refine V_callIVf (q0 := 0) (n := 2) (pre := []) (suf := (S4 cI z1 z2 z3 z4 f1 f2 f3 f4)) hC dL_isSecond_260 (k_X3_ofTrain l D cI cZ cT c a b _ _ _ _ _ _ _ h2.1 k c2 _ (by decide)) gL_isSecond_X3_ofTrain rfl ⟨rfl, rfl⟩ (by decide +kernel) ⟨Nat.le_of_ble_eq_true rfl, Nat.le_of_ble_eq_true rfl⟩ ⟨Nat.le_of_ble_eq_true rfl, Nat.le_of_ble_eq_true rfl⟩ rfl rfl rfl rfl rfl (by exact Nat.le_of_ble_eq_true rfl) rfl (fun r_260 u_260 h_260 => ?_)
                            subst h_260
                            refine V_ws (ws' := (W4 cI cZ cT c a b u G t2 g2 z1 z2 z3 z4 f1 f2 f3 f4)) rfl ?_
                            rw [qt2]
                            refine V_iload hC dL_isSecond_263 rfl rfl ?_
                            refine V_icmp_ne (tgt := 283) hC dL_isSecond_265 (by decide) rfl (fun c_265 => ?_) (fun c_265 => ?_)
                            · exact absurd (q5 c_253) c_265
                            · refine V_iload hC dL_isSecond_268 rfl rfl ?_
                              refine V_if_eq (tgt := 285) hC dL_isSecond_270 (by decide) rfl (fun c_270 => ?_) (fun c_270 => ?_)
                              · exact V_to join_285 (lc rfl (lc rfl (lc rfl (lc rfl (lc rfl (lc rfl (lc rfl (lc rfl (lc rfl (lc rfl (lc rfl ln)))))))))))
                              · refine V_aload_n hC dL_isSecond_273 rfl rfl rfl ?_
                                refine V_iload hC dL_isSecond_274 rfl rfl ?_
                                refine V_iconst (v := 2) hC dL_isSecond_276 (by decide) rfl ?_
                                refine V_callIVf (q0 := 0) (n := 2) (pre := []) (suf := (S4 cI z1 z2 z3 z4 f1 f2 f3 f4)) hC dL_isSecond_277 (k_X3_ofTrain l D cI cZ cT c a b _ _ _ _ _ _ _ h2.1 k c2 _ (by decide)) gL_isSecond_X3_ofTrain rfl ⟨rfl, rfl⟩ (by decide +kernel) ⟨Nat.le_of_ble_eq_true rfl, Nat.le_of_ble_eq_true rfl⟩ ⟨Nat.le_of_ble_eq_true rfl, Nat.le_of_ble_eq_true rfl⟩ rfl rfl rfl rfl rfl (by exact Nat.le_of_ble_eq_true rfl) rfl (fun r_277 u_277 h_277 => ?_)
                                subst h_277
                                refine V_ws (ws' := (W4 cI cZ cT c a b u G t2 g2 z1 z2 z3 z4 f1 f2 f3 f4)) rfl ?_
                                rw [qt2]
                                refine V_if_eq (tgt := 285) hC dL_isSecond_280 (by decide) rfl (fun c_280 => ?_) (fun c_280 => ?_)
                                · exact V_to join_285 (lc rfl (lc rfl (lc rfl (lc rfl (lc rfl (lc rfl (lc rfl (lc rfl (lc rfl (lc rfl (lc rfl ln)))))))))))
                                · exact absurd (q6 c_270) c_280
                        · refine V_iload hC dL_isSecond_245 rfl rfl ?_
                          refine V_iconst (v := 1) hC dL_isSecond_247 (by decide) rfl ?_
                          refine V_icmp_ne (tgt := 283) hC dL_isSecond_248 (by decide) rfl (fun c_248 => ?_) (fun c_248 => ?_)
                          · exact absurd ((q4 c_227).2 c_242) c_248
                          · refine V_iload hC dL_isSecond_251 rfl rfl ?_
                            refine V_if_ne (tgt := 268) hC dL_isSecond_253 (by decide) rfl (fun c_253 => ?_) (fun c_253 => ?_)
                            · refine V_iload hC dL_isSecond_268 rfl rfl ?_
                              refine V_if_eq (tgt := 285) hC dL_isSecond_270 (by decide) rfl (fun c_270 => ?_) (fun c_270 => ?_)
                              · exact V_to join_285 (lc rfl (lc rfl (lc rfl (lc rfl (lc rfl (lc rfl (lc rfl (lc rfl (lc rfl (lc rfl (lc rfl ln)))))))))))
                              · refine V_aload_n hC dL_isSecond_273 rfl rfl rfl ?_
                                refine V_iload hC dL_isSecond_274 rfl rfl ?_
                                refine V_iconst (v := 2) hC dL_isSecond_276 (by decide) rfl ?_
                                refine V_callIVf (q0 := 0) (n := 2) (pre := []) (suf := (S4 cI z1 z2 z3 z4 f1 f2 f3 f4)) hC dL_isSecond_277 (k_X3_ofTrain l D cI cZ cT c a b _ _ _ _ _ _ _ h2.1 k c2 _ (by decide)) gL_isSecond_X3_ofTrain rfl ⟨rfl, rfl⟩ (by decide +kernel) ⟨Nat.le_of_ble_eq_true rfl, Nat.le_of_ble_eq_true rfl⟩ ⟨Nat.le_of_ble_eq_true rfl, Nat.le_of_ble_eq_true rfl⟩ rfl rfl rfl rfl rfl (by exact Nat.le_of_ble_eq_true rfl) rfl (fun r_277 u_277 h_277 => ?_)
                                subst h_277
                                refine V_ws (ws' := (W4 cI cZ cT c a b u G t2 g2 z1 z2 z3 z4 f1 f2 f3 f4)) rfl ?_
                                rw [qt2]
                                refine V_if_eq (tgt := 285) hC dL_isSecond_280 (by decide) rfl (fun c_280 => ?_) (fun c_280 => ?_)
                                · exact V_to join_285 (lc rfl (lc rfl (lc rfl (lc rfl (lc rfl (lc rfl (lc rfl (lc rfl (lc rfl (lc rfl (lc rfl ln)))))))))))
                                · exact absurd (q6 c_270) c_280
                            · refine V_aload_n hC dL_isSecond_256 rfl rfl rfl ?_
                              refine V_iload hC dL_isSecond_257 rfl rfl ?_
                              refine V_iconst (v := 2) hC dL_isSecond_259 (by decide) rfl ?_
                              refine V_callIVf (q0 := 0) (n := 2) (pre := []) (suf := (S4 cI z1 z2 z3 z4 f1 f2 f3 f4)) hC dL_isSecond_260 (k_X3_ofTrain l D cI cZ cT c a b _ _ _ _ _ _ _ h2.1 k c2 _ (by decide)) gL_isSecond_X3_ofTrain rfl ⟨rfl, rfl⟩ (by decide +kernel) ⟨Nat.le_of_ble_eq_true rfl, Nat.le_of_ble_eq_true rfl⟩ ⟨Nat.le_of_ble_eq_true rfl, Nat.le_of_ble_eq_true rfl⟩ rfl rfl rfl rfl rfl (by exact Nat.le_of_ble_eq_true rfl) rfl (fun r_260 u_260 h_260 => ?_)
                              subst h_260
                              refine V_ws (ws' := (W4 cI cZ cT c a b u G t2 g2 z1 z2 z3 z4 f1 f2 f3 f4)) rfl ?_
                              rw [qt2]
                              refine V_iload hC dL_isSecond_263 rfl rfl ?_
                              refine V_icmp_ne (tgt := 283) hC dL_isSecond_265 (by decide) rfl (fun c_265 => ?_) (fun c_265 => ?_)
                              · exact absurd (q5 c_253) c_265
                              · refine V_iload hC dL_isSecond_268 rfl rfl ?_
                                refine V_if_eq (tgt := 285) hC dL_isSecond_270 (by decide) rfl (fun c_270 => ?_) (fun c_270 => ?_)
                                · exact V_to join_285 (lc rfl (lc rfl (lc rfl (lc rfl (lc rfl (lc rfl (lc rfl (lc rfl (lc rfl (lc rfl (lc rfl ln)))))))))))
                                · refine V_aload_n hC dL_isSecond_273 rfl rfl rfl ?_
                                  refine V_iload hC dL_isSecond_274 rfl rfl ?_
                                  refine V_iconst (v := 2) hC dL_isSecond_276 (by decide) rfl ?_
                                  refine V_callIVf (q0 := 0) (n := 2) (pre := []) (suf := (S4 cI z1 z2 z3 z4 f1 f2 f3 f4)) hC dL_isSecond_277 (k_X3_ofTrain l D cI cZ cT c a b _ _ _ _ _ _ _ h2.1 k c2 _ (by decide)) gL_isSecond_X3_ofTrain rfl ⟨rfl, rfl⟩ (by decide +kernel) ⟨Nat.le_of_ble_eq_true rfl, Nat.le_of_ble_eq_true rfl⟩ ⟨Nat.le_of_ble_eq_true rfl, Nat.le_of_ble_eq_true rfl⟩ rfl rfl rfl rfl rfl (by exact Nat.le_of_ble_eq_true rfl) rfl (fun r_277 u_277 h_277 => ?_)
                                  subst h_277
                                  refine V_ws (ws' := (W4 cI cZ cT c a b u G t2 g2 z1 z2 z3 z4 f1 f2 f3 f4)) rfl ?_
                                  rw [qt2]
                                  refine V_if_eq (tgt := 285) hC dL_isSecond_280 (by decide) rfl (fun c_280 => ?_) (fun c_280 => ?_)
                                  · exact V_to join_285 (lc rfl (lc rfl (lc rfl (lc rfl (lc rfl (lc rfl (lc rfl (lc rfl (lc rfl (lc rfl (lc rfl ln)))))))))))
                                  · exact absurd (q6 c_270) c_280
        exact V_to (loop_162 _ 0 (Nat.lt_succ_self _) (by omega)) (lc rfl (lc rfl (lc rfl (lc rfl (lc rfl (lc rfl (lc rfl (lc rfl (lc rfl (lc rfl (lc (kv nI_0.symm) ln)))))))))))
      · have c1 := nI_nle' c_24 (by omega) (by omega)
        have k4 : k < 4 := by omega
        refine V_aload_n hC dL_isSecond_27 rfl rfl rfl ?_
        refine V_iload hC dL_isSecond_28 rfl rfl ?_
        refine V_aload_n hC dL_isSecond_30 rfl rfl rfl ?_
        refine V_iload hC dL_isSecond_31 rfl rfl ?_
        refine V_iconst (v := 0) hC dL_isSecond_33 (by decide) rfl ?_
        refine V_callIVf (q0 := 0) (n := 2) (pre := []) (suf := (S4 cI z1 z2 z3 z4 f1 f2 f3 f4)) hC dL_isSecond_34 (k_X3_ofTrain l D cI cZ cT c a b _ _ _ _ _ _ _ h.1 k c1 _ (by decide)) gL_isSecond_X3_ofTrain rfl ⟨rfl, rfl⟩ (by decide +kernel) ⟨Nat.le_of_ble_eq_true rfl, Nat.le_of_ble_eq_true rfl⟩ ⟨Nat.le_of_ble_eq_true rfl, Nat.le_of_ble_eq_true rfl⟩ rfl rfl rfl rfl rfl (by exact Nat.le_of_ble_eq_true rfl) rfl (fun r_34 u_34 h_34 => ?_)
        subst h_34
        refine V_ws (ws' := (W4 cI cZ cT c a b t g t2 g2 z1 z2 z3 z4 f1 f2 f3 f4)) rfl ?_
        rw [qt0]
        refine V_iast (q0 := 31) hC dL_isSecond_37 rfl 0 rfl rfl k4 (by decide) W4_s0 rfl ?_
        refine V_aload_n hC dL_isSecond_38 rfl rfl rfl ?_
        refine V_iload hC dL_isSecond_39 rfl rfl ?_
        refine V_aload_n hC dL_isSecond_41 rfl rfl rfl ?_
        refine V_iload hC dL_isSecond_42 rfl rfl ?_
        refine V_iconst (v := 2) hC dL_isSecond_44 (by decide) rfl ?_
        refine V_callIVf (q0 := 0) (n := 2) (pre := []) (suf := (S4 cI z1 z2 z3 z4 (upd f1 k (t k 4)) f2 f3 f4)) hC dL_isSecond_45 (k_X3_ofTrain l D cI cZ cT c a b _ _ _ _ _ _ _ h.1 k c1 _ (by decide)) gL_isSecond_X3_ofTrain rfl ⟨rfl, rfl⟩ (by decide +kernel) ⟨Nat.le_of_ble_eq_true rfl, Nat.le_of_ble_eq_true rfl⟩ ⟨Nat.le_of_ble_eq_true rfl, Nat.le_of_ble_eq_true rfl⟩ rfl rfl rfl rfl rfl (by exact Nat.le_of_ble_eq_true rfl) rfl (fun r_45 u_45 h_45 => ?_)
        subst h_45
        refine V_ws (ws' := (W4 cI cZ cT c a b t g t2 g2 z1 z2 z3 z4 (upd f1 k (t k 4)) f2 f3 f4)) rfl ?_
        rw [qt2]
        refine V_iast (q0 := 32) hC dL_isSecond_48 rfl 0 rfl rfl k4 (by decide) W4_s1 rfl ?_
        refine V_aload hC dL_isSecond_49 rfl rfl ?_
        refine V_iload hC dL_isSecond_51 rfl rfl ?_
        refine V_aload_n hC dL_isSecond_53 rfl rfl rfl ?_
        refine V_iload hC dL_isSecond_54 rfl rfl ?_
        refine V_bipush (v := 7) hC dL_isSecond_56 (by decide) rfl ?_
        refine V_callIVf (q0 := 0) (n := 2) (pre := []) (suf := (S4 cI z1 z2 z3 z4 (upd f1 k (t k 4)) (upd f2 k (t k 5)) f3 f4)) hC dL_isSecond_58 (k_X3_ofTrain l D cI cZ cT c a b _ _ _ _ _ _ _ h.1 k c1 _ (by decide)) gL_isSecond_X3_ofTrain rfl ⟨rfl, rfl⟩ (by decide +kernel) ⟨Nat.le_of_ble_eq_true rfl, Nat.le_of_ble_eq_true rfl⟩ ⟨Nat.le_of_ble_eq_true rfl, Nat.le_of_ble_eq_true rfl⟩ rfl rfl rfl rfl rfl (by exact Nat.le_of_ble_eq_true rfl) rfl (fun r_58 u_58 h_58 => ?_)
        subst h_58
        refine V_ws (ws' := (W4 cI cZ cT c a b t g t2 g2 z1 z2 z3 z4 (upd f1 k (t k 4)) (upd f2 k (t k 5)) f3 f4)) rfl ?_
        rw [qt7]
        refine V_iast (q0 := 33) hC dL_isSecond_61 rfl 0 rfl rfl k4 (by decide) W4_s2 rfl ?_
        refine V_aload_n hC dL_isSecond_62 rfl rfl rfl ?_
        refine V_bipush (v := 19) hC dL_isSecond_63 (by decide) rfl ?_
        refine V_aload_n hC dL_isSecond_65 rfl rfl rfl ?_
        refine V_iload hC dL_isSecond_66 rfl rfl ?_
        refine V_iald (q0 := 31) hC dL_isSecond_68 rfl 0 rfl rfl k4 (by decide) rfl ?_
        rw [updA]
        refine V_sipush (v := 150) hC dL_isSecond_69 (by decide) rfl ?_
        refine V_idiv hC dL_isSecond_72 (by decide) rfl ?_
        refine V_mmin hC dL_isSecond_73 ml46_L_isSecond msmin_L_isSecond mi_L_isSecond mcmin_L_isSecond (Nat.le_of_ble_eq_true rfl) (Nat.le_of_ble_eq_true rfl) (Nat.le_of_ble_eq_true rfl) (Nat.le_of_ble_eq_true rfl) rfl ?_
        rw [show (if t k 4 / 150 < 19 then t k 4 / 150 else 19) = nI (secN (t k 4)) from sec_min (hTI k c1).r4]
        refine V_iconst (v := 2) hC dL_isSecond_76 (by decide) rfl ?_
        refine V_callIVf (q0 := 0) (n := 2) (pre := []) (suf := (S4 cI z1 z2 z3 z4 (upd f1 k (t k 4)) (upd f2 k (t k 5)) (upd f3 k (stt (t k))) f4)) hC dL_isSecond_77 (k_X3_ofSection l D cI cZ cT c a b _ _ _ _ _ _ _ h.1 _ (sec_N (t k 4)).2 _ (by decide)) gL_isSecond_X3_ofSection rfl ⟨rfl, rfl⟩ (by decide +kernel) ⟨Nat.le_of_ble_eq_true rfl, Nat.le_of_ble_eq_true rfl⟩ ⟨Nat.le_of_ble_eq_true rfl, Nat.le_of_ble_eq_true rfl⟩ rfl rfl rfl rfl rfl (by exact Nat.le_of_ble_eq_true rfl) rfl (fun r_77 u_77 h_77 => ?_)
        subst h_77
        refine V_ws (ws' := (W4 cI cZ cT c a b t g t2 g2 z1 z2 z3 z4 (upd f1 k (t k 4)) (upd f2 k (t k 5)) (upd f3 k (stt (t k))) f4)) rfl ?_
        refine V_iconst (v := 1) hC dL_isSecond_80 (by decide) rfl ?_
        refine V_icmp_ne (tgt := 97) hC dL_isSecond_81 (by decide) rfl (fun c_81 => ?_) (fun c_81 => ?_)
        · refine V_iconst (v := 0) hC dL_isSecond_97 (by decide) rfl ?_
          refine V_istore hC dL_isSecond_98 (Nat.le_of_ble_eq_true rfl) rfl ?_
          refine V_aload hC dL_isSecond_100 rfl rfl ?_
          refine V_iload hC dL_isSecond_102 rfl rfl ?_
          refine V_iload hC dL_isSecond_104 rfl rfl ?_
          refine V_if_eq (tgt := 119) hC dL_isSecond_106 (by decide) rfl (fun _ => ?_) (fun c => absurd c (by decide))
          refine V_aload_n hC dL_isSecond_119 rfl rfl rfl ?_
          refine V_iload hC dL_isSecond_120 rfl rfl ?_
          refine V_bipush (v := 10) hC dL_isSecond_122 (by decide) rfl ?_
          refine V_callIVf (q0 := 0) (n := 2) (pre := []) (suf := (S4 cI z1 z2 z3 z4 (upd f1 k (t k 4)) (upd f2 k (t k 5)) (upd f3 k (stt (t k))) f4)) hC dL_isSecond_124 (k_X3_ofTrain l D cI cZ cT c a b _ _ _ _ _ _ _ h.1 k c1 _ (by decide)) gL_isSecond_X3_ofTrain rfl ⟨rfl, rfl⟩ (by decide +kernel) ⟨Nat.le_of_ble_eq_true rfl, Nat.le_of_ble_eq_true rfl⟩ ⟨Nat.le_of_ble_eq_true rfl, Nat.le_of_ble_eq_true rfl⟩ rfl rfl rfl rfl rfl (by exact Nat.le_of_ble_eq_true rfl) rfl (fun r_124 u_124 h_124 => ?_)
          subst h_124
          refine V_ws (ws' := (W4 cI cZ cT c a b t g t2 g2 z1 z2 z3 z4 (upd f1 k (t k 4)) (upd f2 k (t k 5)) (upd f3 k (stt (t k))) f4)) rfl ?_
          rw [qt10]
          refine V_iast (q0 := 34) hC dL_isSecond_127 rfl 0 rfl rfl k4 (by decide) W4_s3 rfl ?_
          refine V_iinc hC dL_isSecond_128 rfl (nI_1 k) (Nat.le_of_ble_eq_true rfl) rfl ?_
          refine V_goto (tgt := 21) hC dL_isSecond_131 (by decide) ?_
          refine V_to (ih_1 (k + 1) _ _ _ _ (by omega) (by omega) (fun i hi => ?_)) (lc rfl (lc rfl (lc rfl (lc rfl (lc rfl (lc rfl (lc rfl ln)))))))
          rcases Nat.lt_succ_iff_lt_or_eq.mp hi with e | e
          · rw [updJ (Nat.ne_of_lt e), updJ (Nat.ne_of_lt e), updJ (Nat.ne_of_lt e), updJ (Nat.ne_of_lt e)]; exact hf i e
          · subst e
            rw [updA, updA, updA, updA]
            refine ⟨rfl, rfl, rfl, ?_⟩
            first
            | exact Or.inl ⟨(hear_q (hTI _ c1).b9).mp ⟨c_81, c_90⟩, rfl⟩
            | exact Or.inr ⟨fun z => ((hear_q (nT := nT) (nW := nW) (hTI _ c1).b9).mpr z).2 c_90, rfl⟩
            | exact Or.inr ⟨fun z => c_81 ((hear_q (hTI _ c1).b9).mpr z).1, rfl⟩
        · refine V_aload hC dL_isSecond_84 rfl rfl ?_
          refine V_iload hC dL_isSecond_86 rfl rfl ?_
          refine V_iald (q0 := 33) hC dL_isSecond_88 rfl 0 rfl rfl k4 (by decide) rfl ?_
          rw [updA]
          refine V_iconst (v := 1) hC dL_isSecond_89 (by decide) rfl ?_
          refine V_icmp_eq (tgt := 97) hC dL_isSecond_90 (by decide) rfl (fun c_90 => ?_) (fun c_90 => ?_)
          · refine V_iconst (v := 0) hC dL_isSecond_97 (by decide) rfl ?_
            refine V_istore hC dL_isSecond_98 (Nat.le_of_ble_eq_true rfl) rfl ?_
            refine V_aload hC dL_isSecond_100 rfl rfl ?_
            refine V_iload hC dL_isSecond_102 rfl rfl ?_
            refine V_iload hC dL_isSecond_104 rfl rfl ?_
            refine V_if_eq (tgt := 119) hC dL_isSecond_106 (by decide) rfl (fun _ => ?_) (fun c => absurd c (by decide))
            refine V_aload_n hC dL_isSecond_119 rfl rfl rfl ?_
            refine V_iload hC dL_isSecond_120 rfl rfl ?_
            refine V_bipush (v := 10) hC dL_isSecond_122 (by decide) rfl ?_
            refine V_callIVf (q0 := 0) (n := 2) (pre := []) (suf := (S4 cI z1 z2 z3 z4 (upd f1 k (t k 4)) (upd f2 k (t k 5)) (upd f3 k (stt (t k))) f4)) hC dL_isSecond_124 (k_X3_ofTrain l D cI cZ cT c a b _ _ _ _ _ _ _ h.1 k c1 _ (by decide)) gL_isSecond_X3_ofTrain rfl ⟨rfl, rfl⟩ (by decide +kernel) ⟨Nat.le_of_ble_eq_true rfl, Nat.le_of_ble_eq_true rfl⟩ ⟨Nat.le_of_ble_eq_true rfl, Nat.le_of_ble_eq_true rfl⟩ rfl rfl rfl rfl rfl (by exact Nat.le_of_ble_eq_true rfl) rfl (fun r_124 u_124 h_124 => ?_)
            subst h_124
            refine V_ws (ws' := (W4 cI cZ cT c a b t g t2 g2 z1 z2 z3 z4 (upd f1 k (t k 4)) (upd f2 k (t k 5)) (upd f3 k (stt (t k))) f4)) rfl ?_
            rw [qt10]
            refine V_iast (q0 := 34) hC dL_isSecond_127 rfl 0 rfl rfl k4 (by decide) W4_s3 rfl ?_
            refine V_iinc hC dL_isSecond_128 rfl (nI_1 k) (Nat.le_of_ble_eq_true rfl) rfl ?_
            refine V_goto (tgt := 21) hC dL_isSecond_131 (by decide) ?_
            refine V_to (ih_1 (k + 1) _ _ _ _ (by omega) (by omega) (fun i hi => ?_)) (lc rfl (lc rfl (lc rfl (lc rfl (lc rfl (lc rfl (lc rfl ln)))))))
            rcases Nat.lt_succ_iff_lt_or_eq.mp hi with e | e
            · rw [updJ (Nat.ne_of_lt e), updJ (Nat.ne_of_lt e), updJ (Nat.ne_of_lt e), updJ (Nat.ne_of_lt e)]; exact hf i e
            · subst e
              rw [updA, updA, updA, updA]
              refine ⟨rfl, rfl, rfl, ?_⟩
              first
              | exact Or.inl ⟨(hear_q (hTI _ c1).b9).mp ⟨c_81, c_90⟩, rfl⟩
              | exact Or.inr ⟨fun z => ((hear_q (nT := nT) (nW := nW) (hTI _ c1).b9).mpr z).2 c_90, rfl⟩
              | exact Or.inr ⟨fun z => c_81 ((hear_q (hTI _ c1).b9).mpr z).1, rfl⟩
          · refine V_iconst (v := 1) hC dL_isSecond_93 (by decide) rfl ?_
            refine V_goto (tgt := 98) hC dL_isSecond_94 (by decide) ?_
            refine V_istore hC dL_isSecond_98 (Nat.le_of_ble_eq_true rfl) rfl ?_
            refine V_aload hC dL_isSecond_100 rfl rfl ?_
            refine V_iload hC dL_isSecond_102 rfl rfl ?_
            refine V_iload hC dL_isSecond_104 rfl rfl ?_
            refine V_if_eq (tgt := 119) hC dL_isSecond_106 (by decide) rfl (fun c => absurd c (by decide)) (fun _ => ?_)
            refine V_aload_n hC dL_isSecond_109 rfl rfl rfl ?_
            refine V_iconst (v := 0) hC dL_isSecond_110 (by decide) rfl ?_
            refine V_callIVf (q0 := 0) (n := 1) (pre := []) (suf := (S4 cI z1 z2 z3 z4 (upd f1 k (t k 4)) (upd f2 k (t k 5)) (upd f3 k (stt (t k))) f4)) hC dL_isSecond_111 (k_X3_many l D cI cZ cT c a b _ _ _ _ _ _ _ h.1 _ (by decide)) gL_isSecond_X3_many rfl ⟨rfl, rfl⟩ (by decide +kernel) ⟨Nat.le_of_ble_eq_true rfl, Nat.le_of_ble_eq_true rfl⟩ ⟨Nat.le_of_ble_eq_true rfl, Nat.le_of_ble_eq_true rfl⟩ rfl rfl rfl rfl rfl (by exact Nat.le_of_ble_eq_true rfl) rfl (fun r_111 u_111 h_111 => ?_)
            subst h_111
            refine V_ws (ws' := (W4 cI cZ cT c a b t g t2 g2 z1 z2 z3 z4 (upd f1 k (t k 4)) (upd f2 k (t k 5)) (upd f3 k (stt (t k))) f4)) rfl ?_
            rw [show q_many t g nT 0 = g 8 1 from rfl, hnow]
            refine V_iconst (v := 1) hC dL_isSecond_114 (by decide) rfl ?_
            refine V_iadd hC dL_isSecond_115 rfl ?_
            rw [nI_succ']
            refine V_goto (tgt := 127) hC dL_isSecond_116 (by decide) ?_
            refine V_iast (q0 := 34) hC dL_isSecond_127 rfl 0 rfl rfl k4 (by decide) W4_s3 rfl ?_
            refine V_iinc hC dL_isSecond_128 rfl (nI_1 k) (Nat.le_of_ble_eq_true rfl) rfl ?_
            refine V_goto (tgt := 21) hC dL_isSecond_131 (by decide) ?_
            refine V_to (ih_1 (k + 1) _ _ _ _ (by omega) (by omega) (fun i hi => ?_)) (lc rfl (lc rfl (lc rfl (lc rfl (lc rfl (lc rfl (lc rfl ln)))))))
            rcases Nat.lt_succ_iff_lt_or_eq.mp hi with e | e
            · rw [updJ (Nat.ne_of_lt e), updJ (Nat.ne_of_lt e), updJ (Nat.ne_of_lt e), updJ (Nat.ne_of_lt e)]; exact hf i e
            · subst e
              rw [updA, updA, updA, updA]
              refine ⟨rfl, rfl, rfl, ?_⟩
              first
              | exact Or.inl ⟨(hear_q (hTI _ c1).b9).mp ⟨c_81, c_90⟩, rfl⟩
              | exact Or.inr ⟨fun z => ((hear_q (nT := nT) (nW := nW) (hTI _ c1).b9).mpr z).2 c_90, rfl⟩
              | exact Or.inr ⟨fun z => c_81 ((hear_q (hTI _ c1).b9).mpr z).1, rfl⟩
  refine V_to (loop_21 _ 0 _ _ _ _ (Nat.lt_succ_self _) (by omega) (fun i hi => absurd hi (Nat.not_lt_zero _))) (lc rfl (lc rfl (lc rfl (lc rfl (lc rfl (lc rfl (lc (kv nI_0.symm) ln)))))))
