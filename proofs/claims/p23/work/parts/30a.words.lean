theorem fam {P : Cond → Prop} {a b : List Cond} (h1 : ∀ w ∈ a, P w) (h2 : ∀ w ∈ b, P w) : ∀ w ∈ a ++ b, P w := fun w h => (List.mem_append.mp h).elim (h1 w) (h2 w)
theorem fam1 {P : Cond → Prop} {w : Cond} (h : P w) : ∀ v ∈ [w], P v := fun v hv => List.mem_singleton.mp hv ▸ h
set_option maxRecDepth 40000 in
theorem wl_1 : ∀ w ∈ wsL_law0_r1, w ∈ lw_tbl := by decide +kernel
set_option maxRecDepth 40000 in
theorem wl_2 : ∀ w ∈ wsL_law0_r2, w ∈ lw_tbl := by decide +kernel
set_option maxRecDepth 40000 in
theorem wl_3 : ∀ w ∈ wsL_law0_r3, w ∈ lw_tbl := by decide +kernel
set_option maxRecDepth 40000 in
theorem wl_4 : ∀ w ∈ wsL_law0_r4, w ∈ lw_tbl := by decide +kernel
set_option maxRecDepth 40000 in
theorem wl_5 : ∀ w ∈ wsL_law0_r5, w ∈ lw_tbl := by decide +kernel
set_option maxRecDepth 40000 in
theorem wl_6 : ∀ w ∈ wsL_law0_r6, w ∈ lw_tbl := by decide +kernel
set_option maxRecDepth 40000 in
theorem wl_7 : ∀ w ∈ wsL_law0_r7, w ∈ lw_tbl := by decide +kernel
set_option maxRecDepth 40000 in
theorem wl_8 : ∀ w ∈ wsL_law0_r8, w ∈ lw_tbl := by decide +kernel
set_option maxRecDepth 40000 in
theorem wl_9 : ∀ w ∈ wsL_law0_r9, w ∈ lw_tbl := by decide +kernel
set_option maxRecDepth 40000 in
theorem wl_10 : ∀ w ∈ wsL_law0_r10, w ∈ lw_tbl := by decide +kernel
set_option maxRecDepth 40000 in
theorem wl_11 : ∀ w ∈ wsL_law0_r11, w ∈ lw_tbl := by decide +kernel
set_option maxRecDepth 40000 in
theorem wl_12_0 : ∀ w ∈ [Cond.static yL_isSecond], w ∈ lw_tbl := by decide +kernel
set_option maxRecDepth 40000 in
theorem wl_12_1 : ∀ w ∈ [Cond.code yL_isSecond cL_isSecond 13 (some .boolean)], w ∈ lw_tbl := fam1 (List.mem_of_getElem? (i := 603) rfl)
set_option maxRecDepth 40000 in
theorem wl_12_2 : ∀ w ∈ [Cond.methodLink RL 72 yX3_pass, Cond.instanceMethod yX3_pass, Cond.selects RX3 yX3_pass yX3_pass, Cond.code yX3_pass cX3_pass 4 (some .int), Cond.methodLink RX3 107 yX0_goOn, Cond.instanceMethod yX0_goOn, Cond.selects RX0 yX0_goOn yX0_goOn, Cond.code yX0_goOn cX0_goOn 3 (some .int), Cond.methodLink RX0 102 Lib.Math.max.name, Cond.static Lib.Math.max.name, Cond.code Lib.Math.max.name Lib.Math.max.code 2 (some .int), Cond.methodLink RX0 159 yX0_reportAll, Cond.instanceMethod yX0_reportAll, Cond.selects RX0 yX0_reportAll yX0_reportAll, Cond.code yX0_reportAll cX0_reportAll 3 none, Cond.methodLink RX0 162 yX0_hasRadio, Cond.instanceMethod yX0_hasRadio, Cond.selects RX0 yX0_hasRadio yX0_hasRadio, Cond.code yX0_hasRadio cX0_hasRadio 2 (some .boolean), Cond.fieldLink RX0 174 "BrakeCurve$Track" "radios" "[Z", Cond.methodLink RX0 153 yX0_leastBound, Cond.instanceMethod yX0_leastBound], w ∈ lw_tbl := by decide +kernel
theorem wl_12 : ∀ w ∈ wsL_law0_r12, w ∈ lw_tbl := fam wl_12_0 (fam wl_12_1 (wl_12_2))
set_option maxRecDepth 40000 in
theorem wl_13 : ∀ w ∈ wsL_law0_r13, w ∈ lw_tbl := by decide +kernel
set_option maxRecDepth 40000 in
theorem wl_14 : ∀ w ∈ wsL_law0_r14, w ∈ lw_tbl := by decide +kernel
set_option maxRecDepth 40000 in
theorem wl_15 : ∀ w ∈ wsL_law0_r15, w ∈ lw_tbl := by decide +kernel
set_option maxRecDepth 40000 in
theorem wl_16_0 : ∀ w ∈ [Cond.selects RX2 yX2_crash yX2_crash, Cond.code yX2_crash cX2_crash 1 none, Cond.methodLink RX0 171 yX0_leaveAll, Cond.instanceMethod yX0_leaveAll, Cond.selects RX0 yX0_leaveAll yX0_leaveAll, Cond.code yX0_leaveAll cX0_leaveAll 4 (some .int), Cond.methodLink RL 64 yL_isSo, Cond.static yL_isSo], w ∈ lw_tbl := by decide +kernel
set_option maxRecDepth 40000 in
theorem wl_16_1 : ∀ w ∈ [Cond.code yL_isSo cL_isSo 14 (some .boolean)], w ∈ lw_tbl := fam1 (List.mem_of_getElem? (i := 611) rfl)
set_option maxRecDepth 40000 in
theorem wl_16_2 : ∀ w ∈ [Cond.methodLink RL 81 Lib.Math.max.name, Cond.constantDouble RL 92 (4547007122018943789), Cond.methodLink RL 75 yX3_may, Cond.instanceMethod yX3_may, Cond.selects RX3 yX3_may yX3_may, Cond.code yX3_may cX3_may 2 (some .int), Cond.fieldLink RX3 138 "BrakeCurve$Train" "left" "Z", Cond.methodLink RX3 141 yX0_allowedSpeed, Cond.methodLink RL 78 yX3_stops, Cond.instanceMethod yX3_stops, Cond.selects RX3 yX3_stops yX3_stops, Cond.code yX3_stops cX3_stops 3 (some .int), Cond.methodLink RX3 131 yX0_holdOf, Cond.methodLink RX3 135 yX3_stopMetres, Cond.methodLink RL 84 yX3_meanSpeed], w ∈ lw_tbl := by decide +kernel
theorem wl_16 : ∀ w ∈ wsL_law0_r16, w ∈ lw_tbl := fam wl_16_0 (fam wl_16_1 (wl_16_2))
set_option maxRecDepth 40000 in
theorem wl_17 : ∀ w ∈ wsL_law0_r17, w ∈ lw_tbl := by decide +kernel
set_option maxRecDepth 40000 in
theorem wl_18 : ∀ w ∈ wsL_law0_r18, w ∈ lw_tbl := by decide +kernel
set_option maxRecDepth 40000 in
theorem wl_19 : ∀ w ∈ wsL_law0_r19, w ∈ lw_tbl := by decide +kernel
set_option maxRecDepth 40000 in
theorem wl_wsX30 : ∀ w ∈ wsX30, w ∈ lw_tbl := by decide +kernel
set_option maxRecDepth 40000 in
theorem wl_wsX00 : ∀ w ∈ wsX00, w ∈ lw_tbl := by decide +kernel
set_option maxRecDepth 40000 in
theorem wl_wsX10 : ∀ w ∈ wsX10, w ∈ lw_tbl := by decide +kernel
set_option maxRecDepth 40000 in
theorem wl_wsX20 : ∀ w ∈ wsX20, w ∈ lw_tbl := by decide +kernel
theorem wl_0 : ∀ w ∈ wsL_law0, w ∈ lw_tbl := fam (fam (fam (fam (fam (fam wl_1 (fam wl_2 (fam wl_3 (fam wl_4 (fam wl_5 (fam wl_6 (fam wl_7 (fam wl_8 (fam wl_9 (fam wl_10 (fam wl_11 (fam wl_12 (fam wl_13 (fam wl_14 (fam wl_15 (fam wl_16 (fam wl_17 (fam wl_18 (wl_19))))))))))))))))))) wl_wsX30) wl_wsX00) wl_wsX10) wl_wsX20) (fun _ h => absurd h List.not_mem_nil)
set_option maxRecDepth 40000 in
theorem wl_x0 : ∀ w ∈ (vx_atS RX3 224 "java/lang/IndexOutOfBoundsException" ["java/lang/RuntimeException", "java/lang/Exception"]).filter goodWord, w ∈ lw_tbl := by decide +kernel
set_option maxRecDepth 40000 in
theorem wl_x1 : ∀ w ∈ (vx_atS RX3 231 "java/lang/IllegalArgumentException" ["java/lang/RuntimeException", "java/lang/Exception"]).filter goodWord, w ∈ lw_tbl := by decide +kernel
set_option maxRecDepth 40000 in
theorem wl_x2 : ∀ w ∈ (vx_atS RX3 236 "java/lang/IllegalStateException" ["java/lang/RuntimeException", "java/lang/Exception"]).filter goodWord, w ∈ lw_tbl := by decide +kernel
theorem wl_all : ∀ w ∈ wsL_law, w ∈ lw_tbl := fam (fam (fam wl_0 wl_x0) wl_x1) wl_x2
