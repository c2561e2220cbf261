set_option maxRecDepth 20000 in
theorem qL_law_L_isSecond_wsX00 : GoodIn wsL_law wsX00 := goodIn_r _ [453, 454, 455, 456] (by decide +kernel) (by decide +kernel)
set_option maxRecDepth 20000 in
theorem qL_law_L_isSecond_wsX20 : GoodIn wsL_law wsX20 := goodIn_r _ [467, 468, 469, 470, 471, 472, 473, 474, 475, 476, 477, 478, 479, 480, 481, 482, 483, 484] (by decide +kernel) (by decide +kernel)
set_option maxRecDepth 20000 in
theorem qL_law_L_isSecond_wsX10 : GoodIn wsL_law wsX10 := goodIn_r _ [457, 458, 459, 460, 461, 462, 463, 464, 465, 466] (by decide +kernel) (by decide +kernel)
theorem ggL_law_L_isSecond : GoodIn wsL_law wsL_isSecond := q_cons qL_law_L_isSecond_h (goodIn_app (goodIn_app (goodIn_app (goodIn_app (goodIn_app (goodIn_app (goodIn_app qL_law_L_isSecond_r1 (goodIn_app qL_law_L_isSecond_r2 (goodIn_app qL_law_L_isSecond_r3 (goodIn_app qL_law_L_isSecond_r4 (goodIn_app qL_law_L_isSecond_r5 (goodIn_app qL_law_L_isSecond_r6 (goodIn_app qL_law_L_isSecond_r7 (goodIn_app qL_law_L_isSecond_r8 (goodIn_app qL_law_L_isSecond_r9 (goodIn_app qL_law_L_isSecond_r10 qL_law_L_isSecond_r11)))))))))) qL_law_L_isSecond_wsX30) qL_law_L_isSecond_wsX00) qL_law_L_isSecond_wsX20) qL_law_L_isSecond_wsX10) (goodIn_sub (fun _ h => List.mem_append_left _ (List.mem_append_left _ (List.mem_append_right _ h))) (by decide +kernel))) (goodIn_sub (fun _ h => List.mem_append_left _ (List.mem_append_right _ h)) (by decide +kernel)))
set_option maxRecDepth 20000 in
theorem gL_law_L_isSecond : GoodIn wsL_law (va_wsS RL 60 yL_isSecond wsL_isSecond) := goodIn_app (goodIn_of _ (by decide +kernel)) ggL_law_L_isSecond
theorem qL_law_L_isSo_h0 : Cond.code yL_isSo cL_isSo 14 (some .boolean) ∈ wsL_law0_r16 := List.mem_of_getElem? (i := 8) rfl
set_option maxRecDepth 20000 in
theorem qL_law_L_isSo_h : GoodIn wsL_law [Cond.code yL_isSo cL_isSo 14 (some .boolean)] := goodIn_sub (fun w hw => by rw [List.mem_singleton] at hw; rw [hw]; simp only [wsL_law, wsL_law0, List.mem_append, qL_law_L_isSo_h0, true_or, or_true]) (by decide +kernel)
set_option maxRecDepth 20000 in
theorem qL_law_L_isSo_r1 : GoodIn wsL_law wsL_isSo_r1 := goodIn_r _ [3, 369, 275, 6, 276, 370, 126, 127, 128, 2, 129, 17, 83, 130, 131, 132, 133, 134, 135, 136, 90, 91, 92, 93] (by decide +kernel) (by decide +kernel)
set_option maxRecDepth 20000 in
theorem qL_law_L_isSo_r2 : GoodIn wsL_law wsL_isSo_r2 := goodIn_r _ [94, 95, 96, 97, 98, 99, 100, 101, 102, 137, 138, 139, 25, 140, 44, 41, 141, 142, 143, 16, 144, 28, 116, 145] (by decide +kernel) (by decide +kernel)
set_option maxRecDepth 20000 in
theorem qL_law_L_isSo_r3 : GoodIn wsL_law wsL_isSo_r3 := goodIn_r _ [146, 147, 32, 148, 55, 56, 57, 54, 58, 60, 61, 149, 150, 151, 152, 51, 153, 154, 155, 156, 62, 63, 64, 65] (by decide +kernel) (by decide +kernel)
set_option maxRecDepth 20000 in
theorem qL_law_L_isSo_r4 : GoodIn wsL_law wsL_isSo_r4 := goodIn_r _ [66, 67, 157, 158, 159, 160, 69, 68, 371, 372, 373, 374, 375, 376, 320, 321, 322, 178, 177, 26, 179, 323, 290, 5] (by decide +kernel) (by decide +kernel)
set_option maxRecDepth 20000 in
theorem qL_law_L_isSo_r5 : GoodIn wsL_law wsL_isSo_r5 := goodIn_r _ [7, 324, 325, 326, 327, 328, 175, 329, 274, 238, 239, 169, 330, 331, 332, 333, 37, 312, 334, 335, 377, 378, 379, 380] (by decide +kernel) (by decide +kernel)
set_option maxRecDepth 20000 in
theorem qL_law_L_isSo_r6 : GoodIn wsL_law wsL_isSo_r6 := goodIn_r _ [381, 382, 210, 211, 212, 213, 107, 214, 215, 216, 246, 247, 248, 249, 84, 85, 86, 87, 88, 89, 250, 231, 232, 233] (by decide +kernel) (by decide +kernel)
set_option maxRecDepth 20000 in
theorem qL_law_L_isSo_r7 : GoodIn wsL_law wsL_isSo_r7 := goodIn_r _ [29, 234, 235, 236, 237, 251, 252, 253, 254, 47, 45, 46, 188, 189, 190, 191, 192, 193, 112, 113, 114, 115, 194, 195] (by decide +kernel) (by decide +kernel)
set_option maxRecDepth 20000 in
theorem qL_law_L_isSo_r8 : GoodIn wsL_law wsL_isSo_r8 := goodIn_r _ [196, 197, 198, 199, 200, 201, 202, 203, 204, 205, 206, 207, 208, 209, 383, 384, 385, 386, 387, 388, 389, 390, 318, 391] (by decide +kernel) (by decide +kernel)
set_option maxRecDepth 20000 in
theorem qL_law_L_isSo_r9 : GoodIn wsL_law wsL_isSo_r9 := goodIn_r _ [392, 393, 394, 395, 396, 397, 398, 399, 400, 401, 402] (by decide +kernel) (by decide +kernel)
set_option maxRecDepth 20000 in
theorem qL_law_L_isSo_wsX30 : GoodIn wsL_law wsX30 := goodIn_r _ [451, 452] (by decide +kernel) (by decide +kernel)
set_option maxRecDepth 20000 in
theorem qL_law_L_isSo_wsX00 : GoodIn wsL_law wsX00 := goodIn_r _ [453, 454, 455, 456] (by decide +kernel) (by decide +kernel)
set_option maxRecDepth 20000 in
theorem qL_law_L_isSo_wsX20 : GoodIn wsL_law wsX20 := goodIn_r _ [467, 468, 469, 470, 471, 472, 473, 474, 475, 476, 477, 478, 479, 480, 481, 482, 483, 484] (by decide +kernel) (by decide +kernel)
set_option maxRecDepth 20000 in
theorem qL_law_L_isSo_wsX10 : GoodIn wsL_law wsX10 := goodIn_r _ [457, 458, 459, 460, 461, 462, 463, 464, 465, 466] (by decide +kernel) (by decide +kernel)
