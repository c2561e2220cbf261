set_option maxRecDepth 20000 in
theorem qL_law_X3_digest_wsX20 : GoodIn wsL_law wsX20 := goodIn_r _ [467, 468, 469, 470, 471, 472, 473, 474, 475, 476, 477, 478, 479, 480, 481, 482, 483, 484] (by decide +kernel) (by decide +kernel)
theorem ggL_law_X3_digest : GoodIn wsL_law wsX3_digest := q_cons qL_law_X3_digest_h (goodIn_app (goodIn_app (goodIn_app (goodIn_app (goodIn_app (goodIn_app (goodIn_app qL_law_X3_digest_r1 (goodIn_app qL_law_X3_digest_r2 (goodIn_app qL_law_X3_digest_r3 (goodIn_app qL_law_X3_digest_r4 (goodIn_app qL_law_X3_digest_r5 (goodIn_app qL_law_X3_digest_r6 (goodIn_app qL_law_X3_digest_r7 (goodIn_app qL_law_X3_digest_r8 (goodIn_app qL_law_X3_digest_r9 (goodIn_app qL_law_X3_digest_r10 (goodIn_app qL_law_X3_digest_r11 (goodIn_app qL_law_X3_digest_r12 (goodIn_app qL_law_X3_digest_r13 qL_law_X3_digest_r14))))))))))))) qL_law_X3_digest_wsX30) qL_law_X3_digest_wsX00) qL_law_X3_digest_wsX10) qL_law_X3_digest_wsX20) (goodIn_sub (fun _ h => List.mem_append_left _ (List.mem_append_right _ h)) (by decide +kernel))) (goodIn_sub (fun _ h => List.mem_append_left _ (List.mem_append_left _ (List.mem_append_right _ h))) (by decide +kernel)))
set_option maxRecDepth 20000 in
theorem gL_law_X3_digest : GoodIn wsL_law (wsV RL 68 RX3 yX3_digest wsX3_digest) := goodIn_app (goodIn_of _ (by decide +kernel)) ggL_law_X3_digest
set_option maxRecDepth 20000 in
theorem ggL_isSecond_X3_ofTrain : GoodIn wsL_isSecond wsX3_ofTrain := goodIn_ca (goodIn_ca (goodIn_r _ [10, 11, 12, 13, 14, 15, 16, 17, 9, 18, 19, 20, 21, 22, 23, 24, 25, 26, 27, 28, 29, 30, 31, 32, 33, 34, 35, 36, 37, 38, 39, 40, 41, 42, 43, 44, 45, 46, 47, 48, 49, 50, 51, 52, 53, 54, 55, 56, 57, 58, 59, 60, 61, 62, 63, 64, 65, 66, 67, 68, 69, 70, 71, 72, 73, 74, 75, 76, 77, 78, 79, 255, 256, 257, 258, 259, 260, 261, 262, 263, 264, 265, 266, 267, 268, 269, 270, 271, 272, 273, 274, 275, 276, 277, 278, 279, 280, 281, 282, 283, 284, 285, 286, 287, 288] (by decide +kernel) (by decide +kernel)) (goodIn_sub (fun _ h => List.mem_cons_of_mem _ (List.mem_append_left _ (List.mem_append_right _ h))) (by decide +kernel))) (goodIn_sub (fun _ h => List.mem_cons_of_mem _ (List.mem_append_right _ h)) (by decide +kernel))
set_option maxRecDepth 20000 in
theorem gL_isSecond_X3_ofTrain : GoodIn wsL_isSecond (wsV RL 29 RX3 yX3_ofTrain wsX3_ofTrain) := goodIn_app (goodIn_of _ (by decide +kernel)) ggL_isSecond_X3_ofTrain
set_option maxRecDepth 20000 in
theorem ggL_isSecond_X3_ofSection : GoodIn wsL_isSecond wsX3_ofSection := goodIn_ca (goodIn_ca (goodIn_r _ [83, 11, 12, 84, 85, 86, 87, 88, 9, 89, 20, 21, 22, 23, 24, 25, 26, 27, 28, 29, 30, 31, 32, 90, 91, 92, 43, 93, 94, 45, 46, 95, 96, 97, 50, 98, 52, 99, 100, 59, 60, 61, 62, 63, 101, 102, 103, 36, 104, 105, 106, 107, 255, 256, 257, 258, 259, 260, 279, 280, 281, 282, 283, 284, 285, 286, 287, 288, 261, 262, 263, 264, 265, 266, 267, 268, 269, 270, 271, 272, 273, 274, 275, 276, 277, 278] (by decide +kernel) (by decide +kernel)) (goodIn_sub (fun _ h => List.mem_cons_of_mem _ (List.mem_append_left _ (List.mem_append_right _ h))) (by decide +kernel))) (goodIn_sub (fun _ h => List.mem_cons_of_mem _ (List.mem_append_right _ h)) (by decide +kernel))
set_option maxRecDepth 20000 in
theorem gL_isSecond_X3_ofSection : GoodIn wsL_isSecond (wsV RL 54 RX3 yX3_ofSection wsX3_ofSection) := goodIn_app (goodIn_of _ (by decide +kernel)) ggL_isSecond_X3_ofSection
set_option maxRecDepth 20000 in
theorem ggL_isSecond_X3_many : GoodIn wsL_isSecond wsX3_many := goodIn_ca (goodIn_r _ [111, 11, 112, 19, 12, 113, 114, 25, 26, 9, 27, 28, 29, 30, 31, 32, 115, 116, 117, 43, 118, 94, 45, 46, 119, 120, 121, 122, 123, 124, 125, 126, 127, 128, 129, 130, 131, 132, 133, 50, 134, 52, 63, 255, 256, 257, 258, 259, 260, 279, 280, 281, 282, 283, 284, 285, 286, 287, 288, 261, 262, 263, 264, 265, 266, 267, 268, 269, 270, 271, 272, 273, 274, 275, 276, 277, 278] (by decide +kernel) (by decide +kernel)) (goodIn_sub (fun _ h => List.mem_cons_of_mem _ (List.mem_append_right _ h)) (by decide +kernel))
set_option maxRecDepth 20000 in
theorem gL_isSecond_X3_many : GoodIn wsL_isSecond (wsV RL 35 RX3 yX3_many wsX3_many) := goodIn_app (goodIn_of _ (by decide +kernel)) ggL_isSecond_X3_many
set_option maxRecDepth 20000 in
theorem qL_isSecond_X3_pass_h : GoodIn wsL_isSecond [Cond.code yX3_pass cX3_pass 4 (some .int)] := goodIn_r _ [138] (by decide +kernel) (by decide +kernel)
set_option maxRecDepth 20000 in
theorem qL_isSecond_X3_pass_r1 : GoodIn wsL_isSecond wsX3_pass_r1 := goodIn_r _ [11, 25, 26, 9, 27, 28, 29, 30, 31, 32, 139, 140, 141, 43, 142, 143, 94, 45, 46, 144, 145, 146, 4, 147] (by decide +kernel) (by decide +kernel)
set_option maxRecDepth 20000 in
theorem qL_isSecond_X3_pass_r2 : GoodIn wsL_isSecond wsX3_pass_r2 := goodIn_r _ [148, 123, 149, 150, 151, 152, 153, 154, 155, 156, 157, 158, 99, 100, 159, 160, 161, 50, 162, 52, 68, 55, 69, 70] (by decide +kernel) (by decide +kernel)
set_option maxRecDepth 20000 in
theorem qL_isSecond_X3_pass_r3 : GoodIn wsL_isSecond wsX3_pass_r3 := goodIn_r _ [59, 60, 61, 62, 63, 163, 164, 165, 166, 167, 3, 5, 168, 169, 170, 171, 172, 173, 174, 175, 176, 177, 178, 179] (by decide +kernel) (by decide +kernel)
set_option maxRecDepth 20000 in
theorem qL_isSecond_X3_pass_r4 : GoodIn wsL_isSecond wsX3_pass_r4 := goodIn_r _ [41, 42, 44, 180, 181, 182, 183, 184, 185, 186, 187, 188, 189, 36, 190, 191, 105, 106, 192, 193, 194, 195, 196, 197] (by decide +kernel) (by decide +kernel)
set_option maxRecDepth 20000 in
theorem qL_isSecond_X3_pass_r5 : GoodIn wsL_isSecond wsX3_pass_r5 := goodIn_r _ [198, 199, 128, 200, 201, 202, 203, 204, 205, 206, 34, 35, 37, 38, 39, 207, 208, 209, 210, 211, 212, 213, 214, 215] (by decide +kernel) (by decide +kernel)
set_option maxRecDepth 20000 in
theorem qL_isSecond_X3_pass_r6 : GoodIn wsL_isSecond wsX3_pass_r6 := goodIn_r _ [216, 217, 218, 219, 220, 221, 222, 223, 224, 225, 226, 227, 228, 229, 230, 130, 231, 232, 233, 234, 235, 236, 237, 238] (by decide +kernel) (by decide +kernel)
set_option maxRecDepth 20000 in
theorem qL_isSecond_X3_pass_r7 : GoodIn wsL_isSecond wsX3_pass_r7 := goodIn_r _ [239, 240, 241, 242, 243, 244, 245, 129, 246, 247, 248, 249, 250, 58, 53, 251, 252, 253, 254] (by decide +kernel) (by decide +kernel)
set_option maxRecDepth 20000 in
theorem qL_isSecond_X3_pass_wsX30 : GoodIn wsL_isSecond wsX30 := goodIn_r _ [255, 256] (by decide +kernel) (by decide +kernel)
set_option maxRecDepth 20000 in
theorem qL_isSecond_X3_pass_wsX00 : GoodIn wsL_isSecond wsX00 := goodIn_r _ [257, 258, 259, 260] (by decide +kernel) (by decide +kernel)
set_option maxRecDepth 20000 in
theorem qL_isSecond_X3_pass_wsX20 : GoodIn wsL_isSecond wsX20 := goodIn_r _ [261, 262, 263, 264, 265, 266, 267, 268, 269, 270, 271, 272, 273, 274, 275, 276, 277, 278] (by decide +kernel) (by decide +kernel)
