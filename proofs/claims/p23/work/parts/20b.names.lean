set_option maxRecDepth 20000 in
theorem gL_law_X3_whole : GoodIn wsL_law (wsV RL 42 RX3 yX3_whole wsX3_whole) := goodIn_app (goodIn_of _ (by decide +kernel)) ggL_law_X3_whole
set_option maxRecDepth 20000 in
theorem ggL_law_X3_works : GoodIn wsL_law wsX3_works := goodIn_ca (goodIn_ca (goodIn_ca (goodIn_r _ [225, 17, 83, 193, 87, 88, 2, 89, 90, 91, 92, 93, 94, 98, 99, 100, 101, 102, 117, 118, 119, 120, 121, 226, 227, 228, 16, 229, 29, 28, 116, 177, 178, 230, 231, 232, 233, 234, 235, 236, 32, 237, 55, 238, 239, 149, 150, 151, 152, 51, 240, 241, 242, 243, 244, 25, 245, 45, 47, 46, 451, 452, 453, 454, 455, 456, 457, 458, 459, 460, 461, 462, 463, 464, 465, 466, 467, 468, 469, 470, 471, 472, 473, 474, 475, 476, 477, 478, 479, 480, 481, 482, 483, 484] (by decide +kernel) (by decide +kernel)) (goodIn_sub (fun _ h => List.mem_append_left _ (List.mem_append_left _ (List.mem_append_right _ h))) (by decide +kernel))) (goodIn_sub (fun _ h => List.mem_append_left _ (List.mem_append_right _ h)) (by decide +kernel))) (goodIn_sub (fun _ h => List.mem_append_right _ h) (by decide +kernel))
set_option maxRecDepth 20000 in
theorem gL_law_X3_works : GoodIn wsL_law (wsV RL 51 RX3 yX3_works wsX3_works) := goodIn_app (goodIn_of _ (by decide +kernel)) ggL_law_X3_works
set_option maxRecDepth 20000 in
theorem ggL_law_X3_ofSection : GoodIn wsL_law wsX3_ofSection := goodIn_ca (goodIn_ca (goodIn_r _ [249, 17, 83, 84, 85, 86, 87, 88, 2, 89, 90, 91, 92, 93, 94, 95, 96, 97, 98, 99, 100, 101, 102, 250, 231, 232, 16, 233, 29, 28, 116, 234, 235, 236, 32, 237, 55, 238, 239, 149, 150, 151, 152, 51, 251, 252, 253, 25, 254, 47, 45, 46, 451, 452, 453, 454, 455, 456, 457, 458, 459, 460, 461, 462, 463, 464, 465, 466, 467, 468, 469, 470, 471, 472, 473, 474, 475, 476, 477, 478, 479, 480, 481, 482, 483, 484] (by decide +kernel) (by decide +kernel)) (goodIn_sub (fun _ h => List.mem_append_left _ (List.mem_append_left _ (List.mem_append_right _ h))) (by decide +kernel))) (goodIn_sub (fun _ h => List.mem_append_left _ (List.mem_append_right _ h)) (by decide +kernel))
set_option maxRecDepth 20000 in
theorem gL_law_X3_ofSection : GoodIn wsL_law (wsV RL 54 RX3 yX3_ofSection wsX3_ofSection) := goodIn_app (goodIn_of _ (by decide +kernel)) ggL_law_X3_ofSection
set_option maxRecDepth 20000 in
theorem ggL_law_X3_end : GoodIn wsL_law wsX3_end := goodIn_ca (goodIn_r _ [258, 17, 83, 193, 90, 91, 2, 92, 93, 94, 259, 260, 261, 25, 262, 47, 45, 46, 451, 452, 453, 454, 455, 456, 457, 458, 459, 460, 461, 462, 463, 464, 465, 466] (by decide +kernel) (by decide +kernel)) (goodIn_sub (fun _ h => List.mem_append_left _ (List.mem_append_left _ (List.mem_append_right _ h))) (by decide +kernel))
set_option maxRecDepth 20000 in
theorem gL_law_X3_end : GoodIn wsL_law (wsV RL 57 RX3 yX3_end wsX3_end) := goodIn_app (goodIn_of _ (by decide +kernel)) ggL_law_X3_end
set_option maxRecDepth 20000 in
theorem qL_law_L_isSecond_h : GoodIn wsL_law [Cond.code yL_isSecond cL_isSecond 13 (some .boolean)] := goodIn_r _ [265] (by decide +kernel) (by decide +kernel)
set_option maxRecDepth 20000 in
theorem qL_law_L_isSecond_r1 : GoodIn wsL_law wsL_isSecond_r1 := goodIn_r _ [3, 4, 5, 6, 7, 126, 127, 128, 2, 129, 17, 83, 130, 131, 132, 133, 134, 135, 136, 90, 91, 92, 93, 94] (by decide +kernel) (by decide +kernel)
set_option maxRecDepth 20000 in
theorem qL_law_L_isSecond_r2 : GoodIn wsL_law wsL_isSecond_r2 := goodIn_r _ [95, 96, 97, 98, 99, 100, 101, 102, 137, 138, 139, 25, 140, 44, 41, 141, 142, 143, 16, 144, 28, 116, 145, 146] (by decide +kernel) (by decide +kernel)
set_option maxRecDepth 20000 in
theorem qL_law_L_isSecond_r3 : GoodIn wsL_law wsL_isSecond_r3 := goodIn_r _ [147, 32, 148, 55, 56, 57, 54, 58, 60, 61, 149, 150, 151, 152, 51, 153, 154, 155, 156, 62, 63, 64, 65, 66] (by decide +kernel) (by decide +kernel)
set_option maxRecDepth 20000 in
theorem qL_law_L_isSecond_r4 : GoodIn wsL_law wsL_isSecond_r4 := goodIn_r _ [67, 157, 158, 159, 160, 69, 68, 246, 247, 248, 249, 84, 85, 86, 87, 88, 89, 250, 231, 232, 233, 29, 234, 235] (by decide +kernel) (by decide +kernel)
set_option maxRecDepth 20000 in
theorem qL_law_L_isSecond_r5 : GoodIn wsL_law wsL_isSecond_r5 := goodIn_r _ [236, 237, 238, 239, 251, 252, 253, 254, 47, 45, 46, 188, 189, 190, 191, 192, 107, 193, 112, 113, 114, 115, 194, 195] (by decide +kernel) (by decide +kernel)
set_option maxRecDepth 20000 in
theorem qL_law_L_isSecond_r6 : GoodIn wsL_law wsL_isSecond_r6 := goodIn_r _ [196, 197, 198, 199, 200, 201, 202, 203, 204, 205, 206, 207, 208, 209, 266, 267, 268, 269, 270, 271, 272, 273, 30, 177] (by decide +kernel) (by decide +kernel)
set_option maxRecDepth 20000 in
theorem qL_law_L_isSecond_r7 : GoodIn wsL_law wsL_isSecond_r7 := goodIn_r _ [274, 275, 276, 178, 277, 278, 279, 280, 281, 282, 283, 284, 26, 285, 184, 185, 186, 187, 286, 287, 288, 289, 290, 291] (by decide +kernel) (by decide +kernel)
set_option maxRecDepth 20000 in
theorem qL_law_L_isSecond_r8 : GoodIn wsL_law wsL_isSecond_r8 := goodIn_r _ [292, 293, 294, 174, 295, 296, 297, 298, 299, 300, 301, 302, 303, 304, 305, 306, 240, 241, 307, 308, 309, 310, 311, 312] (by decide +kernel) (by decide +kernel)
set_option maxRecDepth 20000 in
theorem qL_law_L_isSecond_r9 : GoodIn wsL_law wsL_isSecond_r9 := goodIn_r _ [313, 314, 315, 316, 317, 318, 176, 319, 320, 321, 322, 179, 323, 324, 325, 326, 327, 328, 175, 329, 169, 330, 331, 332] (by decide +kernel) (by decide +kernel)
set_option maxRecDepth 20000 in
theorem qL_law_L_isSecond_r10 : GoodIn wsL_law wsL_isSecond_r10 := goodIn_r _ [333, 37, 334, 335, 336, 337, 338, 339, 340, 341, 342, 343, 344, 345, 180, 181, 182, 183, 346, 347, 348, 349, 350, 351] (by decide +kernel) (by decide +kernel)
set_option maxRecDepth 20000 in
theorem qL_law_L_isSecond_r11 : GoodIn wsL_law wsL_isSecond_r11 := goodIn_r _ [352, 353, 354, 355, 356, 357, 358, 359, 360, 361, 362, 363, 364, 365] (by decide +kernel) (by decide +kernel)
set_option maxRecDepth 20000 in
theorem qL_law_L_isSecond_wsX30 : GoodIn wsL_law wsX30 := goodIn_r _ [451, 452] (by decide +kernel) (by decide +kernel)
