theorem ggL_law_L_isSo : GoodIn wsL_law wsL_isSo := q_cons qL_law_L_isSo_h (goodIn_app (goodIn_app (goodIn_app (goodIn_app (goodIn_app (goodIn_app (goodIn_app qL_law_L_isSo_r1 (goodIn_app qL_law_L_isSo_r2 (goodIn_app qL_law_L_isSo_r3 (goodIn_app qL_law_L_isSo_r4 (goodIn_app qL_law_L_isSo_r5 (goodIn_app qL_law_L_isSo_r6 (goodIn_app qL_law_L_isSo_r7 (goodIn_app qL_law_L_isSo_r8 qL_law_L_isSo_r9)))))))) qL_law_L_isSo_wsX30) qL_law_L_isSo_wsX00) qL_law_L_isSo_wsX20) qL_law_L_isSo_wsX10) (goodIn_sub (fun _ h => List.mem_append_left _ (List.mem_append_left _ (List.mem_append_right _ h))) (by decide +kernel))) (goodIn_sub (fun _ h => List.mem_append_left _ (List.mem_append_right _ h)) (by decide +kernel)))
set_option maxRecDepth 20000 in
theorem gL_law_L_isSo : GoodIn wsL_law (va_wsS RL 64 yL_isSo wsL_isSo) := goodIn_app (goodIn_of _ (by decide +kernel)) ggL_law_L_isSo
set_option maxRecDepth 20000 in
theorem qL_law_X3_digest_h : GoodIn wsL_law [Cond.code yX3_digest cX3_digest 5 (some .long)] := goodIn_r _ [406] (by decide +kernel) (by decide +kernel)
set_option maxRecDepth 20000 in
theorem qL_law_X3_digest_r1 : GoodIn wsL_law wsX3_digest_r1 := goodIn_r _ [407, 408, 17, 136, 83, 107, 409, 189, 190, 2, 191, 192, 193, 95, 96, 97, 98, 99, 100, 101, 102, 112, 113, 114] (by decide +kernel) (by decide +kernel)
set_option maxRecDepth 20000 in
theorem qL_law_X3_digest_r2 : GoodIn wsL_law wsX3_digest_r2 := goodIn_r _ [16, 115, 29, 28, 116, 194, 195, 196, 197, 198, 199, 200, 201, 202, 203, 204, 205, 206, 207, 208, 32, 209, 55, 51] (by decide +kernel) (by decide +kernel)
set_option maxRecDepth 20000 in
theorem qL_law_X3_digest_r3 : GoodIn wsL_law wsX3_digest_r3 := goodIn_r _ [410, 247, 248, 249, 84, 85, 86, 87, 88, 89, 90, 91, 92, 93, 94, 250, 231, 232, 233, 234, 235, 236, 237, 238] (by decide +kernel) (by decide +kernel)
set_option maxRecDepth 20000 in
theorem qL_law_X3_digest_r4 : GoodIn wsL_law wsX3_digest_r4 := goodIn_r _ [239, 149, 150, 151, 152, 251, 252, 253, 25, 254, 47, 45, 46, 411, 127, 128, 129, 130, 131, 132, 133, 134, 135, 137] (by decide +kernel) (by decide +kernel)
set_option maxRecDepth 20000 in
theorem qL_law_X3_digest_r5 : GoodIn wsL_law wsX3_digest_r5 := goodIn_r _ [138, 139, 140, 44, 41, 141, 142, 143, 144, 145, 146, 147, 148, 56, 57, 54, 58, 60, 61, 153, 154, 155, 156, 62] (by decide +kernel) (by decide +kernel)
set_option maxRecDepth 20000 in
theorem qL_law_X3_digest_r6 : GoodIn wsL_law wsX3_digest_r6 := goodIn_r _ [63, 64, 65, 66, 67, 157, 158, 159, 160, 69, 68, 412, 378, 379, 380, 381, 326, 327, 328, 175, 26, 329, 177, 274] (by decide +kernel) (by decide +kernel)
set_option maxRecDepth 20000 in
theorem qL_law_X3_digest_r7 : GoodIn wsL_law wsX3_digest_r7 := goodIn_r _ [275, 6, 276, 382, 334, 335, 413, 372, 373, 374, 375, 376, 320, 321, 322, 178, 179, 323, 290, 5, 7, 324, 325, 169] (by decide +kernel) (by decide +kernel)
set_option maxRecDepth 20000 in
theorem qL_law_X3_digest_r8 : GoodIn wsL_law wsX3_digest_r8 := goodIn_r _ [330, 331, 332, 333, 37, 312, 414, 415, 416, 417, 418, 419, 420, 421, 286, 287, 288, 289, 291, 292, 293, 294, 174, 295] (by decide +kernel) (by decide +kernel)
set_option maxRecDepth 20000 in
theorem qL_law_X3_digest_r9 : GoodIn wsL_law wsX3_digest_r9 := goodIn_r _ [296, 297, 298, 299, 300, 301, 302, 303, 304, 305, 30, 306, 240, 241, 307, 308, 309, 310, 311, 422, 423, 424, 425, 426] (by decide +kernel) (by decide +kernel)
set_option maxRecDepth 20000 in
theorem qL_law_X3_digest_r10 : GoodIn wsL_law wsX3_digest_r10 := goodIn_r _ [18, 427, 428, 429, 430, 431, 432, 433, 434, 38, 40, 42, 43, 435, 436, 437, 438, 52, 53, 59, 270, 271, 272, 273] (by decide +kernel) (by decide +kernel)
set_option maxRecDepth 20000 in
theorem qL_law_X3_digest_r11 : GoodIn wsL_law wsX3_digest_r11 := goodIn_r _ [277, 278, 279, 280, 281, 282, 283, 284, 285, 184, 185, 186, 187, 313, 314, 315, 316, 317, 318, 176, 319, 336, 337, 338] (by decide +kernel) (by decide +kernel)
set_option maxRecDepth 20000 in
theorem qL_law_X3_digest_r12 : GoodIn wsL_law wsX3_digest_r12 := goodIn_r _ [339, 340, 341, 342, 343, 344, 345, 180, 181, 182, 183, 346, 347, 348, 349, 350, 351, 352, 353, 354, 355, 356, 357, 358] (by decide +kernel) (by decide +kernel)
set_option maxRecDepth 20000 in
theorem qL_law_X3_digest_r13 : GoodIn wsL_law wsX3_digest_r13 := goodIn_r _ [359, 360, 361, 362, 363, 364, 365, 439, 440, 441, 442, 443, 444, 445, 446, 211, 212, 213, 214, 215, 216, 447, 448, 449] (by decide +kernel) (by decide +kernel)
set_option maxRecDepth 20000 in
theorem qL_law_X3_digest_r14 : GoodIn wsL_law wsX3_digest_r14 := goodIn_r _ [450, 226, 227, 228, 229, 230] (by decide +kernel) (by decide +kernel)
set_option maxRecDepth 20000 in
theorem qL_law_X3_digest_wsX30 : GoodIn wsL_law wsX30 := goodIn_r _ [451, 452] (by decide +kernel) (by decide +kernel)
set_option maxRecDepth 20000 in
theorem qL_law_X3_digest_wsX00 : GoodIn wsL_law wsX00 := goodIn_r _ [453, 454, 455, 456] (by decide +kernel) (by decide +kernel)
set_option maxRecDepth 20000 in
theorem qL_law_X3_digest_wsX10 : GoodIn wsL_law wsX10 := goodIn_r _ [457, 458, 459, 460, 461, 462, 463, 464, 465, 466] (by decide +kernel) (by decide +kernel)
