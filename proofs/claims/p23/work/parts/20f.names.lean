set_option maxRecDepth 20000 in
theorem qL_isSecond_X3_pass_wsX10 : GoodIn wsL_isSecond wsX10 := goodIn_r _ [279, 280, 281, 282, 283, 284, 285, 286, 287, 288] (by decide +kernel) (by decide +kernel)
theorem ggL_isSecond_X3_pass : GoodIn wsL_isSecond wsX3_pass := q_cons qL_isSecond_X3_pass_h (goodIn_app (goodIn_app (goodIn_app (goodIn_app (goodIn_app (goodIn_app qL_isSecond_X3_pass_r1 (goodIn_app qL_isSecond_X3_pass_r2 (goodIn_app qL_isSecond_X3_pass_r3 (goodIn_app qL_isSecond_X3_pass_r4 (goodIn_app qL_isSecond_X3_pass_r5 (goodIn_app qL_isSecond_X3_pass_r6 qL_isSecond_X3_pass_r7)))))) qL_isSecond_X3_pass_wsX30) qL_isSecond_X3_pass_wsX00) qL_isSecond_X3_pass_wsX20) qL_isSecond_X3_pass_wsX10) (goodIn_sub (fun _ h => List.mem_cons_of_mem _ (List.mem_append_right _ h)) (by decide +kernel)))
set_option maxRecDepth 20000 in
theorem gL_isSecond_X3_pass : GoodIn wsL_isSecond (wsV RL 72 RX3 yX3_pass wsX3_pass) := goodIn_app (goodIn_of _ (by decide +kernel)) ggL_isSecond_X3_pass
set_option maxRecDepth 20000 in
theorem ggL_isSo_X3_ofTrain : GoodIn wsL_isSo wsX3_ofTrain := goodIn_ca (goodIn_ca (goodIn_r _ [11, 12, 13, 14, 15, 16, 17, 18, 10, 19, 20, 21, 22, 23, 24, 25, 26, 27, 28, 29, 30, 31, 32, 33, 34, 35, 36, 37, 38, 39, 40, 41, 42, 43, 44, 45, 46, 47, 48, 49, 50, 51, 52, 53, 54, 55, 56, 57, 58, 59, 60, 61, 62, 63, 64, 65, 66, 67, 68, 69, 70, 71, 72, 73, 74, 75, 76, 77, 78, 79, 80, 204, 205, 206, 207, 208, 209, 210, 211, 212, 213, 214, 215, 216, 217, 218, 219, 220, 221, 222, 223, 224, 225, 226, 227, 228, 229, 230, 231, 232, 233, 234, 235, 236, 237] (by decide +kernel) (by decide +kernel)) (goodIn_sub (fun _ h => List.mem_cons_of_mem _ (List.mem_append_left _ (List.mem_append_right _ h))) (by decide +kernel))) (goodIn_sub (fun _ h => List.mem_cons_of_mem _ (List.mem_append_right _ h)) (by decide +kernel))
set_option maxRecDepth 20000 in
theorem gL_isSo_X3_ofTrain : GoodIn wsL_isSo (wsV RL 29 RX3 yX3_ofTrain wsX3_ofTrain) := goodIn_app (goodIn_of _ (by decide +kernel)) ggL_isSo_X3_ofTrain
set_option maxRecDepth 20000 in
theorem ggL_isSo_X3_may : GoodIn wsL_isSo wsX3_may := goodIn_ca (goodIn_r _ [84, 12, 14, 85, 16, 17, 18, 10, 19, 20, 21, 22, 23, 24, 25, 86, 87, 88, 44, 89, 90, 91, 92, 93, 94, 95, 96, 4, 97, 98, 35, 36, 37, 38, 39, 40, 99, 100, 101, 102, 103, 104, 105, 3, 5, 106, 107, 108, 61, 62, 51, 63, 53, 64, 109, 110, 111, 112, 113, 114, 115, 116, 204, 205, 206, 207, 208, 209, 210, 211, 212, 213, 214, 215, 216, 217, 218, 219, 220, 221, 222, 223, 224, 225, 226, 227, 228, 229, 230, 231, 232, 233, 234, 235, 236, 237] (by decide +kernel) (by decide +kernel)) (goodIn_sub (fun _ h => List.mem_cons_of_mem _ (List.mem_append_left _ (List.mem_append_right _ h))) (by decide +kernel))
set_option maxRecDepth 20000 in
theorem gL_isSo_X3_may : GoodIn wsL_isSo (wsV RL 75 RX3 yX3_may wsX3_may) := goodIn_app (goodIn_of _ (by decide +kernel)) ggL_isSo_X3_may
set_option maxRecDepth 20000 in
theorem ggL_isSo_X3_stops : GoodIn wsL_isSo wsX3_stops := goodIn_ca (goodIn_ca (goodIn_r _ [120, 12, 14, 16, 17, 18, 10, 19, 20, 21, 22, 23, 24, 25, 26, 27, 28, 29, 30, 31, 32, 33, 121, 100, 101, 44, 102, 103, 92, 104, 91, 105, 3, 4, 5, 106, 107, 122, 115, 116, 204, 205, 206, 207, 208, 209, 210, 211, 212, 213, 214, 215, 216, 217, 218, 219, 220, 221, 222, 223, 224, 225, 226, 227, 228, 229, 230, 231, 232, 233, 234, 235, 236, 237] (by decide +kernel) (by decide +kernel)) (goodIn_sub (fun _ h => List.mem_cons_of_mem _ (List.mem_append_left _ (List.mem_append_right _ h))) (by decide +kernel))) (goodIn_sub (fun _ h => List.mem_cons_of_mem _ (List.mem_append_right _ h)) (by decide +kernel))
set_option maxRecDepth 20000 in
theorem gL_isSo_X3_stops : GoodIn wsL_isSo (wsV RL 78 RX3 yX3_stops wsX3_stops) := goodIn_app (goodIn_of _ (by decide +kernel)) ggL_isSo_X3_stops
set_option maxRecDepth 20000 in
theorem ggL_isSo_X3_ofStation : GoodIn wsL_isSo wsX3_ofStation := goodIn_ca (goodIn_ca (goodIn_r _ [126, 12, 13, 127, 128, 129, 130, 21, 22, 10, 23, 24, 25, 26, 27, 28, 29, 30, 31, 32, 33, 204, 205, 206, 207, 208, 209, 228, 229, 230, 231, 232, 233, 234, 235, 236, 237] (by decide +kernel) (by decide +kernel)) (goodIn_sub (fun _ h => List.mem_cons_of_mem _ (List.mem_append_left _ (List.mem_append_right _ h))) (by decide +kernel))) (goodIn_sub (fun _ h => List.mem_cons_of_mem _ (List.mem_append_right _ h)) (by decide +kernel))
set_option maxRecDepth 20000 in
theorem gL_isSo_X3_ofStation : GoodIn wsL_isSo (wsV RL 39 RX3 yX3_ofStation wsX3_ofStation) := goodIn_app (goodIn_of _ (by decide +kernel)) ggL_isSo_X3_ofStation
set_option maxRecDepth 20000 in
theorem ggL_isSo_X3_ofSection : GoodIn wsL_isSo wsX3_ofSection := goodIn_ca (goodIn_ca (goodIn_r _ [134, 12, 13, 135, 136, 137, 138, 139, 10, 140, 21, 22, 23, 24, 25, 26, 27, 28, 29, 30, 31, 32, 33, 141, 142, 143, 44, 144, 145, 46, 47, 146, 147, 148, 51, 149, 53, 106, 107, 60, 61, 62, 63, 64, 150, 151, 152, 37, 153, 154, 155, 156, 204, 205, 206, 207, 208, 209, 228, 229, 230, 231, 232, 233, 234, 235, 236, 237, 210, 211, 212, 213, 214, 215, 216, 217, 218, 219, 220, 221, 222, 223, 224, 225, 226, 227] (by decide +kernel) (by decide +kernel)) (goodIn_sub (fun _ h => List.mem_cons_of_mem _ (List.mem_append_left _ (List.mem_append_right _ h))) (by decide +kernel))) (goodIn_sub (fun _ h => List.mem_cons_of_mem _ (List.mem_append_right _ h)) (by decide +kernel))
set_option maxRecDepth 20000 in
theorem gL_isSo_X3_ofSection : GoodIn wsL_isSo (wsV RL 54 RX3 yX3_ofSection wsX3_ofSection) := goodIn_app (goodIn_of _ (by decide +kernel)) ggL_isSo_X3_ofSection
set_option maxRecDepth 20000 in
theorem ggL_isSo_X3_many : GoodIn wsL_isSo wsX3_many := goodIn_ca (goodIn_r _ [160, 12, 161, 20, 13, 127, 162, 26, 27, 10, 28, 29, 30, 31, 32, 33, 163, 164, 165, 44, 166, 145, 46, 47, 167, 168, 169, 170, 171, 172, 173, 174, 175, 176, 177, 178, 179, 180, 181, 51, 182, 53, 64, 204, 205, 206, 207, 208, 209, 228, 229, 230, 231, 232, 233, 234, 235, 236, 237, 210, 211, 212, 213, 214, 215, 216, 217, 218, 219, 220, 221, 222, 223, 224, 225, 226, 227] (by decide +kernel) (by decide +kernel)) (goodIn_sub (fun _ h => List.mem_cons_of_mem _ (List.mem_append_right _ h)) (by decide +kernel))
set_option maxRecDepth 20000 in
theorem gL_isSo_X3_many : GoodIn wsL_isSo (wsV RL 35 RX3 yX3_many wsX3_many) := goodIn_app (goodIn_of _ (by decide +kernel)) ggL_isSo_X3_many
set_option maxRecDepth 20000 in
theorem ggL_isSo_X3_meanSpeed : GoodIn wsL_isSo wsX3_meanSpeed := goodIn_r _ [186, 12, 163, 164, 165, 44, 166, 145, 46, 47, 187, 188, 189, 190, 191, 204, 205, 206, 207, 208, 209, 210, 211, 212, 213, 214, 215, 216, 217, 218, 219, 220, 221, 222, 223, 224, 225, 226, 227] (by decide +kernel) (by decide +kernel)
set_option maxRecDepth 20000 in
theorem gL_isSo_X3_meanSpeed : GoodIn wsL_isSo (wsV RL 84 RX3 yX3_meanSpeed wsX3_meanSpeed) := goodIn_app (goodIn_of _ (by decide +kernel)) ggL_isSo_X3_meanSpeed
set_option maxRecDepth 20000 in
theorem ggL_isSo_J9_abs_294c1 : GoodIn wsL_isSo wsJ9_abs_294c1 := goodIn_r _ [195, 196, 197, 198, 199, 200, 201, 202, 203] (by decide +kernel) (by decide +kernel)
set_option maxRecDepth 20000 in
theorem gL_isSo_J9_abs_294c1 : GoodIn wsL_isSo (va_wsS RL 88 yJ9_abs_294c1 wsJ9_abs_294c1) := goodIn_app (goodIn_of _ (by decide +kernel)) ggL_isSo_J9_abs_294c1
