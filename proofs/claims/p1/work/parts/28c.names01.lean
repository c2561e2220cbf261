theorem dL_may_14 : decode cL_may 14 = .ok (.ireturn, 1) := by decide +kernel
set_option maxRecDepth 20000 in
theorem ggL_why_X3_why : GoodIn wsL_why wsX3_why := goodIn_ca (goodIn_r _ [6, 7, 8, 9, 10, 11, 12, 5, 13, 14, 15, 16, 17, 18, 19, 20, 21, 22, 23, 24, 25, 26, 27, 28, 29, 30, 31, 32, 33, 34, 35, 36, 37, 38, 39, 40, 41, 42, 43, 44, 45, 46, 47, 48, 49, 50, 51, 52, 53, 54, 55, 56, 57, 58, 59, 60, 61, 62, 63, 64, 65, 66, 67, 68, 69, 70, 71, 72, 73, 74, 75, 76, 77, 78, 79, 80, 81, 82, 83, 84, 85, 86, 87, 88, 89, 90, 91, 92, 93, 94, 95, 96, 97, 98, 99, 100, 101, 102, 103, 104] (by decide +kernel) (by decide +kernel)) (goodIn_sub (fun _ h => List.mem_cons_of_mem _ (List.mem_append_right _ h)) (by decide +kernel))
set_option maxRecDepth 20000 in
theorem gL_why_X3_why : GoodIn wsL_why (wsV RL 52 RX3 yX3_why wsX3_why) := goodIn_app (goodIn_of _ (by decide +kernel)) ggL_why_X3_why
theorem dL_why_0 : decode cL_why 0 = .ok (.aload_n 2, 1) := by decide +kernel
theorem dL_why_1 : decode cL_why 1 = .ok (.iconst 0, 1) := by decide +kernel
theorem dL_why_2 : decode cL_why 2 = .ok (.aload_n 0, 1) := by decide +kernel
theorem dL_why_3 : decode cL_why 3 = .ok (.iload_n 1, 1) := by decide +kernel
theorem dL_why_4 : decode cL_why 4 = .ok (.invokevirtual 52, 3) := by decide +kernel
theorem dL_why_12 : decode cL_why 12 = .ok (.astore_n 3, 1) := by decide +kernel
theorem dL_why_13 : decode cL_why 13 = .ok (.iconst 1, 1) := by decide +kernel
theorem dL_why_14 : decode cL_why 14 = .ok (.ireturn, 1) := by decide +kernel
set_option maxRecDepth 20000 in
theorem ggL_ofStation_X3_ofStation : GoodIn wsL_ofStation wsX3_ofStation := goodIn_ca (goodIn_ca (goodIn_r _ [7, 8, 9, 10, 11, 12, 13, 14, 15, 6, 16, 17, 18, 19, 20, 21, 22, 23, 24, 25, 26, 27, 28, 29, 30, 31, 32, 33, 34, 35, 36, 37, 38, 39, 40, 41, 42] (by decide +kernel) (by decide +kernel)) (goodIn_sub (fun _ h => List.mem_cons_of_mem _ (List.mem_append_left _ (List.mem_append_right _ h))) (by decide +kernel))) (goodIn_sub (fun _ h => List.mem_cons_of_mem _ (List.mem_append_right _ h)) (by decide +kernel))
set_option maxRecDepth 20000 in
theorem gL_ofStation_X3_ofStation : GoodIn wsL_ofStation (wsV RL 55 RX3 yX3_ofStation wsX3_ofStation) := goodIn_app (goodIn_of _ (by decide +kernel)) ggL_ofStation_X3_ofStation
theorem dL_ofStation_0 : decode cL_ofStation 0 = .ok (.aload_n 3, 1) := by decide +kernel
theorem dL_ofStation_1 : decode cL_ofStation 1 = .ok (.iconst 0, 1) := by decide +kernel
theorem dL_ofStation_2 : decode cL_ofStation 2 = .ok (.aload_n 0, 1) := by decide +kernel
theorem dL_ofStation_3 : decode cL_ofStation 3 = .ok (.iload_n 1, 1) := by decide +kernel
theorem dL_ofStation_4 : decode cL_ofStation 4 = .ok (.iload_n 2, 1) := by decide +kernel
theorem dL_ofStation_5 : decode cL_ofStation 5 = .ok (.invokevirtual 55, 3) := by decide +kernel
theorem dL_ofStation_13 : decode cL_ofStation 13 = .ok (.astore 4, 2) := by decide +kernel
theorem dL_ofStation_15 : decode cL_ofStation 15 = .ok (.iconst 1, 1) := by decide +kernel
theorem dL_ofStation_16 : decode cL_ofStation 16 = .ok (.ireturn, 1) := by decide +kernel
set_option maxRecDepth 20000 in
theorem ggL_many_X3_many : GoodIn wsL_many wsX3_many := goodIn_ca (goodIn_r _ [6, 7, 8, 9, 10, 11, 12, 13, 14, 5, 15, 16, 17, 18, 19, 20, 21, 22, 23, 24, 25, 26, 27, 28, 29, 30, 31, 32, 33, 34, 35, 36, 37, 38, 39, 40, 41, 42, 43, 44, 45, 46, 47, 48, 49, 50, 51, 52, 53, 54, 55, 56, 57, 58, 59, 60, 61, 62, 63, 64, 65, 66, 67, 68, 69, 70, 71, 72, 73, 74, 75, 76, 77, 78, 79, 80, 81] (by decide +kernel) (by decide +kernel)) (goodIn_sub (fun _ h => List.mem_cons_of_mem _ (List.mem_append_right _ h)) (by decide +kernel))
set_option maxRecDepth 20000 in
theorem gL_many_X3_many : GoodIn wsL_many (wsV RL 58 RX3 yX3_many wsX3_many) := goodIn_app (goodIn_of _ (by decide +kernel)) ggL_many_X3_many
theorem dL_many_0 : decode cL_many 0 = .ok (.aload_n 2, 1) := by decide +kernel
theorem dL_many_1 : decode cL_many 1 = .ok (.iconst 0, 1) := by decide +kernel
theorem dL_many_2 : decode cL_many 2 = .ok (.aload_n 0, 1) := by decide +kernel
theorem dL_many_3 : decode cL_many 3 = .ok (.iload_n 1, 1) := by decide +kernel
theorem dL_many_4 : decode cL_many 4 = .ok (.invokevirtual 58, 3) := by decide +kernel
theorem dL_many_7 : decode cL_many 7 = .ok (.i2l, 1) := by decide +kernel
theorem dL_many_8 : decode cL_many 8 = .ok (.lastore, 1) := by decide +kernel
theorem dL_many_9 : decode cL_many 9 = .ok (.goto 6, 3) := by decide +kernel
theorem dL_many_12 : decode cL_many 12 = .ok (.astore_n 3, 1) := by decide +kernel
theorem dL_many_13 : decode cL_many 13 = .ok (.iconst 1, 1) := by decide +kernel
theorem dL_many_14 : decode cL_many 14 = .ok (.ireturn, 1) := by decide +kernel
theorem dL_many_15 : decode cL_many 15 = .ok (.iconst 0, 1) := by decide +kernel
theorem dL_many_16 : decode cL_many 16 = .ok (.ireturn, 1) := by decide +kernel
set_option maxRecDepth 20000 in
theorem ggL_reaches_X3_reaches : GoodIn wsL_reaches wsX3_reaches := goodIn_ca (goodIn_ca (goodIn_r _ [7, 8, 9, 10, 11, 12, 13, 14, 6, 15, 16, 17, 18, 19, 20, 21, 22, 23, 24, 25, 26, 27, 28, 29, 30, 31, 32, 33, 34, 35, 36, 37, 38, 39, 40, 41, 42, 43, 44, 45, 46, 47, 48, 49, 50, 51, 52, 53, 54, 55, 56, 57, 58, 59, 60, 61, 62, 63, 64, 65, 66, 67, 68, 69, 70, 71, 72, 73, 74, 75, 76, 77, 78, 79, 80, 81, 82, 83, 84, 85, 86, 87, 88, 89, 90, 91, 92, 93, 94, 95, 96, 97, 98, 99, 100, 101, 102, 103, 104, 105, 106, 107, 108, 109, 110, 111, 112, 113, 114, 115, 116, 117, 118, 119, 120, 121, 122, 123, 124, 125, 126, 127, 128, 129, 130, 131, 132, 133, 134, 135, 136, 137, 138, 139, 140, 141, 142, 143, 144, 145, 146, 147, 148, 149, 150, 151, 152, 153, 154, 155, 156, 157, 158, 159, 160, 161, 162, 163, 164, 165, 166, 167, 168, 169, 170, 171, 172, 173, 174, 175, 176, 177, 178, 179, 180, 181, 182, 183, 184, 185, 186, 187, 188, 189, 190, 191, 192, 193, 194, 195, 196, 197, 198, 199, 200, 201, 202, 203, 204, 205, 206, 207, 208, 209, 210, 211, 212, 213, 214, 215, 216, 217, 218, 219, 220, 221, 222, 223, 224, 225, 226, 227, 228, 229, 230, 231, 232, 233, 234, 235, 236, 237, 238, 239, 240, 241, 242, 243] (by decide +kernel) (by decide +kernel)) (goodIn_sub (fun _ h => List.mem_cons_of_mem _ (List.mem_append_left _ (List.mem_append_right _ h))) (by decide +kernel))) (goodIn_sub (fun _ h => List.mem_cons_of_mem _ (List.mem_append_right _ h)) (by decide +kernel))
set_option maxRecDepth 20000 in
theorem gL_reaches_X3_reaches : GoodIn wsL_reaches (wsV RL 61 RX3 yX3_reaches wsX3_reaches) := goodIn_app (goodIn_of _ (by decide +kernel)) ggL_reaches_X3_reaches
theorem dL_reaches_0 : decode cL_reaches 0 = .ok (.aload 4, 2) := by decide +kernel
theorem dL_reaches_2 : decode cL_reaches 2 = .ok (.iconst 0, 1) := by decide +kernel
theorem dL_reaches_3 : decode cL_reaches 3 = .ok (.aload_n 0, 1) := by decide +kernel
theorem dL_reaches_4 : decode cL_reaches 4 = .ok (.iload_n 1, 1) := by decide +kernel
theorem dL_reaches_5 : decode cL_reaches 5 = .ok (.iload_n 2, 1) := by decide +kernel
theorem dL_reaches_6 : decode cL_reaches 6 = .ok (.iload_n 3, 1) := by decide +kernel
theorem dL_reaches_7 : decode cL_reaches 7 = .ok (.invokevirtual 61, 3) := by decide +kernel
theorem dL_reaches_10 : decode cL_reaches 10 = .ok (.i2l, 1) := by decide +kernel
theorem dL_reaches_11 : decode cL_reaches 11 = .ok (.lastore, 1) := by decide +kernel
theorem dL_reaches_12 : decode cL_reaches 12 = .ok (.goto 11, 3) := by decide +kernel
theorem dL_reaches_23 : decode cL_reaches 23 = .ok (.iconst 0, 1) := by decide +kernel
theorem dL_reaches_24 : decode cL_reaches 24 = .ok (.ireturn, 1) := by decide +kernel
set_option maxRecDepth 20000 in
theorem ggL_closest_X3_closest : GoodIn wsL_closest wsX3_closest := goodIn_ca (goodIn_ca (goodIn_r _ [7, 8, 9, 10, 11, 12, 13, 14, 15, 16, 6, 17, 18, 19, 20, 21, 22, 23, 24, 25, 26, 27, 28, 29, 30, 31, 32, 33, 34, 35, 36, 37, 38, 39, 40, 41, 42, 43, 44, 45, 46, 47, 48, 49, 50, 51, 52, 53, 54, 55, 56, 57, 58, 59, 60, 61, 62, 63, 64, 65, 66, 67, 68, 69, 70, 71, 72, 73, 74, 75, 76, 77, 78, 79, 80, 81, 82, 83, 84, 85, 86, 87, 88, 89, 90, 91, 92, 93, 94, 95, 96, 97, 98, 99, 100, 101, 102, 103, 104, 105, 106, 107, 108, 109, 110, 111, 112, 113, 114, 115, 116, 117, 118, 119, 120, 121, 122, 123, 124, 125, 126, 127, 128, 129, 130, 131, 132, 133, 134, 135, 136, 137, 138, 139, 140, 141, 142, 143, 144, 145, 146, 147, 148, 149, 150, 151, 152, 153, 154, 155, 156, 157, 158, 159, 160, 161, 162, 163, 164, 165, 166, 167, 168, 169, 170, 171, 172, 173, 174, 175, 176, 177, 178, 179, 180, 181, 182, 183, 184, 185, 186, 187, 188, 189, 190, 191, 192, 193, 194, 195, 196, 197, 198, 199, 200, 201, 202, 203, 204, 205, 206, 207, 208, 209, 210, 211, 212, 213, 214, 215, 216, 217, 218, 219, 220, 221, 222, 223, 224, 225, 226, 227, 228, 229, 230, 231, 232, 233, 234, 235, 236, 237, 238, 239, 240, 241, 242, 243, 244, 245, 246, 247, 248, 249, 250, 251] (by decide +kernel) (by decide +kernel)) (goodIn_sub (fun _ h => List.mem_cons_of_mem _ (List.mem_append_left _ (List.mem_append_right _ h))) (by decide +kernel))) (goodIn_sub (fun _ h => List.mem_cons_of_mem _ (List.mem_append_right _ h)) (by decide +kernel))
set_option maxRecDepth 20000 in
theorem gL_closest_X3_closest : GoodIn wsL_closest (wsV RL 65 RX3 yX3_closest wsX3_closest) := goodIn_app (goodIn_of _ (by decide +kernel)) ggL_closest_X3_closest
theorem dL_closest_0 : decode cL_closest 0 = .ok (.aload_n 3, 1) := by decide +kernel
theorem dL_closest_1 : decode cL_closest 1 = .ok (.iconst 0, 1) := by decide +kernel
theorem dL_closest_2 : decode cL_closest 2 = .ok (.aload_n 0, 1) := by decide +kernel
theorem dL_closest_3 : decode cL_closest 3 = .ok (.iload_n 1, 1) := by decide +kernel
theorem dL_closest_4 : decode cL_closest 4 = .ok (.iload_n 2, 1) := by decide +kernel
theorem dL_closest_5 : decode cL_closest 5 = .ok (.invokevirtual 65, 3) := by decide +kernel
theorem dL_closest_13 : decode cL_closest 13 = .ok (.astore 4, 2) := by decide +kernel
theorem dL_closest_15 : decode cL_closest 15 = .ok (.iconst 1, 1) := by decide +kernel
theorem dL_closest_16 : decode cL_closest 16 = .ok (.ireturn, 1) := by decide +kernel
set_option maxRecDepth 20000 in
theorem ggL_lost_X3_lost : GoodIn wsL_lost wsX3_lost := goodIn_ca (goodIn_ca (goodIn_r _ [7, 8, 9, 10, 11, 12, 13, 14, 6, 15, 16, 17, 18, 19, 20, 21, 22, 23, 24, 25, 26, 27, 28, 29, 30, 31, 32, 33, 34, 35, 36, 37, 38, 39, 40, 41, 42, 43, 44, 45, 46, 47, 48, 49, 50, 51, 52, 53, 54, 55, 56, 57, 58, 59, 60, 61, 62, 63, 64, 65, 66, 67, 68, 69, 70, 71, 72, 73, 74, 75, 76, 77, 78, 79, 80, 81, 82, 83, 84, 85, 86, 87, 88, 89, 90, 91, 92, 93, 94, 95, 96, 97, 98, 99, 100, 101, 102, 103, 104, 105, 106, 107, 108, 109, 110, 111, 112, 113, 114, 115, 116, 117, 118, 119, 120, 121, 122, 123, 124, 125, 126, 127, 128, 129, 130, 131, 132, 133, 134, 135, 136, 137, 138, 139, 140, 141, 142, 143, 144, 145, 146, 147, 148, 149, 150, 151, 152, 153, 154, 155, 156, 157, 158, 159, 160, 161, 162, 163, 164, 165, 166, 167, 168, 169, 170, 171, 172, 173, 174, 175, 176, 177, 178, 179, 180, 181, 182, 183, 184, 185, 186, 187, 188, 189, 190, 191, 192, 193, 194, 195, 196, 197, 198, 199, 200, 201, 202, 203, 204, 205, 206, 207, 208, 209, 210, 211, 212, 213, 214, 215, 216, 217, 218, 219, 220, 221, 222, 223, 224, 225, 226, 227, 228, 229, 230, 231, 232, 233, 234, 235, 236, 237, 238, 239, 240, 241, 242, 243, 244, 245, 246, 247, 248, 249, 250, 251, 252] (by decide +kernel) (by decide +kernel)) (goodIn_sub (fun _ h => List.mem_cons_of_mem _ (List.mem_append_left _ (List.mem_append_right _ h))) (by decide +kernel))) (goodIn_sub (fun _ h => List.mem_cons_of_mem _ (List.mem_append_right _ h)) (by decide +kernel))
set_option maxRecDepth 20000 in
theorem gL_lost_X3_lost : GoodIn wsL_lost (wsV RL 68 RX3 yX3_lost wsX3_lost) := goodIn_app (goodIn_of _ (by decide +kernel)) ggL_lost_X3_lost
theorem dL_lost_0 : decode cL_lost 0 = .ok (.aload 5, 2) := by decide +kernel
theorem dL_lost_2 : decode cL_lost 2 = .ok (.iconst 0, 1) := by decide +kernel
theorem dL_lost_3 : decode cL_lost 3 = .ok (.aload_n 0, 1) := by decide +kernel
theorem dL_lost_4 : decode cL_lost 4 = .ok (.iload_n 1, 1) := by decide +kernel
theorem dL_lost_5 : decode cL_lost 5 = .ok (.iload_n 2, 1) := by decide +kernel
theorem dL_lost_6 : decode cL_lost 6 = .ok (.iload_n 3, 1) := by decide +kernel
theorem dL_lost_7 : decode cL_lost 7 = .ok (.iload 4, 2) := by decide +kernel
theorem dL_lost_9 : decode cL_lost 9 = .ok (.invokevirtual 68, 3) := by decide +kernel
theorem dL_lost_17 : decode cL_lost 17 = .ok (.astore 6, 2) := by decide +kernel
theorem dL_lost_19 : decode cL_lost 19 = .ok (.iconst 1, 1) := by decide +kernel
theorem dL_lost_20 : decode cL_lost 20 = .ok (.ireturn, 1) := by decide +kernel
set_option maxRecDepth 20000 in
theorem ggL_worksIn_X3_worksIn : GoodIn wsL_worksIn wsX3_worksIn := goodIn_ca (goodIn_ca (goodIn_r _ [7, 8, 9, 10, 11, 6, 12, 13, 14, 15, 16, 17, 18, 19, 20, 21, 22, 23, 24, 25, 26, 27, 28, 29, 30, 31, 32, 33, 34, 35, 36, 37, 38, 39, 40, 41, 42, 43, 44, 45, 46, 47, 48, 49, 50, 51, 52, 53, 54, 55, 56, 57, 58, 59, 60, 61, 62, 63, 64, 65, 66, 67, 68, 69, 70, 71, 72, 73, 74, 75, 76, 77, 78, 79, 80, 81, 82, 83, 84, 85, 86, 87, 88, 89, 90, 91, 92, 93, 94, 95, 96, 97, 98, 99, 100, 101, 102, 103, 104, 105, 106, 107, 108, 109, 110, 111, 112, 113, 114, 115, 116, 117, 118, 119, 120, 121, 122, 123, 124, 125, 126, 127, 128, 129, 130, 131, 132, 133, 134, 135, 136, 137, 138, 139, 140, 141, 142, 143, 144, 145, 146, 147, 148, 149, 150, 151, 152, 153, 154, 155, 156, 157, 158, 159, 160, 161, 162, 163, 164, 165, 166, 167, 168, 169, 170, 171, 172, 173, 174, 175, 176, 177, 178, 179, 180, 181, 182, 183, 184, 185, 186, 187, 188, 189, 190, 191, 192, 193, 194, 195, 196, 197, 198, 199, 200, 201, 202, 203, 204, 205, 206, 207, 208, 209, 210, 211, 212, 213, 214, 215, 216, 217, 218, 219, 220, 221, 222, 223, 224, 225, 226, 227, 228, 229, 230, 231, 232, 233, 234, 235, 236, 237, 238, 239, 240, 241, 242, 243, 244, 245, 246, 247, 248, 249, 250, 251] (by decide +kernel) (by decide +kernel)) (goodIn_sub (fun _ h => List.mem_cons_of_mem _ (List.mem_append_left _ (List.mem_append_right _ h))) (by decide +kernel))) (goodIn_sub (fun _ h => List.mem_cons_of_mem _ (List.mem_append_right _ h)) (by decide +kernel))
set_option maxRecDepth 20000 in
theorem gL_worksIn_X3_worksIn : GoodIn wsL_worksIn (wsV RL 72 RX3 yX3_worksIn wsX3_worksIn) := goodIn_app (goodIn_of _ (by decide +kernel)) ggL_worksIn_X3_worksIn
theorem dL_worksIn_0 : decode cL_worksIn 0 = .ok (.aload 4, 2) := by decide +kernel
theorem dL_worksIn_2 : decode cL_worksIn 2 = .ok (.iconst 0, 1) := by decide +kernel
theorem dL_worksIn_3 : decode cL_worksIn 3 = .ok (.aload_n 0, 1) := by decide +kernel
theorem dL_worksIn_4 : decode cL_worksIn 4 = .ok (.iload_n 1, 1) := by decide +kernel
theorem dL_worksIn_5 : decode cL_worksIn 5 = .ok (.iload_n 2, 1) := by decide +kernel
theorem dL_worksIn_6 : decode cL_worksIn 6 = .ok (.iload_n 3, 1) := by decide +kernel
theorem dL_worksIn_7 : decode cL_worksIn 7 = .ok (.invokevirtual 72, 3) := by decide +kernel
theorem dL_worksIn_10 : decode cL_worksIn 10 = .ok (.i2l, 1) := by decide +kernel
theorem dL_worksIn_11 : decode cL_worksIn 11 = .ok (.lastore, 1) := by decide +kernel
theorem dL_worksIn_12 : decode cL_worksIn 12 = .ok (.goto 11, 3) := by decide +kernel
theorem dL_worksIn_23 : decode cL_worksIn 23 = .ok (.iconst 0, 1) := by decide +kernel
theorem dL_worksIn_24 : decode cL_worksIn 24 = .ok (.ireturn, 1) := by decide +kernel
set_option maxRecDepth 20000 in
theorem ggL_law_X3_init : GoodIn wsL_law wsX3_init := goodIn_r _ [9, 10, 11, 12, 13, 14, 15, 16, 17, 18, 19, 20, 21, 22, 23, 24, 25, 26, 27, 28, 29, 30, 31, 32, 33, 34, 35, 36, 37, 38, 39, 40, 41, 42, 43, 44, 45, 46, 47, 48, 49, 50, 51, 52, 53, 54, 55, 56, 57, 58, 59, 60, 61, 62, 63, 64, 65, 66, 67, 68, 69, 894, 895, 896, 897, 889, 890, 898, 899, 900, 901, 902, 903, 904, 905, 906, 907, 908, 909, 910, 911, 912, 913, 914, 915, 916, 917, 918, 919, 920, 921, 922, 923, 924, 925] (by decide +kernel) (by decide +kernel)
set_option maxRecDepth 20000 in
theorem gL_law_X3_init : GoodIn wsL_law (wsX3_init) := ggL_law_X3_init
set_option maxRecDepth 20000 in
theorem ggL_law_X5_init : GoodIn wsL_law wsX5_init := goodIn_r _ [72, 73, 11, 12, 74, 75, 76, 77, 78, 79, 80, 81, 82, 36, 83, 84, 85, 86, 87, 88, 89, 90, 91, 92, 93, 94, 95, 96, 97, 98, 99, 100, 101, 102, 103, 104, 926, 927, 928, 929, 930, 931, 932, 891, 892, 893, 933, 934, 935] (by decide +kernel) (by decide +kernel)
set_option maxRecDepth 20000 in
theorem gL_law_X5_init : GoodIn wsL_law (wsX5_init) := ggL_law_X5_init
set_option maxRecDepth 20000 in
theorem ggL_law_L_section : GoodIn wsL_law wsL_section := goodIn_ca (goodIn_ca (goodIn_r _ [108, 109, 110, 111, 112, 113, 2, 114, 16, 115, 116, 117, 118, 119, 120, 121, 122, 123, 124, 125, 126, 127, 128, 129, 130, 131, 132, 133, 134, 889, 890, 894, 895, 896, 897, 898, 899, 900, 901, 902, 903, 904, 905, 906, 907] (by decide +kernel) (by decide +kernel)) (goodIn_sub (fun _ h => List.mem_append_left _ (List.mem_append_left _ (List.mem_append_right _ h))) (by decide +kernel))) (goodIn_sub (fun _ h => List.mem_append_left _ (List.mem_append_right _ h)) (by decide +kernel))
set_option maxRecDepth 20000 in
theorem gL_law_L_section : GoodIn wsL_law (va_wsS RL 79 yL_section wsL_section) := goodIn_app (goodIn_of _ (by decide +kernel)) ggL_law_L_section
set_option maxRecDepth 20000 in
theorem ggL_law_X5_section : GoodIn wsL_law wsX5_section := goodIn_r _ [138, 139, 77, 140, 141, 5, 142, 143, 144, 145, 146, 147, 148, 149, 150, 151, 152, 891, 892, 893, 926, 927, 928, 929, 930, 931, 932] (by decide +kernel) (by decide +kernel)
set_option maxRecDepth 20000 in
theorem gL_law_X5_section : GoodIn wsL_law (wsV RL 84 RX5 yX5_section wsX5_section) := goodIn_app (goodIn_of _ (by decide +kernel)) ggL_law_X5_section
set_option maxRecDepth 20000 in
theorem ggL_law_X5_thrown : GoodIn wsL_law wsX5_thrown := goodIn_r _ [156, 139, 891, 892, 893] (by decide +kernel) (by decide +kernel)
set_option maxRecDepth 20000 in
theorem gL_law_X5_thrown : GoodIn wsL_law (wsV RL 85 RX5 yX5_thrown wsX5_thrown) := goodIn_app (goodIn_of _ (by decide +kernel)) ggL_law_X5_thrown
set_option maxRecDepth 20000 in
theorem ggL_law_L_station : GoodIn wsL_law wsL_station := goodIn_ca (goodIn_ca (goodIn_r _ [159, 110, 160, 161, 162, 163, 2, 164, 16, 115, 165, 127, 128, 129, 166, 167, 168, 24, 169, 44, 41, 130, 131, 132, 133, 134, 170, 171, 172, 15, 173, 28, 27, 174, 175, 176, 177, 178, 179, 180, 181, 182, 183, 42, 43, 889, 890, 894, 895, 896, 897, 898, 899, 900, 901, 902, 903, 904, 905, 906, 907, 908, 909, 910, 911, 912, 913, 914, 915, 916, 917, 918, 919, 920, 921, 922, 923, 924, 925] (by decide +kernel) (by decide +kernel)) (goodIn_sub (fun _ h => List.mem_append_left _ (List.mem_append_right _ h)) (by decide +kernel))) (goodIn_sub (fun _ h => List.mem_append_right _ h) (by decide +kernel))
set_option maxRecDepth 20000 in
theorem gL_law_L_station : GoodIn wsL_law (va_wsS RL 89 yL_station wsL_station) := goodIn_app (goodIn_of _ (by decide +kernel)) ggL_law_L_station
set_option maxRecDepth 20000 in
theorem ggL_law_X5_station : GoodIn wsL_law wsX5_station := goodIn_r _ [187, 139, 77, 143, 144, 5, 145, 146, 147, 148, 149, 188, 189, 190, 191, 192, 193, 194, 76, 195, 85, 891, 892, 893, 926, 927, 928, 929, 930, 931, 932] (by decide +kernel) (by decide +kernel)
set_option maxRecDepth 20000 in
theorem gL_law_X5_station : GoodIn wsL_law (wsV RL 92 RX5 yX5_station wsX5_station) := goodIn_app (goodIn_of _ (by decide +kernel)) ggL_law_X5_station
set_option maxRecDepth 20000 in
theorem ggL_law_L_train : GoodIn wsL_law wsL_train := goodIn_ca (goodIn_ca (goodIn_r _ [198, 110, 160, 199, 200, 201, 2, 202, 16, 203, 127, 128, 129, 130, 131, 132, 133, 134, 204, 205, 206, 15, 207, 28, 27, 174, 208, 209, 210, 31, 211, 55, 51, 175, 176, 177, 178, 179, 212, 213, 214, 215, 216, 217, 218, 219, 220, 25, 221, 29, 222, 223, 224, 24, 225, 44, 41, 226, 227, 228, 229, 62, 54, 63, 64, 230, 889, 890, 894, 895, 896, 897, 908, 909, 910, 911, 912, 913, 914, 915, 916, 917, 918, 919, 920, 921, 922, 923, 924, 925, 898, 899, 900, 901, 902, 903, 904, 905, 906, 907] (by decide +kernel) (by decide +kernel)) (goodIn_sub (fun _ h => List.mem_append_left _ (List.mem_append_right _ h)) (by decide +kernel))) (goodIn_sub (fun _ h => List.mem_append_right _ h) (by decide +kernel))
set_option maxRecDepth 20000 in
theorem gL_law_L_train : GoodIn wsL_law (va_wsS RL 93 yL_train wsL_train) := goodIn_app (goodIn_of _ (by decide +kernel)) ggL_law_L_train
set_option maxRecDepth 20000 in
theorem ggL_law_X5_train : GoodIn wsL_law wsX5_train := goodIn_r _ [234, 139, 77, 143, 144, 5, 145, 146, 147, 148, 149, 192, 193, 194, 76, 195, 85, 235, 236, 237, 238, 239, 240, 241, 242, 891, 892, 893, 926, 927, 928, 929, 930, 931, 932] (by decide +kernel) (by decide +kernel)
set_option maxRecDepth 20000 in
theorem gL_law_X5_train : GoodIn wsL_law (wsV RL 95 RX5 yX5_train wsX5_train) := goodIn_app (goodIn_of _ (by decide +kernel)) ggL_law_X5_train
set_option maxRecDepth 20000 in
theorem ggL_law_L_whole : GoodIn wsL_law wsL_whole := goodIn_ca (goodIn_r _ [245, 109, 246, 247, 248, 2, 249, 16, 250, 251, 252, 253, 254, 255, 203, 122, 123, 124, 125, 126, 889, 890, 894, 895, 896, 897, 908, 909, 910, 911, 912, 913, 914, 915, 916, 917, 918, 919, 920, 921, 922, 923, 924, 925] (by decide +kernel) (by decide +kernel)) (goodIn_sub (fun _ h => List.mem_append_left _ (List.mem_append_left _ (List.mem_append_right _ h))) (by decide +kernel))
set_option maxRecDepth 20000 in
theorem gL_law_L_whole : GoodIn wsL_law (va_wsS RL 96 yL_whole wsL_whole) := goodIn_app (goodIn_of _ (by decide +kernel)) ggL_law_L_whole
set_option maxRecDepth 20000 in
theorem ggL_law_X5_whole : GoodIn wsL_law wsX5_whole := goodIn_r _ [259, 139, 77, 260, 261, 262, 5, 263, 143, 144, 145, 891, 892, 893, 926, 927, 928, 929, 930, 931, 932] (by decide +kernel) (by decide +kernel)
set_option maxRecDepth 20000 in
theorem gL_law_X5_whole : GoodIn wsL_law (wsV RL 99 RX5 yX5_whole wsX5_whole) := goodIn_app (goodIn_of _ (by decide +kernel)) ggL_law_X5_whole
set_option maxRecDepth 20000 in
theorem ggL_law_L_works : GoodIn wsL_law wsL_works := goodIn_ca (goodIn_ca (goodIn_ca (goodIn_r _ [266, 109, 110, 160, 267, 268, 269, 2, 270, 16, 115, 271, 119, 120, 121, 122, 123, 124, 125, 126, 130, 131, 132, 133, 134, 175, 176, 177, 178, 179, 272, 273, 274, 15, 275, 28, 27, 174, 219, 220, 276, 277, 278, 279, 280, 281, 282, 31, 283, 55, 284, 285, 230, 209, 210, 211, 51, 286, 287, 288, 289, 290, 24, 291, 45, 47, 46, 889, 890, 894, 895, 896, 897, 898, 899, 900, 901, 902, 903, 904, 905, 906, 907, 908, 909, 910, 911, 912, 913, 914, 915, 916, 917, 918, 919, 920, 921, 922, 923, 924, 925] (by decide +kernel) (by decide +kernel)) (goodIn_sub (fun _ h => List.mem_append_left _ (List.mem_append_left _ (List.mem_append_right _ h))) (by decide +kernel))) (goodIn_sub (fun _ h => List.mem_append_left _ (List.mem_append_right _ h)) (by decide +kernel))) (goodIn_sub (fun _ h => List.mem_append_right _ h) (by decide +kernel))
set_option maxRecDepth 20000 in
theorem gL_law_L_works : GoodIn wsL_law (va_wsS RL 100 yL_works wsL_works) := goodIn_app (goodIn_of _ (by decide +kernel)) ggL_law_L_works
set_option maxRecDepth 20000 in
theorem ggL_law_X5_works : GoodIn wsL_law wsX5_works := goodIn_r _ [295, 139, 77, 36, 140, 141, 5, 142, 143, 144, 145, 146, 147, 148, 149, 296, 297, 298, 88, 299, 300, 301, 302, 303, 76, 304, 305, 85, 306, 307, 308, 309, 310, 193, 194, 195, 236, 237, 311, 312, 313, 314, 315, 316, 317, 318, 319, 320, 321, 322, 94, 323, 324, 325, 326, 327, 328, 329, 330, 331, 332, 333, 334, 93, 335, 336, 337, 338, 339, 340, 341, 342, 343, 344, 345, 346, 347, 348, 349, 350, 351, 352, 353, 354, 355, 356, 357, 358, 359, 360, 361, 362, 363, 364, 365, 891, 892, 893, 926, 927, 928, 929, 930, 931, 932, 933, 934, 935] (by decide +kernel) (by decide +kernel)
set_option maxRecDepth 20000 in
theorem gL_law_X5_works : GoodIn wsL_law (wsV RL 102 RX5 yX5_works wsX5_works) := goodIn_app (goodIn_of _ (by decide +kernel)) ggL_law_X5_works
set_option maxRecDepth 20000 in
theorem ggL_law_L_end : GoodIn wsL_law wsL_end := goodIn_ca (goodIn_r _ [368, 109, 369, 370, 371, 2, 372, 16, 115, 271, 122, 123, 124, 125, 126, 373, 374, 375, 24, 376, 47, 45, 46, 889, 890, 894, 895, 896, 897, 898, 899, 900, 901, 902, 903, 904, 905, 906, 907] (by decide +kernel) (by decide +kernel)) (goodIn_sub (fun _ h => List.mem_append_left _ (List.mem_append_left _ (List.mem_append_right _ h))) (by decide +kernel))
set_option maxRecDepth 20000 in
theorem gL_law_L_end : GoodIn wsL_law (va_wsS RL 103 yL_end wsL_end) := goodIn_app (goodIn_of _ (by decide +kernel)) ggL_law_L_end
set_option maxRecDepth 20000 in
theorem ggL_law_X5_end : GoodIn wsL_law wsX5_end := goodIn_r _ [380, 139, 77, 296, 297, 298, 88, 299, 300, 143, 144, 5, 145, 146, 147, 148, 149, 381, 382, 383, 384, 94, 385, 386, 387, 388, 389, 390, 391, 392, 393, 394, 395, 396, 321, 322, 397, 363, 364, 365, 891, 892, 893, 926, 927, 928, 929, 930, 931, 932, 933, 934, 935] (by decide +kernel) (by decide +kernel)
set_option maxRecDepth 20000 in
theorem gL_law_X5_end : GoodIn wsL_law (wsV RL 106 RX5 yX5_end wsX5_end) := goodIn_app (goodIn_of _ (by decide +kernel)) ggL_law_X5_end
set_option maxRecDepth 20000 in
theorem ggL_law_L_pass : GoodIn wsL_law wsL_pass := goodIn_ca (goodIn_r _ [400, 110, 401, 402, 403, 2, 404, 16, 127, 128, 129, 130, 131, 132, 133, 134, 405, 406, 407, 15, 408, 29, 28, 27, 174, 219, 409, 336, 315, 337, 220, 410, 411, 412, 413, 414, 415, 416, 417, 418, 25, 419, 284, 285, 226, 227, 228, 31, 229, 55, 62, 54, 63, 64, 230, 209, 210, 211, 51, 420, 421, 422, 423, 424, 314, 316, 425, 426, 427, 428, 216, 429, 430, 431, 432, 433, 434, 435, 436, 437, 438, 439, 440, 441, 442, 443, 286, 287, 444, 445, 446, 24, 447, 448, 47, 45, 449, 450, 451, 452, 453, 454, 455, 218, 456, 457, 458, 459, 460, 221, 461, 462, 463, 464, 465, 44, 41, 466, 467, 468, 469, 217, 470, 208, 471, 472, 473, 474, 37, 475, 476, 477, 478, 479, 480, 481, 482, 483, 484, 485, 486, 487, 222, 223, 224, 225, 488, 489, 490, 491, 492, 493, 494, 495, 496, 497, 498, 499, 500, 501, 502, 503, 504, 61, 56, 505, 506, 507, 508, 889, 890, 894, 895, 896, 897, 908, 909, 910, 911, 912, 913, 914, 915, 916, 917, 918, 919, 920, 921, 922, 923, 924, 925, 898, 899, 900, 901, 902, 903, 904, 905, 906, 907] (by decide +kernel) (by decide +kernel)) (goodIn_sub (fun _ h => List.mem_append_left _ (List.mem_append_right _ h)) (by decide +kernel))
set_option maxRecDepth 20000 in
theorem gL_law_L_pass : GoodIn wsL_law (va_wsS RL 107 yL_pass wsL_pass) := goodIn_app (goodIn_of _ (by decide +kernel)) ggL_law_L_pass
set_option maxRecDepth 20000 in
theorem ggL_law_X5_pass : GoodIn wsL_law wsX5_pass := goodIn_r _ [512, 139, 77, 143, 144, 5, 145, 146, 147, 148, 149, 513, 514, 515, 76, 516, 305, 85, 517, 518, 519, 520, 521, 522, 523, 524, 242, 310, 193, 194, 195, 525, 526, 527, 528, 83, 311, 312, 313, 314, 315, 316, 529, 239, 240, 241, 236, 237, 530, 531, 532, 533, 534, 535, 536, 537, 538, 89, 539, 540, 541, 542, 543, 88, 544, 545, 546, 547, 548, 549, 550, 551, 552, 11, 12, 553, 554, 322, 555, 556, 557, 558, 559, 560, 561, 562, 563, 564, 565, 566, 567, 568, 569, 570, 571, 572, 573, 574, 575, 576, 577, 578, 336, 337, 84, 579, 580, 581, 582, 583, 584, 585, 586, 587, 588, 589, 590, 591, 592, 593, 594, 595, 596, 597, 598, 599, 891, 892, 893, 926, 927, 928, 929, 930, 931, 932, 936, 937, 938, 939, 933, 934, 935] (by decide +kernel) (by decide +kernel)
set_option maxRecDepth 20000 in
theorem gL_law_X5_pass : GoodIn wsL_law (wsV RL 109 RX5 yX5_pass wsX5_pass) := goodIn_app (goodIn_of _ (by decide +kernel)) ggL_law_X5_pass
set_option maxRecDepth 20000 in
theorem ggL_law_L_ofSection : GoodIn wsL_law wsL_ofSection := goodIn_ca (goodIn_ca (goodIn_r _ [602, 109, 110, 603, 604, 605, 2, 606, 16, 115, 116, 117, 118, 119, 120, 121, 122, 123, 124, 125, 126, 127, 128, 129, 130, 131, 132, 133, 134, 607, 277, 278, 15, 279, 28, 27, 174, 280, 281, 282, 31, 283, 55, 284, 285, 230, 209, 210, 211, 51, 608, 609, 610, 24, 611, 47, 45, 46, 889, 890, 894, 895, 896, 897, 898, 899, 900, 901, 902, 903, 904, 905, 906, 907, 908, 909, 910, 911, 912, 913, 914, 915, 916, 917, 918, 919, 920, 921, 922, 923, 924, 925] (by decide +kernel) (by decide +kernel)) (goodIn_sub (fun _ h => List.mem_append_left _ (List.mem_append_left _ (List.mem_append_right _ h))) (by decide +kernel))) (goodIn_sub (fun _ h => List.mem_append_left _ (List.mem_append_right _ h)) (by decide +kernel))
set_option maxRecDepth 20000 in
theorem gL_law_L_ofSection : GoodIn wsL_law (va_wsS RL 110 yL_ofSection wsL_ofSection) := goodIn_app (goodIn_of _ (by decide +kernel)) ggL_law_L_ofSection
set_option maxRecDepth 20000 in
theorem ggL_law_X5_ofSection : GoodIn wsL_law wsX5_ofSection := goodIn_r _ [615, 139, 140, 141, 5, 142, 143, 144, 145, 146, 147, 148, 149, 616, 617, 618, 619, 77, 620, 621, 307, 308, 76, 309, 85, 310, 193, 194, 195, 236, 237, 311, 312, 313, 314, 315, 316, 622, 542, 543, 88, 544, 545, 546, 547, 548, 549, 550, 551, 552, 11, 12, 553, 554, 322, 555, 623, 557, 558, 559, 560, 624, 562, 563, 564, 565, 566, 567, 568, 569, 891, 892, 893, 926, 927, 928, 929, 930, 931, 932, 936, 937, 938, 939, 933, 934, 935] (by decide +kernel) (by decide +kernel)
set_option maxRecDepth 20000 in
theorem gL_law_X5_ofSection : GoodIn wsL_law (wsV RL 112 RX5 yX5_ofSection wsX5_ofSection) := goodIn_app (goodIn_of _ (by decide +kernel)) ggL_law_X5_ofSection
set_option maxRecDepth 20000 in
theorem ggL_law_L_ofTrain : GoodIn wsL_law wsL_ofTrain := goodIn_ca (goodIn_ca (goodIn_r _ [627, 109, 110, 628, 629, 630, 2, 631, 16, 115, 250, 632, 252, 253, 254, 255, 203, 122, 123, 124, 125, 126, 127, 128, 129, 130, 131, 132, 133, 134, 633, 463, 464, 24, 465, 44, 41, 634, 436, 437, 15, 438, 27, 174, 635, 636, 637, 31, 638, 55, 56, 57, 54, 58, 60, 61, 230, 209, 210, 211, 51, 639, 640, 641, 642, 62, 63, 64, 65, 66, 67, 643, 644, 645, 646, 69, 68, 889, 890, 894, 895, 896, 897, 908, 909, 910, 911, 912, 913, 914, 915, 916, 917, 918, 919, 920, 921, 922, 923, 924, 925, 898, 899, 900, 901, 902, 903, 904, 905, 906, 907] (by decide +kernel) (by decide +kernel)) (goodIn_sub (fun _ h => List.mem_append_left _ (List.mem_append_left _ (List.mem_append_right _ h))) (by decide +kernel))) (goodIn_sub (fun _ h => List.mem_append_left _ (List.mem_append_right _ h)) (by decide +kernel))
set_option maxRecDepth 20000 in
theorem gL_law_L_ofTrain : GoodIn wsL_law (va_wsS RL 113 yL_ofTrain wsL_ofTrain) := goodIn_app (goodIn_of _ (by decide +kernel)) ggL_law_L_ofTrain
set_option maxRecDepth 20000 in
theorem ggL_law_X5_ofTrain : GoodIn wsL_law wsX5_ofTrain := goodIn_r _ [650, 139, 260, 261, 262, 5, 263, 77, 143, 144, 145, 146, 147, 148, 149, 651, 652, 653, 654, 36, 235, 236, 237, 655, 585, 586, 76, 587, 579, 84, 656, 571, 572, 573, 310, 193, 194, 195, 85, 891, 892, 893, 926, 927, 928, 929, 930, 931, 932] (by decide +kernel) (by decide +kernel)
set_option maxRecDepth 20000 in
theorem gL_law_X5_ofTrain : GoodIn wsL_law (wsV RL 115 RX5 yX5_ofTrain wsX5_ofTrain) := goodIn_app (goodIn_of _ (by decide +kernel)) ggL_law_X5_ofTrain
set_option maxRecDepth 20000 in
theorem ggL_law_L_stops : GoodIn wsL_law wsL_stops := goodIn_ca (goodIn_ca (goodIn_r _ [659, 109, 110, 660, 661, 662, 2, 663, 16, 250, 252, 253, 254, 255, 203, 122, 123, 124, 125, 126, 127, 128, 129, 130, 131, 132, 133, 134, 664, 467, 468, 15, 469, 217, 25, 470, 219, 409, 336, 315, 337, 284, 285, 665, 475, 476, 889, 890, 894, 895, 896, 897, 908, 909, 910, 911, 912, 913, 914, 915, 916, 917, 918, 919, 920, 921, 922, 923, 924, 925, 898, 899, 900, 901, 902, 903, 904, 905, 906, 907] (by decide +kernel) (by decide +kernel)) (goodIn_sub (fun _ h => List.mem_append_left _ (List.mem_append_left _ (List.mem_append_right _ h))) (by decide +kernel))) (goodIn_sub (fun _ h => List.mem_append_left _ (List.mem_append_right _ h)) (by decide +kernel))
set_option maxRecDepth 20000 in
theorem gL_law_L_stops : GoodIn wsL_law (va_wsS RL 116 yL_stops wsL_stops) := goodIn_app (goodIn_of _ (by decide +kernel)) ggL_law_L_stops
set_option maxRecDepth 20000 in
theorem ggL_law_X5_stops : GoodIn wsL_law wsX5_stops := goodIn_r _ [669, 139, 77, 260, 261, 262, 5, 263, 143, 144, 145, 146, 147, 148, 149, 670, 589, 590, 76, 591, 578, 336, 315, 337, 592, 593, 594, 595, 83, 311, 312, 313, 314, 316, 891, 892, 893, 926, 927, 928, 929, 930, 931, 932] (by decide +kernel) (by decide +kernel)
set_option maxRecDepth 20000 in
theorem gL_law_X5_stops : GoodIn wsL_law (wsV RL 118 RX5 yX5_stops wsX5_stops) := goodIn_app (goodIn_of _ (by decide +kernel)) ggL_law_X5_stops
set_option maxRecDepth 20000 in
theorem ggL_law_L_may : GoodIn wsL_law wsL_may := goodIn_ca (goodIn_r _ [673, 109, 674, 675, 676, 2, 677, 16, 250, 678, 252, 253, 254, 255, 203, 122, 123, 124, 125, 126, 679, 458, 459, 15, 460, 220, 219, 25, 221, 461, 424, 314, 315, 316, 462, 463, 464, 24, 465, 44, 41, 466, 467, 468, 469, 217, 470, 409, 336, 337, 284, 285, 208, 209, 210, 31, 211, 55, 51, 471, 472, 473, 474, 37, 449, 475, 476, 889, 890, 894, 895, 896, 897, 908, 909, 910, 911, 912, 913, 914, 915, 916, 917, 918, 919, 920, 921, 922, 923, 924, 925, 898, 899, 900, 901, 902, 903, 904, 905, 906, 907] (by decide +kernel) (by decide +kernel)) (goodIn_sub (fun _ h => List.mem_append_left _ (List.mem_append_left _ (List.mem_append_right _ h))) (by decide +kernel))
set_option maxRecDepth 20000 in
theorem gL_law_L_may : GoodIn wsL_law (va_wsS RL 119 yL_may wsL_may) := goodIn_app (goodIn_of _ (by decide +kernel)) ggL_law_L_may
set_option maxRecDepth 20000 in
theorem ggL_law_X5_may : GoodIn wsL_law wsX5_may := goodIn_r _ [683, 139, 260, 261, 262, 5, 263, 77, 143, 144, 145, 684, 685, 686, 687, 192, 193, 194, 76, 195, 85, 688, 581, 582, 583, 83, 540, 314, 315, 316, 84, 236, 237, 311, 312, 313, 584, 585, 586, 587, 579, 588, 589, 590, 591, 578, 336, 337, 592, 593, 594, 595, 146, 147, 148, 149, 891, 892, 893, 926, 927, 928, 929, 930, 931, 932] (by decide +kernel) (by decide +kernel)
set_option maxRecDepth 20000 in
theorem gL_law_X5_may : GoodIn wsL_law (wsV RL 121 RX5 yX5_may wsX5_may) := goodIn_app (goodIn_of _ (by decide +kernel)) ggL_law_X5_may
set_option maxRecDepth 20000 in
theorem ggL_law_L_why : GoodIn wsL_law wsL_why := goodIn_ca (goodIn_r _ [691, 109, 692, 693, 694, 2, 695, 16, 250, 678, 252, 253, 254, 255, 203, 122, 123, 124, 125, 126, 696, 697, 698, 15, 699, 27, 219, 420, 421, 422, 423, 424, 314, 315, 316, 25, 425, 426, 427, 428, 216, 429, 430, 431, 432, 433, 434, 435, 436, 437, 438, 174, 439, 440, 441, 442, 29, 443, 284, 285, 286, 287, 444, 445, 446, 24, 447, 448, 47, 45, 449, 889, 890, 894, 895, 896, 897, 908, 909, 910, 911, 912, 913, 914, 915, 916, 917, 918, 919, 920, 921, 922, 923, 924, 925, 898, 899, 900, 901, 902, 903, 904, 905, 906, 907] (by decide +kernel) (by decide +kernel)) (goodIn_sub (fun _ h => List.mem_append_left _ (List.mem_append_left _ (List.mem_append_right _ h))) (by decide +kernel))
set_option maxRecDepth 20000 in
theorem gL_law_L_why : GoodIn wsL_law (va_wsS RL 122 yL_why wsL_why) := goodIn_app (goodIn_of _ (by decide +kernel)) ggL_law_L_why
set_option maxRecDepth 20000 in
theorem ggL_law_X5_why : GoodIn wsL_law wsX5_why := goodIn_r _ [703, 139, 260, 261, 262, 5, 263, 77, 143, 144, 145, 704, 705, 706, 707, 192, 193, 194, 76, 195, 85, 708, 531, 532, 533, 534, 535, 536, 537, 538, 89, 539, 540, 314, 315, 316, 242, 541, 542, 543, 88, 544, 545, 546, 547, 548, 549, 550, 551, 552, 11, 12, 553, 554, 322, 555, 556, 557, 558, 559, 560, 561, 562, 563, 564, 565, 566, 567, 568, 569, 570, 571, 572, 573, 310, 311, 312, 313, 146, 147, 148, 149, 891, 892, 893, 926, 927, 928, 929, 930, 931, 932, 936, 937, 938, 939, 933, 934, 935] (by decide +kernel) (by decide +kernel)
set_option maxRecDepth 20000 in
theorem gL_law_X5_why : GoodIn wsL_law (wsV RL 124 RX5 yX5_why wsX5_why) := goodIn_app (goodIn_of _ (by decide +kernel)) ggL_law_X5_why
set_option maxRecDepth 20000 in
theorem ggL_law_L_ofStation : GoodIn wsL_law wsL_ofStation := goodIn_ca (goodIn_ca (goodIn_r _ [711, 109, 110, 712, 713, 714, 2, 715, 16, 115, 165, 716, 717, 718, 122, 123, 124, 125, 126, 127, 128, 129, 130, 131, 132, 133, 134, 889, 890, 894, 895, 896, 897, 898, 899, 900, 901, 902, 903, 904, 905, 906, 907] (by decide +kernel) (by decide +kernel)) (goodIn_sub (fun _ h => List.mem_append_left _ (List.mem_append_left _ (List.mem_append_right _ h))) (by decide +kernel))) (goodIn_sub (fun _ h => List.mem_append_left _ (List.mem_append_right _ h)) (by decide +kernel))
set_option maxRecDepth 20000 in
theorem gL_law_L_ofStation : GoodIn wsL_law (va_wsS RL 125 yL_ofStation wsL_ofStation) := goodIn_app (goodIn_of _ (by decide +kernel)) ggL_law_L_ofStation
set_option maxRecDepth 20000 in
theorem ggL_law_X5_ofStation : GoodIn wsL_law wsX5_ofStation := goodIn_r _ [722, 139, 77, 723, 724, 725, 5, 726, 143, 144, 145, 146, 147, 148, 149, 891, 892, 893, 926, 927, 928, 929, 930, 931, 932] (by decide +kernel) (by decide +kernel)
set_option maxRecDepth 20000 in
theorem gL_law_X5_ofStation : GoodIn wsL_law (wsV RL 127 RX5 yX5_ofStation wsX5_ofStation) := goodIn_app (goodIn_of _ (by decide +kernel)) ggL_law_X5_ofStation
set_option maxRecDepth 20000 in
theorem ggL_law_L_many : GoodIn wsL_law wsL_many := goodIn_ca (goodIn_r _ [729, 110, 730, 731, 732, 2, 733, 16, 734, 203, 115, 165, 271, 127, 128, 129, 130, 131, 132, 133, 134, 170, 171, 172, 15, 173, 28, 27, 174, 735, 736, 737, 738, 410, 739, 740, 741, 742, 456, 499, 487, 743, 744, 745, 31, 746, 55, 51, 889, 890, 894, 895, 896, 897, 898, 899, 900, 901, 902, 903, 904, 905, 906, 907, 908, 909, 910, 911, 912, 913, 914, 915, 916, 917, 918, 919, 920, 921, 922, 923, 924, 925] (by decide +kernel) (by decide +kernel)) (goodIn_sub (fun _ h => List.mem_append_left _ (List.mem_append_right _ h)) (by decide +kernel))
set_option maxRecDepth 20000 in
theorem gL_law_L_many : GoodIn wsL_law (va_wsS RL 128 yL_many wsL_many) := goodIn_app (goodIn_of _ (by decide +kernel)) ggL_law_L_many
set_option maxRecDepth 20000 in
theorem ggL_law_X5_many : GoodIn wsL_law wsX5_many := goodIn_r _ [750, 139, 143, 144, 5, 145, 751, 752, 753, 754, 36, 77, 513, 514, 515, 76, 516, 305, 85, 296, 297, 298, 88, 299, 300, 146, 147, 148, 149, 891, 892, 893, 926, 927, 928, 929, 930, 931, 932, 933, 934, 935] (by decide +kernel) (by decide +kernel)
set_option maxRecDepth 20000 in
theorem gL_law_X5_many : GoodIn wsL_law (wsV RL 130 RX5 yX5_many wsX5_many) := goodIn_app (goodIn_of _ (by decide +kernel)) ggL_law_X5_many
set_option maxRecDepth 20000 in
theorem ggL_law_X3_meanSpeed : GoodIn wsL_law wsX3_meanSpeed := goodIn_r _ [758, 16, 170, 171, 172, 15, 173, 28, 27, 174, 759, 760, 761, 762, 455, 889, 890, 894, 895, 896, 897, 908, 909, 910, 911, 912, 913, 914, 915, 916, 917, 918, 919, 920, 921, 922, 923, 924, 925] (by decide +kernel) (by decide +kernel)
set_option maxRecDepth 20000 in
theorem gL_law_X3_meanSpeed : GoodIn wsL_law (wsV RL 131 RX3 yX3_meanSpeed wsX3_meanSpeed) := goodIn_app (goodIn_of _ (by decide +kernel)) ggL_law_X3_meanSpeed
set_option maxRecDepth 20000 in
theorem ggL_law_X5_meanSpeed : GoodIn wsL_law wsX5_meanSpeed := goodIn_r _ [766, 139, 77, 513, 514, 515, 76, 516, 305, 85, 891, 892, 893, 926, 927, 928, 929, 930, 931, 932] (by decide +kernel) (by decide +kernel)
set_option maxRecDepth 20000 in
theorem gL_law_X5_meanSpeed : GoodIn wsL_law (wsV RL 135 RX5 yX5_meanSpeed wsX5_meanSpeed) := goodIn_app (goodIn_of _ (by decide +kernel)) ggL_law_X5_meanSpeed
set_option maxRecDepth 20000 in
theorem ggL_law_L_reaches : GoodIn wsL_law wsL_reaches := goodIn_ca (goodIn_ca (goodIn_r _ [769, 109, 110, 770, 771, 772, 2, 773, 16, 250, 774, 17, 252, 253, 254, 255, 203, 122, 123, 124, 125, 126, 127, 128, 129, 130, 131, 132, 133, 134, 775, 776, 777, 15, 778, 25, 27, 28, 29, 779, 780, 781, 24, 782, 37, 38, 40, 41, 42, 43, 44, 45, 46, 47, 783, 784, 785, 31, 786, 51, 52, 53, 54, 55, 56, 57, 58, 59, 60, 61, 62, 63, 64, 65, 66, 67, 69, 405, 406, 407, 408, 174, 219, 409, 336, 315, 337, 220, 410, 411, 412, 413, 414, 415, 416, 417, 418, 419, 284, 285, 226, 227, 228, 229, 230, 209, 210, 211, 420, 421, 422, 423, 424, 314, 316, 425, 426, 427, 428, 216, 429, 430, 431, 432, 433, 434, 435, 436, 437, 438, 439, 440, 441, 442, 443, 286, 287, 444, 445, 446, 447, 448, 449, 450, 451, 452, 453, 454, 455, 218, 456, 457, 458, 459, 460, 221, 461, 462, 463, 464, 465, 466, 467, 468, 469, 217, 470, 208, 471, 472, 473, 474, 475, 476, 477, 478, 479, 480, 481, 482, 483, 484, 485, 486, 487, 222, 223, 224, 225, 488, 489, 490, 491, 492, 493, 494, 495, 496, 497, 498, 499, 500, 501, 502, 503, 504, 505, 506, 507, 508, 889, 890, 894, 895, 896, 897, 908, 909, 910, 911, 912, 913, 914, 915, 916, 917, 918, 919, 920, 921, 922, 923, 924, 925, 898, 899, 900, 901, 902, 903, 904, 905, 906, 907] (by decide +kernel) (by decide +kernel)) (goodIn_sub (fun _ h => List.mem_append_left _ (List.mem_append_left _ (List.mem_append_right _ h))) (by decide +kernel))) (goodIn_sub (fun _ h => List.mem_append_left _ (List.mem_append_right _ h)) (by decide +kernel))
set_option maxRecDepth 20000 in
theorem gL_law_L_reaches : GoodIn wsL_law (va_wsS RL 136 yL_reaches wsL_reaches) := goodIn_app (goodIn_of _ (by decide +kernel)) ggL_law_L_reaches
set_option maxRecDepth 20000 in
theorem ggL_law_X5_reaches : GoodIn wsL_law wsX5_reaches := goodIn_r _ [790, 139, 260, 261, 262, 5, 263, 77, 143, 144, 145, 146, 147, 148, 149, 791, 792, 793, 794, 795, 796, 797, 76, 798, 799, 75, 83, 84, 85, 579, 305, 89, 242, 800, 79, 80, 81, 11, 12, 82, 36, 86, 87, 88, 90, 91, 92, 93, 94, 95, 96, 97, 98, 99, 100, 101, 102, 103, 104, 801, 802, 803, 804, 363, 364, 365, 805, 806, 807, 808, 321, 322, 300, 397, 809, 810, 811, 812, 348, 349, 350, 351, 352, 353, 354, 355, 356, 357, 358, 359, 360, 361, 314, 315, 316, 362, 331, 332, 333, 334, 335, 336, 337, 338, 339, 340, 341, 342, 343, 344, 345, 346, 347, 813, 522, 523, 524, 310, 193, 194, 195, 525, 526, 527, 528, 311, 312, 313, 529, 239, 240, 241, 236, 237, 530, 531, 532, 533, 534, 535, 536, 537, 538, 539, 540, 541, 542, 543, 544, 545, 546, 547, 548, 549, 550, 551, 552, 553, 554, 555, 556, 557, 558, 559, 560, 561, 562, 563, 564, 565, 566, 567, 568, 569, 570, 571, 572, 573, 574, 575, 576, 577, 578, 580, 581, 582, 583, 584, 585, 586, 587, 588, 589, 590, 591, 592, 593, 594, 595, 596, 597, 598, 599, 891, 892, 893, 926, 927, 928, 929, 930, 931, 932, 933, 934, 935, 936, 937, 938, 939] (by decide +kernel) (by decide +kernel)
set_option maxRecDepth 20000 in
theorem gL_law_X5_reaches : GoodIn wsL_law (wsV RL 139 RX5 yX5_reaches wsX5_reaches) := goodIn_app (goodIn_of _ (by decide +kernel)) ggL_law_X5_reaches
set_option maxRecDepth 20000 in
theorem ggL_law_L_closest : GoodIn wsL_law wsL_closest := goodIn_ca (goodIn_ca (goodIn_r _ [816, 109, 110, 817, 818, 819, 2, 820, 16, 250, 678, 17, 821, 822, 252, 253, 254, 255, 203, 122, 123, 124, 125, 126, 127, 128, 129, 130, 131, 132, 133, 134, 634, 436, 437, 15, 438, 27, 174, 775, 776, 777, 778, 25, 28, 29, 779, 780, 781, 24, 782, 37, 38, 40, 41, 42, 43, 44, 45, 46, 47, 783, 784, 785, 31, 786, 51, 52, 53, 54, 55, 56, 57, 58, 59, 60, 61, 62, 63, 64, 65, 66, 67, 69, 405, 406, 407, 408, 219, 409, 336, 315, 337, 220, 410, 411, 412, 413, 414, 415, 416, 417, 418, 419, 284, 285, 226, 227, 228, 229, 230, 209, 210, 211, 420, 421, 422, 423, 424, 314, 316, 425, 426, 427, 428, 216, 429, 430, 431, 432, 433, 434, 435, 439, 440, 441, 442, 443, 286, 287, 444, 445, 446, 447, 448, 449, 450, 451, 452, 453, 454, 455, 218, 456, 457, 458, 459, 460, 221, 461, 462, 463, 464, 465, 466, 467, 468, 469, 217, 470, 208, 471, 472, 473, 474, 475, 476, 477, 478, 479, 480, 481, 482, 483, 484, 485, 486, 487, 222, 223, 224, 225, 488, 489, 490, 491, 492, 493, 494, 495, 496, 497, 498, 499, 500, 501, 502, 503, 504, 505, 506, 507, 508, 823, 644, 645, 646, 68, 889, 890, 894, 895, 896, 897, 908, 909, 910, 911, 912, 913, 914, 915, 916, 917, 918, 919, 920, 921, 922, 923, 924, 925, 898, 899, 900, 901, 902, 903, 904, 905, 906, 907] (by decide +kernel) (by decide +kernel)) (goodIn_sub (fun _ h => List.mem_append_left _ (List.mem_append_left _ (List.mem_append_right _ h))) (by decide +kernel))) (goodIn_sub (fun _ h => List.mem_append_left _ (List.mem_append_right _ h)) (by decide +kernel))
