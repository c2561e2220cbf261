set_option maxRecDepth 20000 in
theorem ggL_section_X3_section : GoodIn wsL_section wsX3_section := goodIn_ca (goodIn_ca (goodIn_r _ [7, 8, 9, 10, 11, 12, 13, 14, 6, 15, 16, 17, 18, 19, 20, 21, 22, 23, 24, 25, 26, 27, 28, 29, 30, 31, 32, 33, 34, 35, 36, 37, 38, 39, 40, 41, 42, 43, 44] (by decide +kernel) (by decide +kernel)) (goodIn_sub (fun _ h => List.mem_cons_of_mem _ (List.mem_append_left _ (List.mem_append_right _ h))) (by decide +kernel))) (goodIn_sub (fun _ h => List.mem_cons_of_mem _ (List.mem_append_right _ h)) (by decide +kernel))
set_option maxRecDepth 20000 in
theorem gL_section_X3_section : GoodIn wsL_section (wsV RL 7 RX3 yX3_section wsX3_section) := goodIn_app (goodIn_of _ (by decide +kernel)) ggL_section_X3_section
theorem dL_section_0 : decode cL_section 0 = .ok (.aload 5, 2) := by decide +kernel
theorem dL_section_2 : decode cL_section 2 = .ok (.iconst 0, 1) := by decide +kernel
theorem dL_section_3 : decode cL_section 3 = .ok (.aload_n 0, 1) := by decide +kernel
theorem dL_section_4 : decode cL_section 4 = .ok (.iload_n 1, 1) := by decide +kernel
theorem dL_section_5 : decode cL_section 5 = .ok (.iload_n 2, 1) := by decide +kernel
theorem dL_section_6 : decode cL_section 6 = .ok (.iload_n 3, 1) := by decide +kernel
theorem dL_section_7 : decode cL_section 7 = .ok (.iload 4, 2) := by decide +kernel
theorem dL_section_9 : decode cL_section 9 = .ok (.invokevirtual 7, 3) := by decide +kernel
theorem dL_section_12 : decode cL_section 12 = .ok (.i2l, 1) := by decide +kernel
theorem dL_section_13 : decode cL_section 13 = .ok (.lastore, 1) := by decide +kernel
theorem dL_section_14 : decode cL_section 14 = .ok (.goto 11, 3) := by decide +kernel
theorem dL_section_17 : decode cL_section 17 = .ok (.astore 6, 2) := by decide +kernel
theorem dL_section_19 : decode cL_section 19 = .ok (.iconst 1, 1) := by decide +kernel
theorem dL_section_20 : decode cL_section 20 = .ok (.ireturn, 1) := by decide +kernel
theorem dL_section_21 : decode cL_section 21 = .ok (.astore 6, 2) := by decide +kernel
theorem dL_section_23 : decode cL_section 23 = .ok (.iconst 2, 1) := by decide +kernel
theorem dL_section_24 : decode cL_section 24 = .ok (.ireturn, 1) := by decide +kernel
theorem dL_section_25 : decode cL_section 25 = .ok (.iconst 0, 1) := by decide +kernel
theorem dL_section_26 : decode cL_section 26 = .ok (.ireturn, 1) := by decide +kernel
set_option maxRecDepth 20000 in
theorem ggL_station_X3_station : GoodIn wsL_station wsX3_station := goodIn_ca (goodIn_ca (goodIn_r _ [7, 8, 9, 10, 11, 12, 6, 13, 14, 15, 16, 17, 18, 19, 20, 21, 22, 23, 24, 25, 26, 27, 28, 29, 30, 31, 32, 33, 34, 35, 36, 37, 38, 39, 40, 41, 42, 43, 44, 45, 46, 47, 48, 49, 50, 51, 52, 53, 54, 55, 56, 57, 58, 59, 60, 61, 62, 63, 64, 65, 66, 67, 68, 69, 70, 71, 72, 73, 74, 75, 76, 77, 78] (by decide +kernel) (by decide +kernel)) (goodIn_sub (fun _ h => List.mem_cons_of_mem _ (List.mem_append_left _ (List.mem_append_right _ h))) (by decide +kernel))) (goodIn_sub (fun _ h => List.mem_cons_of_mem _ (List.mem_append_right _ h)) (by decide +kernel))
set_option maxRecDepth 20000 in
theorem gL_station_X3_station : GoodIn wsL_station (wsV RL 17 RX3 yX3_station wsX3_station) := goodIn_app (goodIn_of _ (by decide +kernel)) ggL_station_X3_station
theorem dL_station_0 : decode cL_station 0 = .ok (.aload_n 3, 1) := by decide +kernel
theorem dL_station_1 : decode cL_station 1 = .ok (.iconst 0, 1) := by decide +kernel
theorem dL_station_2 : decode cL_station 2 = .ok (.aload_n 0, 1) := by decide +kernel
theorem dL_station_3 : decode cL_station 3 = .ok (.iload_n 1, 1) := by decide +kernel
theorem dL_station_4 : decode cL_station 4 = .ok (.iload_n 2, 1) := by decide +kernel
theorem dL_station_5 : decode cL_station 5 = .ok (.invokevirtual 17, 3) := by decide +kernel
theorem dL_station_8 : decode cL_station 8 = .ok (.i2l, 1) := by decide +kernel
theorem dL_station_9 : decode cL_station 9 = .ok (.lastore, 1) := by decide +kernel
theorem dL_station_10 : decode cL_station 10 = .ok (.goto 11, 3) := by decide +kernel
theorem dL_station_13 : decode cL_station 13 = .ok (.astore 4, 2) := by decide +kernel
theorem dL_station_15 : decode cL_station 15 = .ok (.iconst 1, 1) := by decide +kernel
theorem dL_station_16 : decode cL_station 16 = .ok (.ireturn, 1) := by decide +kernel
theorem dL_station_21 : decode cL_station 21 = .ok (.iconst 0, 1) := by decide +kernel
theorem dL_station_22 : decode cL_station 22 = .ok (.ireturn, 1) := by decide +kernel
set_option maxRecDepth 20000 in
theorem ggL_train_X3_train : GoodIn wsL_train wsX3_train := goodIn_ca (goodIn_ca (goodIn_r _ [7, 8, 9, 10, 11, 6, 12, 13, 14, 15, 16, 17, 18, 19, 20, 21, 22, 23, 24, 25, 26, 27, 28, 29, 30, 31, 32, 33, 34, 35, 36, 37, 38, 39, 40, 41, 42, 43, 44, 45, 46, 47, 48, 49, 50, 51, 52, 53, 54, 55, 56, 57, 58, 59, 60, 61, 62, 63, 64, 65, 66, 67, 68, 69, 70, 71, 72, 73, 74, 75, 76, 77, 78, 79, 80, 81, 82, 83, 84, 85, 86, 87, 88, 89, 90, 91, 92, 93, 94, 95, 96, 97, 98, 99] (by decide +kernel) (by decide +kernel)) (goodIn_sub (fun _ h => List.mem_cons_of_mem _ (List.mem_append_left _ (List.mem_append_right _ h))) (by decide +kernel))) (goodIn_sub (fun _ h => List.mem_cons_of_mem _ (List.mem_append_right _ h)) (by decide +kernel))
set_option maxRecDepth 20000 in
theorem gL_train_X3_train : GoodIn wsL_train (wsV RL 23 RX3 yX3_train wsX3_train) := goodIn_app (goodIn_of _ (by decide +kernel)) ggL_train_X3_train
theorem dL_train_0 : decode cL_train 0 = .ok (.aload 5, 2) := by decide +kernel
theorem dL_train_2 : decode cL_train 2 = .ok (.iconst 0, 1) := by decide +kernel
theorem dL_train_3 : decode cL_train 3 = .ok (.aload_n 0, 1) := by decide +kernel
theorem dL_train_4 : decode cL_train 4 = .ok (.iload_n 1, 1) := by decide +kernel
theorem dL_train_5 : decode cL_train 5 = .ok (.iload_n 2, 1) := by decide +kernel
theorem dL_train_6 : decode cL_train 6 = .ok (.iload_n 3, 1) := by decide +kernel
theorem dL_train_7 : decode cL_train 7 = .ok (.iload 4, 2) := by decide +kernel
theorem dL_train_9 : decode cL_train 9 = .ok (.invokevirtual 23, 3) := by decide +kernel
theorem dL_train_12 : decode cL_train 12 = .ok (.i2l, 1) := by decide +kernel
theorem dL_train_13 : decode cL_train 13 = .ok (.lastore, 1) := by decide +kernel
theorem dL_train_14 : decode cL_train 14 = .ok (.goto 11, 3) := by decide +kernel
theorem dL_train_17 : decode cL_train 17 = .ok (.astore 6, 2) := by decide +kernel
theorem dL_train_19 : decode cL_train 19 = .ok (.iconst 1, 1) := by decide +kernel
theorem dL_train_20 : decode cL_train 20 = .ok (.ireturn, 1) := by decide +kernel
theorem dL_train_25 : decode cL_train 25 = .ok (.iconst 0, 1) := by decide +kernel
theorem dL_train_26 : decode cL_train 26 = .ok (.ireturn, 1) := by decide +kernel
set_option maxRecDepth 20000 in
theorem ggL_whole_X3_whole : GoodIn wsL_whole wsX3_whole := goodIn_ca (goodIn_r _ [6, 7, 8, 9, 10, 11, 12, 5, 13, 14, 15, 16, 17, 18, 19, 20, 21, 22, 23, 24, 25, 26, 27, 28, 29, 30, 31, 32, 33, 34, 35, 36, 37, 38, 39, 40, 41, 42, 43] (by decide +kernel) (by decide +kernel)) (goodIn_sub (fun _ h => List.mem_cons_of_mem _ (List.mem_append_right _ h)) (by decide +kernel))
set_option maxRecDepth 20000 in
theorem gL_whole_X3_whole : GoodIn wsL_whole (wsV RL 26 RX3 yX3_whole wsX3_whole) := goodIn_app (goodIn_of _ (by decide +kernel)) ggL_whole_X3_whole
theorem dL_whole_0 : decode cL_whole 0 = .ok (.aload_n 3, 1) := by decide +kernel
theorem dL_whole_1 : decode cL_whole 1 = .ok (.iconst 0, 1) := by decide +kernel
theorem dL_whole_2 : decode cL_whole 2 = .ok (.aload_n 0, 1) := by decide +kernel
theorem dL_whole_3 : decode cL_whole 3 = .ok (.iload_n 1, 1) := by decide +kernel
theorem dL_whole_4 : decode cL_whole 4 = .ok (.iload_n 2, 1) := by decide +kernel
theorem dL_whole_5 : decode cL_whole 5 = .ok (.invokevirtual 26, 3) := by decide +kernel
theorem dL_whole_20 : decode cL_whole 20 = .ok (.astore 4, 2) := by decide +kernel
theorem dL_whole_22 : decode cL_whole 22 = .ok (.iconst 1, 1) := by decide +kernel
theorem dL_whole_23 : decode cL_whole 23 = .ok (.ireturn, 1) := by decide +kernel
set_option maxRecDepth 20000 in
theorem ggL_works_X3_works : GoodIn wsL_works wsX3_works := goodIn_ca (goodIn_ca (goodIn_ca (goodIn_r _ [8, 9, 10, 11, 12, 13, 7, 14, 15, 16, 17, 18, 19, 20, 21, 22, 23, 24, 25, 26, 27, 28, 29, 30, 31, 32, 33, 34, 35, 36, 37, 38, 39, 40, 41, 42, 43, 44, 45, 46, 47, 48, 49, 50, 51, 52, 53, 54, 55, 56, 57, 58, 59, 60, 61, 62, 63, 64, 65, 66, 67, 68, 69, 70, 71, 72, 73, 74, 75, 76, 77, 78, 79, 80, 81, 82, 83, 84, 85, 86, 87, 88, 89, 90, 91, 92, 93, 94, 95, 96, 97, 98, 99, 100] (by decide +kernel) (by decide +kernel)) (goodIn_sub (fun _ h => List.mem_cons_of_mem _ (List.mem_append_left _ (List.mem_append_left _ (List.mem_append_right _ h)))) (by decide +kernel))) (goodIn_sub (fun _ h => List.mem_cons_of_mem _ (List.mem_append_left _ (List.mem_append_right _ h))) (by decide +kernel))) (goodIn_sub (fun _ h => List.mem_cons_of_mem _ (List.mem_append_right _ h)) (by decide +kernel))
set_option maxRecDepth 20000 in
theorem gL_works_X3_works : GoodIn wsL_works (wsV RL 30 RX3 yX3_works wsX3_works) := goodIn_app (goodIn_of _ (by decide +kernel)) ggL_works_X3_works
theorem dL_works_0 : decode cL_works 0 = .ok (.aload_n 3, 1) := by decide +kernel
theorem dL_works_1 : decode cL_works 1 = .ok (.iconst 0, 1) := by decide +kernel
theorem dL_works_2 : decode cL_works 2 = .ok (.aload_n 0, 1) := by decide +kernel
theorem dL_works_3 : decode cL_works 3 = .ok (.iload_n 1, 1) := by decide +kernel
theorem dL_works_4 : decode cL_works 4 = .ok (.iload_n 2, 1) := by decide +kernel
theorem dL_works_5 : decode cL_works 5 = .ok (.invokevirtual 30, 3) := by decide +kernel
theorem dL_works_8 : decode cL_works 8 = .ok (.i2l, 1) := by decide +kernel
theorem dL_works_9 : decode cL_works 9 = .ok (.lastore, 1) := by decide +kernel
theorem dL_works_10 : decode cL_works 10 = .ok (.goto 15, 3) := by decide +kernel
theorem dL_works_13 : decode cL_works 13 = .ok (.astore 4, 2) := by decide +kernel
theorem dL_works_15 : decode cL_works 15 = .ok (.iconst 1, 1) := by decide +kernel
theorem dL_works_16 : decode cL_works 16 = .ok (.ireturn, 1) := by decide +kernel
theorem dL_works_17 : decode cL_works 17 = .ok (.astore 4, 2) := by decide +kernel
theorem dL_works_19 : decode cL_works 19 = .ok (.iconst 2, 1) := by decide +kernel
theorem dL_works_20 : decode cL_works 20 = .ok (.ireturn, 1) := by decide +kernel
theorem dL_works_25 : decode cL_works 25 = .ok (.iconst 0, 1) := by decide +kernel
theorem dL_works_26 : decode cL_works 26 = .ok (.ireturn, 1) := by decide +kernel
set_option maxRecDepth 20000 in
theorem ggL_end_X3_end : GoodIn wsL_end wsX3_end := goodIn_ca (goodIn_r _ [6, 7, 8, 9, 10, 11, 5, 12, 13, 14, 15, 16, 17, 18, 19, 20, 21, 22, 23, 24, 25, 26, 27, 28, 29, 30, 31, 32, 33, 34, 35, 36, 37, 38] (by decide +kernel) (by decide +kernel)) (goodIn_sub (fun _ h => List.mem_cons_of_mem _ (List.mem_append_right _ h)) (by decide +kernel))
set_option maxRecDepth 20000 in
theorem gL_end_X3_end : GoodIn wsL_end (wsV RL 33 RX3 yX3_end wsX3_end) := goodIn_app (goodIn_of _ (by decide +kernel)) ggL_end_X3_end
theorem dL_end_0 : decode cL_end 0 = .ok (.aload_n 2, 1) := by decide +kernel
theorem dL_end_1 : decode cL_end 1 = .ok (.iconst 0, 1) := by decide +kernel
theorem dL_end_2 : decode cL_end 2 = .ok (.aload_n 0, 1) := by decide +kernel
theorem dL_end_3 : decode cL_end 3 = .ok (.iload_n 1, 1) := by decide +kernel
theorem dL_end_4 : decode cL_end 4 = .ok (.invokevirtual 33, 3) := by decide +kernel
theorem dL_end_12 : decode cL_end 12 = .ok (.astore_n 3, 1) := by decide +kernel
theorem dL_end_13 : decode cL_end 13 = .ok (.iconst 1, 1) := by decide +kernel
theorem dL_end_14 : decode cL_end 14 = .ok (.ireturn, 1) := by decide +kernel
set_option maxRecDepth 20000 in
theorem ggL_pass_X3_pass : GoodIn wsL_pass wsX3_pass := goodIn_ca (goodIn_r _ [6, 7, 8, 9, 5, 10, 11, 12, 13, 14, 15, 16, 17, 18, 19, 20, 21, 22, 23, 24, 25, 26, 27, 28, 29, 30, 31, 32, 33, 34, 35, 36, 37, 38, 39, 40, 41, 42, 43, 44, 45, 46, 47, 48, 49, 50, 51, 52, 53, 54, 55, 56, 57, 58, 59, 60, 61, 62, 63, 64, 65, 66, 67, 68, 69, 70, 71, 72, 73, 74, 75, 76, 77, 78, 79, 80, 81, 82, 83, 84, 85, 86, 87, 88, 89, 90, 91, 92, 93, 94, 95, 96, 97, 98, 99, 100, 101, 102, 103, 104, 105, 106, 107, 108, 109, 110, 111, 112, 113, 114, 115, 116, 117, 118, 119, 120, 121, 122, 123, 124, 125, 126, 127, 128, 129, 130, 131, 132, 133, 134, 135, 136, 137, 138, 139, 140, 141, 142, 143, 144, 145, 146, 147, 148, 149, 150, 151, 152, 153, 154, 155, 156, 157, 158, 159, 160, 161, 162, 163, 164, 165, 166, 167, 168, 169, 170, 171, 172, 173, 174, 175, 176, 177, 178, 179, 180, 181, 182, 183, 184, 185, 186, 187, 188, 189, 190, 191, 192, 193, 194, 195, 196, 197, 198, 199, 200, 201, 202] (by decide +kernel) (by decide +kernel)) (goodIn_sub (fun _ h => List.mem_cons_of_mem _ (List.mem_append_right _ h)) (by decide +kernel))
set_option maxRecDepth 20000 in
theorem gL_pass_X3_pass : GoodIn wsL_pass (wsV RL 37 RX3 yX3_pass wsX3_pass) := goodIn_app (goodIn_of _ (by decide +kernel)) ggL_pass_X3_pass
theorem dL_pass_0 : decode cL_pass 0 = .ok (.aload_n 2, 1) := by decide +kernel
theorem dL_pass_1 : decode cL_pass 1 = .ok (.iconst 0, 1) := by decide +kernel
theorem dL_pass_2 : decode cL_pass 2 = .ok (.aload_n 0, 1) := by decide +kernel
theorem dL_pass_3 : decode cL_pass 3 = .ok (.iload_n 1, 1) := by decide +kernel
theorem dL_pass_4 : decode cL_pass 4 = .ok (.invokevirtual 37, 3) := by decide +kernel
theorem dL_pass_7 : decode cL_pass 7 = .ok (.i2l, 1) := by decide +kernel
theorem dL_pass_8 : decode cL_pass 8 = .ok (.lastore, 1) := by decide +kernel
theorem dL_pass_9 : decode cL_pass 9 = .ok (.goto 6, 3) := by decide +kernel
theorem dL_pass_12 : decode cL_pass 12 = .ok (.astore_n 3, 1) := by decide +kernel
theorem dL_pass_13 : decode cL_pass 13 = .ok (.iconst 1, 1) := by decide +kernel
theorem dL_pass_14 : decode cL_pass 14 = .ok (.ireturn, 1) := by decide +kernel
theorem dL_pass_15 : decode cL_pass 15 = .ok (.iconst 0, 1) := by decide +kernel
theorem dL_pass_16 : decode cL_pass 16 = .ok (.ireturn, 1) := by decide +kernel
set_option maxRecDepth 20000 in
theorem ggL_ofSection_X3_ofSection : GoodIn wsL_ofSection wsX3_ofSection := goodIn_ca (goodIn_ca (goodIn_r _ [7, 8, 9, 10, 11, 12, 13, 14, 6, 15, 16, 17, 18, 19, 20, 21, 22, 23, 24, 25, 26, 27, 28, 29, 30, 31, 32, 33, 34, 35, 36, 37, 38, 39, 40, 41, 42, 43, 44, 45, 46, 47, 48, 49, 50, 51, 52, 53, 54, 55, 56, 57, 58, 59, 60, 61, 62, 63, 64, 65, 66, 67, 68, 69, 70, 71, 72, 73, 74, 75, 76, 77, 78, 79, 80, 81, 82, 83, 84, 85, 86, 87, 88, 89, 90, 91] (by decide +kernel) (by decide +kernel)) (goodIn_sub (fun _ h => List.mem_cons_of_mem _ (List.mem_append_left _ (List.mem_append_right _ h))) (by decide +kernel))) (goodIn_sub (fun _ h => List.mem_cons_of_mem _ (List.mem_append_right _ h)) (by decide +kernel))
set_option maxRecDepth 20000 in
theorem gL_ofSection_X3_ofSection : GoodIn wsL_ofSection (wsV RL 40 RX3 yX3_ofSection wsX3_ofSection) := goodIn_app (goodIn_of _ (by decide +kernel)) ggL_ofSection_X3_ofSection
theorem dL_ofSection_0 : decode cL_ofSection 0 = .ok (.aload_n 3, 1) := by decide +kernel
theorem dL_ofSection_1 : decode cL_ofSection 1 = .ok (.iconst 0, 1) := by decide +kernel
theorem dL_ofSection_2 : decode cL_ofSection 2 = .ok (.aload_n 0, 1) := by decide +kernel
theorem dL_ofSection_3 : decode cL_ofSection 3 = .ok (.iload_n 1, 1) := by decide +kernel
theorem dL_ofSection_4 : decode cL_ofSection 4 = .ok (.iload_n 2, 1) := by decide +kernel
theorem dL_ofSection_5 : decode cL_ofSection 5 = .ok (.invokevirtual 40, 3) := by decide +kernel
theorem dL_ofSection_8 : decode cL_ofSection 8 = .ok (.i2l, 1) := by decide +kernel
theorem dL_ofSection_9 : decode cL_ofSection 9 = .ok (.lastore, 1) := by decide +kernel
theorem dL_ofSection_10 : decode cL_ofSection 10 = .ok (.goto 11, 3) := by decide +kernel
theorem dL_ofSection_13 : decode cL_ofSection 13 = .ok (.astore 4, 2) := by decide +kernel
theorem dL_ofSection_15 : decode cL_ofSection 15 = .ok (.iconst 1, 1) := by decide +kernel
theorem dL_ofSection_16 : decode cL_ofSection 16 = .ok (.ireturn, 1) := by decide +kernel
theorem dL_ofSection_17 : decode cL_ofSection 17 = .ok (.astore 4, 2) := by decide +kernel
theorem dL_ofSection_19 : decode cL_ofSection 19 = .ok (.iconst 2, 1) := by decide +kernel
theorem dL_ofSection_20 : decode cL_ofSection 20 = .ok (.ireturn, 1) := by decide +kernel
theorem dL_ofSection_21 : decode cL_ofSection 21 = .ok (.iconst 0, 1) := by decide +kernel
theorem dL_ofSection_22 : decode cL_ofSection 22 = .ok (.ireturn, 1) := by decide +kernel
set_option maxRecDepth 20000 in
theorem ggL_ofTrain_X3_ofTrain : GoodIn wsL_ofTrain wsX3_ofTrain := goodIn_ca (goodIn_ca (goodIn_r _ [7, 8, 9, 10, 11, 12, 13, 14, 6, 15, 16, 17, 18, 19, 20, 21, 22, 23, 24, 25, 26, 27, 28, 29, 30, 31, 32, 33, 34, 35, 36, 37, 38, 39, 40, 41, 42, 43, 44, 45, 46, 47, 48, 49, 50, 51, 52, 53, 54, 55, 56, 57, 58, 59, 60, 61, 62, 63, 64, 65, 66, 67, 68, 69, 70, 71, 72, 73, 74, 75, 76, 77, 78, 79, 80, 81, 82, 83, 84, 85, 86, 87, 88, 89, 90, 91, 92, 93, 94, 95, 96, 97, 98, 99, 100, 101, 102, 103, 104, 105, 106, 107, 108, 109, 110] (by decide +kernel) (by decide +kernel)) (goodIn_sub (fun _ h => List.mem_cons_of_mem _ (List.mem_append_left _ (List.mem_append_right _ h))) (by decide +kernel))) (goodIn_sub (fun _ h => List.mem_cons_of_mem _ (List.mem_append_right _ h)) (by decide +kernel))
set_option maxRecDepth 20000 in
theorem gL_ofTrain_X3_ofTrain : GoodIn wsL_ofTrain (wsV RL 43 RX3 yX3_ofTrain wsX3_ofTrain) := goodIn_app (goodIn_of _ (by decide +kernel)) ggL_ofTrain_X3_ofTrain
theorem dL_ofTrain_0 : decode cL_ofTrain 0 = .ok (.aload_n 3, 1) := by decide +kernel
theorem dL_ofTrain_1 : decode cL_ofTrain 1 = .ok (.iconst 0, 1) := by decide +kernel
theorem dL_ofTrain_2 : decode cL_ofTrain 2 = .ok (.aload_n 0, 1) := by decide +kernel
theorem dL_ofTrain_3 : decode cL_ofTrain 3 = .ok (.iload_n 1, 1) := by decide +kernel
theorem dL_ofTrain_4 : decode cL_ofTrain 4 = .ok (.iload_n 2, 1) := by decide +kernel
theorem dL_ofTrain_5 : decode cL_ofTrain 5 = .ok (.invokevirtual 43, 3) := by decide +kernel
theorem dL_ofTrain_13 : decode cL_ofTrain 13 = .ok (.astore 4, 2) := by decide +kernel
theorem dL_ofTrain_15 : decode cL_ofTrain 15 = .ok (.iconst 1, 1) := by decide +kernel
theorem dL_ofTrain_16 : decode cL_ofTrain 16 = .ok (.ireturn, 1) := by decide +kernel
set_option maxRecDepth 20000 in
theorem ggL_stops_X3_stops : GoodIn wsL_stops wsX3_stops := goodIn_ca (goodIn_ca (goodIn_r _ [7, 8, 9, 10, 11, 12, 6, 13, 14, 15, 16, 17, 18, 19, 20, 21, 22, 23, 24, 25, 26, 27, 28, 29, 30, 31, 32, 33, 34, 35, 36, 37, 38, 39, 40, 41, 42, 43, 44, 45, 46, 47, 48, 49, 50, 51, 52, 53, 54, 55, 56, 57, 58, 59, 60, 61, 62, 63, 64, 65, 66, 67, 68, 69, 70, 71, 72, 73, 74, 75, 76, 77, 78, 79] (by decide +kernel) (by decide +kernel)) (goodIn_sub (fun _ h => List.mem_cons_of_mem _ (List.mem_append_left _ (List.mem_append_right _ h))) (by decide +kernel))) (goodIn_sub (fun _ h => List.mem_cons_of_mem _ (List.mem_append_right _ h)) (by decide +kernel))
set_option maxRecDepth 20000 in
theorem gL_stops_X3_stops : GoodIn wsL_stops (wsV RL 46 RX3 yX3_stops wsX3_stops) := goodIn_app (goodIn_of _ (by decide +kernel)) ggL_stops_X3_stops
theorem dL_stops_0 : decode cL_stops 0 = .ok (.aload_n 3, 1) := by decide +kernel
theorem dL_stops_1 : decode cL_stops 1 = .ok (.iconst 0, 1) := by decide +kernel
theorem dL_stops_2 : decode cL_stops 2 = .ok (.aload_n 0, 1) := by decide +kernel
theorem dL_stops_3 : decode cL_stops 3 = .ok (.iload_n 1, 1) := by decide +kernel
theorem dL_stops_4 : decode cL_stops 4 = .ok (.iload_n 2, 1) := by decide +kernel
theorem dL_stops_5 : decode cL_stops 5 = .ok (.invokevirtual 46, 3) := by decide +kernel
theorem dL_stops_13 : decode cL_stops 13 = .ok (.astore 4, 2) := by decide +kernel
theorem dL_stops_15 : decode cL_stops 15 = .ok (.iconst 1, 1) := by decide +kernel
theorem dL_stops_16 : decode cL_stops 16 = .ok (.ireturn, 1) := by decide +kernel
set_option maxRecDepth 20000 in
theorem ggL_may_X3_may : GoodIn wsL_may wsX3_may := goodIn_ca (goodIn_r _ [6, 7, 8, 9, 10, 11, 12, 5, 13, 14, 15, 16, 17, 18, 19, 20, 21, 22, 23, 24, 25, 26, 27, 28, 29, 30, 31, 32, 33, 34, 35, 36, 37, 38, 39, 40, 41, 42, 43, 44, 45, 46, 47, 48, 49, 50, 51, 52, 53, 54, 55, 56, 57, 58, 59, 60, 61, 62, 63, 64, 65, 66, 67, 68, 69, 70, 71, 72, 73, 74, 75, 76, 77, 78, 79, 80, 81, 82, 83, 84, 85, 86, 87, 88, 89, 90, 91, 92, 93, 94, 95, 96, 97, 98, 99, 100] (by decide +kernel) (by decide +kernel)) (goodIn_sub (fun _ h => List.mem_cons_of_mem _ (List.mem_append_right _ h)) (by decide +kernel))
set_option maxRecDepth 20000 in
theorem gL_may_X3_may : GoodIn wsL_may (wsV RL 49 RX3 yX3_may wsX3_may) := goodIn_app (goodIn_of _ (by decide +kernel)) ggL_may_X3_may
theorem dL_may_0 : decode cL_may 0 = .ok (.aload_n 2, 1) := by decide +kernel
theorem dL_may_1 : decode cL_may 1 = .ok (.iconst 0, 1) := by decide +kernel
theorem dL_may_2 : decode cL_may 2 = .ok (.aload_n 0, 1) := by decide +kernel
theorem dL_may_3 : decode cL_may 3 = .ok (.iload_n 1, 1) := by decide +kernel
theorem dL_may_4 : decode cL_may 4 = .ok (.invokevirtual 49, 3) := by decide +kernel
theorem dL_may_12 : decode cL_may 12 = .ok (.astore_n 3, 1) := by decide +kernel
theorem dL_may_13 : decode cL_may 13 = .ok (.iconst 1, 1) := by decide +kernel
