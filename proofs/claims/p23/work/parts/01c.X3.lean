set_option maxRecDepth 20000 in
theorem ggX3_init_X0_init : GoodIn wsX3_init wsX0_init := goodIn_r _ [11, 12, 2, 3, 13, 14, 15, 16, 17, 18, 19, 20, 21, 22, 23, 24, 25, 26, 27, 28, 29, 30, 31, 32, 33, 34, 35, 36, 37, 38, 39, 40, 41, 42, 43, 44, 45, 46, 47, 48, 49, 50, 51, 52, 53, 54, 55, 56, 57, 58, 59, 60, 67, 68, 69, 70, 71, 72, 73, 74, 75, 76, 61, 62, 63, 64, 77, 78, 79, 80, 81, 82, 83, 84, 85, 86, 87, 88, 89, 90, 91, 92, 93, 94] (by decide +kernel) (by decide +kernel)
set_option maxRecDepth 20000 in
theorem gX3_init_X0_init : GoodIn wsX3_init (wsX0_init) := ggX3_init_X0_init
theorem dX3_init_0 : decode cX3_init 0 = .ok (.aload_n 0, 1) := by decide +kernel
theorem dX3_init_1 : decode cX3_init 1 = .ok (.invokespecial 1, 3) := by decide +kernel
theorem dX3_init_4 : decode cX3_init 4 = .ok (.aload_n 0, 1) := by decide +kernel
theorem dX3_init_5 : decode cX3_init 5 = .ok (.new 7, 3) := by decide +kernel
theorem dX3_init_8 : decode cX3_init 8 = .ok (.dup, 1) := by decide +kernel
theorem dX3_init_9 : decode cX3_init 9 = .ok (.invokespecial 9, 3) := by decide +kernel
theorem dX3_init_12 : decode cX3_init 12 = .ok (.putfield 10, 3) := by decide +kernel
theorem dX3_init_15 : decode cX3_init 15 = .ok (.aload_n 0, 1) := by decide +kernel
theorem dX3_init_16 : decode cX3_init 16 = .ok (.new 7, 3) := by decide +kernel
theorem dX3_init_19 : decode cX3_init 19 = .ok (.dup, 1) := by decide +kernel
theorem dX3_init_20 : decode cX3_init 20 = .ok (.invokespecial 9, 3) := by decide +kernel
theorem dX3_init_23 : decode cX3_init 23 = .ok (.putfield 16, 3) := by decide +kernel
theorem dX3_init_26 : decode cX3_init 26 = .ok (.return_, 1) := by decide +kernel
set_option maxRecDepth 20000 in
theorem ggX3_section_X3_needSection : GoodIn wsX3_section wsX3_needSection := goodIn_ca (goodIn_r _ [9, 10, 11, 8, 12, 13, 14] (by decide +kernel) (by decide +kernel)) (goodIn_sub (fun _ h => List.mem_cons_of_mem _ (List.mem_append_left _ (List.mem_append_right _ h))) (by decide +kernel))
set_option maxRecDepth 20000 in
theorem gX3_section_X3_needSection : GoodIn wsX3_section (va_wsS RX3 19 yX3_needSection wsX3_needSection) := goodIn_app (goodIn_of _ (by decide +kernel)) ggX3_section_X3_needSection
set_option maxRecDepth 20000 in
theorem ggX3_section_X3_isWithin : GoodIn wsX3_section wsX3_isWithin := goodIn_r _ [17] (by decide +kernel) (by decide +kernel)
set_option maxRecDepth 20000 in
theorem gX3_section_X3_isWithin : GoodIn wsX3_section (va_wsS RX3 23 yX3_isWithin wsX3_isWithin) := goodIn_app (goodIn_of _ (by decide +kernel)) ggX3_section_X3_isWithin
set_option maxRecDepth 20000 in
theorem ggX3_section_X3_need : GoodIn wsX3_section wsX3_need := goodIn_ca (goodIn_r _ [20, 21, 22] (by decide +kernel) (by decide +kernel)) (goodIn_sub (fun _ h => List.mem_cons_of_mem _ (List.mem_append_right _ h)) (by decide +kernel))
set_option maxRecDepth 20000 in
theorem gX3_section_X3_need : GoodIn wsX3_section (va_wsS RX3 27 yX3_need wsX3_need) := goodIn_app (goodIn_of _ (by decide +kernel)) ggX3_section_X3_need
theorem dX3_section_0 : decode cX3_section 0 = .ok (.iload_n 1, 1) := by decide +kernel
theorem dX3_section_1 : decode cX3_section 1 = .ok (.invokestatic 19, 3) := by decide +kernel
theorem dX3_section_4 : decode cX3_section 4 = .ok (.iload_n 2, 1) := by decide +kernel
theorem dX3_section_5 : decode cX3_section 5 = .ok (.iconst 1, 1) := by decide +kernel
theorem dX3_section_6 : decode cX3_section 6 = .ok (.bipush 40, 2) := by decide +kernel
theorem dX3_section_8 : decode cX3_section 8 = .ok (.invokestatic 23, 3) := by decide +kernel
theorem dX3_section_11 : decode cX3_section 11 = .ok (.ifCond .eq 17, 3) := by decide +kernel
theorem dX3_section_14 : decode cX3_section 14 = .ok (.iload_n 3, 1) := by decide +kernel
theorem dX3_section_15 : decode cX3_section 15 = .ok (.bipush (-2), 2) := by decide +kernel
theorem dX3_section_17 : decode cX3_section 17 = .ok (.iconst 2, 1) := by decide +kernel
theorem dX3_section_18 : decode cX3_section 18 = .ok (.invokestatic 23, 3) := by decide +kernel
theorem dX3_section_21 : decode cX3_section 21 = .ok (.ifCond .eq 7, 3) := by decide +kernel
theorem dX3_section_24 : decode cX3_section 24 = .ok (.iconst 1, 1) := by decide +kernel
theorem dX3_section_25 : decode cX3_section 25 = .ok (.goto 4, 3) := by decide +kernel
theorem dX3_section_28 : decode cX3_section 28 = .ok (.iconst 0, 1) := by decide +kernel
theorem dX3_section_29 : decode cX3_section 29 = .ok (.invokestatic 27, 3) := by decide +kernel
theorem dX3_section_32 : decode cX3_section 32 = .ok (.aload_n 0, 1) := by decide +kernel
theorem dX3_section_33 : decode cX3_section 33 = .ok (.getfield 10, 3) := by decide +kernel
theorem dX3_section_36 : decode cX3_section 36 = .ok (.getfield 31, 3) := by decide +kernel
theorem dX3_section_39 : decode cX3_section 39 = .ok (.getfield 35, 3) := by decide +kernel
theorem dX3_section_42 : decode cX3_section 42 = .ok (.iload_n 1, 1) := by decide +kernel
theorem dX3_section_43 : decode cX3_section 43 = .ok (.iaload, 1) := by decide +kernel
theorem dX3_section_44 : decode cX3_section 44 = .ok (.istore 5, 2) := by decide +kernel
theorem dX3_section_46 : decode cX3_section 46 = .ok (.aload_n 0, 1) := by decide +kernel
theorem dX3_section_47 : decode cX3_section 47 = .ok (.getfield 10, 3) := by decide +kernel
theorem dX3_section_50 : decode cX3_section 50 = .ok (.getfield 31, 3) := by decide +kernel
theorem dX3_section_53 : decode cX3_section 53 = .ok (.getfield 35, 3) := by decide +kernel
theorem dX3_section_56 : decode cX3_section 56 = .ok (.iload_n 1, 1) := by decide +kernel
theorem dX3_section_57 : decode cX3_section 57 = .ok (.iload_n 2, 1) := by decide +kernel
theorem dX3_section_58 : decode cX3_section 58 = .ok (.iastore, 1) := by decide +kernel
theorem dX3_section_59 : decode cX3_section 59 = .ok (.aload_n 0, 1) := by decide +kernel
theorem dX3_section_60 : decode cX3_section 60 = .ok (.getfield 10, 3) := by decide +kernel
theorem dX3_section_63 : decode cX3_section 63 = .ok (.getfield 31, 3) := by decide +kernel
theorem dX3_section_66 : decode cX3_section 66 = .ok (.getfield 41, 3) := by decide +kernel
theorem dX3_section_69 : decode cX3_section 69 = .ok (.iload_n 1, 1) := by decide +kernel
theorem dX3_section_70 : decode cX3_section 70 = .ok (.iload_n 3, 1) := by decide +kernel
theorem dX3_section_71 : decode cX3_section 71 = .ok (.iastore, 1) := by decide +kernel
theorem dX3_section_72 : decode cX3_section 72 = .ok (.aload_n 0, 1) := by decide +kernel
theorem dX3_section_73 : decode cX3_section 73 = .ok (.getfield 10, 3) := by decide +kernel
theorem dX3_section_76 : decode cX3_section 76 = .ok (.getfield 31, 3) := by decide +kernel
theorem dX3_section_79 : decode cX3_section 79 = .ok (.getfield 44, 3) := by decide +kernel
theorem dX3_section_82 : decode cX3_section 82 = .ok (.iload_n 1, 1) := by decide +kernel
theorem dX3_section_83 : decode cX3_section 83 = .ok (.iload 4, 2) := by decide +kernel
theorem dX3_section_85 : decode cX3_section 85 = .ok (.bastore, 1) := by decide +kernel
theorem dX3_section_86 : decode cX3_section 86 = .ok (.iload 5, 2) := by decide +kernel
theorem dX3_section_88 : decode cX3_section 88 = .ok (.ireturn, 1) := by decide +kernel
set_option maxRecDepth 20000 in
theorem ggX3_station_X3_isWithin : GoodIn wsX3_station wsX3_isWithin := goodIn_r _ [7] (by decide +kernel) (by decide +kernel)
set_option maxRecDepth 20000 in
theorem gX3_station_X3_isWithin : GoodIn wsX3_station (va_wsS RX3 23 yX3_isWithin wsX3_isWithin) := goodIn_app (goodIn_of _ (by decide +kernel)) ggX3_station_X3_isWithin
set_option maxRecDepth 20000 in
theorem ggX3_station_X1_hasStationAt : GoodIn wsX3_station wsX1_hasStationAt := goodIn_r _ [12, 13, 14, 45, 46, 47, 48, 49, 50, 51, 52, 53, 54] (by decide +kernel) (by decide +kernel)
set_option maxRecDepth 20000 in
theorem gX3_station_X1_hasStationAt : GoodIn wsX3_station (wsV RX3 48 RX1 yX1_hasStationAt wsX1_hasStationAt) := goodIn_app (goodIn_of _ (by decide +kernel)) ggX3_station_X1_hasStationAt
set_option maxRecDepth 20000 in
theorem ggX3_station_X3_need : GoodIn wsX3_station wsX3_need := goodIn_ca (goodIn_r _ [17, 18, 19] (by decide +kernel) (by decide +kernel)) (goodIn_sub (fun _ h => List.mem_cons_of_mem _ (List.mem_append_left _ (List.mem_append_right _ h))) (by decide +kernel))
set_option maxRecDepth 20000 in
theorem gX3_station_X3_need : GoodIn wsX3_station (va_wsS RX3 27 yX3_need wsX3_need) := goodIn_app (goodIn_of _ (by decide +kernel)) ggX3_station_X3_need
set_option maxRecDepth 20000 in
theorem ggX3_station_X0_countPresent : GoodIn wsX3_station wsX0_countPresent := goodIn_r _ [24, 25, 26, 27, 41, 42, 43, 44, 55, 56, 57, 58, 59, 60, 61, 62, 63, 64, 65, 66, 67, 68, 69, 70, 71, 72] (by decide +kernel) (by decide +kernel)
set_option maxRecDepth 20000 in
theorem gX3_station_X0_countPresent : GoodIn wsX3_station (wsV RX3 56 RX0 yX0_countPresent wsX0_countPresent) := goodIn_app (goodIn_of _ (by decide +kernel)) ggX3_station_X0_countPresent
set_option maxRecDepth 20000 in
theorem ggX3_station_X3_needState : GoodIn wsX3_station wsX3_needState := goodIn_ca (goodIn_r _ [30, 31, 32] (by decide +kernel) (by decide +kernel)) (goodIn_sub (fun _ h => List.mem_cons_of_mem _ (List.mem_append_right _ h)) (by decide +kernel))
set_option maxRecDepth 20000 in
theorem gX3_station_X3_needState : GoodIn wsX3_station (va_wsS RX3 60 yX3_needState wsX3_needState) := goodIn_app (goodIn_of _ (by decide +kernel)) ggX3_station_X3_needState
set_option maxRecDepth 20000 in
theorem ggX3_station_X1_addStation : GoodIn wsX3_station wsX1_addStation := goodIn_r _ [36, 13, 14, 37, 38, 45, 46, 47, 48, 49, 50, 51, 52, 53, 54] (by decide +kernel) (by decide +kernel)
set_option maxRecDepth 20000 in
theorem gX3_station_X1_addStation : GoodIn wsX3_station (wsV RX3 63 RX1 yX1_addStation wsX1_addStation) := goodIn_app (goodIn_of _ (by decide +kernel)) ggX3_station_X1_addStation
theorem dX3_station_0 : decode cX3_station 0 = .ok (.iload_n 1, 1) := by decide +kernel
theorem dX3_station_1 : decode cX3_station 1 = .ok (.iconst 0, 1) := by decide +kernel
theorem dX3_station_2 : decode cX3_station 2 = .ok (.sipush 2999, 3) := by decide +kernel
theorem dX3_station_5 : decode cX3_station 5 = .ok (.invokestatic 23, 3) := by decide +kernel
theorem dX3_station_8 : decode cX3_station 8 = .ok (.ifCond .eq 31, 3) := by decide +kernel
theorem dX3_station_11 : decode cX3_station 11 = .ok (.aload_n 0, 1) := by decide +kernel
theorem dX3_station_12 : decode cX3_station 12 = .ok (.getfield 10, 3) := by decide +kernel
theorem dX3_station_15 : decode cX3_station 15 = .ok (.getfield 31, 3) := by decide +kernel
theorem dX3_station_18 : decode cX3_station 18 = .ok (.iload_n 1, 1) := by decide +kernel
theorem dX3_station_19 : decode cX3_station 19 = .ok (.invokevirtual 48, 3) := by decide +kernel
theorem dX3_station_22 : decode cX3_station 22 = .ok (.ifCond .ne 17, 3) := by decide +kernel
theorem dX3_station_25 : decode cX3_station 25 = .ok (.iload_n 2, 1) := by decide +kernel
theorem dX3_station_26 : decode cX3_station 26 = .ok (.iconst 0, 1) := by decide +kernel
theorem dX3_station_27 : decode cX3_station 27 = .ok (.bipush 60, 2) := by decide +kernel
theorem dX3_station_29 : decode cX3_station 29 = .ok (.invokestatic 23, 3) := by decide +kernel
theorem dX3_station_32 : decode cX3_station 32 = .ok (.ifCond .eq 7, 3) := by decide +kernel
theorem dX3_station_35 : decode cX3_station 35 = .ok (.iconst 1, 1) := by decide +kernel
theorem dX3_station_36 : decode cX3_station 36 = .ok (.goto 4, 3) := by decide +kernel
theorem dX3_station_39 : decode cX3_station 39 = .ok (.iconst 0, 1) := by decide +kernel
theorem dX3_station_40 : decode cX3_station 40 = .ok (.invokestatic 27, 3) := by decide +kernel
theorem dX3_station_43 : decode cX3_station 43 = .ok (.aload_n 0, 1) := by decide +kernel
theorem dX3_station_44 : decode cX3_station 44 = .ok (.getfield 10, 3) := by decide +kernel
theorem dX3_station_47 : decode cX3_station 47 = .ok (.getfield 31, 3) := by decide +kernel
theorem dX3_station_50 : decode cX3_station 50 = .ok (.getfield 52, 3) := by decide +kernel
theorem dX3_station_53 : decode cX3_station 53 = .ok (.iconst 4, 1) := by decide +kernel
theorem dX3_station_54 : decode cX3_station 54 = .ok (.if_icmp .ge 17, 3) := by decide +kernel
theorem dX3_station_57 : decode cX3_station 57 = .ok (.aload_n 0, 1) := by decide +kernel
theorem dX3_station_58 : decode cX3_station 58 = .ok (.getfield 10, 3) := by decide +kernel
theorem dX3_station_61 : decode cX3_station 61 = .ok (.invokevirtual 56, 3) := by decide +kernel
theorem dX3_station_64 : decode cX3_station 64 = .ok (.ifCond .ne 7, 3) := by decide +kernel
theorem dX3_station_67 : decode cX3_station 67 = .ok (.iconst 1, 1) := by decide +kernel
theorem dX3_station_68 : decode cX3_station 68 = .ok (.goto 4, 3) := by decide +kernel
theorem dX3_station_71 : decode cX3_station 71 = .ok (.iconst 0, 1) := by decide +kernel
theorem dX3_station_72 : decode cX3_station 72 = .ok (.invokestatic 60, 3) := by decide +kernel
theorem dX3_station_75 : decode cX3_station 75 = .ok (.aload_n 0, 1) := by decide +kernel
theorem dX3_station_76 : decode cX3_station 76 = .ok (.getfield 10, 3) := by decide +kernel
theorem dX3_station_79 : decode cX3_station 79 = .ok (.getfield 31, 3) := by decide +kernel
theorem dX3_station_82 : decode cX3_station 82 = .ok (.iload_n 1, 1) := by decide +kernel
theorem dX3_station_83 : decode cX3_station 83 = .ok (.iload_n 2, 1) := by decide +kernel
theorem dX3_station_84 : decode cX3_station 84 = .ok (.invokevirtual 63, 3) := by decide +kernel
theorem dX3_station_87 : decode cX3_station 87 = .ok (.ireturn, 1) := by decide +kernel
set_option maxRecDepth 20000 in
theorem ggX3_train_X3_isWithin : GoodIn wsX3_train wsX3_isWithin := goodIn_r _ [6] (by decide +kernel) (by decide +kernel)
set_option maxRecDepth 20000 in
theorem gX3_train_X3_isWithin : GoodIn wsX3_train (va_wsS RX3 23 yX3_isWithin wsX3_isWithin) := goodIn_app (goodIn_of _ (by decide +kernel)) ggX3_train_X3_isWithin
set_option maxRecDepth 20000 in
theorem ggX3_train_X3_need : GoodIn wsX3_train wsX3_need := goodIn_ca (goodIn_r _ [9, 10, 11] (by decide +kernel) (by decide +kernel)) (goodIn_sub (fun _ h => List.mem_cons_of_mem _ (List.mem_append_left _ (List.mem_append_right _ h))) (by decide +kernel))
set_option maxRecDepth 20000 in
theorem gX3_train_X3_need : GoodIn wsX3_train (va_wsS RX3 27 yX3_need wsX3_need) := goodIn_app (goodIn_of _ (by decide +kernel)) ggX3_train_X3_need
set_option maxRecDepth 20000 in
theorem ggX3_train_X0_isFreeUpTo : GoodIn wsX3_train wsX0_isFreeUpTo := goodIn_r _ [16, 17, 18, 19, 20, 21, 22, 23, 24, 25, 26, 62, 63, 64, 65, 66, 67, 68, 69, 70, 71, 72, 73, 74, 75, 76, 77, 78, 79, 80, 81, 82, 83] (by decide +kernel) (by decide +kernel)
set_option maxRecDepth 20000 in
theorem gX3_train_X0_isFreeUpTo : GoodIn wsX3_train (wsV RX3 70 RX0 yX0_isFreeUpTo wsX0_isFreeUpTo) := goodIn_app (goodIn_of _ (by decide +kernel)) ggX3_train_X0_isFreeUpTo
set_option maxRecDepth 20000 in
theorem ggX3_train_X3_needState : GoodIn wsX3_train wsX3_needState := goodIn_ca (goodIn_r _ [29, 30, 31] (by decide +kernel) (by decide +kernel)) (goodIn_sub (fun _ h => List.mem_cons_of_mem _ (List.mem_append_right _ h)) (by decide +kernel))
set_option maxRecDepth 20000 in
theorem gX3_train_X3_needState : GoodIn wsX3_train (va_wsS RX3 60 yX3_needState wsX3_needState) := goodIn_app (goodIn_of _ (by decide +kernel)) ggX3_train_X3_needState
set_option maxRecDepth 20000 in
theorem ggX3_train_X0_addTrain : GoodIn wsX3_train wsX0_addTrain := goodIn_r _ [35, 17, 18, 36, 37, 38, 39, 40, 41, 42, 43, 44, 45, 46, 47, 48, 49, 50, 51, 52, 53, 23, 54, 25, 55, 56, 57, 58, 59, 21, 22, 24, 26, 62, 63, 64, 65, 66, 67, 68, 69, 70, 71, 72, 73, 74, 75, 76, 77, 78, 79, 80, 81, 82, 83, 84, 85, 86, 87, 88, 89, 90, 91, 92, 93] (by decide +kernel) (by decide +kernel)
set_option maxRecDepth 20000 in
theorem gX3_train_X0_addTrain : GoodIn wsX3_train (wsV RX3 73 RX0 yX0_addTrain wsX0_addTrain) := goodIn_app (goodIn_of _ (by decide +kernel)) ggX3_train_X0_addTrain
theorem dX3_train_0 : decode cX3_train 0 = .ok (.iload_n 1, 1) := by decide +kernel
theorem dX3_train_1 : decode cX3_train 1 = .ok (.bipush 20, 2) := by decide +kernel
theorem dX3_train_3 : decode cX3_train 3 = .ok (.sipush 200, 3) := by decide +kernel
theorem dX3_train_6 : decode cX3_train 6 = .ok (.invokestatic 23, 3) := by decide +kernel
theorem dX3_train_9 : decode cX3_train 9 = .ok (.ifCond .eq 25, 3) := by decide +kernel
theorem dX3_train_12 : decode cX3_train 12 = .ok (.iload_n 2, 1) := by decide +kernel
theorem dX3_train_13 : decode cX3_train 13 = .ok (.iconst 1, 1) := by decide +kernel
theorem dX3_train_14 : decode cX3_train 14 = .ok (.iconst 4, 1) := by decide +kernel
theorem dX3_train_15 : decode cX3_train 15 = .ok (.invokestatic 23, 3) := by decide +kernel
theorem dX3_train_18 : decode cX3_train 18 = .ok (.ifCond .eq 16, 3) := by decide +kernel
theorem dX3_train_21 : decode cX3_train 21 = .ok (.iload_n 3, 1) := by decide +kernel
theorem dX3_train_22 : decode cX3_train 22 = .ok (.iconst 1, 1) := by decide +kernel
theorem dX3_train_23 : decode cX3_train 23 = .ok (.iconst 3, 1) := by decide +kernel
theorem dX3_train_24 : decode cX3_train 24 = .ok (.invokestatic 23, 3) := by decide +kernel
theorem dX3_train_27 : decode cX3_train 27 = .ok (.ifCond .eq 7, 3) := by decide +kernel
theorem dX3_train_30 : decode cX3_train 30 = .ok (.iconst 1, 1) := by decide +kernel
theorem dX3_train_31 : decode cX3_train 31 = .ok (.goto 4, 3) := by decide +kernel
theorem dX3_train_34 : decode cX3_train 34 = .ok (.iconst 0, 1) := by decide +kernel
theorem dX3_train_35 : decode cX3_train 35 = .ok (.invokestatic 27, 3) := by decide +kernel
theorem dX3_train_38 : decode cX3_train 38 = .ok (.aload_n 0, 1) := by decide +kernel
theorem dX3_train_39 : decode cX3_train 39 = .ok (.getfield 10, 3) := by decide +kernel
theorem dX3_train_42 : decode cX3_train 42 = .ok (.getfield 67, 3) := by decide +kernel
theorem dX3_train_45 : decode cX3_train 45 = .ok (.iconst 4, 1) := by decide +kernel
theorem dX3_train_46 : decode cX3_train 46 = .ok (.if_icmp .ge 18, 3) := by decide +kernel
theorem dX3_train_49 : decode cX3_train 49 = .ok (.aload_n 0, 1) := by decide +kernel
theorem dX3_train_50 : decode cX3_train 50 = .ok (.getfield 10, 3) := by decide +kernel
theorem dX3_train_53 : decode cX3_train 53 = .ok (.iload_n 1, 1) := by decide +kernel
theorem dX3_train_54 : decode cX3_train 54 = .ok (.invokevirtual 70, 3) := by decide +kernel
theorem dX3_train_57 : decode cX3_train 57 = .ok (.ifCond .eq 7, 3) := by decide +kernel
theorem dX3_train_60 : decode cX3_train 60 = .ok (.iconst 1, 1) := by decide +kernel
theorem dX3_train_61 : decode cX3_train 61 = .ok (.goto 4, 3) := by decide +kernel
theorem dX3_train_64 : decode cX3_train 64 = .ok (.iconst 0, 1) := by decide +kernel
theorem dX3_train_65 : decode cX3_train 65 = .ok (.invokestatic 60, 3) := by decide +kernel
theorem dX3_train_68 : decode cX3_train 68 = .ok (.aload_n 0, 1) := by decide +kernel
theorem dX3_train_69 : decode cX3_train 69 = .ok (.getfield 10, 3) := by decide +kernel
theorem dX3_train_72 : decode cX3_train 72 = .ok (.iload_n 1, 1) := by decide +kernel
theorem dX3_train_73 : decode cX3_train 73 = .ok (.iload_n 2, 1) := by decide +kernel
theorem dX3_train_74 : decode cX3_train 74 = .ok (.iload_n 3, 1) := by decide +kernel
theorem dX3_train_75 : decode cX3_train 75 = .ok (.iload 4, 2) := by decide +kernel
theorem dX3_train_77 : decode cX3_train 77 = .ok (.invokevirtual 73, 3) := by decide +kernel
theorem dX3_train_80 : decode cX3_train 80 = .ok (.ireturn, 1) := by decide +kernel
set_option maxRecDepth 20000 in
theorem ggX3_whole_X3_needTrain : GoodIn wsX3_whole wsX3_needTrain := goodIn_ca (goodIn_r _ [8, 1, 9, 10, 11, 7, 12, 13, 14, 15, 16, 17, 18, 19, 20] (by decide +kernel) (by decide +kernel)) (goodIn_sub (fun _ h => List.mem_cons_of_mem _ (List.mem_append_right _ h)) (by decide +kernel))
set_option maxRecDepth 20000 in
theorem gX3_whole_X3_needTrain : GoodIn wsX3_whole (wsV RX3 77 RX3 yX3_needTrain wsX3_needTrain) := goodIn_app (goodIn_of _ (by decide +kernel)) ggX3_whole_X3_needTrain
theorem dX3_whole_0 : decode cX3_whole 0 = .ok (.aload_n 0, 1) := by decide +kernel
theorem dX3_whole_1 : decode cX3_whole 1 = .ok (.iload_n 1, 1) := by decide +kernel
theorem dX3_whole_2 : decode cX3_whole 2 = .ok (.invokevirtual 77, 3) := by decide +kernel
theorem dX3_whole_5 : decode cX3_whole 5 = .ok (.aload_n 0, 1) := by decide +kernel
theorem dX3_whole_6 : decode cX3_whole 6 = .ok (.getfield 10, 3) := by decide +kernel
theorem dX3_whole_9 : decode cX3_whole 9 = .ok (.getfield 80, 3) := by decide +kernel
theorem dX3_whole_12 : decode cX3_whole 12 = .ok (.iload_n 1, 1) := by decide +kernel
theorem dX3_whole_13 : decode cX3_whole 13 = .ok (.aaload, 1) := by decide +kernel
theorem dX3_whole_14 : decode cX3_whole 14 = .ok (.getfield 84, 3) := by decide +kernel
theorem dX3_whole_17 : decode cX3_whole 17 = .ok (.istore_n 3, 1) := by decide +kernel
theorem dX3_whole_18 : decode cX3_whole 18 = .ok (.aload_n 0, 1) := by decide +kernel
theorem dX3_whole_19 : decode cX3_whole 19 = .ok (.getfield 10, 3) := by decide +kernel
theorem dX3_whole_22 : decode cX3_whole 22 = .ok (.getfield 80, 3) := by decide +kernel
theorem dX3_whole_25 : decode cX3_whole 25 = .ok (.iload_n 1, 1) := by decide +kernel
theorem dX3_whole_26 : decode cX3_whole 26 = .ok (.aaload, 1) := by decide +kernel
theorem dX3_whole_27 : decode cX3_whole 27 = .ok (.iload_n 2, 1) := by decide +kernel
theorem dX3_whole_28 : decode cX3_whole 28 = .ok (.putfield 84, 3) := by decide +kernel
theorem dX3_whole_31 : decode cX3_whole 31 = .ok (.iload_n 3, 1) := by decide +kernel
theorem dX3_whole_32 : decode cX3_whole 32 = .ok (.ireturn, 1) := by decide +kernel
set_option maxRecDepth 20000 in
theorem ggX3_works_X3_needSection : GoodIn wsX3_works wsX3_needSection := goodIn_ca (goodIn_r _ [7, 8, 9, 6, 10, 11, 12] (by decide +kernel) (by decide +kernel)) (goodIn_sub (fun _ h => List.mem_cons_of_mem _ (List.mem_append_left _ (List.mem_append_left _ (List.mem_append_right _ h)))) (by decide +kernel))
set_option maxRecDepth 20000 in
theorem gX3_works_X3_needSection : GoodIn wsX3_works (va_wsS RX3 19 yX3_needSection wsX3_needSection) := goodIn_app (goodIn_of _ (by decide +kernel)) ggX3_works_X3_needSection
set_option maxRecDepth 20000 in
theorem ggX3_works_X3_need : GoodIn wsX3_works wsX3_need := goodIn_ca (goodIn_r _ [15, 16, 17] (by decide +kernel) (by decide +kernel)) (goodIn_sub (fun _ h => List.mem_cons_of_mem _ (List.mem_append_left _ (List.mem_append_right _ h))) (by decide +kernel))
set_option maxRecDepth 20000 in
theorem gX3_works_X3_need : GoodIn wsX3_works (va_wsS RX3 27 yX3_need wsX3_need) := goodIn_app (goodIn_of _ (by decide +kernel)) ggX3_works_X3_need
set_option maxRecDepth 20000 in
theorem ggX3_works_X3_needState : GoodIn wsX3_works wsX3_needState := goodIn_ca (goodIn_r _ [20, 21, 22] (by decide +kernel) (by decide +kernel)) (goodIn_sub (fun _ h => List.mem_cons_of_mem _ (List.mem_append_right _ h)) (by decide +kernel))
set_option maxRecDepth 20000 in
theorem gX3_works_X3_needState : GoodIn wsX3_works (va_wsS RX3 60 yX3_needState wsX3_needState) := goodIn_app (goodIn_of _ (by decide +kernel)) ggX3_works_X3_needState
set_option maxRecDepth 20000 in
theorem ggX3_works_X0_hindranceOfWorks : GoodIn wsX3_works wsX0_hindranceOfWorks := goodIn_r _ [27, 28, 29, 30, 31, 32, 33, 34, 35, 26, 36, 37, 38, 39, 40, 41, 42, 43, 6, 44, 45, 46, 47, 48, 49, 50, 51, 62, 63, 64, 65, 76, 77, 78, 79, 80, 81, 82, 83, 84, 85, 86, 87, 88, 89, 90, 91, 92, 93] (by decide +kernel) (by decide +kernel)
set_option maxRecDepth 20000 in
theorem gX3_works_X0_hindranceOfWorks : GoodIn wsX3_works (wsV RX3 93 RX0 yX0_hindranceOfWorks wsX0_hindranceOfWorks) := goodIn_app (goodIn_of _ (by decide +kernel)) ggX3_works_X0_hindranceOfWorks
set_option maxRecDepth 20000 in
theorem ggX3_works_X1_addWorks : GoodIn wsX3_works wsX1_addWorks := goodIn_r _ [56, 57, 58, 59, 66, 67, 68, 69, 70, 71, 72, 73, 74, 75] (by decide +kernel) (by decide +kernel)
set_option maxRecDepth 20000 in
theorem gX3_works_X1_addWorks : GoodIn wsX3_works (wsV RX3 96 RX1 yX1_addWorks wsX1_addWorks) := goodIn_app (goodIn_of _ (by decide +kernel)) ggX3_works_X1_addWorks
theorem dX3_works_0 : decode cX3_works 0 = .ok (.iload_n 1, 1) := by decide +kernel
theorem dX3_works_1 : decode cX3_works 1 = .ok (.invokestatic 19, 3) := by decide +kernel
theorem dX3_works_4 : decode cX3_works 4 = .ok (.iload_n 2, 1) := by decide +kernel
theorem dX3_works_5 : decode cX3_works 5 = .ok (.invokestatic 19, 3) := by decide +kernel
theorem dX3_works_8 : decode cX3_works 8 = .ok (.iload_n 1, 1) := by decide +kernel
theorem dX3_works_9 : decode cX3_works 9 = .ok (.iload_n 2, 1) := by decide +kernel
theorem dX3_works_10 : decode cX3_works 10 = .ok (.if_icmp .gt 7, 3) := by decide +kernel
theorem dX3_works_13 : decode cX3_works 13 = .ok (.iconst 1, 1) := by decide +kernel
theorem dX3_works_14 : decode cX3_works 14 = .ok (.goto 4, 3) := by decide +kernel
theorem dX3_works_17 : decode cX3_works 17 = .ok (.iconst 0, 1) := by decide +kernel
theorem dX3_works_18 : decode cX3_works 18 = .ok (.invokestatic 27, 3) := by decide +kernel
theorem dX3_works_21 : decode cX3_works 21 = .ok (.aload_n 0, 1) := by decide +kernel
theorem dX3_works_22 : decode cX3_works 22 = .ok (.getfield 10, 3) := by decide +kernel
theorem dX3_works_25 : decode cX3_works 25 = .ok (.getfield 31, 3) := by decide +kernel
theorem dX3_works_28 : decode cX3_works 28 = .ok (.getfield 90, 3) := by decide +kernel
theorem dX3_works_31 : decode cX3_works 31 = .ok (.iconst 3, 1) := by decide +kernel
theorem dX3_works_32 : decode cX3_works 32 = .ok (.if_icmp .ge 7, 3) := by decide +kernel
theorem dX3_works_35 : decode cX3_works 35 = .ok (.iconst 1, 1) := by decide +kernel
theorem dX3_works_36 : decode cX3_works 36 = .ok (.goto 4, 3) := by decide +kernel
theorem dX3_works_39 : decode cX3_works 39 = .ok (.iconst 0, 1) := by decide +kernel
theorem dX3_works_40 : decode cX3_works 40 = .ok (.invokestatic 60, 3) := by decide +kernel
theorem dX3_works_43 : decode cX3_works 43 = .ok (.aload_n 0, 1) := by decide +kernel
theorem dX3_works_44 : decode cX3_works 44 = .ok (.getfield 10, 3) := by decide +kernel
theorem dX3_works_47 : decode cX3_works 47 = .ok (.iload_n 1, 1) := by decide +kernel
theorem dX3_works_48 : decode cX3_works 48 = .ok (.iload_n 2, 1) := by decide +kernel
theorem dX3_works_49 : decode cX3_works 49 = .ok (.invokevirtual 93, 3) := by decide +kernel
theorem dX3_works_52 : decode cX3_works 52 = .ok (.istore_n 3, 1) := by decide +kernel
theorem dX3_works_53 : decode cX3_works 53 = .ok (.iload_n 3, 1) := by decide +kernel
theorem dX3_works_54 : decode cX3_works 54 = .ok (.ifCond .eq 7, 3) := by decide +kernel
theorem dX3_works_57 : decode cX3_works 57 = .ok (.iload_n 3, 1) := by decide +kernel
theorem dX3_works_58 : decode cX3_works 58 = .ok (.goto 15, 3) := by decide +kernel
theorem dX3_works_61 : decode cX3_works 61 = .ok (.aload_n 0, 1) := by decide +kernel
theorem dX3_works_62 : decode cX3_works 62 = .ok (.getfield 10, 3) := by decide +kernel
theorem dX3_works_65 : decode cX3_works 65 = .ok (.getfield 31, 3) := by decide +kernel
theorem dX3_works_68 : decode cX3_works 68 = .ok (.iload_n 1, 1) := by decide +kernel
theorem dX3_works_69 : decode cX3_works 69 = .ok (.iload_n 2, 1) := by decide +kernel
theorem dX3_works_70 : decode cX3_works 70 = .ok (.invokevirtual 96, 3) := by decide +kernel
theorem dX3_works_73 : decode cX3_works 73 = .ok (.ireturn, 1) := by decide +kernel
set_option maxRecDepth 20000 in
theorem ggX3_end_X3_needIndex : GoodIn wsX3_end wsX3_needIndex := goodIn_ca (goodIn_r _ [7, 8, 9] (by decide +kernel) (by decide +kernel)) (goodIn_sub (fun _ h => List.mem_cons_of_mem _ (List.mem_append_right _ h)) (by decide +kernel))
set_option maxRecDepth 20000 in
theorem gX3_end_X3_needIndex : GoodIn wsX3_end (va_wsS RX3 99 yX3_needIndex wsX3_needIndex) := goodIn_app (goodIn_of _ (by decide +kernel)) ggX3_end_X3_needIndex
set_option maxRecDepth 20000 in
theorem ggX3_end_X1_removeWorks : GoodIn wsX3_end wsX1_removeWorks := goodIn_r _ [14, 15, 16, 17, 24, 25, 26, 27, 28, 29, 30, 31, 32, 33] (by decide +kernel) (by decide +kernel)
set_option maxRecDepth 20000 in
theorem gX3_end_X1_removeWorks : GoodIn wsX3_end (wsV RX3 103 RX1 yX1_removeWorks wsX1_removeWorks) := goodIn_app (goodIn_of _ (by decide +kernel)) ggX3_end_X1_removeWorks
theorem dX3_end_0 : decode cX3_end 0 = .ok (.iload_n 1, 1) := by decide +kernel
theorem dX3_end_1 : decode cX3_end 1 = .ok (.aload_n 0, 1) := by decide +kernel
theorem dX3_end_2 : decode cX3_end 2 = .ok (.getfield 10, 3) := by decide +kernel
theorem dX3_end_5 : decode cX3_end 5 = .ok (.getfield 31, 3) := by decide +kernel
theorem dX3_end_8 : decode cX3_end 8 = .ok (.getfield 90, 3) := by decide +kernel
theorem dX3_end_11 : decode cX3_end 11 = .ok (.invokestatic 99, 3) := by decide +kernel
theorem dX3_end_14 : decode cX3_end 14 = .ok (.aload_n 0, 1) := by decide +kernel
theorem dX3_end_15 : decode cX3_end 15 = .ok (.getfield 10, 3) := by decide +kernel
theorem dX3_end_18 : decode cX3_end 18 = .ok (.getfield 31, 3) := by decide +kernel
theorem dX3_end_21 : decode cX3_end 21 = .ok (.iload_n 1, 1) := by decide +kernel
theorem dX3_end_22 : decode cX3_end 22 = .ok (.invokevirtual 103, 3) := by decide +kernel
theorem dX3_end_25 : decode cX3_end 25 = .ok (.ireturn, 1) := by decide +kernel
set_option maxRecDepth 20000 in
theorem ggX3_pass_X3_isWithin : GoodIn wsX3_pass wsX3_isWithin := goodIn_r _ [5] (by decide +kernel) (by decide +kernel)
set_option maxRecDepth 20000 in
theorem gX3_pass_X3_isWithin : GoodIn wsX3_pass (va_wsS RX3 23 yX3_isWithin wsX3_isWithin) := goodIn_app (goodIn_of _ (by decide +kernel)) ggX3_pass_X3_isWithin
set_option maxRecDepth 20000 in
theorem ggX3_pass_X3_need : GoodIn wsX3_pass wsX3_need := goodIn_ca (goodIn_r _ [8, 9, 10] (by decide +kernel) (by decide +kernel)) (goodIn_sub (fun _ h => List.mem_cons_of_mem _ (List.mem_append_right _ h)) (by decide +kernel))
set_option maxRecDepth 20000 in
theorem gX3_pass_X3_need : GoodIn wsX3_pass (va_wsS RX3 27 yX3_need wsX3_need) := goodIn_app (goodIn_of _ (by decide +kernel)) ggX3_pass_X3_need
set_option maxRecDepth 20000 in
theorem ggX3_pass_X0_goOn : GoodIn wsX3_pass wsX0_goOn := goodIn_r _ [15, 16, 17, 18, 19, 20, 21, 22, 23, 24, 25, 26, 27, 28, 29, 14, 30, 31, 32, 33, 34, 35, 36, 37, 4, 38, 39, 40, 41, 42, 43, 44, 45, 46, 47, 48, 49, 50, 51, 52, 53, 54, 55, 56, 57, 58, 59, 60, 61, 62, 63, 64, 65, 66, 67, 68, 69, 70, 71, 72, 73, 74, 75, 76, 77, 78, 79, 80, 81, 82, 83, 84, 85, 86, 87, 88, 89, 90, 91, 92, 93, 94, 95, 96, 97, 98, 99, 100, 101, 102, 103, 104, 105, 106, 107, 108, 109, 110, 111, 112, 113, 114, 115, 116, 117, 118, 119, 120, 121, 122, 123, 124, 125, 126, 127, 128, 129, 130, 131, 132, 133, 134, 135, 136, 137, 138, 139, 140, 141, 142, 143, 144, 145, 146, 147, 148, 149, 150, 151, 152, 153, 154, 155, 156, 157, 158, 159, 160, 161, 162, 163, 166, 167, 168, 169, 170, 171, 172, 173, 174, 175, 176, 177, 178, 179, 180, 181, 182, 183, 184, 185, 186, 187, 188, 189, 190, 191, 192, 193, 194, 195, 196, 197] (by decide +kernel) (by decide +kernel)
set_option maxRecDepth 20000 in
theorem gX3_pass_X0_goOn : GoodIn wsX3_pass (wsV RX3 107 RX0 yX0_goOn wsX0_goOn) := goodIn_app (goodIn_of _ (by decide +kernel)) ggX3_pass_X0_goOn
theorem dX3_pass_0 : decode cX3_pass 0 = .ok (.iload_n 1, 1) := by decide +kernel
theorem dX3_pass_1 : decode cX3_pass 1 = .ok (.iconst 1, 1) := by decide +kernel
theorem dX3_pass_2 : decode cX3_pass 2 = .ok (.sipush 300, 3) := by decide +kernel
theorem dX3_pass_5 : decode cX3_pass 5 = .ok (.invokestatic 23, 3) := by decide +kernel
theorem dX3_pass_8 : decode cX3_pass 8 = .ok (.invokestatic 27, 3) := by decide +kernel
theorem dX3_pass_11 : decode cX3_pass 11 = .ok (.iconst 0, 1) := by decide +kernel
theorem dX3_pass_12 : decode cX3_pass 12 = .ok (.istore_n 2, 1) := by decide +kernel
theorem dX3_pass_13 : decode cX3_pass 13 = .ok (.iconst 1, 1) := by decide +kernel
theorem dX3_pass_14 : decode cX3_pass 14 = .ok (.istore_n 3, 1) := by decide +kernel
theorem dX3_pass_15 : decode cX3_pass 15 = .ok (.iload_n 3, 1) := by decide +kernel
theorem dX3_pass_16 : decode cX3_pass 16 = .ok (.iload_n 1, 1) := by decide +kernel
theorem dX3_pass_17 : decode cX3_pass 17 = .ok (.if_icmp .gt 20, 3) := by decide +kernel
theorem dX3_pass_20 : decode cX3_pass 20 = .ok (.iload_n 2, 1) := by decide +kernel
theorem dX3_pass_21 : decode cX3_pass 21 = .ok (.aload_n 0, 1) := by decide +kernel
theorem dX3_pass_22 : decode cX3_pass 22 = .ok (.getfield 10, 3) := by decide +kernel
theorem dX3_pass_25 : decode cX3_pass 25 = .ok (.iconst (-1), 1) := by decide +kernel
theorem dX3_pass_26 : decode cX3_pass 26 = .ok (.invokevirtual 107, 3) := by decide +kernel
theorem dX3_pass_29 : decode cX3_pass 29 = .ok (.iadd, 1) := by decide +kernel
theorem dX3_pass_30 : decode cX3_pass 30 = .ok (.istore_n 2, 1) := by decide +kernel
theorem dX3_pass_31 : decode cX3_pass 31 = .ok (.iinc 3 1, 3) := by decide +kernel
theorem dX3_pass_34 : decode cX3_pass 34 = .ok (.goto (-19), 3) := by decide +kernel
theorem dX3_pass_37 : decode cX3_pass 37 = .ok (.iload_n 2, 1) := by decide +kernel
theorem dX3_pass_38 : decode cX3_pass 38 = .ok (.ireturn, 1) := by decide +kernel
set_option maxRecDepth 20000 in
theorem ggX3_ofSection_X3_needSection : GoodIn wsX3_ofSection wsX3_needSection := goodIn_ca (goodIn_r _ [9, 10, 11, 8, 12, 13, 14] (by decide +kernel) (by decide +kernel)) (goodIn_sub (fun _ h => List.mem_cons_of_mem _ (List.mem_append_left _ (List.mem_append_right _ h))) (by decide +kernel))
set_option maxRecDepth 20000 in
theorem gX3_ofSection_X3_needSection : GoodIn wsX3_ofSection (va_wsS RX3 19 yX3_needSection wsX3_needSection) := goodIn_app (goodIn_of _ (by decide +kernel)) ggX3_ofSection_X3_needSection
set_option maxRecDepth 20000 in
theorem ggX3_ofSection_X3_isWithin : GoodIn wsX3_ofSection wsX3_isWithin := goodIn_r _ [17] (by decide +kernel) (by decide +kernel)
set_option maxRecDepth 20000 in
theorem gX3_ofSection_X3_isWithin : GoodIn wsX3_ofSection (va_wsS RX3 23 yX3_isWithin wsX3_isWithin) := goodIn_app (goodIn_of _ (by decide +kernel)) ggX3_ofSection_X3_isWithin
set_option maxRecDepth 20000 in
theorem ggX3_ofSection_X3_need : GoodIn wsX3_ofSection wsX3_need := goodIn_ca (goodIn_r _ [20, 21, 22] (by decide +kernel) (by decide +kernel)) (goodIn_sub (fun _ h => List.mem_cons_of_mem _ (List.mem_append_right _ h)) (by decide +kernel))
set_option maxRecDepth 20000 in
theorem gX3_ofSection_X3_need : GoodIn wsX3_ofSection (va_wsS RX3 27 yX3_need wsX3_need) := goodIn_app (goodIn_of _ (by decide +kernel)) ggX3_ofSection_X3_need
set_option maxRecDepth 20000 in
theorem ggX3_ofSection_X0_countOn : GoodIn wsX3_ofSection wsX0_countOn := goodIn_r _ [27, 28, 29, 30, 31, 32, 33, 34, 35, 36, 37, 8, 38, 39, 40, 41, 42, 43, 54, 55, 56, 57, 68, 69, 70, 71, 72, 73, 74, 75, 76, 77, 78, 79, 80, 81, 82, 83, 84, 85] (by decide +kernel) (by decide +kernel)
set_option maxRecDepth 20000 in
theorem gX3_ofSection_X0_countOn : GoodIn wsX3_ofSection (wsV RX3 110 RX0 yX0_countOn wsX0_countOn) := goodIn_app (goodIn_of _ (by decide +kernel)) ggX3_ofSection_X0_countOn
set_option maxRecDepth 20000 in
theorem ggX3_ofSection_X1_hasWorksOn : GoodIn wsX3_ofSection wsX1_hasWorksOn := goodIn_r _ [48, 49, 50, 51, 16, 8, 17, 58, 59, 60, 61, 62, 63, 64, 65, 66, 67] (by decide +kernel) (by decide +kernel)
set_option maxRecDepth 20000 in
theorem gX3_ofSection_X1_hasWorksOn : GoodIn wsX3_ofSection (wsV RX3 113 RX1 yX1_hasWorksOn wsX1_hasWorksOn) := goodIn_app (goodIn_of _ (by decide +kernel)) ggX3_ofSection_X1_hasWorksOn
theorem dX3_ofSection_0 : decode cX3_ofSection 0 = .ok (.iload_n 1, 1) := by decide +kernel
theorem dX3_ofSection_1 : decode cX3_ofSection 1 = .ok (.invokestatic 19, 3) := by decide +kernel
theorem dX3_ofSection_4 : decode cX3_ofSection 4 = .ok (.iload_n 2, 1) := by decide +kernel
theorem dX3_ofSection_5 : decode cX3_ofSection 5 = .ok (.iconst 0, 1) := by decide +kernel
theorem dX3_ofSection_6 : decode cX3_ofSection 6 = .ok (.iconst 4, 1) := by decide +kernel
theorem dX3_ofSection_7 : decode cX3_ofSection 7 = .ok (.invokestatic 23, 3) := by decide +kernel
theorem dX3_ofSection_10 : decode cX3_ofSection 10 = .ok (.invokestatic 27, 3) := by decide +kernel
theorem dX3_ofSection_13 : decode cX3_ofSection 13 = .ok (.iload_n 2, 1) := by decide +kernel
theorem dX3_ofSection_14 : decode cX3_ofSection 14 = .ok (.tableswitch 87 0 3 #[30, 43, 56, 77], 30) := by decide +kernel
theorem dX3_ofSection_44 : decode cX3_ofSection 44 = .ok (.aload_n 0, 1) := by decide +kernel
theorem dX3_ofSection_45 : decode cX3_ofSection 45 = .ok (.getfield 10, 3) := by decide +kernel
theorem dX3_ofSection_48 : decode cX3_ofSection 48 = .ok (.getfield 31, 3) := by decide +kernel
theorem dX3_ofSection_51 : decode cX3_ofSection 51 = .ok (.getfield 35, 3) := by decide +kernel
theorem dX3_ofSection_54 : decode cX3_ofSection 54 = .ok (.iload_n 1, 1) := by decide +kernel
theorem dX3_ofSection_55 : decode cX3_ofSection 55 = .ok (.iaload, 1) := by decide +kernel
theorem dX3_ofSection_56 : decode cX3_ofSection 56 = .ok (.ireturn, 1) := by decide +kernel
theorem dX3_ofSection_57 : decode cX3_ofSection 57 = .ok (.aload_n 0, 1) := by decide +kernel
theorem dX3_ofSection_58 : decode cX3_ofSection 58 = .ok (.getfield 10, 3) := by decide +kernel
theorem dX3_ofSection_61 : decode cX3_ofSection 61 = .ok (.getfield 31, 3) := by decide +kernel
theorem dX3_ofSection_64 : decode cX3_ofSection 64 = .ok (.getfield 41, 3) := by decide +kernel
theorem dX3_ofSection_67 : decode cX3_ofSection 67 = .ok (.iload_n 1, 1) := by decide +kernel
theorem dX3_ofSection_68 : decode cX3_ofSection 68 = .ok (.iaload, 1) := by decide +kernel
theorem dX3_ofSection_69 : decode cX3_ofSection 69 = .ok (.ireturn, 1) := by decide +kernel
theorem dX3_ofSection_70 : decode cX3_ofSection 70 = .ok (.aload_n 0, 1) := by decide +kernel
theorem dX3_ofSection_71 : decode cX3_ofSection 71 = .ok (.getfield 10, 3) := by decide +kernel
theorem dX3_ofSection_74 : decode cX3_ofSection 74 = .ok (.getfield 31, 3) := by decide +kernel
theorem dX3_ofSection_77 : decode cX3_ofSection 77 = .ok (.getfield 44, 3) := by decide +kernel
theorem dX3_ofSection_80 : decode cX3_ofSection 80 = .ok (.iload_n 1, 1) := by decide +kernel
theorem dX3_ofSection_81 : decode cX3_ofSection 81 = .ok (.baload, 1) := by decide +kernel
theorem dX3_ofSection_82 : decode cX3_ofSection 82 = .ok (.ifCond .eq 7, 3) := by decide +kernel
theorem dX3_ofSection_85 : decode cX3_ofSection 85 = .ok (.iconst 1, 1) := by decide +kernel
theorem dX3_ofSection_86 : decode cX3_ofSection 86 = .ok (.goto 4, 3) := by decide +kernel
theorem dX3_ofSection_89 : decode cX3_ofSection 89 = .ok (.iconst 0, 1) := by decide +kernel
theorem dX3_ofSection_90 : decode cX3_ofSection 90 = .ok (.ireturn, 1) := by decide +kernel
theorem dX3_ofSection_91 : decode cX3_ofSection 91 = .ok (.aload_n 0, 1) := by decide +kernel
theorem dX3_ofSection_92 : decode cX3_ofSection 92 = .ok (.getfield 10, 3) := by decide +kernel
theorem dX3_ofSection_95 : decode cX3_ofSection 95 = .ok (.iload_n 1, 1) := by decide +kernel
theorem dX3_ofSection_96 : decode cX3_ofSection 96 = .ok (.iload_n 1, 1) := by decide +kernel
theorem dX3_ofSection_97 : decode cX3_ofSection 97 = .ok (.invokevirtual 110, 3) := by decide +kernel
theorem dX3_ofSection_100 : decode cX3_ofSection 100 = .ok (.ireturn, 1) := by decide +kernel
theorem dX3_ofSection_101 : decode cX3_ofSection 101 = .ok (.aload_n 0, 1) := by decide +kernel
theorem dX3_ofSection_102 : decode cX3_ofSection 102 = .ok (.getfield 10, 3) := by decide +kernel
theorem dX3_ofSection_105 : decode cX3_ofSection 105 = .ok (.getfield 31, 3) := by decide +kernel
theorem dX3_ofSection_108 : decode cX3_ofSection 108 = .ok (.iload_n 1, 1) := by decide +kernel
theorem dX3_ofSection_109 : decode cX3_ofSection 109 = .ok (.invokevirtual 113, 3) := by decide +kernel
theorem dX3_ofSection_112 : decode cX3_ofSection 112 = .ok (.ifCond .eq 7, 3) := by decide +kernel
theorem dX3_ofSection_115 : decode cX3_ofSection 115 = .ok (.iconst 1, 1) := by decide +kernel
theorem dX3_ofSection_116 : decode cX3_ofSection 116 = .ok (.goto 4, 3) := by decide +kernel
theorem dX3_ofSection_119 : decode cX3_ofSection 119 = .ok (.iconst 0, 1) := by decide +kernel
theorem dX3_ofSection_120 : decode cX3_ofSection 120 = .ok (.ireturn, 1) := by decide +kernel
set_option maxRecDepth 20000 in
theorem ggX3_ofTrain_X3_needTrain : GoodIn wsX3_ofTrain wsX3_needTrain := goodIn_ca (goodIn_r _ [9, 1, 10, 11, 12, 8, 13, 14, 15, 71, 72, 73, 74, 75, 76] (by decide +kernel) (by decide +kernel)) (goodIn_sub (fun _ h => List.mem_cons_of_mem _ (List.mem_append_left _ (List.mem_append_right _ h))) (by decide +kernel))
set_option maxRecDepth 20000 in
theorem gX3_ofTrain_X3_needTrain : GoodIn wsX3_ofTrain (wsV RX3 77 RX3 yX3_needTrain wsX3_needTrain) := goodIn_app (goodIn_of _ (by decide +kernel)) ggX3_ofTrain_X3_needTrain
set_option maxRecDepth 20000 in
theorem ggX3_ofTrain_X3_isWithin : GoodIn wsX3_ofTrain wsX3_isWithin := goodIn_r _ [18] (by decide +kernel) (by decide +kernel)
set_option maxRecDepth 20000 in
theorem gX3_ofTrain_X3_isWithin : GoodIn wsX3_ofTrain (va_wsS RX3 23 yX3_isWithin wsX3_isWithin) := goodIn_app (goodIn_of _ (by decide +kernel)) ggX3_ofTrain_X3_isWithin
set_option maxRecDepth 20000 in
theorem ggX3_ofTrain_X3_need : GoodIn wsX3_ofTrain wsX3_need := goodIn_ca (goodIn_r _ [21, 22, 23] (by decide +kernel) (by decide +kernel)) (goodIn_sub (fun _ h => List.mem_cons_of_mem _ (List.mem_append_right _ h)) (by decide +kernel))
set_option maxRecDepth 20000 in
theorem gX3_ofTrain_X3_need : GoodIn wsX3_ofTrain (va_wsS RX3 27 yX3_need wsX3_need) := goodIn_app (goodIn_of _ (by decide +kernel)) ggX3_ofTrain_X3_need
set_option maxRecDepth 20000 in
theorem ggX3_ofTrain_X1_nextStation : GoodIn wsX3_ofTrain wsX1_nextStation := goodIn_r _ [28, 29, 30, 95, 96, 97, 98, 99, 100, 101, 102, 103, 104] (by decide +kernel) (by decide +kernel)
set_option maxRecDepth 20000 in
theorem gX3_ofTrain_X1_nextStation : GoodIn wsX3_ofTrain (wsV RX3 119 RX1 yX1_nextStation wsX1_nextStation) := goodIn_app (goodIn_of _ (by decide +kernel)) ggX3_ofTrain_X1_nextStation
set_option maxRecDepth 20000 in
theorem ggX3_ofTrain_X0_aheadOf : GoodIn wsX3_ofTrain wsX0_aheadOf := goodIn_r _ [35, 36, 37, 73, 74, 75, 76, 77, 78, 79, 80, 81, 82, 83, 84, 85, 86, 87, 88, 89, 90, 91, 92, 93, 94] (by decide +kernel) (by decide +kernel)
set_option maxRecDepth 20000 in
theorem gX3_ofTrain_X0_aheadOf : GoodIn wsX3_ofTrain (wsV RX3 122 RX0 yX0_aheadOf wsX0_aheadOf) := goodIn_app (goodIn_of _ (by decide +kernel)) ggX3_ofTrain_X0_aheadOf
set_option maxRecDepth 20000 in
theorem ggX3_ofTrain_X2_numberNow : GoodIn wsX3_ofTrain wsX2_numberNow := goodIn_r _ [42, 43, 44, 45, 46, 47, 48, 49, 50, 51, 52, 41, 53, 54, 77, 78, 79, 80, 81, 82, 83, 84, 85, 86, 87, 88, 89, 90, 91, 92, 93, 94] (by decide +kernel) (by decide +kernel)
set_option maxRecDepth 20000 in
theorem gX3_ofTrain_X2_numberNow : GoodIn wsX3_ofTrain (wsV RX3 125 RX2 yX2_numberNow wsX2_numberNow) := goodIn_app (goodIn_of _ (by decide +kernel)) ggX3_ofTrain_X2_numberNow
set_option maxRecDepth 20000 in
theorem ggX3_ofTrain_X2_numberKept : GoodIn wsX3_ofTrain wsX2_numberKept := goodIn_r _ [58, 59, 60, 61, 62, 63, 64, 65, 66, 67, 41, 68, 69, 70, 77, 78, 79, 80, 81, 82, 83, 84, 85, 86, 87, 88, 89, 90, 91, 92, 93, 94] (by decide +kernel) (by decide +kernel)
set_option maxRecDepth 20000 in
theorem gX3_ofTrain_X2_numberKept : GoodIn wsX3_ofTrain (wsV RX3 128 RX2 yX2_numberKept wsX2_numberKept) := goodIn_app (goodIn_of _ (by decide +kernel)) ggX3_ofTrain_X2_numberKept
theorem dX3_ofTrain_0 : decode cX3_ofTrain 0 = .ok (.aload_n 0, 1) := by decide +kernel
theorem dX3_ofTrain_1 : decode cX3_ofTrain 1 = .ok (.iload_n 1, 1) := by decide +kernel
theorem dX3_ofTrain_2 : decode cX3_ofTrain 2 = .ok (.invokevirtual 77, 3) := by decide +kernel
theorem dX3_ofTrain_5 : decode cX3_ofTrain 5 = .ok (.iload_n 2, 1) := by decide +kernel
theorem dX3_ofTrain_6 : decode cX3_ofTrain 6 = .ok (.iconst 0, 1) := by decide +kernel
theorem dX3_ofTrain_7 : decode cX3_ofTrain 7 = .ok (.bipush 15, 2) := by decide +kernel
theorem dX3_ofTrain_9 : decode cX3_ofTrain 9 = .ok (.invokestatic 23, 3) := by decide +kernel
theorem dX3_ofTrain_12 : decode cX3_ofTrain 12 = .ok (.invokestatic 27, 3) := by decide +kernel
theorem dX3_ofTrain_15 : decode cX3_ofTrain 15 = .ok (.iload_n 2, 1) := by decide +kernel
theorem dX3_ofTrain_16 : decode cX3_ofTrain 16 = .ok (.bipush 6, 2) := by decide +kernel
theorem dX3_ofTrain_18 : decode cX3_ofTrain 18 = .ok (.if_icmp .ne 26, 3) := by decide +kernel
theorem dX3_ofTrain_21 : decode cX3_ofTrain 21 = .ok (.aload_n 0, 1) := by decide +kernel
theorem dX3_ofTrain_22 : decode cX3_ofTrain 22 = .ok (.getfield 10, 3) := by decide +kernel
theorem dX3_ofTrain_25 : decode cX3_ofTrain 25 = .ok (.getfield 31, 3) := by decide +kernel
theorem dX3_ofTrain_28 : decode cX3_ofTrain 28 = .ok (.aload_n 0, 1) := by decide +kernel
theorem dX3_ofTrain_29 : decode cX3_ofTrain 29 = .ok (.getfield 10, 3) := by decide +kernel
theorem dX3_ofTrain_32 : decode cX3_ofTrain 32 = .ok (.getfield 80, 3) := by decide +kernel
theorem dX3_ofTrain_35 : decode cX3_ofTrain 35 = .ok (.iload_n 1, 1) := by decide +kernel
theorem dX3_ofTrain_36 : decode cX3_ofTrain 36 = .ok (.aaload, 1) := by decide +kernel
theorem dX3_ofTrain_37 : decode cX3_ofTrain 37 = .ok (.getfield 116, 3) := by decide +kernel
theorem dX3_ofTrain_40 : decode cX3_ofTrain 40 = .ok (.invokevirtual 119, 3) := by decide +kernel
theorem dX3_ofTrain_43 : decode cX3_ofTrain 43 = .ok (.ireturn, 1) := by decide +kernel
theorem dX3_ofTrain_44 : decode cX3_ofTrain 44 = .ok (.iload_n 2, 1) := by decide +kernel
theorem dX3_ofTrain_45 : decode cX3_ofTrain 45 = .ok (.bipush 15, 2) := by decide +kernel
theorem dX3_ofTrain_47 : decode cX3_ofTrain 47 = .ok (.if_icmp .ne 12, 3) := by decide +kernel
theorem dX3_ofTrain_50 : decode cX3_ofTrain 50 = .ok (.aload_n 0, 1) := by decide +kernel
theorem dX3_ofTrain_51 : decode cX3_ofTrain 51 = .ok (.getfield 10, 3) := by decide +kernel
theorem dX3_ofTrain_54 : decode cX3_ofTrain 54 = .ok (.iload_n 1, 1) := by decide +kernel
theorem dX3_ofTrain_55 : decode cX3_ofTrain 55 = .ok (.invokevirtual 122, 3) := by decide +kernel
theorem dX3_ofTrain_58 : decode cX3_ofTrain 58 = .ok (.ireturn, 1) := by decide +kernel
theorem dX3_ofTrain_59 : decode cX3_ofTrain 59 = .ok (.iload_n 2, 1) := by decide +kernel
theorem dX3_ofTrain_60 : decode cX3_ofTrain 60 = .ok (.bipush 8, 2) := by decide +kernel
theorem dX3_ofTrain_62 : decode cX3_ofTrain 62 = .ok (.if_icmp .ge 19, 3) := by decide +kernel
theorem dX3_ofTrain_65 : decode cX3_ofTrain 65 = .ok (.aload_n 0, 1) := by decide +kernel
theorem dX3_ofTrain_66 : decode cX3_ofTrain 66 = .ok (.getfield 10, 3) := by decide +kernel
theorem dX3_ofTrain_69 : decode cX3_ofTrain 69 = .ok (.getfield 80, 3) := by decide +kernel
theorem dX3_ofTrain_72 : decode cX3_ofTrain 72 = .ok (.iload_n 1, 1) := by decide +kernel
theorem dX3_ofTrain_73 : decode cX3_ofTrain 73 = .ok (.aaload, 1) := by decide +kernel
theorem dX3_ofTrain_74 : decode cX3_ofTrain 74 = .ok (.iload_n 2, 1) := by decide +kernel
theorem dX3_ofTrain_75 : decode cX3_ofTrain 75 = .ok (.invokevirtual 125, 3) := by decide +kernel
theorem dX3_ofTrain_78 : decode cX3_ofTrain 78 = .ok (.goto 16, 3) := by decide +kernel
theorem dX3_ofTrain_81 : decode cX3_ofTrain 81 = .ok (.aload_n 0, 1) := by decide +kernel
theorem dX3_ofTrain_82 : decode cX3_ofTrain 82 = .ok (.getfield 10, 3) := by decide +kernel
theorem dX3_ofTrain_85 : decode cX3_ofTrain 85 = .ok (.getfield 80, 3) := by decide +kernel
theorem dX3_ofTrain_88 : decode cX3_ofTrain 88 = .ok (.iload_n 1, 1) := by decide +kernel
theorem dX3_ofTrain_89 : decode cX3_ofTrain 89 = .ok (.aaload, 1) := by decide +kernel
theorem dX3_ofTrain_90 : decode cX3_ofTrain 90 = .ok (.iload_n 2, 1) := by decide +kernel
theorem dX3_ofTrain_91 : decode cX3_ofTrain 91 = .ok (.invokevirtual 128, 3) := by decide +kernel
theorem dX3_ofTrain_94 : decode cX3_ofTrain 94 = .ok (.ireturn, 1) := by decide +kernel
set_option maxRecDepth 20000 in
theorem ggX3_stops_X3_needTrain : GoodIn wsX3_stops wsX3_needTrain := goodIn_ca (goodIn_r _ [7, 1, 8, 9, 10, 6, 11, 12, 13, 40, 41, 42, 43, 44, 45] (by decide +kernel) (by decide +kernel)) (goodIn_sub (fun _ h => List.mem_cons_of_mem _ (List.mem_append_left _ (List.mem_append_right _ h))) (by decide +kernel))
set_option maxRecDepth 20000 in
theorem gX3_stops_X3_needTrain : GoodIn wsX3_stops (wsV RX3 77 RX3 yX3_needTrain wsX3_needTrain) := goodIn_app (goodIn_of _ (by decide +kernel)) ggX3_stops_X3_needTrain
set_option maxRecDepth 20000 in
theorem ggX3_stops_X3_isWithin : GoodIn wsX3_stops wsX3_isWithin := goodIn_r _ [16] (by decide +kernel) (by decide +kernel)
set_option maxRecDepth 20000 in
theorem gX3_stops_X3_isWithin : GoodIn wsX3_stops (va_wsS RX3 23 yX3_isWithin wsX3_isWithin) := goodIn_app (goodIn_of _ (by decide +kernel)) ggX3_stops_X3_isWithin
set_option maxRecDepth 20000 in
theorem ggX3_stops_X3_need : GoodIn wsX3_stops wsX3_need := goodIn_ca (goodIn_r _ [19, 20, 21] (by decide +kernel) (by decide +kernel)) (goodIn_sub (fun _ h => List.mem_cons_of_mem _ (List.mem_append_right _ h)) (by decide +kernel))
set_option maxRecDepth 20000 in
theorem gX3_stops_X3_need : GoodIn wsX3_stops (va_wsS RX3 27 yX3_need wsX3_need) := goodIn_app (goodIn_of _ (by decide +kernel)) ggX3_stops_X3_need
set_option maxRecDepth 20000 in
theorem ggX3_stops_X0_holdOf : GoodIn wsX3_stops wsX0_holdOf := goodIn_r _ [26, 27, 28, 29, 30, 31, 32, 33, 34, 35, 6, 36, 46, 47, 48, 49, 50, 51, 52, 53, 54, 55, 56, 57, 58, 59, 60, 61, 62, 63, 42, 43, 44, 45, 64, 65, 66, 67, 68, 69, 70, 71, 72, 73] (by decide +kernel) (by decide +kernel)
set_option maxRecDepth 20000 in
theorem gX3_stops_X0_holdOf : GoodIn wsX3_stops (wsV RX3 131 RX0 yX0_holdOf wsX0_holdOf) := goodIn_app (goodIn_of _ (by decide +kernel)) ggX3_stops_X0_holdOf
set_option maxRecDepth 20000 in
theorem ggX3_stops_X3_stopMetres : GoodIn wsX3_stops wsX3_stopMetres := goodIn_r _ [39] (by decide +kernel) (by decide +kernel)
set_option maxRecDepth 20000 in
theorem gX3_stops_X3_stopMetres : GoodIn wsX3_stops (va_wsS RX3 135 yX3_stopMetres wsX3_stopMetres) := goodIn_app (goodIn_of _ (by decide +kernel)) ggX3_stops_X3_stopMetres
theorem dX3_stops_0 : decode cX3_stops 0 = .ok (.aload_n 0, 1) := by decide +kernel
theorem dX3_stops_1 : decode cX3_stops 1 = .ok (.iload_n 1, 1) := by decide +kernel
theorem dX3_stops_2 : decode cX3_stops 2 = .ok (.invokevirtual 77, 3) := by decide +kernel
theorem dX3_stops_5 : decode cX3_stops 5 = .ok (.iload_n 2, 1) := by decide +kernel
theorem dX3_stops_6 : decode cX3_stops 6 = .ok (.iconst 0, 1) := by decide +kernel
theorem dX3_stops_7 : decode cX3_stops 7 = .ok (.bipush 40, 2) := by decide +kernel
theorem dX3_stops_9 : decode cX3_stops 9 = .ok (.invokestatic 23, 3) := by decide +kernel
theorem dX3_stops_12 : decode cX3_stops 12 = .ok (.invokestatic 27, 3) := by decide +kernel
theorem dX3_stops_15 : decode cX3_stops 15 = .ok (.iload_n 2, 1) := by decide +kernel
theorem dX3_stops_16 : decode cX3_stops 16 = .ok (.aload_n 0, 1) := by decide +kernel
theorem dX3_stops_17 : decode cX3_stops 17 = .ok (.getfield 10, 3) := by decide +kernel
theorem dX3_stops_20 : decode cX3_stops 20 = .ok (.aload_n 0, 1) := by decide +kernel
theorem dX3_stops_21 : decode cX3_stops 21 = .ok (.getfield 10, 3) := by decide +kernel
theorem dX3_stops_24 : decode cX3_stops 24 = .ok (.getfield 80, 3) := by decide +kernel
theorem dX3_stops_27 : decode cX3_stops 27 = .ok (.iload_n 1, 1) := by decide +kernel
theorem dX3_stops_28 : decode cX3_stops 28 = .ok (.aaload, 1) := by decide +kernel
theorem dX3_stops_29 : decode cX3_stops 29 = .ok (.invokevirtual 131, 3) := by decide +kernel
theorem dX3_stops_32 : decode cX3_stops 32 = .ok (.invokestatic 135, 3) := by decide +kernel
theorem dX3_stops_35 : decode cX3_stops 35 = .ok (.ireturn, 1) := by decide +kernel
set_option maxRecDepth 20000 in
theorem ggX3_may_X3_needTrain : GoodIn wsX3_may wsX3_needTrain := goodIn_ca (goodIn_r _ [8, 1, 9, 10, 11, 7, 12, 13, 14, 62, 63, 64, 65, 66, 67] (by decide +kernel) (by decide +kernel)) (goodIn_sub (fun _ h => List.mem_cons_of_mem _ (List.mem_append_right _ h)) (by decide +kernel))
set_option maxRecDepth 20000 in
theorem gX3_may_X3_needTrain : GoodIn wsX3_may (wsV RX3 77 RX3 yX3_needTrain wsX3_needTrain) := goodIn_app (goodIn_of _ (by decide +kernel)) ggX3_may_X3_needTrain
set_option maxRecDepth 20000 in
theorem ggX3_may_X0_allowedSpeed : GoodIn wsX3_may wsX0_allowedSpeed := goodIn_r _ [19, 20, 21, 22, 23, 24, 25, 26, 27, 28, 29, 30, 31, 32, 33, 34, 35, 36, 37, 38, 18, 39, 40, 41, 42, 43, 44, 45, 7, 46, 47, 48, 49, 50, 51, 52, 53, 54, 55, 56, 57, 58, 59, 60, 61, 68, 69, 70, 71, 72, 73, 74, 75, 76, 77, 78, 79, 80, 81, 82, 83, 84, 85, 64, 65, 66, 67, 86, 87, 88, 89, 90, 91, 92, 93, 94, 95] (by decide +kernel) (by decide +kernel)
set_option maxRecDepth 20000 in
theorem gX3_may_X0_allowedSpeed : GoodIn wsX3_may (wsV RX3 141 RX0 yX0_allowedSpeed wsX0_allowedSpeed) := goodIn_app (goodIn_of _ (by decide +kernel)) ggX3_may_X0_allowedSpeed
theorem dX3_may_0 : decode cX3_may 0 = .ok (.aload_n 0, 1) := by decide +kernel
theorem dX3_may_1 : decode cX3_may 1 = .ok (.iload_n 1, 1) := by decide +kernel
theorem dX3_may_2 : decode cX3_may 2 = .ok (.invokevirtual 77, 3) := by decide +kernel
theorem dX3_may_5 : decode cX3_may 5 = .ok (.aload_n 0, 1) := by decide +kernel
theorem dX3_may_6 : decode cX3_may 6 = .ok (.getfield 10, 3) := by decide +kernel
theorem dX3_may_9 : decode cX3_may 9 = .ok (.getfield 80, 3) := by decide +kernel
theorem dX3_may_12 : decode cX3_may 12 = .ok (.iload_n 1, 1) := by decide +kernel
theorem dX3_may_13 : decode cX3_may 13 = .ok (.aaload, 1) := by decide +kernel
theorem dX3_may_14 : decode cX3_may 14 = .ok (.getfield 138, 3) := by decide +kernel
theorem dX3_may_17 : decode cX3_may 17 = .ok (.ifCond .eq 7, 3) := by decide +kernel
theorem dX3_may_20 : decode cX3_may 20 = .ok (.iconst 0, 1) := by decide +kernel
theorem dX3_may_21 : decode cX3_may 21 = .ok (.goto 19, 3) := by decide +kernel
theorem dX3_may_24 : decode cX3_may 24 = .ok (.aload_n 0, 1) := by decide +kernel
theorem dX3_may_25 : decode cX3_may 25 = .ok (.getfield 10, 3) := by decide +kernel
theorem dX3_may_28 : decode cX3_may 28 = .ok (.aload_n 0, 1) := by decide +kernel
theorem dX3_may_29 : decode cX3_may 29 = .ok (.getfield 10, 3) := by decide +kernel
theorem dX3_may_32 : decode cX3_may 32 = .ok (.getfield 80, 3) := by decide +kernel
theorem dX3_may_35 : decode cX3_may 35 = .ok (.iload_n 1, 1) := by decide +kernel
theorem dX3_may_36 : decode cX3_may 36 = .ok (.aaload, 1) := by decide +kernel
theorem dX3_may_37 : decode cX3_may 37 = .ok (.invokevirtual 141, 3) := by decide +kernel
theorem dX3_may_40 : decode cX3_may 40 = .ok (.ireturn, 1) := by decide +kernel
set_option maxRecDepth 20000 in
theorem ggX3_why_X3_needTrain : GoodIn wsX3_why wsX3_needTrain := goodIn_ca (goodIn_r _ [8, 1, 9, 10, 11, 7, 12, 13, 14, 66, 67, 68, 69, 70, 71] (by decide +kernel) (by decide +kernel)) (goodIn_sub (fun _ h => List.mem_cons_of_mem _ (List.mem_append_right _ h)) (by decide +kernel))
set_option maxRecDepth 20000 in
theorem gX3_why_X3_needTrain : GoodIn wsX3_why (wsV RX3 77 RX3 yX3_needTrain wsX3_needTrain) := goodIn_app (goodIn_of _ (by decide +kernel)) ggX3_why_X3_needTrain
set_option maxRecDepth 20000 in
theorem ggX3_why_X0_reasonOf : GoodIn wsX3_why wsX0_reasonOf := goodIn_r _ [19, 20, 21, 22, 23, 24, 18, 25, 26, 27, 28, 29, 30, 31, 32, 33, 34, 35, 36, 37, 38, 39, 40, 41, 42, 43, 44, 45, 46, 47, 48, 49, 50, 51, 52, 53, 7, 54, 55, 56, 57, 58, 59, 60, 61, 62, 63, 64, 65, 68, 69, 70, 71, 72, 73, 74, 75, 76, 77, 78, 79, 80, 81, 82, 83, 84, 85, 86, 87, 88, 89, 90, 91, 92, 93, 94, 95, 96, 97, 98, 99] (by decide +kernel) (by decide +kernel)
set_option maxRecDepth 20000 in
theorem gX3_why_X0_reasonOf : GoodIn wsX3_why (wsV RX3 144 RX0 yX0_reasonOf wsX0_reasonOf) := goodIn_app (goodIn_of _ (by decide +kernel)) ggX3_why_X0_reasonOf
theorem dX3_why_0 : decode cX3_why 0 = .ok (.aload_n 0, 1) := by decide +kernel
theorem dX3_why_1 : decode cX3_why 1 = .ok (.iload_n 1, 1) := by decide +kernel
theorem dX3_why_2 : decode cX3_why 2 = .ok (.invokevirtual 77, 3) := by decide +kernel
theorem dX3_why_5 : decode cX3_why 5 = .ok (.aload_n 0, 1) := by decide +kernel
theorem dX3_why_6 : decode cX3_why 6 = .ok (.getfield 10, 3) := by decide +kernel
theorem dX3_why_9 : decode cX3_why 9 = .ok (.getfield 80, 3) := by decide +kernel
theorem dX3_why_12 : decode cX3_why 12 = .ok (.iload_n 1, 1) := by decide +kernel
theorem dX3_why_13 : decode cX3_why 13 = .ok (.aaload, 1) := by decide +kernel
theorem dX3_why_14 : decode cX3_why 14 = .ok (.getfield 138, 3) := by decide +kernel
theorem dX3_why_17 : decode cX3_why 17 = .ok (.ifCond .eq 7, 3) := by decide +kernel
theorem dX3_why_20 : decode cX3_why 20 = .ok (.iconst (-1), 1) := by decide +kernel
theorem dX3_why_21 : decode cX3_why 21 = .ok (.goto 11, 3) := by decide +kernel
theorem dX3_why_24 : decode cX3_why 24 = .ok (.aload_n 0, 1) := by decide +kernel
theorem dX3_why_25 : decode cX3_why 25 = .ok (.getfield 10, 3) := by decide +kernel
theorem dX3_why_28 : decode cX3_why 28 = .ok (.iload_n 1, 1) := by decide +kernel
theorem dX3_why_29 : decode cX3_why 29 = .ok (.invokevirtual 144, 3) := by decide +kernel
theorem dX3_why_32 : decode cX3_why 32 = .ok (.ireturn, 1) := by decide +kernel
set_option maxRecDepth 20000 in
theorem ggX3_ofStation_X3_needIndex : GoodIn wsX3_ofStation wsX3_needIndex := goodIn_ca (goodIn_r _ [10, 11, 12] (by decide +kernel) (by decide +kernel)) (goodIn_sub (fun _ h => List.mem_cons_of_mem _ (List.mem_append_left _ (List.mem_append_right _ h))) (by decide +kernel))
set_option maxRecDepth 20000 in
theorem gX3_ofStation_X3_needIndex : GoodIn wsX3_ofStation (va_wsS RX3 99 yX3_needIndex wsX3_needIndex) := goodIn_app (goodIn_of _ (by decide +kernel)) ggX3_ofStation_X3_needIndex
set_option maxRecDepth 20000 in
theorem ggX3_ofStation_X3_isWithin : GoodIn wsX3_ofStation wsX3_isWithin := goodIn_r _ [15] (by decide +kernel) (by decide +kernel)
set_option maxRecDepth 20000 in
theorem gX3_ofStation_X3_isWithin : GoodIn wsX3_ofStation (va_wsS RX3 23 yX3_isWithin wsX3_isWithin) := goodIn_app (goodIn_of _ (by decide +kernel)) ggX3_ofStation_X3_isWithin
set_option maxRecDepth 20000 in
theorem ggX3_ofStation_X3_need : GoodIn wsX3_ofStation wsX3_need := goodIn_ca (goodIn_r _ [18, 19, 20] (by decide +kernel) (by decide +kernel)) (goodIn_sub (fun _ h => List.mem_cons_of_mem _ (List.mem_append_right _ h)) (by decide +kernel))
set_option maxRecDepth 20000 in
theorem gX3_ofStation_X3_need : GoodIn wsX3_ofStation (va_wsS RX3 27 yX3_need wsX3_need) := goodIn_app (goodIn_of _ (by decide +kernel)) ggX3_ofStation_X3_need
theorem dX3_ofStation_0 : decode cX3_ofStation 0 = .ok (.iload_n 1, 1) := by decide +kernel
theorem dX3_ofStation_1 : decode cX3_ofStation 1 = .ok (.aload_n 0, 1) := by decide +kernel
theorem dX3_ofStation_2 : decode cX3_ofStation 2 = .ok (.getfield 10, 3) := by decide +kernel
theorem dX3_ofStation_5 : decode cX3_ofStation 5 = .ok (.getfield 31, 3) := by decide +kernel
theorem dX3_ofStation_8 : decode cX3_ofStation 8 = .ok (.getfield 52, 3) := by decide +kernel
theorem dX3_ofStation_11 : decode cX3_ofStation 11 = .ok (.invokestatic 99, 3) := by decide +kernel
theorem dX3_ofStation_14 : decode cX3_ofStation 14 = .ok (.iload_n 2, 1) := by decide +kernel
theorem dX3_ofStation_15 : decode cX3_ofStation 15 = .ok (.iconst 0, 1) := by decide +kernel
theorem dX3_ofStation_16 : decode cX3_ofStation 16 = .ok (.iconst 2, 1) := by decide +kernel
theorem dX3_ofStation_17 : decode cX3_ofStation 17 = .ok (.invokestatic 23, 3) := by decide +kernel
theorem dX3_ofStation_20 : decode cX3_ofStation 20 = .ok (.invokestatic 27, 3) := by decide +kernel
theorem dX3_ofStation_23 : decode cX3_ofStation 23 = .ok (.iload_n 2, 1) := by decide +kernel
theorem dX3_ofStation_24 : decode cX3_ofStation 24 = .ok (.lookupswitch 54 #[(0, 28), (1, 41)], 28) := by decide +kernel
theorem dX3_ofStation_52 : decode cX3_ofStation 52 = .ok (.aload_n 0, 1) := by decide +kernel
theorem dX3_ofStation_53 : decode cX3_ofStation 53 = .ok (.getfield 10, 3) := by decide +kernel
theorem dX3_ofStation_56 : decode cX3_ofStation 56 = .ok (.getfield 31, 3) := by decide +kernel
theorem dX3_ofStation_59 : decode cX3_ofStation 59 = .ok (.getfield 147, 3) := by decide +kernel
theorem dX3_ofStation_62 : decode cX3_ofStation 62 = .ok (.iload_n 1, 1) := by decide +kernel
theorem dX3_ofStation_63 : decode cX3_ofStation 63 = .ok (.iaload, 1) := by decide +kernel
theorem dX3_ofStation_64 : decode cX3_ofStation 64 = .ok (.ireturn, 1) := by decide +kernel
theorem dX3_ofStation_65 : decode cX3_ofStation 65 = .ok (.aload_n 0, 1) := by decide +kernel
theorem dX3_ofStation_66 : decode cX3_ofStation 66 = .ok (.getfield 10, 3) := by decide +kernel
theorem dX3_ofStation_69 : decode cX3_ofStation 69 = .ok (.getfield 31, 3) := by decide +kernel
theorem dX3_ofStation_72 : decode cX3_ofStation 72 = .ok (.getfield 150, 3) := by decide +kernel
theorem dX3_ofStation_75 : decode cX3_ofStation 75 = .ok (.iload_n 1, 1) := by decide +kernel
theorem dX3_ofStation_76 : decode cX3_ofStation 76 = .ok (.iaload, 1) := by decide +kernel
theorem dX3_ofStation_77 : decode cX3_ofStation 77 = .ok (.ireturn, 1) := by decide +kernel
theorem dX3_ofStation_78 : decode cX3_ofStation 78 = .ok (.aload_n 0, 1) := by decide +kernel
theorem dX3_ofStation_79 : decode cX3_ofStation 79 = .ok (.getfield 10, 3) := by decide +kernel
theorem dX3_ofStation_82 : decode cX3_ofStation 82 = .ok (.getfield 31, 3) := by decide +kernel
theorem dX3_ofStation_85 : decode cX3_ofStation 85 = .ok (.getfield 153, 3) := by decide +kernel
theorem dX3_ofStation_88 : decode cX3_ofStation 88 = .ok (.iload_n 1, 1) := by decide +kernel
theorem dX3_ofStation_89 : decode cX3_ofStation 89 = .ok (.iaload, 1) := by decide +kernel
theorem dX3_ofStation_90 : decode cX3_ofStation 90 = .ok (.ireturn, 1) := by decide +kernel
set_option maxRecDepth 20000 in
theorem ggX3_many_X3_isWithin : GoodIn wsX3_many wsX3_isWithin := goodIn_r _ [10] (by decide +kernel) (by decide +kernel)
set_option maxRecDepth 20000 in
theorem gX3_many_X3_isWithin : GoodIn wsX3_many (va_wsS RX3 23 yX3_isWithin wsX3_isWithin) := goodIn_app (goodIn_of _ (by decide +kernel)) ggX3_many_X3_isWithin
set_option maxRecDepth 20000 in
theorem ggX3_many_X3_need : GoodIn wsX3_many wsX3_need := goodIn_ca (goodIn_r _ [13, 14, 15] (by decide +kernel) (by decide +kernel)) (goodIn_sub (fun _ h => List.mem_cons_of_mem _ (List.mem_append_right _ h)) (by decide +kernel))
set_option maxRecDepth 20000 in
theorem gX3_many_X3_need : GoodIn wsX3_many (va_wsS RX3 27 yX3_need wsX3_need) := goodIn_app (goodIn_of _ (by decide +kernel)) ggX3_many_X3_need
set_option maxRecDepth 20000 in
theorem ggX3_many_X0_countPresent : GoodIn wsX3_many wsX0_countPresent := goodIn_r _ [20, 21, 22, 23, 45, 46, 47, 48, 59, 60, 61, 62, 63, 64, 65, 66, 67, 68, 69, 70, 71, 72, 73, 74, 75, 76] (by decide +kernel) (by decide +kernel)
set_option maxRecDepth 20000 in
theorem gX3_many_X0_countPresent : GoodIn wsX3_many (wsV RX3 56 RX0 yX0_countPresent wsX0_countPresent) := goodIn_app (goodIn_of _ (by decide +kernel)) ggX3_many_X0_countPresent
set_option maxRecDepth 20000 in
theorem ggX3_many_X0_countCrashed : GoodIn wsX3_many wsX0_countCrashed := goodIn_r _ [27, 21, 22, 28, 45, 46, 47, 48, 59, 60, 61, 62, 63, 64, 65, 66, 67, 68, 69, 70, 71, 72, 73, 74, 75, 76] (by decide +kernel) (by decide +kernel)
set_option maxRecDepth 20000 in
theorem gX3_many_X0_countCrashed : GoodIn wsX3_many (wsV RX3 159 RX0 yX0_countCrashed wsX0_countCrashed) := goodIn_app (goodIn_of _ (by decide +kernel)) ggX3_many_X0_countCrashed
set_option maxRecDepth 20000 in
theorem ggX3_many_X0_total : GoodIn wsX3_many wsX0_total := goodIn_r _ [32, 21, 22, 33, 34, 35, 36, 37, 38, 39, 40, 41, 42, 45, 46, 47, 48, 59, 60, 61, 62, 63, 64, 65, 66, 67, 68, 69, 70, 71, 72, 73, 74, 75, 76] (by decide +kernel) (by decide +kernel)
set_option maxRecDepth 20000 in
theorem gX3_many_X0_total : GoodIn wsX3_many (wsV RX3 162 RX0 yX0_total wsX0_total) := goodIn_app (goodIn_of _ (by decide +kernel)) ggX3_many_X0_total
theorem dX3_many_0 : decode cX3_many 0 = .ok (.iload_n 1, 1) := by decide +kernel
theorem dX3_many_1 : decode cX3_many 1 = .ok (.iconst 0, 1) := by decide +kernel
theorem dX3_many_2 : decode cX3_many 2 = .ok (.bipush 9, 2) := by decide +kernel
theorem dX3_many_4 : decode cX3_many 4 = .ok (.invokestatic 23, 3) := by decide +kernel
theorem dX3_many_7 : decode cX3_many 7 = .ok (.invokestatic 27, 3) := by decide +kernel
theorem dX3_many_10 : decode cX3_many 10 = .ok (.iload_n 1, 1) := by decide +kernel
theorem dX3_many_11 : decode cX3_many 11 = .ok (.tableswitch 99 0 5 #[37, 45, 53, 69, 77, 88], 37) := by decide +kernel
theorem dX3_many_48 : decode cX3_many 48 = .ok (.aload_n 0, 1) := by decide +kernel
theorem dX3_many_49 : decode cX3_many 49 = .ok (.getfield 10, 3) := by decide +kernel
theorem dX3_many_52 : decode cX3_many 52 = .ok (.getfield 156, 3) := by decide +kernel
theorem dX3_many_55 : decode cX3_many 55 = .ok (.ireturn, 1) := by decide +kernel
theorem dX3_many_56 : decode cX3_many 56 = .ok (.aload_n 0, 1) := by decide +kernel
theorem dX3_many_57 : decode cX3_many 57 = .ok (.getfield 10, 3) := by decide +kernel
theorem dX3_many_60 : decode cX3_many 60 = .ok (.getfield 67, 3) := by decide +kernel
theorem dX3_many_63 : decode cX3_many 63 = .ok (.ireturn, 1) := by decide +kernel
theorem dX3_many_64 : decode cX3_many 64 = .ok (.aload_n 0, 1) := by decide +kernel
theorem dX3_many_65 : decode cX3_many 65 = .ok (.getfield 10, 3) := by decide +kernel
theorem dX3_many_68 : decode cX3_many 68 = .ok (.getfield 67, 3) := by decide +kernel
theorem dX3_many_71 : decode cX3_many 71 = .ok (.aload_n 0, 1) := by decide +kernel
theorem dX3_many_72 : decode cX3_many 72 = .ok (.getfield 10, 3) := by decide +kernel
theorem dX3_many_75 : decode cX3_many 75 = .ok (.invokevirtual 56, 3) := by decide +kernel
theorem dX3_many_78 : decode cX3_many 78 = .ok (.isub, 1) := by decide +kernel
theorem dX3_many_79 : decode cX3_many 79 = .ok (.ireturn, 1) := by decide +kernel
theorem dX3_many_80 : decode cX3_many 80 = .ok (.aload_n 0, 1) := by decide +kernel
theorem dX3_many_81 : decode cX3_many 81 = .ok (.getfield 10, 3) := by decide +kernel
theorem dX3_many_84 : decode cX3_many 84 = .ok (.invokevirtual 159, 3) := by decide +kernel
theorem dX3_many_87 : decode cX3_many 87 = .ok (.ireturn, 1) := by decide +kernel
theorem dX3_many_88 : decode cX3_many 88 = .ok (.aload_n 0, 1) := by decide +kernel
theorem dX3_many_89 : decode cX3_many 89 = .ok (.getfield 10, 3) := by decide +kernel
theorem dX3_many_92 : decode cX3_many 92 = .ok (.getfield 31, 3) := by decide +kernel
theorem dX3_many_95 : decode cX3_many 95 = .ok (.getfield 52, 3) := by decide +kernel
theorem dX3_many_98 : decode cX3_many 98 = .ok (.ireturn, 1) := by decide +kernel
theorem dX3_many_99 : decode cX3_many 99 = .ok (.aload_n 0, 1) := by decide +kernel
theorem dX3_many_100 : decode cX3_many 100 = .ok (.getfield 10, 3) := by decide +kernel
theorem dX3_many_103 : decode cX3_many 103 = .ok (.getfield 31, 3) := by decide +kernel
theorem dX3_many_106 : decode cX3_many 106 = .ok (.getfield 90, 3) := by decide +kernel
theorem dX3_many_109 : decode cX3_many 109 = .ok (.ireturn, 1) := by decide +kernel
theorem dX3_many_110 : decode cX3_many 110 = .ok (.aload_n 0, 1) := by decide +kernel
theorem dX3_many_111 : decode cX3_many 111 = .ok (.getfield 10, 3) := by decide +kernel
theorem dX3_many_114 : decode cX3_many 114 = .ok (.iload_n 1, 1) := by decide +kernel
theorem dX3_many_115 : decode cX3_many 115 = .ok (.invokevirtual 162, 3) := by decide +kernel
theorem dX3_many_118 : decode cX3_many 118 = .ok (.ireturn, 1) := by decide +kernel
set_option maxRecDepth 20000 in
theorem ggX3_meanSpeed_X0_countPresent : GoodIn wsX3_meanSpeed wsX0_countPresent := goodIn_r _ [6, 7, 8, 9, 17, 18, 19, 20, 21, 22, 23, 24, 25, 26, 27, 28, 29, 30, 31, 32, 33, 34, 35, 36, 37, 38] (by decide +kernel) (by decide +kernel)
set_option maxRecDepth 20000 in
theorem gX3_meanSpeed_X0_countPresent : GoodIn wsX3_meanSpeed (wsV RX3 56 RX0 yX0_countPresent wsX0_countPresent) := goodIn_app (goodIn_of _ (by decide +kernel)) ggX3_meanSpeed_X0_countPresent
set_option maxRecDepth 20000 in
theorem ggX3_meanSpeed_X0_sumOfSpeeds : GoodIn wsX3_meanSpeed wsX0_sumOfSpeeds := goodIn_r _ [13, 7, 8, 14, 17, 18, 19, 20, 21, 22, 23, 24, 25, 26, 27, 28, 29, 30, 31, 32, 33, 34, 35, 36, 37, 38] (by decide +kernel) (by decide +kernel)
set_option maxRecDepth 20000 in
theorem gX3_meanSpeed_X0_sumOfSpeeds : GoodIn wsX3_meanSpeed (wsV RX3 165 RX0 yX0_sumOfSpeeds wsX0_sumOfSpeeds) := goodIn_app (goodIn_of _ (by decide +kernel)) ggX3_meanSpeed_X0_sumOfSpeeds
theorem dX3_meanSpeed_0 : decode cX3_meanSpeed 0 = .ok (.aload_n 0, 1) := by decide +kernel
theorem dX3_meanSpeed_1 : decode cX3_meanSpeed 1 = .ok (.getfield 10, 3) := by decide +kernel
theorem dX3_meanSpeed_4 : decode cX3_meanSpeed 4 = .ok (.invokevirtual 56, 3) := by decide +kernel
theorem dX3_meanSpeed_7 : decode cX3_meanSpeed 7 = .ok (.istore_n 1, 1) := by decide +kernel
theorem dX3_meanSpeed_8 : decode cX3_meanSpeed 8 = .ok (.iload_n 1, 1) := by decide +kernel
theorem dX3_meanSpeed_9 : decode cX3_meanSpeed 9 = .ok (.ifCond .ne 7, 3) := by decide +kernel
theorem dX3_meanSpeed_12 : decode cX3_meanSpeed 12 = .ok (.dconst 0, 1) := by decide +kernel
theorem dX3_meanSpeed_13 : decode cX3_meanSpeed 13 = .ok (.goto 14, 3) := by decide +kernel
theorem dX3_meanSpeed_16 : decode cX3_meanSpeed 16 = .ok (.aload_n 0, 1) := by decide +kernel
theorem dX3_meanSpeed_17 : decode cX3_meanSpeed 17 = .ok (.getfield 10, 3) := by decide +kernel
theorem dX3_meanSpeed_20 : decode cX3_meanSpeed 20 = .ok (.invokevirtual 165, 3) := by decide +kernel
theorem dX3_meanSpeed_23 : decode cX3_meanSpeed 23 = .ok (.i2d, 1) := by decide +kernel
theorem dX3_meanSpeed_24 : decode cX3_meanSpeed 24 = .ok (.iload_n 1, 1) := by decide +kernel
theorem dX3_meanSpeed_25 : decode cX3_meanSpeed 25 = .ok (.i2d, 1) := by decide +kernel
theorem dX3_meanSpeed_26 : decode cX3_meanSpeed 26 = .ok (.ddiv, 1) := by decide +kernel
theorem dX3_meanSpeed_27 : decode cX3_meanSpeed 27 = .ok (.dreturn, 1) := by decide +kernel
set_option maxRecDepth 20000 in
theorem ggX3_reaches_X3_needTrain : GoodIn wsX3_reaches wsX3_needTrain := goodIn_ca (goodIn_r _ [9, 1, 10, 11, 12, 8, 13, 14, 15, 204, 205, 206, 207, 208, 209] (by decide +kernel) (by decide +kernel)) (goodIn_sub (fun _ h => List.mem_cons_of_mem _ (List.mem_append_left _ (List.mem_append_right _ h))) (by decide +kernel))
set_option maxRecDepth 20000 in
theorem gX3_reaches_X3_needTrain : GoodIn wsX3_reaches (wsV RX3 77 RX3 yX3_needTrain wsX3_needTrain) := goodIn_app (goodIn_of _ (by decide +kernel)) ggX3_reaches_X3_needTrain
set_option maxRecDepth 20000 in
theorem ggX3_reaches_X3_isWithin : GoodIn wsX3_reaches wsX3_isWithin := goodIn_r _ [18] (by decide +kernel) (by decide +kernel)
set_option maxRecDepth 20000 in
theorem gX3_reaches_X3_isWithin : GoodIn wsX3_reaches (va_wsS RX3 23 yX3_isWithin wsX3_isWithin) := goodIn_app (goodIn_of _ (by decide +kernel)) ggX3_reaches_X3_isWithin
set_option maxRecDepth 20000 in
theorem ggX3_reaches_X3_need : GoodIn wsX3_reaches wsX3_need := goodIn_ca (goodIn_r _ [21, 22, 23] (by decide +kernel) (by decide +kernel)) (goodIn_sub (fun _ h => List.mem_cons_of_mem _ (List.mem_append_right _ h)) (by decide +kernel))
set_option maxRecDepth 20000 in
theorem gX3_reaches_X3_need : GoodIn wsX3_reaches (va_wsS RX3 27 yX3_need wsX3_need) := goodIn_app (goodIn_of _ (by decide +kernel)) ggX3_reaches_X3_need
set_option maxRecDepth 20000 in
theorem ggX3_reaches_X0_copyFrom : GoodIn wsX3_reaches wsX0_copyFrom := goodIn_r _ [28, 29, 30, 31, 32, 33, 34, 35, 36, 37, 38, 39, 40, 41, 42, 43, 44, 45, 46, 47, 48, 49, 50, 51, 52, 53, 54, 55, 56, 57, 58, 59, 60, 61, 62, 63, 64, 65, 66, 67, 68, 69, 70, 206, 207, 208, 209, 228, 229, 230, 231, 232, 233, 234, 235, 236, 237, 210, 211, 212, 213, 214, 215, 216, 217, 218, 219, 220, 221, 222, 223, 224, 225, 226, 227] (by decide +kernel) (by decide +kernel)
set_option maxRecDepth 20000 in
theorem gX3_reaches_X0_copyFrom : GoodIn wsX3_reaches (wsV RX3 171 RX0 yX0_copyFrom wsX0_copyFrom) := goodIn_app (goodIn_of _ (by decide +kernel)) ggX3_reaches_X0_copyFrom
set_option maxRecDepth 20000 in
theorem ggX3_reaches_X0_goOn : GoodIn wsX3_reaches wsX0_goOn := goodIn_r _ [74, 32, 31, 30, 75, 76, 77, 78, 79, 80, 81, 82, 83, 84, 85, 27, 86, 87, 88, 89, 90, 29, 91, 92, 8, 93, 94, 95, 96, 51, 97, 57, 64, 56, 65, 66, 98, 99, 100, 101, 53, 102, 103, 104, 105, 106, 107, 108, 109, 110, 111, 112, 113, 114, 115, 116, 117, 118, 119, 120, 121, 122, 123, 124, 125, 126, 127, 128, 129, 130, 131, 132, 133, 36, 134, 135, 47, 45, 136, 137, 138, 139, 140, 141, 142, 143, 144, 145, 146, 147, 148, 149, 150, 151, 152, 153, 154, 44, 41, 155, 156, 157, 158, 159, 160, 161, 162, 163, 164, 165, 38, 166, 167, 168, 169, 170, 171, 172, 173, 174, 175, 176, 177, 178, 179, 180, 181, 182, 183, 184, 185, 186, 187, 188, 189, 190, 191, 192, 193, 194, 195, 196, 197, 198, 199, 63, 58, 200, 201, 202, 203, 206, 207, 208, 209, 210, 211, 212, 213, 214, 215, 216, 217, 218, 219, 220, 221, 222, 223, 224, 225, 226, 227, 228, 229, 230, 231, 232, 233, 234, 235, 236, 237] (by decide +kernel) (by decide +kernel)
set_option maxRecDepth 20000 in
theorem gX3_reaches_X0_goOn : GoodIn wsX3_reaches (wsV RX3 107 RX0 yX0_goOn wsX0_goOn) := goodIn_app (goodIn_of _ (by decide +kernel)) ggX3_reaches_X0_goOn
theorem dX3_reaches_0 : decode cX3_reaches 0 = .ok (.aload_n 0, 1) := by decide +kernel
theorem dX3_reaches_1 : decode cX3_reaches 1 = .ok (.iload_n 1, 1) := by decide +kernel
theorem dX3_reaches_2 : decode cX3_reaches 2 = .ok (.invokevirtual 77, 3) := by decide +kernel
theorem dX3_reaches_5 : decode cX3_reaches 5 = .ok (.iload_n 2, 1) := by decide +kernel
theorem dX3_reaches_6 : decode cX3_reaches 6 = .ok (.iconst 0, 1) := by decide +kernel
theorem dX3_reaches_7 : decode cX3_reaches 7 = .ok (.sipush 2999, 3) := by decide +kernel
theorem dX3_reaches_10 : decode cX3_reaches 10 = .ok (.invokestatic 23, 3) := by decide +kernel
theorem dX3_reaches_13 : decode cX3_reaches 13 = .ok (.ifCond .eq 18, 3) := by decide +kernel
theorem dX3_reaches_16 : decode cX3_reaches 16 = .ok (.iload_n 3, 1) := by decide +kernel
theorem dX3_reaches_17 : decode cX3_reaches 17 = .ok (.iconst 1, 1) := by decide +kernel
theorem dX3_reaches_18 : decode cX3_reaches 18 = .ok (.sipush 600, 3) := by decide +kernel
theorem dX3_reaches_21 : decode cX3_reaches 21 = .ok (.invokestatic 23, 3) := by decide +kernel
theorem dX3_reaches_24 : decode cX3_reaches 24 = .ok (.ifCond .eq 7, 3) := by decide +kernel
theorem dX3_reaches_27 : decode cX3_reaches 27 = .ok (.iconst 1, 1) := by decide +kernel
theorem dX3_reaches_28 : decode cX3_reaches 28 = .ok (.goto 4, 3) := by decide +kernel
theorem dX3_reaches_31 : decode cX3_reaches 31 = .ok (.iconst 0, 1) := by decide +kernel
theorem dX3_reaches_32 : decode cX3_reaches 32 = .ok (.invokestatic 27, 3) := by decide +kernel
theorem dX3_reaches_35 : decode cX3_reaches 35 = .ok (.aload_n 0, 1) := by decide +kernel
theorem dX3_reaches_36 : decode cX3_reaches 36 = .ok (.getfield 10, 3) := by decide +kernel
theorem dX3_reaches_39 : decode cX3_reaches 39 = .ok (.getfield 80, 3) := by decide +kernel
theorem dX3_reaches_42 : decode cX3_reaches 42 = .ok (.iload_n 1, 1) := by decide +kernel
theorem dX3_reaches_43 : decode cX3_reaches 43 = .ok (.aaload, 1) := by decide +kernel
theorem dX3_reaches_44 : decode cX3_reaches 44 = .ok (.getfield 168, 3) := by decide +kernel
theorem dX3_reaches_47 : decode cX3_reaches 47 = .ok (.iload_n 2, 1) := by decide +kernel
theorem dX3_reaches_48 : decode cX3_reaches 48 = .ok (.if_icmp .lt 5, 3) := by decide +kernel
theorem dX3_reaches_51 : decode cX3_reaches 51 = .ok (.iconst 0, 1) := by decide +kernel
theorem dX3_reaches_52 : decode cX3_reaches 52 = .ok (.ireturn, 1) := by decide +kernel
theorem dX3_reaches_53 : decode cX3_reaches 53 = .ok (.aload_n 0, 1) := by decide +kernel
theorem dX3_reaches_54 : decode cX3_reaches 54 = .ok (.getfield 16, 3) := by decide +kernel
theorem dX3_reaches_57 : decode cX3_reaches 57 = .ok (.aload_n 0, 1) := by decide +kernel
theorem dX3_reaches_58 : decode cX3_reaches 58 = .ok (.getfield 10, 3) := by decide +kernel
theorem dX3_reaches_61 : decode cX3_reaches 61 = .ok (.invokevirtual 171, 3) := by decide +kernel
theorem dX3_reaches_64 : decode cX3_reaches 64 = .ok (.iconst 1, 1) := by decide +kernel
theorem dX3_reaches_65 : decode cX3_reaches 65 = .ok (.istore 4, 2) := by decide +kernel
theorem dX3_reaches_67 : decode cX3_reaches 67 = .ok (.iload 4, 2) := by decide +kernel
theorem dX3_reaches_69 : decode cX3_reaches 69 = .ok (.iload_n 3, 1) := by decide +kernel
theorem dX3_reaches_70 : decode cX3_reaches 70 = .ok (.if_icmp .gt 37, 3) := by decide +kernel
theorem dX3_reaches_73 : decode cX3_reaches 73 = .ok (.aload_n 0, 1) := by decide +kernel
theorem dX3_reaches_74 : decode cX3_reaches 74 = .ok (.getfield 16, 3) := by decide +kernel
theorem dX3_reaches_77 : decode cX3_reaches 77 = .ok (.iconst (-1), 1) := by decide +kernel
theorem dX3_reaches_78 : decode cX3_reaches 78 = .ok (.invokevirtual 107, 3) := by decide +kernel
theorem dX3_reaches_81 : decode cX3_reaches 81 = .ok (.pop, 1) := by decide +kernel
theorem dX3_reaches_82 : decode cX3_reaches 82 = .ok (.aload_n 0, 1) := by decide +kernel
theorem dX3_reaches_83 : decode cX3_reaches 83 = .ok (.getfield 16, 3) := by decide +kernel
theorem dX3_reaches_86 : decode cX3_reaches 86 = .ok (.getfield 80, 3) := by decide +kernel
theorem dX3_reaches_89 : decode cX3_reaches 89 = .ok (.iload_n 1, 1) := by decide +kernel
theorem dX3_reaches_90 : decode cX3_reaches 90 = .ok (.aaload, 1) := by decide +kernel
theorem dX3_reaches_91 : decode cX3_reaches 91 = .ok (.getfield 168, 3) := by decide +kernel
theorem dX3_reaches_94 : decode cX3_reaches 94 = .ok (.iload_n 2, 1) := by decide +kernel
theorem dX3_reaches_95 : decode cX3_reaches 95 = .ok (.if_icmp .lt 6, 3) := by decide +kernel
theorem dX3_reaches_98 : decode cX3_reaches 98 = .ok (.iload 4, 2) := by decide +kernel
theorem dX3_reaches_100 : decode cX3_reaches 100 = .ok (.ireturn, 1) := by decide +kernel
theorem dX3_reaches_101 : decode cX3_reaches 101 = .ok (.iinc 4 1, 3) := by decide +kernel
theorem dX3_reaches_104 : decode cX3_reaches 104 = .ok (.goto (-37), 3) := by decide +kernel
theorem dX3_reaches_107 : decode cX3_reaches 107 = .ok (.iconst (-1), 1) := by decide +kernel
theorem dX3_reaches_108 : decode cX3_reaches 108 = .ok (.ireturn, 1) := by decide +kernel
set_option maxRecDepth 20000 in
theorem ggX3_closest_X3_needTrain : GoodIn wsX3_closest wsX3_needTrain := goodIn_ca (goodIn_r _ [11, 1, 12, 13, 14, 10, 15, 16, 17, 212, 213, 214, 215, 216, 217] (by decide +kernel) (by decide +kernel)) (goodIn_sub (fun _ h => List.mem_cons_of_mem _ (List.mem_append_left _ (List.mem_append_right _ h))) (by decide +kernel))
set_option maxRecDepth 20000 in
theorem gX3_closest_X3_needTrain : GoodIn wsX3_closest (wsV RX3 77 RX3 yX3_needTrain wsX3_needTrain) := goodIn_app (goodIn_of _ (by decide +kernel)) ggX3_closest_X3_needTrain
set_option maxRecDepth 20000 in
theorem ggX3_closest_X3_isWithin : GoodIn wsX3_closest wsX3_isWithin := goodIn_r _ [20] (by decide +kernel) (by decide +kernel)
set_option maxRecDepth 20000 in
theorem gX3_closest_X3_isWithin : GoodIn wsX3_closest (va_wsS RX3 23 yX3_isWithin wsX3_isWithin) := goodIn_app (goodIn_of _ (by decide +kernel)) ggX3_closest_X3_isWithin
set_option maxRecDepth 20000 in
theorem ggX3_closest_X3_need : GoodIn wsX3_closest wsX3_need := goodIn_ca (goodIn_r _ [23, 24, 25] (by decide +kernel) (by decide +kernel)) (goodIn_sub (fun _ h => List.mem_cons_of_mem _ (List.mem_append_right _ h)) (by decide +kernel))
set_option maxRecDepth 20000 in
theorem gX3_closest_X3_need : GoodIn wsX3_closest (va_wsS RX3 27 yX3_need wsX3_need) := goodIn_app (goodIn_of _ (by decide +kernel)) ggX3_closest_X3_need
set_option maxRecDepth 20000 in
theorem ggX3_closest_X0_aheadOf : GoodIn wsX3_closest wsX0_aheadOf := goodIn_r _ [30, 31, 32, 214, 215, 216, 217, 218, 219, 220, 221, 222, 223, 224, 225, 226, 227, 228, 229, 230, 231, 232, 233, 234, 235] (by decide +kernel) (by decide +kernel)
set_option maxRecDepth 20000 in
theorem gX3_closest_X0_aheadOf : GoodIn wsX3_closest (wsV RX3 122 RX0 yX0_aheadOf wsX0_aheadOf) := goodIn_app (goodIn_of _ (by decide +kernel)) ggX3_closest_X0_aheadOf
set_option maxRecDepth 20000 in
theorem ggX3_closest_X0_copyFrom : GoodIn wsX3_closest wsX0_copyFrom := goodIn_r _ [36, 37, 31, 38, 39, 40, 41, 42, 43, 44, 45, 46, 47, 48, 49, 50, 51, 52, 53, 54, 55, 56, 57, 58, 59, 60, 61, 62, 63, 64, 65, 66, 67, 68, 69, 70, 71, 72, 73, 74, 75, 76, 77, 214, 215, 216, 217, 236, 237, 238, 239, 240, 241, 242, 243, 244, 245, 218, 219, 220, 221, 222, 223, 224, 225, 226, 227, 228, 229, 230, 231, 232, 233, 234, 235] (by decide +kernel) (by decide +kernel)
set_option maxRecDepth 20000 in
theorem gX3_closest_X0_copyFrom : GoodIn wsX3_closest (wsV RX3 171 RX0 yX0_copyFrom wsX0_copyFrom) := goodIn_app (goodIn_of _ (by decide +kernel)) ggX3_closest_X0_copyFrom
set_option maxRecDepth 20000 in
theorem ggX3_closest_X0_goOn : GoodIn wsX3_closest wsX0_goOn := goodIn_r _ [81, 39, 38, 31, 32, 82, 83, 84, 85, 86, 87, 88, 89, 90, 91, 29, 92, 93, 94, 95, 96, 37, 97, 98, 10, 99, 100, 101, 102, 58, 103, 64, 71, 63, 72, 73, 104, 105, 106, 107, 60, 108, 109, 110, 111, 112, 113, 114, 115, 116, 117, 118, 119, 120, 121, 122, 123, 124, 125, 126, 27, 28, 30, 127, 128, 129, 130, 131, 132, 133, 134, 135, 136, 43, 137, 138, 54, 52, 139, 140, 141, 142, 143, 144, 145, 146, 147, 148, 149, 150, 151, 152, 153, 154, 155, 156, 157, 51, 48, 158, 159, 160, 161, 162, 163, 164, 165, 166, 167, 168, 45, 169, 170, 171, 172, 173, 174, 175, 176, 177, 178, 179, 180, 181, 182, 183, 184, 185, 186, 187, 188, 189, 190, 191, 192, 193, 194, 195, 196, 197, 198, 199, 200, 201, 202, 70, 65, 203, 204, 205, 206, 214, 215, 216, 217, 218, 219, 220, 221, 222, 223, 224, 225, 226, 227, 228, 229, 230, 231, 232, 233, 234, 235, 236, 237, 238, 239, 240, 241, 242, 243, 244, 245] (by decide +kernel) (by decide +kernel)
set_option maxRecDepth 20000 in
theorem gX3_closest_X0_goOn : GoodIn wsX3_closest (wsV RX3 107 RX0 yX0_goOn wsX0_goOn) := goodIn_app (goodIn_of _ (by decide +kernel)) ggX3_closest_X0_goOn
set_option maxRecDepth 20000 in
theorem ggX3_closest_X2_leastGapOrNone : GoodIn wsX3_closest wsX2_leastGapOrNone := goodIn_r _ [210, 77, 211, 218, 219, 220, 221, 222, 223, 224, 225, 226, 227, 228, 229, 230, 231, 232, 233, 234, 235] (by decide +kernel) (by decide +kernel)
set_option maxRecDepth 20000 in
theorem gX3_closest_X2_leastGapOrNone : GoodIn wsX3_closest (wsV RX3 179 RX2 yX2_leastGapOrNone wsX2_leastGapOrNone) := goodIn_app (goodIn_of _ (by decide +kernel)) ggX3_closest_X2_leastGapOrNone
theorem dX3_closest_0 : decode cX3_closest 0 = .ok (.aload_n 0, 1) := by decide +kernel
theorem dX3_closest_1 : decode cX3_closest 1 = .ok (.iload_n 1, 1) := by decide +kernel
theorem dX3_closest_2 : decode cX3_closest 2 = .ok (.invokevirtual 77, 3) := by decide +kernel
theorem dX3_closest_5 : decode cX3_closest 5 = .ok (.iload_n 2, 1) := by decide +kernel
theorem dX3_closest_6 : decode cX3_closest 6 = .ok (.iconst 1, 1) := by decide +kernel
theorem dX3_closest_7 : decode cX3_closest 7 = .ok (.bipush 120, 2) := by decide +kernel
theorem dX3_closest_9 : decode cX3_closest 9 = .ok (.invokestatic 23, 3) := by decide +kernel
theorem dX3_closest_12 : decode cX3_closest 12 = .ok (.invokestatic 27, 3) := by decide +kernel
theorem dX3_closest_15 : decode cX3_closest 15 = .ok (.aload_n 0, 1) := by decide +kernel
theorem dX3_closest_16 : decode cX3_closest 16 = .ok (.getfield 10, 3) := by decide +kernel
theorem dX3_closest_19 : decode cX3_closest 19 = .ok (.iload_n 1, 1) := by decide +kernel
theorem dX3_closest_20 : decode cX3_closest 20 = .ok (.invokevirtual 122, 3) := by decide +kernel
theorem dX3_closest_23 : decode cX3_closest 23 = .ok (.istore_n 3, 1) := by decide +kernel
theorem dX3_closest_24 : decode cX3_closest 24 = .ok (.iload_n 3, 1) := by decide +kernel
theorem dX3_closest_25 : decode cX3_closest 25 = .ok (.iconst (-1), 1) := by decide +kernel
theorem dX3_closest_26 : decode cX3_closest 26 = .ok (.if_icmp .eq 18, 3) := by decide +kernel
theorem dX3_closest_29 : decode cX3_closest 29 = .ok (.aload_n 0, 1) := by decide +kernel
theorem dX3_closest_30 : decode cX3_closest 30 = .ok (.getfield 10, 3) := by decide +kernel
theorem dX3_closest_33 : decode cX3_closest 33 = .ok (.getfield 80, 3) := by decide +kernel
theorem dX3_closest_36 : decode cX3_closest 36 = .ok (.iload_n 1, 1) := by decide +kernel
theorem dX3_closest_37 : decode cX3_closest 37 = .ok (.aaload, 1) := by decide +kernel
theorem dX3_closest_38 : decode cX3_closest 38 = .ok (.getfield 138, 3) := by decide +kernel
theorem dX3_closest_41 : decode cX3_closest 41 = .ok (.ifCond .eq 5, 3) := by decide +kernel
theorem dX3_closest_44 : decode cX3_closest 44 = .ok (.iconst (-1), 1) := by decide +kernel
theorem dX3_closest_45 : decode cX3_closest 45 = .ok (.ireturn, 1) := by decide +kernel
theorem dX3_closest_46 : decode cX3_closest 46 = .ok (.aload_n 0, 1) := by decide +kernel
theorem dX3_closest_47 : decode cX3_closest 47 = .ok (.getfield 16, 3) := by decide +kernel
theorem dX3_closest_50 : decode cX3_closest 50 = .ok (.aload_n 0, 1) := by decide +kernel
theorem dX3_closest_51 : decode cX3_closest 51 = .ok (.getfield 10, 3) := by decide +kernel
theorem dX3_closest_54 : decode cX3_closest 54 = .ok (.invokevirtual 171, 3) := by decide +kernel
theorem dX3_closest_57 : decode cX3_closest 57 = .ok (.aload_n 0, 1) := by decide +kernel
theorem dX3_closest_58 : decode cX3_closest 58 = .ok (.getfield 16, 3) := by decide +kernel
theorem dX3_closest_61 : decode cX3_closest 61 = .ok (.getfield 80, 3) := by decide +kernel
theorem dX3_closest_64 : decode cX3_closest 64 = .ok (.iload_n 1, 1) := by decide +kernel
theorem dX3_closest_65 : decode cX3_closest 65 = .ok (.aaload, 1) := by decide +kernel
theorem dX3_closest_66 : decode cX3_closest 66 = .ok (.ldc 175, 2) := by decide +kernel
theorem dX3_closest_68 : decode cX3_closest 68 = .ok (.putfield 176, 3) := by decide +kernel
theorem dX3_closest_71 : decode cX3_closest 71 = .ok (.iconst 1, 1) := by decide +kernel
theorem dX3_closest_72 : decode cX3_closest 72 = .ok (.istore 4, 2) := by decide +kernel
theorem dX3_closest_74 : decode cX3_closest 74 = .ok (.iload 4, 2) := by decide +kernel
theorem dX3_closest_76 : decode cX3_closest 76 = .ok (.iload_n 2, 1) := by decide +kernel
theorem dX3_closest_77 : decode cX3_closest 77 = .ok (.if_icmp .gt 18, 3) := by decide +kernel
theorem dX3_closest_80 : decode cX3_closest 80 = .ok (.aload_n 0, 1) := by decide +kernel
theorem dX3_closest_81 : decode cX3_closest 81 = .ok (.getfield 16, 3) := by decide +kernel
theorem dX3_closest_84 : decode cX3_closest 84 = .ok (.iload_n 3, 1) := by decide +kernel
theorem dX3_closest_85 : decode cX3_closest 85 = .ok (.invokevirtual 107, 3) := by decide +kernel
theorem dX3_closest_88 : decode cX3_closest 88 = .ok (.pop, 1) := by decide +kernel
theorem dX3_closest_89 : decode cX3_closest 89 = .ok (.iinc 4 1, 3) := by decide +kernel
theorem dX3_closest_92 : decode cX3_closest 92 = .ok (.goto (-18), 3) := by decide +kernel
theorem dX3_closest_95 : decode cX3_closest 95 = .ok (.aload_n 0, 1) := by decide +kernel
theorem dX3_closest_96 : decode cX3_closest 96 = .ok (.getfield 16, 3) := by decide +kernel
theorem dX3_closest_99 : decode cX3_closest 99 = .ok (.getfield 80, 3) := by decide +kernel
theorem dX3_closest_102 : decode cX3_closest 102 = .ok (.iload_n 1, 1) := by decide +kernel
theorem dX3_closest_103 : decode cX3_closest 103 = .ok (.aaload, 1) := by decide +kernel
theorem dX3_closest_104 : decode cX3_closest 104 = .ok (.invokevirtual 179, 3) := by decide +kernel
theorem dX3_closest_107 : decode cX3_closest 107 = .ok (.ireturn, 1) := by decide +kernel
set_option maxRecDepth 20000 in
theorem ggX3_worksIn_X3_needSection : GoodIn wsX3_worksIn wsX3_needSection := goodIn_ca (goodIn_r _ [6, 7, 8, 5, 9, 10, 11] (by decide +kernel) (by decide +kernel)) (goodIn_sub (fun _ h => List.mem_cons_of_mem _ (List.mem_append_left _ (List.mem_append_right _ h))) (by decide +kernel))
set_option maxRecDepth 20000 in
theorem gX3_worksIn_X3_needSection : GoodIn wsX3_worksIn (va_wsS RX3 19 yX3_needSection wsX3_needSection) := goodIn_app (goodIn_of _ (by decide +kernel)) ggX3_worksIn_X3_needSection
set_option maxRecDepth 20000 in
theorem ggX3_worksIn_X3_isWithin : GoodIn wsX3_worksIn wsX3_isWithin := goodIn_r _ [14] (by decide +kernel) (by decide +kernel)
set_option maxRecDepth 20000 in
theorem gX3_worksIn_X3_isWithin : GoodIn wsX3_worksIn (va_wsS RX3 23 yX3_isWithin wsX3_isWithin) := goodIn_app (goodIn_of _ (by decide +kernel)) ggX3_worksIn_X3_isWithin
set_option maxRecDepth 20000 in
theorem ggX3_worksIn_X3_need : GoodIn wsX3_worksIn wsX3_need := goodIn_ca (goodIn_r _ [17, 18, 19] (by decide +kernel) (by decide +kernel)) (goodIn_sub (fun _ h => List.mem_cons_of_mem _ (List.mem_append_right _ h)) (by decide +kernel))
set_option maxRecDepth 20000 in
theorem gX3_worksIn_X3_need : GoodIn wsX3_worksIn (va_wsS RX3 27 yX3_need wsX3_need) := goodIn_app (goodIn_of _ (by decide +kernel)) ggX3_worksIn_X3_need
set_option maxRecDepth 20000 in
theorem ggX3_worksIn_X0_copyFrom : GoodIn wsX3_worksIn wsX0_copyFrom := goodIn_r _ [24, 25, 26, 27, 28, 29, 30, 31, 32, 33, 34, 35, 36, 37, 38, 39, 40, 41, 42, 43, 44, 45, 46, 47, 48, 49, 50, 51, 52, 53, 54, 55, 56, 57, 58, 59, 60, 61, 62, 63, 64, 65, 66, 214, 215, 216, 217, 218, 219, 220, 221, 222, 223, 224, 225, 226, 227, 228, 229, 230, 231, 232, 233, 234, 235, 236, 237, 238, 239, 240, 241, 242, 243, 244, 245] (by decide +kernel) (by decide +kernel)
set_option maxRecDepth 20000 in
theorem gX3_worksIn_X0_copyFrom : GoodIn wsX3_worksIn (wsV RX3 171 RX0 yX0_copyFrom wsX0_copyFrom) := goodIn_app (goodIn_of _ (by decide +kernel)) ggX3_worksIn_X0_copyFrom
set_option maxRecDepth 20000 in
theorem ggX3_worksIn_X0_hindranceOfWorks : GoodIn wsX3_worksIn wsX0_hindranceOfWorks := goodIn_r _ [70, 27, 26, 71, 72, 73, 74, 75, 76, 23, 77, 78, 79, 80, 47, 81, 53, 82, 5, 83, 84, 85, 86, 87, 49, 88, 89, 214, 215, 216, 217, 228, 229, 230, 231, 232, 233, 234, 235, 236, 237, 238, 239, 240, 241, 242, 243, 244, 245] (by decide +kernel) (by decide +kernel)
set_option maxRecDepth 20000 in
theorem gX3_worksIn_X0_hindranceOfWorks : GoodIn wsX3_worksIn (wsV RX3 93 RX0 yX0_hindranceOfWorks wsX0_hindranceOfWorks) := goodIn_app (goodIn_of _ (by decide +kernel)) ggX3_worksIn_X0_hindranceOfWorks
set_option maxRecDepth 20000 in
theorem ggX3_worksIn_X0_goOn : GoodIn wsX3_worksIn wsX0_goOn := goodIn_r _ [93, 28, 27, 26, 71, 72, 94, 95, 96, 97, 73, 98, 99, 100, 101, 23, 102, 103, 104, 105, 106, 25, 107, 82, 5, 83, 108, 109, 110, 47, 111, 53, 60, 52, 61, 62, 84, 85, 86, 87, 49, 112, 113, 114, 115, 116, 117, 118, 119, 120, 121, 122, 123, 124, 125, 126, 127, 128, 129, 130, 131, 132, 133, 134, 135, 136, 137, 138, 88, 89, 139, 140, 141, 32, 142, 143, 43, 41, 144, 145, 146, 147, 148, 149, 150, 151, 152, 153, 154, 155, 156, 157, 158, 159, 160, 161, 162, 40, 37, 163, 164, 165, 166, 167, 168, 169, 170, 171, 172, 173, 34, 174, 175, 176, 177, 178, 179, 180, 181, 182, 183, 184, 185, 186, 187, 188, 189, 190, 191, 192, 193, 194, 195, 196, 197, 198, 199, 200, 201, 202, 203, 204, 205, 206, 207, 59, 54, 208, 209, 210, 211, 214, 215, 216, 217, 228, 229, 230, 231, 232, 233, 234, 235, 236, 237, 238, 239, 240, 241, 242, 243, 244, 245, 218, 219, 220, 221, 222, 223, 224, 225, 226, 227] (by decide +kernel) (by decide +kernel)
set_option maxRecDepth 20000 in
theorem gX3_worksIn_X0_goOn : GoodIn wsX3_worksIn (wsV RX3 107 RX0 yX0_goOn wsX0_goOn) := goodIn_app (goodIn_of _ (by decide +kernel)) ggX3_worksIn_X0_goOn
theorem dX3_worksIn_0 : decode cX3_worksIn 0 = .ok (.iload_n 1, 1) := by decide +kernel
theorem dX3_worksIn_1 : decode cX3_worksIn 1 = .ok (.invokestatic 19, 3) := by decide +kernel
theorem dX3_worksIn_4 : decode cX3_worksIn 4 = .ok (.iload_n 2, 1) := by decide +kernel
theorem dX3_worksIn_5 : decode cX3_worksIn 5 = .ok (.invokestatic 19, 3) := by decide +kernel
theorem dX3_worksIn_8 : decode cX3_worksIn 8 = .ok (.iload_n 1, 1) := by decide +kernel
theorem dX3_worksIn_9 : decode cX3_worksIn 9 = .ok (.iload_n 2, 1) := by decide +kernel
theorem dX3_worksIn_10 : decode cX3_worksIn 10 = .ok (.if_icmp .gt 18, 3) := by decide +kernel
theorem dX3_worksIn_13 : decode cX3_worksIn 13 = .ok (.iload_n 3, 1) := by decide +kernel
theorem dX3_worksIn_14 : decode cX3_worksIn 14 = .ok (.iconst 1, 1) := by decide +kernel
theorem dX3_worksIn_15 : decode cX3_worksIn 15 = .ok (.sipush 300, 3) := by decide +kernel
theorem dX3_worksIn_18 : decode cX3_worksIn 18 = .ok (.invokestatic 23, 3) := by decide +kernel
theorem dX3_worksIn_21 : decode cX3_worksIn 21 = .ok (.ifCond .eq 7, 3) := by decide +kernel
theorem dX3_worksIn_24 : decode cX3_worksIn 24 = .ok (.iconst 1, 1) := by decide +kernel
theorem dX3_worksIn_25 : decode cX3_worksIn 25 = .ok (.goto 4, 3) := by decide +kernel
theorem dX3_worksIn_28 : decode cX3_worksIn 28 = .ok (.iconst 0, 1) := by decide +kernel
theorem dX3_worksIn_29 : decode cX3_worksIn 29 = .ok (.invokestatic 27, 3) := by decide +kernel
theorem dX3_worksIn_32 : decode cX3_worksIn 32 = .ok (.aload_n 0, 1) := by decide +kernel
theorem dX3_worksIn_33 : decode cX3_worksIn 33 = .ok (.getfield 16, 3) := by decide +kernel
theorem dX3_worksIn_36 : decode cX3_worksIn 36 = .ok (.aload_n 0, 1) := by decide +kernel
theorem dX3_worksIn_37 : decode cX3_worksIn 37 = .ok (.getfield 10, 3) := by decide +kernel
theorem dX3_worksIn_40 : decode cX3_worksIn 40 = .ok (.invokevirtual 171, 3) := by decide +kernel
theorem dX3_worksIn_43 : decode cX3_worksIn 43 = .ok (.iconst 0, 1) := by decide +kernel
theorem dX3_worksIn_44 : decode cX3_worksIn 44 = .ok (.istore 4, 2) := by decide +kernel
theorem dX3_worksIn_46 : decode cX3_worksIn 46 = .ok (.iload 4, 2) := by decide +kernel
theorem dX3_worksIn_48 : decode cX3_worksIn 48 = .ok (.iload_n 3, 1) := by decide +kernel
theorem dX3_worksIn_49 : decode cX3_worksIn 49 = .ok (.if_icmp .ge 33, 3) := by decide +kernel
theorem dX3_worksIn_52 : decode cX3_worksIn 52 = .ok (.aload_n 0, 1) := by decide +kernel
theorem dX3_worksIn_53 : decode cX3_worksIn 53 = .ok (.getfield 16, 3) := by decide +kernel
theorem dX3_worksIn_56 : decode cX3_worksIn 56 = .ok (.iload_n 1, 1) := by decide +kernel
theorem dX3_worksIn_57 : decode cX3_worksIn 57 = .ok (.iload_n 2, 1) := by decide +kernel
theorem dX3_worksIn_58 : decode cX3_worksIn 58 = .ok (.invokevirtual 93, 3) := by decide +kernel
theorem dX3_worksIn_61 : decode cX3_worksIn 61 = .ok (.ifCond .ne 6, 3) := by decide +kernel
theorem dX3_worksIn_64 : decode cX3_worksIn 64 = .ok (.iload 4, 2) := by decide +kernel
theorem dX3_worksIn_66 : decode cX3_worksIn 66 = .ok (.ireturn, 1) := by decide +kernel
theorem dX3_worksIn_67 : decode cX3_worksIn 67 = .ok (.aload_n 0, 1) := by decide +kernel
theorem dX3_worksIn_68 : decode cX3_worksIn 68 = .ok (.getfield 16, 3) := by decide +kernel
theorem dX3_worksIn_71 : decode cX3_worksIn 71 = .ok (.iconst (-1), 1) := by decide +kernel
theorem dX3_worksIn_72 : decode cX3_worksIn 72 = .ok (.invokevirtual 107, 3) := by decide +kernel
theorem dX3_worksIn_75 : decode cX3_worksIn 75 = .ok (.pop, 1) := by decide +kernel
theorem dX3_worksIn_76 : decode cX3_worksIn 76 = .ok (.iinc 4 1, 3) := by decide +kernel
theorem dX3_worksIn_79 : decode cX3_worksIn 79 = .ok (.goto (-33), 3) := by decide +kernel
theorem dX3_worksIn_82 : decode cX3_worksIn 82 = .ok (.aload_n 0, 1) := by decide +kernel
theorem dX3_worksIn_83 : decode cX3_worksIn 83 = .ok (.getfield 16, 3) := by decide +kernel
theorem dX3_worksIn_86 : decode cX3_worksIn 86 = .ok (.iload_n 1, 1) := by decide +kernel
theorem dX3_worksIn_87 : decode cX3_worksIn 87 = .ok (.iload_n 2, 1) := by decide +kernel
theorem dX3_worksIn_88 : decode cX3_worksIn 88 = .ok (.invokevirtual 93, 3) := by decide +kernel
theorem dX3_worksIn_91 : decode cX3_worksIn 91 = .ok (.ifCond .ne 7, 3) := by decide +kernel
theorem dX3_worksIn_94 : decode cX3_worksIn 94 = .ok (.iload_n 3, 1) := by decide +kernel
theorem dX3_worksIn_95 : decode cX3_worksIn 95 = .ok (.goto 4, 3) := by decide +kernel
theorem dX3_worksIn_98 : decode cX3_worksIn 98 = .ok (.iconst (-1), 1) := by decide +kernel
theorem dX3_worksIn_99 : decode cX3_worksIn 99 = .ok (.ireturn, 1) := by decide +kernel
set_option maxRecDepth 20000 in
theorem ggX3_digest_X3_many : GoodIn wsX3_digest wsX3_many := goodIn_ca (goodIn_r _ [11, 3, 12, 4, 5, 6, 13, 14, 15, 10, 16, 17, 18, 19, 20, 21, 22, 23, 24, 25, 26, 27, 28, 29, 30, 31, 32, 33, 34, 35, 36, 37, 38, 39, 40, 41, 42, 43, 44, 45, 46, 47, 48, 319, 320, 321, 322, 323, 324, 325, 326, 327, 328, 329, 330, 331, 332, 333, 334, 335, 336, 337, 338, 339, 340, 341, 342, 343, 344, 345, 346, 347, 348, 349, 350, 351, 352] (by decide +kernel) (by decide +kernel)) (goodIn_sub (fun _ h => List.mem_cons_of_mem _ (List.mem_append_left _ (List.mem_append_right _ h))) (by decide +kernel))
set_option maxRecDepth 20000 in
theorem gX3_digest_X3_many : GoodIn wsX3_digest (wsV RX3 189 RX3 yX3_many wsX3_many) := goodIn_app (goodIn_of _ (by decide +kernel)) ggX3_digest_X3_many
set_option maxRecDepth 20000 in
theorem ggX3_digest_X3_ofSection : GoodIn wsX3_digest wsX3_ofSection := goodIn_ca (goodIn_ca (goodIn_r _ [52, 3, 5, 53, 54, 55, 56, 57, 10, 58, 59, 60, 61, 62, 63, 14, 15, 16, 17, 18, 19, 20, 21, 64, 65, 66, 25, 67, 27, 28, 29, 68, 69, 70, 45, 71, 47, 72, 73, 74, 75, 76, 77, 48, 78, 79, 80, 81, 82, 83, 84, 85, 319, 320, 321, 322, 323, 324, 325, 326, 327, 328, 329, 330, 331, 332, 333, 334, 335, 336, 337, 338, 339, 340, 341, 342, 343, 344, 345, 346, 347, 348, 349, 350, 351, 352] (by decide +kernel) (by decide +kernel)) (goodIn_sub (fun _ h => List.mem_cons_of_mem _ (List.mem_append_right _ h)) (by decide +kernel))) (goodIn_sub (fun _ h => List.mem_cons_of_mem _ (List.mem_append_left _ (List.mem_append_right _ h))) (by decide +kernel))
set_option maxRecDepth 20000 in
theorem gX3_digest_X3_ofSection : GoodIn wsX3_digest (wsV RX3 192 RX3 yX3_ofSection wsX3_ofSection) := goodIn_app (goodIn_of _ (by decide +kernel)) ggX3_digest_X3_ofSection
set_option maxRecDepth 20000 in
theorem ggX3_digest_X3_ofTrain : GoodIn wsX3_digest wsX3_ofTrain := goodIn_ca (goodIn_ca (goodIn_r _ [89, 3, 5, 90, 91, 92, 93, 94, 10, 95, 4, 59, 60, 61, 62, 63, 14, 15, 16, 17, 18, 19, 20, 21, 96, 97, 98, 81, 99, 100, 101, 102, 103, 104, 25, 105, 28, 29, 106, 107, 108, 45, 109, 47, 110, 111, 112, 113, 114, 115, 74, 75, 76, 77, 48, 116, 117, 118, 119, 120, 121, 122, 123, 124, 125, 126, 127, 128, 129, 130, 131, 319, 320, 321, 322, 323, 324, 335, 336, 337, 338, 339, 340, 341, 342, 343, 344, 345, 346, 347, 348, 349, 350, 351, 352, 325, 326, 327, 328, 329, 330, 331, 332, 333, 334] (by decide +kernel) (by decide +kernel)) (goodIn_sub (fun _ h => List.mem_cons_of_mem _ (List.mem_append_right _ h)) (by decide +kernel))) (goodIn_sub (fun _ h => List.mem_cons_of_mem _ (List.mem_append_left _ (List.mem_append_right _ h))) (by decide +kernel))
set_option maxRecDepth 20000 in
theorem gX3_digest_X3_ofTrain : GoodIn wsX3_digest (wsV RX3 195 RX3 yX3_ofTrain wsX3_ofTrain) := goodIn_app (goodIn_of _ (by decide +kernel)) ggX3_digest_X3_ofTrain
set_option maxRecDepth 20000 in
theorem ggX3_digest_X3_stops : GoodIn wsX3_digest wsX3_stops := goodIn_ca (goodIn_ca (goodIn_r _ [135, 3, 90, 92, 93, 94, 10, 95, 4, 59, 60, 61, 62, 63, 14, 15, 16, 17, 18, 19, 20, 21, 136, 137, 138, 25, 139, 140, 141, 142, 143, 144, 145, 146, 147, 72, 73, 148, 149, 150, 319, 320, 321, 322, 323, 324, 335, 336, 337, 338, 339, 340, 341, 342, 343, 344, 345, 346, 347, 348, 349, 350, 351, 352, 325, 326, 327, 328, 329, 330, 331, 332, 333, 334] (by decide +kernel) (by decide +kernel)) (goodIn_sub (fun _ h => List.mem_cons_of_mem _ (List.mem_append_right _ h)) (by decide +kernel))) (goodIn_sub (fun _ h => List.mem_cons_of_mem _ (List.mem_append_left _ (List.mem_append_right _ h))) (by decide +kernel))
set_option maxRecDepth 20000 in
theorem gX3_digest_X3_stops : GoodIn wsX3_digest (wsV RX3 198 RX3 yX3_stops wsX3_stops) := goodIn_app (goodIn_of _ (by decide +kernel)) ggX3_digest_X3_stops
set_option maxRecDepth 20000 in
theorem ggX3_digest_X3_may : GoodIn wsX3_digest wsX3_may := goodIn_ca (goodIn_r _ [154, 3, 90, 155, 92, 93, 94, 10, 95, 4, 59, 60, 61, 62, 63, 156, 157, 158, 25, 159, 160, 143, 141, 161, 162, 163, 164, 146, 165, 166, 97, 98, 81, 99, 100, 101, 167, 137, 138, 139, 140, 142, 144, 145, 147, 72, 73, 168, 75, 76, 45, 77, 47, 48, 169, 170, 171, 172, 173, 174, 149, 150, 319, 320, 321, 322, 323, 324, 335, 336, 337, 338, 339, 340, 341, 342, 343, 344, 345, 346, 347, 348, 349, 350, 351, 352, 325, 326, 327, 328, 329, 330, 331, 332, 333, 334] (by decide +kernel) (by decide +kernel)) (goodIn_sub (fun _ h => List.mem_cons_of_mem _ (List.mem_append_right _ h)) (by decide +kernel))
set_option maxRecDepth 20000 in
theorem gX3_digest_X3_may : GoodIn wsX3_digest (wsV RX3 201 RX3 yX3_may wsX3_may) := goodIn_app (goodIn_of _ (by decide +kernel)) ggX3_digest_X3_may
set_option maxRecDepth 20000 in
theorem ggX3_digest_X3_why : GoodIn wsX3_digest wsX3_why := goodIn_ca (goodIn_r _ [178, 3, 90, 155, 92, 93, 94, 10, 95, 4, 59, 60, 61, 62, 63, 179, 180, 181, 25, 182, 28, 143, 183, 184, 185, 186, 163, 164, 146, 165, 141, 187, 188, 189, 190, 191, 192, 193, 194, 195, 196, 197, 198, 103, 104, 105, 29, 199, 200, 201, 202, 203, 204, 72, 73, 205, 206, 207, 208, 209, 81, 210, 211, 83, 84, 174, 319, 320, 321, 322, 323, 324, 335, 336, 337, 338, 339, 340, 341, 342, 343, 344, 345, 346, 347, 348, 349, 350, 351, 352, 325, 326, 327, 328, 329, 330, 331, 332, 333, 334] (by decide +kernel) (by decide +kernel)) (goodIn_sub (fun _ h => List.mem_cons_of_mem _ (List.mem_append_right _ h)) (by decide +kernel))
set_option maxRecDepth 20000 in
theorem gX3_digest_X3_why : GoodIn wsX3_digest (wsV RX3 204 RX3 yX3_why wsX3_why) := goodIn_app (goodIn_of _ (by decide +kernel)) ggX3_digest_X3_why
set_option maxRecDepth 20000 in
theorem ggX3_digest_X3_reaches : GoodIn wsX3_digest wsX3_reaches := goodIn_ca (goodIn_ca (goodIn_r _ [215, 3, 90, 216, 217, 92, 93, 94, 10, 95, 4, 59, 60, 61, 62, 63, 14, 15, 16, 17, 18, 19, 20, 21, 218, 219, 220, 25, 221, 141, 28, 27, 203, 222, 223, 224, 81, 225, 173, 226, 227, 101, 228, 229, 100, 84, 85, 83, 230, 231, 232, 45, 233, 48, 234, 235, 112, 47, 110, 111, 113, 236, 114, 115, 120, 121, 122, 123, 124, 125, 130, 237, 238, 239, 240, 29, 143, 144, 145, 146, 147, 160, 34, 241, 242, 243, 244, 245, 246, 247, 248, 249, 72, 73, 250, 251, 252, 253, 74, 75, 76, 77, 183, 184, 185, 186, 163, 164, 165, 187, 188, 189, 190, 191, 192, 193, 194, 195, 196, 197, 198, 103, 104, 105, 199, 200, 201, 202, 204, 205, 206, 207, 208, 209, 210, 211, 174, 254, 255, 256, 257, 258, 259, 260, 39, 261, 157, 158, 159, 161, 162, 166, 97, 98, 99, 167, 137, 138, 139, 140, 142, 168, 169, 170, 171, 172, 149, 150, 262, 263, 264, 265, 266, 267, 268, 269, 270, 271, 41, 272, 273, 274, 275, 276, 277, 278, 279, 280, 281, 282, 283, 284, 285, 286, 40, 287, 288, 289, 290, 291, 292, 293, 294, 295, 319, 320, 321, 322, 323, 324, 335, 336, 337, 338, 339, 340, 341, 342, 343, 344, 345, 346, 347, 348, 349, 350, 351, 352, 325, 326, 327, 328, 329, 330, 331, 332, 333, 334] (by decide +kernel) (by decide +kernel)) (goodIn_sub (fun _ h => List.mem_cons_of_mem _ (List.mem_append_right _ h)) (by decide +kernel))) (goodIn_sub (fun _ h => List.mem_cons_of_mem _ (List.mem_append_left _ (List.mem_append_right _ h))) (by decide +kernel))
set_option maxRecDepth 20000 in
theorem gX3_digest_X3_reaches : GoodIn wsX3_digest (wsV RX3 207 RX3 yX3_reaches wsX3_reaches) := goodIn_app (goodIn_of _ (by decide +kernel)) ggX3_digest_X3_reaches
set_option maxRecDepth 20000 in
theorem ggX3_digest_X3_closest : GoodIn wsX3_digest wsX3_closest := goodIn_ca (goodIn_ca (goodIn_r _ [299, 3, 90, 155, 217, 300, 301, 92, 93, 94, 10, 95, 4, 59, 60, 61, 62, 63, 14, 15, 16, 17, 18, 19, 20, 21, 102, 103, 104, 25, 105, 28, 29, 218, 219, 220, 221, 141, 27, 203, 222, 223, 224, 81, 225, 173, 226, 227, 101, 228, 229, 100, 84, 85, 83, 230, 231, 232, 45, 233, 48, 234, 235, 112, 47, 110, 111, 113, 236, 114, 115, 120, 121, 122, 123, 124, 125, 130, 237, 238, 239, 240, 143, 144, 145, 146, 147, 160, 34, 241, 242, 243, 244, 245, 246, 247, 248, 249, 72, 73, 250, 251, 252, 253, 74, 75, 76, 77, 183, 184, 185, 186, 163, 164, 165, 187, 188, 189, 190, 191, 192, 193, 194, 195, 196, 197, 198, 199, 200, 201, 202, 204, 205, 206, 207, 208, 209, 210, 211, 174, 254, 255, 256, 257, 258, 259, 260, 39, 261, 157, 158, 159, 161, 162, 166, 97, 98, 99, 167, 137, 138, 139, 140, 142, 168, 169, 170, 171, 172, 149, 150, 262, 263, 264, 265, 266, 267, 268, 269, 270, 271, 41, 272, 273, 274, 275, 276, 277, 278, 279, 280, 281, 282, 283, 284, 285, 286, 40, 287, 288, 289, 290, 291, 292, 293, 294, 295, 302, 127, 128, 129, 131, 319, 320, 321, 322, 323, 324, 335, 336, 337, 338, 339, 340, 341, 342, 343, 344, 345, 346, 347, 348, 349, 350, 351, 352, 325, 326, 327, 328, 329, 330, 331, 332, 333, 334] (by decide +kernel) (by decide +kernel)) (goodIn_sub (fun _ h => List.mem_cons_of_mem _ (List.mem_append_right _ h)) (by decide +kernel))) (goodIn_sub (fun _ h => List.mem_cons_of_mem _ (List.mem_append_left _ (List.mem_append_right _ h))) (by decide +kernel))
set_option maxRecDepth 20000 in
theorem gX3_digest_X3_closest : GoodIn wsX3_digest (wsV RX3 211 RX3 yX3_closest wsX3_closest) := goodIn_app (goodIn_of _ (by decide +kernel)) ggX3_digest_X3_closest
set_option maxRecDepth 20000 in
theorem ggX3_digest_X3_ofStation : GoodIn wsX3_digest wsX3_ofStation := goodIn_ca (goodIn_ca (goodIn_r _ [306, 3, 5, 6, 307, 308, 309, 59, 60, 10, 61, 62, 63, 14, 15, 16, 17, 18, 19, 20, 21, 319, 320, 321, 322, 323, 324, 325, 326, 327, 328, 329, 330, 331, 332, 333, 334] (by decide +kernel) (by decide +kernel)) (goodIn_sub (fun _ h => List.mem_cons_of_mem _ (List.mem_append_right _ h)) (by decide +kernel))) (goodIn_sub (fun _ h => List.mem_cons_of_mem _ (List.mem_append_left _ (List.mem_append_right _ h))) (by decide +kernel))
set_option maxRecDepth 20000 in
theorem gX3_digest_X3_ofStation : GoodIn wsX3_digest (wsV RX3 214 RX3 yX3_ofStation wsX3_ofStation) := goodIn_app (goodIn_of _ (by decide +kernel)) ggX3_digest_X3_ofStation
set_option maxRecDepth 20000 in
theorem ggX3_digest_X3_worksIn : GoodIn wsX3_digest wsX3_worksIn := goodIn_ca (goodIn_ca (goodIn_r _ [313, 217, 3, 56, 57, 10, 58, 59, 60, 61, 62, 63, 14, 15, 16, 17, 18, 19, 20, 21, 218, 219, 220, 25, 221, 141, 28, 27, 203, 222, 223, 224, 81, 225, 173, 226, 227, 101, 228, 229, 100, 84, 85, 83, 230, 231, 232, 45, 233, 48, 234, 235, 112, 47, 110, 111, 113, 236, 114, 115, 120, 121, 122, 123, 124, 125, 130, 314, 315, 316, 317, 29, 143, 160, 318, 65, 66, 67, 68, 69, 70, 71, 72, 73, 74, 75, 76, 77, 205, 206, 237, 238, 239, 240, 144, 145, 146, 147, 34, 241, 242, 243, 244, 245, 246, 247, 248, 249, 250, 251, 252, 253, 183, 184, 185, 186, 163, 164, 165, 187, 188, 189, 190, 191, 192, 193, 194, 195, 196, 197, 198, 103, 104, 105, 199, 200, 201, 202, 204, 207, 208, 209, 210, 211, 174, 254, 255, 256, 257, 258, 259, 260, 39, 261, 157, 158, 159, 161, 162, 166, 97, 98, 99, 167, 137, 138, 139, 140, 142, 168, 169, 170, 171, 172, 149, 150, 262, 263, 264, 265, 266, 267, 268, 269, 270, 271, 41, 272, 273, 274, 275, 276, 277, 278, 279, 280, 281, 282, 283, 284, 285, 286, 40, 287, 288, 289, 290, 291, 292, 293, 294, 295, 319, 320, 321, 322, 323, 324, 325, 326, 327, 328, 329, 330, 331, 332, 333, 334, 335, 336, 337, 338, 339, 340, 341, 342, 343, 344, 345, 346, 347, 348, 349, 350, 351, 352] (by decide +kernel) (by decide +kernel)) (goodIn_sub (fun _ h => List.mem_cons_of_mem _ (List.mem_append_right _ h)) (by decide +kernel))) (goodIn_sub (fun _ h => List.mem_cons_of_mem _ (List.mem_append_left _ (List.mem_append_right _ h))) (by decide +kernel))
set_option maxRecDepth 20000 in
theorem gX3_digest_X3_worksIn : GoodIn wsX3_digest (wsV RX3 217 RX3 yX3_worksIn wsX3_worksIn) := goodIn_app (goodIn_of _ (by decide +kernel)) ggX3_digest_X3_worksIn
theorem dX3_digest_0 : decode cX3_digest 0 = .ok (.ldc2_w 185, 3) := by decide +kernel
theorem dX3_digest_3 : decode cX3_digest 3 = .ok (.lstore_n 1, 1) := by decide +kernel
theorem dX3_digest_4 : decode cX3_digest 4 = .ok (.iconst 0, 1) := by decide +kernel
theorem dX3_digest_5 : decode cX3_digest 5 = .ok (.istore_n 3, 1) := by decide +kernel
theorem dX3_digest_6 : decode cX3_digest 6 = .ok (.iload_n 3, 1) := by decide +kernel
theorem dX3_digest_7 : decode cX3_digest 7 = .ok (.bipush 9, 2) := by decide +kernel
theorem dX3_digest_9 : decode cX3_digest 9 = .ok (.if_icmp .gt 22, 3) := by decide +kernel
theorem dX3_digest_12 : decode cX3_digest 12 = .ok (.lload_n 1, 1) := by decide +kernel
theorem dX3_digest_13 : decode cX3_digest 13 = .ok (.ldc2_w 187, 3) := by decide +kernel
theorem dX3_digest_16 : decode cX3_digest 16 = .ok (.lmul, 1) := by decide +kernel
theorem dX3_digest_17 : decode cX3_digest 17 = .ok (.aload_n 0, 1) := by decide +kernel
theorem dX3_digest_18 : decode cX3_digest 18 = .ok (.iload_n 3, 1) := by decide +kernel
theorem dX3_digest_19 : decode cX3_digest 19 = .ok (.invokevirtual 189, 3) := by decide +kernel
theorem dX3_digest_22 : decode cX3_digest 22 = .ok (.i2l, 1) := by decide +kernel
theorem dX3_digest_23 : decode cX3_digest 23 = .ok (.ladd, 1) := by decide +kernel
theorem dX3_digest_24 : decode cX3_digest 24 = .ok (.lstore_n 1, 1) := by decide +kernel
theorem dX3_digest_25 : decode cX3_digest 25 = .ok (.iinc 3 1, 3) := by decide +kernel
theorem dX3_digest_28 : decode cX3_digest 28 = .ok (.goto (-22), 3) := by decide +kernel
theorem dX3_digest_31 : decode cX3_digest 31 = .ok (.iconst 0, 1) := by decide +kernel
theorem dX3_digest_32 : decode cX3_digest 32 = .ok (.istore_n 3, 1) := by decide +kernel
theorem dX3_digest_33 : decode cX3_digest 33 = .ok (.iload_n 3, 1) := by decide +kernel
theorem dX3_digest_34 : decode cX3_digest 34 = .ok (.bipush 20, 2) := by decide +kernel
theorem dX3_digest_36 : decode cX3_digest 36 = .ok (.if_icmp .ge 39, 3) := by decide +kernel
theorem dX3_digest_39 : decode cX3_digest 39 = .ok (.iconst 0, 1) := by decide +kernel
theorem dX3_digest_40 : decode cX3_digest 40 = .ok (.istore 4, 2) := by decide +kernel
theorem dX3_digest_42 : decode cX3_digest 42 = .ok (.iload 4, 2) := by decide +kernel
theorem dX3_digest_44 : decode cX3_digest 44 = .ok (.iconst 4, 1) := by decide +kernel
theorem dX3_digest_45 : decode cX3_digest 45 = .ok (.if_icmp .gt 24, 3) := by decide +kernel
theorem dX3_digest_48 : decode cX3_digest 48 = .ok (.lload_n 1, 1) := by decide +kernel
theorem dX3_digest_49 : decode cX3_digest 49 = .ok (.ldc2_w 187, 3) := by decide +kernel
theorem dX3_digest_52 : decode cX3_digest 52 = .ok (.lmul, 1) := by decide +kernel
theorem dX3_digest_53 : decode cX3_digest 53 = .ok (.aload_n 0, 1) := by decide +kernel
theorem dX3_digest_54 : decode cX3_digest 54 = .ok (.iload_n 3, 1) := by decide +kernel
theorem dX3_digest_55 : decode cX3_digest 55 = .ok (.iload 4, 2) := by decide +kernel
theorem dX3_digest_57 : decode cX3_digest 57 = .ok (.invokevirtual 192, 3) := by decide +kernel
theorem dX3_digest_60 : decode cX3_digest 60 = .ok (.i2l, 1) := by decide +kernel
theorem dX3_digest_61 : decode cX3_digest 61 = .ok (.ladd, 1) := by decide +kernel
theorem dX3_digest_62 : decode cX3_digest 62 = .ok (.lstore_n 1, 1) := by decide +kernel
theorem dX3_digest_63 : decode cX3_digest 63 = .ok (.iinc 4 1, 3) := by decide +kernel
theorem dX3_digest_66 : decode cX3_digest 66 = .ok (.goto (-24), 3) := by decide +kernel
theorem dX3_digest_69 : decode cX3_digest 69 = .ok (.iinc 3 1, 3) := by decide +kernel
theorem dX3_digest_72 : decode cX3_digest 72 = .ok (.goto (-39), 3) := by decide +kernel
theorem dX3_digest_75 : decode cX3_digest 75 = .ok (.iconst 0, 1) := by decide +kernel
theorem dX3_digest_76 : decode cX3_digest 76 = .ok (.istore_n 3, 1) := by decide +kernel
theorem dX3_digest_77 : decode cX3_digest 77 = .ok (.iload_n 3, 1) := by decide +kernel
theorem dX3_digest_78 : decode cX3_digest 78 = .ok (.aload_n 0, 1) := by decide +kernel
theorem dX3_digest_79 : decode cX3_digest 79 = .ok (.getfield 10, 3) := by decide +kernel
theorem dX3_digest_82 : decode cX3_digest 82 = .ok (.getfield 67, 3) := by decide +kernel
theorem dX3_digest_85 : decode cX3_digest 85 = .ok (.if_icmp .ge 114, 3) := by decide +kernel
theorem dX3_digest_88 : decode cX3_digest 88 = .ok (.iconst 0, 1) := by decide +kernel
theorem dX3_digest_89 : decode cX3_digest 89 = .ok (.istore 4, 2) := by decide +kernel
theorem dX3_digest_91 : decode cX3_digest 91 = .ok (.iload 4, 2) := by decide +kernel
theorem dX3_digest_93 : decode cX3_digest 93 = .ok (.bipush 15, 2) := by decide +kernel
theorem dX3_digest_95 : decode cX3_digest 95 = .ok (.if_icmp .gt 24, 3) := by decide +kernel
theorem dX3_digest_98 : decode cX3_digest 98 = .ok (.lload_n 1, 1) := by decide +kernel
theorem dX3_digest_99 : decode cX3_digest 99 = .ok (.ldc2_w 187, 3) := by decide +kernel
theorem dX3_digest_102 : decode cX3_digest 102 = .ok (.lmul, 1) := by decide +kernel
theorem dX3_digest_103 : decode cX3_digest 103 = .ok (.aload_n 0, 1) := by decide +kernel
theorem dX3_digest_104 : decode cX3_digest 104 = .ok (.iload_n 3, 1) := by decide +kernel
theorem dX3_digest_105 : decode cX3_digest 105 = .ok (.iload 4, 2) := by decide +kernel
theorem dX3_digest_107 : decode cX3_digest 107 = .ok (.invokevirtual 195, 3) := by decide +kernel
theorem dX3_digest_110 : decode cX3_digest 110 = .ok (.i2l, 1) := by decide +kernel
theorem dX3_digest_111 : decode cX3_digest 111 = .ok (.ladd, 1) := by decide +kernel
theorem dX3_digest_112 : decode cX3_digest 112 = .ok (.lstore_n 1, 1) := by decide +kernel
theorem dX3_digest_113 : decode cX3_digest 113 = .ok (.iinc 4 1, 3) := by decide +kernel
theorem dX3_digest_116 : decode cX3_digest 116 = .ok (.goto (-25), 3) := by decide +kernel
theorem dX3_digest_119 : decode cX3_digest 119 = .ok (.lload_n 1, 1) := by decide +kernel
theorem dX3_digest_120 : decode cX3_digest 120 = .ok (.ldc2_w 187, 3) := by decide +kernel
theorem dX3_digest_123 : decode cX3_digest 123 = .ok (.lmul, 1) := by decide +kernel
theorem dX3_digest_124 : decode cX3_digest 124 = .ok (.aload_n 0, 1) := by decide +kernel
theorem dX3_digest_125 : decode cX3_digest 125 = .ok (.iload_n 3, 1) := by decide +kernel
theorem dX3_digest_126 : decode cX3_digest 126 = .ok (.bipush 20, 2) := by decide +kernel
theorem dX3_digest_128 : decode cX3_digest 128 = .ok (.invokevirtual 198, 3) := by decide +kernel
theorem dX3_digest_131 : decode cX3_digest 131 = .ok (.i2l, 1) := by decide +kernel
theorem dX3_digest_132 : decode cX3_digest 132 = .ok (.ladd, 1) := by decide +kernel
theorem dX3_digest_133 : decode cX3_digest 133 = .ok (.lstore_n 1, 1) := by decide +kernel
theorem dX3_digest_134 : decode cX3_digest 134 = .ok (.lload_n 1, 1) := by decide +kernel
theorem dX3_digest_135 : decode cX3_digest 135 = .ok (.ldc2_w 187, 3) := by decide +kernel
theorem dX3_digest_138 : decode cX3_digest 138 = .ok (.lmul, 1) := by decide +kernel
theorem dX3_digest_139 : decode cX3_digest 139 = .ok (.aload_n 0, 1) := by decide +kernel
theorem dX3_digest_140 : decode cX3_digest 140 = .ok (.iload_n 3, 1) := by decide +kernel
theorem dX3_digest_141 : decode cX3_digest 141 = .ok (.invokevirtual 201, 3) := by decide +kernel
theorem dX3_digest_144 : decode cX3_digest 144 = .ok (.i2l, 1) := by decide +kernel
theorem dX3_digest_145 : decode cX3_digest 145 = .ok (.ladd, 1) := by decide +kernel
theorem dX3_digest_146 : decode cX3_digest 146 = .ok (.lstore_n 1, 1) := by decide +kernel
theorem dX3_digest_147 : decode cX3_digest 147 = .ok (.lload_n 1, 1) := by decide +kernel
theorem dX3_digest_148 : decode cX3_digest 148 = .ok (.ldc2_w 187, 3) := by decide +kernel
theorem dX3_digest_151 : decode cX3_digest 151 = .ok (.lmul, 1) := by decide +kernel
theorem dX3_digest_152 : decode cX3_digest 152 = .ok (.aload_n 0, 1) := by decide +kernel
theorem dX3_digest_153 : decode cX3_digest 153 = .ok (.iload_n 3, 1) := by decide +kernel
theorem dX3_digest_154 : decode cX3_digest 154 = .ok (.invokevirtual 204, 3) := by decide +kernel
theorem dX3_digest_157 : decode cX3_digest 157 = .ok (.i2l, 1) := by decide +kernel
theorem dX3_digest_158 : decode cX3_digest 158 = .ok (.ladd, 1) := by decide +kernel
theorem dX3_digest_159 : decode cX3_digest 159 = .ok (.lstore_n 1, 1) := by decide +kernel
theorem dX3_digest_160 : decode cX3_digest 160 = .ok (.lload_n 1, 1) := by decide +kernel
theorem dX3_digest_161 : decode cX3_digest 161 = .ok (.ldc2_w 187, 3) := by decide +kernel
theorem dX3_digest_164 : decode cX3_digest 164 = .ok (.lmul, 1) := by decide +kernel
theorem dX3_digest_165 : decode cX3_digest 165 = .ok (.aload_n 0, 1) := by decide +kernel
theorem dX3_digest_166 : decode cX3_digest 166 = .ok (.iload_n 3, 1) := by decide +kernel
theorem dX3_digest_167 : decode cX3_digest 167 = .ok (.sipush 2000, 3) := by decide +kernel
theorem dX3_digest_170 : decode cX3_digest 170 = .ok (.bipush 90, 2) := by decide +kernel
theorem dX3_digest_172 : decode cX3_digest 172 = .ok (.invokevirtual 207, 3) := by decide +kernel
theorem dX3_digest_175 : decode cX3_digest 175 = .ok (.i2l, 1) := by decide +kernel
theorem dX3_digest_176 : decode cX3_digest 176 = .ok (.ladd, 1) := by decide +kernel
theorem dX3_digest_177 : decode cX3_digest 177 = .ok (.lstore_n 1, 1) := by decide +kernel
theorem dX3_digest_178 : decode cX3_digest 178 = .ok (.lload_n 1, 1) := by decide +kernel
theorem dX3_digest_179 : decode cX3_digest 179 = .ok (.ldc2_w 187, 3) := by decide +kernel
theorem dX3_digest_182 : decode cX3_digest 182 = .ok (.lmul, 1) := by decide +kernel
theorem dX3_digest_183 : decode cX3_digest 183 = .ok (.aload_n 0, 1) := by decide +kernel
theorem dX3_digest_184 : decode cX3_digest 184 = .ok (.iload_n 3, 1) := by decide +kernel
theorem dX3_digest_185 : decode cX3_digest 185 = .ok (.bipush 30, 2) := by decide +kernel
theorem dX3_digest_187 : decode cX3_digest 187 = .ok (.invokevirtual 211, 3) := by decide +kernel
theorem dX3_digest_190 : decode cX3_digest 190 = .ok (.i2l, 1) := by decide +kernel
theorem dX3_digest_191 : decode cX3_digest 191 = .ok (.ladd, 1) := by decide +kernel
theorem dX3_digest_192 : decode cX3_digest 192 = .ok (.lstore_n 1, 1) := by decide +kernel
theorem dX3_digest_193 : decode cX3_digest 193 = .ok (.iinc 3 1, 3) := by decide +kernel
theorem dX3_digest_196 : decode cX3_digest 196 = .ok (.goto (-119), 3) := by decide +kernel
theorem dX3_digest_199 : decode cX3_digest 199 = .ok (.iconst 0, 1) := by decide +kernel
theorem dX3_digest_200 : decode cX3_digest 200 = .ok (.istore_n 3, 1) := by decide +kernel
theorem dX3_digest_201 : decode cX3_digest 201 = .ok (.iload_n 3, 1) := by decide +kernel
theorem dX3_digest_202 : decode cX3_digest 202 = .ok (.aload_n 0, 1) := by decide +kernel
theorem dX3_digest_203 : decode cX3_digest 203 = .ok (.getfield 10, 3) := by decide +kernel
theorem dX3_digest_206 : decode cX3_digest 206 = .ok (.getfield 31, 3) := by decide +kernel
theorem dX3_digest_209 : decode cX3_digest 209 = .ok (.getfield 52, 3) := by decide +kernel
theorem dX3_digest_212 : decode cX3_digest 212 = .ok (.if_icmp .ge 39, 3) := by decide +kernel
theorem dX3_digest_215 : decode cX3_digest 215 = .ok (.iconst 0, 1) := by decide +kernel
theorem dX3_digest_216 : decode cX3_digest 216 = .ok (.istore 4, 2) := by decide +kernel
theorem dX3_digest_218 : decode cX3_digest 218 = .ok (.iload 4, 2) := by decide +kernel
theorem dX3_digest_220 : decode cX3_digest 220 = .ok (.iconst 2, 1) := by decide +kernel
theorem dX3_digest_221 : decode cX3_digest 221 = .ok (.if_icmp .gt 24, 3) := by decide +kernel
theorem dX3_digest_224 : decode cX3_digest 224 = .ok (.lload_n 1, 1) := by decide +kernel
theorem dX3_digest_225 : decode cX3_digest 225 = .ok (.ldc2_w 187, 3) := by decide +kernel
theorem dX3_digest_228 : decode cX3_digest 228 = .ok (.lmul, 1) := by decide +kernel
theorem dX3_digest_229 : decode cX3_digest 229 = .ok (.aload_n 0, 1) := by decide +kernel
theorem dX3_digest_230 : decode cX3_digest 230 = .ok (.iload_n 3, 1) := by decide +kernel
theorem dX3_digest_231 : decode cX3_digest 231 = .ok (.iload 4, 2) := by decide +kernel
theorem dX3_digest_233 : decode cX3_digest 233 = .ok (.invokevirtual 214, 3) := by decide +kernel
theorem dX3_digest_236 : decode cX3_digest 236 = .ok (.i2l, 1) := by decide +kernel
theorem dX3_digest_237 : decode cX3_digest 237 = .ok (.ladd, 1) := by decide +kernel
theorem dX3_digest_238 : decode cX3_digest 238 = .ok (.lstore_n 1, 1) := by decide +kernel
theorem dX3_digest_239 : decode cX3_digest 239 = .ok (.iinc 4 1, 3) := by decide +kernel
theorem dX3_digest_242 : decode cX3_digest 242 = .ok (.goto (-24), 3) := by decide +kernel
theorem dX3_digest_245 : decode cX3_digest 245 = .ok (.iinc 3 1, 3) := by decide +kernel
theorem dX3_digest_248 : decode cX3_digest 248 = .ok (.goto (-47), 3) := by decide +kernel
theorem dX3_digest_251 : decode cX3_digest 251 = .ok (.lload_n 1, 1) := by decide +kernel
theorem dX3_digest_252 : decode cX3_digest 252 = .ok (.ldc2_w 187, 3) := by decide +kernel
theorem dX3_digest_255 : decode cX3_digest 255 = .ok (.lmul, 1) := by decide +kernel
theorem dX3_digest_256 : decode cX3_digest 256 = .ok (.aload_n 0, 1) := by decide +kernel
theorem dX3_digest_257 : decode cX3_digest 257 = .ok (.iconst 5, 1) := by decide +kernel
theorem dX3_digest_258 : decode cX3_digest 258 = .ok (.bipush 6, 2) := by decide +kernel
theorem dX3_digest_260 : decode cX3_digest 260 = .ok (.bipush 60, 2) := by decide +kernel
theorem dX3_digest_262 : decode cX3_digest 262 = .ok (.invokevirtual 217, 3) := by decide +kernel
theorem dX3_digest_265 : decode cX3_digest 265 = .ok (.i2l, 1) := by decide +kernel
theorem dX3_digest_266 : decode cX3_digest 266 = .ok (.ladd, 1) := by decide +kernel
theorem dX3_digest_267 : decode cX3_digest 267 = .ok (.lreturn, 1) := by decide +kernel
set_option maxRecDepth 20000 in
theorem ggX3_needTrain_X3_needIndex : GoodIn wsX3_needTrain wsX3_needIndex := goodIn_ca (goodIn_r _ [6, 7, 8] (by decide +kernel) (by decide +kernel)) (goodIn_sub (fun _ h => List.mem_cons_of_mem _ (List.mem_append_right _ h)) (by decide +kernel))
set_option maxRecDepth 20000 in
theorem gX3_needTrain_X3_needIndex : GoodIn wsX3_needTrain (va_wsS RX3 99 yX3_needIndex wsX3_needIndex) := goodIn_app (goodIn_of _ (by decide +kernel)) ggX3_needTrain_X3_needIndex
theorem dX3_needTrain_0 : decode cX3_needTrain 0 = .ok (.iload_n 1, 1) := by decide +kernel
theorem dX3_needTrain_1 : decode cX3_needTrain 1 = .ok (.aload_n 0, 1) := by decide +kernel
theorem dX3_needTrain_2 : decode cX3_needTrain 2 = .ok (.getfield 10, 3) := by decide +kernel
theorem dX3_needTrain_5 : decode cX3_needTrain 5 = .ok (.getfield 67, 3) := by decide +kernel
theorem dX3_needTrain_8 : decode cX3_needTrain 8 = .ok (.invokestatic 99, 3) := by decide +kernel
theorem dX3_needTrain_11 : decode cX3_needTrain 11 = .ok (.return_, 1) := by decide +kernel
set_option maxRecDepth 20000 in
theorem ggX3_needSection_X3_needIndex : GoodIn wsX3_needSection wsX3_needIndex := goodIn_ca (goodIn_r _ [4, 5, 6] (by decide +kernel) (by decide +kernel)) (goodIn_sub (fun _ h => List.mem_cons_of_mem _ (List.mem_append_right _ h)) (by decide +kernel))
set_option maxRecDepth 20000 in
theorem gX3_needSection_X3_needIndex : GoodIn wsX3_needSection (va_wsS RX3 99 yX3_needIndex wsX3_needIndex) := goodIn_app (goodIn_of _ (by decide +kernel)) ggX3_needSection_X3_needIndex
theorem dX3_needSection_0 : decode cX3_needSection 0 = .ok (.iload_n 0, 1) := by decide +kernel
theorem dX3_needSection_1 : decode cX3_needSection 1 = .ok (.bipush 20, 2) := by decide +kernel
theorem dX3_needSection_3 : decode cX3_needSection 3 = .ok (.invokestatic 99, 3) := by decide +kernel
theorem dX3_needSection_6 : decode cX3_needSection 6 = .ok (.return_, 1) := by decide +kernel
theorem dX3_needIndex_0 : decode cX3_needIndex 0 = .ok (.iload_n 0, 1) := by decide +kernel
theorem dX3_needIndex_1 : decode cX3_needIndex 1 = .ok (.ifCond .lt 8, 3) := by decide +kernel
theorem dX3_needIndex_4 : decode cX3_needIndex 4 = .ok (.iload_n 0, 1) := by decide +kernel
theorem dX3_needIndex_5 : decode cX3_needIndex 5 = .ok (.iload_n 1, 1) := by decide +kernel
theorem dX3_needIndex_6 : decode cX3_needIndex 6 = .ok (.if_icmp .lt 13, 3) := by decide +kernel
theorem dX3_needIndex_9 : decode cX3_needIndex 9 = .ok (.new 220, 3) := by decide +kernel
theorem dX3_needIndex_12 : decode cX3_needIndex 12 = .ok (.dup, 1) := by decide +kernel
theorem dX3_needIndex_13 : decode cX3_needIndex 13 = .ok (.ldc 222, 2) := by decide +kernel
theorem dX3_needIndex_15 : decode cX3_needIndex 15 = .ok (.invokespecial 224, 3) := by decide +kernel
theorem dX3_needIndex_18 : decode cX3_needIndex 18 = .ok (.athrow, 1) := by decide +kernel
theorem dX3_needIndex_19 : decode cX3_needIndex 19 = .ok (.return_, 1) := by decide +kernel
theorem dX3_need_0 : decode cX3_need 0 = .ok (.iload_n 0, 1) := by decide +kernel
theorem dX3_need_1 : decode cX3_need 1 = .ok (.ifCond .ne 13, 3) := by decide +kernel
theorem dX3_need_4 : decode cX3_need 4 = .ok (.new 227, 3) := by decide +kernel
theorem dX3_need_7 : decode cX3_need 7 = .ok (.dup, 1) := by decide +kernel
theorem dX3_need_8 : decode cX3_need 8 = .ok (.ldc 229, 2) := by decide +kernel
theorem dX3_need_10 : decode cX3_need 10 = .ok (.invokespecial 231, 3) := by decide +kernel
theorem dX3_need_13 : decode cX3_need 13 = .ok (.athrow, 1) := by decide +kernel
theorem dX3_need_14 : decode cX3_need 14 = .ok (.return_, 1) := by decide +kernel
theorem dX3_needState_0 : decode cX3_needState 0 = .ok (.iload_n 0, 1) := by decide +kernel
theorem dX3_needState_1 : decode cX3_needState 1 = .ok (.ifCond .ne 13, 3) := by decide +kernel
theorem dX3_needState_4 : decode cX3_needState 4 = .ok (.new 232, 3) := by decide +kernel
theorem dX3_needState_7 : decode cX3_needState 7 = .ok (.dup, 1) := by decide +kernel
theorem dX3_needState_8 : decode cX3_needState 8 = .ok (.ldc 234, 2) := by decide +kernel
theorem dX3_needState_10 : decode cX3_needState 10 = .ok (.invokespecial 236, 3) := by decide +kernel
theorem dX3_needState_13 : decode cX3_needState 13 = .ok (.athrow, 1) := by decide +kernel
theorem dX3_needState_14 : decode cX3_needState 14 = .ok (.return_, 1) := by decide +kernel
theorem dX3_isWithin_0 : decode cX3_isWithin 0 = .ok (.iload_n 0, 1) := by decide +kernel
theorem dX3_isWithin_1 : decode cX3_isWithin 1 = .ok (.iload_n 1, 1) := by decide +kernel
theorem dX3_isWithin_2 : decode cX3_isWithin 2 = .ok (.if_icmp .lt 12, 3) := by decide +kernel
theorem dX3_isWithin_5 : decode cX3_isWithin 5 = .ok (.iload_n 0, 1) := by decide +kernel
theorem dX3_isWithin_6 : decode cX3_isWithin 6 = .ok (.iload_n 2, 1) := by decide +kernel
theorem dX3_isWithin_7 : decode cX3_isWithin 7 = .ok (.if_icmp .gt 7, 3) := by decide +kernel
theorem dX3_isWithin_10 : decode cX3_isWithin 10 = .ok (.iconst 1, 1) := by decide +kernel
theorem dX3_isWithin_11 : decode cX3_isWithin 11 = .ok (.goto 4, 3) := by decide +kernel
theorem dX3_isWithin_14 : decode cX3_isWithin 14 = .ok (.iconst 0, 1) := by decide +kernel
theorem dX3_isWithin_15 : decode cX3_isWithin 15 = .ok (.ireturn, 1) := by decide +kernel
theorem dX3_sectionAt_0 : decode cX3_sectionAt 0 = .ok (.iload_n 0, 1) := by decide +kernel
theorem dX3_sectionAt_1 : decode cX3_sectionAt 1 = .ok (.ifCond .ge 5, 3) := by decide +kernel
theorem dX3_sectionAt_4 : decode cX3_sectionAt 4 = .ok (.iconst 0, 1) := by decide +kernel
theorem dX3_sectionAt_5 : decode cX3_sectionAt 5 = .ok (.ireturn, 1) := by decide +kernel
theorem dX3_sectionAt_6 : decode cX3_sectionAt 6 = .ok (.iload_n 0, 1) := by decide +kernel
theorem dX3_sectionAt_7 : decode cX3_sectionAt 7 = .ok (.sipush 2999, 3) := by decide +kernel
theorem dX3_sectionAt_10 : decode cX3_sectionAt 10 = .ok (.if_icmp .le 8, 3) := by decide +kernel
theorem dX3_sectionAt_13 : decode cX3_sectionAt 13 = .ok (.bipush 19, 2) := by decide +kernel
theorem dX3_sectionAt_15 : decode cX3_sectionAt 15 = .ok (.goto 8, 3) := by decide +kernel
theorem dX3_sectionAt_18 : decode cX3_sectionAt 18 = .ok (.iload_n 0, 1) := by decide +kernel
theorem dX3_sectionAt_19 : decode cX3_sectionAt 19 = .ok (.sipush 150, 3) := by decide +kernel
theorem dX3_sectionAt_22 : decode cX3_sectionAt 22 = .ok (.idiv, 1) := by decide +kernel
theorem dX3_sectionAt_23 : decode cX3_sectionAt 23 = .ok (.ireturn, 1) := by decide +kernel
theorem dX3_firstMetreOf_0 : decode cX3_firstMetreOf 0 = .ok (.iload_n 0, 1) := by decide +kernel
theorem dX3_firstMetreOf_1 : decode cX3_firstMetreOf 1 = .ok (.sipush 150, 3) := by decide +kernel
theorem dX3_firstMetreOf_4 : decode cX3_firstMetreOf 4 = .ok (.imul, 1) := by decide +kernel
theorem dX3_firstMetreOf_5 : decode cX3_firstMetreOf 5 = .ok (.ireturn, 1) := by decide +kernel
theorem dX3_stopMetres_0 : decode cX3_stopMetres 0 = .ok (.iload_n 1, 1) := by decide +kernel
theorem dX3_stopMetres_1 : decode cX3_stopMetres 1 = .ok (.iconst 1, 1) := by decide +kernel
theorem dX3_stopMetres_2 : decode cX3_stopMetres 2 = .ok (.if_icmp .ge 7, 3) := by decide +kernel
theorem dX3_stopMetres_5 : decode cX3_stopMetres 5 = .ok (.iconst 2, 1) := by decide +kernel
theorem dX3_stopMetres_6 : decode cX3_stopMetres 6 = .ok (.goto 6, 3) := by decide +kernel
theorem dX3_stopMetres_9 : decode cX3_stopMetres 9 = .ok (.iconst 2, 1) := by decide +kernel
theorem dX3_stopMetres_10 : decode cX3_stopMetres 10 = .ok (.iload_n 1, 1) := by decide +kernel
theorem dX3_stopMetres_11 : decode cX3_stopMetres 11 = .ok (.imul, 1) := by decide +kernel
theorem dX3_stopMetres_12 : decode cX3_stopMetres 12 = .ok (.istore_n 2, 1) := by decide +kernel
theorem dX3_stopMetres_13 : decode cX3_stopMetres 13 = .ok (.iload_n 0, 1) := by decide +kernel
theorem dX3_stopMetres_14 : decode cX3_stopMetres 14 = .ok (.iload_n 0, 1) := by decide +kernel
theorem dX3_stopMetres_15 : decode cX3_stopMetres 15 = .ok (.iload_n 0, 1) := by decide +kernel
theorem dX3_stopMetres_16 : decode cX3_stopMetres 16 = .ok (.iconst 1, 1) := by decide +kernel
theorem dX3_stopMetres_17 : decode cX3_stopMetres 17 = .ok (.isub, 1) := by decide +kernel
theorem dX3_stopMetres_18 : decode cX3_stopMetres 18 = .ok (.imul, 1) := by decide +kernel
theorem dX3_stopMetres_19 : decode cX3_stopMetres 19 = .ok (.iload_n 2, 1) := by decide +kernel
theorem dX3_stopMetres_20 : decode cX3_stopMetres 20 = .ok (.iadd, 1) := by decide +kernel
theorem dX3_stopMetres_21 : decode cX3_stopMetres 21 = .ok (.iconst 1, 1) := by decide +kernel
theorem dX3_stopMetres_22 : decode cX3_stopMetres 22 = .ok (.isub, 1) := by decide +kernel
theorem dX3_stopMetres_23 : decode cX3_stopMetres 23 = .ok (.iload_n 2, 1) := by decide +kernel
theorem dX3_stopMetres_24 : decode cX3_stopMetres 24 = .ok (.idiv, 1) := by decide +kernel
theorem dX3_stopMetres_25 : decode cX3_stopMetres 25 = .ok (.iadd, 1) := by decide +kernel
theorem dX3_stopMetres_26 : decode cX3_stopMetres 26 = .ok (.ireturn, 1) := by decide +kernel
