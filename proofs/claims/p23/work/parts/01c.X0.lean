set_option maxRecDepth 20000 in
theorem ggX0_init_X1_init : GoodIn wsX0_init wsX1_init := goodIn_r _ [16, 17, 2, 3, 18, 19, 20, 21, 22, 23, 24, 25, 26, 27, 28, 29, 52, 53, 54, 55, 56, 57, 58, 59, 60, 61] (by decide +kernel) (by decide +kernel)
set_option maxRecDepth 20000 in
theorem gX0_init_X1_init : GoodIn wsX0_init (wsX1_init) := ggX0_init_X1_init
set_option maxRecDepth 20000 in
theorem ggX0_init_X2_init : GoodIn wsX0_init wsX2_init := goodIn_r _ [31, 32, 2, 3, 33, 34, 35, 36, 37, 38, 39, 40, 41, 42, 43, 44, 45, 46, 47, 48, 49, 50, 51, 66, 67, 68, 69, 70, 71, 72, 73, 74, 75, 76, 77, 78, 79, 80, 81, 82, 83] (by decide +kernel) (by decide +kernel)
set_option maxRecDepth 20000 in
theorem gX0_init_X2_init_n31 : GoodIn wsX0_init (wsX2_init) := ggX0_init_X2_init
theorem dX0_init_0 : decode cX0_init 0 = .ok (.aload_n 0, 1) := by decide +kernel
theorem dX0_init_1 : decode cX0_init 1 = .ok (.invokespecial 3, 3) := by decide +kernel
theorem dX0_init_4 : decode cX0_init 4 = .ok (.aload_n 0, 1) := by decide +kernel
theorem dX0_init_5 : decode cX0_init 5 = .ok (.new 9, 3) := by decide +kernel
theorem dX0_init_8 : decode cX0_init 8 = .ok (.dup, 1) := by decide +kernel
theorem dX0_init_9 : decode cX0_init 9 = .ok (.invokespecial 11, 3) := by decide +kernel
theorem dX0_init_12 : decode cX0_init 12 = .ok (.putfield 12, 3) := by decide +kernel
theorem dX0_init_15 : decode cX0_init 15 = .ok (.aload_n 0, 1) := by decide +kernel
theorem dX0_init_16 : decode cX0_init 16 = .ok (.iconst 4, 1) := by decide +kernel
theorem dX0_init_17 : decode cX0_init 17 = .ok (.anewarray 18, 3) := by decide +kernel
theorem dX0_init_20 : decode cX0_init 20 = .ok (.putfield 20, 3) := by decide +kernel
theorem dX0_init_23 : decode cX0_init 23 = .ok (.aload_n 0, 1) := by decide +kernel
theorem dX0_init_24 : decode cX0_init 24 = .ok (.iconst 0, 1) := by decide +kernel
theorem dX0_init_25 : decode cX0_init 25 = .ok (.putfield 24, 3) := by decide +kernel
theorem dX0_init_28 : decode cX0_init 28 = .ok (.aload_n 0, 1) := by decide +kernel
theorem dX0_init_29 : decode cX0_init 29 = .ok (.iconst 0, 1) := by decide +kernel
theorem dX0_init_30 : decode cX0_init 30 = .ok (.putfield 28, 3) := by decide +kernel
theorem dX0_init_33 : decode cX0_init 33 = .ok (.iconst 0, 1) := by decide +kernel
theorem dX0_init_34 : decode cX0_init 34 = .ok (.istore_n 1, 1) := by decide +kernel
theorem dX0_init_35 : decode cX0_init 35 = .ok (.iload_n 1, 1) := by decide +kernel
theorem dX0_init_36 : decode cX0_init 36 = .ok (.iconst 4, 1) := by decide +kernel
theorem dX0_init_37 : decode cX0_init 37 = .ok (.if_icmp .ge 22, 3) := by decide +kernel
theorem dX0_init_40 : decode cX0_init 40 = .ok (.aload_n 0, 1) := by decide +kernel
theorem dX0_init_41 : decode cX0_init 41 = .ok (.getfield 20, 3) := by decide +kernel
theorem dX0_init_44 : decode cX0_init 44 = .ok (.iload_n 1, 1) := by decide +kernel
theorem dX0_init_45 : decode cX0_init 45 = .ok (.new 18, 3) := by decide +kernel
theorem dX0_init_48 : decode cX0_init 48 = .ok (.dup, 1) := by decide +kernel
theorem dX0_init_49 : decode cX0_init 49 = .ok (.invokespecial 31, 3) := by decide +kernel
theorem dX0_init_52 : decode cX0_init 52 = .ok (.aastore, 1) := by decide +kernel
theorem dX0_init_53 : decode cX0_init 53 = .ok (.iinc 1 1, 3) := by decide +kernel
theorem dX0_init_56 : decode cX0_init 56 = .ok (.goto (-21), 3) := by decide +kernel
theorem dX0_init_59 : decode cX0_init 59 = .ok (.return_, 1) := by decide +kernel
set_option maxRecDepth 20000 in
theorem ggX0_copyFrom_X1_copyFrom : GoodIn wsX0_copyFrom wsX1_copyFrom := goodIn_r _ [9, 10, 11, 12, 13, 14, 15, 16, 17, 18, 19, 47, 48, 49, 50, 51, 52, 53, 54, 55, 56] (by decide +kernel) (by decide +kernel)
set_option maxRecDepth 20000 in
theorem gX0_copyFrom_X1_copyFrom : GoodIn wsX0_copyFrom (wsV RX0 32 RX1 yX1_copyFrom wsX1_copyFrom) := goodIn_app (goodIn_of _ (by decide +kernel)) ggX0_copyFrom_X1_copyFrom
set_option maxRecDepth 20000 in
theorem ggX0_copyFrom_X2_copyFrom : GoodIn wsX0_copyFrom wsX2_copyFrom := goodIn_r _ [24, 25, 26, 27, 28, 29, 30, 31, 32, 33, 34, 35, 36, 37, 38, 39, 40, 41, 42, 57, 58, 59, 60, 61, 62, 63, 64, 65, 66, 67, 68, 69, 70, 71, 72, 73, 74] (by decide +kernel) (by decide +kernel)
set_option maxRecDepth 20000 in
theorem gX0_copyFrom_X2_copyFrom : GoodIn wsX0_copyFrom (wsV RX0 36 RX2 yX2_copyFrom wsX2_copyFrom) := goodIn_app (goodIn_of _ (by decide +kernel)) ggX0_copyFrom_X2_copyFrom
theorem dX0_copyFrom_0 : decode cX0_copyFrom 0 = .ok (.aload_n 0, 1) := by decide +kernel
theorem dX0_copyFrom_1 : decode cX0_copyFrom 1 = .ok (.getfield 12, 3) := by decide +kernel
theorem dX0_copyFrom_4 : decode cX0_copyFrom 4 = .ok (.aload_n 1, 1) := by decide +kernel
theorem dX0_copyFrom_5 : decode cX0_copyFrom 5 = .ok (.getfield 12, 3) := by decide +kernel
theorem dX0_copyFrom_8 : decode cX0_copyFrom 8 = .ok (.invokevirtual 32, 3) := by decide +kernel
theorem dX0_copyFrom_11 : decode cX0_copyFrom 11 = .ok (.iconst 0, 1) := by decide +kernel
theorem dX0_copyFrom_12 : decode cX0_copyFrom 12 = .ok (.istore_n 2, 1) := by decide +kernel
theorem dX0_copyFrom_13 : decode cX0_copyFrom 13 = .ok (.iload_n 2, 1) := by decide +kernel
theorem dX0_copyFrom_14 : decode cX0_copyFrom 14 = .ok (.iconst 4, 1) := by decide +kernel
theorem dX0_copyFrom_15 : decode cX0_copyFrom 15 = .ok (.if_icmp .ge 24, 3) := by decide +kernel
theorem dX0_copyFrom_18 : decode cX0_copyFrom 18 = .ok (.aload_n 0, 1) := by decide +kernel
theorem dX0_copyFrom_19 : decode cX0_copyFrom 19 = .ok (.getfield 20, 3) := by decide +kernel
theorem dX0_copyFrom_22 : decode cX0_copyFrom 22 = .ok (.iload_n 2, 1) := by decide +kernel
theorem dX0_copyFrom_23 : decode cX0_copyFrom 23 = .ok (.aaload, 1) := by decide +kernel
theorem dX0_copyFrom_24 : decode cX0_copyFrom 24 = .ok (.aload_n 1, 1) := by decide +kernel
theorem dX0_copyFrom_25 : decode cX0_copyFrom 25 = .ok (.getfield 20, 3) := by decide +kernel
theorem dX0_copyFrom_28 : decode cX0_copyFrom 28 = .ok (.iload_n 2, 1) := by decide +kernel
theorem dX0_copyFrom_29 : decode cX0_copyFrom 29 = .ok (.aaload, 1) := by decide +kernel
theorem dX0_copyFrom_30 : decode cX0_copyFrom 30 = .ok (.invokevirtual 36, 3) := by decide +kernel
theorem dX0_copyFrom_33 : decode cX0_copyFrom 33 = .ok (.iinc 2 1, 3) := by decide +kernel
theorem dX0_copyFrom_36 : decode cX0_copyFrom 36 = .ok (.goto (-23), 3) := by decide +kernel
theorem dX0_copyFrom_39 : decode cX0_copyFrom 39 = .ok (.aload_n 0, 1) := by decide +kernel
theorem dX0_copyFrom_40 : decode cX0_copyFrom 40 = .ok (.aload_n 1, 1) := by decide +kernel
theorem dX0_copyFrom_41 : decode cX0_copyFrom 41 = .ok (.getfield 24, 3) := by decide +kernel
theorem dX0_copyFrom_44 : decode cX0_copyFrom 44 = .ok (.putfield 24, 3) := by decide +kernel
theorem dX0_copyFrom_47 : decode cX0_copyFrom 47 = .ok (.aload_n 0, 1) := by decide +kernel
theorem dX0_copyFrom_48 : decode cX0_copyFrom 48 = .ok (.aload_n 1, 1) := by decide +kernel
theorem dX0_copyFrom_49 : decode cX0_copyFrom 49 = .ok (.getfield 28, 3) := by decide +kernel
theorem dX0_copyFrom_52 : decode cX0_copyFrom 52 = .ok (.putfield 28, 3) := by decide +kernel
theorem dX0_copyFrom_55 : decode cX0_copyFrom 55 = .ok (.return_, 1) := by decide +kernel
set_option maxRecDepth 20000 in
theorem ggX0_addTrain_X1_stationsFrom : GoodIn wsX0_addTrain wsX1_stationsFrom := goodIn_r _ [15, 16, 17, 55, 56, 57, 58, 59, 60, 61, 62, 63, 64] (by decide +kernel) (by decide +kernel)
set_option maxRecDepth 20000 in
theorem gX0_addTrain_X1_stationsFrom : GoodIn wsX0_addTrain (wsV RX0 54 RX1 yX1_stationsFrom wsX1_stationsFrom) := goodIn_app (goodIn_of _ (by decide +kernel)) ggX0_addTrain_X1_stationsFrom
set_option maxRecDepth 20000 in
theorem ggX0_addTrain_X2_report : GoodIn wsX0_addTrain wsX2_report := goodIn_r _ [22, 23, 24, 25, 26, 27, 28, 29, 30, 21, 31, 32, 37, 38, 39, 40, 41, 42, 43, 44, 45, 46, 47, 48, 49, 50, 51, 52, 53, 54] (by decide +kernel) (by decide +kernel)
set_option maxRecDepth 20000 in
theorem gX0_addTrain_X2_report : GoodIn wsX0_addTrain (wsV RX0 61 RX2 yX2_report wsX2_report) := goodIn_app (goodIn_of _ (by decide +kernel)) ggX0_addTrain_X2_report
theorem dX0_addTrain_0 : decode cX0_addTrain 0 = .ok (.aload_n 0, 1) := by decide +kernel
theorem dX0_addTrain_1 : decode cX0_addTrain 1 = .ok (.getfield 24, 3) := by decide +kernel
theorem dX0_addTrain_4 : decode cX0_addTrain 4 = .ok (.istore 5, 2) := by decide +kernel
theorem dX0_addTrain_6 : decode cX0_addTrain 6 = .ok (.aload_n 0, 1) := by decide +kernel
theorem dX0_addTrain_7 : decode cX0_addTrain 7 = .ok (.getfield 20, 3) := by decide +kernel
theorem dX0_addTrain_10 : decode cX0_addTrain 10 = .ok (.iload 5, 2) := by decide +kernel
theorem dX0_addTrain_12 : decode cX0_addTrain 12 = .ok (.aaload, 1) := by decide +kernel
theorem dX0_addTrain_13 : decode cX0_addTrain 13 = .ok (.astore 6, 2) := by decide +kernel
theorem dX0_addTrain_15 : decode cX0_addTrain 15 = .ok (.aload 6, 2) := by decide +kernel
theorem dX0_addTrain_17 : decode cX0_addTrain 17 = .ok (.iload_n 1, 1) := by decide +kernel
theorem dX0_addTrain_18 : decode cX0_addTrain 18 = .ok (.putfield 39, 3) := by decide +kernel
theorem dX0_addTrain_21 : decode cX0_addTrain 21 = .ok (.aload 6, 2) := by decide +kernel
theorem dX0_addTrain_23 : decode cX0_addTrain 23 = .ok (.iload_n 2, 1) := by decide +kernel
theorem dX0_addTrain_24 : decode cX0_addTrain 24 = .ok (.putfield 42, 3) := by decide +kernel
theorem dX0_addTrain_27 : decode cX0_addTrain 27 = .ok (.aload 6, 2) := by decide +kernel
theorem dX0_addTrain_29 : decode cX0_addTrain 29 = .ok (.iload_n 3, 1) := by decide +kernel
theorem dX0_addTrain_30 : decode cX0_addTrain 30 = .ok (.putfield 45, 3) := by decide +kernel
theorem dX0_addTrain_33 : decode cX0_addTrain 33 = .ok (.aload 6, 2) := by decide +kernel
theorem dX0_addTrain_35 : decode cX0_addTrain 35 = .ok (.iload_n 1, 1) := by decide +kernel
theorem dX0_addTrain_36 : decode cX0_addTrain 36 = .ok (.iconst 1, 1) := by decide +kernel
theorem dX0_addTrain_37 : decode cX0_addTrain 37 = .ok (.isub, 1) := by decide +kernel
theorem dX0_addTrain_38 : decode cX0_addTrain 38 = .ok (.putfield 48, 3) := by decide +kernel
theorem dX0_addTrain_41 : decode cX0_addTrain 41 = .ok (.aload 6, 2) := by decide +kernel
theorem dX0_addTrain_43 : decode cX0_addTrain 43 = .ok (.aload 6, 2) := by decide +kernel
theorem dX0_addTrain_45 : decode cX0_addTrain 45 = .ok (.getfield 48, 3) := by decide +kernel
theorem dX0_addTrain_48 : decode cX0_addTrain 48 = .ok (.putfield 51, 3) := by decide +kernel
theorem dX0_addTrain_51 : decode cX0_addTrain 51 = .ok (.aload 6, 2) := by decide +kernel
theorem dX0_addTrain_53 : decode cX0_addTrain 53 = .ok (.iload 4, 2) := by decide +kernel
theorem dX0_addTrain_55 : decode cX0_addTrain 55 = .ok (.ifCond .eq 18, 3) := by decide +kernel
theorem dX0_addTrain_58 : decode cX0_addTrain 58 = .ok (.aload_n 0, 1) := by decide +kernel
theorem dX0_addTrain_59 : decode cX0_addTrain 59 = .ok (.getfield 12, 3) := by decide +kernel
theorem dX0_addTrain_62 : decode cX0_addTrain 62 = .ok (.aload 6, 2) := by decide +kernel
theorem dX0_addTrain_64 : decode cX0_addTrain 64 = .ok (.getfield 48, 3) := by decide +kernel
theorem dX0_addTrain_67 : decode cX0_addTrain 67 = .ok (.invokevirtual 54, 3) := by decide +kernel
theorem dX0_addTrain_70 : decode cX0_addTrain 70 = .ok (.goto 4, 3) := by decide +kernel
theorem dX0_addTrain_73 : decode cX0_addTrain 73 = .ok (.iconst 0, 1) := by decide +kernel
theorem dX0_addTrain_74 : decode cX0_addTrain 74 = .ok (.putfield 58, 3) := by decide +kernel
theorem dX0_addTrain_77 : decode cX0_addTrain 77 = .ok (.aload 6, 2) := by decide +kernel
theorem dX0_addTrain_79 : decode cX0_addTrain 79 = .ok (.aload_n 0, 1) := by decide +kernel
theorem dX0_addTrain_80 : decode cX0_addTrain 80 = .ok (.getfield 28, 3) := by decide +kernel
theorem dX0_addTrain_83 : decode cX0_addTrain 83 = .ok (.invokevirtual 61, 3) := by decide +kernel
theorem dX0_addTrain_86 : decode cX0_addTrain 86 = .ok (.aload_n 0, 1) := by decide +kernel
theorem dX0_addTrain_87 : decode cX0_addTrain 87 = .ok (.iload 5, 2) := by decide +kernel
theorem dX0_addTrain_89 : decode cX0_addTrain 89 = .ok (.iconst 1, 1) := by decide +kernel
theorem dX0_addTrain_90 : decode cX0_addTrain 90 = .ok (.iadd, 1) := by decide +kernel
theorem dX0_addTrain_91 : decode cX0_addTrain 91 = .ok (.putfield 24, 3) := by decide +kernel
theorem dX0_addTrain_94 : decode cX0_addTrain 94 = .ok (.iload 5, 2) := by decide +kernel
theorem dX0_addTrain_96 : decode cX0_addTrain 96 = .ok (.ireturn, 1) := by decide +kernel
set_option maxRecDepth 20000 in
theorem ggX0_isFreeUpTo_X2_rear : GoodIn wsX0_isFreeUpTo wsX2_rear := goodIn_r _ [8, 9, 10, 15, 16, 17, 18, 19, 20, 21, 22, 23, 24, 25, 26, 27, 28, 29, 30, 31, 32] (by decide +kernel) (by decide +kernel)
set_option maxRecDepth 20000 in
theorem gX0_isFreeUpTo_X2_rear : GoodIn wsX0_isFreeUpTo (wsV RX0 69 RX2 yX2_rear wsX2_rear) := goodIn_app (goodIn_of _ (by decide +kernel)) ggX0_isFreeUpTo_X2_rear
theorem dX0_isFreeUpTo_0 : decode cX0_isFreeUpTo 0 = .ok (.iconst 0, 1) := by decide +kernel
theorem dX0_isFreeUpTo_1 : decode cX0_isFreeUpTo 1 = .ok (.istore_n 2, 1) := by decide +kernel
theorem dX0_isFreeUpTo_2 : decode cX0_isFreeUpTo 2 = .ok (.iload_n 2, 1) := by decide +kernel
theorem dX0_isFreeUpTo_3 : decode cX0_isFreeUpTo 3 = .ok (.aload_n 0, 1) := by decide +kernel
theorem dX0_isFreeUpTo_4 : decode cX0_isFreeUpTo 4 = .ok (.getfield 24, 3) := by decide +kernel
theorem dX0_isFreeUpTo_7 : decode cX0_isFreeUpTo 7 = .ok (.if_icmp .ge 36, 3) := by decide +kernel
theorem dX0_isFreeUpTo_10 : decode cX0_isFreeUpTo 10 = .ok (.aload_n 0, 1) := by decide +kernel
theorem dX0_isFreeUpTo_11 : decode cX0_isFreeUpTo 11 = .ok (.getfield 20, 3) := by decide +kernel
theorem dX0_isFreeUpTo_14 : decode cX0_isFreeUpTo 14 = .ok (.iload_n 2, 1) := by decide +kernel
theorem dX0_isFreeUpTo_15 : decode cX0_isFreeUpTo 15 = .ok (.aaload, 1) := by decide +kernel
theorem dX0_isFreeUpTo_16 : decode cX0_isFreeUpTo 16 = .ok (.getfield 65, 3) := by decide +kernel
theorem dX0_isFreeUpTo_19 : decode cX0_isFreeUpTo 19 = .ok (.ifCond .ne 18, 3) := by decide +kernel
theorem dX0_isFreeUpTo_22 : decode cX0_isFreeUpTo 22 = .ok (.aload_n 0, 1) := by decide +kernel
theorem dX0_isFreeUpTo_23 : decode cX0_isFreeUpTo 23 = .ok (.getfield 20, 3) := by decide +kernel
theorem dX0_isFreeUpTo_26 : decode cX0_isFreeUpTo 26 = .ok (.iload_n 2, 1) := by decide +kernel
theorem dX0_isFreeUpTo_27 : decode cX0_isFreeUpTo 27 = .ok (.aaload, 1) := by decide +kernel
theorem dX0_isFreeUpTo_28 : decode cX0_isFreeUpTo 28 = .ok (.invokevirtual 69, 3) := by decide +kernel
theorem dX0_isFreeUpTo_31 : decode cX0_isFreeUpTo 31 = .ok (.iload_n 1, 1) := by decide +kernel
theorem dX0_isFreeUpTo_32 : decode cX0_isFreeUpTo 32 = .ok (.if_icmp .gt 5, 3) := by decide +kernel
theorem dX0_isFreeUpTo_35 : decode cX0_isFreeUpTo 35 = .ok (.iconst 0, 1) := by decide +kernel
theorem dX0_isFreeUpTo_36 : decode cX0_isFreeUpTo 36 = .ok (.ireturn, 1) := by decide +kernel
theorem dX0_isFreeUpTo_37 : decode cX0_isFreeUpTo 37 = .ok (.iinc 2 1, 3) := by decide +kernel
theorem dX0_isFreeUpTo_40 : decode cX0_isFreeUpTo 40 = .ok (.goto (-38), 3) := by decide +kernel
theorem dX0_isFreeUpTo_43 : decode cX0_isFreeUpTo 43 = .ok (.iconst 1, 1) := by decide +kernel
theorem dX0_isFreeUpTo_44 : decode cX0_isFreeUpTo 44 = .ok (.ireturn, 1) := by decide +kernel
theorem dX0_countPresent_0 : decode cX0_countPresent 0 = .ok (.iconst 0, 1) := by decide +kernel
theorem dX0_countPresent_1 : decode cX0_countPresent 1 = .ok (.istore_n 1, 1) := by decide +kernel
theorem dX0_countPresent_2 : decode cX0_countPresent 2 = .ok (.iconst 0, 1) := by decide +kernel
theorem dX0_countPresent_3 : decode cX0_countPresent 3 = .ok (.istore_n 2, 1) := by decide +kernel
theorem dX0_countPresent_4 : decode cX0_countPresent 4 = .ok (.iload_n 2, 1) := by decide +kernel
theorem dX0_countPresent_5 : decode cX0_countPresent 5 = .ok (.aload_n 0, 1) := by decide +kernel
theorem dX0_countPresent_6 : decode cX0_countPresent 6 = .ok (.getfield 24, 3) := by decide +kernel
theorem dX0_countPresent_9 : decode cX0_countPresent 9 = .ok (.if_icmp .ge 29, 3) := by decide +kernel
theorem dX0_countPresent_12 : decode cX0_countPresent 12 = .ok (.iload_n 1, 1) := by decide +kernel
theorem dX0_countPresent_13 : decode cX0_countPresent 13 = .ok (.aload_n 0, 1) := by decide +kernel
theorem dX0_countPresent_14 : decode cX0_countPresent 14 = .ok (.getfield 20, 3) := by decide +kernel
theorem dX0_countPresent_17 : decode cX0_countPresent 17 = .ok (.iload_n 2, 1) := by decide +kernel
theorem dX0_countPresent_18 : decode cX0_countPresent 18 = .ok (.aaload, 1) := by decide +kernel
theorem dX0_countPresent_19 : decode cX0_countPresent 19 = .ok (.getfield 65, 3) := by decide +kernel
theorem dX0_countPresent_22 : decode cX0_countPresent 22 = .ok (.ifCond .eq 7, 3) := by decide +kernel
theorem dX0_countPresent_25 : decode cX0_countPresent 25 = .ok (.iconst 0, 1) := by decide +kernel
theorem dX0_countPresent_26 : decode cX0_countPresent 26 = .ok (.goto 4, 3) := by decide +kernel
theorem dX0_countPresent_29 : decode cX0_countPresent 29 = .ok (.iconst 1, 1) := by decide +kernel
theorem dX0_countPresent_30 : decode cX0_countPresent 30 = .ok (.iadd, 1) := by decide +kernel
theorem dX0_countPresent_31 : decode cX0_countPresent 31 = .ok (.istore_n 1, 1) := by decide +kernel
theorem dX0_countPresent_32 : decode cX0_countPresent 32 = .ok (.iinc 2 1, 3) := by decide +kernel
theorem dX0_countPresent_35 : decode cX0_countPresent 35 = .ok (.goto (-31), 3) := by decide +kernel
theorem dX0_countPresent_38 : decode cX0_countPresent 38 = .ok (.iload_n 1, 1) := by decide +kernel
theorem dX0_countPresent_39 : decode cX0_countPresent 39 = .ok (.ireturn, 1) := by decide +kernel
theorem dX0_countCrashed_0 : decode cX0_countCrashed 0 = .ok (.iconst 0, 1) := by decide +kernel
theorem dX0_countCrashed_1 : decode cX0_countCrashed 1 = .ok (.istore_n 1, 1) := by decide +kernel
theorem dX0_countCrashed_2 : decode cX0_countCrashed 2 = .ok (.iconst 0, 1) := by decide +kernel
theorem dX0_countCrashed_3 : decode cX0_countCrashed 3 = .ok (.istore_n 2, 1) := by decide +kernel
theorem dX0_countCrashed_4 : decode cX0_countCrashed 4 = .ok (.iload_n 2, 1) := by decide +kernel
theorem dX0_countCrashed_5 : decode cX0_countCrashed 5 = .ok (.aload_n 0, 1) := by decide +kernel
theorem dX0_countCrashed_6 : decode cX0_countCrashed 6 = .ok (.getfield 24, 3) := by decide +kernel
theorem dX0_countCrashed_9 : decode cX0_countCrashed 9 = .ok (.if_icmp .ge 29, 3) := by decide +kernel
theorem dX0_countCrashed_12 : decode cX0_countCrashed 12 = .ok (.iload_n 1, 1) := by decide +kernel
theorem dX0_countCrashed_13 : decode cX0_countCrashed 13 = .ok (.aload_n 0, 1) := by decide +kernel
theorem dX0_countCrashed_14 : decode cX0_countCrashed 14 = .ok (.getfield 20, 3) := by decide +kernel
theorem dX0_countCrashed_17 : decode cX0_countCrashed 17 = .ok (.iload_n 2, 1) := by decide +kernel
theorem dX0_countCrashed_18 : decode cX0_countCrashed 18 = .ok (.aaload, 1) := by decide +kernel
theorem dX0_countCrashed_19 : decode cX0_countCrashed 19 = .ok (.getfield 73, 3) := by decide +kernel
theorem dX0_countCrashed_22 : decode cX0_countCrashed 22 = .ok (.ifCond .eq 7, 3) := by decide +kernel
theorem dX0_countCrashed_25 : decode cX0_countCrashed 25 = .ok (.iconst 1, 1) := by decide +kernel
theorem dX0_countCrashed_26 : decode cX0_countCrashed 26 = .ok (.goto 4, 3) := by decide +kernel
theorem dX0_countCrashed_29 : decode cX0_countCrashed 29 = .ok (.iconst 0, 1) := by decide +kernel
theorem dX0_countCrashed_30 : decode cX0_countCrashed 30 = .ok (.iadd, 1) := by decide +kernel
theorem dX0_countCrashed_31 : decode cX0_countCrashed 31 = .ok (.istore_n 1, 1) := by decide +kernel
theorem dX0_countCrashed_32 : decode cX0_countCrashed 32 = .ok (.iinc 2 1, 3) := by decide +kernel
theorem dX0_countCrashed_35 : decode cX0_countCrashed 35 = .ok (.goto (-31), 3) := by decide +kernel
theorem dX0_countCrashed_38 : decode cX0_countCrashed 38 = .ok (.iload_n 1, 1) := by decide +kernel
theorem dX0_countCrashed_39 : decode cX0_countCrashed 39 = .ok (.ireturn, 1) := by decide +kernel
set_option maxRecDepth 20000 in
theorem ggX0_countOn_X2_isOn : GoodIn wsX0_countOn wsX2_isOn := goodIn_r _ [8, 9, 10, 11, 12, 13, 14, 15, 7, 16, 17, 22, 23, 24, 25, 26, 27, 28, 29, 30, 31, 32, 33, 34, 35, 36, 37, 38, 39] (by decide +kernel) (by decide +kernel)
set_option maxRecDepth 20000 in
theorem gX0_countOn_X2_isOn : GoodIn wsX0_countOn (wsV RX0 76 RX2 yX2_isOn wsX2_isOn) := goodIn_app (goodIn_of _ (by decide +kernel)) ggX0_countOn_X2_isOn
theorem dX0_countOn_0 : decode cX0_countOn 0 = .ok (.iconst 0, 1) := by decide +kernel
theorem dX0_countOn_1 : decode cX0_countOn 1 = .ok (.istore_n 3, 1) := by decide +kernel
theorem dX0_countOn_2 : decode cX0_countOn 2 = .ok (.iconst 0, 1) := by decide +kernel
theorem dX0_countOn_3 : decode cX0_countOn 3 = .ok (.istore 4, 2) := by decide +kernel
theorem dX0_countOn_5 : decode cX0_countOn 5 = .ok (.iload 4, 2) := by decide +kernel
theorem dX0_countOn_7 : decode cX0_countOn 7 = .ok (.aload_n 0, 1) := by decide +kernel
theorem dX0_countOn_8 : decode cX0_countOn 8 = .ok (.getfield 24, 3) := by decide +kernel
theorem dX0_countOn_11 : decode cX0_countOn 11 = .ok (.if_icmp .ge 57, 3) := by decide +kernel
theorem dX0_countOn_14 : decode cX0_countOn 14 = .ok (.aload_n 0, 1) := by decide +kernel
theorem dX0_countOn_15 : decode cX0_countOn 15 = .ok (.getfield 20, 3) := by decide +kernel
theorem dX0_countOn_18 : decode cX0_countOn 18 = .ok (.iload 4, 2) := by decide +kernel
theorem dX0_countOn_20 : decode cX0_countOn 20 = .ok (.aaload, 1) := by decide +kernel
theorem dX0_countOn_21 : decode cX0_countOn 21 = .ok (.getfield 65, 3) := by decide +kernel
theorem dX0_countOn_24 : decode cX0_countOn 24 = .ok (.ifCond .ne 22, 3) := by decide +kernel
theorem dX0_countOn_27 : decode cX0_countOn 27 = .ok (.aload_n 0, 1) := by decide +kernel
theorem dX0_countOn_28 : decode cX0_countOn 28 = .ok (.getfield 20, 3) := by decide +kernel
theorem dX0_countOn_31 : decode cX0_countOn 31 = .ok (.iload 4, 2) := by decide +kernel
theorem dX0_countOn_33 : decode cX0_countOn 33 = .ok (.aaload, 1) := by decide +kernel
theorem dX0_countOn_34 : decode cX0_countOn 34 = .ok (.iload_n 1, 1) := by decide +kernel
theorem dX0_countOn_35 : decode cX0_countOn 35 = .ok (.iload_n 2, 1) := by decide +kernel
theorem dX0_countOn_36 : decode cX0_countOn 36 = .ok (.invokevirtual 76, 3) := by decide +kernel
theorem dX0_countOn_39 : decode cX0_countOn 39 = .ok (.ifCond .eq 7, 3) := by decide +kernel
theorem dX0_countOn_42 : decode cX0_countOn 42 = .ok (.iconst 1, 1) := by decide +kernel
theorem dX0_countOn_43 : decode cX0_countOn 43 = .ok (.goto 4, 3) := by decide +kernel
theorem dX0_countOn_46 : decode cX0_countOn 46 = .ok (.iconst 0, 1) := by decide +kernel
theorem dX0_countOn_47 : decode cX0_countOn 47 = .ok (.istore 5, 2) := by decide +kernel
theorem dX0_countOn_49 : decode cX0_countOn 49 = .ok (.iload_n 3, 1) := by decide +kernel
theorem dX0_countOn_50 : decode cX0_countOn 50 = .ok (.iload 5, 2) := by decide +kernel
theorem dX0_countOn_52 : decode cX0_countOn 52 = .ok (.ifCond .eq 7, 3) := by decide +kernel
theorem dX0_countOn_55 : decode cX0_countOn 55 = .ok (.iconst 1, 1) := by decide +kernel
theorem dX0_countOn_56 : decode cX0_countOn 56 = .ok (.goto 4, 3) := by decide +kernel
theorem dX0_countOn_59 : decode cX0_countOn 59 = .ok (.iconst 0, 1) := by decide +kernel
theorem dX0_countOn_60 : decode cX0_countOn 60 = .ok (.iadd, 1) := by decide +kernel
theorem dX0_countOn_61 : decode cX0_countOn 61 = .ok (.istore_n 3, 1) := by decide +kernel
theorem dX0_countOn_62 : decode cX0_countOn 62 = .ok (.iinc 4 1, 3) := by decide +kernel
theorem dX0_countOn_65 : decode cX0_countOn 65 = .ok (.goto (-60), 3) := by decide +kernel
theorem dX0_countOn_68 : decode cX0_countOn 68 = .ok (.iload_n 3, 1) := by decide +kernel
theorem dX0_countOn_69 : decode cX0_countOn 69 = .ok (.ireturn, 1) := by decide +kernel
theorem dX0_sumOfSpeeds_0 : decode cX0_sumOfSpeeds 0 = .ok (.iconst 0, 1) := by decide +kernel
theorem dX0_sumOfSpeeds_1 : decode cX0_sumOfSpeeds 1 = .ok (.istore_n 1, 1) := by decide +kernel
theorem dX0_sumOfSpeeds_2 : decode cX0_sumOfSpeeds 2 = .ok (.iconst 0, 1) := by decide +kernel
theorem dX0_sumOfSpeeds_3 : decode cX0_sumOfSpeeds 3 = .ok (.istore_n 2, 1) := by decide +kernel
theorem dX0_sumOfSpeeds_4 : decode cX0_sumOfSpeeds 4 = .ok (.iload_n 2, 1) := by decide +kernel
theorem dX0_sumOfSpeeds_5 : decode cX0_sumOfSpeeds 5 = .ok (.aload_n 0, 1) := by decide +kernel
theorem dX0_sumOfSpeeds_6 : decode cX0_sumOfSpeeds 6 = .ok (.getfield 24, 3) := by decide +kernel
theorem dX0_sumOfSpeeds_9 : decode cX0_sumOfSpeeds 9 = .ok (.if_icmp .ge 21, 3) := by decide +kernel
theorem dX0_sumOfSpeeds_12 : decode cX0_sumOfSpeeds 12 = .ok (.iload_n 1, 1) := by decide +kernel
theorem dX0_sumOfSpeeds_13 : decode cX0_sumOfSpeeds 13 = .ok (.aload_n 0, 1) := by decide +kernel
theorem dX0_sumOfSpeeds_14 : decode cX0_sumOfSpeeds 14 = .ok (.getfield 20, 3) := by decide +kernel
theorem dX0_sumOfSpeeds_17 : decode cX0_sumOfSpeeds 17 = .ok (.iload_n 2, 1) := by decide +kernel
theorem dX0_sumOfSpeeds_18 : decode cX0_sumOfSpeeds 18 = .ok (.aaload, 1) := by decide +kernel
theorem dX0_sumOfSpeeds_19 : decode cX0_sumOfSpeeds 19 = .ok (.getfield 80, 3) := by decide +kernel
theorem dX0_sumOfSpeeds_22 : decode cX0_sumOfSpeeds 22 = .ok (.iadd, 1) := by decide +kernel
theorem dX0_sumOfSpeeds_23 : decode cX0_sumOfSpeeds 23 = .ok (.istore_n 1, 1) := by decide +kernel
theorem dX0_sumOfSpeeds_24 : decode cX0_sumOfSpeeds 24 = .ok (.iinc 2 1, 3) := by decide +kernel
theorem dX0_sumOfSpeeds_27 : decode cX0_sumOfSpeeds 27 = .ok (.goto (-23), 3) := by decide +kernel
theorem dX0_sumOfSpeeds_30 : decode cX0_sumOfSpeeds 30 = .ok (.iload_n 1, 1) := by decide +kernel
theorem dX0_sumOfSpeeds_31 : decode cX0_sumOfSpeeds 31 = .ok (.ireturn, 1) := by decide +kernel
set_option maxRecDepth 20000 in
theorem ggX0_total_X2_metresGone : GoodIn wsX0_total wsX2_metresGone := goodIn_r _ [10, 11, 12, 17, 18, 19, 20, 21, 22, 23, 24, 25, 26, 27, 28, 29, 30, 31, 32, 33, 34] (by decide +kernel) (by decide +kernel)
set_option maxRecDepth 20000 in
theorem gX0_total_X2_metresGone : GoodIn wsX0_total (wsV RX0 92 RX2 yX2_metresGone wsX2_metresGone) := goodIn_app (goodIn_of _ (by decide +kernel)) ggX0_total_X2_metresGone
theorem dX0_total_0 : decode cX0_total 0 = .ok (.iconst 0, 1) := by decide +kernel
theorem dX0_total_1 : decode cX0_total 1 = .ok (.istore_n 2, 1) := by decide +kernel
theorem dX0_total_2 : decode cX0_total 2 = .ok (.iconst 0, 1) := by decide +kernel
theorem dX0_total_3 : decode cX0_total 3 = .ok (.istore_n 3, 1) := by decide +kernel
theorem dX0_total_4 : decode cX0_total 4 = .ok (.iload_n 3, 1) := by decide +kernel
theorem dX0_total_5 : decode cX0_total 5 = .ok (.aload_n 0, 1) := by decide +kernel
theorem dX0_total_6 : decode cX0_total 6 = .ok (.getfield 24, 3) := by decide +kernel
theorem dX0_total_9 : decode cX0_total 9 = .ok (.if_icmp .ge 86, 3) := by decide +kernel
theorem dX0_total_12 : decode cX0_total 12 = .ok (.aload_n 0, 1) := by decide +kernel
theorem dX0_total_13 : decode cX0_total 13 = .ok (.getfield 20, 3) := by decide +kernel
theorem dX0_total_16 : decode cX0_total 16 = .ok (.iload_n 3, 1) := by decide +kernel
theorem dX0_total_17 : decode cX0_total 17 = .ok (.aaload, 1) := by decide +kernel
theorem dX0_total_18 : decode cX0_total 18 = .ok (.astore 4, 2) := by decide +kernel
theorem dX0_total_20 : decode cX0_total 20 = .ok (.iload_n 1, 1) := by decide +kernel
theorem dX0_total_21 : decode cX0_total 21 = .ok (.tableswitch 60 6 8 #[27, 38, 49], 27) := by decide +kernel
theorem dX0_total_48 : decode cX0_total 48 = .ok (.iload_n 2, 1) := by decide +kernel
theorem dX0_total_49 : decode cX0_total 49 = .ok (.aload 4, 2) := by decide +kernel
theorem dX0_total_51 : decode cX0_total 51 = .ok (.getfield 83, 3) := by decide +kernel
theorem dX0_total_54 : decode cX0_total 54 = .ok (.iadd, 1) := by decide +kernel
theorem dX0_total_55 : decode cX0_total 55 = .ok (.istore_n 2, 1) := by decide +kernel
theorem dX0_total_56 : decode cX0_total 56 = .ok (.goto 33, 3) := by decide +kernel
theorem dX0_total_59 : decode cX0_total 59 = .ok (.iload_n 2, 1) := by decide +kernel
theorem dX0_total_60 : decode cX0_total 60 = .ok (.aload 4, 2) := by decide +kernel
theorem dX0_total_62 : decode cX0_total 62 = .ok (.getfield 86, 3) := by decide +kernel
theorem dX0_total_65 : decode cX0_total 65 = .ok (.iadd, 1) := by decide +kernel
theorem dX0_total_66 : decode cX0_total 66 = .ok (.istore_n 2, 1) := by decide +kernel
theorem dX0_total_67 : decode cX0_total 67 = .ok (.goto 22, 3) := by decide +kernel
theorem dX0_total_70 : decode cX0_total 70 = .ok (.iload_n 2, 1) := by decide +kernel
theorem dX0_total_71 : decode cX0_total 71 = .ok (.aload 4, 2) := by decide +kernel
theorem dX0_total_73 : decode cX0_total 73 = .ok (.getfield 89, 3) := by decide +kernel
theorem dX0_total_76 : decode cX0_total 76 = .ok (.iadd, 1) := by decide +kernel
theorem dX0_total_77 : decode cX0_total 77 = .ok (.istore_n 2, 1) := by decide +kernel
theorem dX0_total_78 : decode cX0_total 78 = .ok (.goto 11, 3) := by decide +kernel
theorem dX0_total_81 : decode cX0_total 81 = .ok (.iload_n 2, 1) := by decide +kernel
theorem dX0_total_82 : decode cX0_total 82 = .ok (.aload 4, 2) := by decide +kernel
theorem dX0_total_84 : decode cX0_total 84 = .ok (.invokevirtual 92, 3) := by decide +kernel
theorem dX0_total_87 : decode cX0_total 87 = .ok (.iadd, 1) := by decide +kernel
theorem dX0_total_88 : decode cX0_total 88 = .ok (.istore_n 2, 1) := by decide +kernel
theorem dX0_total_89 : decode cX0_total 89 = .ok (.iinc 3 1, 3) := by decide +kernel
theorem dX0_total_92 : decode cX0_total 92 = .ok (.goto (-88), 3) := by decide +kernel
theorem dX0_total_95 : decode cX0_total 95 = .ok (.iload_n 2, 1) := by decide +kernel
theorem dX0_total_96 : decode cX0_total 96 = .ok (.ireturn, 1) := by decide +kernel
theorem dX0_aheadOf_0 : decode cX0_aheadOf 0 = .ok (.iload_n 1, 1) := by decide +kernel
theorem dX0_aheadOf_1 : decode cX0_aheadOf 1 = .ok (.iconst 1, 1) := by decide +kernel
theorem dX0_aheadOf_2 : decode cX0_aheadOf 2 = .ok (.isub, 1) := by decide +kernel
theorem dX0_aheadOf_3 : decode cX0_aheadOf 3 = .ok (.istore_n 2, 1) := by decide +kernel
theorem dX0_aheadOf_4 : decode cX0_aheadOf 4 = .ok (.iload_n 2, 1) := by decide +kernel
theorem dX0_aheadOf_5 : decode cX0_aheadOf 5 = .ok (.ifCond .lt 15, 3) := by decide +kernel
theorem dX0_aheadOf_8 : decode cX0_aheadOf 8 = .ok (.aload_n 0, 1) := by decide +kernel
theorem dX0_aheadOf_9 : decode cX0_aheadOf 9 = .ok (.getfield 20, 3) := by decide +kernel
theorem dX0_aheadOf_12 : decode cX0_aheadOf 12 = .ok (.iload_n 2, 1) := by decide +kernel
theorem dX0_aheadOf_13 : decode cX0_aheadOf 13 = .ok (.aaload, 1) := by decide +kernel
theorem dX0_aheadOf_14 : decode cX0_aheadOf 14 = .ok (.getfield 65, 3) := by decide +kernel
theorem dX0_aheadOf_17 : decode cX0_aheadOf 17 = .ok (.ifCond .eq 7, 3) := by decide +kernel
theorem dX0_aheadOf_20 : decode cX0_aheadOf 20 = .ok (.iconst (-1), 1) := by decide +kernel
theorem dX0_aheadOf_21 : decode cX0_aheadOf 21 = .ok (.goto 4, 3) := by decide +kernel
theorem dX0_aheadOf_24 : decode cX0_aheadOf 24 = .ok (.iload_n 2, 1) := by decide +kernel
theorem dX0_aheadOf_25 : decode cX0_aheadOf 25 = .ok (.ireturn, 1) := by decide +kernel
set_option maxRecDepth 20000 in
theorem ggX0_holdOf_X3_sectionAt : GoodIn wsX0_holdOf wsX3_sectionAt := goodIn_r _ [11] (by decide +kernel) (by decide +kernel)
set_option maxRecDepth 20000 in
theorem gX0_holdOf_X3_sectionAt_n99 : GoodIn wsX0_holdOf (wsX3_sectionAt) := ggX0_holdOf_X3_sectionAt
theorem dX0_holdOf_0 : decode cX0_holdOf 0 = .ok (.iconst 1, 1) := by decide +kernel
theorem dX0_holdOf_1 : decode cX0_holdOf 1 = .ok (.aload_n 1, 1) := by decide +kernel
theorem dX0_holdOf_2 : decode cX0_holdOf 2 = .ok (.getfield 42, 3) := by decide +kernel
theorem dX0_holdOf_5 : decode cX0_holdOf 5 = .ok (.aload_n 0, 1) := by decide +kernel
theorem dX0_holdOf_6 : decode cX0_holdOf 6 = .ok (.getfield 12, 3) := by decide +kernel
theorem dX0_holdOf_9 : decode cX0_holdOf 9 = .ok (.getfield 95, 3) := by decide +kernel
theorem dX0_holdOf_12 : decode cX0_holdOf 12 = .ok (.aload_n 1, 1) := by decide +kernel
theorem dX0_holdOf_13 : decode cX0_holdOf 13 = .ok (.getfield 48, 3) := by decide +kernel
theorem dX0_holdOf_16 : decode cX0_holdOf 16 = .ok (.invokestatic 99, 3) := by decide +kernel
theorem dX0_holdOf_19 : decode cX0_holdOf 19 = .ok (.iaload, 1) := by decide +kernel
theorem dX0_holdOf_20 : decode cX0_holdOf 20 = .ok (.iadd, 1) := by decide +kernel
theorem dX0_holdOf_21 : decode cX0_holdOf 21 = .ok (.invokestatic 102, 3) := by decide +kernel
theorem dX0_holdOf_24 : decode cX0_holdOf 24 = .ok (.ireturn, 1) := by decide +kernel
set_option maxRecDepth 20000 in
theorem ggX0_allowedSpeed_X1_nextStation : GoodIn wsX0_allowedSpeed wsX1_nextStation := goodIn_r _ [14, 15, 16, 67, 68, 69, 70, 71, 72, 73, 74, 75, 76] (by decide +kernel) (by decide +kernel)
set_option maxRecDepth 20000 in
theorem gX0_allowedSpeed_X1_nextStation : GoodIn wsX0_allowedSpeed (wsV RX0 108 RX1 yX1_nextStation wsX1_nextStation) := goodIn_app (goodIn_of _ (by decide +kernel)) ggX0_allowedSpeed_X1_nextStation
set_option maxRecDepth 20000 in
theorem ggX0_allowedSpeed_X0_holdOf : GoodIn wsX0_allowedSpeed wsX0_holdOf := goodIn_r _ [21, 22, 3, 23, 2, 24, 25, 8, 26, 27, 28, 29, 45, 46, 47, 48, 49, 50, 51, 52, 53, 54, 55, 56, 57, 58, 59, 60, 61, 62, 63, 64, 65, 66, 67, 68, 69, 70, 71, 72, 73, 74, 75, 76] (by decide +kernel) (by decide +kernel)
set_option maxRecDepth 20000 in
theorem gX0_allowedSpeed_X0_holdOf : GoodIn wsX0_allowedSpeed (wsV RX0 117 RX0 yX0_holdOf wsX0_holdOf) := goodIn_app (goodIn_of _ (by decide +kernel)) ggX0_allowedSpeed_X0_holdOf
set_option maxRecDepth 20000 in
theorem ggX0_allowedSpeed_X2_rear : GoodIn wsX0_allowedSpeed wsX2_rear := goodIn_r _ [34, 35, 36, 45, 46, 47, 48, 49, 50, 51, 52, 53, 54, 55, 56, 57, 58, 59, 60, 61, 62] (by decide +kernel) (by decide +kernel)
set_option maxRecDepth 20000 in
theorem gX0_allowedSpeed_X2_rear : GoodIn wsX0_allowedSpeed (wsV RX0 69 RX2 yX2_rear wsX2_rear) := goodIn_app (goodIn_of _ (by decide +kernel)) ggX0_allowedSpeed_X2_rear
set_option maxRecDepth 20000 in
theorem ggX0_allowedSpeed_X1_leastLimit : GoodIn wsX0_allowedSpeed wsX1_leastLimit := goodIn_r _ [40, 41, 42, 7, 8, 9, 27, 28, 29, 67, 68, 69, 70, 71, 72, 73, 74, 75, 76] (by decide +kernel) (by decide +kernel)
set_option maxRecDepth 20000 in
theorem gX0_allowedSpeed_X1_leastLimit : GoodIn wsX0_allowedSpeed (wsV RX0 121 RX1 yX1_leastLimit wsX1_leastLimit) := goodIn_app (goodIn_of _ (by decide +kernel)) ggX0_allowedSpeed_X1_leastLimit
set_option maxRecDepth 20000 in
theorem ggX0_allowedSpeed_X3_stopMetres : GoodIn wsX0_allowedSpeed wsX3_stopMetres := goodIn_r _ [44] (by decide +kernel) (by decide +kernel)
set_option maxRecDepth 20000 in
theorem gX0_allowedSpeed_X3_stopMetres_n124 : GoodIn wsX0_allowedSpeed (wsX3_stopMetres) := ggX0_allowedSpeed_X3_stopMetres
theorem dX0_allowedSpeed_0 : decode cX0_allowedSpeed 0 = .ok (.aload_n 1, 1) := by decide +kernel
theorem dX0_allowedSpeed_1 : decode cX0_allowedSpeed 1 = .ok (.getfield 51, 3) := by decide +kernel
theorem dX0_allowedSpeed_4 : decode cX0_allowedSpeed 4 = .ok (.aload_n 1, 1) := by decide +kernel
theorem dX0_allowedSpeed_5 : decode cX0_allowedSpeed 5 = .ok (.getfield 48, 3) := by decide +kernel
theorem dX0_allowedSpeed_8 : decode cX0_allowedSpeed 8 = .ok (.isub, 1) := by decide +kernel
theorem dX0_allowedSpeed_9 : decode cX0_allowedSpeed 9 = .ok (.istore_n 2, 1) := by decide +kernel
theorem dX0_allowedSpeed_10 : decode cX0_allowedSpeed 10 = .ok (.aload_n 0, 1) := by decide +kernel
theorem dX0_allowedSpeed_11 : decode cX0_allowedSpeed 11 = .ok (.getfield 12, 3) := by decide +kernel
theorem dX0_allowedSpeed_14 : decode cX0_allowedSpeed 14 = .ok (.aload_n 1, 1) := by decide +kernel
theorem dX0_allowedSpeed_15 : decode cX0_allowedSpeed 15 = .ok (.getfield 58, 3) := by decide +kernel
theorem dX0_allowedSpeed_18 : decode cX0_allowedSpeed 18 = .ok (.invokevirtual 108, 3) := by decide +kernel
theorem dX0_allowedSpeed_21 : decode cX0_allowedSpeed 21 = .ok (.istore_n 3, 1) := by decide +kernel
theorem dX0_allowedSpeed_22 : decode cX0_allowedSpeed 22 = .ok (.iload_n 3, 1) := by decide +kernel
theorem dX0_allowedSpeed_23 : decode cX0_allowedSpeed 23 = .ok (.iconst (-1), 1) := by decide +kernel
theorem dX0_allowedSpeed_24 : decode cX0_allowedSpeed 24 = .ok (.if_icmp .eq 22, 3) := by decide +kernel
theorem dX0_allowedSpeed_27 : decode cX0_allowedSpeed 27 = .ok (.iload_n 2, 1) := by decide +kernel
theorem dX0_allowedSpeed_28 : decode cX0_allowedSpeed 28 = .ok (.aload_n 0, 1) := by decide +kernel
theorem dX0_allowedSpeed_29 : decode cX0_allowedSpeed 29 = .ok (.getfield 12, 3) := by decide +kernel
theorem dX0_allowedSpeed_32 : decode cX0_allowedSpeed 32 = .ok (.getfield 111, 3) := by decide +kernel
theorem dX0_allowedSpeed_35 : decode cX0_allowedSpeed 35 = .ok (.iload_n 3, 1) := by decide +kernel
theorem dX0_allowedSpeed_36 : decode cX0_allowedSpeed 36 = .ok (.iaload, 1) := by decide +kernel
theorem dX0_allowedSpeed_37 : decode cX0_allowedSpeed 37 = .ok (.aload_n 1, 1) := by decide +kernel
theorem dX0_allowedSpeed_38 : decode cX0_allowedSpeed 38 = .ok (.getfield 48, 3) := by decide +kernel
theorem dX0_allowedSpeed_41 : decode cX0_allowedSpeed 41 = .ok (.isub, 1) := by decide +kernel
theorem dX0_allowedSpeed_42 : decode cX0_allowedSpeed 42 = .ok (.invokestatic 114, 3) := by decide +kernel
theorem dX0_allowedSpeed_45 : decode cX0_allowedSpeed 45 = .ok (.istore_n 2, 1) := by decide +kernel
theorem dX0_allowedSpeed_46 : decode cX0_allowedSpeed 46 = .ok (.aload_n 0, 1) := by decide +kernel
theorem dX0_allowedSpeed_47 : decode cX0_allowedSpeed 47 = .ok (.aload_n 1, 1) := by decide +kernel
theorem dX0_allowedSpeed_48 : decode cX0_allowedSpeed 48 = .ok (.invokevirtual 117, 3) := by decide +kernel
theorem dX0_allowedSpeed_51 : decode cX0_allowedSpeed 51 = .ok (.istore 4, 2) := by decide +kernel
theorem dX0_allowedSpeed_53 : decode cX0_allowedSpeed 53 = .ok (.aload_n 0, 1) := by decide +kernel
theorem dX0_allowedSpeed_54 : decode cX0_allowedSpeed 54 = .ok (.getfield 12, 3) := by decide +kernel
theorem dX0_allowedSpeed_57 : decode cX0_allowedSpeed 57 = .ok (.aload_n 1, 1) := by decide +kernel
theorem dX0_allowedSpeed_58 : decode cX0_allowedSpeed 58 = .ok (.invokevirtual 69, 3) := by decide +kernel
theorem dX0_allowedSpeed_61 : decode cX0_allowedSpeed 61 = .ok (.aload_n 1, 1) := by decide +kernel
theorem dX0_allowedSpeed_62 : decode cX0_allowedSpeed 62 = .ok (.getfield 48, 3) := by decide +kernel
theorem dX0_allowedSpeed_65 : decode cX0_allowedSpeed 65 = .ok (.invokevirtual 121, 3) := by decide +kernel
theorem dX0_allowedSpeed_68 : decode cX0_allowedSpeed 68 = .ok (.istore 5, 2) := by decide +kernel
theorem dX0_allowedSpeed_70 : decode cX0_allowedSpeed 70 = .ok (.iload 5, 2) := by decide +kernel
theorem dX0_allowedSpeed_72 : decode cX0_allowedSpeed 72 = .ok (.ifCond .le 23, 3) := by decide +kernel
theorem dX0_allowedSpeed_75 : decode cX0_allowedSpeed 75 = .ok (.iload 5, 2) := by decide +kernel
theorem dX0_allowedSpeed_77 : decode cX0_allowedSpeed 77 = .ok (.iload 4, 2) := by decide +kernel
theorem dX0_allowedSpeed_79 : decode cX0_allowedSpeed 79 = .ok (.invokestatic 124, 3) := by decide +kernel
theorem dX0_allowedSpeed_82 : decode cX0_allowedSpeed 82 = .ok (.iload_n 2, 1) := by decide +kernel
theorem dX0_allowedSpeed_83 : decode cX0_allowedSpeed 83 = .ok (.if_icmp .gt 6, 3) := by decide +kernel
theorem dX0_allowedSpeed_86 : decode cX0_allowedSpeed 86 = .ok (.iload 5, 2) := by decide +kernel
theorem dX0_allowedSpeed_88 : decode cX0_allowedSpeed 88 = .ok (.ireturn, 1) := by decide +kernel
theorem dX0_allowedSpeed_89 : decode cX0_allowedSpeed 89 = .ok (.iinc 5 (-1), 3) := by decide +kernel
theorem dX0_allowedSpeed_92 : decode cX0_allowedSpeed 92 = .ok (.goto (-22), 3) := by decide +kernel
theorem dX0_allowedSpeed_95 : decode cX0_allowedSpeed 95 = .ok (.iconst 0, 1) := by decide +kernel
theorem dX0_allowedSpeed_96 : decode cX0_allowedSpeed 96 = .ok (.ireturn, 1) := by decide +kernel
theorem dX0_isFresh_0 : decode cX0_isFresh 0 = .ok (.aload_n 0, 1) := by decide +kernel
theorem dX0_isFresh_1 : decode cX0_isFresh 1 = .ok (.getfield 28, 3) := by decide +kernel
theorem dX0_isFresh_4 : decode cX0_isFresh 4 = .ok (.aload_n 1, 1) := by decide +kernel
theorem dX0_isFresh_5 : decode cX0_isFresh 5 = .ok (.getfield 127, 3) := by decide +kernel
theorem dX0_isFresh_8 : decode cX0_isFresh 8 = .ok (.isub, 1) := by decide +kernel
theorem dX0_isFresh_9 : decode cX0_isFresh 9 = .ok (.iconst 3, 1) := by decide +kernel
theorem dX0_isFresh_10 : decode cX0_isFresh 10 = .ok (.if_icmp .gt 7, 3) := by decide +kernel
theorem dX0_isFresh_13 : decode cX0_isFresh 13 = .ok (.iconst 1, 1) := by decide +kernel
theorem dX0_isFresh_14 : decode cX0_isFresh 14 = .ok (.goto 4, 3) := by decide +kernel
theorem dX0_isFresh_17 : decode cX0_isFresh 17 = .ok (.iconst 0, 1) := by decide +kernel
theorem dX0_isFresh_18 : decode cX0_isFresh 18 = .ok (.ireturn, 1) := by decide +kernel
theorem dX0_boundByEnd_0 : decode cX0_boundByEnd 0 = .ok (.sipush 2999, 3) := by decide +kernel
theorem dX0_boundByEnd_3 : decode cX0_boundByEnd 3 = .ok (.aload_n 1, 1) := by decide +kernel
theorem dX0_boundByEnd_4 : decode cX0_boundByEnd 4 = .ok (.getfield 39, 3) := by decide +kernel
theorem dX0_boundByEnd_7 : decode cX0_boundByEnd 7 = .ok (.iadd, 1) := by decide +kernel
theorem dX0_boundByEnd_8 : decode cX0_boundByEnd 8 = .ok (.ireturn, 1) := by decide +kernel
set_option maxRecDepth 20000 in
theorem ggX0_boundByAhead_X0_aheadOf : GoodIn wsX0_boundByAhead wsX0_aheadOf := goodIn_r _ [8, 2, 9, 21, 22, 23, 24, 25, 26, 27, 28, 29, 30, 31, 32, 33, 34, 35, 36, 37, 38, 39, 40, 41, 42] (by decide +kernel) (by decide +kernel)
set_option maxRecDepth 20000 in
theorem gX0_boundByAhead_X0_aheadOf : GoodIn wsX0_boundByAhead (wsV RX0 130 RX0 yX0_aheadOf wsX0_aheadOf) := goodIn_app (goodIn_of _ (by decide +kernel)) ggX0_boundByAhead_X0_aheadOf
set_option maxRecDepth 20000 in
theorem ggX0_boundByAhead_X0_isFresh : GoodIn wsX0_boundByAhead wsX0_isFresh := goodIn_r _ [13, 14, 15, 21, 22, 23, 24, 25, 26, 27, 28, 29, 30, 31, 32, 33, 34, 35, 36, 37, 38, 39, 40, 41, 42] (by decide +kernel) (by decide +kernel)
set_option maxRecDepth 20000 in
theorem gX0_boundByAhead_X0_isFresh : GoodIn wsX0_boundByAhead (wsV RX0 137 RX0 yX0_isFresh wsX0_isFresh) := goodIn_app (goodIn_of _ (by decide +kernel)) ggX0_boundByAhead_X0_isFresh
set_option maxRecDepth 20000 in
theorem ggX0_boundByAhead_X3_sectionAt : GoodIn wsX0_boundByAhead wsX3_sectionAt := goodIn_r _ [18] (by decide +kernel) (by decide +kernel)
set_option maxRecDepth 20000 in
theorem gX0_boundByAhead_X3_sectionAt_n99 : GoodIn wsX0_boundByAhead (wsX3_sectionAt) := ggX0_boundByAhead_X3_sectionAt
set_option maxRecDepth 20000 in
theorem ggX0_boundByAhead_X3_firstMetreOf : GoodIn wsX0_boundByAhead wsX3_firstMetreOf := goodIn_r _ [20] (by decide +kernel) (by decide +kernel)
set_option maxRecDepth 20000 in
theorem gX0_boundByAhead_X3_firstMetreOf_n141 : GoodIn wsX0_boundByAhead (wsX3_firstMetreOf) := ggX0_boundByAhead_X3_firstMetreOf
theorem dX0_boundByAhead_0 : decode cX0_boundByAhead 0 = .ok (.aload_n 0, 1) := by decide +kernel
theorem dX0_boundByAhead_1 : decode cX0_boundByAhead 1 = .ok (.iload_n 1, 1) := by decide +kernel
theorem dX0_boundByAhead_2 : decode cX0_boundByAhead 2 = .ok (.invokevirtual 130, 3) := by decide +kernel
theorem dX0_boundByAhead_5 : decode cX0_boundByAhead 5 = .ok (.istore_n 2, 1) := by decide +kernel
theorem dX0_boundByAhead_6 : decode cX0_boundByAhead 6 = .ok (.iload_n 2, 1) := by decide +kernel
theorem dX0_boundByAhead_7 : decode cX0_boundByAhead 7 = .ok (.iconst (-1), 1) := by decide +kernel
theorem dX0_boundByAhead_8 : decode cX0_boundByAhead 8 = .ok (.if_icmp .ne 6, 3) := by decide +kernel
theorem dX0_boundByAhead_11 : decode cX0_boundByAhead 11 = .ok (.ldc 133, 2) := by decide +kernel
theorem dX0_boundByAhead_13 : decode cX0_boundByAhead 13 = .ok (.ireturn, 1) := by decide +kernel
theorem dX0_boundByAhead_14 : decode cX0_boundByAhead 14 = .ok (.aload_n 0, 1) := by decide +kernel
theorem dX0_boundByAhead_15 : decode cX0_boundByAhead 15 = .ok (.getfield 20, 3) := by decide +kernel
theorem dX0_boundByAhead_18 : decode cX0_boundByAhead 18 = .ok (.iload_n 2, 1) := by decide +kernel
theorem dX0_boundByAhead_19 : decode cX0_boundByAhead 19 = .ok (.aaload, 1) := by decide +kernel
theorem dX0_boundByAhead_20 : decode cX0_boundByAhead 20 = .ok (.getfield 134, 3) := by decide +kernel
theorem dX0_boundByAhead_23 : decode cX0_boundByAhead 23 = .ok (.istore_n 3, 1) := by decide +kernel
theorem dX0_boundByAhead_24 : decode cX0_boundByAhead 24 = .ok (.aload_n 0, 1) := by decide +kernel
theorem dX0_boundByAhead_25 : decode cX0_boundByAhead 25 = .ok (.aload_n 0, 1) := by decide +kernel
theorem dX0_boundByAhead_26 : decode cX0_boundByAhead 26 = .ok (.getfield 20, 3) := by decide +kernel
theorem dX0_boundByAhead_29 : decode cX0_boundByAhead 29 = .ok (.iload_n 2, 1) := by decide +kernel
theorem dX0_boundByAhead_30 : decode cX0_boundByAhead 30 = .ok (.aaload, 1) := by decide +kernel
theorem dX0_boundByAhead_31 : decode cX0_boundByAhead 31 = .ok (.invokevirtual 137, 3) := by decide +kernel
theorem dX0_boundByAhead_34 : decode cX0_boundByAhead 34 = .ok (.ifCond .eq 10, 3) := by decide +kernel
theorem dX0_boundByAhead_37 : decode cX0_boundByAhead 37 = .ok (.iload_n 3, 1) := by decide +kernel
theorem dX0_boundByAhead_38 : decode cX0_boundByAhead 38 = .ok (.bipush 10, 2) := by decide +kernel
theorem dX0_boundByAhead_40 : decode cX0_boundByAhead 40 = .ok (.isub, 1) := by decide +kernel
theorem dX0_boundByAhead_41 : decode cX0_boundByAhead 41 = .ok (.goto 12, 3) := by decide +kernel
theorem dX0_boundByAhead_44 : decode cX0_boundByAhead 44 = .ok (.iload_n 3, 1) := by decide +kernel
theorem dX0_boundByAhead_45 : decode cX0_boundByAhead 45 = .ok (.invokestatic 99, 3) := by decide +kernel
theorem dX0_boundByAhead_48 : decode cX0_boundByAhead 48 = .ok (.invokestatic 141, 3) := by decide +kernel
theorem dX0_boundByAhead_51 : decode cX0_boundByAhead 51 = .ok (.iconst 1, 1) := by decide +kernel
theorem dX0_boundByAhead_52 : decode cX0_boundByAhead 52 = .ok (.isub, 1) := by decide +kernel
theorem dX0_boundByAhead_53 : decode cX0_boundByAhead 53 = .ok (.ireturn, 1) := by decide +kernel
set_option maxRecDepth 20000 in
theorem ggX0_leastBound_X0_boundByEnd : GoodIn wsX0_leastBound wsX0_boundByEnd := goodIn_r _ [12, 13, 49, 50, 51, 52, 53, 54, 55, 56, 57, 58, 59, 60, 61, 62, 63, 64, 65, 66] (by decide +kernel) (by decide +kernel)
set_option maxRecDepth 20000 in
theorem gX0_leastBound_X0_boundByEnd : GoodIn wsX0_leastBound (wsV RX0 144 RX0 yX0_boundByEnd wsX0_boundByEnd) := goodIn_app (goodIn_of _ (by decide +kernel)) ggX0_leastBound_X0_boundByEnd
set_option maxRecDepth 20000 in
theorem ggX0_leastBound_X0_boundByAhead : GoodIn wsX0_leastBound wsX0_boundByAhead := goodIn_r _ [17, 18, 1, 19, 20, 21, 22, 11, 23, 24, 25, 26, 27, 28, 29, 30, 31, 32, 33, 34, 35, 45, 46, 47, 48, 49, 50, 51, 52, 53, 54, 55, 56, 57, 58, 59, 60, 61, 62, 63, 64, 65, 66] (by decide +kernel) (by decide +kernel)
set_option maxRecDepth 20000 in
theorem gX0_leastBound_X0_boundByAhead : GoodIn wsX0_leastBound (wsV RX0 147 RX0 yX0_boundByAhead wsX0_boundByAhead) := goodIn_app (goodIn_of _ (by decide +kernel)) ggX0_leastBound_X0_boundByAhead
set_option maxRecDepth 20000 in
theorem ggX0_leastBound_X1_boundByWorks : GoodIn wsX0_leastBound wsX1_boundByWorks := goodIn_r _ [40, 41, 42, 43, 44, 3, 4, 5, 34, 32, 35, 67, 68, 69, 70, 71, 72, 73, 74, 75, 76] (by decide +kernel) (by decide +kernel)
set_option maxRecDepth 20000 in
theorem gX0_leastBound_X1_boundByWorks : GoodIn wsX0_leastBound (wsV RX0 150 RX1 yX1_boundByWorks wsX1_boundByWorks) := goodIn_app (goodIn_of _ (by decide +kernel)) ggX0_leastBound_X1_boundByWorks
theorem dX0_leastBound_0 : decode cX0_leastBound 0 = .ok (.aload_n 0, 1) := by decide +kernel
theorem dX0_leastBound_1 : decode cX0_leastBound 1 = .ok (.aload_n 0, 1) := by decide +kernel
theorem dX0_leastBound_2 : decode cX0_leastBound 2 = .ok (.getfield 20, 3) := by decide +kernel
theorem dX0_leastBound_5 : decode cX0_leastBound 5 = .ok (.iload_n 1, 1) := by decide +kernel
theorem dX0_leastBound_6 : decode cX0_leastBound 6 = .ok (.aaload, 1) := by decide +kernel
theorem dX0_leastBound_7 : decode cX0_leastBound 7 = .ok (.invokevirtual 144, 3) := by decide +kernel
theorem dX0_leastBound_10 : decode cX0_leastBound 10 = .ok (.aload_n 0, 1) := by decide +kernel
theorem dX0_leastBound_11 : decode cX0_leastBound 11 = .ok (.iload_n 1, 1) := by decide +kernel
theorem dX0_leastBound_12 : decode cX0_leastBound 12 = .ok (.invokevirtual 147, 3) := by decide +kernel
theorem dX0_leastBound_15 : decode cX0_leastBound 15 = .ok (.invokestatic 114, 3) := by decide +kernel
theorem dX0_leastBound_18 : decode cX0_leastBound 18 = .ok (.istore_n 2, 1) := by decide +kernel
theorem dX0_leastBound_19 : decode cX0_leastBound 19 = .ok (.iload_n 2, 1) := by decide +kernel
theorem dX0_leastBound_20 : decode cX0_leastBound 20 = .ok (.aload_n 0, 1) := by decide +kernel
theorem dX0_leastBound_21 : decode cX0_leastBound 21 = .ok (.getfield 12, 3) := by decide +kernel
theorem dX0_leastBound_24 : decode cX0_leastBound 24 = .ok (.aload_n 0, 1) := by decide +kernel
theorem dX0_leastBound_25 : decode cX0_leastBound 25 = .ok (.getfield 20, 3) := by decide +kernel
theorem dX0_leastBound_28 : decode cX0_leastBound 28 = .ok (.iload_n 1, 1) := by decide +kernel
theorem dX0_leastBound_29 : decode cX0_leastBound 29 = .ok (.aaload, 1) := by decide +kernel
theorem dX0_leastBound_30 : decode cX0_leastBound 30 = .ok (.getfield 48, 3) := by decide +kernel
theorem dX0_leastBound_33 : decode cX0_leastBound 33 = .ok (.invokevirtual 150, 3) := by decide +kernel
theorem dX0_leastBound_36 : decode cX0_leastBound 36 = .ok (.invokestatic 114, 3) := by decide +kernel
theorem dX0_leastBound_39 : decode cX0_leastBound 39 = .ok (.ireturn, 1) := by decide +kernel
set_option maxRecDepth 20000 in
theorem ggX0_reasonOf_X0_leastBound : GoodIn wsX0_reasonOf wsX0_leastBound := goodIn_r _ [7, 1, 8, 9, 10, 11, 12, 2, 13, 14, 15, 6, 16, 17, 18, 19, 20, 21, 22, 23, 24, 25, 26, 27, 28, 29, 30, 31, 32, 33, 34, 35, 36, 37, 38, 39, 40, 41, 42, 43, 44, 45, 46, 47, 48, 49, 50, 51, 52, 53, 54, 55, 56, 57, 58, 59, 60, 61, 62, 63, 64, 65, 66, 67, 68, 69, 70, 71, 72, 73, 74, 75, 76, 77, 78, 79, 80] (by decide +kernel) (by decide +kernel)
set_option maxRecDepth 20000 in
theorem gX0_reasonOf_X0_leastBound : GoodIn wsX0_reasonOf (wsV RX0 153 RX0 yX0_leastBound wsX0_leastBound) := goodIn_app (goodIn_of _ (by decide +kernel)) ggX0_reasonOf_X0_leastBound
set_option maxRecDepth 20000 in
theorem ggX0_reasonOf_X0_boundByEnd : GoodIn wsX0_reasonOf wsX0_boundByEnd := goodIn_r _ [16, 17, 53, 54, 55, 56, 57, 58, 59, 60, 61, 62, 63, 64, 65, 66, 67, 68, 69, 70] (by decide +kernel) (by decide +kernel)
set_option maxRecDepth 20000 in
theorem gX0_reasonOf_X0_boundByEnd : GoodIn wsX0_reasonOf (wsV RX0 144 RX0 yX0_boundByEnd wsX0_boundByEnd) := goodIn_app (goodIn_of _ (by decide +kernel)) ggX0_reasonOf_X0_boundByEnd
set_option maxRecDepth 20000 in
theorem ggX0_reasonOf_X0_aheadOf : GoodIn wsX0_reasonOf wsX0_aheadOf := goodIn_r _ [27, 1, 28, 49, 50, 51, 52, 53, 54, 55, 56, 57, 58, 59, 60, 61, 62, 63, 64, 65, 66, 67, 68, 69, 70] (by decide +kernel) (by decide +kernel)
set_option maxRecDepth 20000 in
theorem gX0_reasonOf_X0_aheadOf : GoodIn wsX0_reasonOf (wsV RX0 130 RX0 yX0_aheadOf wsX0_aheadOf) := goodIn_app (goodIn_of _ (by decide +kernel)) ggX0_reasonOf_X0_aheadOf
set_option maxRecDepth 20000 in
theorem ggX0_reasonOf_X0_boundByAhead : GoodIn wsX0_reasonOf wsX0_boundByAhead := goodIn_r _ [21, 22, 1, 23, 24, 25, 26, 6, 27, 28, 29, 30, 31, 32, 33, 34, 35, 36, 37, 38, 39, 49, 50, 51, 52, 53, 54, 55, 56, 57, 58, 59, 60, 61, 62, 63, 64, 65, 66, 67, 68, 69, 70] (by decide +kernel) (by decide +kernel)
set_option maxRecDepth 20000 in
theorem gX0_reasonOf_X0_boundByAhead : GoodIn wsX0_reasonOf (wsV RX0 147 RX0 yX0_boundByAhead wsX0_boundByAhead) := goodIn_app (goodIn_of _ (by decide +kernel)) ggX0_reasonOf_X0_boundByAhead
set_option maxRecDepth 20000 in
theorem ggX0_reasonOf_X0_isFresh : GoodIn wsX0_reasonOf wsX0_isFresh := goodIn_r _ [32, 33, 34, 49, 50, 51, 52, 53, 54, 55, 56, 57, 58, 59, 60, 61, 62, 63, 64, 65, 66, 67, 68, 69, 70] (by decide +kernel) (by decide +kernel)
set_option maxRecDepth 20000 in
theorem gX0_reasonOf_X0_isFresh : GoodIn wsX0_reasonOf (wsV RX0 137 RX0 yX0_isFresh wsX0_isFresh) := goodIn_app (goodIn_of _ (by decide +kernel)) ggX0_reasonOf_X0_isFresh
theorem dX0_reasonOf_0 : decode cX0_reasonOf 0 = .ok (.aload_n 0, 1) := by decide +kernel
theorem dX0_reasonOf_1 : decode cX0_reasonOf 1 = .ok (.iload_n 1, 1) := by decide +kernel
theorem dX0_reasonOf_2 : decode cX0_reasonOf 2 = .ok (.invokevirtual 153, 3) := by decide +kernel
theorem dX0_reasonOf_5 : decode cX0_reasonOf 5 = .ok (.istore_n 2, 1) := by decide +kernel
theorem dX0_reasonOf_6 : decode cX0_reasonOf 6 = .ok (.iload_n 2, 1) := by decide +kernel
theorem dX0_reasonOf_7 : decode cX0_reasonOf 7 = .ok (.aload_n 0, 1) := by decide +kernel
theorem dX0_reasonOf_8 : decode cX0_reasonOf 8 = .ok (.getfield 20, 3) := by decide +kernel
theorem dX0_reasonOf_11 : decode cX0_reasonOf 11 = .ok (.iload_n 1, 1) := by decide +kernel
theorem dX0_reasonOf_12 : decode cX0_reasonOf 12 = .ok (.aaload, 1) := by decide +kernel
theorem dX0_reasonOf_13 : decode cX0_reasonOf 13 = .ok (.getfield 48, 3) := by decide +kernel
theorem dX0_reasonOf_16 : decode cX0_reasonOf 16 = .ok (.if_icmp .ge 5, 3) := by decide +kernel
theorem dX0_reasonOf_19 : decode cX0_reasonOf 19 = .ok (.iconst 4, 1) := by decide +kernel
theorem dX0_reasonOf_20 : decode cX0_reasonOf 20 = .ok (.ireturn, 1) := by decide +kernel
theorem dX0_reasonOf_21 : decode cX0_reasonOf 21 = .ok (.iload_n 2, 1) := by decide +kernel
theorem dX0_reasonOf_22 : decode cX0_reasonOf 22 = .ok (.aload_n 0, 1) := by decide +kernel
theorem dX0_reasonOf_23 : decode cX0_reasonOf 23 = .ok (.aload_n 0, 1) := by decide +kernel
theorem dX0_reasonOf_24 : decode cX0_reasonOf 24 = .ok (.getfield 20, 3) := by decide +kernel
theorem dX0_reasonOf_27 : decode cX0_reasonOf 27 = .ok (.iload_n 1, 1) := by decide +kernel
theorem dX0_reasonOf_28 : decode cX0_reasonOf 28 = .ok (.aaload, 1) := by decide +kernel
theorem dX0_reasonOf_29 : decode cX0_reasonOf 29 = .ok (.invokevirtual 144, 3) := by decide +kernel
theorem dX0_reasonOf_32 : decode cX0_reasonOf 32 = .ok (.if_icmp .ne 5, 3) := by decide +kernel
theorem dX0_reasonOf_35 : decode cX0_reasonOf 35 = .ok (.iconst 0, 1) := by decide +kernel
theorem dX0_reasonOf_36 : decode cX0_reasonOf 36 = .ok (.ireturn, 1) := by decide +kernel
theorem dX0_reasonOf_37 : decode cX0_reasonOf 37 = .ok (.aload_n 0, 1) := by decide +kernel
theorem dX0_reasonOf_38 : decode cX0_reasonOf 38 = .ok (.iload_n 1, 1) := by decide +kernel
theorem dX0_reasonOf_39 : decode cX0_reasonOf 39 = .ok (.invokevirtual 130, 3) := by decide +kernel
theorem dX0_reasonOf_42 : decode cX0_reasonOf 42 = .ok (.istore_n 3, 1) := by decide +kernel
theorem dX0_reasonOf_43 : decode cX0_reasonOf 43 = .ok (.iload_n 3, 1) := by decide +kernel
theorem dX0_reasonOf_44 : decode cX0_reasonOf 44 = .ok (.iconst (-1), 1) := by decide +kernel
theorem dX0_reasonOf_45 : decode cX0_reasonOf 45 = .ok (.if_icmp .eq 31, 3) := by decide +kernel
theorem dX0_reasonOf_48 : decode cX0_reasonOf 48 = .ok (.iload_n 2, 1) := by decide +kernel
theorem dX0_reasonOf_49 : decode cX0_reasonOf 49 = .ok (.aload_n 0, 1) := by decide +kernel
theorem dX0_reasonOf_50 : decode cX0_reasonOf 50 = .ok (.iload_n 1, 1) := by decide +kernel
theorem dX0_reasonOf_51 : decode cX0_reasonOf 51 = .ok (.invokevirtual 147, 3) := by decide +kernel
theorem dX0_reasonOf_54 : decode cX0_reasonOf 54 = .ok (.if_icmp .ne 22, 3) := by decide +kernel
theorem dX0_reasonOf_57 : decode cX0_reasonOf 57 = .ok (.aload_n 0, 1) := by decide +kernel
theorem dX0_reasonOf_58 : decode cX0_reasonOf 58 = .ok (.aload_n 0, 1) := by decide +kernel
theorem dX0_reasonOf_59 : decode cX0_reasonOf 59 = .ok (.getfield 20, 3) := by decide +kernel
theorem dX0_reasonOf_62 : decode cX0_reasonOf 62 = .ok (.iload_n 3, 1) := by decide +kernel
theorem dX0_reasonOf_63 : decode cX0_reasonOf 63 = .ok (.aaload, 1) := by decide +kernel
theorem dX0_reasonOf_64 : decode cX0_reasonOf 64 = .ok (.invokevirtual 137, 3) := by decide +kernel
theorem dX0_reasonOf_67 : decode cX0_reasonOf 67 = .ok (.ifCond .eq 7, 3) := by decide +kernel
theorem dX0_reasonOf_70 : decode cX0_reasonOf 70 = .ok (.iconst 1, 1) := by decide +kernel
theorem dX0_reasonOf_71 : decode cX0_reasonOf 71 = .ok (.goto 4, 3) := by decide +kernel
theorem dX0_reasonOf_74 : decode cX0_reasonOf 74 = .ok (.iconst 2, 1) := by decide +kernel
theorem dX0_reasonOf_75 : decode cX0_reasonOf 75 = .ok (.ireturn, 1) := by decide +kernel
theorem dX0_reasonOf_76 : decode cX0_reasonOf 76 = .ok (.iconst 3, 1) := by decide +kernel
theorem dX0_reasonOf_77 : decode cX0_reasonOf 77 = .ok (.ireturn, 1) := by decide +kernel
set_option maxRecDepth 20000 in
theorem ggX0_hindranceOfWorks_X0_countOn : GoodIn wsX0_hindranceOfWorks wsX0_countOn := goodIn_r _ [10, 1, 2, 3, 11, 12, 13, 14, 15, 16, 17, 18, 19, 20, 21, 22, 23, 24, 27, 28, 29, 30, 31, 32, 33, 34, 35, 36, 37, 38, 39, 40, 41, 42, 43, 44, 45, 46, 47, 48] (by decide +kernel) (by decide +kernel)
set_option maxRecDepth 20000 in
theorem gX0_hindranceOfWorks_X0_countOn : GoodIn wsX0_hindranceOfWorks (wsV RX0 156 RX0 yX0_countOn wsX0_countOn) := goodIn_app (goodIn_of _ (by decide +kernel)) ggX0_hindranceOfWorks_X0_countOn
set_option maxRecDepth 20000 in
theorem ggX0_hindranceOfWorks_X3_firstMetreOf : GoodIn wsX0_hindranceOfWorks wsX3_firstMetreOf := goodIn_r _ [26] (by decide +kernel) (by decide +kernel)
set_option maxRecDepth 20000 in
theorem gX0_hindranceOfWorks_X3_firstMetreOf_n141 : GoodIn wsX0_hindranceOfWorks (wsX3_firstMetreOf) := ggX0_hindranceOfWorks_X3_firstMetreOf
theorem dX0_hindranceOfWorks_0 : decode cX0_hindranceOfWorks 0 = .ok (.aload_n 0, 1) := by decide +kernel
theorem dX0_hindranceOfWorks_1 : decode cX0_hindranceOfWorks 1 = .ok (.iload_n 1, 1) := by decide +kernel
theorem dX0_hindranceOfWorks_2 : decode cX0_hindranceOfWorks 2 = .ok (.iload_n 2, 1) := by decide +kernel
theorem dX0_hindranceOfWorks_3 : decode cX0_hindranceOfWorks 3 = .ok (.invokevirtual 156, 3) := by decide +kernel
theorem dX0_hindranceOfWorks_6 : decode cX0_hindranceOfWorks 6 = .ok (.ifCond .le 6, 3) := by decide +kernel
theorem dX0_hindranceOfWorks_9 : decode cX0_hindranceOfWorks 9 = .ok (.bipush (-2), 2) := by decide +kernel
theorem dX0_hindranceOfWorks_11 : decode cX0_hindranceOfWorks 11 = .ok (.ireturn, 1) := by decide +kernel
theorem dX0_hindranceOfWorks_12 : decode cX0_hindranceOfWorks 12 = .ok (.iload_n 1, 1) := by decide +kernel
theorem dX0_hindranceOfWorks_13 : decode cX0_hindranceOfWorks 13 = .ok (.invokestatic 141, 3) := by decide +kernel
theorem dX0_hindranceOfWorks_16 : decode cX0_hindranceOfWorks 16 = .ok (.istore_n 3, 1) := by decide +kernel
theorem dX0_hindranceOfWorks_17 : decode cX0_hindranceOfWorks 17 = .ok (.iconst 0, 1) := by decide +kernel
theorem dX0_hindranceOfWorks_18 : decode cX0_hindranceOfWorks 18 = .ok (.istore 4, 2) := by decide +kernel
theorem dX0_hindranceOfWorks_20 : decode cX0_hindranceOfWorks 20 = .ok (.iload 4, 2) := by decide +kernel
theorem dX0_hindranceOfWorks_22 : decode cX0_hindranceOfWorks 22 = .ok (.aload_n 0, 1) := by decide +kernel
theorem dX0_hindranceOfWorks_23 : decode cX0_hindranceOfWorks 23 = .ok (.getfield 24, 3) := by decide +kernel
theorem dX0_hindranceOfWorks_26 : decode cX0_hindranceOfWorks 26 = .ok (.if_icmp .ge 47, 3) := by decide +kernel
theorem dX0_hindranceOfWorks_29 : decode cX0_hindranceOfWorks 29 = .ok (.aload_n 0, 1) := by decide +kernel
theorem dX0_hindranceOfWorks_30 : decode cX0_hindranceOfWorks 30 = .ok (.getfield 20, 3) := by decide +kernel
theorem dX0_hindranceOfWorks_33 : decode cX0_hindranceOfWorks 33 = .ok (.iload 4, 2) := by decide +kernel
theorem dX0_hindranceOfWorks_35 : decode cX0_hindranceOfWorks 35 = .ok (.aaload, 1) := by decide +kernel
theorem dX0_hindranceOfWorks_36 : decode cX0_hindranceOfWorks 36 = .ok (.astore 5, 2) := by decide +kernel
theorem dX0_hindranceOfWorks_38 : decode cX0_hindranceOfWorks 38 = .ok (.aload 5, 2) := by decide +kernel
theorem dX0_hindranceOfWorks_40 : decode cX0_hindranceOfWorks 40 = .ok (.getfield 65, 3) := by decide +kernel
theorem dX0_hindranceOfWorks_43 : decode cX0_hindranceOfWorks 43 = .ok (.ifCond .ne 24, 3) := by decide +kernel
theorem dX0_hindranceOfWorks_46 : decode cX0_hindranceOfWorks 46 = .ok (.aload 5, 2) := by decide +kernel
theorem dX0_hindranceOfWorks_48 : decode cX0_hindranceOfWorks 48 = .ok (.getfield 48, 3) := by decide +kernel
theorem dX0_hindranceOfWorks_51 : decode cX0_hindranceOfWorks 51 = .ok (.iload_n 3, 1) := by decide +kernel
theorem dX0_hindranceOfWorks_52 : decode cX0_hindranceOfWorks 52 = .ok (.if_icmp .ge 15, 3) := by decide +kernel
theorem dX0_hindranceOfWorks_55 : decode cX0_hindranceOfWorks 55 = .ok (.aload 5, 2) := by decide +kernel
theorem dX0_hindranceOfWorks_57 : decode cX0_hindranceOfWorks 57 = .ok (.getfield 51, 3) := by decide +kernel
theorem dX0_hindranceOfWorks_60 : decode cX0_hindranceOfWorks 60 = .ok (.iload_n 3, 1) := by decide +kernel
theorem dX0_hindranceOfWorks_61 : decode cX0_hindranceOfWorks 61 = .ok (.if_icmp .lt 6, 3) := by decide +kernel
theorem dX0_hindranceOfWorks_64 : decode cX0_hindranceOfWorks 64 = .ok (.bipush (-3), 2) := by decide +kernel
theorem dX0_hindranceOfWorks_66 : decode cX0_hindranceOfWorks 66 = .ok (.ireturn, 1) := by decide +kernel
theorem dX0_hindranceOfWorks_67 : decode cX0_hindranceOfWorks 67 = .ok (.iinc 4 1, 3) := by decide +kernel
theorem dX0_hindranceOfWorks_70 : decode cX0_hindranceOfWorks 70 = .ok (.goto (-50), 3) := by decide +kernel
theorem dX0_hindranceOfWorks_73 : decode cX0_hindranceOfWorks 73 = .ok (.iconst 0, 1) := by decide +kernel
theorem dX0_hindranceOfWorks_74 : decode cX0_hindranceOfWorks 74 = .ok (.ireturn, 1) := by decide +kernel
set_option maxRecDepth 20000 in
theorem ggX0_goOn_X0_reportAll : GoodIn wsX0_goOn wsX0_reportAll := goodIn_r _ [16, 2, 3, 4, 1, 17, 18, 19, 15, 20, 21, 22, 5, 23, 24, 25, 26, 27, 28, 29, 30, 31, 32, 33, 34, 35, 36, 37, 38, 39, 40, 151, 152, 153, 154, 155, 156, 157, 158, 159, 160, 161, 162, 163, 164, 165, 166, 167, 168, 169, 170, 171, 172, 173, 174, 175, 176, 177, 178, 179, 180, 181, 182] (by decide +kernel) (by decide +kernel)
set_option maxRecDepth 20000 in
theorem gX0_goOn_X0_reportAll : GoodIn wsX0_goOn (wsV RX0 159 RX0 yX0_reportAll wsX0_reportAll) := goodIn_app (goodIn_of _ (by decide +kernel)) ggX0_goOn_X0_reportAll
set_option maxRecDepth 20000 in
theorem ggX0_goOn_X0_hasRadio : GoodIn wsX0_goOn wsX0_hasRadio := goodIn_r _ [20, 21, 22, 5, 23, 24, 25, 151, 152, 153, 154, 173, 174, 175, 176, 177, 178, 179, 180, 181, 182, 155, 156, 157, 158, 159, 160, 161, 162, 163, 164, 165, 166, 167, 168, 169, 170, 171, 172] (by decide +kernel) (by decide +kernel)
set_option maxRecDepth 20000 in
theorem gX0_goOn_X0_hasRadio : GoodIn wsX0_goOn (wsV RX0 162 RX0 yX0_hasRadio wsX0_hasRadio) := goodIn_app (goodIn_of _ (by decide +kernel)) ggX0_goOn_X0_hasRadio
set_option maxRecDepth 20000 in
theorem ggX0_goOn_X0_leastBound : GoodIn wsX0_goOn wsX0_leastBound := goodIn_r _ [44, 3, 45, 46, 8, 47, 21, 5, 48, 49, 50, 15, 51, 52, 53, 54, 55, 56, 57, 58, 59, 60, 61, 62, 4, 63, 64, 65, 66, 1, 67, 23, 24, 25, 68, 69, 70, 71, 72, 73, 74, 75, 76, 77, 78, 151, 152, 153, 154, 155, 156, 157, 158, 159, 160, 161, 162, 163, 164, 165, 166, 167, 168, 169, 170, 171, 172, 173, 174, 175, 176, 177, 178, 179, 180, 181, 182] (by decide +kernel) (by decide +kernel)
set_option maxRecDepth 20000 in
theorem gX0_goOn_X0_leastBound : GoodIn wsX0_goOn (wsV RX0 153 RX0 yX0_leastBound wsX0_leastBound) := goodIn_app (goodIn_of _ (by decide +kernel)) ggX0_goOn_X0_leastBound
set_option maxRecDepth 20000 in
theorem ggX0_goOn_X0_go : GoodIn wsX0_goOn wsX0_go := goodIn_r _ [82, 83, 84, 85, 45, 46, 8, 47, 6, 7, 9, 86, 5, 87, 88, 89, 15, 90, 10, 21, 91, 92, 93, 94, 95, 73, 96, 97, 98, 99, 100, 101, 102, 103, 104, 23, 24, 25, 105, 37, 38, 29, 39, 31, 40, 106, 107, 108, 109, 110, 78, 111, 112, 113, 114, 115, 116, 117, 118, 119, 120, 121, 122, 123, 124, 125, 126, 127, 128, 129, 130, 131, 132, 133, 134, 155, 156, 157, 158, 159, 160, 161, 162, 163, 164, 165, 166, 167, 168, 169, 170, 171, 172, 151, 152, 153, 154, 173, 174, 175, 176, 177, 178, 179, 180, 181, 182] (by decide +kernel) (by decide +kernel)
set_option maxRecDepth 20000 in
theorem gX0_goOn_X0_go : GoodIn wsX0_goOn (wsV RX0 165 RX0 yX0_go wsX0_go) := goodIn_app (goodIn_of _ (by decide +kernel)) ggX0_goOn_X0_go
set_option maxRecDepth 20000 in
theorem ggX0_goOn_X0_look : GoodIn wsX0_goOn wsX0_look := goodIn_r _ [138, 3, 5, 10, 139, 140, 45, 46, 8, 47, 59, 60, 61, 15, 62, 4, 105, 37, 38, 29, 39, 31, 40, 141, 142, 143, 144, 145, 146, 151, 152, 153, 154, 155, 156, 157, 158, 159, 160, 161, 162, 163, 164, 165, 166, 167, 168, 169, 170, 171, 172] (by decide +kernel) (by decide +kernel)
set_option maxRecDepth 20000 in
theorem gX0_goOn_X0_look : GoodIn wsX0_goOn (wsV RX0 168 RX0 yX0_look wsX0_look) := goodIn_app (goodIn_of _ (by decide +kernel)) ggX0_goOn_X0_look
set_option maxRecDepth 20000 in
theorem ggX0_goOn_X0_leaveAll : GoodIn wsX0_goOn wsX0_leaveAll := goodIn_r _ [150, 2, 3, 4, 84, 105, 37, 38, 29, 39, 31, 40, 151, 152, 153, 154, 155, 156, 157, 158, 159, 160, 161, 162, 163, 164, 165, 166, 167, 168, 169, 170, 171, 172] (by decide +kernel) (by decide +kernel)
set_option maxRecDepth 20000 in
theorem gX0_goOn_X0_leaveAll : GoodIn wsX0_goOn (wsV RX0 171 RX0 yX0_leaveAll wsX0_leaveAll) := goodIn_app (goodIn_of _ (by decide +kernel)) ggX0_goOn_X0_leaveAll
theorem dX0_goOn_0 : decode cX0_goOn 0 = .ok (.aload_n 0, 1) := by decide +kernel
theorem dX0_goOn_1 : decode cX0_goOn 1 = .ok (.dup, 1) := by decide +kernel
theorem dX0_goOn_2 : decode cX0_goOn 2 = .ok (.getfield 28, 3) := by decide +kernel
theorem dX0_goOn_5 : decode cX0_goOn 5 = .ok (.iconst 1, 1) := by decide +kernel
theorem dX0_goOn_6 : decode cX0_goOn 6 = .ok (.iadd, 1) := by decide +kernel
theorem dX0_goOn_7 : decode cX0_goOn 7 = .ok (.putfield 28, 3) := by decide +kernel
theorem dX0_goOn_10 : decode cX0_goOn 10 = .ok (.aload_n 0, 1) := by decide +kernel
theorem dX0_goOn_11 : decode cX0_goOn 11 = .ok (.iload_n 1, 1) := by decide +kernel
theorem dX0_goOn_12 : decode cX0_goOn 12 = .ok (.invokevirtual 159, 3) := by decide +kernel
theorem dX0_goOn_15 : decode cX0_goOn 15 = .ok (.iconst 0, 1) := by decide +kernel
theorem dX0_goOn_16 : decode cX0_goOn 16 = .ok (.istore_n 2, 1) := by decide +kernel
theorem dX0_goOn_17 : decode cX0_goOn 17 = .ok (.iload_n 2, 1) := by decide +kernel
theorem dX0_goOn_18 : decode cX0_goOn 18 = .ok (.aload_n 0, 1) := by decide +kernel
theorem dX0_goOn_19 : decode cX0_goOn 19 = .ok (.getfield 24, 3) := by decide +kernel
theorem dX0_goOn_22 : decode cX0_goOn 22 = .ok (.if_icmp .ge 60, 3) := by decide +kernel
theorem dX0_goOn_25 : decode cX0_goOn 25 = .ok (.aload_n 0, 1) := by decide +kernel
theorem dX0_goOn_26 : decode cX0_goOn 26 = .ok (.getfield 20, 3) := by decide +kernel
theorem dX0_goOn_29 : decode cX0_goOn 29 = .ok (.iload_n 2, 1) := by decide +kernel
theorem dX0_goOn_30 : decode cX0_goOn 30 = .ok (.aaload, 1) := by decide +kernel
theorem dX0_goOn_31 : decode cX0_goOn 31 = .ok (.getfield 65, 3) := by decide +kernel
theorem dX0_goOn_34 : decode cX0_goOn 34 = .ok (.ifCond .ne 42, 3) := by decide +kernel
theorem dX0_goOn_37 : decode cX0_goOn 37 = .ok (.aload_n 0, 1) := by decide +kernel
theorem dX0_goOn_38 : decode cX0_goOn 38 = .ok (.aload_n 0, 1) := by decide +kernel
theorem dX0_goOn_39 : decode cX0_goOn 39 = .ok (.getfield 20, 3) := by decide +kernel
theorem dX0_goOn_42 : decode cX0_goOn 42 = .ok (.iload_n 2, 1) := by decide +kernel
theorem dX0_goOn_43 : decode cX0_goOn 43 = .ok (.aaload, 1) := by decide +kernel
theorem dX0_goOn_44 : decode cX0_goOn 44 = .ok (.invokevirtual 162, 3) := by decide +kernel
theorem dX0_goOn_47 : decode cX0_goOn 47 = .ok (.ifCond .eq 29, 3) := by decide +kernel
theorem dX0_goOn_50 : decode cX0_goOn 50 = .ok (.aload_n 0, 1) := by decide +kernel
theorem dX0_goOn_51 : decode cX0_goOn 51 = .ok (.getfield 20, 3) := by decide +kernel
theorem dX0_goOn_54 : decode cX0_goOn 54 = .ok (.iload_n 2, 1) := by decide +kernel
theorem dX0_goOn_55 : decode cX0_goOn 55 = .ok (.aaload, 1) := by decide +kernel
theorem dX0_goOn_56 : decode cX0_goOn 56 = .ok (.aload_n 0, 1) := by decide +kernel
theorem dX0_goOn_57 : decode cX0_goOn 57 = .ok (.iload_n 2, 1) := by decide +kernel
theorem dX0_goOn_58 : decode cX0_goOn 58 = .ok (.invokevirtual 153, 3) := by decide +kernel
theorem dX0_goOn_61 : decode cX0_goOn 61 = .ok (.aload_n 0, 1) := by decide +kernel
theorem dX0_goOn_62 : decode cX0_goOn 62 = .ok (.getfield 20, 3) := by decide +kernel
theorem dX0_goOn_65 : decode cX0_goOn 65 = .ok (.iload_n 2, 1) := by decide +kernel
theorem dX0_goOn_66 : decode cX0_goOn 66 = .ok (.aaload, 1) := by decide +kernel
theorem dX0_goOn_67 : decode cX0_goOn 67 = .ok (.getfield 48, 3) := by decide +kernel
theorem dX0_goOn_70 : decode cX0_goOn 70 = .ok (.invokestatic 102, 3) := by decide +kernel
theorem dX0_goOn_73 : decode cX0_goOn 73 = .ok (.putfield 51, 3) := by decide +kernel
theorem dX0_goOn_76 : decode cX0_goOn 76 = .ok (.iinc 2 1, 3) := by decide +kernel
theorem dX0_goOn_79 : decode cX0_goOn 79 = .ok (.goto (-62), 3) := by decide +kernel
theorem dX0_goOn_82 : decode cX0_goOn 82 = .ok (.iconst 0, 1) := by decide +kernel
theorem dX0_goOn_83 : decode cX0_goOn 83 = .ok (.istore_n 2, 1) := by decide +kernel
theorem dX0_goOn_84 : decode cX0_goOn 84 = .ok (.iload_n 2, 1) := by decide +kernel
theorem dX0_goOn_85 : decode cX0_goOn 85 = .ok (.aload_n 0, 1) := by decide +kernel
theorem dX0_goOn_86 : decode cX0_goOn 86 = .ok (.getfield 24, 3) := by decide +kernel
theorem dX0_goOn_89 : decode cX0_goOn 89 = .ok (.if_icmp .ge 48, 3) := by decide +kernel
theorem dX0_goOn_92 : decode cX0_goOn 92 = .ok (.aload_n 0, 1) := by decide +kernel
theorem dX0_goOn_93 : decode cX0_goOn 93 = .ok (.getfield 20, 3) := by decide +kernel
theorem dX0_goOn_96 : decode cX0_goOn 96 = .ok (.iload_n 2, 1) := by decide +kernel
theorem dX0_goOn_97 : decode cX0_goOn 97 = .ok (.aaload, 1) := by decide +kernel
theorem dX0_goOn_98 : decode cX0_goOn 98 = .ok (.getfield 65, 3) := by decide +kernel
theorem dX0_goOn_101 : decode cX0_goOn 101 = .ok (.ifCond .ne 30, 3) := by decide +kernel
theorem dX0_goOn_104 : decode cX0_goOn 104 = .ok (.aload_n 0, 1) := by decide +kernel
theorem dX0_goOn_105 : decode cX0_goOn 105 = .ok (.getfield 20, 3) := by decide +kernel
theorem dX0_goOn_108 : decode cX0_goOn 108 = .ok (.iload_n 2, 1) := by decide +kernel
theorem dX0_goOn_109 : decode cX0_goOn 109 = .ok (.aaload, 1) := by decide +kernel
theorem dX0_goOn_110 : decode cX0_goOn 110 = .ok (.getfield 73, 3) := by decide +kernel
theorem dX0_goOn_113 : decode cX0_goOn 113 = .ok (.ifCond .ne 18, 3) := by decide +kernel
theorem dX0_goOn_116 : decode cX0_goOn 116 = .ok (.iload_n 2, 1) := by decide +kernel
theorem dX0_goOn_117 : decode cX0_goOn 117 = .ok (.iload_n 1, 1) := by decide +kernel
theorem dX0_goOn_118 : decode cX0_goOn 118 = .ok (.if_icmp .eq 13, 3) := by decide +kernel
theorem dX0_goOn_121 : decode cX0_goOn 121 = .ok (.aload_n 0, 1) := by decide +kernel
theorem dX0_goOn_122 : decode cX0_goOn 122 = .ok (.aload_n 0, 1) := by decide +kernel
theorem dX0_goOn_123 : decode cX0_goOn 123 = .ok (.getfield 20, 3) := by decide +kernel
theorem dX0_goOn_126 : decode cX0_goOn 126 = .ok (.iload_n 2, 1) := by decide +kernel
theorem dX0_goOn_127 : decode cX0_goOn 127 = .ok (.aaload, 1) := by decide +kernel
theorem dX0_goOn_128 : decode cX0_goOn 128 = .ok (.invokevirtual 165, 3) := by decide +kernel
theorem dX0_goOn_131 : decode cX0_goOn 131 = .ok (.iinc 2 1, 3) := by decide +kernel
theorem dX0_goOn_134 : decode cX0_goOn 134 = .ok (.goto (-50), 3) := by decide +kernel
theorem dX0_goOn_137 : decode cX0_goOn 137 = .ok (.iconst 0, 1) := by decide +kernel
theorem dX0_goOn_138 : decode cX0_goOn 138 = .ok (.istore_n 2, 1) := by decide +kernel
theorem dX0_goOn_139 : decode cX0_goOn 139 = .ok (.iload_n 2, 1) := by decide +kernel
theorem dX0_goOn_140 : decode cX0_goOn 140 = .ok (.aload_n 0, 1) := by decide +kernel
theorem dX0_goOn_141 : decode cX0_goOn 141 = .ok (.getfield 24, 3) := by decide +kernel
theorem dX0_goOn_144 : decode cX0_goOn 144 = .ok (.if_icmp .ge 26, 3) := by decide +kernel
theorem dX0_goOn_147 : decode cX0_goOn 147 = .ok (.aload_n 0, 1) := by decide +kernel
theorem dX0_goOn_148 : decode cX0_goOn 148 = .ok (.getfield 20, 3) := by decide +kernel
theorem dX0_goOn_151 : decode cX0_goOn 151 = .ok (.iload_n 2, 1) := by decide +kernel
theorem dX0_goOn_152 : decode cX0_goOn 152 = .ok (.aaload, 1) := by decide +kernel
theorem dX0_goOn_153 : decode cX0_goOn 153 = .ok (.getfield 65, 3) := by decide +kernel
theorem dX0_goOn_156 : decode cX0_goOn 156 = .ok (.ifCond .ne 8, 3) := by decide +kernel
theorem dX0_goOn_159 : decode cX0_goOn 159 = .ok (.aload_n 0, 1) := by decide +kernel
theorem dX0_goOn_160 : decode cX0_goOn 160 = .ok (.iload_n 2, 1) := by decide +kernel
theorem dX0_goOn_161 : decode cX0_goOn 161 = .ok (.invokevirtual 168, 3) := by decide +kernel
theorem dX0_goOn_164 : decode cX0_goOn 164 = .ok (.iinc 2 1, 3) := by decide +kernel
theorem dX0_goOn_167 : decode cX0_goOn 167 = .ok (.goto (-28), 3) := by decide +kernel
theorem dX0_goOn_170 : decode cX0_goOn 170 = .ok (.aload_n 0, 1) := by decide +kernel
theorem dX0_goOn_171 : decode cX0_goOn 171 = .ok (.invokevirtual 171, 3) := by decide +kernel
theorem dX0_goOn_174 : decode cX0_goOn 174 = .ok (.ireturn, 1) := by decide +kernel
set_option maxRecDepth 20000 in
theorem ggX0_hasRadio_X3_sectionAt : GoodIn wsX0_hasRadio wsX3_sectionAt := goodIn_r _ [6] (by decide +kernel) (by decide +kernel)
set_option maxRecDepth 20000 in
theorem gX0_hasRadio_X3_sectionAt_n99 : GoodIn wsX0_hasRadio (wsX3_sectionAt) := ggX0_hasRadio_X3_sectionAt
theorem dX0_hasRadio_0 : decode cX0_hasRadio 0 = .ok (.aload_n 0, 1) := by decide +kernel
theorem dX0_hasRadio_1 : decode cX0_hasRadio 1 = .ok (.getfield 12, 3) := by decide +kernel
theorem dX0_hasRadio_4 : decode cX0_hasRadio 4 = .ok (.getfield 174, 3) := by decide +kernel
theorem dX0_hasRadio_7 : decode cX0_hasRadio 7 = .ok (.aload_n 1, 1) := by decide +kernel
theorem dX0_hasRadio_8 : decode cX0_hasRadio 8 = .ok (.getfield 48, 3) := by decide +kernel
theorem dX0_hasRadio_11 : decode cX0_hasRadio 11 = .ok (.invokestatic 99, 3) := by decide +kernel
theorem dX0_hasRadio_14 : decode cX0_hasRadio 14 = .ok (.baload, 1) := by decide +kernel
theorem dX0_hasRadio_15 : decode cX0_hasRadio 15 = .ok (.ireturn, 1) := by decide +kernel
set_option maxRecDepth 20000 in
theorem ggX0_reportAll_X0_hasRadio : GoodIn wsX0_reportAll wsX0_hasRadio := goodIn_r _ [9, 10, 11, 12, 13, 14, 15, 31, 32, 33, 34, 53, 54, 55, 56, 57, 58, 59, 60, 61, 62, 35, 36, 37, 38, 39, 40, 41, 42, 43, 44, 45, 46, 47, 48, 49, 50, 51, 52] (by decide +kernel) (by decide +kernel)
set_option maxRecDepth 20000 in
theorem gX0_reportAll_X0_hasRadio : GoodIn wsX0_reportAll (wsV RX0 162 RX0 yX0_hasRadio wsX0_hasRadio) := goodIn_app (goodIn_of _ (by decide +kernel)) ggX0_reportAll_X0_hasRadio
set_option maxRecDepth 20000 in
theorem ggX0_reportAll_X2_report : GoodIn wsX0_reportAll wsX2_report := goodIn_r _ [20, 21, 22, 23, 24, 25, 26, 27, 28, 19, 29, 30, 35, 36, 37, 38, 39, 40, 41, 42, 43, 44, 45, 46, 47, 48, 49, 50, 51, 52] (by decide +kernel) (by decide +kernel)
set_option maxRecDepth 20000 in
theorem gX0_reportAll_X2_report : GoodIn wsX0_reportAll (wsV RX0 61 RX2 yX2_report wsX2_report) := goodIn_app (goodIn_of _ (by decide +kernel)) ggX0_reportAll_X2_report
theorem dX0_reportAll_0 : decode cX0_reportAll 0 = .ok (.iconst 0, 1) := by decide +kernel
theorem dX0_reportAll_1 : decode cX0_reportAll 1 = .ok (.istore_n 2, 1) := by decide +kernel
theorem dX0_reportAll_2 : decode cX0_reportAll 2 = .ok (.iload_n 2, 1) := by decide +kernel
theorem dX0_reportAll_3 : decode cX0_reportAll 3 = .ok (.aload_n 0, 1) := by decide +kernel
theorem dX0_reportAll_4 : decode cX0_reportAll 4 = .ok (.getfield 24, 3) := by decide +kernel
theorem dX0_reportAll_7 : decode cX0_reportAll 7 = .ok (.if_icmp .ge 52, 3) := by decide +kernel
theorem dX0_reportAll_10 : decode cX0_reportAll 10 = .ok (.aload_n 0, 1) := by decide +kernel
theorem dX0_reportAll_11 : decode cX0_reportAll 11 = .ok (.getfield 20, 3) := by decide +kernel
theorem dX0_reportAll_14 : decode cX0_reportAll 14 = .ok (.iload_n 2, 1) := by decide +kernel
theorem dX0_reportAll_15 : decode cX0_reportAll 15 = .ok (.aaload, 1) := by decide +kernel
theorem dX0_reportAll_16 : decode cX0_reportAll 16 = .ok (.getfield 65, 3) := by decide +kernel
theorem dX0_reportAll_19 : decode cX0_reportAll 19 = .ok (.ifCond .ne 34, 3) := by decide +kernel
theorem dX0_reportAll_22 : decode cX0_reportAll 22 = .ok (.iload_n 2, 1) := by decide +kernel
theorem dX0_reportAll_23 : decode cX0_reportAll 23 = .ok (.iload_n 1, 1) := by decide +kernel
theorem dX0_reportAll_24 : decode cX0_reportAll 24 = .ok (.if_icmp .eq 29, 3) := by decide +kernel
theorem dX0_reportAll_27 : decode cX0_reportAll 27 = .ok (.aload_n 0, 1) := by decide +kernel
theorem dX0_reportAll_28 : decode cX0_reportAll 28 = .ok (.aload_n 0, 1) := by decide +kernel
theorem dX0_reportAll_29 : decode cX0_reportAll 29 = .ok (.getfield 20, 3) := by decide +kernel
theorem dX0_reportAll_32 : decode cX0_reportAll 32 = .ok (.iload_n 2, 1) := by decide +kernel
theorem dX0_reportAll_33 : decode cX0_reportAll 33 = .ok (.aaload, 1) := by decide +kernel
theorem dX0_reportAll_34 : decode cX0_reportAll 34 = .ok (.invokevirtual 162, 3) := by decide +kernel
theorem dX0_reportAll_37 : decode cX0_reportAll 37 = .ok (.ifCond .eq 16, 3) := by decide +kernel
theorem dX0_reportAll_40 : decode cX0_reportAll 40 = .ok (.aload_n 0, 1) := by decide +kernel
theorem dX0_reportAll_41 : decode cX0_reportAll 41 = .ok (.getfield 20, 3) := by decide +kernel
theorem dX0_reportAll_44 : decode cX0_reportAll 44 = .ok (.iload_n 2, 1) := by decide +kernel
theorem dX0_reportAll_45 : decode cX0_reportAll 45 = .ok (.aaload, 1) := by decide +kernel
theorem dX0_reportAll_46 : decode cX0_reportAll 46 = .ok (.aload_n 0, 1) := by decide +kernel
theorem dX0_reportAll_47 : decode cX0_reportAll 47 = .ok (.getfield 28, 3) := by decide +kernel
theorem dX0_reportAll_50 : decode cX0_reportAll 50 = .ok (.invokevirtual 61, 3) := by decide +kernel
theorem dX0_reportAll_53 : decode cX0_reportAll 53 = .ok (.iinc 2 1, 3) := by decide +kernel
theorem dX0_reportAll_56 : decode cX0_reportAll 56 = .ok (.goto (-54), 3) := by decide +kernel
theorem dX0_reportAll_59 : decode cX0_reportAll 59 = .ok (.return_, 1) := by decide +kernel
set_option maxRecDepth 20000 in
theorem ggX0_go_X0_allowedSpeed : GoodIn wsX0_go wsX0_allowedSpeed := goodIn_r _ [17, 18, 12, 19, 20, 21, 4, 5, 6, 7, 22, 23, 24, 25, 26, 27, 28, 29, 30, 31, 16, 32, 33, 34, 8, 9, 10, 35, 36, 37, 38, 39, 40, 41, 42, 43, 44, 45, 46, 47, 48, 49, 50, 51, 52, 75, 76, 77, 78, 79, 80, 81, 82, 83, 84, 85, 86, 87, 88, 89, 90, 91, 92, 93, 94, 95, 96, 97, 98, 99, 100, 101, 102, 103, 104, 105, 106] (by decide +kernel) (by decide +kernel)
set_option maxRecDepth 20000 in
theorem gX0_go_X0_allowedSpeed : GoodIn wsX0_go (wsV RX0 181 RX0 yX0_allowedSpeed wsX0_allowedSpeed) := goodIn_app (goodIn_of _ (by decide +kernel)) ggX0_go_X0_allowedSpeed
set_option maxRecDepth 20000 in
theorem ggX0_go_X0_holdOf : GoodIn wsX0_go wsX0_holdOf := goodIn_r _ [32, 33, 19, 34, 12, 8, 9, 6, 10, 35, 36, 37, 75, 76, 77, 78, 79, 80, 81, 82, 83, 84, 85, 86, 87, 88, 89, 90, 91, 92, 93, 94, 95, 96, 97, 98, 99, 100, 101, 102, 103, 104, 105, 106] (by decide +kernel) (by decide +kernel)
set_option maxRecDepth 20000 in
theorem gX0_go_X0_holdOf : GoodIn wsX0_go (wsV RX0 117 RX0 yX0_holdOf wsX0_holdOf) := goodIn_app (goodIn_of _ (by decide +kernel)) ggX0_go_X0_holdOf
set_option maxRecDepth 20000 in
theorem ggX0_go_X0_stopAtStation : GoodIn wsX0_go wsX0_stopAtStation := goodIn_r _ [56, 19, 20, 2, 21, 12, 57, 1, 58, 22, 23, 24, 25, 26, 27, 28, 93, 94, 95, 96, 75, 76, 77, 78, 79, 80, 81, 82, 83, 84, 85, 86, 87, 88, 89, 90, 91, 92, 97, 98, 99, 100, 101, 102, 103, 104, 105, 106] (by decide +kernel) (by decide +kernel)
set_option maxRecDepth 20000 in
theorem gX0_go_X0_stopAtStation : GoodIn wsX0_go (wsV RX0 184 RX0 yX0_stopAtStation wsX0_stopAtStation) := goodIn_app (goodIn_of _ (by decide +kernel)) ggX0_go_X0_stopAtStation
set_option maxRecDepth 20000 in
theorem ggX0_go_X0_missStations : GoodIn wsX0_go wsX0_missStations := goodIn_r _ [62, 20, 19, 12, 63, 64, 65, 66, 25, 67, 27, 28, 68, 69, 70, 71, 72, 73, 74, 75, 76, 77, 78, 79, 80, 81, 82, 83, 84, 85, 86, 87, 88, 89, 90, 91, 92, 93, 94, 95, 96, 97, 98, 99, 100, 101, 102, 103, 104, 105, 106] (by decide +kernel) (by decide +kernel)
set_option maxRecDepth 20000 in
theorem gX0_go_X0_missStations : GoodIn wsX0_go (wsV RX0 187 RX0 yX0_missStations wsX0_missStations) := goodIn_app (goodIn_of _ (by decide +kernel)) ggX0_go_X0_missStations
theorem dX0_go_0 : decode cX0_go 0 = .ok (.aload_n 1, 1) := by decide +kernel
theorem dX0_go_1 : decode cX0_go 1 = .ok (.getfield 178, 3) := by decide +kernel
theorem dX0_go_4 : decode cX0_go 4 = .ok (.ifCond .le 14, 3) := by decide +kernel
theorem dX0_go_7 : decode cX0_go 7 = .ok (.aload_n 1, 1) := by decide +kernel
theorem dX0_go_8 : decode cX0_go 8 = .ok (.dup, 1) := by decide +kernel
theorem dX0_go_9 : decode cX0_go 9 = .ok (.getfield 178, 3) := by decide +kernel
theorem dX0_go_12 : decode cX0_go 12 = .ok (.iconst 1, 1) := by decide +kernel
theorem dX0_go_13 : decode cX0_go 13 = .ok (.isub, 1) := by decide +kernel
theorem dX0_go_14 : decode cX0_go 14 = .ok (.putfield 178, 3) := by decide +kernel
theorem dX0_go_17 : decode cX0_go 17 = .ok (.return_, 1) := by decide +kernel
theorem dX0_go_18 : decode cX0_go 18 = .ok (.aload_n 0, 1) := by decide +kernel
theorem dX0_go_19 : decode cX0_go 19 = .ok (.aload_n 1, 1) := by decide +kernel
theorem dX0_go_20 : decode cX0_go 20 = .ok (.invokevirtual 181, 3) := by decide +kernel
theorem dX0_go_23 : decode cX0_go 23 = .ok (.istore_n 2, 1) := by decide +kernel
theorem dX0_go_24 : decode cX0_go 24 = .ok (.aload_n 1, 1) := by decide +kernel
theorem dX0_go_25 : decode cX0_go 25 = .ok (.getfield 80, 3) := by decide +kernel
theorem dX0_go_28 : decode cX0_go 28 = .ok (.iload_n 2, 1) := by decide +kernel
theorem dX0_go_29 : decode cX0_go 29 = .ok (.if_icmp .ge 23, 3) := by decide +kernel
theorem dX0_go_32 : decode cX0_go 32 = .ok (.aload_n 1, 1) := by decide +kernel
theorem dX0_go_33 : decode cX0_go 33 = .ok (.aload_n 1, 1) := by decide +kernel
theorem dX0_go_34 : decode cX0_go 34 = .ok (.getfield 80, 3) := by decide +kernel
theorem dX0_go_37 : decode cX0_go 37 = .ok (.aload_n 1, 1) := by decide +kernel
theorem dX0_go_38 : decode cX0_go 38 = .ok (.getfield 45, 3) := by decide +kernel
theorem dX0_go_41 : decode cX0_go 41 = .ok (.iadd, 1) := by decide +kernel
theorem dX0_go_42 : decode cX0_go 42 = .ok (.iload_n 2, 1) := by decide +kernel
theorem dX0_go_43 : decode cX0_go 43 = .ok (.invokestatic 114, 3) := by decide +kernel
theorem dX0_go_46 : decode cX0_go 46 = .ok (.putfield 80, 3) := by decide +kernel
theorem dX0_go_49 : decode cX0_go 49 = .ok (.goto 39, 3) := by decide +kernel
theorem dX0_go_52 : decode cX0_go 52 = .ok (.aload_n 1, 1) := by decide +kernel
theorem dX0_go_53 : decode cX0_go 53 = .ok (.getfield 80, 3) := by decide +kernel
theorem dX0_go_56 : decode cX0_go 56 = .ok (.iload_n 2, 1) := by decide +kernel
theorem dX0_go_57 : decode cX0_go 57 = .ok (.if_icmp .le 31, 3) := by decide +kernel
theorem dX0_go_60 : decode cX0_go 60 = .ok (.aload_n 1, 1) := by decide +kernel
theorem dX0_go_61 : decode cX0_go 61 = .ok (.aload_n 1, 1) := by decide +kernel
theorem dX0_go_62 : decode cX0_go 62 = .ok (.getfield 80, 3) := by decide +kernel
theorem dX0_go_65 : decode cX0_go 65 = .ok (.aload_n 0, 1) := by decide +kernel
theorem dX0_go_66 : decode cX0_go 66 = .ok (.aload_n 1, 1) := by decide +kernel
theorem dX0_go_67 : decode cX0_go 67 = .ok (.invokevirtual 117, 3) := by decide +kernel
theorem dX0_go_70 : decode cX0_go 70 = .ok (.isub, 1) := by decide +kernel
theorem dX0_go_71 : decode cX0_go 71 = .ok (.iload_n 2, 1) := by decide +kernel
theorem dX0_go_72 : decode cX0_go 72 = .ok (.invokestatic 102, 3) := by decide +kernel
theorem dX0_go_75 : decode cX0_go 75 = .ok (.putfield 80, 3) := by decide +kernel
theorem dX0_go_78 : decode cX0_go 78 = .ok (.aload_n 1, 1) := by decide +kernel
theorem dX0_go_79 : decode cX0_go 79 = .ok (.dup, 1) := by decide +kernel
theorem dX0_go_80 : decode cX0_go 80 = .ok (.getfield 83, 3) := by decide +kernel
theorem dX0_go_83 : decode cX0_go 83 = .ok (.iconst 1, 1) := by decide +kernel
theorem dX0_go_84 : decode cX0_go 84 = .ok (.iadd, 1) := by decide +kernel
theorem dX0_go_85 : decode cX0_go 85 = .ok (.putfield 83, 3) := by decide +kernel
theorem dX0_go_88 : decode cX0_go 88 = .ok (.aload_n 1, 1) := by decide +kernel
theorem dX0_go_89 : decode cX0_go 89 = .ok (.dup, 1) := by decide +kernel
theorem dX0_go_90 : decode cX0_go 90 = .ok (.getfield 48, 3) := by decide +kernel
theorem dX0_go_93 : decode cX0_go 93 = .ok (.aload_n 1, 1) := by decide +kernel
theorem dX0_go_94 : decode cX0_go 94 = .ok (.getfield 80, 3) := by decide +kernel
theorem dX0_go_97 : decode cX0_go 97 = .ok (.iadd, 1) := by decide +kernel
theorem dX0_go_98 : decode cX0_go 98 = .ok (.putfield 48, 3) := by decide +kernel
theorem dX0_go_101 : decode cX0_go 101 = .ok (.aload_n 0, 1) := by decide +kernel
theorem dX0_go_102 : decode cX0_go 102 = .ok (.aload_n 1, 1) := by decide +kernel
theorem dX0_go_103 : decode cX0_go 103 = .ok (.invokevirtual 184, 3) := by decide +kernel
theorem dX0_go_106 : decode cX0_go 106 = .ok (.aload_n 0, 1) := by decide +kernel
theorem dX0_go_107 : decode cX0_go 107 = .ok (.aload_n 1, 1) := by decide +kernel
theorem dX0_go_108 : decode cX0_go 108 = .ok (.invokevirtual 187, 3) := by decide +kernel
theorem dX0_go_111 : decode cX0_go 111 = .ok (.return_, 1) := by decide +kernel
set_option maxRecDepth 20000 in
theorem ggX0_stopAtStation_X1_nextStation : GoodIn wsX0_stopAtStation wsX1_nextStation := goodIn_r _ [13, 14, 15, 38, 39, 40, 41, 42, 43, 44, 45, 46, 47] (by decide +kernel) (by decide +kernel)
set_option maxRecDepth 20000 in
theorem gX0_stopAtStation_X1_nextStation : GoodIn wsX0_stopAtStation (wsV RX0 108 RX1 yX1_nextStation wsX1_nextStation) := goodIn_app (goodIn_of _ (by decide +kernel)) ggX0_stopAtStation_X1_nextStation
theorem dX0_stopAtStation_0 : decode cX0_stopAtStation 0 = .ok (.aload_n 0, 1) := by decide +kernel
theorem dX0_stopAtStation_1 : decode cX0_stopAtStation 1 = .ok (.getfield 12, 3) := by decide +kernel
theorem dX0_stopAtStation_4 : decode cX0_stopAtStation 4 = .ok (.aload_n 1, 1) := by decide +kernel
theorem dX0_stopAtStation_5 : decode cX0_stopAtStation 5 = .ok (.getfield 58, 3) := by decide +kernel
theorem dX0_stopAtStation_8 : decode cX0_stopAtStation 8 = .ok (.invokevirtual 108, 3) := by decide +kernel
theorem dX0_stopAtStation_11 : decode cX0_stopAtStation 11 = .ok (.istore_n 2, 1) := by decide +kernel
theorem dX0_stopAtStation_12 : decode cX0_stopAtStation 12 = .ok (.iload_n 2, 1) := by decide +kernel
theorem dX0_stopAtStation_13 : decode cX0_stopAtStation 13 = .ok (.iconst (-1), 1) := by decide +kernel
theorem dX0_stopAtStation_14 : decode cX0_stopAtStation 14 = .ok (.if_icmp .eq 66, 3) := by decide +kernel
theorem dX0_stopAtStation_17 : decode cX0_stopAtStation 17 = .ok (.aload_n 1, 1) := by decide +kernel
theorem dX0_stopAtStation_18 : decode cX0_stopAtStation 18 = .ok (.getfield 80, 3) := by decide +kernel
theorem dX0_stopAtStation_21 : decode cX0_stopAtStation 21 = .ok (.ifCond .ne 59, 3) := by decide +kernel
theorem dX0_stopAtStation_24 : decode cX0_stopAtStation 24 = .ok (.aload_n 0, 1) := by decide +kernel
theorem dX0_stopAtStation_25 : decode cX0_stopAtStation 25 = .ok (.getfield 12, 3) := by decide +kernel
theorem dX0_stopAtStation_28 : decode cX0_stopAtStation 28 = .ok (.getfield 111, 3) := by decide +kernel
theorem dX0_stopAtStation_31 : decode cX0_stopAtStation 31 = .ok (.iload_n 2, 1) := by decide +kernel
theorem dX0_stopAtStation_32 : decode cX0_stopAtStation 32 = .ok (.iaload, 1) := by decide +kernel
theorem dX0_stopAtStation_33 : decode cX0_stopAtStation 33 = .ok (.aload_n 1, 1) := by decide +kernel
theorem dX0_stopAtStation_34 : decode cX0_stopAtStation 34 = .ok (.getfield 48, 3) := by decide +kernel
theorem dX0_stopAtStation_37 : decode cX0_stopAtStation 37 = .ok (.if_icmp .ne 43, 3) := by decide +kernel
theorem dX0_stopAtStation_40 : decode cX0_stopAtStation 40 = .ok (.aload_n 1, 1) := by decide +kernel
theorem dX0_stopAtStation_41 : decode cX0_stopAtStation 41 = .ok (.aload_n 0, 1) := by decide +kernel
theorem dX0_stopAtStation_42 : decode cX0_stopAtStation 42 = .ok (.getfield 12, 3) := by decide +kernel
theorem dX0_stopAtStation_45 : decode cX0_stopAtStation 45 = .ok (.getfield 190, 3) := by decide +kernel
theorem dX0_stopAtStation_48 : decode cX0_stopAtStation 48 = .ok (.iload_n 2, 1) := by decide +kernel
theorem dX0_stopAtStation_49 : decode cX0_stopAtStation 49 = .ok (.iaload, 1) := by decide +kernel
theorem dX0_stopAtStation_50 : decode cX0_stopAtStation 50 = .ok (.putfield 178, 3) := by decide +kernel
theorem dX0_stopAtStation_53 : decode cX0_stopAtStation 53 = .ok (.aload_n 1, 1) := by decide +kernel
theorem dX0_stopAtStation_54 : decode cX0_stopAtStation 54 = .ok (.dup, 1) := by decide +kernel
theorem dX0_stopAtStation_55 : decode cX0_stopAtStation 55 = .ok (.getfield 58, 3) := by decide +kernel
theorem dX0_stopAtStation_58 : decode cX0_stopAtStation 58 = .ok (.iconst 1, 1) := by decide +kernel
theorem dX0_stopAtStation_59 : decode cX0_stopAtStation 59 = .ok (.iload_n 2, 1) := by decide +kernel
theorem dX0_stopAtStation_60 : decode cX0_stopAtStation 60 = .ok (.ishl, 1) := by decide +kernel
theorem dX0_stopAtStation_61 : decode cX0_stopAtStation 61 = .ok (.iconst (-1), 1) := by decide +kernel
theorem dX0_stopAtStation_62 : decode cX0_stopAtStation 62 = .ok (.ixor, 1) := by decide +kernel
theorem dX0_stopAtStation_63 : decode cX0_stopAtStation 63 = .ok (.iand, 1) := by decide +kernel
theorem dX0_stopAtStation_64 : decode cX0_stopAtStation 64 = .ok (.putfield 58, 3) := by decide +kernel
theorem dX0_stopAtStation_67 : decode cX0_stopAtStation 67 = .ok (.aload_n 0, 1) := by decide +kernel
theorem dX0_stopAtStation_68 : decode cX0_stopAtStation 68 = .ok (.getfield 12, 3) := by decide +kernel
theorem dX0_stopAtStation_71 : decode cX0_stopAtStation 71 = .ok (.getfield 193, 3) := by decide +kernel
theorem dX0_stopAtStation_74 : decode cX0_stopAtStation 74 = .ok (.iload_n 2, 1) := by decide +kernel
theorem dX0_stopAtStation_75 : decode cX0_stopAtStation 75 = .ok (.dup2, 1) := by decide +kernel
theorem dX0_stopAtStation_76 : decode cX0_stopAtStation 76 = .ok (.iaload, 1) := by decide +kernel
theorem dX0_stopAtStation_77 : decode cX0_stopAtStation 77 = .ok (.iconst 1, 1) := by decide +kernel
theorem dX0_stopAtStation_78 : decode cX0_stopAtStation 78 = .ok (.iadd, 1) := by decide +kernel
theorem dX0_stopAtStation_79 : decode cX0_stopAtStation 79 = .ok (.iastore, 1) := by decide +kernel
theorem dX0_stopAtStation_80 : decode cX0_stopAtStation 80 = .ok (.return_, 1) := by decide +kernel
set_option maxRecDepth 20000 in
theorem ggX0_missStations_X1_stationsFrom : GoodIn wsX0_missStations wsX1_stationsFrom := goodIn_r _ [9, 10, 11, 41, 42, 43, 44, 45, 46, 47, 48, 49, 50] (by decide +kernel) (by decide +kernel)
set_option maxRecDepth 20000 in
theorem gX0_missStations_X1_stationsFrom : GoodIn wsX0_missStations (wsV RX0 54 RX1 yX1_stationsFrom wsX1_stationsFrom) := goodIn_app (goodIn_of _ (by decide +kernel)) ggX0_missStations_X1_stationsFrom
set_option maxRecDepth 20000 in
theorem ggX0_missStations_J6_bitCount_0f7a4 : GoodIn wsX0_missStations wsJ6_bitCount_0f7a4 := goodIn_r _ [15, 16, 17, 18] (by decide +kernel) (by decide +kernel)
set_option maxRecDepth 20000 in
theorem gX0_missStations_J6_bitCount_0f7a4 : GoodIn wsX0_missStations (va_wsS RX0 196 yJ6_bitCount_0f7a4 wsJ6_bitCount_0f7a4) := goodIn_app (goodIn_of _ (by decide +kernel)) ggX0_missStations_J6_bitCount_0f7a4
theorem dX0_missStations_0 : decode cX0_missStations 0 = .ok (.aload_n 1, 1) := by decide +kernel
theorem dX0_missStations_1 : decode cX0_missStations 1 = .ok (.getfield 58, 3) := by decide +kernel
theorem dX0_missStations_4 : decode cX0_missStations 4 = .ok (.aload_n 0, 1) := by decide +kernel
theorem dX0_missStations_5 : decode cX0_missStations 5 = .ok (.getfield 12, 3) := by decide +kernel
theorem dX0_missStations_8 : decode cX0_missStations 8 = .ok (.aload_n 1, 1) := by decide +kernel
theorem dX0_missStations_9 : decode cX0_missStations 9 = .ok (.getfield 48, 3) := by decide +kernel
theorem dX0_missStations_12 : decode cX0_missStations 12 = .ok (.invokevirtual 54, 3) := by decide +kernel
theorem dX0_missStations_15 : decode cX0_missStations 15 = .ok (.iand, 1) := by decide +kernel
theorem dX0_missStations_16 : decode cX0_missStations 16 = .ok (.istore_n 2, 1) := by decide +kernel
theorem dX0_missStations_17 : decode cX0_missStations 17 = .ok (.aload_n 1, 1) := by decide +kernel
theorem dX0_missStations_18 : decode cX0_missStations 18 = .ok (.dup, 1) := by decide +kernel
theorem dX0_missStations_19 : decode cX0_missStations 19 = .ok (.getfield 89, 3) := by decide +kernel
theorem dX0_missStations_22 : decode cX0_missStations 22 = .ok (.aload_n 1, 1) := by decide +kernel
theorem dX0_missStations_23 : decode cX0_missStations 23 = .ok (.getfield 58, 3) := by decide +kernel
theorem dX0_missStations_26 : decode cX0_missStations 26 = .ok (.invokestatic 196, 3) := by decide +kernel
theorem dX0_missStations_29 : decode cX0_missStations 29 = .ok (.iload_n 2, 1) := by decide +kernel
theorem dX0_missStations_30 : decode cX0_missStations 30 = .ok (.invokestatic 196, 3) := by decide +kernel
theorem dX0_missStations_33 : decode cX0_missStations 33 = .ok (.isub, 1) := by decide +kernel
theorem dX0_missStations_34 : decode cX0_missStations 34 = .ok (.iadd, 1) := by decide +kernel
theorem dX0_missStations_35 : decode cX0_missStations 35 = .ok (.putfield 89, 3) := by decide +kernel
theorem dX0_missStations_38 : decode cX0_missStations 38 = .ok (.aload_n 1, 1) := by decide +kernel
theorem dX0_missStations_39 : decode cX0_missStations 39 = .ok (.iload_n 2, 1) := by decide +kernel
theorem dX0_missStations_40 : decode cX0_missStations 40 = .ok (.putfield 58, 3) := by decide +kernel
theorem dX0_missStations_43 : decode cX0_missStations 43 = .ok (.return_, 1) := by decide +kernel
set_option maxRecDepth 20000 in
theorem ggX0_look_X0_aheadOf : GoodIn wsX0_look wsX0_aheadOf := goodIn_r _ [14, 1, 15, 29, 30, 31, 32, 33, 34, 35, 36, 37, 38, 39, 40, 41, 42, 43, 44, 45, 46, 47, 48, 49, 50] (by decide +kernel) (by decide +kernel)
set_option maxRecDepth 20000 in
theorem gX0_look_X0_aheadOf : GoodIn wsX0_look (wsV RX0 130 RX0 yX0_aheadOf wsX0_aheadOf) := goodIn_app (goodIn_of _ (by decide +kernel)) ggX0_look_X0_aheadOf
set_option maxRecDepth 20000 in
theorem ggX0_look_X2_rear : GoodIn wsX0_look wsX2_rear := goodIn_r _ [20, 21, 22, 33, 34, 35, 36, 37, 38, 39, 40, 41, 42, 43, 44, 45, 46, 47, 48, 49, 50] (by decide +kernel) (by decide +kernel)
set_option maxRecDepth 20000 in
theorem gX0_look_X2_rear : GoodIn wsX0_look (wsV RX0 69 RX2 yX2_rear wsX2_rear) := goodIn_app (goodIn_of _ (by decide +kernel)) ggX0_look_X2_rear
set_option maxRecDepth 20000 in
theorem ggX0_look_X2_crash : GoodIn wsX0_look wsX2_crash := goodIn_r _ [26, 27, 28, 33, 34, 35, 36, 37, 38, 39, 40, 41, 42, 43, 44, 45, 46, 47, 48, 49, 50] (by decide +kernel) (by decide +kernel)
set_option maxRecDepth 20000 in
theorem gX0_look_X2_crash : GoodIn wsX0_look (wsV RX0 204 RX2 yX2_crash wsX2_crash) := goodIn_app (goodIn_of _ (by decide +kernel)) ggX0_look_X2_crash
theorem dX0_look_0 : decode cX0_look 0 = .ok (.aload_n 0, 1) := by decide +kernel
theorem dX0_look_1 : decode cX0_look 1 = .ok (.getfield 20, 3) := by decide +kernel
theorem dX0_look_4 : decode cX0_look 4 = .ok (.iload_n 1, 1) := by decide +kernel
theorem dX0_look_5 : decode cX0_look 5 = .ok (.aaload, 1) := by decide +kernel
theorem dX0_look_6 : decode cX0_look 6 = .ok (.astore_n 2, 1) := by decide +kernel
theorem dX0_look_7 : decode cX0_look 7 = .ok (.aload_n 2, 1) := by decide +kernel
theorem dX0_look_8 : decode cX0_look 8 = .ok (.getfield 48, 3) := by decide +kernel
theorem dX0_look_11 : decode cX0_look 11 = .ok (.aload_n 2, 1) := by decide +kernel
theorem dX0_look_12 : decode cX0_look 12 = .ok (.getfield 51, 3) := by decide +kernel
theorem dX0_look_15 : decode cX0_look 15 = .ok (.if_icmp .le 13, 3) := by decide +kernel
theorem dX0_look_18 : decode cX0_look 18 = .ok (.aload_n 2, 1) := by decide +kernel
theorem dX0_look_19 : decode cX0_look 19 = .ok (.dup, 1) := by decide +kernel
theorem dX0_look_20 : decode cX0_look 20 = .ok (.getfield 86, 3) := by decide +kernel
theorem dX0_look_23 : decode cX0_look 23 = .ok (.iconst 1, 1) := by decide +kernel
theorem dX0_look_24 : decode cX0_look 24 = .ok (.iadd, 1) := by decide +kernel
theorem dX0_look_25 : decode cX0_look 25 = .ok (.putfield 86, 3) := by decide +kernel
theorem dX0_look_28 : decode cX0_look 28 = .ok (.aload_n 0, 1) := by decide +kernel
theorem dX0_look_29 : decode cX0_look 29 = .ok (.iload_n 1, 1) := by decide +kernel
theorem dX0_look_30 : decode cX0_look 30 = .ok (.invokevirtual 130, 3) := by decide +kernel
theorem dX0_look_33 : decode cX0_look 33 = .ok (.istore_n 3, 1) := by decide +kernel
theorem dX0_look_34 : decode cX0_look 34 = .ok (.iload_n 3, 1) := by decide +kernel
theorem dX0_look_35 : decode cX0_look 35 = .ok (.iconst (-1), 1) := by decide +kernel
theorem dX0_look_36 : decode cX0_look 36 = .ok (.if_icmp .ne 4, 3) := by decide +kernel
theorem dX0_look_39 : decode cX0_look 39 = .ok (.return_, 1) := by decide +kernel
theorem dX0_look_40 : decode cX0_look 40 = .ok (.aload_n 0, 1) := by decide +kernel
theorem dX0_look_41 : decode cX0_look 41 = .ok (.getfield 20, 3) := by decide +kernel
theorem dX0_look_44 : decode cX0_look 44 = .ok (.iload_n 3, 1) := by decide +kernel
theorem dX0_look_45 : decode cX0_look 45 = .ok (.aaload, 1) := by decide +kernel
theorem dX0_look_46 : decode cX0_look 46 = .ok (.invokevirtual 69, 3) := by decide +kernel
theorem dX0_look_49 : decode cX0_look 49 = .ok (.aload_n 2, 1) := by decide +kernel
theorem dX0_look_50 : decode cX0_look 50 = .ok (.getfield 48, 3) := by decide +kernel
theorem dX0_look_53 : decode cX0_look 53 = .ok (.isub, 1) := by decide +kernel
theorem dX0_look_54 : decode cX0_look 54 = .ok (.iconst 1, 1) := by decide +kernel
theorem dX0_look_55 : decode cX0_look 55 = .ok (.isub, 1) := by decide +kernel
theorem dX0_look_56 : decode cX0_look 56 = .ok (.istore 4, 2) := by decide +kernel
theorem dX0_look_58 : decode cX0_look 58 = .ok (.aload_n 2, 1) := by decide +kernel
theorem dX0_look_59 : decode cX0_look 59 = .ok (.aload_n 2, 1) := by decide +kernel
theorem dX0_look_60 : decode cX0_look 60 = .ok (.getfield 201, 3) := by decide +kernel
theorem dX0_look_63 : decode cX0_look 63 = .ok (.iload 4, 2) := by decide +kernel
theorem dX0_look_65 : decode cX0_look 65 = .ok (.invokestatic 114, 3) := by decide +kernel
theorem dX0_look_68 : decode cX0_look 68 = .ok (.putfield 201, 3) := by decide +kernel
theorem dX0_look_71 : decode cX0_look 71 = .ok (.iload 4, 2) := by decide +kernel
theorem dX0_look_73 : decode cX0_look 73 = .ok (.ifCond .ge 16, 3) := by decide +kernel
theorem dX0_look_76 : decode cX0_look 76 = .ok (.aload_n 2, 1) := by decide +kernel
theorem dX0_look_77 : decode cX0_look 77 = .ok (.invokevirtual 204, 3) := by decide +kernel
theorem dX0_look_80 : decode cX0_look 80 = .ok (.aload_n 0, 1) := by decide +kernel
theorem dX0_look_81 : decode cX0_look 81 = .ok (.getfield 20, 3) := by decide +kernel
theorem dX0_look_84 : decode cX0_look 84 = .ok (.iload_n 3, 1) := by decide +kernel
theorem dX0_look_85 : decode cX0_look 85 = .ok (.aaload, 1) := by decide +kernel
theorem dX0_look_86 : decode cX0_look 86 = .ok (.invokevirtual 204, 3) := by decide +kernel
theorem dX0_look_89 : decode cX0_look 89 = .ok (.return_, 1) := by decide +kernel
set_option maxRecDepth 20000 in
theorem ggX0_leaveAll_X2_rear : GoodIn wsX0_leaveAll wsX2_rear := goodIn_r _ [9, 10, 11, 16, 17, 18, 19, 20, 21, 22, 23, 24, 25, 26, 27, 28, 29, 30, 31, 32, 33] (by decide +kernel) (by decide +kernel)
set_option maxRecDepth 20000 in
theorem gX0_leaveAll_X2_rear : GoodIn wsX0_leaveAll (wsV RX0 69 RX2 yX2_rear wsX2_rear) := goodIn_app (goodIn_of _ (by decide +kernel)) ggX0_leaveAll_X2_rear
theorem dX0_leaveAll_0 : decode cX0_leaveAll 0 = .ok (.iconst 0, 1) := by decide +kernel
theorem dX0_leaveAll_1 : decode cX0_leaveAll 1 = .ok (.istore_n 1, 1) := by decide +kernel
theorem dX0_leaveAll_2 : decode cX0_leaveAll 2 = .ok (.iconst 0, 1) := by decide +kernel
theorem dX0_leaveAll_3 : decode cX0_leaveAll 3 = .ok (.istore_n 2, 1) := by decide +kernel
theorem dX0_leaveAll_4 : decode cX0_leaveAll 4 = .ok (.iload_n 2, 1) := by decide +kernel
theorem dX0_leaveAll_5 : decode cX0_leaveAll 5 = .ok (.aload_n 0, 1) := by decide +kernel
theorem dX0_leaveAll_6 : decode cX0_leaveAll 6 = .ok (.getfield 24, 3) := by decide +kernel
theorem dX0_leaveAll_9 : decode cX0_leaveAll 9 = .ok (.if_icmp .ge 46, 3) := by decide +kernel
theorem dX0_leaveAll_12 : decode cX0_leaveAll 12 = .ok (.aload_n 0, 1) := by decide +kernel
theorem dX0_leaveAll_13 : decode cX0_leaveAll 13 = .ok (.getfield 20, 3) := by decide +kernel
theorem dX0_leaveAll_16 : decode cX0_leaveAll 16 = .ok (.iload_n 2, 1) := by decide +kernel
theorem dX0_leaveAll_17 : decode cX0_leaveAll 17 = .ok (.aaload, 1) := by decide +kernel
theorem dX0_leaveAll_18 : decode cX0_leaveAll 18 = .ok (.astore_n 3, 1) := by decide +kernel
theorem dX0_leaveAll_19 : decode cX0_leaveAll 19 = .ok (.aload_n 3, 1) := by decide +kernel
theorem dX0_leaveAll_20 : decode cX0_leaveAll 20 = .ok (.getfield 65, 3) := by decide +kernel
theorem dX0_leaveAll_23 : decode cX0_leaveAll 23 = .ok (.ifCond .ne 26, 3) := by decide +kernel
theorem dX0_leaveAll_26 : decode cX0_leaveAll 26 = .ok (.aload_n 3, 1) := by decide +kernel
theorem dX0_leaveAll_27 : decode cX0_leaveAll 27 = .ok (.invokevirtual 69, 3) := by decide +kernel
theorem dX0_leaveAll_30 : decode cX0_leaveAll 30 = .ok (.sipush 2999, 3) := by decide +kernel
theorem dX0_leaveAll_33 : decode cX0_leaveAll 33 = .ok (.if_icmp .le 16, 3) := by decide +kernel
theorem dX0_leaveAll_36 : decode cX0_leaveAll 36 = .ok (.aload_n 3, 1) := by decide +kernel
theorem dX0_leaveAll_37 : decode cX0_leaveAll 37 = .ok (.iconst 1, 1) := by decide +kernel
theorem dX0_leaveAll_38 : decode cX0_leaveAll 38 = .ok (.putfield 65, 3) := by decide +kernel
theorem dX0_leaveAll_41 : decode cX0_leaveAll 41 = .ok (.aload_n 3, 1) := by decide +kernel
theorem dX0_leaveAll_42 : decode cX0_leaveAll 42 = .ok (.iconst 0, 1) := by decide +kernel
theorem dX0_leaveAll_43 : decode cX0_leaveAll 43 = .ok (.putfield 80, 3) := by decide +kernel
theorem dX0_leaveAll_46 : decode cX0_leaveAll 46 = .ok (.iinc 1 1, 3) := by decide +kernel
theorem dX0_leaveAll_49 : decode cX0_leaveAll 49 = .ok (.iinc 2 1, 3) := by decide +kernel
theorem dX0_leaveAll_52 : decode cX0_leaveAll 52 = .ok (.goto (-48), 3) := by decide +kernel
theorem dX0_leaveAll_55 : decode cX0_leaveAll 55 = .ok (.iload_n 1, 1) := by decide +kernel
theorem dX0_leaveAll_56 : decode cX0_leaveAll 56 = .ok (.ireturn, 1) := by decide +kernel
