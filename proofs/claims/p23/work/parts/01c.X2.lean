theorem dX2_init_0 : decode cX2_init 0 = .ok (.aload_n 0, 1) := by decide +kernel
theorem dX2_init_1 : decode cX2_init 1 = .ok (.invokespecial 3, 3) := by decide +kernel
theorem dX2_init_4 : decode cX2_init 4 = .ok (.aload_n 0, 1) := by decide +kernel
theorem dX2_init_5 : decode cX2_init 5 = .ok (.iconst 0, 1) := by decide +kernel
theorem dX2_init_6 : decode cX2_init 6 = .ok (.putfield 9, 3) := by decide +kernel
theorem dX2_init_9 : decode cX2_init 9 = .ok (.aload_n 0, 1) := by decide +kernel
theorem dX2_init_10 : decode cX2_init 10 = .ok (.iconst 0, 1) := by decide +kernel
theorem dX2_init_11 : decode cX2_init 11 = .ok (.putfield 15, 3) := by decide +kernel
theorem dX2_init_14 : decode cX2_init 14 = .ok (.aload_n 0, 1) := by decide +kernel
theorem dX2_init_15 : decode cX2_init 15 = .ok (.iconst 0, 1) := by decide +kernel
theorem dX2_init_16 : decode cX2_init 16 = .ok (.putfield 18, 3) := by decide +kernel
theorem dX2_init_19 : decode cX2_init 19 = .ok (.aload_n 0, 1) := by decide +kernel
theorem dX2_init_20 : decode cX2_init 20 = .ok (.iconst 1, 1) := by decide +kernel
theorem dX2_init_21 : decode cX2_init 21 = .ok (.putfield 21, 3) := by decide +kernel
theorem dX2_init_24 : decode cX2_init 24 = .ok (.aload_n 0, 1) := by decide +kernel
theorem dX2_init_25 : decode cX2_init 25 = .ok (.iconst 0, 1) := by decide +kernel
theorem dX2_init_26 : decode cX2_init 26 = .ok (.putfield 25, 3) := by decide +kernel
theorem dX2_init_29 : decode cX2_init 29 = .ok (.aload_n 0, 1) := by decide +kernel
theorem dX2_init_30 : decode cX2_init 30 = .ok (.iconst 0, 1) := by decide +kernel
theorem dX2_init_31 : decode cX2_init 31 = .ok (.putfield 28, 3) := by decide +kernel
theorem dX2_init_34 : decode cX2_init 34 = .ok (.aload_n 0, 1) := by decide +kernel
theorem dX2_init_35 : decode cX2_init 35 = .ok (.iconst 0, 1) := by decide +kernel
theorem dX2_init_36 : decode cX2_init 36 = .ok (.putfield 31, 3) := by decide +kernel
theorem dX2_init_39 : decode cX2_init 39 = .ok (.aload_n 0, 1) := by decide +kernel
theorem dX2_init_40 : decode cX2_init 40 = .ok (.iconst 0, 1) := by decide +kernel
theorem dX2_init_41 : decode cX2_init 41 = .ok (.putfield 34, 3) := by decide +kernel
theorem dX2_init_44 : decode cX2_init 44 = .ok (.aload_n 0, 1) := by decide +kernel
theorem dX2_init_45 : decode cX2_init 45 = .ok (.iconst 0, 1) := by decide +kernel
theorem dX2_init_46 : decode cX2_init 46 = .ok (.putfield 37, 3) := by decide +kernel
theorem dX2_init_49 : decode cX2_init 49 = .ok (.aload_n 0, 1) := by decide +kernel
theorem dX2_init_50 : decode cX2_init 50 = .ok (.iconst 0, 1) := by decide +kernel
theorem dX2_init_51 : decode cX2_init 51 = .ok (.putfield 40, 3) := by decide +kernel
theorem dX2_init_54 : decode cX2_init 54 = .ok (.aload_n 0, 1) := by decide +kernel
theorem dX2_init_55 : decode cX2_init 55 = .ok (.iconst 0, 1) := by decide +kernel
theorem dX2_init_56 : decode cX2_init 56 = .ok (.putfield 43, 3) := by decide +kernel
theorem dX2_init_59 : decode cX2_init 59 = .ok (.aload_n 0, 1) := by decide +kernel
theorem dX2_init_60 : decode cX2_init 60 = .ok (.iconst 0, 1) := by decide +kernel
theorem dX2_init_61 : decode cX2_init 61 = .ok (.putfield 46, 3) := by decide +kernel
theorem dX2_init_64 : decode cX2_init 64 = .ok (.aload_n 0, 1) := by decide +kernel
theorem dX2_init_65 : decode cX2_init 65 = .ok (.iconst 0, 1) := by decide +kernel
theorem dX2_init_66 : decode cX2_init 66 = .ok (.putfield 49, 3) := by decide +kernel
theorem dX2_init_69 : decode cX2_init 69 = .ok (.aload_n 0, 1) := by decide +kernel
theorem dX2_init_70 : decode cX2_init 70 = .ok (.iconst 0, 1) := by decide +kernel
theorem dX2_init_71 : decode cX2_init 71 = .ok (.putfield 52, 3) := by decide +kernel
theorem dX2_init_74 : decode cX2_init 74 = .ok (.aload_n 0, 1) := by decide +kernel
theorem dX2_init_75 : decode cX2_init 75 = .ok (.iconst 0, 1) := by decide +kernel
theorem dX2_init_76 : decode cX2_init 76 = .ok (.putfield 55, 3) := by decide +kernel
theorem dX2_init_79 : decode cX2_init 79 = .ok (.aload_n 0, 1) := by decide +kernel
theorem dX2_init_80 : decode cX2_init 80 = .ok (.iconst 0, 1) := by decide +kernel
theorem dX2_init_81 : decode cX2_init 81 = .ok (.putfield 58, 3) := by decide +kernel
theorem dX2_init_84 : decode cX2_init 84 = .ok (.aload_n 0, 1) := by decide +kernel
theorem dX2_init_85 : decode cX2_init 85 = .ok (.iconst 0, 1) := by decide +kernel
theorem dX2_init_86 : decode cX2_init 86 = .ok (.putfield 61, 3) := by decide +kernel
theorem dX2_init_89 : decode cX2_init 89 = .ok (.aload_n 0, 1) := by decide +kernel
theorem dX2_init_90 : decode cX2_init 90 = .ok (.ldc 64, 2) := by decide +kernel
theorem dX2_init_92 : decode cX2_init 92 = .ok (.putfield 65, 3) := by decide +kernel
theorem dX2_init_95 : decode cX2_init 95 = .ok (.return_, 1) := by decide +kernel
theorem dX2_copyFrom_0 : decode cX2_copyFrom 0 = .ok (.aload_n 0, 1) := by decide +kernel
theorem dX2_copyFrom_1 : decode cX2_copyFrom 1 = .ok (.aload_n 1, 1) := by decide +kernel
theorem dX2_copyFrom_2 : decode cX2_copyFrom 2 = .ok (.getfield 9, 3) := by decide +kernel
theorem dX2_copyFrom_5 : decode cX2_copyFrom 5 = .ok (.putfield 9, 3) := by decide +kernel
theorem dX2_copyFrom_8 : decode cX2_copyFrom 8 = .ok (.aload_n 0, 1) := by decide +kernel
theorem dX2_copyFrom_9 : decode cX2_copyFrom 9 = .ok (.aload_n 1, 1) := by decide +kernel
theorem dX2_copyFrom_10 : decode cX2_copyFrom 10 = .ok (.getfield 15, 3) := by decide +kernel
theorem dX2_copyFrom_13 : decode cX2_copyFrom 13 = .ok (.putfield 15, 3) := by decide +kernel
theorem dX2_copyFrom_16 : decode cX2_copyFrom 16 = .ok (.aload_n 0, 1) := by decide +kernel
theorem dX2_copyFrom_17 : decode cX2_copyFrom 17 = .ok (.aload_n 1, 1) := by decide +kernel
theorem dX2_copyFrom_18 : decode cX2_copyFrom 18 = .ok (.getfield 18, 3) := by decide +kernel
theorem dX2_copyFrom_21 : decode cX2_copyFrom 21 = .ok (.putfield 18, 3) := by decide +kernel
theorem dX2_copyFrom_24 : decode cX2_copyFrom 24 = .ok (.aload_n 0, 1) := by decide +kernel
theorem dX2_copyFrom_25 : decode cX2_copyFrom 25 = .ok (.aload_n 1, 1) := by decide +kernel
theorem dX2_copyFrom_26 : decode cX2_copyFrom 26 = .ok (.getfield 21, 3) := by decide +kernel
theorem dX2_copyFrom_29 : decode cX2_copyFrom 29 = .ok (.putfield 21, 3) := by decide +kernel
theorem dX2_copyFrom_32 : decode cX2_copyFrom 32 = .ok (.aload_n 0, 1) := by decide +kernel
theorem dX2_copyFrom_33 : decode cX2_copyFrom 33 = .ok (.aload_n 1, 1) := by decide +kernel
theorem dX2_copyFrom_34 : decode cX2_copyFrom 34 = .ok (.getfield 25, 3) := by decide +kernel
theorem dX2_copyFrom_37 : decode cX2_copyFrom 37 = .ok (.putfield 25, 3) := by decide +kernel
theorem dX2_copyFrom_40 : decode cX2_copyFrom 40 = .ok (.aload_n 0, 1) := by decide +kernel
theorem dX2_copyFrom_41 : decode cX2_copyFrom 41 = .ok (.aload_n 1, 1) := by decide +kernel
theorem dX2_copyFrom_42 : decode cX2_copyFrom 42 = .ok (.getfield 28, 3) := by decide +kernel
theorem dX2_copyFrom_45 : decode cX2_copyFrom 45 = .ok (.putfield 28, 3) := by decide +kernel
theorem dX2_copyFrom_48 : decode cX2_copyFrom 48 = .ok (.aload_n 0, 1) := by decide +kernel
theorem dX2_copyFrom_49 : decode cX2_copyFrom 49 = .ok (.aload_n 1, 1) := by decide +kernel
theorem dX2_copyFrom_50 : decode cX2_copyFrom 50 = .ok (.getfield 31, 3) := by decide +kernel
theorem dX2_copyFrom_53 : decode cX2_copyFrom 53 = .ok (.putfield 31, 3) := by decide +kernel
theorem dX2_copyFrom_56 : decode cX2_copyFrom 56 = .ok (.aload_n 0, 1) := by decide +kernel
theorem dX2_copyFrom_57 : decode cX2_copyFrom 57 = .ok (.aload_n 1, 1) := by decide +kernel
theorem dX2_copyFrom_58 : decode cX2_copyFrom 58 = .ok (.getfield 34, 3) := by decide +kernel
theorem dX2_copyFrom_61 : decode cX2_copyFrom 61 = .ok (.putfield 34, 3) := by decide +kernel
theorem dX2_copyFrom_64 : decode cX2_copyFrom 64 = .ok (.aload_n 0, 1) := by decide +kernel
theorem dX2_copyFrom_65 : decode cX2_copyFrom 65 = .ok (.aload_n 1, 1) := by decide +kernel
theorem dX2_copyFrom_66 : decode cX2_copyFrom 66 = .ok (.getfield 37, 3) := by decide +kernel
theorem dX2_copyFrom_69 : decode cX2_copyFrom 69 = .ok (.putfield 37, 3) := by decide +kernel
theorem dX2_copyFrom_72 : decode cX2_copyFrom 72 = .ok (.aload_n 0, 1) := by decide +kernel
theorem dX2_copyFrom_73 : decode cX2_copyFrom 73 = .ok (.aload_n 1, 1) := by decide +kernel
theorem dX2_copyFrom_74 : decode cX2_copyFrom 74 = .ok (.getfield 40, 3) := by decide +kernel
theorem dX2_copyFrom_77 : decode cX2_copyFrom 77 = .ok (.putfield 40, 3) := by decide +kernel
theorem dX2_copyFrom_80 : decode cX2_copyFrom 80 = .ok (.aload_n 0, 1) := by decide +kernel
theorem dX2_copyFrom_81 : decode cX2_copyFrom 81 = .ok (.aload_n 1, 1) := by decide +kernel
theorem dX2_copyFrom_82 : decode cX2_copyFrom 82 = .ok (.getfield 43, 3) := by decide +kernel
theorem dX2_copyFrom_85 : decode cX2_copyFrom 85 = .ok (.putfield 43, 3) := by decide +kernel
theorem dX2_copyFrom_88 : decode cX2_copyFrom 88 = .ok (.aload_n 0, 1) := by decide +kernel
theorem dX2_copyFrom_89 : decode cX2_copyFrom 89 = .ok (.aload_n 1, 1) := by decide +kernel
theorem dX2_copyFrom_90 : decode cX2_copyFrom 90 = .ok (.getfield 46, 3) := by decide +kernel
theorem dX2_copyFrom_93 : decode cX2_copyFrom 93 = .ok (.putfield 46, 3) := by decide +kernel
theorem dX2_copyFrom_96 : decode cX2_copyFrom 96 = .ok (.aload_n 0, 1) := by decide +kernel
theorem dX2_copyFrom_97 : decode cX2_copyFrom 97 = .ok (.aload_n 1, 1) := by decide +kernel
theorem dX2_copyFrom_98 : decode cX2_copyFrom 98 = .ok (.getfield 49, 3) := by decide +kernel
theorem dX2_copyFrom_101 : decode cX2_copyFrom 101 = .ok (.putfield 49, 3) := by decide +kernel
theorem dX2_copyFrom_104 : decode cX2_copyFrom 104 = .ok (.aload_n 0, 1) := by decide +kernel
theorem dX2_copyFrom_105 : decode cX2_copyFrom 105 = .ok (.aload_n 1, 1) := by decide +kernel
theorem dX2_copyFrom_106 : decode cX2_copyFrom 106 = .ok (.getfield 52, 3) := by decide +kernel
theorem dX2_copyFrom_109 : decode cX2_copyFrom 109 = .ok (.putfield 52, 3) := by decide +kernel
theorem dX2_copyFrom_112 : decode cX2_copyFrom 112 = .ok (.aload_n 0, 1) := by decide +kernel
theorem dX2_copyFrom_113 : decode cX2_copyFrom 113 = .ok (.aload_n 1, 1) := by decide +kernel
theorem dX2_copyFrom_114 : decode cX2_copyFrom 114 = .ok (.getfield 55, 3) := by decide +kernel
theorem dX2_copyFrom_117 : decode cX2_copyFrom 117 = .ok (.putfield 55, 3) := by decide +kernel
theorem dX2_copyFrom_120 : decode cX2_copyFrom 120 = .ok (.aload_n 0, 1) := by decide +kernel
theorem dX2_copyFrom_121 : decode cX2_copyFrom 121 = .ok (.aload_n 1, 1) := by decide +kernel
theorem dX2_copyFrom_122 : decode cX2_copyFrom 122 = .ok (.getfield 58, 3) := by decide +kernel
theorem dX2_copyFrom_125 : decode cX2_copyFrom 125 = .ok (.putfield 58, 3) := by decide +kernel
theorem dX2_copyFrom_128 : decode cX2_copyFrom 128 = .ok (.aload_n 0, 1) := by decide +kernel
theorem dX2_copyFrom_129 : decode cX2_copyFrom 129 = .ok (.aload_n 1, 1) := by decide +kernel
theorem dX2_copyFrom_130 : decode cX2_copyFrom 130 = .ok (.getfield 61, 3) := by decide +kernel
theorem dX2_copyFrom_133 : decode cX2_copyFrom 133 = .ok (.putfield 61, 3) := by decide +kernel
theorem dX2_copyFrom_136 : decode cX2_copyFrom 136 = .ok (.aload_n 0, 1) := by decide +kernel
theorem dX2_copyFrom_137 : decode cX2_copyFrom 137 = .ok (.aload_n 1, 1) := by decide +kernel
theorem dX2_copyFrom_138 : decode cX2_copyFrom 138 = .ok (.getfield 65, 3) := by decide +kernel
theorem dX2_copyFrom_141 : decode cX2_copyFrom 141 = .ok (.putfield 65, 3) := by decide +kernel
theorem dX2_copyFrom_144 : decode cX2_copyFrom 144 = .ok (.return_, 1) := by decide +kernel
theorem dX2_rear_0 : decode cX2_rear 0 = .ok (.aload_n 0, 1) := by decide +kernel
theorem dX2_rear_1 : decode cX2_rear 1 = .ok (.getfield 25, 3) := by decide +kernel
theorem dX2_rear_4 : decode cX2_rear 4 = .ok (.aload_n 0, 1) := by decide +kernel
theorem dX2_rear_5 : decode cX2_rear 5 = .ok (.getfield 9, 3) := by decide +kernel
theorem dX2_rear_8 : decode cX2_rear 8 = .ok (.isub, 1) := by decide +kernel
theorem dX2_rear_9 : decode cX2_rear 9 = .ok (.iconst 1, 1) := by decide +kernel
theorem dX2_rear_10 : decode cX2_rear 10 = .ok (.iadd, 1) := by decide +kernel
theorem dX2_rear_11 : decode cX2_rear 11 = .ok (.ireturn, 1) := by decide +kernel
theorem dX2_metresGone_0 : decode cX2_metresGone 0 = .ok (.aload_n 0, 1) := by decide +kernel
theorem dX2_metresGone_1 : decode cX2_metresGone 1 = .ok (.getfield 25, 3) := by decide +kernel
theorem dX2_metresGone_4 : decode cX2_metresGone 4 = .ok (.aload_n 0, 1) := by decide +kernel
theorem dX2_metresGone_5 : decode cX2_metresGone 5 = .ok (.getfield 9, 3) := by decide +kernel
theorem dX2_metresGone_8 : decode cX2_metresGone 8 = .ok (.iconst 1, 1) := by decide +kernel
theorem dX2_metresGone_9 : decode cX2_metresGone 9 = .ok (.isub, 1) := by decide +kernel
theorem dX2_metresGone_10 : decode cX2_metresGone 10 = .ok (.isub, 1) := by decide +kernel
theorem dX2_metresGone_11 : decode cX2_metresGone 11 = .ok (.ireturn, 1) := by decide +kernel
set_option maxRecDepth 20000 in
theorem ggX2_isOn_X3_sectionAt : GoodIn wsX2_isOn wsX3_sectionAt := goodIn_r _ [4] (by decide +kernel) (by decide +kernel)
set_option maxRecDepth 20000 in
theorem gX2_isOn_X3_sectionAt_n68 : GoodIn wsX2_isOn (wsX3_sectionAt) := ggX2_isOn_X3_sectionAt
set_option maxRecDepth 20000 in
theorem ggX2_isOn_X2_rear : GoodIn wsX2_isOn wsX2_rear := goodIn_r _ [9, 1, 10, 11, 12, 13, 14, 15, 16, 17, 18, 19, 20, 21, 22, 23, 24, 25, 26, 27, 28] (by decide +kernel) (by decide +kernel)
set_option maxRecDepth 20000 in
theorem gX2_isOn_X2_rear : GoodIn wsX2_isOn (wsV RX2 72 RX2 yX2_rear wsX2_rear) := goodIn_app (goodIn_of _ (by decide +kernel)) ggX2_isOn_X2_rear
theorem dX2_isOn_0 : decode cX2_isOn 0 = .ok (.aload_n 0, 1) := by decide +kernel
theorem dX2_isOn_1 : decode cX2_isOn 1 = .ok (.getfield 25, 3) := by decide +kernel
theorem dX2_isOn_4 : decode cX2_isOn 4 = .ok (.invokestatic 68, 3) := by decide +kernel
theorem dX2_isOn_7 : decode cX2_isOn 7 = .ok (.iload_n 1, 1) := by decide +kernel
theorem dX2_isOn_8 : decode cX2_isOn 8 = .ok (.if_icmp .lt 18, 3) := by decide +kernel
theorem dX2_isOn_11 : decode cX2_isOn 11 = .ok (.aload_n 0, 1) := by decide +kernel
theorem dX2_isOn_12 : decode cX2_isOn 12 = .ok (.invokevirtual 72, 3) := by decide +kernel
theorem dX2_isOn_15 : decode cX2_isOn 15 = .ok (.invokestatic 68, 3) := by decide +kernel
theorem dX2_isOn_18 : decode cX2_isOn 18 = .ok (.iload_n 2, 1) := by decide +kernel
theorem dX2_isOn_19 : decode cX2_isOn 19 = .ok (.if_icmp .gt 7, 3) := by decide +kernel
theorem dX2_isOn_22 : decode cX2_isOn 22 = .ok (.iconst 1, 1) := by decide +kernel
theorem dX2_isOn_23 : decode cX2_isOn 23 = .ok (.goto 4, 3) := by decide +kernel
theorem dX2_isOn_26 : decode cX2_isOn 26 = .ok (.iconst 0, 1) := by decide +kernel
theorem dX2_isOn_27 : decode cX2_isOn 27 = .ok (.ireturn, 1) := by decide +kernel
set_option maxRecDepth 20000 in
theorem ggX2_report_X2_rear : GoodIn wsX2_report wsX2_rear := goodIn_r _ [10, 1, 11, 12, 13, 14, 15, 16, 17, 18, 19, 20, 21, 22, 23, 24, 25, 26, 27, 28, 29] (by decide +kernel) (by decide +kernel)
set_option maxRecDepth 20000 in
theorem gX2_report_X2_rear : GoodIn wsX2_report (wsV RX2 72 RX2 yX2_rear wsX2_rear) := goodIn_app (goodIn_of _ (by decide +kernel)) ggX2_report_X2_rear
theorem dX2_report_0 : decode cX2_report 0 = .ok (.aload_n 0, 1) := by decide +kernel
theorem dX2_report_1 : decode cX2_report 1 = .ok (.aload_n 0, 1) := by decide +kernel
theorem dX2_report_2 : decode cX2_report 2 = .ok (.getfield 25, 3) := by decide +kernel
theorem dX2_report_5 : decode cX2_report 5 = .ok (.putfield 46, 3) := by decide +kernel
theorem dX2_report_8 : decode cX2_report 8 = .ok (.aload_n 0, 1) := by decide +kernel
theorem dX2_report_9 : decode cX2_report 9 = .ok (.getfield 21, 3) := by decide +kernel
theorem dX2_report_12 : decode cX2_report 12 = .ok (.ifCond .eq 11, 3) := by decide +kernel
theorem dX2_report_15 : decode cX2_report 15 = .ok (.aload_n 0, 1) := by decide +kernel
theorem dX2_report_16 : decode cX2_report 16 = .ok (.aload_n 0, 1) := by decide +kernel
theorem dX2_report_17 : decode cX2_report 17 = .ok (.invokevirtual 72, 3) := by decide +kernel
theorem dX2_report_20 : decode cX2_report 20 = .ok (.putfield 49, 3) := by decide +kernel
theorem dX2_report_23 : decode cX2_report 23 = .ok (.aload_n 0, 1) := by decide +kernel
theorem dX2_report_24 : decode cX2_report 24 = .ok (.iload_n 1, 1) := by decide +kernel
theorem dX2_report_25 : decode cX2_report 25 = .ok (.putfield 52, 3) := by decide +kernel
theorem dX2_report_28 : decode cX2_report 28 = .ok (.return_, 1) := by decide +kernel
theorem dX2_crash_0 : decode cX2_crash 0 = .ok (.aload_n 0, 1) := by decide +kernel
theorem dX2_crash_1 : decode cX2_crash 1 = .ok (.iconst 1, 1) := by decide +kernel
theorem dX2_crash_2 : decode cX2_crash 2 = .ok (.putfield 43, 3) := by decide +kernel
theorem dX2_crash_5 : decode cX2_crash 5 = .ok (.aload_n 0, 1) := by decide +kernel
theorem dX2_crash_6 : decode cX2_crash 6 = .ok (.iconst 0, 1) := by decide +kernel
theorem dX2_crash_7 : decode cX2_crash 7 = .ok (.putfield 28, 3) := by decide +kernel
theorem dX2_crash_10 : decode cX2_crash 10 = .ok (.return_, 1) := by decide +kernel
theorem dX2_leastGapOrNone_0 : decode cX2_leastGapOrNone 0 = .ok (.aload_n 0, 1) := by decide +kernel
theorem dX2_leastGapOrNone_1 : decode cX2_leastGapOrNone 1 = .ok (.getfield 65, 3) := by decide +kernel
theorem dX2_leastGapOrNone_4 : decode cX2_leastGapOrNone 4 = .ok (.ldc 64, 2) := by decide +kernel
theorem dX2_leastGapOrNone_6 : decode cX2_leastGapOrNone 6 = .ok (.if_icmp .ne 7, 3) := by decide +kernel
theorem dX2_leastGapOrNone_9 : decode cX2_leastGapOrNone 9 = .ok (.iconst (-1), 1) := by decide +kernel
theorem dX2_leastGapOrNone_10 : decode cX2_leastGapOrNone 10 = .ok (.goto 7, 3) := by decide +kernel
theorem dX2_leastGapOrNone_13 : decode cX2_leastGapOrNone 13 = .ok (.aload_n 0, 1) := by decide +kernel
theorem dX2_leastGapOrNone_14 : decode cX2_leastGapOrNone 14 = .ok (.getfield 65, 3) := by decide +kernel
theorem dX2_leastGapOrNone_17 : decode cX2_leastGapOrNone 17 = .ok (.ireturn, 1) := by decide +kernel
set_option maxRecDepth 20000 in
theorem ggX2_numberNow_X2_rear : GoodIn wsX2_numberNow wsX2_rear := goodIn_r _ [12, 1, 13, 14, 15, 16, 17, 18, 19, 20, 21, 22, 23, 24, 25, 26, 27, 28, 29, 30, 31] (by decide +kernel) (by decide +kernel)
set_option maxRecDepth 20000 in
theorem gX2_numberNow_X2_rear : GoodIn wsX2_numberNow (wsV RX2 72 RX2 yX2_rear wsX2_rear) := goodIn_app (goodIn_of _ (by decide +kernel)) ggX2_numberNow_X2_rear
theorem dX2_numberNow_0 : decode cX2_numberNow 0 = .ok (.iload_n 1, 1) := by decide +kernel
theorem dX2_numberNow_1 : decode cX2_numberNow 1 = .ok (.tableswitch 77 0 5 #[39, 44, 49, 54, 59, 72], 39) := by decide +kernel
theorem dX2_numberNow_40 : decode cX2_numberNow 40 = .ok (.aload_n 0, 1) := by decide +kernel
theorem dX2_numberNow_41 : decode cX2_numberNow 41 = .ok (.getfield 25, 3) := by decide +kernel
theorem dX2_numberNow_44 : decode cX2_numberNow 44 = .ok (.ireturn, 1) := by decide +kernel
theorem dX2_numberNow_45 : decode cX2_numberNow 45 = .ok (.aload_n 0, 1) := by decide +kernel
theorem dX2_numberNow_46 : decode cX2_numberNow 46 = .ok (.invokevirtual 72, 3) := by decide +kernel
theorem dX2_numberNow_49 : decode cX2_numberNow 49 = .ok (.ireturn, 1) := by decide +kernel
theorem dX2_numberNow_50 : decode cX2_numberNow 50 = .ok (.aload_n 0, 1) := by decide +kernel
theorem dX2_numberNow_51 : decode cX2_numberNow 51 = .ok (.getfield 28, 3) := by decide +kernel
theorem dX2_numberNow_54 : decode cX2_numberNow 54 = .ok (.ireturn, 1) := by decide +kernel
theorem dX2_numberNow_55 : decode cX2_numberNow 55 = .ok (.aload_n 0, 1) := by decide +kernel
theorem dX2_numberNow_56 : decode cX2_numberNow 56 = .ok (.getfield 31, 3) := by decide +kernel
theorem dX2_numberNow_59 : decode cX2_numberNow 59 = .ok (.ireturn, 1) := by decide +kernel
theorem dX2_numberNow_60 : decode cX2_numberNow 60 = .ok (.aload_n 0, 1) := by decide +kernel
theorem dX2_numberNow_61 : decode cX2_numberNow 61 = .ok (.getfield 21, 3) := by decide +kernel
theorem dX2_numberNow_64 : decode cX2_numberNow 64 = .ok (.ifCond .eq 7, 3) := by decide +kernel
theorem dX2_numberNow_67 : decode cX2_numberNow 67 = .ok (.iconst 1, 1) := by decide +kernel
theorem dX2_numberNow_68 : decode cX2_numberNow 68 = .ok (.goto 4, 3) := by decide +kernel
theorem dX2_numberNow_71 : decode cX2_numberNow 71 = .ok (.iconst 0, 1) := by decide +kernel
theorem dX2_numberNow_72 : decode cX2_numberNow 72 = .ok (.ireturn, 1) := by decide +kernel
theorem dX2_numberNow_73 : decode cX2_numberNow 73 = .ok (.aload_n 0, 1) := by decide +kernel
theorem dX2_numberNow_74 : decode cX2_numberNow 74 = .ok (.getfield 34, 3) := by decide +kernel
theorem dX2_numberNow_77 : decode cX2_numberNow 77 = .ok (.ireturn, 1) := by decide +kernel
theorem dX2_numberNow_78 : decode cX2_numberNow 78 = .ok (.aload_n 0, 1) := by decide +kernel
theorem dX2_numberNow_79 : decode cX2_numberNow 79 = .ok (.getfield 40, 3) := by decide +kernel
theorem dX2_numberNow_82 : decode cX2_numberNow 82 = .ok (.ifCond .eq 7, 3) := by decide +kernel
theorem dX2_numberNow_85 : decode cX2_numberNow 85 = .ok (.iconst 1, 1) := by decide +kernel
theorem dX2_numberNow_86 : decode cX2_numberNow 86 = .ok (.goto 15, 3) := by decide +kernel
theorem dX2_numberNow_89 : decode cX2_numberNow 89 = .ok (.aload_n 0, 1) := by decide +kernel
theorem dX2_numberNow_90 : decode cX2_numberNow 90 = .ok (.getfield 43, 3) := by decide +kernel
theorem dX2_numberNow_93 : decode cX2_numberNow 93 = .ok (.ifCond .eq 7, 3) := by decide +kernel
theorem dX2_numberNow_96 : decode cX2_numberNow 96 = .ok (.iconst 2, 1) := by decide +kernel
theorem dX2_numberNow_97 : decode cX2_numberNow 97 = .ok (.goto 4, 3) := by decide +kernel
theorem dX2_numberNow_100 : decode cX2_numberNow 100 = .ok (.iconst 0, 1) := by decide +kernel
theorem dX2_numberNow_101 : decode cX2_numberNow 101 = .ok (.ireturn, 1) := by decide +kernel
set_option maxRecDepth 20000 in
theorem ggX2_numberKept_X2_leastGapOrNone : GoodIn wsX2_numberKept wsX2_leastGapOrNone := goodIn_r _ [11, 12, 13, 14, 15, 16, 17, 18, 19, 20, 21, 22, 23, 24, 25, 26, 27, 28, 29, 30, 31] (by decide +kernel) (by decide +kernel)
set_option maxRecDepth 20000 in
theorem gX2_numberKept_X2_leastGapOrNone : GoodIn wsX2_numberKept (wsV RX2 76 RX2 yX2_leastGapOrNone wsX2_leastGapOrNone) := goodIn_app (goodIn_of _ (by decide +kernel)) ggX2_numberKept_X2_leastGapOrNone
theorem dX2_numberKept_0 : decode cX2_numberKept 0 = .ok (.iload_n 1, 1) := by decide +kernel
theorem dX2_numberKept_1 : decode cX2_numberKept 1 = .ok (.tableswitch 69 8 13 #[39, 44, 49, 54, 59, 64], 39) := by decide +kernel
theorem dX2_numberKept_40 : decode cX2_numberKept 40 = .ok (.aload_n 0, 1) := by decide +kernel
theorem dX2_numberKept_41 : decode cX2_numberKept 41 = .ok (.getfield 46, 3) := by decide +kernel
theorem dX2_numberKept_44 : decode cX2_numberKept 44 = .ok (.ireturn, 1) := by decide +kernel
theorem dX2_numberKept_45 : decode cX2_numberKept 45 = .ok (.aload_n 0, 1) := by decide +kernel
theorem dX2_numberKept_46 : decode cX2_numberKept 46 = .ok (.getfield 49, 3) := by decide +kernel
theorem dX2_numberKept_49 : decode cX2_numberKept 49 = .ok (.ireturn, 1) := by decide +kernel
theorem dX2_numberKept_50 : decode cX2_numberKept 50 = .ok (.aload_n 0, 1) := by decide +kernel
theorem dX2_numberKept_51 : decode cX2_numberKept 51 = .ok (.getfield 52, 3) := by decide +kernel
theorem dX2_numberKept_54 : decode cX2_numberKept 54 = .ok (.ireturn, 1) := by decide +kernel
theorem dX2_numberKept_55 : decode cX2_numberKept 55 = .ok (.aload_n 0, 1) := by decide +kernel
theorem dX2_numberKept_56 : decode cX2_numberKept 56 = .ok (.getfield 55, 3) := by decide +kernel
theorem dX2_numberKept_59 : decode cX2_numberKept 59 = .ok (.ireturn, 1) := by decide +kernel
theorem dX2_numberKept_60 : decode cX2_numberKept 60 = .ok (.aload_n 0, 1) := by decide +kernel
theorem dX2_numberKept_61 : decode cX2_numberKept 61 = .ok (.getfield 58, 3) := by decide +kernel
theorem dX2_numberKept_64 : decode cX2_numberKept 64 = .ok (.ireturn, 1) := by decide +kernel
theorem dX2_numberKept_65 : decode cX2_numberKept 65 = .ok (.aload_n 0, 1) := by decide +kernel
theorem dX2_numberKept_66 : decode cX2_numberKept 66 = .ok (.getfield 61, 3) := by decide +kernel
theorem dX2_numberKept_69 : decode cX2_numberKept 69 = .ok (.ireturn, 1) := by decide +kernel
theorem dX2_numberKept_70 : decode cX2_numberKept 70 = .ok (.aload_n 0, 1) := by decide +kernel
theorem dX2_numberKept_71 : decode cX2_numberKept 71 = .ok (.invokevirtual 76, 3) := by decide +kernel
theorem dX2_numberKept_74 : decode cX2_numberKept 74 = .ok (.ireturn, 1) := by decide +kernel
