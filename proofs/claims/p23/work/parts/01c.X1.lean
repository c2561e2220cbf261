theorem dX1_init_0 : decode cX1_init 0 = .ok (.aload_n 0, 1) := by decide +kernel
theorem dX1_init_1 : decode cX1_init 1 = .ok (.invokespecial 3, 3) := by decide +kernel
theorem dX1_init_4 : decode cX1_init 4 = .ok (.aload_n 0, 1) := by decide +kernel
theorem dX1_init_5 : decode cX1_init 5 = .ok (.bipush 20, 2) := by decide +kernel
theorem dX1_init_7 : decode cX1_init 7 = .ok (.newarray .int, 2) := by decide +kernel
theorem dX1_init_9 : decode cX1_init 9 = .ok (.putfield 9, 3) := by decide +kernel
theorem dX1_init_12 : decode cX1_init 12 = .ok (.aload_n 0, 1) := by decide +kernel
theorem dX1_init_13 : decode cX1_init 13 = .ok (.bipush 20, 2) := by decide +kernel
theorem dX1_init_15 : decode cX1_init 15 = .ok (.newarray .int, 2) := by decide +kernel
theorem dX1_init_17 : decode cX1_init 17 = .ok (.putfield 15, 3) := by decide +kernel
theorem dX1_init_20 : decode cX1_init 20 = .ok (.aload_n 0, 1) := by decide +kernel
theorem dX1_init_21 : decode cX1_init 21 = .ok (.bipush 20, 2) := by decide +kernel
theorem dX1_init_23 : decode cX1_init 23 = .ok (.newarray .boolean, 2) := by decide +kernel
theorem dX1_init_25 : decode cX1_init 25 = .ok (.putfield 18, 3) := by decide +kernel
theorem dX1_init_28 : decode cX1_init 28 = .ok (.aload_n 0, 1) := by decide +kernel
theorem dX1_init_29 : decode cX1_init 29 = .ok (.iconst 4, 1) := by decide +kernel
theorem dX1_init_30 : decode cX1_init 30 = .ok (.newarray .int, 2) := by decide +kernel
theorem dX1_init_32 : decode cX1_init 32 = .ok (.putfield 22, 3) := by decide +kernel
theorem dX1_init_35 : decode cX1_init 35 = .ok (.aload_n 0, 1) := by decide +kernel
theorem dX1_init_36 : decode cX1_init 36 = .ok (.iconst 4, 1) := by decide +kernel
theorem dX1_init_37 : decode cX1_init 37 = .ok (.newarray .int, 2) := by decide +kernel
theorem dX1_init_39 : decode cX1_init 39 = .ok (.putfield 25, 3) := by decide +kernel
theorem dX1_init_42 : decode cX1_init 42 = .ok (.aload_n 0, 1) := by decide +kernel
theorem dX1_init_43 : decode cX1_init 43 = .ok (.iconst 4, 1) := by decide +kernel
theorem dX1_init_44 : decode cX1_init 44 = .ok (.newarray .int, 2) := by decide +kernel
theorem dX1_init_46 : decode cX1_init 46 = .ok (.putfield 28, 3) := by decide +kernel
theorem dX1_init_49 : decode cX1_init 49 = .ok (.aload_n 0, 1) := by decide +kernel
theorem dX1_init_50 : decode cX1_init 50 = .ok (.iconst 0, 1) := by decide +kernel
theorem dX1_init_51 : decode cX1_init 51 = .ok (.putfield 31, 3) := by decide +kernel
theorem dX1_init_54 : decode cX1_init 54 = .ok (.aload_n 0, 1) := by decide +kernel
theorem dX1_init_55 : decode cX1_init 55 = .ok (.iconst 3, 1) := by decide +kernel
theorem dX1_init_56 : decode cX1_init 56 = .ok (.newarray .int, 2) := by decide +kernel
theorem dX1_init_58 : decode cX1_init 58 = .ok (.putfield 35, 3) := by decide +kernel
theorem dX1_init_61 : decode cX1_init 61 = .ok (.aload_n 0, 1) := by decide +kernel
theorem dX1_init_62 : decode cX1_init 62 = .ok (.iconst 3, 1) := by decide +kernel
theorem dX1_init_63 : decode cX1_init 63 = .ok (.newarray .int, 2) := by decide +kernel
theorem dX1_init_65 : decode cX1_init 65 = .ok (.putfield 38, 3) := by decide +kernel
theorem dX1_init_68 : decode cX1_init 68 = .ok (.aload_n 0, 1) := by decide +kernel
theorem dX1_init_69 : decode cX1_init 69 = .ok (.iconst 0, 1) := by decide +kernel
theorem dX1_init_70 : decode cX1_init 70 = .ok (.putfield 41, 3) := by decide +kernel
theorem dX1_init_73 : decode cX1_init 73 = .ok (.iconst 0, 1) := by decide +kernel
theorem dX1_init_74 : decode cX1_init 74 = .ok (.istore_n 1, 1) := by decide +kernel
theorem dX1_init_75 : decode cX1_init 75 = .ok (.iload_n 1, 1) := by decide +kernel
theorem dX1_init_76 : decode cX1_init 76 = .ok (.bipush 20, 2) := by decide +kernel
theorem dX1_init_78 : decode cX1_init 78 = .ok (.if_icmp .ge 24, 3) := by decide +kernel
theorem dX1_init_81 : decode cX1_init 81 = .ok (.aload_n 0, 1) := by decide +kernel
theorem dX1_init_82 : decode cX1_init 82 = .ok (.getfield 9, 3) := by decide +kernel
theorem dX1_init_85 : decode cX1_init 85 = .ok (.iload_n 1, 1) := by decide +kernel
theorem dX1_init_86 : decode cX1_init 86 = .ok (.bipush 40, 2) := by decide +kernel
theorem dX1_init_88 : decode cX1_init 88 = .ok (.iastore, 1) := by decide +kernel
theorem dX1_init_89 : decode cX1_init 89 = .ok (.aload_n 0, 1) := by decide +kernel
theorem dX1_init_90 : decode cX1_init 90 = .ok (.getfield 18, 3) := by decide +kernel
theorem dX1_init_93 : decode cX1_init 93 = .ok (.iload_n 1, 1) := by decide +kernel
theorem dX1_init_94 : decode cX1_init 94 = .ok (.iconst 1, 1) := by decide +kernel
theorem dX1_init_95 : decode cX1_init 95 = .ok (.bastore, 1) := by decide +kernel
theorem dX1_init_96 : decode cX1_init 96 = .ok (.iinc 1 1, 3) := by decide +kernel
theorem dX1_init_99 : decode cX1_init 99 = .ok (.goto (-24), 3) := by decide +kernel
theorem dX1_init_102 : decode cX1_init 102 = .ok (.return_, 1) := by decide +kernel
theorem dX1_copyFrom_0 : decode cX1_copyFrom 0 = .ok (.iconst 0, 1) := by decide +kernel
theorem dX1_copyFrom_1 : decode cX1_copyFrom 1 = .ok (.istore_n 2, 1) := by decide +kernel
theorem dX1_copyFrom_2 : decode cX1_copyFrom 2 = .ok (.iload_n 2, 1) := by decide +kernel
theorem dX1_copyFrom_3 : decode cX1_copyFrom 3 = .ok (.bipush 20, 2) := by decide +kernel
theorem dX1_copyFrom_5 : decode cX1_copyFrom 5 = .ok (.if_icmp .ge 45, 3) := by decide +kernel
theorem dX1_copyFrom_8 : decode cX1_copyFrom 8 = .ok (.aload_n 0, 1) := by decide +kernel
theorem dX1_copyFrom_9 : decode cX1_copyFrom 9 = .ok (.getfield 9, 3) := by decide +kernel
theorem dX1_copyFrom_12 : decode cX1_copyFrom 12 = .ok (.iload_n 2, 1) := by decide +kernel
theorem dX1_copyFrom_13 : decode cX1_copyFrom 13 = .ok (.aload_n 1, 1) := by decide +kernel
theorem dX1_copyFrom_14 : decode cX1_copyFrom 14 = .ok (.getfield 9, 3) := by decide +kernel
theorem dX1_copyFrom_17 : decode cX1_copyFrom 17 = .ok (.iload_n 2, 1) := by decide +kernel
theorem dX1_copyFrom_18 : decode cX1_copyFrom 18 = .ok (.iaload, 1) := by decide +kernel
theorem dX1_copyFrom_19 : decode cX1_copyFrom 19 = .ok (.iastore, 1) := by decide +kernel
theorem dX1_copyFrom_20 : decode cX1_copyFrom 20 = .ok (.aload_n 0, 1) := by decide +kernel
theorem dX1_copyFrom_21 : decode cX1_copyFrom 21 = .ok (.getfield 15, 3) := by decide +kernel
theorem dX1_copyFrom_24 : decode cX1_copyFrom 24 = .ok (.iload_n 2, 1) := by decide +kernel
theorem dX1_copyFrom_25 : decode cX1_copyFrom 25 = .ok (.aload_n 1, 1) := by decide +kernel
theorem dX1_copyFrom_26 : decode cX1_copyFrom 26 = .ok (.getfield 15, 3) := by decide +kernel
theorem dX1_copyFrom_29 : decode cX1_copyFrom 29 = .ok (.iload_n 2, 1) := by decide +kernel
theorem dX1_copyFrom_30 : decode cX1_copyFrom 30 = .ok (.iaload, 1) := by decide +kernel
theorem dX1_copyFrom_31 : decode cX1_copyFrom 31 = .ok (.iastore, 1) := by decide +kernel
theorem dX1_copyFrom_32 : decode cX1_copyFrom 32 = .ok (.aload_n 0, 1) := by decide +kernel
theorem dX1_copyFrom_33 : decode cX1_copyFrom 33 = .ok (.getfield 18, 3) := by decide +kernel
theorem dX1_copyFrom_36 : decode cX1_copyFrom 36 = .ok (.iload_n 2, 1) := by decide +kernel
theorem dX1_copyFrom_37 : decode cX1_copyFrom 37 = .ok (.aload_n 1, 1) := by decide +kernel
theorem dX1_copyFrom_38 : decode cX1_copyFrom 38 = .ok (.getfield 18, 3) := by decide +kernel
theorem dX1_copyFrom_41 : decode cX1_copyFrom 41 = .ok (.iload_n 2, 1) := by decide +kernel
theorem dX1_copyFrom_42 : decode cX1_copyFrom 42 = .ok (.baload, 1) := by decide +kernel
theorem dX1_copyFrom_43 : decode cX1_copyFrom 43 = .ok (.bastore, 1) := by decide +kernel
theorem dX1_copyFrom_44 : decode cX1_copyFrom 44 = .ok (.iinc 2 1, 3) := by decide +kernel
theorem dX1_copyFrom_47 : decode cX1_copyFrom 47 = .ok (.goto (-45), 3) := by decide +kernel
theorem dX1_copyFrom_50 : decode cX1_copyFrom 50 = .ok (.iconst 0, 1) := by decide +kernel
theorem dX1_copyFrom_51 : decode cX1_copyFrom 51 = .ok (.istore_n 2, 1) := by decide +kernel
theorem dX1_copyFrom_52 : decode cX1_copyFrom 52 = .ok (.iload_n 2, 1) := by decide +kernel
theorem dX1_copyFrom_53 : decode cX1_copyFrom 53 = .ok (.iconst 4, 1) := by decide +kernel
theorem dX1_copyFrom_54 : decode cX1_copyFrom 54 = .ok (.if_icmp .ge 45, 3) := by decide +kernel
theorem dX1_copyFrom_57 : decode cX1_copyFrom 57 = .ok (.aload_n 0, 1) := by decide +kernel
theorem dX1_copyFrom_58 : decode cX1_copyFrom 58 = .ok (.getfield 22, 3) := by decide +kernel
theorem dX1_copyFrom_61 : decode cX1_copyFrom 61 = .ok (.iload_n 2, 1) := by decide +kernel
theorem dX1_copyFrom_62 : decode cX1_copyFrom 62 = .ok (.aload_n 1, 1) := by decide +kernel
theorem dX1_copyFrom_63 : decode cX1_copyFrom 63 = .ok (.getfield 22, 3) := by decide +kernel
theorem dX1_copyFrom_66 : decode cX1_copyFrom 66 = .ok (.iload_n 2, 1) := by decide +kernel
theorem dX1_copyFrom_67 : decode cX1_copyFrom 67 = .ok (.iaload, 1) := by decide +kernel
theorem dX1_copyFrom_68 : decode cX1_copyFrom 68 = .ok (.iastore, 1) := by decide +kernel
theorem dX1_copyFrom_69 : decode cX1_copyFrom 69 = .ok (.aload_n 0, 1) := by decide +kernel
theorem dX1_copyFrom_70 : decode cX1_copyFrom 70 = .ok (.getfield 25, 3) := by decide +kernel
theorem dX1_copyFrom_73 : decode cX1_copyFrom 73 = .ok (.iload_n 2, 1) := by decide +kernel
theorem dX1_copyFrom_74 : decode cX1_copyFrom 74 = .ok (.aload_n 1, 1) := by decide +kernel
theorem dX1_copyFrom_75 : decode cX1_copyFrom 75 = .ok (.getfield 25, 3) := by decide +kernel
theorem dX1_copyFrom_78 : decode cX1_copyFrom 78 = .ok (.iload_n 2, 1) := by decide +kernel
theorem dX1_copyFrom_79 : decode cX1_copyFrom 79 = .ok (.iaload, 1) := by decide +kernel
theorem dX1_copyFrom_80 : decode cX1_copyFrom 80 = .ok (.iastore, 1) := by decide +kernel
theorem dX1_copyFrom_81 : decode cX1_copyFrom 81 = .ok (.aload_n 0, 1) := by decide +kernel
theorem dX1_copyFrom_82 : decode cX1_copyFrom 82 = .ok (.getfield 28, 3) := by decide +kernel
theorem dX1_copyFrom_85 : decode cX1_copyFrom 85 = .ok (.iload_n 2, 1) := by decide +kernel
theorem dX1_copyFrom_86 : decode cX1_copyFrom 86 = .ok (.aload_n 1, 1) := by decide +kernel
theorem dX1_copyFrom_87 : decode cX1_copyFrom 87 = .ok (.getfield 28, 3) := by decide +kernel
theorem dX1_copyFrom_90 : decode cX1_copyFrom 90 = .ok (.iload_n 2, 1) := by decide +kernel
theorem dX1_copyFrom_91 : decode cX1_copyFrom 91 = .ok (.iaload, 1) := by decide +kernel
theorem dX1_copyFrom_92 : decode cX1_copyFrom 92 = .ok (.iastore, 1) := by decide +kernel
theorem dX1_copyFrom_93 : decode cX1_copyFrom 93 = .ok (.iinc 2 1, 3) := by decide +kernel
theorem dX1_copyFrom_96 : decode cX1_copyFrom 96 = .ok (.goto (-44), 3) := by decide +kernel
theorem dX1_copyFrom_99 : decode cX1_copyFrom 99 = .ok (.aload_n 0, 1) := by decide +kernel
theorem dX1_copyFrom_100 : decode cX1_copyFrom 100 = .ok (.aload_n 1, 1) := by decide +kernel
theorem dX1_copyFrom_101 : decode cX1_copyFrom 101 = .ok (.getfield 31, 3) := by decide +kernel
theorem dX1_copyFrom_104 : decode cX1_copyFrom 104 = .ok (.putfield 31, 3) := by decide +kernel
theorem dX1_copyFrom_107 : decode cX1_copyFrom 107 = .ok (.iconst 0, 1) := by decide +kernel
theorem dX1_copyFrom_108 : decode cX1_copyFrom 108 = .ok (.istore_n 2, 1) := by decide +kernel
theorem dX1_copyFrom_109 : decode cX1_copyFrom 109 = .ok (.iload_n 2, 1) := by decide +kernel
theorem dX1_copyFrom_110 : decode cX1_copyFrom 110 = .ok (.iconst 3, 1) := by decide +kernel
theorem dX1_copyFrom_111 : decode cX1_copyFrom 111 = .ok (.if_icmp .ge 33, 3) := by decide +kernel
theorem dX1_copyFrom_114 : decode cX1_copyFrom 114 = .ok (.aload_n 0, 1) := by decide +kernel
theorem dX1_copyFrom_115 : decode cX1_copyFrom 115 = .ok (.getfield 35, 3) := by decide +kernel
theorem dX1_copyFrom_118 : decode cX1_copyFrom 118 = .ok (.iload_n 2, 1) := by decide +kernel
theorem dX1_copyFrom_119 : decode cX1_copyFrom 119 = .ok (.aload_n 1, 1) := by decide +kernel
theorem dX1_copyFrom_120 : decode cX1_copyFrom 120 = .ok (.getfield 35, 3) := by decide +kernel
theorem dX1_copyFrom_123 : decode cX1_copyFrom 123 = .ok (.iload_n 2, 1) := by decide +kernel
theorem dX1_copyFrom_124 : decode cX1_copyFrom 124 = .ok (.iaload, 1) := by decide +kernel
theorem dX1_copyFrom_125 : decode cX1_copyFrom 125 = .ok (.iastore, 1) := by decide +kernel
theorem dX1_copyFrom_126 : decode cX1_copyFrom 126 = .ok (.aload_n 0, 1) := by decide +kernel
theorem dX1_copyFrom_127 : decode cX1_copyFrom 127 = .ok (.getfield 38, 3) := by decide +kernel
theorem dX1_copyFrom_130 : decode cX1_copyFrom 130 = .ok (.iload_n 2, 1) := by decide +kernel
theorem dX1_copyFrom_131 : decode cX1_copyFrom 131 = .ok (.aload_n 1, 1) := by decide +kernel
theorem dX1_copyFrom_132 : decode cX1_copyFrom 132 = .ok (.getfield 38, 3) := by decide +kernel
theorem dX1_copyFrom_135 : decode cX1_copyFrom 135 = .ok (.iload_n 2, 1) := by decide +kernel
theorem dX1_copyFrom_136 : decode cX1_copyFrom 136 = .ok (.iaload, 1) := by decide +kernel
theorem dX1_copyFrom_137 : decode cX1_copyFrom 137 = .ok (.iastore, 1) := by decide +kernel
theorem dX1_copyFrom_138 : decode cX1_copyFrom 138 = .ok (.iinc 2 1, 3) := by decide +kernel
theorem dX1_copyFrom_141 : decode cX1_copyFrom 141 = .ok (.goto (-32), 3) := by decide +kernel
theorem dX1_copyFrom_144 : decode cX1_copyFrom 144 = .ok (.aload_n 0, 1) := by decide +kernel
theorem dX1_copyFrom_145 : decode cX1_copyFrom 145 = .ok (.aload_n 1, 1) := by decide +kernel
theorem dX1_copyFrom_146 : decode cX1_copyFrom 146 = .ok (.getfield 41, 3) := by decide +kernel
theorem dX1_copyFrom_149 : decode cX1_copyFrom 149 = .ok (.putfield 41, 3) := by decide +kernel
theorem dX1_copyFrom_152 : decode cX1_copyFrom 152 = .ok (.return_, 1) := by decide +kernel
set_option maxRecDepth 20000 in
theorem ggX1_leastLimit_X3_sectionAt : GoodIn wsX1_leastLimit wsX3_sectionAt := goodIn_r _ [8] (by decide +kernel) (by decide +kernel)
set_option maxRecDepth 20000 in
theorem gX1_leastLimit_X3_sectionAt_n44 : GoodIn wsX1_leastLimit (wsX3_sectionAt) := ggX1_leastLimit_X3_sectionAt
theorem dX1_leastLimit_0 : decode cX1_leastLimit 0 = .ok (.bipush 40, 2) := by decide +kernel
theorem dX1_leastLimit_2 : decode cX1_leastLimit 2 = .ok (.istore_n 3, 1) := by decide +kernel
theorem dX1_leastLimit_3 : decode cX1_leastLimit 3 = .ok (.iload_n 2, 1) := by decide +kernel
theorem dX1_leastLimit_4 : decode cX1_leastLimit 4 = .ok (.invokestatic 44, 3) := by decide +kernel
theorem dX1_leastLimit_7 : decode cX1_leastLimit 7 = .ok (.istore 4, 2) := by decide +kernel
theorem dX1_leastLimit_9 : decode cX1_leastLimit 9 = .ok (.iload_n 1, 1) := by decide +kernel
theorem dX1_leastLimit_10 : decode cX1_leastLimit 10 = .ok (.invokestatic 44, 3) := by decide +kernel
theorem dX1_leastLimit_13 : decode cX1_leastLimit 13 = .ok (.istore 5, 2) := by decide +kernel
theorem dX1_leastLimit_15 : decode cX1_leastLimit 15 = .ok (.iload 5, 2) := by decide +kernel
theorem dX1_leastLimit_17 : decode cX1_leastLimit 17 = .ok (.iload 4, 2) := by decide +kernel
theorem dX1_leastLimit_19 : decode cX1_leastLimit 19 = .ok (.if_icmp .gt 21, 3) := by decide +kernel
theorem dX1_leastLimit_22 : decode cX1_leastLimit 22 = .ok (.iload_n 3, 1) := by decide +kernel
theorem dX1_leastLimit_23 : decode cX1_leastLimit 23 = .ok (.aload_n 0, 1) := by decide +kernel
theorem dX1_leastLimit_24 : decode cX1_leastLimit 24 = .ok (.getfield 9, 3) := by decide +kernel
theorem dX1_leastLimit_27 : decode cX1_leastLimit 27 = .ok (.iload 5, 2) := by decide +kernel
theorem dX1_leastLimit_29 : decode cX1_leastLimit 29 = .ok (.iaload, 1) := by decide +kernel
theorem dX1_leastLimit_30 : decode cX1_leastLimit 30 = .ok (.invokestatic 48, 3) := by decide +kernel
theorem dX1_leastLimit_33 : decode cX1_leastLimit 33 = .ok (.istore_n 3, 1) := by decide +kernel
theorem dX1_leastLimit_34 : decode cX1_leastLimit 34 = .ok (.iinc 5 1, 3) := by decide +kernel
theorem dX1_leastLimit_37 : decode cX1_leastLimit 37 = .ok (.goto (-22), 3) := by decide +kernel
theorem dX1_leastLimit_40 : decode cX1_leastLimit 40 = .ok (.iload_n 3, 1) := by decide +kernel
theorem dX1_leastLimit_41 : decode cX1_leastLimit 41 = .ok (.ireturn, 1) := by decide +kernel
theorem dX1_hasStationAt_0 : decode cX1_hasStationAt 0 = .ok (.iconst 0, 1) := by decide +kernel
theorem dX1_hasStationAt_1 : decode cX1_hasStationAt 1 = .ok (.istore_n 2, 1) := by decide +kernel
theorem dX1_hasStationAt_2 : decode cX1_hasStationAt 2 = .ok (.iload_n 2, 1) := by decide +kernel
theorem dX1_hasStationAt_3 : decode cX1_hasStationAt 3 = .ok (.aload_n 0, 1) := by decide +kernel
theorem dX1_hasStationAt_4 : decode cX1_hasStationAt 4 = .ok (.getfield 31, 3) := by decide +kernel
theorem dX1_hasStationAt_7 : decode cX1_hasStationAt 7 = .ok (.if_icmp .ge 21, 3) := by decide +kernel
theorem dX1_hasStationAt_10 : decode cX1_hasStationAt 10 = .ok (.aload_n 0, 1) := by decide +kernel
theorem dX1_hasStationAt_11 : decode cX1_hasStationAt 11 = .ok (.getfield 22, 3) := by decide +kernel
theorem dX1_hasStationAt_14 : decode cX1_hasStationAt 14 = .ok (.iload_n 2, 1) := by decide +kernel
theorem dX1_hasStationAt_15 : decode cX1_hasStationAt 15 = .ok (.iaload, 1) := by decide +kernel
theorem dX1_hasStationAt_16 : decode cX1_hasStationAt 16 = .ok (.iload_n 1, 1) := by decide +kernel
theorem dX1_hasStationAt_17 : decode cX1_hasStationAt 17 = .ok (.if_icmp .ne 5, 3) := by decide +kernel
theorem dX1_hasStationAt_20 : decode cX1_hasStationAt 20 = .ok (.iconst 1, 1) := by decide +kernel
theorem dX1_hasStationAt_21 : decode cX1_hasStationAt 21 = .ok (.ireturn, 1) := by decide +kernel
theorem dX1_hasStationAt_22 : decode cX1_hasStationAt 22 = .ok (.iinc 2 1, 3) := by decide +kernel
theorem dX1_hasStationAt_25 : decode cX1_hasStationAt 25 = .ok (.goto (-23), 3) := by decide +kernel
theorem dX1_hasStationAt_28 : decode cX1_hasStationAt 28 = .ok (.iconst 0, 1) := by decide +kernel
theorem dX1_hasStationAt_29 : decode cX1_hasStationAt 29 = .ok (.ireturn, 1) := by decide +kernel
theorem dX1_addStation_0 : decode cX1_addStation 0 = .ok (.aload_n 0, 1) := by decide +kernel
theorem dX1_addStation_1 : decode cX1_addStation 1 = .ok (.getfield 31, 3) := by decide +kernel
theorem dX1_addStation_4 : decode cX1_addStation 4 = .ok (.istore_n 3, 1) := by decide +kernel
theorem dX1_addStation_5 : decode cX1_addStation 5 = .ok (.aload_n 0, 1) := by decide +kernel
theorem dX1_addStation_6 : decode cX1_addStation 6 = .ok (.getfield 22, 3) := by decide +kernel
theorem dX1_addStation_9 : decode cX1_addStation 9 = .ok (.iload_n 3, 1) := by decide +kernel
theorem dX1_addStation_10 : decode cX1_addStation 10 = .ok (.iload_n 1, 1) := by decide +kernel
theorem dX1_addStation_11 : decode cX1_addStation 11 = .ok (.iastore, 1) := by decide +kernel
theorem dX1_addStation_12 : decode cX1_addStation 12 = .ok (.aload_n 0, 1) := by decide +kernel
theorem dX1_addStation_13 : decode cX1_addStation 13 = .ok (.getfield 25, 3) := by decide +kernel
theorem dX1_addStation_16 : decode cX1_addStation 16 = .ok (.iload_n 3, 1) := by decide +kernel
theorem dX1_addStation_17 : decode cX1_addStation 17 = .ok (.iload_n 2, 1) := by decide +kernel
theorem dX1_addStation_18 : decode cX1_addStation 18 = .ok (.iastore, 1) := by decide +kernel
theorem dX1_addStation_19 : decode cX1_addStation 19 = .ok (.aload_n 0, 1) := by decide +kernel
theorem dX1_addStation_20 : decode cX1_addStation 20 = .ok (.getfield 28, 3) := by decide +kernel
theorem dX1_addStation_23 : decode cX1_addStation 23 = .ok (.iload_n 3, 1) := by decide +kernel
theorem dX1_addStation_24 : decode cX1_addStation 24 = .ok (.iconst 0, 1) := by decide +kernel
theorem dX1_addStation_25 : decode cX1_addStation 25 = .ok (.iastore, 1) := by decide +kernel
theorem dX1_addStation_26 : decode cX1_addStation 26 = .ok (.aload_n 0, 1) := by decide +kernel
theorem dX1_addStation_27 : decode cX1_addStation 27 = .ok (.iload_n 3, 1) := by decide +kernel
theorem dX1_addStation_28 : decode cX1_addStation 28 = .ok (.iconst 1, 1) := by decide +kernel
theorem dX1_addStation_29 : decode cX1_addStation 29 = .ok (.iadd, 1) := by decide +kernel
theorem dX1_addStation_30 : decode cX1_addStation 30 = .ok (.putfield 31, 3) := by decide +kernel
theorem dX1_addStation_33 : decode cX1_addStation 33 = .ok (.iload_n 3, 1) := by decide +kernel
theorem dX1_addStation_34 : decode cX1_addStation 34 = .ok (.ireturn, 1) := by decide +kernel
theorem dX1_stationsFrom_0 : decode cX1_stationsFrom 0 = .ok (.iconst 0, 1) := by decide +kernel
theorem dX1_stationsFrom_1 : decode cX1_stationsFrom 1 = .ok (.istore_n 2, 1) := by decide +kernel
theorem dX1_stationsFrom_2 : decode cX1_stationsFrom 2 = .ok (.iconst 0, 1) := by decide +kernel
theorem dX1_stationsFrom_3 : decode cX1_stationsFrom 3 = .ok (.istore_n 3, 1) := by decide +kernel
theorem dX1_stationsFrom_4 : decode cX1_stationsFrom 4 = .ok (.iload_n 3, 1) := by decide +kernel
theorem dX1_stationsFrom_5 : decode cX1_stationsFrom 5 = .ok (.aload_n 0, 1) := by decide +kernel
theorem dX1_stationsFrom_6 : decode cX1_stationsFrom 6 = .ok (.getfield 31, 3) := by decide +kernel
theorem dX1_stationsFrom_9 : decode cX1_stationsFrom 9 = .ok (.if_icmp .ge 25, 3) := by decide +kernel
theorem dX1_stationsFrom_12 : decode cX1_stationsFrom 12 = .ok (.aload_n 0, 1) := by decide +kernel
theorem dX1_stationsFrom_13 : decode cX1_stationsFrom 13 = .ok (.getfield 22, 3) := by decide +kernel
theorem dX1_stationsFrom_16 : decode cX1_stationsFrom 16 = .ok (.iload_n 3, 1) := by decide +kernel
theorem dX1_stationsFrom_17 : decode cX1_stationsFrom 17 = .ok (.iaload, 1) := by decide +kernel
theorem dX1_stationsFrom_18 : decode cX1_stationsFrom 18 = .ok (.iload_n 1, 1) := by decide +kernel
theorem dX1_stationsFrom_19 : decode cX1_stationsFrom 19 = .ok (.if_icmp .lt 9, 3) := by decide +kernel
theorem dX1_stationsFrom_22 : decode cX1_stationsFrom 22 = .ok (.iload_n 2, 1) := by decide +kernel
theorem dX1_stationsFrom_23 : decode cX1_stationsFrom 23 = .ok (.iconst 1, 1) := by decide +kernel
theorem dX1_stationsFrom_24 : decode cX1_stationsFrom 24 = .ok (.iload_n 3, 1) := by decide +kernel
theorem dX1_stationsFrom_25 : decode cX1_stationsFrom 25 = .ok (.ishl, 1) := by decide +kernel
theorem dX1_stationsFrom_26 : decode cX1_stationsFrom 26 = .ok (.ior, 1) := by decide +kernel
theorem dX1_stationsFrom_27 : decode cX1_stationsFrom 27 = .ok (.istore_n 2, 1) := by decide +kernel
theorem dX1_stationsFrom_28 : decode cX1_stationsFrom 28 = .ok (.iinc 3 1, 3) := by decide +kernel
theorem dX1_stationsFrom_31 : decode cX1_stationsFrom 31 = .ok (.goto (-27), 3) := by decide +kernel
theorem dX1_stationsFrom_34 : decode cX1_stationsFrom 34 = .ok (.iload_n 2, 1) := by decide +kernel
theorem dX1_stationsFrom_35 : decode cX1_stationsFrom 35 = .ok (.ireturn, 1) := by decide +kernel
theorem dX1_nextStation_0 : decode cX1_nextStation 0 = .ok (.iconst (-1), 1) := by decide +kernel
theorem dX1_nextStation_1 : decode cX1_nextStation 1 = .ok (.istore_n 2, 1) := by decide +kernel
theorem dX1_nextStation_2 : decode cX1_nextStation 2 = .ok (.iconst 0, 1) := by decide +kernel
theorem dX1_nextStation_3 : decode cX1_nextStation 3 = .ok (.istore_n 3, 1) := by decide +kernel
theorem dX1_nextStation_4 : decode cX1_nextStation 4 = .ok (.iload_n 3, 1) := by decide +kernel
theorem dX1_nextStation_5 : decode cX1_nextStation 5 = .ok (.aload_n 0, 1) := by decide +kernel
theorem dX1_nextStation_6 : decode cX1_nextStation 6 = .ok (.getfield 31, 3) := by decide +kernel
theorem dX1_nextStation_9 : decode cX1_nextStation 9 = .ok (.if_icmp .ge 51, 3) := by decide +kernel
theorem dX1_nextStation_12 : decode cX1_nextStation 12 = .ok (.iload_n 1, 1) := by decide +kernel
theorem dX1_nextStation_13 : decode cX1_nextStation 13 = .ok (.iconst 1, 1) := by decide +kernel
theorem dX1_nextStation_14 : decode cX1_nextStation 14 = .ok (.iload_n 3, 1) := by decide +kernel
theorem dX1_nextStation_15 : decode cX1_nextStation 15 = .ok (.ishl, 1) := by decide +kernel
theorem dX1_nextStation_16 : decode cX1_nextStation 16 = .ok (.iand, 1) := by decide +kernel
theorem dX1_nextStation_17 : decode cX1_nextStation 17 = .ok (.ifCond .eq 7, 3) := by decide +kernel
theorem dX1_nextStation_20 : decode cX1_nextStation 20 = .ok (.iconst 1, 1) := by decide +kernel
theorem dX1_nextStation_21 : decode cX1_nextStation 21 = .ok (.goto 4, 3) := by decide +kernel
theorem dX1_nextStation_24 : decode cX1_nextStation 24 = .ok (.iconst 0, 1) := by decide +kernel
theorem dX1_nextStation_25 : decode cX1_nextStation 25 = .ok (.istore 4, 2) := by decide +kernel
theorem dX1_nextStation_27 : decode cX1_nextStation 27 = .ok (.iload 4, 2) := by decide +kernel
theorem dX1_nextStation_29 : decode cX1_nextStation 29 = .ok (.ifCond .eq 25, 3) := by decide +kernel
theorem dX1_nextStation_32 : decode cX1_nextStation 32 = .ok (.iload_n 2, 1) := by decide +kernel
theorem dX1_nextStation_33 : decode cX1_nextStation 33 = .ok (.iconst (-1), 1) := by decide +kernel
theorem dX1_nextStation_34 : decode cX1_nextStation 34 = .ok (.if_icmp .eq 18, 3) := by decide +kernel
theorem dX1_nextStation_37 : decode cX1_nextStation 37 = .ok (.aload_n 0, 1) := by decide +kernel
theorem dX1_nextStation_38 : decode cX1_nextStation 38 = .ok (.getfield 22, 3) := by decide +kernel
theorem dX1_nextStation_41 : decode cX1_nextStation 41 = .ok (.iload_n 3, 1) := by decide +kernel
theorem dX1_nextStation_42 : decode cX1_nextStation 42 = .ok (.iaload, 1) := by decide +kernel
theorem dX1_nextStation_43 : decode cX1_nextStation 43 = .ok (.aload_n 0, 1) := by decide +kernel
theorem dX1_nextStation_44 : decode cX1_nextStation 44 = .ok (.getfield 22, 3) := by decide +kernel
theorem dX1_nextStation_47 : decode cX1_nextStation 47 = .ok (.iload_n 2, 1) := by decide +kernel
theorem dX1_nextStation_48 : decode cX1_nextStation 48 = .ok (.iaload, 1) := by decide +kernel
theorem dX1_nextStation_49 : decode cX1_nextStation 49 = .ok (.if_icmp .ge 5, 3) := by decide +kernel
theorem dX1_nextStation_52 : decode cX1_nextStation 52 = .ok (.iload_n 3, 1) := by decide +kernel
theorem dX1_nextStation_53 : decode cX1_nextStation 53 = .ok (.istore_n 2, 1) := by decide +kernel
theorem dX1_nextStation_54 : decode cX1_nextStation 54 = .ok (.iinc 3 1, 3) := by decide +kernel
theorem dX1_nextStation_57 : decode cX1_nextStation 57 = .ok (.goto (-53), 3) := by decide +kernel
theorem dX1_nextStation_60 : decode cX1_nextStation 60 = .ok (.iload_n 2, 1) := by decide +kernel
theorem dX1_nextStation_61 : decode cX1_nextStation 61 = .ok (.ireturn, 1) := by decide +kernel
theorem dX1_addWorks_0 : decode cX1_addWorks 0 = .ok (.aload_n 0, 1) := by decide +kernel
theorem dX1_addWorks_1 : decode cX1_addWorks 1 = .ok (.getfield 35, 3) := by decide +kernel
theorem dX1_addWorks_4 : decode cX1_addWorks 4 = .ok (.aload_n 0, 1) := by decide +kernel
theorem dX1_addWorks_5 : decode cX1_addWorks 5 = .ok (.getfield 41, 3) := by decide +kernel
theorem dX1_addWorks_8 : decode cX1_addWorks 8 = .ok (.iload_n 1, 1) := by decide +kernel
theorem dX1_addWorks_9 : decode cX1_addWorks 9 = .ok (.iastore, 1) := by decide +kernel
theorem dX1_addWorks_10 : decode cX1_addWorks 10 = .ok (.aload_n 0, 1) := by decide +kernel
theorem dX1_addWorks_11 : decode cX1_addWorks 11 = .ok (.getfield 38, 3) := by decide +kernel
theorem dX1_addWorks_14 : decode cX1_addWorks 14 = .ok (.aload_n 0, 1) := by decide +kernel
theorem dX1_addWorks_15 : decode cX1_addWorks 15 = .ok (.getfield 41, 3) := by decide +kernel
theorem dX1_addWorks_18 : decode cX1_addWorks 18 = .ok (.iload_n 2, 1) := by decide +kernel
theorem dX1_addWorks_19 : decode cX1_addWorks 19 = .ok (.iastore, 1) := by decide +kernel
theorem dX1_addWorks_20 : decode cX1_addWorks 20 = .ok (.aload_n 0, 1) := by decide +kernel
theorem dX1_addWorks_21 : decode cX1_addWorks 21 = .ok (.dup, 1) := by decide +kernel
theorem dX1_addWorks_22 : decode cX1_addWorks 22 = .ok (.getfield 41, 3) := by decide +kernel
theorem dX1_addWorks_25 : decode cX1_addWorks 25 = .ok (.iconst 1, 1) := by decide +kernel
theorem dX1_addWorks_26 : decode cX1_addWorks 26 = .ok (.iadd, 1) := by decide +kernel
theorem dX1_addWorks_27 : decode cX1_addWorks 27 = .ok (.putfield 41, 3) := by decide +kernel
theorem dX1_addWorks_30 : decode cX1_addWorks 30 = .ok (.aload_n 0, 1) := by decide +kernel
theorem dX1_addWorks_31 : decode cX1_addWorks 31 = .ok (.getfield 41, 3) := by decide +kernel
theorem dX1_addWorks_34 : decode cX1_addWorks 34 = .ok (.ireturn, 1) := by decide +kernel
theorem dX1_removeWorks_0 : decode cX1_removeWorks 0 = .ok (.iload_n 1, 1) := by decide +kernel
theorem dX1_removeWorks_1 : decode cX1_removeWorks 1 = .ok (.iconst 1, 1) := by decide +kernel
theorem dX1_removeWorks_2 : decode cX1_removeWorks 2 = .ok (.iadd, 1) := by decide +kernel
theorem dX1_removeWorks_3 : decode cX1_removeWorks 3 = .ok (.istore_n 2, 1) := by decide +kernel
theorem dX1_removeWorks_4 : decode cX1_removeWorks 4 = .ok (.iload_n 2, 1) := by decide +kernel
theorem dX1_removeWorks_5 : decode cX1_removeWorks 5 = .ok (.aload_n 0, 1) := by decide +kernel
theorem dX1_removeWorks_6 : decode cX1_removeWorks 6 = .ok (.getfield 41, 3) := by decide +kernel
theorem dX1_removeWorks_9 : decode cX1_removeWorks 9 = .ok (.if_icmp .ge 37, 3) := by decide +kernel
theorem dX1_removeWorks_12 : decode cX1_removeWorks 12 = .ok (.aload_n 0, 1) := by decide +kernel
theorem dX1_removeWorks_13 : decode cX1_removeWorks 13 = .ok (.getfield 35, 3) := by decide +kernel
theorem dX1_removeWorks_16 : decode cX1_removeWorks 16 = .ok (.iload_n 2, 1) := by decide +kernel
theorem dX1_removeWorks_17 : decode cX1_removeWorks 17 = .ok (.iconst 1, 1) := by decide +kernel
theorem dX1_removeWorks_18 : decode cX1_removeWorks 18 = .ok (.isub, 1) := by decide +kernel
theorem dX1_removeWorks_19 : decode cX1_removeWorks 19 = .ok (.aload_n 0, 1) := by decide +kernel
theorem dX1_removeWorks_20 : decode cX1_removeWorks 20 = .ok (.getfield 35, 3) := by decide +kernel
theorem dX1_removeWorks_23 : decode cX1_removeWorks 23 = .ok (.iload_n 2, 1) := by decide +kernel
theorem dX1_removeWorks_24 : decode cX1_removeWorks 24 = .ok (.iaload, 1) := by decide +kernel
theorem dX1_removeWorks_25 : decode cX1_removeWorks 25 = .ok (.iastore, 1) := by decide +kernel
theorem dX1_removeWorks_26 : decode cX1_removeWorks 26 = .ok (.aload_n 0, 1) := by decide +kernel
theorem dX1_removeWorks_27 : decode cX1_removeWorks 27 = .ok (.getfield 38, 3) := by decide +kernel
theorem dX1_removeWorks_30 : decode cX1_removeWorks 30 = .ok (.iload_n 2, 1) := by decide +kernel
theorem dX1_removeWorks_31 : decode cX1_removeWorks 31 = .ok (.iconst 1, 1) := by decide +kernel
theorem dX1_removeWorks_32 : decode cX1_removeWorks 32 = .ok (.isub, 1) := by decide +kernel
theorem dX1_removeWorks_33 : decode cX1_removeWorks 33 = .ok (.aload_n 0, 1) := by decide +kernel
theorem dX1_removeWorks_34 : decode cX1_removeWorks 34 = .ok (.getfield 38, 3) := by decide +kernel
theorem dX1_removeWorks_37 : decode cX1_removeWorks 37 = .ok (.iload_n 2, 1) := by decide +kernel
theorem dX1_removeWorks_38 : decode cX1_removeWorks 38 = .ok (.iaload, 1) := by decide +kernel
theorem dX1_removeWorks_39 : decode cX1_removeWorks 39 = .ok (.iastore, 1) := by decide +kernel
theorem dX1_removeWorks_40 : decode cX1_removeWorks 40 = .ok (.iinc 2 1, 3) := by decide +kernel
theorem dX1_removeWorks_43 : decode cX1_removeWorks 43 = .ok (.goto (-39), 3) := by decide +kernel
theorem dX1_removeWorks_46 : decode cX1_removeWorks 46 = .ok (.aload_n 0, 1) := by decide +kernel
theorem dX1_removeWorks_47 : decode cX1_removeWorks 47 = .ok (.dup, 1) := by decide +kernel
theorem dX1_removeWorks_48 : decode cX1_removeWorks 48 = .ok (.getfield 41, 3) := by decide +kernel
theorem dX1_removeWorks_51 : decode cX1_removeWorks 51 = .ok (.iconst 1, 1) := by decide +kernel
theorem dX1_removeWorks_52 : decode cX1_removeWorks 52 = .ok (.isub, 1) := by decide +kernel
theorem dX1_removeWorks_53 : decode cX1_removeWorks 53 = .ok (.putfield 41, 3) := by decide +kernel
theorem dX1_removeWorks_56 : decode cX1_removeWorks 56 = .ok (.aload_n 0, 1) := by decide +kernel
theorem dX1_removeWorks_57 : decode cX1_removeWorks 57 = .ok (.getfield 41, 3) := by decide +kernel
theorem dX1_removeWorks_60 : decode cX1_removeWorks 60 = .ok (.ireturn, 1) := by decide +kernel
set_option maxRecDepth 20000 in
theorem ggX1_hasWorksOn_X3_isWithin : GoodIn wsX1_hasWorksOn wsX3_isWithin := goodIn_r _ [6] (by decide +kernel) (by decide +kernel)
set_option maxRecDepth 20000 in
theorem gX1_hasWorksOn_X3_isWithin_n54 : GoodIn wsX1_hasWorksOn (wsX3_isWithin) := ggX1_hasWorksOn_X3_isWithin
theorem dX1_hasWorksOn_0 : decode cX1_hasWorksOn 0 = .ok (.iconst 0, 1) := by decide +kernel
theorem dX1_hasWorksOn_1 : decode cX1_hasWorksOn 1 = .ok (.istore_n 2, 1) := by decide +kernel
theorem dX1_hasWorksOn_2 : decode cX1_hasWorksOn 2 = .ok (.iload_n 2, 1) := by decide +kernel
theorem dX1_hasWorksOn_3 : decode cX1_hasWorksOn 3 = .ok (.aload_n 0, 1) := by decide +kernel
theorem dX1_hasWorksOn_4 : decode cX1_hasWorksOn 4 = .ok (.getfield 41, 3) := by decide +kernel
theorem dX1_hasWorksOn_7 : decode cX1_hasWorksOn 7 = .ok (.if_icmp .ge 30, 3) := by decide +kernel
theorem dX1_hasWorksOn_10 : decode cX1_hasWorksOn 10 = .ok (.iload_n 1, 1) := by decide +kernel
theorem dX1_hasWorksOn_11 : decode cX1_hasWorksOn 11 = .ok (.aload_n 0, 1) := by decide +kernel
theorem dX1_hasWorksOn_12 : decode cX1_hasWorksOn 12 = .ok (.getfield 35, 3) := by decide +kernel
theorem dX1_hasWorksOn_15 : decode cX1_hasWorksOn 15 = .ok (.iload_n 2, 1) := by decide +kernel
theorem dX1_hasWorksOn_16 : decode cX1_hasWorksOn 16 = .ok (.iaload, 1) := by decide +kernel
theorem dX1_hasWorksOn_17 : decode cX1_hasWorksOn 17 = .ok (.aload_n 0, 1) := by decide +kernel
theorem dX1_hasWorksOn_18 : decode cX1_hasWorksOn 18 = .ok (.getfield 38, 3) := by decide +kernel
theorem dX1_hasWorksOn_21 : decode cX1_hasWorksOn 21 = .ok (.iload_n 2, 1) := by decide +kernel
theorem dX1_hasWorksOn_22 : decode cX1_hasWorksOn 22 = .ok (.iaload, 1) := by decide +kernel
theorem dX1_hasWorksOn_23 : decode cX1_hasWorksOn 23 = .ok (.invokestatic 54, 3) := by decide +kernel
theorem dX1_hasWorksOn_26 : decode cX1_hasWorksOn 26 = .ok (.ifCond .eq 5, 3) := by decide +kernel
theorem dX1_hasWorksOn_29 : decode cX1_hasWorksOn 29 = .ok (.iconst 1, 1) := by decide +kernel
theorem dX1_hasWorksOn_30 : decode cX1_hasWorksOn 30 = .ok (.ireturn, 1) := by decide +kernel
theorem dX1_hasWorksOn_31 : decode cX1_hasWorksOn 31 = .ok (.iinc 2 1, 3) := by decide +kernel
theorem dX1_hasWorksOn_34 : decode cX1_hasWorksOn 34 = .ok (.goto (-32), 3) := by decide +kernel
theorem dX1_hasWorksOn_37 : decode cX1_hasWorksOn 37 = .ok (.iconst 0, 1) := by decide +kernel
theorem dX1_hasWorksOn_38 : decode cX1_hasWorksOn 38 = .ok (.ireturn, 1) := by decide +kernel
set_option maxRecDepth 20000 in
theorem ggX1_boundByWorks_X3_firstMetreOf : GoodIn wsX1_boundByWorks wsX3_firstMetreOf := goodIn_r _ [10] (by decide +kernel) (by decide +kernel)
set_option maxRecDepth 20000 in
theorem gX1_boundByWorks_X3_firstMetreOf_n59 : GoodIn wsX1_boundByWorks (wsX3_firstMetreOf) := ggX1_boundByWorks_X3_firstMetreOf
theorem dX1_boundByWorks_0 : decode cX1_boundByWorks 0 = .ok (.ldc 58, 2) := by decide +kernel
theorem dX1_boundByWorks_2 : decode cX1_boundByWorks 2 = .ok (.istore_n 2, 1) := by decide +kernel
theorem dX1_boundByWorks_3 : decode cX1_boundByWorks 3 = .ok (.iconst 0, 1) := by decide +kernel
theorem dX1_boundByWorks_4 : decode cX1_boundByWorks 4 = .ok (.istore_n 3, 1) := by decide +kernel
theorem dX1_boundByWorks_5 : decode cX1_boundByWorks 5 = .ok (.iload_n 3, 1) := by decide +kernel
theorem dX1_boundByWorks_6 : decode cX1_boundByWorks 6 = .ok (.aload_n 0, 1) := by decide +kernel
theorem dX1_boundByWorks_7 : decode cX1_boundByWorks 7 = .ok (.getfield 41, 3) := by decide +kernel
theorem dX1_boundByWorks_10 : decode cX1_boundByWorks 10 = .ok (.if_icmp .ge 35, 3) := by decide +kernel
theorem dX1_boundByWorks_13 : decode cX1_boundByWorks 13 = .ok (.aload_n 0, 1) := by decide +kernel
theorem dX1_boundByWorks_14 : decode cX1_boundByWorks 14 = .ok (.getfield 35, 3) := by decide +kernel
theorem dX1_boundByWorks_17 : decode cX1_boundByWorks 17 = .ok (.iload_n 3, 1) := by decide +kernel
theorem dX1_boundByWorks_18 : decode cX1_boundByWorks 18 = .ok (.iaload, 1) := by decide +kernel
theorem dX1_boundByWorks_19 : decode cX1_boundByWorks 19 = .ok (.invokestatic 59, 3) := by decide +kernel
theorem dX1_boundByWorks_22 : decode cX1_boundByWorks 22 = .ok (.istore 4, 2) := by decide +kernel
theorem dX1_boundByWorks_24 : decode cX1_boundByWorks 24 = .ok (.iload 4, 2) := by decide +kernel
theorem dX1_boundByWorks_26 : decode cX1_boundByWorks 26 = .ok (.iload_n 1, 1) := by decide +kernel
theorem dX1_boundByWorks_27 : decode cX1_boundByWorks 27 = .ok (.if_icmp .le 12, 3) := by decide +kernel
theorem dX1_boundByWorks_30 : decode cX1_boundByWorks 30 = .ok (.iload_n 2, 1) := by decide +kernel
theorem dX1_boundByWorks_31 : decode cX1_boundByWorks 31 = .ok (.iload 4, 2) := by decide +kernel
theorem dX1_boundByWorks_33 : decode cX1_boundByWorks 33 = .ok (.iconst 1, 1) := by decide +kernel
theorem dX1_boundByWorks_34 : decode cX1_boundByWorks 34 = .ok (.isub, 1) := by decide +kernel
theorem dX1_boundByWorks_35 : decode cX1_boundByWorks 35 = .ok (.invokestatic 48, 3) := by decide +kernel
theorem dX1_boundByWorks_38 : decode cX1_boundByWorks 38 = .ok (.istore_n 2, 1) := by decide +kernel
theorem dX1_boundByWorks_39 : decode cX1_boundByWorks 39 = .ok (.iinc 3 1, 3) := by decide +kernel
theorem dX1_boundByWorks_42 : decode cX1_boundByWorks 42 = .ok (.goto (-37), 3) := by decide +kernel
theorem dX1_boundByWorks_45 : decode cX1_boundByWorks 45 = .ok (.iload_n 2, 1) := by decide +kernel
theorem dX1_boundByWorks_46 : decode cX1_boundByWorks 46 = .ok (.ireturn, 1) := by decide +kernel
