set_option maxRecDepth 20000 in
theorem ggX4_init_Jx4a65c_init_da8c8 : GoodIn wsX4_init wsJx4a65c_init_da8c8 := goodIn_r _ [15, 16, 17, 18, 19, 20, 21, 22, 23, 24, 25, 26, 27, 2, 3, 35, 36, 37] (by decide +kernel) (by decide +kernel)
set_option maxRecDepth 20000 in
theorem gX4_init_Jx4a65c_init_da8c8 : GoodIn wsX4_init (wsJx4a65c_init_da8c8) := ggX4_init_Jx4a65c_init_da8c8
theorem dX4_init_0 : decode cX4_init 0 = .ok (.aload_n 0, 1) := by decide +kernel
theorem dX4_init_1 : decode cX4_init 1 = .ok (.invokespecial 3, 3) := by decide +kernel
theorem dX4_init_4 : decode cX4_init 4 = .ok (.aload_n 0, 1) := by decide +kernel
theorem dX4_init_5 : decode cX4_init 5 = .ok (.bipush 20, 2) := by decide +kernel
theorem dX4_init_7 : decode cX4_init 7 = .ok (.iconst 3, 1) := by decide +kernel
theorem dX4_init_8 : decode cX4_init 8 = .ok (.multianewarray 9 2, 4) := by decide +kernel
theorem dX4_init_12 : decode cX4_init 12 = .ok (.putfield 11, 3) := by decide +kernel
theorem dX4_init_15 : decode cX4_init 15 = .ok (.aload_n 0, 1) := by decide +kernel
theorem dX4_init_16 : decode cX4_init 16 = .ok (.iconst 4, 1) := by decide +kernel
theorem dX4_init_17 : decode cX4_init 17 = .ok (.iconst 3, 1) := by decide +kernel
theorem dX4_init_18 : decode cX4_init 18 = .ok (.multianewarray 9 2, 4) := by decide +kernel
theorem dX4_init_22 : decode cX4_init 22 = .ok (.putfield 16, 3) := by decide +kernel
theorem dX4_init_25 : decode cX4_init 25 = .ok (.aload_n 0, 1) := by decide +kernel
theorem dX4_init_26 : decode cX4_init 26 = .ok (.iconst 4, 1) := by decide +kernel
theorem dX4_init_27 : decode cX4_init 27 = .ok (.bipush 21, 2) := by decide +kernel
theorem dX4_init_29 : decode cX4_init 29 = .ok (.multianewarray 9 2, 4) := by decide +kernel
theorem dX4_init_33 : decode cX4_init 33 = .ok (.putfield 19, 3) := by decide +kernel
theorem dX4_init_36 : decode cX4_init 36 = .ok (.aload_n 0, 1) := by decide +kernel
theorem dX4_init_37 : decode cX4_init 37 = .ok (.new 22, 3) := by decide +kernel
theorem dX4_init_40 : decode cX4_init 40 = .ok (.dup, 1) := by decide +kernel
theorem dX4_init_41 : decode cX4_init 41 = .ok (.invokespecial 24, 3) := by decide +kernel
theorem dX4_init_44 : decode cX4_init 44 = .ok (.putfield 25, 3) := by decide +kernel
theorem dX4_init_47 : decode cX4_init 47 = .ok (.aload_n 0, 1) := by decide +kernel
theorem dX4_init_48 : decode cX4_init 48 = .ok (.getfield 11, 3) := by decide +kernel
theorem dX4_init_51 : decode cX4_init 51 = .ok (.astore_n 1, 1) := by decide +kernel
theorem dX4_init_52 : decode cX4_init 52 = .ok (.aload_n 1, 1) := by decide +kernel
theorem dX4_init_53 : decode cX4_init 53 = .ok (.arraylength, 1) := by decide +kernel
theorem dX4_init_54 : decode cX4_init 54 = .ok (.istore_n 2, 1) := by decide +kernel
theorem dX4_init_55 : decode cX4_init 55 = .ok (.iconst 0, 1) := by decide +kernel
theorem dX4_init_56 : decode cX4_init 56 = .ok (.istore_n 3, 1) := by decide +kernel
theorem dX4_init_57 : decode cX4_init 57 = .ok (.iload_n 3, 1) := by decide +kernel
theorem dX4_init_58 : decode cX4_init 58 = .ok (.iload_n 2, 1) := by decide +kernel
theorem dX4_init_59 : decode cX4_init 59 = .ok (.if_icmp .ge 25, 3) := by decide +kernel
theorem dX4_init_62 : decode cX4_init 62 = .ok (.aload_n 1, 1) := by decide +kernel
theorem dX4_init_63 : decode cX4_init 63 = .ok (.iload_n 3, 1) := by decide +kernel
theorem dX4_init_64 : decode cX4_init 64 = .ok (.aaload, 1) := by decide +kernel
theorem dX4_init_65 : decode cX4_init 65 = .ok (.astore 4, 2) := by decide +kernel
theorem dX4_init_67 : decode cX4_init 67 = .ok (.aload 4, 2) := by decide +kernel
theorem dX4_init_69 : decode cX4_init 69 = .ok (.iconst 0, 1) := by decide +kernel
theorem dX4_init_70 : decode cX4_init 70 = .ok (.bipush 40, 2) := by decide +kernel
theorem dX4_init_72 : decode cX4_init 72 = .ok (.iastore, 1) := by decide +kernel
theorem dX4_init_73 : decode cX4_init 73 = .ok (.aload 4, 2) := by decide +kernel
theorem dX4_init_75 : decode cX4_init 75 = .ok (.iconst 2, 1) := by decide +kernel
theorem dX4_init_76 : decode cX4_init 76 = .ok (.iconst 1, 1) := by decide +kernel
theorem dX4_init_77 : decode cX4_init 77 = .ok (.iastore, 1) := by decide +kernel
theorem dX4_init_78 : decode cX4_init 78 = .ok (.iinc 3 1, 3) := by decide +kernel
theorem dX4_init_81 : decode cX4_init 81 = .ok (.goto (-24), 3) := by decide +kernel
theorem dX4_init_84 : decode cX4_init 84 = .ok (.return_, 1) := by decide +kernel
set_option maxRecDepth 20000 in
theorem ggX4_copy_X4_init : GoodIn wsX4_copy wsX4_init := goodIn_r _ [13, 14, 15, 16, 17, 18, 4, 5, 6, 19, 20, 21, 9, 22, 23, 24, 25, 26, 27, 28, 29, 30, 31, 32, 33, 34, 35, 36, 91, 92, 93, 94, 95, 96, 97, 98, 99, 100] (by decide +kernel) (by decide +kernel)
set_option maxRecDepth 20000 in
theorem gX4_copy_X4_init : GoodIn wsX4_copy (wsX4_init) := ggX4_copy_X4_init
set_option maxRecDepth 20000 in
theorem ggX4_copy_X4_copy_ : GoodIn wsX4_copy wsX4_copy_ := goodIn_r _ [39, 40, 41, 42, 43] (by decide +kernel) (by decide +kernel)
set_option maxRecDepth 20000 in
theorem gX4_copy_X4_copy_ : GoodIn wsX4_copy (va_wsS RX4 30 yX4_copy_ wsX4_copy_) := goodIn_app (goodIn_of _ (by decide +kernel)) ggX4_copy_X4_copy_
set_option maxRecDepth 20000 in
theorem ggX4_copy_Jx4a65c_addAll_f0b43 : GoodIn wsX4_copy wsJx4a65c_addAll_f0b43 := goodIn_r _ [47, 48, 49, 26, 50, 51, 41, 42, 43, 52, 53, 54, 21, 55, 56, 57, 58, 59, 60, 61, 62, 63, 64, 65, 66, 67, 68, 69, 70, 71, 72, 73, 74, 75, 76, 77, 25, 78, 79, 80, 81, 82, 83, 84, 85, 86, 87, 88, 89, 90, 98, 99, 100] (by decide +kernel) (by decide +kernel)
set_option maxRecDepth 20000 in
theorem gX4_copy_Jx4a65c_addAll_f0b43 : GoodIn wsX4_copy (wsV RX4 41 RJx4a65c yJx4a65c_addAll_f0b43 wsJx4a65c_addAll_f0b43) := goodIn_app (goodIn_of _ (by decide +kernel)) ggX4_copy_Jx4a65c_addAll_f0b43
theorem dX4_copy_0 : decode cX4_copy 0 = .ok (.new 12, 3) := by decide +kernel
theorem dX4_copy_3 : decode cX4_copy 3 = .ok (.dup, 1) := by decide +kernel
theorem dX4_copy_4 : decode cX4_copy 4 = .ok (.invokespecial 29, 3) := by decide +kernel
theorem dX4_copy_7 : decode cX4_copy 7 = .ok (.astore_n 1, 1) := by decide +kernel
theorem dX4_copy_8 : decode cX4_copy 8 = .ok (.aload_n 0, 1) := by decide +kernel
theorem dX4_copy_9 : decode cX4_copy 9 = .ok (.getfield 11, 3) := by decide +kernel
theorem dX4_copy_12 : decode cX4_copy 12 = .ok (.aload_n 1, 1) := by decide +kernel
theorem dX4_copy_13 : decode cX4_copy 13 = .ok (.getfield 11, 3) := by decide +kernel
theorem dX4_copy_16 : decode cX4_copy 16 = .ok (.invokestatic 30, 3) := by decide +kernel
theorem dX4_copy_19 : decode cX4_copy 19 = .ok (.aload_n 0, 1) := by decide +kernel
theorem dX4_copy_20 : decode cX4_copy 20 = .ok (.getfield 16, 3) := by decide +kernel
theorem dX4_copy_23 : decode cX4_copy 23 = .ok (.aload_n 1, 1) := by decide +kernel
theorem dX4_copy_24 : decode cX4_copy 24 = .ok (.getfield 16, 3) := by decide +kernel
theorem dX4_copy_27 : decode cX4_copy 27 = .ok (.invokestatic 30, 3) := by decide +kernel
theorem dX4_copy_30 : decode cX4_copy 30 = .ok (.aload_n 0, 1) := by decide +kernel
theorem dX4_copy_31 : decode cX4_copy 31 = .ok (.getfield 19, 3) := by decide +kernel
theorem dX4_copy_34 : decode cX4_copy 34 = .ok (.aload_n 1, 1) := by decide +kernel
theorem dX4_copy_35 : decode cX4_copy 35 = .ok (.getfield 19, 3) := by decide +kernel
theorem dX4_copy_38 : decode cX4_copy 38 = .ok (.invokestatic 30, 3) := by decide +kernel
theorem dX4_copy_41 : decode cX4_copy 41 = .ok (.aload_n 1, 1) := by decide +kernel
theorem dX4_copy_42 : decode cX4_copy 42 = .ok (.aload_n 0, 1) := by decide +kernel
theorem dX4_copy_43 : decode cX4_copy 43 = .ok (.getfield 34, 3) := by decide +kernel
theorem dX4_copy_46 : decode cX4_copy 46 = .ok (.putfield 34, 3) := by decide +kernel
theorem dX4_copy_49 : decode cX4_copy 49 = .ok (.aload_n 1, 1) := by decide +kernel
theorem dX4_copy_50 : decode cX4_copy 50 = .ok (.aload_n 0, 1) := by decide +kernel
theorem dX4_copy_51 : decode cX4_copy 51 = .ok (.getfield 38, 3) := by decide +kernel
theorem dX4_copy_54 : decode cX4_copy 54 = .ok (.putfield 38, 3) := by decide +kernel
theorem dX4_copy_57 : decode cX4_copy 57 = .ok (.aload_n 1, 1) := by decide +kernel
theorem dX4_copy_58 : decode cX4_copy 58 = .ok (.getfield 25, 3) := by decide +kernel
theorem dX4_copy_61 : decode cX4_copy 61 = .ok (.aload_n 0, 1) := by decide +kernel
theorem dX4_copy_62 : decode cX4_copy 62 = .ok (.getfield 25, 3) := by decide +kernel
theorem dX4_copy_65 : decode cX4_copy 65 = .ok (.invokevirtual 41, 3) := by decide +kernel
theorem dX4_copy_68 : decode cX4_copy 68 = .ok (.pop, 1) := by decide +kernel
theorem dX4_copy_69 : decode cX4_copy 69 = .ok (.aload_n 1, 1) := by decide +kernel
theorem dX4_copy_70 : decode cX4_copy 70 = .ok (.aload_n 0, 1) := by decide +kernel
theorem dX4_copy_71 : decode cX4_copy 71 = .ok (.getfield 45, 3) := by decide +kernel
theorem dX4_copy_74 : decode cX4_copy 74 = .ok (.putfield 45, 3) := by decide +kernel
theorem dX4_copy_77 : decode cX4_copy 77 = .ok (.aload_n 1, 1) := by decide +kernel
theorem dX4_copy_78 : decode cX4_copy 78 = .ok (.areturn, 1) := by decide +kernel
theorem dX4_copy__0 : decode cX4_copy_ 0 = .ok (.iconst 0, 1) := by decide +kernel
theorem dX4_copy__1 : decode cX4_copy_ 1 = .ok (.istore_n 2, 1) := by decide +kernel
theorem dX4_copy__2 : decode cX4_copy_ 2 = .ok (.iload_n 2, 1) := by decide +kernel
theorem dX4_copy__3 : decode cX4_copy_ 3 = .ok (.aload_n 0, 1) := by decide +kernel
theorem dX4_copy__4 : decode cX4_copy_ 4 = .ok (.arraylength, 1) := by decide +kernel
theorem dX4_copy__5 : decode cX4_copy_ 5 = .ok (.if_icmp .ge 24, 3) := by decide +kernel
theorem dX4_copy__8 : decode cX4_copy_ 8 = .ok (.aload_n 0, 1) := by decide +kernel
theorem dX4_copy__9 : decode cX4_copy_ 9 = .ok (.iload_n 2, 1) := by decide +kernel
theorem dX4_copy__10 : decode cX4_copy_ 10 = .ok (.aaload, 1) := by decide +kernel
theorem dX4_copy__11 : decode cX4_copy_ 11 = .ok (.iconst 0, 1) := by decide +kernel
theorem dX4_copy__12 : decode cX4_copy_ 12 = .ok (.aload_n 1, 1) := by decide +kernel
theorem dX4_copy__13 : decode cX4_copy_ 13 = .ok (.iload_n 2, 1) := by decide +kernel
theorem dX4_copy__14 : decode cX4_copy_ 14 = .ok (.aaload, 1) := by decide +kernel
theorem dX4_copy__15 : decode cX4_copy_ 15 = .ok (.iconst 0, 1) := by decide +kernel
theorem dX4_copy__16 : decode cX4_copy_ 16 = .ok (.aload_n 0, 1) := by decide +kernel
theorem dX4_copy__17 : decode cX4_copy_ 17 = .ok (.iload_n 2, 1) := by decide +kernel
theorem dX4_copy__18 : decode cX4_copy_ 18 = .ok (.aaload, 1) := by decide +kernel
theorem dX4_copy__19 : decode cX4_copy_ 19 = .ok (.arraylength, 1) := by decide +kernel
theorem dX4_copy__20 : decode cX4_copy_ 20 = .ok (.invokestatic 48, 3) := by decide +kernel
theorem dX4_copy__23 : decode cX4_copy_ 23 = .ok (.iinc 2 1, 3) := by decide +kernel
theorem dX4_copy__26 : decode cX4_copy_ 26 = .ok (.goto (-24), 3) := by decide +kernel
theorem dX4_copy__29 : decode cX4_copy_ 29 = .ok (.return_, 1) := by decide +kernel
theorem dX4_pass_0 : decode cX4_pass 0 = .ok (.aload_n 0, 1) := by decide +kernel
theorem dX4_pass_1 : decode cX4_pass 1 = .ok (.dup, 1) := by decide +kernel
theorem dX4_pass_2 : decode cX4_pass 2 = .ok (.getfield 45, 3) := by decide +kernel
theorem dX4_pass_5 : decode cX4_pass 5 = .ok (.iconst 1, 1) := by decide +kernel
theorem dX4_pass_6 : decode cX4_pass 6 = .ok (.iadd, 1) := by decide +kernel
theorem dX4_pass_7 : decode cX4_pass 7 = .ok (.putfield 45, 3) := by decide +kernel
theorem dX4_pass_10 : decode cX4_pass 10 = .ok (.iconst 0, 1) := by decide +kernel
theorem dX4_pass_11 : decode cX4_pass 11 = .ok (.istore_n 1, 1) := by decide +kernel
theorem dX4_pass_12 : decode cX4_pass 12 = .ok (.iload_n 1, 1) := by decide +kernel
theorem dX4_pass_13 : decode cX4_pass 13 = .ok (.aload_n 0, 1) := by decide +kernel
theorem dX4_pass_14 : decode cX4_pass 14 = .ok (.getfield 38, 3) := by decide +kernel
theorem dX4_pass_17 : decode cX4_pass 17 = .ok (.if_icmp .ge 47, 3) := by decide +kernel
theorem dX4_pass_64 : decode cX4_pass 64 = .ok (.iconst 0, 1) := by decide +kernel
theorem dX4_pass_65 : decode cX4_pass 65 = .ok (.istore_n 1, 1) := by decide +kernel
theorem dX4_pass_66 : decode cX4_pass 66 = .ok (.iload_n 1, 1) := by decide +kernel
theorem dX4_pass_67 : decode cX4_pass 67 = .ok (.aload_n 0, 1) := by decide +kernel
theorem dX4_pass_68 : decode cX4_pass 68 = .ok (.getfield 38, 3) := by decide +kernel
theorem dX4_pass_71 : decode cX4_pass 71 = .ok (.if_icmp .ge 64, 3) := by decide +kernel
theorem dX4_pass_135 : decode cX4_pass 135 = .ok (.iconst 0, 1) := by decide +kernel
theorem dX4_pass_136 : decode cX4_pass 136 = .ok (.istore_n 1, 1) := by decide +kernel
theorem dX4_pass_137 : decode cX4_pass 137 = .ok (.iload_n 1, 1) := by decide +kernel
theorem dX4_pass_138 : decode cX4_pass 138 = .ok (.aload_n 0, 1) := by decide +kernel
theorem dX4_pass_139 : decode cX4_pass 139 = .ok (.getfield 38, 3) := by decide +kernel
theorem dX4_pass_142 : decode cX4_pass 142 = .ok (.if_icmp .ge 51, 3) := by decide +kernel
theorem dX4_pass_193 : decode cX4_pass 193 = .ok (.iconst 0, 1) := by decide +kernel
theorem dX4_pass_194 : decode cX4_pass 194 = .ok (.istore_n 1, 1) := by decide +kernel
theorem dX4_pass_195 : decode cX4_pass 195 = .ok (.iload_n 1, 1) := by decide +kernel
theorem dX4_pass_196 : decode cX4_pass 196 = .ok (.aload_n 0, 1) := by decide +kernel
theorem dX4_pass_197 : decode cX4_pass 197 = .ok (.getfield 38, 3) := by decide +kernel
theorem dX4_pass_200 : decode cX4_pass 200 = .ok (.if_icmp .ge 22, 3) := by decide +kernel
theorem dX4_pass_222 : decode cX4_pass 222 = .ok (.iconst 0, 1) := by decide +kernel
theorem dX4_pass_223 : decode cX4_pass 223 = .ok (.istore_n 1, 1) := by decide +kernel
theorem dX4_pass_224 : decode cX4_pass 224 = .ok (.iload_n 1, 1) := by decide +kernel
theorem dX4_pass_225 : decode cX4_pass 225 = .ok (.aload_n 0, 1) := by decide +kernel
theorem dX4_pass_226 : decode cX4_pass 226 = .ok (.getfield 38, 3) := by decide +kernel
theorem dX4_pass_229 : decode cX4_pass 229 = .ok (.if_icmp .ge 54, 3) := by decide +kernel
theorem dX4_pass_283 : decode cX4_pass 283 = .ok (.return_, 1) := by decide +kernel
set_option maxRecDepth 20000 in
theorem ggX4_report_X5_rear : GoodIn wsX4_report wsX5_rear := goodIn_r _ [4] (by decide +kernel) (by decide +kernel)
set_option maxRecDepth 20000 in
theorem gX4_report_X5_rear_n72 : GoodIn wsX4_report (wsX5_rear) := ggX4_report_X5_rear
theorem dX4_report_0 : decode cX4_report 0 = .ok (.aload_n 1, 1) := by decide +kernel
theorem dX4_report_1 : decode cX4_report 1 = .ok (.bipush 8, 2) := by decide +kernel
theorem dX4_report_3 : decode cX4_report 3 = .ok (.aload_n 1, 1) := by decide +kernel
theorem dX4_report_4 : decode cX4_report 4 = .ok (.iconst 0, 1) := by decide +kernel
theorem dX4_report_5 : decode cX4_report 5 = .ok (.iaload, 1) := by decide +kernel
theorem dX4_report_6 : decode cX4_report 6 = .ok (.iastore, 1) := by decide +kernel
theorem dX4_report_7 : decode cX4_report 7 = .ok (.aload_n 1, 1) := by decide +kernel
theorem dX4_report_8 : decode cX4_report 8 = .ok (.bipush 6, 2) := by decide +kernel
theorem dX4_report_10 : decode cX4_report 10 = .ok (.iaload, 1) := by decide +kernel
theorem dX4_report_11 : decode cX4_report 11 = .ok (.iconst 1, 1) := by decide +kernel
theorem dX4_report_12 : decode cX4_report 12 = .ok (.if_icmp .ne 11, 3) := by decide +kernel
theorem dX4_report_15 : decode cX4_report 15 = .ok (.aload_n 1, 1) := by decide +kernel
theorem dX4_report_16 : decode cX4_report 16 = .ok (.bipush 9, 2) := by decide +kernel
theorem dX4_report_18 : decode cX4_report 18 = .ok (.aload_n 1, 1) := by decide +kernel
theorem dX4_report_19 : decode cX4_report 19 = .ok (.invokestatic 72, 3) := by decide +kernel
theorem dX4_report_22 : decode cX4_report 22 = .ok (.iastore, 1) := by decide +kernel
theorem dX4_report_23 : decode cX4_report 23 = .ok (.aload_n 1, 1) := by decide +kernel
theorem dX4_report_24 : decode cX4_report 24 = .ok (.bipush 10, 2) := by decide +kernel
theorem dX4_report_26 : decode cX4_report 26 = .ok (.aload_n 0, 1) := by decide +kernel
theorem dX4_report_27 : decode cX4_report 27 = .ok (.getfield 45, 3) := by decide +kernel
theorem dX4_report_30 : decode cX4_report 30 = .ok (.iastore, 1) := by decide +kernel
theorem dX4_report_31 : decode cX4_report 31 = .ok (.return_, 1) := by decide +kernel
set_option maxRecDepth 20000 in
theorem ggX4_pass__X4_pass : GoodIn wsX4_pass_ wsX4_pass := goodIn_r _ [5, 6, 7, 8, 9, 10, 11, 4, 12, 13, 14, 15, 16, 17, 18, 19, 20, 21, 22, 23, 24, 25, 26, 27, 28, 29, 30, 31, 32, 33, 34, 35, 36, 37, 38, 39, 40, 41, 42, 43, 44, 45, 46, 47, 48, 49, 50, 51, 52, 53, 54, 55, 56, 57, 58, 59, 60, 61, 62, 63, 64, 65, 66, 67, 68, 69, 70, 71, 72, 73, 74, 75, 76, 77, 78, 79, 80, 81, 82, 83, 84, 85, 86, 87, 88, 89, 90, 91, 92, 93, 94, 95, 96, 97, 98, 99, 100, 101, 102, 103, 104, 105, 106, 107, 108, 109, 110, 111, 112, 113, 114, 115, 116, 117, 118, 119, 120, 121, 122] (by decide +kernel) (by decide +kernel)
set_option maxRecDepth 20000 in
theorem gX4_pass__X4_pass : GoodIn wsX4_pass_ (wsV RX4 127 RX4 yX4_pass wsX4_pass) := goodIn_app (goodIn_of _ (by decide +kernel)) ggX4_pass__X4_pass
theorem dX4_pass__0 : decode cX4_pass_ 0 = .ok (.iconst 0, 1) := by decide +kernel
theorem dX4_pass__1 : decode cX4_pass_ 1 = .ok (.istore_n 2, 1) := by decide +kernel
theorem dX4_pass__2 : decode cX4_pass_ 2 = .ok (.iload_n 2, 1) := by decide +kernel
theorem dX4_pass__3 : decode cX4_pass_ 3 = .ok (.iload_n 1, 1) := by decide +kernel
theorem dX4_pass__4 : decode cX4_pass_ 4 = .ok (.if_icmp .ge 13, 3) := by decide +kernel
theorem dX4_pass__7 : decode cX4_pass_ 7 = .ok (.aload_n 0, 1) := by decide +kernel
theorem dX4_pass__8 : decode cX4_pass_ 8 = .ok (.invokevirtual 127, 3) := by decide +kernel
theorem dX4_pass__11 : decode cX4_pass_ 11 = .ok (.iinc 2 1, 3) := by decide +kernel
theorem dX4_pass__14 : decode cX4_pass_ 14 = .ok (.goto (-12), 3) := by decide +kernel
theorem dX4_pass__17 : decode cX4_pass_ 17 = .ok (.return_, 1) := by decide +kernel
theorem dX4_hinders_0 : decode cX4_hinders 0 = .ok (.iconst 0, 1) := by decide +kernel
theorem dX4_hinders_1 : decode cX4_hinders 1 = .ok (.istore_n 3, 1) := by decide +kernel
theorem dX4_hinders_2 : decode cX4_hinders 2 = .ok (.iconst 0, 1) := by decide +kernel
theorem dX4_hinders_3 : decode cX4_hinders 3 = .ok (.istore 4, 2) := by decide +kernel
theorem dX4_hinders_5 : decode cX4_hinders 5 = .ok (.iload 4, 2) := by decide +kernel
theorem dX4_hinders_7 : decode cX4_hinders 7 = .ok (.aload_n 0, 1) := by decide +kernel
theorem dX4_hinders_8 : decode cX4_hinders 8 = .ok (.getfield 38, 3) := by decide +kernel
theorem dX4_hinders_11 : decode cX4_hinders 11 = .ok (.if_icmp .ge 74, 3) := by decide +kernel
theorem dX4_hinders_85 : decode cX4_hinders 85 = .ok (.iload_n 3, 1) := by decide +kernel
theorem dX4_hinders_86 : decode cX4_hinders 86 = .ok (.ifCond .eq 8, 3) := by decide +kernel
theorem dX4_hinders_94 : decode cX4_hinders 94 = .ok (.iconst 0, 1) := by decide +kernel
theorem dX4_hinders_95 : decode cX4_hinders 95 = .ok (.ireturn, 1) := by decide +kernel
theorem dX4_sum_0 : decode cX4_sum 0 = .ok (.iconst 0, 1) := by decide +kernel
theorem dX4_sum_1 : decode cX4_sum 1 = .ok (.istore_n 2, 1) := by decide +kernel
theorem dX4_sum_2 : decode cX4_sum 2 = .ok (.iconst 0, 1) := by decide +kernel
theorem dX4_sum_3 : decode cX4_sum 3 = .ok (.istore_n 3, 1) := by decide +kernel
theorem dX4_sum_4 : decode cX4_sum 4 = .ok (.iload_n 3, 1) := by decide +kernel
theorem dX4_sum_5 : decode cX4_sum 5 = .ok (.aload_n 0, 1) := by decide +kernel
theorem dX4_sum_6 : decode cX4_sum 6 = .ok (.getfield 38, 3) := by decide +kernel
theorem dX4_sum_9 : decode cX4_sum 9 = .ok (.if_icmp .ge 20, 3) := by decide +kernel
theorem dX4_sum_29 : decode cX4_sum 29 = .ok (.iload_n 2, 1) := by decide +kernel
theorem dX4_sum_30 : decode cX4_sum 30 = .ok (.ireturn, 1) := by decide +kernel
set_option maxRecDepth 20000 in
theorem ggX5_init_X4_init : GoodIn wsX5_init wsX4_init := goodIn_r _ [10, 11, 2, 3, 12, 13, 14, 15, 16, 17, 18, 19, 20, 21, 22, 23, 24, 25, 26, 27, 28, 29, 30, 31, 32, 33, 34, 35, 36, 37, 38, 39, 40, 41, 42, 46, 47, 48] (by decide +kernel) (by decide +kernel)
set_option maxRecDepth 20000 in
theorem gX5_init_X4_init : GoodIn wsX5_init (wsX4_init) := ggX5_init_X4_init
theorem dX5_init_0 : decode cX5_init 0 = .ok (.aload_n 0, 1) := by decide +kernel
theorem dX5_init_1 : decode cX5_init 1 = .ok (.invokespecial 1, 3) := by decide +kernel
theorem dX5_init_4 : decode cX5_init 4 = .ok (.aload_n 0, 1) := by decide +kernel
theorem dX5_init_5 : decode cX5_init 5 = .ok (.new 7, 3) := by decide +kernel
theorem dX5_init_8 : decode cX5_init 8 = .ok (.dup, 1) := by decide +kernel
theorem dX5_init_9 : decode cX5_init 9 = .ok (.invokespecial 9, 3) := by decide +kernel
theorem dX5_init_12 : decode cX5_init 12 = .ok (.putfield 10, 3) := by decide +kernel
theorem dX5_init_15 : decode cX5_init 15 = .ok (.return_, 1) := by decide +kernel
theorem dX5_thrown_0 : decode cX5_thrown 0 = .ok (.aload_n 0, 1) := by decide +kernel
theorem dX5_thrown_1 : decode cX5_thrown 1 = .ok (.getfield 16, 3) := by decide +kernel
theorem dX5_thrown_4 : decode cX5_thrown 4 = .ok (.ireturn, 1) := by decide +kernel
theorem dX5_refuse_0 : decode cX5_refuse 0 = .ok (.aload_n 0, 1) := by decide +kernel
theorem dX5_refuse_1 : decode cX5_refuse 1 = .ok (.iload_n 1, 1) := by decide +kernel
theorem dX5_refuse_2 : decode cX5_refuse 2 = .ok (.putfield 16, 3) := by decide +kernel
theorem dX5_refuse_5 : decode cX5_refuse 5 = .ok (.iconst 0, 1) := by decide +kernel
theorem dX5_refuse_6 : decode cX5_refuse 6 = .ok (.ireturn, 1) := by decide +kernel
theorem dX5_is_0 : decode cX5_is 0 = .ok (.iload_n 0, 1) := by decide +kernel
theorem dX5_is_1 : decode cX5_is 1 = .ok (.iload_n 1, 1) := by decide +kernel
theorem dX5_is_2 : decode cX5_is 2 = .ok (.if_icmp .lt 12, 3) := by decide +kernel
theorem dX5_is_5 : decode cX5_is 5 = .ok (.iload_n 0, 1) := by decide +kernel
theorem dX5_is_6 : decode cX5_is 6 = .ok (.iload_n 2, 1) := by decide +kernel
theorem dX5_is_7 : decode cX5_is 7 = .ok (.if_icmp .gt 7, 3) := by decide +kernel
theorem dX5_is_10 : decode cX5_is 10 = .ok (.iconst 1, 1) := by decide +kernel
theorem dX5_is_11 : decode cX5_is 11 = .ok (.goto 4, 3) := by decide +kernel
theorem dX5_is_14 : decode cX5_is 14 = .ok (.iconst 0, 1) := by decide +kernel
theorem dX5_is_15 : decode cX5_is 15 = .ok (.ireturn, 1) := by decide +kernel
theorem dX5_rear_0 : decode cX5_rear 0 = .ok (.aload_n 0, 1) := by decide +kernel
theorem dX5_rear_1 : decode cX5_rear 1 = .ok (.iconst 0, 1) := by decide +kernel
theorem dX5_rear_2 : decode cX5_rear 2 = .ok (.iaload, 1) := by decide +kernel
theorem dX5_rear_3 : decode cX5_rear 3 = .ok (.aload_n 0, 1) := by decide +kernel
theorem dX5_rear_4 : decode cX5_rear 4 = .ok (.iconst 1, 1) := by decide +kernel
theorem dX5_rear_5 : decode cX5_rear 5 = .ok (.iaload, 1) := by decide +kernel
theorem dX5_rear_6 : decode cX5_rear 6 = .ok (.isub, 1) := by decide +kernel
theorem dX5_rear_7 : decode cX5_rear 7 = .ok (.iconst 1, 1) := by decide +kernel
theorem dX5_rear_8 : decode cX5_rear 8 = .ok (.iadd, 1) := by decide +kernel
theorem dX5_rear_9 : decode cX5_rear 9 = .ok (.ireturn, 1) := by decide +kernel
set_option maxRecDepth 20000 in
theorem ggX5_isSection_X5_is : GoodIn wsX5_isSection wsX5_is := goodIn_r _ [4] (by decide +kernel) (by decide +kernel)
set_option maxRecDepth 20000 in
theorem gX5_isSection_X5_is : GoodIn wsX5_isSection (va_wsS RX5 26 yX5_is wsX5_is) := goodIn_app (goodIn_of _ (by decide +kernel)) ggX5_isSection_X5_is
theorem dX5_isSection_0 : decode cX5_isSection 0 = .ok (.iload_n 0, 1) := by decide +kernel
theorem dX5_isSection_1 : decode cX5_isSection 1 = .ok (.iconst 0, 1) := by decide +kernel
theorem dX5_isSection_2 : decode cX5_isSection 2 = .ok (.bipush 19, 2) := by decide +kernel
theorem dX5_isSection_4 : decode cX5_isSection 4 = .ok (.invokestatic 26, 3) := by decide +kernel
theorem dX5_isSection_7 : decode cX5_isSection 7 = .ok (.ireturn, 1) := by decide +kernel
set_option maxRecDepth 20000 in
theorem ggX5_isTrain_X5_is : GoodIn wsX5_isTrain wsX5_is := goodIn_r _ [5] (by decide +kernel) (by decide +kernel)
set_option maxRecDepth 20000 in
theorem gX5_isTrain_X5_is : GoodIn wsX5_isTrain (va_wsS RX5 26 yX5_is wsX5_is) := goodIn_app (goodIn_of _ (by decide +kernel)) ggX5_isTrain_X5_is
theorem dX5_isTrain_0 : decode cX5_isTrain 0 = .ok (.iload_n 1, 1) := by decide +kernel
theorem dX5_isTrain_1 : decode cX5_isTrain 1 = .ok (.iconst 0, 1) := by decide +kernel
theorem dX5_isTrain_2 : decode cX5_isTrain 2 = .ok (.aload_n 0, 1) := by decide +kernel
theorem dX5_isTrain_3 : decode cX5_isTrain 3 = .ok (.getfield 10, 3) := by decide +kernel
theorem dX5_isTrain_6 : decode cX5_isTrain 6 = .ok (.getfield 30, 3) := by decide +kernel
theorem dX5_isTrain_9 : decode cX5_isTrain 9 = .ok (.iconst 1, 1) := by decide +kernel
theorem dX5_isTrain_10 : decode cX5_isTrain 10 = .ok (.isub, 1) := by decide +kernel
theorem dX5_isTrain_11 : decode cX5_isTrain 11 = .ok (.invokestatic 26, 3) := by decide +kernel
theorem dX5_isTrain_14 : decode cX5_isTrain 14 = .ok (.ireturn, 1) := by decide +kernel
set_option maxRecDepth 20000 in
theorem ggX5_isStation_X5_is : GoodIn wsX5_isStation wsX5_is := goodIn_r _ [5] (by decide +kernel) (by decide +kernel)
set_option maxRecDepth 20000 in
theorem gX5_isStation_X5_is : GoodIn wsX5_isStation (va_wsS RX5 26 yX5_is wsX5_is) := goodIn_app (goodIn_of _ (by decide +kernel)) ggX5_isStation_X5_is
theorem dX5_isStation_0 : decode cX5_isStation 0 = .ok (.iload_n 1, 1) := by decide +kernel
theorem dX5_isStation_1 : decode cX5_isStation 1 = .ok (.iconst 0, 1) := by decide +kernel
theorem dX5_isStation_2 : decode cX5_isStation 2 = .ok (.aload_n 0, 1) := by decide +kernel
theorem dX5_isStation_3 : decode cX5_isStation 3 = .ok (.getfield 10, 3) := by decide +kernel
theorem dX5_isStation_6 : decode cX5_isStation 6 = .ok (.getfield 33, 3) := by decide +kernel
theorem dX5_isStation_9 : decode cX5_isStation 9 = .ok (.iconst 1, 1) := by decide +kernel
theorem dX5_isStation_10 : decode cX5_isStation 10 = .ok (.isub, 1) := by decide +kernel
theorem dX5_isStation_11 : decode cX5_isStation 11 = .ok (.invokestatic 26, 3) := by decide +kernel
theorem dX5_isStation_14 : decode cX5_isStation 14 = .ok (.ireturn, 1) := by decide +kernel
set_option maxRecDepth 20000 in
theorem ggX5_isLimit_X5_is : GoodIn wsX5_isLimit wsX5_is := goodIn_r _ [4] (by decide +kernel) (by decide +kernel)
set_option maxRecDepth 20000 in
theorem gX5_isLimit_X5_is : GoodIn wsX5_isLimit (va_wsS RX5 26 yX5_is wsX5_is) := goodIn_app (goodIn_of _ (by decide +kernel)) ggX5_isLimit_X5_is
theorem dX5_isLimit_0 : decode cX5_isLimit 0 = .ok (.iload_n 0, 1) := by decide +kernel
theorem dX5_isLimit_1 : decode cX5_isLimit 1 = .ok (.iconst 1, 1) := by decide +kernel
theorem dX5_isLimit_2 : decode cX5_isLimit 2 = .ok (.bipush 40, 2) := by decide +kernel
theorem dX5_isLimit_4 : decode cX5_isLimit 4 = .ok (.invokestatic 26, 3) := by decide +kernel
theorem dX5_isLimit_7 : decode cX5_isLimit 7 = .ok (.ireturn, 1) := by decide +kernel
set_option maxRecDepth 20000 in
theorem ggX5_section_X5_isSection : GoodIn wsX5_section wsX5_isSection := goodIn_r _ [6, 7, 8, 5, 9] (by decide +kernel) (by decide +kernel)
set_option maxRecDepth 20000 in
theorem gX5_section_X5_isSection : GoodIn wsX5_section (va_wsS RX5 36 yX5_isSection wsX5_isSection) := goodIn_app (goodIn_of _ (by decide +kernel)) ggX5_section_X5_isSection
set_option maxRecDepth 20000 in
theorem ggX5_section_X5_refuse : GoodIn wsX5_section wsX5_refuse := goodIn_r _ [13, 1, 17, 18, 19] (by decide +kernel) (by decide +kernel)
set_option maxRecDepth 20000 in
theorem gX5_section_X5_refuse : GoodIn wsX5_section (wsV RX5 40 RX5 yX5_refuse wsX5_refuse) := goodIn_app (goodIn_of _ (by decide +kernel)) ggX5_section_X5_refuse
set_option maxRecDepth 20000 in
theorem ggX5_section_X5_isLimit : GoodIn wsX5_section wsX5_isLimit := goodIn_r _ [16, 7, 8, 5, 9] (by decide +kernel) (by decide +kernel)
set_option maxRecDepth 20000 in
theorem gX5_section_X5_isLimit : GoodIn wsX5_section (va_wsS RX5 44 yX5_isLimit wsX5_isLimit) := goodIn_app (goodIn_of _ (by decide +kernel)) ggX5_section_X5_isLimit
set_option maxRecDepth 20000 in
theorem ggX5_section_X5_is : GoodIn wsX5_section wsX5_is := goodIn_r _ [9] (by decide +kernel) (by decide +kernel)
set_option maxRecDepth 20000 in
theorem gX5_section_X5_is : GoodIn wsX5_section (va_wsS RX5 26 yX5_is wsX5_is) := goodIn_app (goodIn_of _ (by decide +kernel)) ggX5_section_X5_is
theorem dX5_section_0 : decode cX5_section 0 = .ok (.aload_n 0, 1) := by decide +kernel
theorem dX5_section_1 : decode cX5_section 1 = .ok (.iconst 0, 1) := by decide +kernel
theorem dX5_section_2 : decode cX5_section 2 = .ok (.putfield 16, 3) := by decide +kernel
theorem dX5_section_5 : decode cX5_section 5 = .ok (.iload_n 1, 1) := by decide +kernel
theorem dX5_section_6 : decode cX5_section 6 = .ok (.invokestatic 36, 3) := by decide +kernel
theorem dX5_section_9 : decode cX5_section 9 = .ok (.ifCond .ne 9, 3) := by decide +kernel
theorem dX5_section_12 : decode cX5_section 12 = .ok (.aload_n 0, 1) := by decide +kernel
theorem dX5_section_13 : decode cX5_section 13 = .ok (.iconst 1, 1) := by decide +kernel
theorem dX5_section_14 : decode cX5_section 14 = .ok (.invokevirtual 40, 3) := by decide +kernel
theorem dX5_section_17 : decode cX5_section 17 = .ok (.ireturn, 1) := by decide +kernel
theorem dX5_section_18 : decode cX5_section 18 = .ok (.iload_n 2, 1) := by decide +kernel
theorem dX5_section_19 : decode cX5_section 19 = .ok (.invokestatic 44, 3) := by decide +kernel
theorem dX5_section_22 : decode cX5_section 22 = .ok (.ifCond .eq 13, 3) := by decide +kernel
theorem dX5_section_25 : decode cX5_section 25 = .ok (.iload_n 3, 1) := by decide +kernel
theorem dX5_section_26 : decode cX5_section 26 = .ok (.bipush (-2), 2) := by decide +kernel
theorem dX5_section_28 : decode cX5_section 28 = .ok (.iconst 2, 1) := by decide +kernel
theorem dX5_section_29 : decode cX5_section 29 = .ok (.invokestatic 26, 3) := by decide +kernel
theorem dX5_section_32 : decode cX5_section 32 = .ok (.ifCond .ne 9, 3) := by decide +kernel
theorem dX5_section_35 : decode cX5_section 35 = .ok (.aload_n 0, 1) := by decide +kernel
theorem dX5_section_36 : decode cX5_section 36 = .ok (.iconst 2, 1) := by decide +kernel
theorem dX5_section_37 : decode cX5_section 37 = .ok (.invokevirtual 40, 3) := by decide +kernel
theorem dX5_section_40 : decode cX5_section 40 = .ok (.ireturn, 1) := by decide +kernel
theorem dX5_section_41 : decode cX5_section 41 = .ok (.aload_n 0, 1) := by decide +kernel
theorem dX5_section_42 : decode cX5_section 42 = .ok (.getfield 10, 3) := by decide +kernel
theorem dX5_section_45 : decode cX5_section 45 = .ok (.getfield 47, 3) := by decide +kernel
theorem dX5_section_48 : decode cX5_section 48 = .ok (.iload_n 1, 1) := by decide +kernel
theorem dX5_section_49 : decode cX5_section 49 = .ok (.aaload, 1) := by decide +kernel
theorem dX5_section_50 : decode cX5_section 50 = .ok (.iconst 0, 1) := by decide +kernel
theorem dX5_section_51 : decode cX5_section 51 = .ok (.iaload, 1) := by decide +kernel
theorem dX5_section_52 : decode cX5_section 52 = .ok (.istore 5, 2) := by decide +kernel
theorem dX5_section_54 : decode cX5_section 54 = .ok (.aload_n 0, 1) := by decide +kernel
theorem dX5_section_55 : decode cX5_section 55 = .ok (.getfield 10, 3) := by decide +kernel
theorem dX5_section_58 : decode cX5_section 58 = .ok (.getfield 47, 3) := by decide +kernel
theorem dX5_section_61 : decode cX5_section 61 = .ok (.iload_n 1, 1) := by decide +kernel
theorem dX5_section_62 : decode cX5_section 62 = .ok (.aaload, 1) := by decide +kernel
theorem dX5_section_63 : decode cX5_section 63 = .ok (.iconst 0, 1) := by decide +kernel
theorem dX5_section_64 : decode cX5_section 64 = .ok (.iload_n 2, 1) := by decide +kernel
theorem dX5_section_65 : decode cX5_section 65 = .ok (.iastore, 1) := by decide +kernel
theorem dX5_section_66 : decode cX5_section 66 = .ok (.aload_n 0, 1) := by decide +kernel
theorem dX5_section_67 : decode cX5_section 67 = .ok (.getfield 10, 3) := by decide +kernel
theorem dX5_section_70 : decode cX5_section 70 = .ok (.getfield 47, 3) := by decide +kernel
theorem dX5_section_73 : decode cX5_section 73 = .ok (.iload_n 1, 1) := by decide +kernel
theorem dX5_section_74 : decode cX5_section 74 = .ok (.aaload, 1) := by decide +kernel
theorem dX5_section_75 : decode cX5_section 75 = .ok (.iconst 1, 1) := by decide +kernel
theorem dX5_section_76 : decode cX5_section 76 = .ok (.iload_n 3, 1) := by decide +kernel
theorem dX5_section_77 : decode cX5_section 77 = .ok (.iastore, 1) := by decide +kernel
theorem dX5_section_78 : decode cX5_section 78 = .ok (.aload_n 0, 1) := by decide +kernel
theorem dX5_section_79 : decode cX5_section 79 = .ok (.getfield 10, 3) := by decide +kernel
theorem dX5_section_82 : decode cX5_section 82 = .ok (.getfield 47, 3) := by decide +kernel
theorem dX5_section_85 : decode cX5_section 85 = .ok (.iload_n 1, 1) := by decide +kernel
theorem dX5_section_86 : decode cX5_section 86 = .ok (.aaload, 1) := by decide +kernel
theorem dX5_section_87 : decode cX5_section 87 = .ok (.iconst 2, 1) := by decide +kernel
theorem dX5_section_88 : decode cX5_section 88 = .ok (.iload 4, 2) := by decide +kernel
theorem dX5_section_90 : decode cX5_section 90 = .ok (.ifCond .eq 7, 3) := by decide +kernel
theorem dX5_section_93 : decode cX5_section 93 = .ok (.iconst 1, 1) := by decide +kernel
theorem dX5_section_94 : decode cX5_section 94 = .ok (.goto 4, 3) := by decide +kernel
theorem dX5_section_97 : decode cX5_section 97 = .ok (.iconst 0, 1) := by decide +kernel
theorem dX5_section_98 : decode cX5_section 98 = .ok (.iastore, 1) := by decide +kernel
theorem dX5_section_99 : decode cX5_section 99 = .ok (.iload 5, 2) := by decide +kernel
theorem dX5_section_101 : decode cX5_section 101 = .ok (.ireturn, 1) := by decide +kernel
theorem dX5_isRunning_0 : decode cX5_isRunning 0 = .ok (.iconst 0, 1) := by decide +kernel
theorem dX5_isRunning_1 : decode cX5_isRunning 1 = .ok (.istore_n 1, 1) := by decide +kernel
theorem dX5_isRunning_2 : decode cX5_isRunning 2 = .ok (.iconst 0, 1) := by decide +kernel
theorem dX5_isRunning_3 : decode cX5_isRunning 3 = .ok (.istore_n 2, 1) := by decide +kernel
theorem dX5_isRunning_4 : decode cX5_isRunning 4 = .ok (.iload_n 2, 1) := by decide +kernel
theorem dX5_isRunning_5 : decode cX5_isRunning 5 = .ok (.aload_n 0, 1) := by decide +kernel
theorem dX5_isRunning_6 : decode cX5_isRunning 6 = .ok (.getfield 10, 3) := by decide +kernel
theorem dX5_isRunning_9 : decode cX5_isRunning 9 = .ok (.getfield 30, 3) := by decide +kernel
theorem dX5_isRunning_12 : decode cX5_isRunning 12 = .ok (.if_icmp .ge 20, 3) := by decide +kernel
theorem dX5_isRunning_32 : decode cX5_isRunning 32 = .ok (.iload_n 1, 1) := by decide +kernel
theorem dX5_isRunning_33 : decode cX5_isRunning 33 = .ok (.ireturn, 1) := by decide +kernel
set_option maxRecDepth 20000 in
theorem ggX5_station_X5_is : GoodIn wsX5_station wsX5_is := goodIn_r _ [6] (by decide +kernel) (by decide +kernel)
set_option maxRecDepth 20000 in
theorem gX5_station_X5_is : GoodIn wsX5_station (va_wsS RX5 26 yX5_is wsX5_is) := goodIn_app (goodIn_of _ (by decide +kernel)) ggX5_station_X5_is
set_option maxRecDepth 20000 in
theorem ggX5_station_X5_refuse : GoodIn wsX5_station wsX5_refuse := goodIn_r _ [10, 1, 21, 22, 23] (by decide +kernel) (by decide +kernel)
set_option maxRecDepth 20000 in
theorem gX5_station_X5_refuse : GoodIn wsX5_station (wsV RX5 40 RX5 yX5_refuse wsX5_refuse) := goodIn_app (goodIn_of _ (by decide +kernel)) ggX5_station_X5_refuse
set_option maxRecDepth 20000 in
theorem ggX5_station_X5_isRunning : GoodIn wsX5_station wsX5_isRunning := goodIn_r _ [14, 2, 15, 16, 17, 18, 19, 20, 21, 22, 23, 24, 25, 26, 27, 28, 29, 30] (by decide +kernel) (by decide +kernel)
set_option maxRecDepth 20000 in
theorem gX5_station_X5_isRunning : GoodIn wsX5_station (wsV RX5 57 RX5 yX5_isRunning wsX5_isRunning) := goodIn_app (goodIn_of _ (by decide +kernel)) ggX5_station_X5_isRunning
theorem dX5_station_0 : decode cX5_station 0 = .ok (.aload_n 0, 1) := by decide +kernel
theorem dX5_station_1 : decode cX5_station 1 = .ok (.iconst 0, 1) := by decide +kernel
theorem dX5_station_2 : decode cX5_station 2 = .ok (.putfield 16, 3) := by decide +kernel
theorem dX5_station_5 : decode cX5_station 5 = .ok (.iconst 0, 1) := by decide +kernel
theorem dX5_station_6 : decode cX5_station 6 = .ok (.istore_n 3, 1) := by decide +kernel
theorem dX5_station_7 : decode cX5_station 7 = .ok (.iconst 0, 1) := by decide +kernel
theorem dX5_station_8 : decode cX5_station 8 = .ok (.istore 4, 2) := by decide +kernel
theorem dX5_station_10 : decode cX5_station 10 = .ok (.iload 4, 2) := by decide +kernel
theorem dX5_station_12 : decode cX5_station 12 = .ok (.aload_n 0, 1) := by decide +kernel
theorem dX5_station_13 : decode cX5_station 13 = .ok (.getfield 10, 3) := by decide +kernel
theorem dX5_station_16 : decode cX5_station 16 = .ok (.getfield 33, 3) := by decide +kernel
theorem dX5_station_19 : decode cX5_station 19 = .ok (.if_icmp .ge 33, 3) := by decide +kernel
theorem dX5_station_52 : decode cX5_station 52 = .ok (.iload_n 1, 1) := by decide +kernel
theorem dX5_station_53 : decode cX5_station 53 = .ok (.iconst 0, 1) := by decide +kernel
theorem dX5_station_54 : decode cX5_station 54 = .ok (.sipush 2999, 3) := by decide +kernel
theorem dX5_station_57 : decode cX5_station 57 = .ok (.invokestatic 26, 3) := by decide +kernel
theorem dX5_station_60 : decode cX5_station 60 = .ok (.ifCond .eq 17, 3) := by decide +kernel
theorem dX5_station_63 : decode cX5_station 63 = .ok (.iload_n 3, 1) := by decide +kernel
theorem dX5_station_64 : decode cX5_station 64 = .ok (.ifCond .ne 13, 3) := by decide +kernel
theorem dX5_station_67 : decode cX5_station 67 = .ok (.iload_n 2, 1) := by decide +kernel
theorem dX5_station_68 : decode cX5_station 68 = .ok (.iconst 0, 1) := by decide +kernel
theorem dX5_station_69 : decode cX5_station 69 = .ok (.bipush 60, 2) := by decide +kernel
theorem dX5_station_71 : decode cX5_station 71 = .ok (.invokestatic 26, 3) := by decide +kernel
theorem dX5_station_74 : decode cX5_station 74 = .ok (.ifCond .ne 9, 3) := by decide +kernel
theorem dX5_station_77 : decode cX5_station 77 = .ok (.aload_n 0, 1) := by decide +kernel
theorem dX5_station_78 : decode cX5_station 78 = .ok (.iconst 1, 1) := by decide +kernel
theorem dX5_station_79 : decode cX5_station 79 = .ok (.invokevirtual 40, 3) := by decide +kernel
theorem dX5_station_82 : decode cX5_station 82 = .ok (.ireturn, 1) := by decide +kernel
theorem dX5_station_83 : decode cX5_station 83 = .ok (.aload_n 0, 1) := by decide +kernel
theorem dX5_station_84 : decode cX5_station 84 = .ok (.getfield 10, 3) := by decide +kernel
theorem dX5_station_87 : decode cX5_station 87 = .ok (.getfield 33, 3) := by decide +kernel
theorem dX5_station_90 : decode cX5_station 90 = .ok (.iconst 4, 1) := by decide +kernel
theorem dX5_station_91 : decode cX5_station 91 = .ok (.if_icmp .eq 10, 3) := by decide +kernel
theorem dX5_station_94 : decode cX5_station 94 = .ok (.aload_n 0, 1) := by decide +kernel
theorem dX5_station_95 : decode cX5_station 95 = .ok (.invokevirtual 57, 3) := by decide +kernel
theorem dX5_station_98 : decode cX5_station 98 = .ok (.ifCond .eq 9, 3) := by decide +kernel
theorem dX5_station_107 : decode cX5_station 107 = .ok (.aload_n 0, 1) := by decide +kernel
theorem dX5_station_108 : decode cX5_station 108 = .ok (.getfield 10, 3) := by decide +kernel
theorem dX5_station_111 : decode cX5_station 111 = .ok (.getfield 54, 3) := by decide +kernel
theorem dX5_station_114 : decode cX5_station 114 = .ok (.aload_n 0, 1) := by decide +kernel
theorem dX5_station_115 : decode cX5_station 115 = .ok (.getfield 10, 3) := by decide +kernel
theorem dX5_station_118 : decode cX5_station 118 = .ok (.getfield 33, 3) := by decide +kernel
theorem dX5_station_121 : decode cX5_station 121 = .ok (.aaload, 1) := by decide +kernel
theorem dX5_station_122 : decode cX5_station 122 = .ok (.iconst 0, 1) := by decide +kernel
theorem dX5_station_123 : decode cX5_station 123 = .ok (.iload_n 1, 1) := by decide +kernel
theorem dX5_station_124 : decode cX5_station 124 = .ok (.iastore, 1) := by decide +kernel
theorem dX5_station_125 : decode cX5_station 125 = .ok (.aload_n 0, 1) := by decide +kernel
theorem dX5_station_126 : decode cX5_station 126 = .ok (.getfield 10, 3) := by decide +kernel
theorem dX5_station_129 : decode cX5_station 129 = .ok (.getfield 54, 3) := by decide +kernel
theorem dX5_station_132 : decode cX5_station 132 = .ok (.aload_n 0, 1) := by decide +kernel
theorem dX5_station_133 : decode cX5_station 133 = .ok (.getfield 10, 3) := by decide +kernel
theorem dX5_station_136 : decode cX5_station 136 = .ok (.getfield 33, 3) := by decide +kernel
theorem dX5_station_139 : decode cX5_station 139 = .ok (.aaload, 1) := by decide +kernel
theorem dX5_station_140 : decode cX5_station 140 = .ok (.iconst 1, 1) := by decide +kernel
theorem dX5_station_141 : decode cX5_station 141 = .ok (.iload_n 2, 1) := by decide +kernel
theorem dX5_station_142 : decode cX5_station 142 = .ok (.iastore, 1) := by decide +kernel
theorem dX5_station_143 : decode cX5_station 143 = .ok (.aload_n 0, 1) := by decide +kernel
theorem dX5_station_144 : decode cX5_station 144 = .ok (.getfield 10, 3) := by decide +kernel
theorem dX5_station_147 : decode cX5_station 147 = .ok (.dup, 1) := by decide +kernel
theorem dX5_station_148 : decode cX5_station 148 = .ok (.getfield 33, 3) := by decide +kernel
theorem dX5_station_151 : decode cX5_station 151 = .ok (.iconst 1, 1) := by decide +kernel
theorem dX5_station_152 : decode cX5_station 152 = .ok (.iadd, 1) := by decide +kernel
theorem dX5_station_153 : decode cX5_station 153 = .ok (.putfield 33, 3) := by decide +kernel
theorem dX5_station_156 : decode cX5_station 156 = .ok (.aload_n 0, 1) := by decide +kernel
theorem dX5_station_157 : decode cX5_station 157 = .ok (.getfield 10, 3) := by decide +kernel
theorem dX5_station_160 : decode cX5_station 160 = .ok (.getfield 33, 3) := by decide +kernel
theorem dX5_station_163 : decode cX5_station 163 = .ok (.iconst 1, 1) := by decide +kernel
theorem dX5_station_164 : decode cX5_station 164 = .ok (.isub, 1) := by decide +kernel
theorem dX5_station_165 : decode cX5_station 165 = .ok (.ireturn, 1) := by decide +kernel
set_option maxRecDepth 20000 in
theorem ggX5_train_X5_is : GoodIn wsX5_train wsX5_is := goodIn_r _ [6] (by decide +kernel) (by decide +kernel)
set_option maxRecDepth 20000 in
theorem gX5_train_X5_is : GoodIn wsX5_train (va_wsS RX5 26 yX5_is wsX5_is) := goodIn_app (goodIn_of _ (by decide +kernel)) ggX5_train_X5_is
set_option maxRecDepth 20000 in
theorem ggX5_train_X5_refuse : GoodIn wsX5_train wsX5_refuse := goodIn_r _ [10, 1, 25, 26, 27] (by decide +kernel) (by decide +kernel)
set_option maxRecDepth 20000 in
theorem gX5_train_X5_refuse : GoodIn wsX5_train (wsV RX5 40 RX5 yX5_refuse wsX5_refuse) := goodIn_app (goodIn_of _ (by decide +kernel)) ggX5_train_X5_refuse
set_option maxRecDepth 20000 in
theorem ggX5_train_X4_report : GoodIn wsX5_train wsX4_report := goodIn_r _ [23, 24, 18, 5, 19, 28, 29, 30, 31, 32, 33, 34] (by decide +kernel) (by decide +kernel)
set_option maxRecDepth 20000 in
theorem gX5_train_X4_report : GoodIn wsX5_train (wsV RX5 71 RX4 yX4_report wsX4_report) := goodIn_app (goodIn_of _ (by decide +kernel)) ggX5_train_X4_report
theorem dX5_train_0 : decode cX5_train 0 = .ok (.aload_n 0, 1) := by decide +kernel
theorem dX5_train_1 : decode cX5_train 1 = .ok (.iconst 0, 1) := by decide +kernel
theorem dX5_train_2 : decode cX5_train 2 = .ok (.putfield 16, 3) := by decide +kernel
theorem dX5_train_5 : decode cX5_train 5 = .ok (.iload_n 1, 1) := by decide +kernel
theorem dX5_train_6 : decode cX5_train 6 = .ok (.bipush 20, 2) := by decide +kernel
theorem dX5_train_8 : decode cX5_train 8 = .ok (.sipush 200, 3) := by decide +kernel
theorem dX5_train_11 : decode cX5_train 11 = .ok (.invokestatic 26, 3) := by decide +kernel
theorem dX5_train_14 : decode cX5_train 14 = .ok (.ifCond .eq 21, 3) := by decide +kernel
theorem dX5_train_17 : decode cX5_train 17 = .ok (.iload_n 2, 1) := by decide +kernel
theorem dX5_train_18 : decode cX5_train 18 = .ok (.iconst 1, 1) := by decide +kernel
theorem dX5_train_19 : decode cX5_train 19 = .ok (.iconst 4, 1) := by decide +kernel
theorem dX5_train_20 : decode cX5_train 20 = .ok (.invokestatic 26, 3) := by decide +kernel
theorem dX5_train_23 : decode cX5_train 23 = .ok (.ifCond .eq 12, 3) := by decide +kernel
theorem dX5_train_26 : decode cX5_train 26 = .ok (.iload_n 3, 1) := by decide +kernel
theorem dX5_train_27 : decode cX5_train 27 = .ok (.iconst 1, 1) := by decide +kernel
theorem dX5_train_28 : decode cX5_train 28 = .ok (.iconst 3, 1) := by decide +kernel
theorem dX5_train_29 : decode cX5_train 29 = .ok (.invokestatic 26, 3) := by decide +kernel
theorem dX5_train_32 : decode cX5_train 32 = .ok (.ifCond .ne 9, 3) := by decide +kernel
theorem dX5_train_35 : decode cX5_train 35 = .ok (.aload_n 0, 1) := by decide +kernel
theorem dX5_train_36 : decode cX5_train 36 = .ok (.iconst 1, 1) := by decide +kernel
theorem dX5_train_37 : decode cX5_train 37 = .ok (.invokevirtual 40, 3) := by decide +kernel
theorem dX5_train_40 : decode cX5_train 40 = .ok (.ireturn, 1) := by decide +kernel
theorem dX5_train_41 : decode cX5_train 41 = .ok (.aload_n 0, 1) := by decide +kernel
theorem dX5_train_42 : decode cX5_train 42 = .ok (.getfield 10, 3) := by decide +kernel
theorem dX5_train_45 : decode cX5_train 45 = .ok (.getfield 30, 3) := by decide +kernel
theorem dX5_train_48 : decode cX5_train 48 = .ok (.iconst 4, 1) := by decide +kernel
theorem dX5_train_49 : decode cX5_train 49 = .ok (.if_icmp .ge 7, 3) := by decide +kernel
theorem dX5_train_52 : decode cX5_train 52 = .ok (.iconst 1, 1) := by decide +kernel
theorem dX5_train_53 : decode cX5_train 53 = .ok (.goto 4, 3) := by decide +kernel
theorem dX5_train_57 : decode cX5_train 57 = .ok (.istore 5, 2) := by decide +kernel
theorem dX5_train_59 : decode cX5_train 59 = .ok (.iconst 0, 1) := by decide +kernel
theorem dX5_train_60 : decode cX5_train 60 = .ok (.istore 6, 2) := by decide +kernel
theorem dX5_train_62 : decode cX5_train 62 = .ok (.iload 6, 2) := by decide +kernel
theorem dX5_train_64 : decode cX5_train 64 = .ok (.aload_n 0, 1) := by decide +kernel
theorem dX5_train_65 : decode cX5_train 65 = .ok (.getfield 10, 3) := by decide +kernel
theorem dX5_train_68 : decode cX5_train 68 = .ok (.getfield 30, 3) := by decide +kernel
theorem dX5_train_71 : decode cX5_train 71 = .ok (.if_icmp .ge 48, 3) := by decide +kernel
theorem dX5_train_119 : decode cX5_train 119 = .ok (.iload 5, 2) := by decide +kernel
theorem dX5_train_121 : decode cX5_train 121 = .ok (.ifCond .ne 9, 3) := by decide +kernel
theorem dX5_train_130 : decode cX5_train 130 = .ok (.aload_n 0, 1) := by decide +kernel
theorem dX5_train_131 : decode cX5_train 131 = .ok (.getfield 10, 3) := by decide +kernel
theorem dX5_train_134 : decode cX5_train 134 = .ok (.getfield 61, 3) := by decide +kernel
theorem dX5_train_137 : decode cX5_train 137 = .ok (.aload_n 0, 1) := by decide +kernel
theorem dX5_train_138 : decode cX5_train 138 = .ok (.getfield 10, 3) := by decide +kernel
theorem dX5_train_141 : decode cX5_train 141 = .ok (.getfield 30, 3) := by decide +kernel
theorem dX5_train_144 : decode cX5_train 144 = .ok (.aaload, 1) := by decide +kernel
theorem dX5_train_145 : decode cX5_train 145 = .ok (.astore 6, 2) := by decide +kernel
theorem dX5_train_147 : decode cX5_train 147 = .ok (.aload 6, 2) := by decide +kernel
theorem dX5_train_149 : decode cX5_train 149 = .ok (.iconst 0, 1) := by decide +kernel
theorem dX5_train_150 : decode cX5_train 150 = .ok (.iload_n 1, 1) := by decide +kernel
theorem dX5_train_151 : decode cX5_train 151 = .ok (.iconst 1, 1) := by decide +kernel
theorem dX5_train_152 : decode cX5_train 152 = .ok (.isub, 1) := by decide +kernel
theorem dX5_train_153 : decode cX5_train 153 = .ok (.iastore, 1) := by decide +kernel
theorem dX5_train_154 : decode cX5_train 154 = .ok (.aload 6, 2) := by decide +kernel
theorem dX5_train_156 : decode cX5_train 156 = .ok (.iconst 1, 1) := by decide +kernel
theorem dX5_train_157 : decode cX5_train 157 = .ok (.iload_n 1, 1) := by decide +kernel
theorem dX5_train_158 : decode cX5_train 158 = .ok (.iastore, 1) := by decide +kernel
theorem dX5_train_159 : decode cX5_train 159 = .ok (.aload 6, 2) := by decide +kernel
theorem dX5_train_161 : decode cX5_train 161 = .ok (.iconst 2, 1) := by decide +kernel
theorem dX5_train_162 : decode cX5_train 162 = .ok (.iload_n 2, 1) := by decide +kernel
theorem dX5_train_163 : decode cX5_train 163 = .ok (.iastore, 1) := by decide +kernel
theorem dX5_train_164 : decode cX5_train 164 = .ok (.aload 6, 2) := by decide +kernel
theorem dX5_train_166 : decode cX5_train 166 = .ok (.iconst 3, 1) := by decide +kernel
theorem dX5_train_167 : decode cX5_train 167 = .ok (.iload_n 3, 1) := by decide +kernel
theorem dX5_train_168 : decode cX5_train 168 = .ok (.iastore, 1) := by decide +kernel
theorem dX5_train_169 : decode cX5_train 169 = .ok (.aload 6, 2) := by decide +kernel
theorem dX5_train_171 : decode cX5_train 171 = .ok (.iconst 5, 1) := by decide +kernel
theorem dX5_train_172 : decode cX5_train 172 = .ok (.aload 6, 2) := by decide +kernel
theorem dX5_train_174 : decode cX5_train 174 = .ok (.iconst 0, 1) := by decide +kernel
theorem dX5_train_175 : decode cX5_train 175 = .ok (.iaload, 1) := by decide +kernel
theorem dX5_train_176 : decode cX5_train 176 = .ok (.iastore, 1) := by decide +kernel
theorem dX5_train_177 : decode cX5_train 177 = .ok (.aload 6, 2) := by decide +kernel
theorem dX5_train_179 : decode cX5_train 179 = .ok (.bipush 6, 2) := by decide +kernel
theorem dX5_train_181 : decode cX5_train 181 = .ok (.iconst 1, 1) := by decide +kernel
theorem dX5_train_182 : decode cX5_train 182 = .ok (.iastore, 1) := by decide +kernel
theorem dX5_train_183 : decode cX5_train 183 = .ok (.aload 6, 2) := by decide +kernel
theorem dX5_train_185 : decode cX5_train 185 = .ok (.bipush 10, 2) := by decide +kernel
theorem dX5_train_187 : decode cX5_train 187 = .ok (.aload_n 0, 1) := by decide +kernel
theorem dX5_train_188 : decode cX5_train 188 = .ok (.getfield 10, 3) := by decide +kernel
theorem dX5_train_191 : decode cX5_train 191 = .ok (.getfield 68, 3) := by decide +kernel
theorem dX5_train_194 : decode cX5_train 194 = .ok (.iastore, 1) := by decide +kernel
theorem dX5_train_195 : decode cX5_train 195 = .ok (.iconst 0, 1) := by decide +kernel
theorem dX5_train_196 : decode cX5_train 196 = .ok (.istore 7, 2) := by decide +kernel
theorem dX5_train_198 : decode cX5_train 198 = .ok (.iload 7, 2) := by decide +kernel
theorem dX5_train_200 : decode cX5_train 200 = .ok (.aload_n 0, 1) := by decide +kernel
theorem dX5_train_201 : decode cX5_train 201 = .ok (.getfield 10, 3) := by decide +kernel
theorem dX5_train_204 : decode cX5_train 204 = .ok (.getfield 33, 3) := by decide +kernel
theorem dX5_train_207 : decode cX5_train 207 = .ok (.if_icmp .ge 45, 3) := by decide +kernel
theorem dX5_train_252 : decode cX5_train 252 = .ok (.aload_n 0, 1) := by decide +kernel
theorem dX5_train_253 : decode cX5_train 253 = .ok (.getfield 10, 3) := by decide +kernel
theorem dX5_train_256 : decode cX5_train 256 = .ok (.aload 6, 2) := by decide +kernel
theorem dX5_train_258 : decode cX5_train 258 = .ok (.invokevirtual 71, 3) := by decide +kernel
theorem dX5_train_261 : decode cX5_train 261 = .ok (.aload_n 0, 1) := by decide +kernel
theorem dX5_train_262 : decode cX5_train 262 = .ok (.getfield 10, 3) := by decide +kernel
theorem dX5_train_265 : decode cX5_train 265 = .ok (.dup, 1) := by decide +kernel
theorem dX5_train_266 : decode cX5_train 266 = .ok (.getfield 30, 3) := by decide +kernel
theorem dX5_train_269 : decode cX5_train 269 = .ok (.iconst 1, 1) := by decide +kernel
theorem dX5_train_270 : decode cX5_train 270 = .ok (.iadd, 1) := by decide +kernel
theorem dX5_train_271 : decode cX5_train 271 = .ok (.putfield 30, 3) := by decide +kernel
theorem dX5_train_274 : decode cX5_train 274 = .ok (.aload_n 0, 1) := by decide +kernel
theorem dX5_train_275 : decode cX5_train 275 = .ok (.getfield 10, 3) := by decide +kernel
theorem dX5_train_278 : decode cX5_train 278 = .ok (.getfield 30, 3) := by decide +kernel
theorem dX5_train_281 : decode cX5_train 281 = .ok (.iconst 1, 1) := by decide +kernel
theorem dX5_train_282 : decode cX5_train 282 = .ok (.isub, 1) := by decide +kernel
theorem dX5_train_283 : decode cX5_train 283 = .ok (.ireturn, 1) := by decide +kernel
set_option maxRecDepth 20000 in
theorem ggX5_whole_X5_isTrain : GoodIn wsX5_whole wsX5_isTrain := goodIn_r _ [7, 2, 8, 9, 6, 10, 11, 12, 13, 14, 15, 16, 17, 18, 19, 20] (by decide +kernel) (by decide +kernel)
set_option maxRecDepth 20000 in
theorem gX5_whole_X5_isTrain : GoodIn wsX5_whole (wsV RX5 75 RX5 yX5_isTrain wsX5_isTrain) := goodIn_app (goodIn_of _ (by decide +kernel)) ggX5_whole_X5_isTrain
theorem dX5_whole_0 : decode cX5_whole 0 = .ok (.aload_n 0, 1) := by decide +kernel
theorem dX5_whole_1 : decode cX5_whole 1 = .ok (.aload_n 0, 1) := by decide +kernel
theorem dX5_whole_2 : decode cX5_whole 2 = .ok (.iload_n 1, 1) := by decide +kernel
theorem dX5_whole_3 : decode cX5_whole 3 = .ok (.invokevirtual 75, 3) := by decide +kernel
theorem dX5_whole_6 : decode cX5_whole 6 = .ok (.ifCond .eq 7, 3) := by decide +kernel
theorem dX5_whole_13 : decode cX5_whole 13 = .ok (.iconst 1, 1) := by decide +kernel
theorem dX5_whole_14 : decode cX5_whole 14 = .ok (.putfield 16, 3) := by decide +kernel
theorem dX5_whole_17 : decode cX5_whole 17 = .ok (.aload_n 0, 1) := by decide +kernel
theorem dX5_whole_18 : decode cX5_whole 18 = .ok (.getfield 16, 3) := by decide +kernel
theorem dX5_whole_21 : decode cX5_whole 21 = .ok (.ifCond .le 5, 3) := by decide +kernel
theorem dX5_whole_24 : decode cX5_whole 24 = .ok (.iconst 0, 1) := by decide +kernel
theorem dX5_whole_25 : decode cX5_whole 25 = .ok (.ireturn, 1) := by decide +kernel
set_option maxRecDepth 20000 in
theorem ggX5_works_X5_isSection : GoodIn wsX5_works wsX5_isSection := goodIn_r _ [7, 8, 9, 6, 10] (by decide +kernel) (by decide +kernel)
set_option maxRecDepth 20000 in
theorem gX5_works_X5_isSection : GoodIn wsX5_works (va_wsS RX5 36 yX5_isSection wsX5_isSection) := goodIn_app (goodIn_of _ (by decide +kernel)) ggX5_works_X5_isSection
set_option maxRecDepth 20000 in
theorem ggX5_works_X5_refuse : GoodIn wsX5_works wsX5_refuse := goodIn_r _ [14, 1, 95, 96, 97] (by decide +kernel) (by decide +kernel)
set_option maxRecDepth 20000 in
theorem gX5_works_X5_refuse : GoodIn wsX5_works (wsV RX5 40 RX5 yX5_refuse wsX5_refuse) := goodIn_app (goodIn_of _ (by decide +kernel)) ggX5_works_X5_refuse
set_option maxRecDepth 20000 in
theorem ggX5_works_Jx4a65c_size_8abf5 : GoodIn wsX5_works wsJx4a65c_size_8abf5 := goodIn_r _ [19, 20, 105, 106, 107] (by decide +kernel) (by decide +kernel)
set_option maxRecDepth 20000 in
theorem gX5_works_Jx4a65c_size_8abf5 : GoodIn wsX5_works (wsV RX5 82 RJx4a65c yJx4a65c_size_8abf5 wsJx4a65c_size_8abf5) := goodIn_app (goodIn_of _ (by decide +kernel)) ggX5_works_Jx4a65c_size_8abf5
set_option maxRecDepth 20000 in
theorem ggX5_works_X4_hinders : GoodIn wsX5_works wsX4_hinders := goodIn_r _ [25, 26, 27, 28, 29, 30, 24, 31, 32, 33, 34, 35, 36, 6, 37, 38, 39, 40, 41, 42, 43, 98, 99, 100, 101, 102, 103, 104] (by decide +kernel) (by decide +kernel)
set_option maxRecDepth 20000 in
theorem gX5_works_X4_hinders : GoodIn wsX5_works (wsV RX5 88 RX4 yX4_hinders wsX4_hinders) := goodIn_app (goodIn_of _ (by decide +kernel)) ggX5_works_X4_hinders
set_option maxRecDepth 20000 in
theorem ggX5_works_Jx4a65c_add_9ea2d : GoodIn wsX5_works wsJx4a65c_add_9ea2d := goodIn_r _ [47, 48, 49, 50, 20, 51, 52, 53, 18, 54, 55, 56, 57, 58, 59, 60, 61, 62, 63, 64, 65, 42, 66, 67, 68, 69, 70, 71, 72, 73, 74, 75, 76, 77, 78, 79, 80, 81, 82, 83, 84, 85, 86, 87, 88, 89, 90, 41, 43, 91, 92, 93, 94, 105, 106, 107] (by decide +kernel) (by decide +kernel)
set_option maxRecDepth 20000 in
theorem gX5_works_Jx4a65c_add_9ea2d : GoodIn wsX5_works (wsV RX5 91 RJx4a65c yJx4a65c_add_9ea2d wsJx4a65c_add_9ea2d) := goodIn_app (goodIn_of _ (by decide +kernel)) ggX5_works_Jx4a65c_add_9ea2d
theorem dX5_works_0 : decode cX5_works 0 = .ok (.aload_n 0, 1) := by decide +kernel
theorem dX5_works_1 : decode cX5_works 1 = .ok (.iconst 0, 1) := by decide +kernel
theorem dX5_works_2 : decode cX5_works 2 = .ok (.putfield 16, 3) := by decide +kernel
theorem dX5_works_5 : decode cX5_works 5 = .ok (.iload_n 1, 1) := by decide +kernel
theorem dX5_works_6 : decode cX5_works 6 = .ok (.invokestatic 36, 3) := by decide +kernel
theorem dX5_works_9 : decode cX5_works 9 = .ok (.ifCond .eq 10, 3) := by decide +kernel
theorem dX5_works_12 : decode cX5_works 12 = .ok (.iload_n 2, 1) := by decide +kernel
theorem dX5_works_13 : decode cX5_works 13 = .ok (.invokestatic 36, 3) := by decide +kernel
theorem dX5_works_16 : decode cX5_works 16 = .ok (.ifCond .ne 9, 3) := by decide +kernel
theorem dX5_works_19 : decode cX5_works 19 = .ok (.aload_n 0, 1) := by decide +kernel
theorem dX5_works_20 : decode cX5_works 20 = .ok (.iconst 1, 1) := by decide +kernel
theorem dX5_works_21 : decode cX5_works 21 = .ok (.invokevirtual 40, 3) := by decide +kernel
theorem dX5_works_24 : decode cX5_works 24 = .ok (.ireturn, 1) := by decide +kernel
theorem dX5_works_25 : decode cX5_works 25 = .ok (.iload_n 2, 1) := by decide +kernel
theorem dX5_works_26 : decode cX5_works 26 = .ok (.iload_n 1, 1) := by decide +kernel
theorem dX5_works_27 : decode cX5_works 27 = .ok (.if_icmp .ge 9, 3) := by decide +kernel
theorem dX5_works_30 : decode cX5_works 30 = .ok (.aload_n 0, 1) := by decide +kernel
theorem dX5_works_31 : decode cX5_works 31 = .ok (.iconst 2, 1) := by decide +kernel
theorem dX5_works_32 : decode cX5_works 32 = .ok (.invokevirtual 40, 3) := by decide +kernel
theorem dX5_works_35 : decode cX5_works 35 = .ok (.ireturn, 1) := by decide +kernel
theorem dX5_works_36 : decode cX5_works 36 = .ok (.aload_n 0, 1) := by decide +kernel
theorem dX5_works_37 : decode cX5_works 37 = .ok (.getfield 10, 3) := by decide +kernel
theorem dX5_works_40 : decode cX5_works 40 = .ok (.getfield 78, 3) := by decide +kernel
theorem dX5_works_43 : decode cX5_works 43 = .ok (.invokevirtual 82, 3) := by decide +kernel
theorem dX5_works_46 : decode cX5_works 46 = .ok (.iconst 3, 1) := by decide +kernel
theorem dX5_works_47 : decode cX5_works 47 = .ok (.if_icmp .ne 9, 3) := by decide +kernel
theorem dX5_works_56 : decode cX5_works 56 = .ok (.aload_n 0, 1) := by decide +kernel
theorem dX5_works_57 : decode cX5_works 57 = .ok (.getfield 10, 3) := by decide +kernel
theorem dX5_works_60 : decode cX5_works 60 = .ok (.iload_n 1, 1) := by decide +kernel
theorem dX5_works_61 : decode cX5_works 61 = .ok (.iload_n 2, 1) := by decide +kernel
theorem dX5_works_62 : decode cX5_works 62 = .ok (.invokevirtual 88, 3) := by decide +kernel
theorem dX5_works_65 : decode cX5_works 65 = .ok (.istore_n 3, 1) := by decide +kernel
theorem dX5_works_66 : decode cX5_works 66 = .ok (.iload_n 3, 1) := by decide +kernel
theorem dX5_works_67 : decode cX5_works 67 = .ok (.ifCond .ge 5, 3) := by decide +kernel
theorem dX5_works_72 : decode cX5_works 72 = .ok (.iconst 2, 1) := by decide +kernel
theorem dX5_works_73 : decode cX5_works 73 = .ok (.newarray .int, 2) := by decide +kernel
theorem dX5_works_75 : decode cX5_works 75 = .ok (.dup, 1) := by decide +kernel
theorem dX5_works_76 : decode cX5_works 76 = .ok (.iconst 0, 1) := by decide +kernel
theorem dX5_works_77 : decode cX5_works 77 = .ok (.iload_n 1, 1) := by decide +kernel
theorem dX5_works_78 : decode cX5_works 78 = .ok (.iastore, 1) := by decide +kernel
theorem dX5_works_79 : decode cX5_works 79 = .ok (.dup, 1) := by decide +kernel
theorem dX5_works_80 : decode cX5_works 80 = .ok (.iconst 1, 1) := by decide +kernel
theorem dX5_works_81 : decode cX5_works 81 = .ok (.iload_n 2, 1) := by decide +kernel
theorem dX5_works_82 : decode cX5_works 82 = .ok (.iastore, 1) := by decide +kernel
theorem dX5_works_83 : decode cX5_works 83 = .ok (.astore 4, 2) := by decide +kernel
theorem dX5_works_85 : decode cX5_works 85 = .ok (.aload_n 0, 1) := by decide +kernel
theorem dX5_works_86 : decode cX5_works 86 = .ok (.getfield 10, 3) := by decide +kernel
theorem dX5_works_89 : decode cX5_works 89 = .ok (.getfield 78, 3) := by decide +kernel
theorem dX5_works_92 : decode cX5_works 92 = .ok (.aload 4, 2) := by decide +kernel
theorem dX5_works_94 : decode cX5_works 94 = .ok (.invokevirtual 91, 3) := by decide +kernel
theorem dX5_works_97 : decode cX5_works 97 = .ok (.pop, 1) := by decide +kernel
theorem dX5_works_98 : decode cX5_works 98 = .ok (.aload_n 0, 1) := by decide +kernel
theorem dX5_works_99 : decode cX5_works 99 = .ok (.getfield 10, 3) := by decide +kernel
theorem dX5_works_102 : decode cX5_works 102 = .ok (.getfield 78, 3) := by decide +kernel
theorem dX5_works_105 : decode cX5_works 105 = .ok (.invokevirtual 82, 3) := by decide +kernel
theorem dX5_works_108 : decode cX5_works 108 = .ok (.ireturn, 1) := by decide +kernel
set_option maxRecDepth 20000 in
theorem ggX5_end_Jx4a65c_size_8abf5 : GoodIn wsX5_end wsJx4a65c_size_8abf5 := goodIn_r _ [7, 8, 50, 51, 52] (by decide +kernel) (by decide +kernel)
set_option maxRecDepth 20000 in
theorem gX5_end_Jx4a65c_size_8abf5 : GoodIn wsX5_end (wsV RX5 82 RJx4a65c yJx4a65c_size_8abf5 wsJx4a65c_size_8abf5) := goodIn_app (goodIn_of _ (by decide +kernel)) ggX5_end_Jx4a65c_size_8abf5
set_option maxRecDepth 20000 in
theorem ggX5_end_X5_is : GoodIn wsX5_end wsX5_is := goodIn_r _ [12] (by decide +kernel) (by decide +kernel)
set_option maxRecDepth 20000 in
theorem gX5_end_X5_is : GoodIn wsX5_end (va_wsS RX5 26 yX5_is wsX5_is) := goodIn_app (goodIn_of _ (by decide +kernel)) ggX5_end_X5_is
set_option maxRecDepth 20000 in
theorem ggX5_end_X5_refuse : GoodIn wsX5_end wsX5_refuse := goodIn_r _ [16, 1, 40, 41, 42] (by decide +kernel) (by decide +kernel)
set_option maxRecDepth 20000 in
theorem gX5_end_X5_refuse : GoodIn wsX5_end (wsV RX5 40 RX5 yX5_refuse wsX5_refuse) := goodIn_app (goodIn_of _ (by decide +kernel)) ggX5_end_X5_refuse
theorem dX5_end_0 : decode cX5_end 0 = .ok (.aload_n 0, 1) := by decide +kernel
theorem dX5_end_1 : decode cX5_end 1 = .ok (.iconst 0, 1) := by decide +kernel
theorem dX5_end_2 : decode cX5_end 2 = .ok (.putfield 16, 3) := by decide +kernel
theorem dX5_end_5 : decode cX5_end 5 = .ok (.iload_n 1, 1) := by decide +kernel
theorem dX5_end_6 : decode cX5_end 6 = .ok (.iconst 0, 1) := by decide +kernel
theorem dX5_end_7 : decode cX5_end 7 = .ok (.aload_n 0, 1) := by decide +kernel
theorem dX5_end_8 : decode cX5_end 8 = .ok (.getfield 10, 3) := by decide +kernel
theorem dX5_end_11 : decode cX5_end 11 = .ok (.getfield 78, 3) := by decide +kernel
theorem dX5_end_14 : decode cX5_end 14 = .ok (.invokevirtual 82, 3) := by decide +kernel
theorem dX5_end_17 : decode cX5_end 17 = .ok (.iconst 1, 1) := by decide +kernel
theorem dX5_end_18 : decode cX5_end 18 = .ok (.isub, 1) := by decide +kernel
theorem dX5_end_19 : decode cX5_end 19 = .ok (.invokestatic 26, 3) := by decide +kernel
theorem dX5_end_22 : decode cX5_end 22 = .ok (.ifCond .ne 9, 3) := by decide +kernel
theorem dX5_end_25 : decode cX5_end 25 = .ok (.aload_n 0, 1) := by decide +kernel
theorem dX5_end_26 : decode cX5_end 26 = .ok (.iconst 1, 1) := by decide +kernel
theorem dX5_end_27 : decode cX5_end 27 = .ok (.invokevirtual 40, 3) := by decide +kernel
theorem dX5_end_30 : decode cX5_end 30 = .ok (.ireturn, 1) := by decide +kernel
set_option maxRecDepth 20000 in
theorem ggX5_pass_X5_is : GoodIn wsX5_pass wsX5_is := goodIn_r _ [6] (by decide +kernel) (by decide +kernel)
set_option maxRecDepth 20000 in
theorem gX5_pass_X5_is : GoodIn wsX5_pass (va_wsS RX5 26 yX5_is wsX5_is) := goodIn_app (goodIn_of _ (by decide +kernel)) ggX5_pass_X5_is
set_option maxRecDepth 20000 in
theorem ggX5_pass_X5_refuse : GoodIn wsX5_pass wsX5_refuse := goodIn_r _ [10, 1, 126, 127, 128] (by decide +kernel) (by decide +kernel)
set_option maxRecDepth 20000 in
theorem gX5_pass_X5_refuse : GoodIn wsX5_pass (wsV RX5 40 RX5 yX5_refuse wsX5_refuse) := goodIn_app (goodIn_of _ (by decide +kernel)) ggX5_pass_X5_refuse
set_option maxRecDepth 20000 in
theorem ggX5_pass_X4_sum : GoodIn wsX5_pass wsX4_sum := goodIn_r _ [15, 16, 17, 129, 130, 131, 132, 133, 134, 135] (by decide +kernel) (by decide +kernel)
set_option maxRecDepth 20000 in
theorem gX5_pass_X4_sum : GoodIn wsX5_pass (wsV RX5 99 RX4 yX4_sum wsX4_sum) := goodIn_app (goodIn_of _ (by decide +kernel)) ggX5_pass_X4_sum
set_option maxRecDepth 20000 in
theorem ggX5_pass_X4_pass_ : GoodIn wsX5_pass wsX4_pass_ := goodIn_r _ [21, 22, 23, 24, 14, 25, 26, 16, 17, 27, 28, 29, 30, 31, 32, 33, 34, 35, 36, 5, 37, 38, 39, 40, 41, 42, 43, 44, 45, 46, 47, 48, 49, 50, 51, 52, 53, 54, 55, 56, 57, 58, 59, 60, 61, 62, 63, 64, 65, 66, 67, 68, 69, 70, 71, 72, 73, 74, 75, 76, 77, 78, 79, 80, 81, 82, 83, 84, 85, 86, 87, 88, 89, 90, 91, 92, 93, 94, 95, 96, 97, 98, 99, 100, 101, 102, 103, 104, 105, 106, 107, 108, 109, 110, 111, 112, 113, 114, 115, 116, 117, 118, 119, 120, 121, 122, 123, 124, 125, 129, 130, 131, 132, 133, 134, 135, 136, 137, 138, 139, 140, 141, 142] (by decide +kernel) (by decide +kernel)
set_option maxRecDepth 20000 in
theorem gX5_pass_X4_pass_ : GoodIn wsX5_pass (wsV RX5 102 RX4 yX4_pass_ wsX4_pass_) := goodIn_app (goodIn_of _ (by decide +kernel)) ggX5_pass_X4_pass_
theorem dX5_pass_0 : decode cX5_pass 0 = .ok (.aload_n 0, 1) := by decide +kernel
theorem dX5_pass_1 : decode cX5_pass 1 = .ok (.iconst 0, 1) := by decide +kernel
theorem dX5_pass_2 : decode cX5_pass 2 = .ok (.putfield 16, 3) := by decide +kernel
theorem dX5_pass_5 : decode cX5_pass 5 = .ok (.iload_n 1, 1) := by decide +kernel
theorem dX5_pass_6 : decode cX5_pass 6 = .ok (.iconst 1, 1) := by decide +kernel
theorem dX5_pass_7 : decode cX5_pass 7 = .ok (.sipush 300, 3) := by decide +kernel
theorem dX5_pass_10 : decode cX5_pass 10 = .ok (.invokestatic 26, 3) := by decide +kernel
theorem dX5_pass_13 : decode cX5_pass 13 = .ok (.ifCond .ne 9, 3) := by decide +kernel
theorem dX5_pass_16 : decode cX5_pass 16 = .ok (.aload_n 0, 1) := by decide +kernel
theorem dX5_pass_17 : decode cX5_pass 17 = .ok (.iconst 1, 1) := by decide +kernel
theorem dX5_pass_18 : decode cX5_pass 18 = .ok (.invokevirtual 40, 3) := by decide +kernel
theorem dX5_pass_21 : decode cX5_pass 21 = .ok (.ireturn, 1) := by decide +kernel
theorem dX5_pass_22 : decode cX5_pass 22 = .ok (.aload_n 0, 1) := by decide +kernel
theorem dX5_pass_23 : decode cX5_pass 23 = .ok (.getfield 10, 3) := by decide +kernel
theorem dX5_pass_26 : decode cX5_pass 26 = .ok (.bipush 16, 2) := by decide +kernel
theorem dX5_pass_28 : decode cX5_pass 28 = .ok (.invokevirtual 99, 3) := by decide +kernel
theorem dX5_pass_31 : decode cX5_pass 31 = .ok (.istore_n 2, 1) := by decide +kernel
theorem dX5_pass_32 : decode cX5_pass 32 = .ok (.aload_n 0, 1) := by decide +kernel
theorem dX5_pass_33 : decode cX5_pass 33 = .ok (.getfield 10, 3) := by decide +kernel
theorem dX5_pass_36 : decode cX5_pass 36 = .ok (.iload_n 1, 1) := by decide +kernel
theorem dX5_pass_37 : decode cX5_pass 37 = .ok (.invokevirtual 102, 3) := by decide +kernel
theorem dX5_pass_40 : decode cX5_pass 40 = .ok (.aload_n 0, 1) := by decide +kernel
theorem dX5_pass_41 : decode cX5_pass 41 = .ok (.getfield 10, 3) := by decide +kernel
theorem dX5_pass_44 : decode cX5_pass 44 = .ok (.bipush 16, 2) := by decide +kernel
theorem dX5_pass_46 : decode cX5_pass 46 = .ok (.invokevirtual 99, 3) := by decide +kernel
theorem dX5_pass_49 : decode cX5_pass 49 = .ok (.iload_n 2, 1) := by decide +kernel
theorem dX5_pass_50 : decode cX5_pass 50 = .ok (.isub, 1) := by decide +kernel
theorem dX5_pass_51 : decode cX5_pass 51 = .ok (.ireturn, 1) := by decide +kernel
set_option maxRecDepth 20000 in
theorem ggX5_ofSectionNow_Jx4a65c_iterator_32c93 : GoodIn wsX5_ofSectionNow wsJx4a65c_iterator_32c93 := goodIn_r _ [26, 27, 28, 29, 30, 31, 32, 33, 34, 35, 36, 37, 38, 39, 40, 68, 69, 70, 71, 72, 73, 74] (by decide +kernel) (by decide +kernel)
set_option maxRecDepth 20000 in
theorem gX5_ofSectionNow_Jx4a65c_iterator_32c93 : GoodIn wsX5_ofSectionNow (wsV RX5 109 RJx4a65c yJx4a65c_iterator_32c93 wsJx4a65c_iterator_32c93) := goodIn_app (goodIn_of _ (by decide +kernel)) ggX5_ofSectionNow_Jx4a65c_iterator_32c93
set_option maxRecDepth 20000 in
theorem ggX5_ofSectionNow_Jx35411_hasNext_aae02 : GoodIn wsX5_ofSectionNow wsJx35411_hasNext_aae02 := goodIn_r _ [44, 45, 33, 68, 69, 70, 71, 72, 73, 74] (by decide +kernel) (by decide +kernel)
set_option maxRecDepth 20000 in
theorem gX5_ofSectionNow_Jx35411_hasNext_aae02_f113Jx35411 : GoodIn wsX5_ofSectionNow (va_wsF RX5 113 RJx35411 ⟨"java/util/Iterator", "hasNext", "()Z"⟩ yJx35411_hasNext_aae02 wsJx35411_hasNext_aae02) := goodIn_app (goodIn_of _ (by decide +kernel)) ggX5_ofSectionNow_Jx35411_hasNext_aae02
theorem dX5_ofSectionNow_0 : decode cX5_ofSectionNow 0 = .ok (.iload_n 2, 1) := by decide +kernel
theorem dX5_ofSectionNow_1 : decode cX5_ofSectionNow 1 = .ok (.iconst 3, 1) := by decide +kernel
theorem dX5_ofSectionNow_2 : decode cX5_ofSectionNow 2 = .ok (.if_icmp .ge 15, 3) := by decide +kernel
theorem dX5_ofSectionNow_5 : decode cX5_ofSectionNow 5 = .ok (.aload_n 0, 1) := by decide +kernel
theorem dX5_ofSectionNow_6 : decode cX5_ofSectionNow 6 = .ok (.getfield 10, 3) := by decide +kernel
theorem dX5_ofSectionNow_9 : decode cX5_ofSectionNow 9 = .ok (.getfield 47, 3) := by decide +kernel
theorem dX5_ofSectionNow_12 : decode cX5_ofSectionNow 12 = .ok (.iload_n 1, 1) := by decide +kernel
theorem dX5_ofSectionNow_13 : decode cX5_ofSectionNow 13 = .ok (.aaload, 1) := by decide +kernel
theorem dX5_ofSectionNow_14 : decode cX5_ofSectionNow 14 = .ok (.iload_n 2, 1) := by decide +kernel
theorem dX5_ofSectionNow_15 : decode cX5_ofSectionNow 15 = .ok (.iaload, 1) := by decide +kernel
theorem dX5_ofSectionNow_16 : decode cX5_ofSectionNow 16 = .ok (.ireturn, 1) := by decide +kernel
theorem dX5_ofSectionNow_17 : decode cX5_ofSectionNow 17 = .ok (.iconst 0, 1) := by decide +kernel
theorem dX5_ofSectionNow_18 : decode cX5_ofSectionNow 18 = .ok (.istore_n 3, 1) := by decide +kernel
theorem dX5_ofSectionNow_19 : decode cX5_ofSectionNow 19 = .ok (.iconst 0, 1) := by decide +kernel
theorem dX5_ofSectionNow_20 : decode cX5_ofSectionNow 20 = .ok (.istore 4, 2) := by decide +kernel
theorem dX5_ofSectionNow_22 : decode cX5_ofSectionNow 22 = .ok (.iload 4, 2) := by decide +kernel
theorem dX5_ofSectionNow_24 : decode cX5_ofSectionNow 24 = .ok (.aload_n 0, 1) := by decide +kernel
theorem dX5_ofSectionNow_25 : decode cX5_ofSectionNow 25 = .ok (.getfield 10, 3) := by decide +kernel
theorem dX5_ofSectionNow_28 : decode cX5_ofSectionNow 28 = .ok (.getfield 30, 3) := by decide +kernel
theorem dX5_ofSectionNow_31 : decode cX5_ofSectionNow 31 = .ok (.if_icmp .ge 31, 3) := by decide +kernel
theorem dX5_ofSectionNow_62 : decode cX5_ofSectionNow 62 = .ok (.iconst 0, 1) := by decide +kernel
theorem dX5_ofSectionNow_63 : decode cX5_ofSectionNow 63 = .ok (.istore 4, 2) := by decide +kernel
theorem dX5_ofSectionNow_65 : decode cX5_ofSectionNow 65 = .ok (.aload_n 0, 1) := by decide +kernel
theorem dX5_ofSectionNow_66 : decode cX5_ofSectionNow 66 = .ok (.getfield 10, 3) := by decide +kernel
theorem dX5_ofSectionNow_69 : decode cX5_ofSectionNow 69 = .ok (.getfield 78, 3) := by decide +kernel
theorem dX5_ofSectionNow_72 : decode cX5_ofSectionNow 72 = .ok (.invokevirtual 109, 3) := by decide +kernel
theorem dX5_ofSectionNow_75 : decode cX5_ofSectionNow 75 = .ok (.astore 5, 2) := by decide +kernel
theorem dX5_ofSectionNow_77 : decode cX5_ofSectionNow 77 = .ok (.aload 5, 2) := by decide +kernel
theorem dX5_ofSectionNow_79 : decode cX5_ofSectionNow 79 = .ok (.invokeinterface 113 1, 5) := by decide +kernel
theorem dX5_ofSectionNow_84 : decode cX5_ofSectionNow 84 = .ok (.ifCond .eq 35, 3) := by decide +kernel
theorem dX5_ofSectionNow_119 : decode cX5_ofSectionNow 119 = .ok (.iload_n 2, 1) := by decide +kernel
theorem dX5_ofSectionNow_120 : decode cX5_ofSectionNow 120 = .ok (.iconst 3, 1) := by decide +kernel
theorem dX5_ofSectionNow_121 : decode cX5_ofSectionNow 121 = .ok (.if_icmp .ne 7, 3) := by decide +kernel
theorem dX5_ofSectionNow_124 : decode cX5_ofSectionNow 124 = .ok (.iload_n 3, 1) := by decide +kernel
theorem dX5_ofSectionNow_125 : decode cX5_ofSectionNow 125 = .ok (.goto 13, 3) := by decide +kernel
theorem dX5_ofSectionNow_128 : decode cX5_ofSectionNow 128 = .ok (.iload 4, 2) := by decide +kernel
theorem dX5_ofSectionNow_130 : decode cX5_ofSectionNow 130 = .ok (.ifCond .eq 7, 3) := by decide +kernel
theorem dX5_ofSectionNow_137 : decode cX5_ofSectionNow 137 = .ok (.iconst 0, 1) := by decide +kernel
theorem dX5_ofSectionNow_138 : decode cX5_ofSectionNow 138 = .ok (.ireturn, 1) := by decide +kernel
set_option maxRecDepth 20000 in
theorem ggX5_ofSection_X5_isSection : GoodIn wsX5_ofSection wsX5_isSection := goodIn_r _ [5, 6, 7, 4, 8] (by decide +kernel) (by decide +kernel)
set_option maxRecDepth 20000 in
theorem gX5_ofSection_X5_isSection : GoodIn wsX5_ofSection (va_wsS RX5 36 yX5_isSection wsX5_isSection) := goodIn_app (goodIn_of _ (by decide +kernel)) ggX5_ofSection_X5_isSection
set_option maxRecDepth 20000 in
theorem ggX5_ofSection_X5_refuse : GoodIn wsX5_ofSection wsX5_refuse := goodIn_r _ [12, 1, 70, 71, 72] (by decide +kernel) (by decide +kernel)
set_option maxRecDepth 20000 in
theorem gX5_ofSection_X5_refuse : GoodIn wsX5_ofSection (wsV RX5 40 RX5 yX5_refuse wsX5_refuse) := goodIn_app (goodIn_of _ (by decide +kernel)) ggX5_ofSection_X5_refuse
set_option maxRecDepth 20000 in
theorem ggX5_ofSection_X5_is : GoodIn wsX5_ofSection wsX5_is := goodIn_r _ [8] (by decide +kernel) (by decide +kernel)
set_option maxRecDepth 20000 in
theorem gX5_ofSection_X5_is : GoodIn wsX5_ofSection (va_wsS RX5 26 yX5_is wsX5_is) := goodIn_app (goodIn_of _ (by decide +kernel)) ggX5_ofSection_X5_is
set_option maxRecDepth 20000 in
theorem ggX5_ofSection_X5_ofSectionNow : GoodIn wsX5_ofSection wsX5_ofSectionNow := goodIn_r _ [16, 17, 18, 19, 20, 21, 22, 23, 24, 25, 26, 27, 28, 29, 4, 30, 31, 32, 33, 34, 35, 36, 37, 38, 39, 40, 41, 42, 43, 44, 45, 46, 47, 48, 49, 50, 51, 52, 53, 54, 55, 56, 57, 58, 59, 60, 61, 62, 63, 64, 65, 66, 67, 68, 69, 6, 7, 8, 70, 71, 72, 73, 74, 75, 76, 77, 78, 79, 80, 81, 82, 83, 84, 85, 86] (by decide +kernel) (by decide +kernel)
set_option maxRecDepth 20000 in
theorem gX5_ofSection_X5_ofSectionNow : GoodIn wsX5_ofSection (wsV RX5 124 RX5 yX5_ofSectionNow wsX5_ofSectionNow) := goodIn_app (goodIn_of _ (by decide +kernel)) ggX5_ofSection_X5_ofSectionNow
theorem dX5_ofSection_0 : decode cX5_ofSection 0 = .ok (.aload_n 0, 1) := by decide +kernel
theorem dX5_ofSection_1 : decode cX5_ofSection 1 = .ok (.iconst 0, 1) := by decide +kernel
theorem dX5_ofSection_2 : decode cX5_ofSection 2 = .ok (.putfield 16, 3) := by decide +kernel
theorem dX5_ofSection_5 : decode cX5_ofSection 5 = .ok (.iload_n 1, 1) := by decide +kernel
theorem dX5_ofSection_6 : decode cX5_ofSection 6 = .ok (.invokestatic 36, 3) := by decide +kernel
theorem dX5_ofSection_9 : decode cX5_ofSection 9 = .ok (.ifCond .ne 9, 3) := by decide +kernel
theorem dX5_ofSection_12 : decode cX5_ofSection 12 = .ok (.aload_n 0, 1) := by decide +kernel
theorem dX5_ofSection_13 : decode cX5_ofSection 13 = .ok (.iconst 1, 1) := by decide +kernel
theorem dX5_ofSection_14 : decode cX5_ofSection 14 = .ok (.invokevirtual 40, 3) := by decide +kernel
theorem dX5_ofSection_17 : decode cX5_ofSection 17 = .ok (.ireturn, 1) := by decide +kernel
theorem dX5_ofSection_18 : decode cX5_ofSection 18 = .ok (.iload_n 2, 1) := by decide +kernel
theorem dX5_ofSection_19 : decode cX5_ofSection 19 = .ok (.iconst 0, 1) := by decide +kernel
theorem dX5_ofSection_20 : decode cX5_ofSection 20 = .ok (.iconst 4, 1) := by decide +kernel
theorem dX5_ofSection_21 : decode cX5_ofSection 21 = .ok (.invokestatic 26, 3) := by decide +kernel
theorem dX5_ofSection_24 : decode cX5_ofSection 24 = .ok (.ifCond .eq 12, 3) := by decide +kernel
theorem dX5_ofSection_27 : decode cX5_ofSection 27 = .ok (.aload_n 0, 1) := by decide +kernel
theorem dX5_ofSection_28 : decode cX5_ofSection 28 = .ok (.iload_n 1, 1) := by decide +kernel
theorem dX5_ofSection_29 : decode cX5_ofSection 29 = .ok (.iload_n 2, 1) := by decide +kernel
theorem dX5_ofSection_30 : decode cX5_ofSection 30 = .ok (.invokevirtual 124, 3) := by decide +kernel
theorem dX5_ofSection_33 : decode cX5_ofSection 33 = .ok (.goto 8, 3) := by decide +kernel
theorem dX5_ofSection_36 : decode cX5_ofSection 36 = .ok (.aload_n 0, 1) := by decide +kernel
theorem dX5_ofSection_37 : decode cX5_ofSection 37 = .ok (.iconst 2, 1) := by decide +kernel
theorem dX5_ofSection_38 : decode cX5_ofSection 38 = .ok (.invokevirtual 40, 3) := by decide +kernel
theorem dX5_ofSection_41 : decode cX5_ofSection 41 = .ok (.ireturn, 1) := by decide +kernel
set_option maxRecDepth 20000 in
theorem ggX5_ofTrain_X5_isTrain : GoodIn wsX5_ofTrain wsX5_isTrain := goodIn_r _ [6, 7, 8, 9, 5, 10, 39, 40, 41, 42, 43, 44, 45, 46, 47, 48] (by decide +kernel) (by decide +kernel)
set_option maxRecDepth 20000 in
theorem gX5_ofTrain_X5_isTrain : GoodIn wsX5_ofTrain (wsV RX5 75 RX5 yX5_isTrain wsX5_isTrain) := goodIn_app (goodIn_of _ (by decide +kernel)) ggX5_ofTrain_X5_isTrain
set_option maxRecDepth 20000 in
theorem ggX5_ofTrain_X5_refuse : GoodIn wsX5_ofTrain wsX5_refuse := goodIn_r _ [14, 1, 39, 40, 41] (by decide +kernel) (by decide +kernel)
set_option maxRecDepth 20000 in
theorem gX5_ofTrain_X5_refuse : GoodIn wsX5_ofTrain (wsV RX5 40 RX5 yX5_refuse wsX5_refuse) := goodIn_app (goodIn_of _ (by decide +kernel)) ggX5_ofTrain_X5_refuse
theorem dX5_ofTrain_0 : decode cX5_ofTrain 0 = .ok (.aload_n 0, 1) := by decide +kernel
theorem dX5_ofTrain_1 : decode cX5_ofTrain 1 = .ok (.iconst 0, 1) := by decide +kernel
theorem dX5_ofTrain_2 : decode cX5_ofTrain 2 = .ok (.putfield 16, 3) := by decide +kernel
theorem dX5_ofTrain_5 : decode cX5_ofTrain 5 = .ok (.aload_n 0, 1) := by decide +kernel
theorem dX5_ofTrain_6 : decode cX5_ofTrain 6 = .ok (.iload_n 1, 1) := by decide +kernel
theorem dX5_ofTrain_7 : decode cX5_ofTrain 7 = .ok (.invokevirtual 75, 3) := by decide +kernel
theorem dX5_ofTrain_10 : decode cX5_ofTrain 10 = .ok (.ifCond .ne 9, 3) := by decide +kernel
theorem dX5_ofTrain_13 : decode cX5_ofTrain 13 = .ok (.aload_n 0, 1) := by decide +kernel
theorem dX5_ofTrain_14 : decode cX5_ofTrain 14 = .ok (.iconst 1, 1) := by decide +kernel
theorem dX5_ofTrain_15 : decode cX5_ofTrain 15 = .ok (.invokevirtual 40, 3) := by decide +kernel
theorem dX5_ofTrain_18 : decode cX5_ofTrain 18 = .ok (.ireturn, 1) := by decide +kernel
set_option maxRecDepth 20000 in
theorem ggX5_stops_X5_isTrain : GoodIn wsX5_stops wsX5_isTrain := goodIn_r _ [7, 2, 8, 9, 6, 10, 34, 35, 36, 37, 38, 39, 40, 41, 42, 43] (by decide +kernel) (by decide +kernel)
set_option maxRecDepth 20000 in
theorem gX5_stops_X5_isTrain : GoodIn wsX5_stops (wsV RX5 75 RX5 yX5_isTrain wsX5_isTrain) := goodIn_app (goodIn_of _ (by decide +kernel)) ggX5_stops_X5_isTrain
set_option maxRecDepth 20000 in
theorem ggX5_stops_X5_refuse : GoodIn wsX5_stops wsX5_refuse := goodIn_r _ [14, 1, 34, 35, 36] (by decide +kernel) (by decide +kernel)
set_option maxRecDepth 20000 in
theorem gX5_stops_X5_refuse : GoodIn wsX5_stops (wsV RX5 40 RX5 yX5_refuse wsX5_refuse) := goodIn_app (goodIn_of _ (by decide +kernel)) ggX5_stops_X5_refuse
theorem dX5_stops_0 : decode cX5_stops 0 = .ok (.aload_n 0, 1) := by decide +kernel
theorem dX5_stops_1 : decode cX5_stops 1 = .ok (.iconst 0, 1) := by decide +kernel
theorem dX5_stops_2 : decode cX5_stops 2 = .ok (.putfield 16, 3) := by decide +kernel
theorem dX5_stops_5 : decode cX5_stops 5 = .ok (.aload_n 0, 1) := by decide +kernel
theorem dX5_stops_6 : decode cX5_stops 6 = .ok (.iload_n 1, 1) := by decide +kernel
theorem dX5_stops_7 : decode cX5_stops 7 = .ok (.invokevirtual 75, 3) := by decide +kernel
theorem dX5_stops_10 : decode cX5_stops 10 = .ok (.ifCond .ne 9, 3) := by decide +kernel
theorem dX5_stops_13 : decode cX5_stops 13 = .ok (.aload_n 0, 1) := by decide +kernel
theorem dX5_stops_14 : decode cX5_stops 14 = .ok (.iconst 1, 1) := by decide +kernel
theorem dX5_stops_15 : decode cX5_stops 15 = .ok (.invokevirtual 40, 3) := by decide +kernel
theorem dX5_stops_18 : decode cX5_stops 18 = .ok (.ireturn, 1) := by decide +kernel
set_option maxRecDepth 20000 in
theorem ggX5_may_X5_isTrain : GoodIn wsX5_may wsX5_isTrain := goodIn_r _ [6, 7, 8, 9, 5, 10, 56, 57, 58, 59, 60, 61, 62, 63, 64, 65] (by decide +kernel) (by decide +kernel)
set_option maxRecDepth 20000 in
theorem gX5_may_X5_isTrain : GoodIn wsX5_may (wsV RX5 75 RX5 yX5_isTrain wsX5_isTrain) := goodIn_app (goodIn_of _ (by decide +kernel)) ggX5_may_X5_isTrain
set_option maxRecDepth 20000 in
theorem ggX5_may_X5_refuse : GoodIn wsX5_may wsX5_refuse := goodIn_r _ [55, 1, 56, 57, 58] (by decide +kernel) (by decide +kernel)
set_option maxRecDepth 20000 in
theorem gX5_may_X5_refuse : GoodIn wsX5_may (wsV RX5 40 RX5 yX5_refuse wsX5_refuse) := goodIn_app (goodIn_of _ (by decide +kernel)) ggX5_may_X5_refuse
theorem dX5_may_0 : decode cX5_may 0 = .ok (.aload_n 0, 1) := by decide +kernel
theorem dX5_may_1 : decode cX5_may 1 = .ok (.iconst 0, 1) := by decide +kernel
theorem dX5_may_2 : decode cX5_may 2 = .ok (.putfield 16, 3) := by decide +kernel
theorem dX5_may_5 : decode cX5_may 5 = .ok (.aload_n 0, 1) := by decide +kernel
theorem dX5_may_6 : decode cX5_may 6 = .ok (.iload_n 1, 1) := by decide +kernel
theorem dX5_may_7 : decode cX5_may 7 = .ok (.invokevirtual 75, 3) := by decide +kernel
theorem dX5_may_10 : decode cX5_may 10 = .ok (.ifCond .eq 11, 3) := by decide +kernel
theorem dX5_may_21 : decode cX5_may 21 = .ok (.aload_n 0, 1) := by decide +kernel
theorem dX5_may_22 : decode cX5_may 22 = .ok (.iconst 1, 1) := by decide +kernel
theorem dX5_may_23 : decode cX5_may 23 = .ok (.invokevirtual 40, 3) := by decide +kernel
theorem dX5_may_26 : decode cX5_may 26 = .ok (.ireturn, 1) := by decide +kernel
set_option maxRecDepth 20000 in
theorem ggX5_why_X5_isTrain : GoodIn wsX5_why wsX5_isTrain := goodIn_r _ [6, 7, 8, 9, 5, 10, 82, 83, 84, 85, 86, 87, 88, 89, 90, 91] (by decide +kernel) (by decide +kernel)
set_option maxRecDepth 20000 in
theorem gX5_why_X5_isTrain : GoodIn wsX5_why (wsV RX5 75 RX5 yX5_isTrain wsX5_isTrain) := goodIn_app (goodIn_of _ (by decide +kernel)) ggX5_why_X5_isTrain
set_option maxRecDepth 20000 in
theorem ggX5_why_X5_refuse : GoodIn wsX5_why wsX5_refuse := goodIn_r _ [81, 1, 82, 83, 84] (by decide +kernel) (by decide +kernel)
set_option maxRecDepth 20000 in
theorem gX5_why_X5_refuse : GoodIn wsX5_why (wsV RX5 40 RX5 yX5_refuse wsX5_refuse) := goodIn_app (goodIn_of _ (by decide +kernel)) ggX5_why_X5_refuse
theorem dX5_why_0 : decode cX5_why 0 = .ok (.aload_n 0, 1) := by decide +kernel
theorem dX5_why_1 : decode cX5_why 1 = .ok (.iconst 0, 1) := by decide +kernel
theorem dX5_why_2 : decode cX5_why 2 = .ok (.putfield 16, 3) := by decide +kernel
theorem dX5_why_5 : decode cX5_why 5 = .ok (.aload_n 0, 1) := by decide +kernel
theorem dX5_why_6 : decode cX5_why 6 = .ok (.iload_n 1, 1) := by decide +kernel
theorem dX5_why_7 : decode cX5_why 7 = .ok (.invokevirtual 75, 3) := by decide +kernel
theorem dX5_why_10 : decode cX5_why 10 = .ok (.ifCond .eq 11, 3) := by decide +kernel
theorem dX5_why_21 : decode cX5_why 21 = .ok (.aload_n 0, 1) := by decide +kernel
theorem dX5_why_22 : decode cX5_why 22 = .ok (.iconst 1, 1) := by decide +kernel
theorem dX5_why_23 : decode cX5_why 23 = .ok (.invokevirtual 40, 3) := by decide +kernel
theorem dX5_why_26 : decode cX5_why 26 = .ok (.ireturn, 1) := by decide +kernel
set_option maxRecDepth 20000 in
theorem ggX5_ofStation_X5_isStation : GoodIn wsX5_ofStation wsX5_isStation := goodIn_r _ [7, 2, 8, 9, 6, 10, 15, 16, 17, 18, 19, 20, 21, 22, 23, 24] (by decide +kernel) (by decide +kernel)
set_option maxRecDepth 20000 in
theorem gX5_ofStation_X5_isStation : GoodIn wsX5_ofStation (wsV RX5 151 RX5 yX5_isStation wsX5_isStation) := goodIn_app (goodIn_of _ (by decide +kernel)) ggX5_ofStation_X5_isStation
set_option maxRecDepth 20000 in
theorem ggX5_ofStation_X5_refuse : GoodIn wsX5_ofStation wsX5_refuse := goodIn_r _ [14, 1, 15, 16, 17] (by decide +kernel) (by decide +kernel)
set_option maxRecDepth 20000 in
theorem gX5_ofStation_X5_refuse : GoodIn wsX5_ofStation (wsV RX5 40 RX5 yX5_refuse wsX5_refuse) := goodIn_app (goodIn_of _ (by decide +kernel)) ggX5_ofStation_X5_refuse
theorem dX5_ofStation_0 : decode cX5_ofStation 0 = .ok (.aload_n 0, 1) := by decide +kernel
theorem dX5_ofStation_1 : decode cX5_ofStation 1 = .ok (.iconst 0, 1) := by decide +kernel
theorem dX5_ofStation_2 : decode cX5_ofStation 2 = .ok (.putfield 16, 3) := by decide +kernel
theorem dX5_ofStation_5 : decode cX5_ofStation 5 = .ok (.aload_n 0, 1) := by decide +kernel
theorem dX5_ofStation_6 : decode cX5_ofStation 6 = .ok (.iload_n 1, 1) := by decide +kernel
theorem dX5_ofStation_7 : decode cX5_ofStation 7 = .ok (.invokevirtual 151, 3) := by decide +kernel
theorem dX5_ofStation_10 : decode cX5_ofStation 10 = .ok (.ifCond .ne 9, 3) := by decide +kernel
theorem dX5_ofStation_13 : decode cX5_ofStation 13 = .ok (.aload_n 0, 1) := by decide +kernel
theorem dX5_ofStation_14 : decode cX5_ofStation 14 = .ok (.iconst 1, 1) := by decide +kernel
theorem dX5_ofStation_15 : decode cX5_ofStation 15 = .ok (.invokevirtual 40, 3) := by decide +kernel
theorem dX5_ofStation_18 : decode cX5_ofStation 18 = .ok (.ireturn, 1) := by decide +kernel
set_option maxRecDepth 20000 in
theorem ggX5_manyNow_X4_sum : GoodIn wsX5_manyNow wsX4_sum := goodIn_r _ [7, 8, 9, 19, 20, 21, 22, 23, 24, 25] (by decide +kernel) (by decide +kernel)
set_option maxRecDepth 20000 in
theorem gX5_manyNow_X4_sum : GoodIn wsX5_manyNow (wsV RX5 99 RX4 yX4_sum wsX4_sum) := goodIn_app (goodIn_of _ (by decide +kernel)) ggX5_manyNow_X4_sum
set_option maxRecDepth 20000 in
theorem ggX5_manyNow_Jx4a65c_size_8abf5 : GoodIn wsX5_manyNow wsJx4a65c_size_8abf5 := goodIn_r _ [14, 15, 26, 27, 28] (by decide +kernel) (by decide +kernel)
set_option maxRecDepth 20000 in
theorem gX5_manyNow_Jx4a65c_size_8abf5 : GoodIn wsX5_manyNow (wsV RX5 82 RJx4a65c yJx4a65c_size_8abf5 wsJx4a65c_size_8abf5) := goodIn_app (goodIn_of _ (by decide +kernel)) ggX5_manyNow_Jx4a65c_size_8abf5
theorem dX5_manyNow_0 : decode cX5_manyNow 0 = .ok (.bipush 10, 2) := by decide +kernel
theorem dX5_manyNow_2 : decode cX5_manyNow 2 = .ok (.newarray .int, 2) := by decide +kernel
theorem dX5_manyNow_4 : decode cX5_manyNow 4 = .ok (.dup, 1) := by decide +kernel
theorem dX5_manyNow_5 : decode cX5_manyNow 5 = .ok (.iconst 0, 1) := by decide +kernel
theorem dX5_manyNow_6 : decode cX5_manyNow 6 = .ok (.aload_n 0, 1) := by decide +kernel
theorem dX5_manyNow_7 : decode cX5_manyNow 7 = .ok (.getfield 10, 3) := by decide +kernel
theorem dX5_manyNow_10 : decode cX5_manyNow 10 = .ok (.getfield 68, 3) := by decide +kernel
theorem dX5_manyNow_13 : decode cX5_manyNow 13 = .ok (.iastore, 1) := by decide +kernel
theorem dX5_manyNow_14 : decode cX5_manyNow 14 = .ok (.dup, 1) := by decide +kernel
theorem dX5_manyNow_15 : decode cX5_manyNow 15 = .ok (.iconst 1, 1) := by decide +kernel
theorem dX5_manyNow_16 : decode cX5_manyNow 16 = .ok (.aload_n 0, 1) := by decide +kernel
theorem dX5_manyNow_17 : decode cX5_manyNow 17 = .ok (.getfield 10, 3) := by decide +kernel
theorem dX5_manyNow_20 : decode cX5_manyNow 20 = .ok (.getfield 30, 3) := by decide +kernel
theorem dX5_manyNow_23 : decode cX5_manyNow 23 = .ok (.iastore, 1) := by decide +kernel
theorem dX5_manyNow_24 : decode cX5_manyNow 24 = .ok (.dup, 1) := by decide +kernel
theorem dX5_manyNow_25 : decode cX5_manyNow 25 = .ok (.iconst 2, 1) := by decide +kernel
theorem dX5_manyNow_26 : decode cX5_manyNow 26 = .ok (.aload_n 0, 1) := by decide +kernel
theorem dX5_manyNow_27 : decode cX5_manyNow 27 = .ok (.getfield 10, 3) := by decide +kernel
theorem dX5_manyNow_30 : decode cX5_manyNow 30 = .ok (.bipush 16, 2) := by decide +kernel
theorem dX5_manyNow_32 : decode cX5_manyNow 32 = .ok (.invokevirtual 99, 3) := by decide +kernel
theorem dX5_manyNow_35 : decode cX5_manyNow 35 = .ok (.iastore, 1) := by decide +kernel
theorem dX5_manyNow_36 : decode cX5_manyNow 36 = .ok (.dup, 1) := by decide +kernel
theorem dX5_manyNow_37 : decode cX5_manyNow 37 = .ok (.iconst 3, 1) := by decide +kernel
theorem dX5_manyNow_38 : decode cX5_manyNow 38 = .ok (.aload_n 0, 1) := by decide +kernel
theorem dX5_manyNow_39 : decode cX5_manyNow 39 = .ok (.getfield 10, 3) := by decide +kernel
theorem dX5_manyNow_42 : decode cX5_manyNow 42 = .ok (.bipush 17, 2) := by decide +kernel
theorem dX5_manyNow_44 : decode cX5_manyNow 44 = .ok (.invokevirtual 99, 3) := by decide +kernel
theorem dX5_manyNow_47 : decode cX5_manyNow 47 = .ok (.iastore, 1) := by decide +kernel
theorem dX5_manyNow_48 : decode cX5_manyNow 48 = .ok (.dup, 1) := by decide +kernel
theorem dX5_manyNow_49 : decode cX5_manyNow 49 = .ok (.iconst 4, 1) := by decide +kernel
theorem dX5_manyNow_50 : decode cX5_manyNow 50 = .ok (.aload_n 0, 1) := by decide +kernel
theorem dX5_manyNow_51 : decode cX5_manyNow 51 = .ok (.getfield 10, 3) := by decide +kernel
theorem dX5_manyNow_54 : decode cX5_manyNow 54 = .ok (.getfield 33, 3) := by decide +kernel
theorem dX5_manyNow_57 : decode cX5_manyNow 57 = .ok (.iastore, 1) := by decide +kernel
theorem dX5_manyNow_58 : decode cX5_manyNow 58 = .ok (.dup, 1) := by decide +kernel
theorem dX5_manyNow_59 : decode cX5_manyNow 59 = .ok (.iconst 5, 1) := by decide +kernel
theorem dX5_manyNow_60 : decode cX5_manyNow 60 = .ok (.aload_n 0, 1) := by decide +kernel
theorem dX5_manyNow_61 : decode cX5_manyNow 61 = .ok (.getfield 10, 3) := by decide +kernel
theorem dX5_manyNow_64 : decode cX5_manyNow 64 = .ok (.getfield 78, 3) := by decide +kernel
theorem dX5_manyNow_67 : decode cX5_manyNow 67 = .ok (.invokevirtual 82, 3) := by decide +kernel
theorem dX5_manyNow_70 : decode cX5_manyNow 70 = .ok (.iastore, 1) := by decide +kernel
theorem dX5_manyNow_71 : decode cX5_manyNow 71 = .ok (.dup, 1) := by decide +kernel
theorem dX5_manyNow_72 : decode cX5_manyNow 72 = .ok (.bipush 6, 2) := by decide +kernel
theorem dX5_manyNow_74 : decode cX5_manyNow 74 = .ok (.aload_n 0, 1) := by decide +kernel
theorem dX5_manyNow_75 : decode cX5_manyNow 75 = .ok (.getfield 10, 3) := by decide +kernel
theorem dX5_manyNow_78 : decode cX5_manyNow 78 = .ok (.bipush 11, 2) := by decide +kernel
theorem dX5_manyNow_80 : decode cX5_manyNow 80 = .ok (.invokevirtual 99, 3) := by decide +kernel
theorem dX5_manyNow_83 : decode cX5_manyNow 83 = .ok (.iastore, 1) := by decide +kernel
theorem dX5_manyNow_84 : decode cX5_manyNow 84 = .ok (.dup, 1) := by decide +kernel
theorem dX5_manyNow_85 : decode cX5_manyNow 85 = .ok (.bipush 7, 2) := by decide +kernel
theorem dX5_manyNow_87 : decode cX5_manyNow 87 = .ok (.aload_n 0, 1) := by decide +kernel
theorem dX5_manyNow_88 : decode cX5_manyNow 88 = .ok (.getfield 10, 3) := by decide +kernel
theorem dX5_manyNow_91 : decode cX5_manyNow 91 = .ok (.bipush 12, 2) := by decide +kernel
theorem dX5_manyNow_93 : decode cX5_manyNow 93 = .ok (.invokevirtual 99, 3) := by decide +kernel
theorem dX5_manyNow_96 : decode cX5_manyNow 96 = .ok (.iastore, 1) := by decide +kernel
theorem dX5_manyNow_97 : decode cX5_manyNow 97 = .ok (.dup, 1) := by decide +kernel
theorem dX5_manyNow_98 : decode cX5_manyNow 98 = .ok (.bipush 8, 2) := by decide +kernel
theorem dX5_manyNow_100 : decode cX5_manyNow 100 = .ok (.aload_n 0, 1) := by decide +kernel
theorem dX5_manyNow_101 : decode cX5_manyNow 101 = .ok (.getfield 10, 3) := by decide +kernel
theorem dX5_manyNow_104 : decode cX5_manyNow 104 = .ok (.bipush 13, 2) := by decide +kernel
theorem dX5_manyNow_106 : decode cX5_manyNow 106 = .ok (.invokevirtual 99, 3) := by decide +kernel
theorem dX5_manyNow_109 : decode cX5_manyNow 109 = .ok (.iastore, 1) := by decide +kernel
theorem dX5_manyNow_110 : decode cX5_manyNow 110 = .ok (.dup, 1) := by decide +kernel
theorem dX5_manyNow_111 : decode cX5_manyNow 111 = .ok (.bipush 9, 2) := by decide +kernel
theorem dX5_manyNow_113 : decode cX5_manyNow 113 = .ok (.aload_n 0, 1) := by decide +kernel
theorem dX5_manyNow_114 : decode cX5_manyNow 114 = .ok (.getfield 10, 3) := by decide +kernel
theorem dX5_manyNow_117 : decode cX5_manyNow 117 = .ok (.bipush 19, 2) := by decide +kernel
theorem dX5_manyNow_119 : decode cX5_manyNow 119 = .ok (.invokevirtual 99, 3) := by decide +kernel
theorem dX5_manyNow_122 : decode cX5_manyNow 122 = .ok (.iastore, 1) := by decide +kernel
theorem dX5_manyNow_123 : decode cX5_manyNow 123 = .ok (.astore_n 2, 1) := by decide +kernel
theorem dX5_manyNow_124 : decode cX5_manyNow 124 = .ok (.aload_n 2, 1) := by decide +kernel
theorem dX5_manyNow_125 : decode cX5_manyNow 125 = .ok (.iload_n 1, 1) := by decide +kernel
theorem dX5_manyNow_126 : decode cX5_manyNow 126 = .ok (.iaload, 1) := by decide +kernel
theorem dX5_manyNow_127 : decode cX5_manyNow 127 = .ok (.ireturn, 1) := by decide +kernel
set_option maxRecDepth 20000 in
theorem ggX5_many_X5_is : GoodIn wsX5_many wsX5_is := goodIn_r _ [5] (by decide +kernel) (by decide +kernel)
set_option maxRecDepth 20000 in
theorem gX5_many_X5_is : GoodIn wsX5_many (va_wsS RX5 26 yX5_is wsX5_is) := goodIn_app (goodIn_of _ (by decide +kernel)) ggX5_many_X5_is
set_option maxRecDepth 20000 in
theorem ggX5_many_X5_manyNow : GoodIn wsX5_many wsX5_manyNow := goodIn_r _ [9, 10, 11, 12, 13, 14, 15, 16, 17, 18, 19, 20, 21, 22, 23, 24, 29, 30, 31, 32, 33, 34, 35, 36, 37, 38, 39, 40, 41] (by decide +kernel) (by decide +kernel)
set_option maxRecDepth 20000 in
theorem gX5_many_X5_manyNow : GoodIn wsX5_many (wsV RX5 154 RX5 yX5_manyNow wsX5_manyNow) := goodIn_app (goodIn_of _ (by decide +kernel)) ggX5_many_X5_manyNow
set_option maxRecDepth 20000 in
theorem ggX5_many_X5_refuse : GoodIn wsX5_many wsX5_refuse := goodIn_r _ [28, 1, 29, 30, 31] (by decide +kernel) (by decide +kernel)
set_option maxRecDepth 20000 in
theorem gX5_many_X5_refuse : GoodIn wsX5_many (wsV RX5 40 RX5 yX5_refuse wsX5_refuse) := goodIn_app (goodIn_of _ (by decide +kernel)) ggX5_many_X5_refuse
theorem dX5_many_0 : decode cX5_many 0 = .ok (.aload_n 0, 1) := by decide +kernel
theorem dX5_many_1 : decode cX5_many 1 = .ok (.iconst 0, 1) := by decide +kernel
theorem dX5_many_2 : decode cX5_many 2 = .ok (.putfield 16, 3) := by decide +kernel
theorem dX5_many_5 : decode cX5_many 5 = .ok (.iload_n 1, 1) := by decide +kernel
theorem dX5_many_6 : decode cX5_many 6 = .ok (.iconst 0, 1) := by decide +kernel
theorem dX5_many_7 : decode cX5_many 7 = .ok (.bipush 9, 2) := by decide +kernel
theorem dX5_many_9 : decode cX5_many 9 = .ok (.invokestatic 26, 3) := by decide +kernel
theorem dX5_many_12 : decode cX5_many 12 = .ok (.ifCond .eq 11, 3) := by decide +kernel
theorem dX5_many_15 : decode cX5_many 15 = .ok (.aload_n 0, 1) := by decide +kernel
theorem dX5_many_16 : decode cX5_many 16 = .ok (.iload_n 1, 1) := by decide +kernel
theorem dX5_many_17 : decode cX5_many 17 = .ok (.invokevirtual 154, 3) := by decide +kernel
theorem dX5_many_20 : decode cX5_many 20 = .ok (.goto 8, 3) := by decide +kernel
theorem dX5_many_23 : decode cX5_many 23 = .ok (.aload_n 0, 1) := by decide +kernel
theorem dX5_many_24 : decode cX5_many 24 = .ok (.iconst 1, 1) := by decide +kernel
theorem dX5_many_25 : decode cX5_many 25 = .ok (.invokevirtual 40, 3) := by decide +kernel
theorem dX5_many_28 : decode cX5_many 28 = .ok (.ireturn, 1) := by decide +kernel
set_option maxRecDepth 20000 in
theorem ggX5_meanSpeed_X4_sum : GoodIn wsX5_meanSpeed wsX4_sum := goodIn_r _ [7, 8, 9, 13, 14, 15, 16, 17, 18, 19] (by decide +kernel) (by decide +kernel)
set_option maxRecDepth 20000 in
theorem gX5_meanSpeed_X4_sum : GoodIn wsX5_meanSpeed (wsV RX5 99 RX4 yX4_sum wsX4_sum) := goodIn_app (goodIn_of _ (by decide +kernel)) ggX5_meanSpeed_X4_sum
theorem dX5_meanSpeed_0 : decode cX5_meanSpeed 0 = .ok (.aload_n 0, 1) := by decide +kernel
theorem dX5_meanSpeed_1 : decode cX5_meanSpeed 1 = .ok (.iconst 0, 1) := by decide +kernel
theorem dX5_meanSpeed_2 : decode cX5_meanSpeed 2 = .ok (.putfield 16, 3) := by decide +kernel
theorem dX5_meanSpeed_5 : decode cX5_meanSpeed 5 = .ok (.aload_n 0, 1) := by decide +kernel
theorem dX5_meanSpeed_6 : decode cX5_meanSpeed 6 = .ok (.getfield 10, 3) := by decide +kernel
theorem dX5_meanSpeed_9 : decode cX5_meanSpeed 9 = .ok (.getfield 30, 3) := by decide +kernel
theorem dX5_meanSpeed_12 : decode cX5_meanSpeed 12 = .ok (.aload_n 0, 1) := by decide +kernel
theorem dX5_meanSpeed_13 : decode cX5_meanSpeed 13 = .ok (.getfield 10, 3) := by decide +kernel
theorem dX5_meanSpeed_16 : decode cX5_meanSpeed 16 = .ok (.bipush 16, 2) := by decide +kernel
theorem dX5_meanSpeed_18 : decode cX5_meanSpeed 18 = .ok (.invokevirtual 99, 3) := by decide +kernel
theorem dX5_meanSpeed_21 : decode cX5_meanSpeed 21 = .ok (.isub, 1) := by decide +kernel
theorem dX5_meanSpeed_22 : decode cX5_meanSpeed 22 = .ok (.istore_n 1, 1) := by decide +kernel
theorem dX5_meanSpeed_23 : decode cX5_meanSpeed 23 = .ok (.iload_n 1, 1) := by decide +kernel
theorem dX5_meanSpeed_24 : decode cX5_meanSpeed 24 = .ok (.ifCond .ne 7, 3) := by decide +kernel
theorem dX5_meanSpeed_27 : decode cX5_meanSpeed 27 = .ok (.dconst 0, 1) := by decide +kernel
theorem dX5_meanSpeed_28 : decode cX5_meanSpeed 28 = .ok (.goto 15, 3) := by decide +kernel
theorem dX5_meanSpeed_43 : decode cX5_meanSpeed 43 = .ok (.dreturn, 1) := by decide +kernel
set_option maxRecDepth 20000 in
theorem ggX5_reaches_X5_isTrain : GoodIn wsX5_reaches wsX5_isTrain := goodIn_r _ [6, 7, 8, 9, 5, 10, 203, 204, 205, 206, 207, 208, 209, 210, 211, 212] (by decide +kernel) (by decide +kernel)
set_option maxRecDepth 20000 in
theorem gX5_reaches_X5_isTrain : GoodIn wsX5_reaches (wsV RX5 75 RX5 yX5_isTrain wsX5_isTrain) := goodIn_app (goodIn_of _ (by decide +kernel)) ggX5_reaches_X5_isTrain
set_option maxRecDepth 20000 in
theorem ggX5_reaches_X5_refuse : GoodIn wsX5_reaches wsX5_refuse := goodIn_r _ [14, 1, 203, 204, 205] (by decide +kernel) (by decide +kernel)
set_option maxRecDepth 20000 in
theorem gX5_reaches_X5_refuse : GoodIn wsX5_reaches (wsV RX5 40 RX5 yX5_refuse wsX5_refuse) := goodIn_app (goodIn_of _ (by decide +kernel)) ggX5_reaches_X5_refuse
theorem dX5_reaches_0 : decode cX5_reaches 0 = .ok (.aload_n 0, 1) := by decide +kernel
theorem dX5_reaches_1 : decode cX5_reaches 1 = .ok (.iconst 0, 1) := by decide +kernel
theorem dX5_reaches_2 : decode cX5_reaches 2 = .ok (.putfield 16, 3) := by decide +kernel
theorem dX5_reaches_5 : decode cX5_reaches 5 = .ok (.aload_n 0, 1) := by decide +kernel
theorem dX5_reaches_6 : decode cX5_reaches 6 = .ok (.iload_n 1, 1) := by decide +kernel
theorem dX5_reaches_7 : decode cX5_reaches 7 = .ok (.invokevirtual 75, 3) := by decide +kernel
theorem dX5_reaches_10 : decode cX5_reaches 10 = .ok (.ifCond .ne 9, 3) := by decide +kernel
theorem dX5_reaches_13 : decode cX5_reaches 13 = .ok (.aload_n 0, 1) := by decide +kernel
theorem dX5_reaches_14 : decode cX5_reaches 14 = .ok (.iconst 1, 1) := by decide +kernel
theorem dX5_reaches_15 : decode cX5_reaches 15 = .ok (.invokevirtual 40, 3) := by decide +kernel
theorem dX5_reaches_18 : decode cX5_reaches 18 = .ok (.ireturn, 1) := by decide +kernel
set_option maxRecDepth 20000 in
theorem ggX5_closest_X5_isTrain : GoodIn wsX5_closest wsX5_isTrain := goodIn_r _ [6, 7, 8, 9, 5, 10, 209, 210, 211, 212, 213, 214, 215, 216, 217, 218] (by decide +kernel) (by decide +kernel)
set_option maxRecDepth 20000 in
theorem gX5_closest_X5_isTrain : GoodIn wsX5_closest (wsV RX5 75 RX5 yX5_isTrain wsX5_isTrain) := goodIn_app (goodIn_of _ (by decide +kernel)) ggX5_closest_X5_isTrain
set_option maxRecDepth 20000 in
theorem ggX5_closest_X5_refuse : GoodIn wsX5_closest wsX5_refuse := goodIn_r _ [14, 1, 209, 210, 211] (by decide +kernel) (by decide +kernel)
set_option maxRecDepth 20000 in
theorem gX5_closest_X5_refuse : GoodIn wsX5_closest (wsV RX5 40 RX5 yX5_refuse wsX5_refuse) := goodIn_app (goodIn_of _ (by decide +kernel)) ggX5_closest_X5_refuse
theorem dX5_closest_0 : decode cX5_closest 0 = .ok (.aload_n 0, 1) := by decide +kernel
theorem dX5_closest_1 : decode cX5_closest 1 = .ok (.iconst 0, 1) := by decide +kernel
theorem dX5_closest_2 : decode cX5_closest 2 = .ok (.putfield 16, 3) := by decide +kernel
theorem dX5_closest_5 : decode cX5_closest 5 = .ok (.aload_n 0, 1) := by decide +kernel
theorem dX5_closest_6 : decode cX5_closest 6 = .ok (.iload_n 1, 1) := by decide +kernel
theorem dX5_closest_7 : decode cX5_closest 7 = .ok (.invokevirtual 75, 3) := by decide +kernel
theorem dX5_closest_10 : decode cX5_closest 10 = .ok (.ifCond .ne 9, 3) := by decide +kernel
theorem dX5_closest_13 : decode cX5_closest 13 = .ok (.aload_n 0, 1) := by decide +kernel
theorem dX5_closest_14 : decode cX5_closest 14 = .ok (.iconst 1, 1) := by decide +kernel
theorem dX5_closest_15 : decode cX5_closest 15 = .ok (.invokevirtual 40, 3) := by decide +kernel
theorem dX5_closest_18 : decode cX5_closest 18 = .ok (.ireturn, 1) := by decide +kernel
set_option maxRecDepth 20000 in
theorem ggX5_lost_X5_isTrain : GoodIn wsX5_lost wsX5_isTrain := goodIn_r _ [7, 2, 8, 9, 6, 10, 209, 210, 211, 212, 213, 214, 215, 216, 217, 218] (by decide +kernel) (by decide +kernel)
set_option maxRecDepth 20000 in
theorem gX5_lost_X5_isTrain : GoodIn wsX5_lost (wsV RX5 75 RX5 yX5_isTrain wsX5_isTrain) := goodIn_app (goodIn_of _ (by decide +kernel)) ggX5_lost_X5_isTrain
set_option maxRecDepth 20000 in
theorem ggX5_lost_X5_refuse : GoodIn wsX5_lost wsX5_refuse := goodIn_r _ [17, 1, 209, 210, 211] (by decide +kernel) (by decide +kernel)
set_option maxRecDepth 20000 in
theorem gX5_lost_X5_refuse : GoodIn wsX5_lost (wsV RX5 40 RX5 yX5_refuse wsX5_refuse) := goodIn_app (goodIn_of _ (by decide +kernel)) ggX5_lost_X5_refuse
theorem dX5_lost_0 : decode cX5_lost 0 = .ok (.aload_n 0, 1) := by decide +kernel
theorem dX5_lost_1 : decode cX5_lost 1 = .ok (.iconst 0, 1) := by decide +kernel
theorem dX5_lost_2 : decode cX5_lost 2 = .ok (.putfield 16, 3) := by decide +kernel
theorem dX5_lost_5 : decode cX5_lost 5 = .ok (.aload_n 0, 1) := by decide +kernel
theorem dX5_lost_6 : decode cX5_lost 6 = .ok (.iload_n 1, 1) := by decide +kernel
theorem dX5_lost_7 : decode cX5_lost 7 = .ok (.invokevirtual 75, 3) := by decide +kernel
theorem dX5_lost_10 : decode cX5_lost 10 = .ok (.ifCond .eq 10, 3) := by decide +kernel
theorem dX5_lost_20 : decode cX5_lost 20 = .ok (.aload_n 0, 1) := by decide +kernel
theorem dX5_lost_21 : decode cX5_lost 21 = .ok (.iconst 1, 1) := by decide +kernel
theorem dX5_lost_22 : decode cX5_lost 22 = .ok (.invokevirtual 40, 3) := by decide +kernel
theorem dX5_lost_25 : decode cX5_lost 25 = .ok (.ireturn, 1) := by decide +kernel
set_option maxRecDepth 20000 in
theorem ggX5_worksNow_X4_copy : GoodIn wsX5_worksNow wsX4_copy := goodIn_r _ [6, 7, 8, 5, 9, 10, 11, 12, 13, 14, 15, 16, 17, 18, 19, 20, 21, 22, 23, 24, 25, 26, 27, 28, 29, 30, 31, 32, 33, 34, 35, 36, 37, 38, 39, 40, 41, 42, 43, 44, 45, 46, 47, 48, 49, 50, 51, 52, 53, 54, 55, 56, 57, 58, 59, 60, 61, 62, 63, 64, 65, 66, 67, 68, 69, 70, 71, 72, 73, 74, 75, 76, 77, 78, 79, 80, 81, 82, 83, 84, 85, 86, 87, 88, 89, 90, 91, 92, 93, 94, 95, 198, 199, 200, 201, 202, 203, 204, 205, 206, 207] (by decide +kernel) (by decide +kernel)
set_option maxRecDepth 20000 in
theorem gX5_worksNow_X4_copy : GoodIn wsX5_worksNow (wsV RX5 157 RX4 yX4_copy wsX4_copy) := goodIn_app (goodIn_of _ (by decide +kernel)) ggX5_worksNow_X4_copy
set_option maxRecDepth 20000 in
theorem ggX5_worksNow_X4_hinders : GoodIn wsX5_worksNow wsX4_hinders := goodIn_r _ [99, 13, 11, 100, 101, 102, 5, 103, 104, 105, 106, 107, 108, 109, 110, 111, 112, 113, 75, 76, 77, 198, 199, 200, 201, 202, 203, 204] (by decide +kernel) (by decide +kernel)
set_option maxRecDepth 20000 in
theorem gX5_worksNow_X4_hinders : GoodIn wsX5_worksNow (wsV RX5 88 RX4 yX4_hinders wsX4_hinders) := goodIn_app (goodIn_of _ (by decide +kernel)) ggX5_worksNow_X4_hinders
theorem dX5_worksNow_0 : decode cX5_worksNow 0 = .ok (.aload_n 0, 1) := by decide +kernel
theorem dX5_worksNow_1 : decode cX5_worksNow 1 = .ok (.getfield 10, 3) := by decide +kernel
theorem dX5_worksNow_4 : decode cX5_worksNow 4 = .ok (.invokevirtual 157, 3) := by decide +kernel
theorem dX5_worksNow_7 : decode cX5_worksNow 7 = .ok (.astore 4, 2) := by decide +kernel
theorem dX5_worksNow_9 : decode cX5_worksNow 9 = .ok (.iconst 0, 1) := by decide +kernel
theorem dX5_worksNow_10 : decode cX5_worksNow 10 = .ok (.istore 5, 2) := by decide +kernel
theorem dX5_worksNow_12 : decode cX5_worksNow 12 = .ok (.iload 5, 2) := by decide +kernel
theorem dX5_worksNow_14 : decode cX5_worksNow 14 = .ok (.iload_n 3, 1) := by decide +kernel
theorem dX5_worksNow_15 : decode cX5_worksNow 15 = .ok (.if_icmp .gt 27, 3) := by decide +kernel
theorem dX5_worksNow_18 : decode cX5_worksNow 18 = .ok (.aload 4, 2) := by decide +kernel
theorem dX5_worksNow_20 : decode cX5_worksNow 20 = .ok (.iload_n 1, 1) := by decide +kernel
theorem dX5_worksNow_21 : decode cX5_worksNow 21 = .ok (.iload_n 2, 1) := by decide +kernel
theorem dX5_worksNow_22 : decode cX5_worksNow 22 = .ok (.invokevirtual 88, 3) := by decide +kernel
theorem dX5_worksNow_25 : decode cX5_worksNow 25 = .ok (.ifCond .ne 6, 3) := by decide +kernel
theorem dX5_worksNow_28 : decode cX5_worksNow 28 = .ok (.iload 5, 2) := by decide +kernel
theorem dX5_worksNow_30 : decode cX5_worksNow 30 = .ok (.ireturn, 1) := by decide +kernel
set_option maxRecDepth 20000 in
theorem ggX5_worksIn_X5_isSection : GoodIn wsX5_worksIn wsX5_isSection := goodIn_r _ [5, 6, 7, 4, 8] (by decide +kernel) (by decide +kernel)
set_option maxRecDepth 20000 in
theorem gX5_worksIn_X5_isSection : GoodIn wsX5_worksIn (va_wsS RX5 36 yX5_isSection wsX5_isSection) := goodIn_app (goodIn_of _ (by decide +kernel)) ggX5_worksIn_X5_isSection
set_option maxRecDepth 20000 in
theorem ggX5_worksIn_X5_refuse : GoodIn wsX5_worksIn wsX5_refuse := goodIn_r _ [12, 1, 210, 211, 212] (by decide +kernel) (by decide +kernel)
set_option maxRecDepth 20000 in
theorem gX5_worksIn_X5_refuse : GoodIn wsX5_worksIn (wsV RX5 40 RX5 yX5_refuse wsX5_refuse) := goodIn_app (goodIn_of _ (by decide +kernel)) ggX5_worksIn_X5_refuse
set_option maxRecDepth 20000 in
theorem ggX5_worksIn_X5_is : GoodIn wsX5_worksIn wsX5_is := goodIn_r _ [8] (by decide +kernel) (by decide +kernel)
set_option maxRecDepth 20000 in
theorem gX5_worksIn_X5_is : GoodIn wsX5_worksIn (va_wsS RX5 26 yX5_is wsX5_is) := goodIn_app (goodIn_of _ (by decide +kernel)) ggX5_worksIn_X5_is
set_option maxRecDepth 20000 in
theorem ggX5_worksIn_X5_worksNow : GoodIn wsX5_worksIn wsX5_worksNow := goodIn_r _ [16, 17, 18, 19, 20, 21, 22, 23, 24, 25, 26, 27, 28, 29, 30, 31, 32, 33, 34, 35, 36, 37, 38, 39, 40, 41, 42, 43, 44, 45, 46, 47, 48, 49, 50, 51, 52, 53, 54, 55, 56, 57, 58, 59, 60, 61, 62, 63, 64, 65, 66, 67, 68, 69, 70, 71, 72, 73, 74, 75, 76, 77, 78, 79, 80, 81, 82, 83, 84, 85, 86, 87, 88, 89, 90, 91, 92, 93, 94, 95, 96, 97, 98, 99, 100, 101, 102, 103, 104, 105, 106, 107, 108, 109, 110, 111, 112, 113, 114, 115, 116, 117, 118, 119, 120, 121, 122, 123, 124, 4, 125, 126, 127, 128, 129, 130, 131, 132, 133, 134, 135, 136, 137, 138, 139, 140, 141, 142, 143, 144, 145, 146, 147, 148, 149, 150, 151, 152, 153, 154, 155, 156, 157, 158, 159, 160, 161, 162, 163, 164, 165, 166, 167, 168, 169, 170, 171, 172, 173, 174, 175, 176, 177, 178, 179, 180, 181, 182, 183, 184, 185, 186, 187, 188, 189, 190, 191, 192, 193, 194, 195, 196, 197, 198, 199, 200, 201, 202, 203, 204, 205, 206, 207, 208, 209, 210, 211, 212, 213, 214, 215, 216, 217, 218, 219, 220, 221, 222, 223, 224, 225, 226] (by decide +kernel) (by decide +kernel)
set_option maxRecDepth 20000 in
theorem gX5_worksIn_X5_worksNow : GoodIn wsX5_worksIn (wsV RX5 170 RX5 yX5_worksNow wsX5_worksNow) := goodIn_app (goodIn_of _ (by decide +kernel)) ggX5_worksIn_X5_worksNow
theorem dX5_worksIn_0 : decode cX5_worksIn 0 = .ok (.aload_n 0, 1) := by decide +kernel
theorem dX5_worksIn_1 : decode cX5_worksIn 1 = .ok (.iconst 0, 1) := by decide +kernel
theorem dX5_worksIn_2 : decode cX5_worksIn 2 = .ok (.putfield 16, 3) := by decide +kernel
theorem dX5_worksIn_5 : decode cX5_worksIn 5 = .ok (.iload_n 1, 1) := by decide +kernel
theorem dX5_worksIn_6 : decode cX5_worksIn 6 = .ok (.invokestatic 36, 3) := by decide +kernel
theorem dX5_worksIn_9 : decode cX5_worksIn 9 = .ok (.ifCond .eq 10, 3) := by decide +kernel
theorem dX5_worksIn_12 : decode cX5_worksIn 12 = .ok (.iload_n 2, 1) := by decide +kernel
theorem dX5_worksIn_13 : decode cX5_worksIn 13 = .ok (.invokestatic 36, 3) := by decide +kernel
theorem dX5_worksIn_16 : decode cX5_worksIn 16 = .ok (.ifCond .ne 9, 3) := by decide +kernel
theorem dX5_worksIn_19 : decode cX5_worksIn 19 = .ok (.aload_n 0, 1) := by decide +kernel
theorem dX5_worksIn_20 : decode cX5_worksIn 20 = .ok (.iconst 1, 1) := by decide +kernel
theorem dX5_worksIn_21 : decode cX5_worksIn 21 = .ok (.invokevirtual 40, 3) := by decide +kernel
theorem dX5_worksIn_24 : decode cX5_worksIn 24 = .ok (.ireturn, 1) := by decide +kernel
theorem dX5_worksIn_25 : decode cX5_worksIn 25 = .ok (.iload_n 2, 1) := by decide +kernel
theorem dX5_worksIn_26 : decode cX5_worksIn 26 = .ok (.iload_n 1, 1) := by decide +kernel
theorem dX5_worksIn_27 : decode cX5_worksIn 27 = .ok (.if_icmp .lt 24, 3) := by decide +kernel
theorem dX5_worksIn_30 : decode cX5_worksIn 30 = .ok (.iload_n 3, 1) := by decide +kernel
theorem dX5_worksIn_31 : decode cX5_worksIn 31 = .ok (.iconst 1, 1) := by decide +kernel
theorem dX5_worksIn_32 : decode cX5_worksIn 32 = .ok (.sipush 300, 3) := by decide +kernel
theorem dX5_worksIn_35 : decode cX5_worksIn 35 = .ok (.invokestatic 26, 3) := by decide +kernel
theorem dX5_worksIn_38 : decode cX5_worksIn 38 = .ok (.ifCond .eq 13, 3) := by decide +kernel
theorem dX5_worksIn_41 : decode cX5_worksIn 41 = .ok (.aload_n 0, 1) := by decide +kernel
theorem dX5_worksIn_42 : decode cX5_worksIn 42 = .ok (.iload_n 1, 1) := by decide +kernel
theorem dX5_worksIn_43 : decode cX5_worksIn 43 = .ok (.iload_n 2, 1) := by decide +kernel
theorem dX5_worksIn_44 : decode cX5_worksIn 44 = .ok (.iload_n 3, 1) := by decide +kernel
theorem dX5_worksIn_45 : decode cX5_worksIn 45 = .ok (.invokevirtual 170, 3) := by decide +kernel
theorem dX5_worksIn_48 : decode cX5_worksIn 48 = .ok (.goto 8, 3) := by decide +kernel
theorem dX5_worksIn_51 : decode cX5_worksIn 51 = .ok (.aload_n 0, 1) := by decide +kernel
theorem dX5_worksIn_52 : decode cX5_worksIn 52 = .ok (.iconst 2, 1) := by decide +kernel
theorem dX5_worksIn_53 : decode cX5_worksIn 53 = .ok (.invokevirtual 40, 3) := by decide +kernel
theorem dX5_worksIn_56 : decode cX5_worksIn 56 = .ok (.ireturn, 1) := by decide +kernel
theorem dX5_add_0 : decode cX5_add 0 = .ok (.aload_n 0, 1) := by decide +kernel
theorem dX5_add_1 : decode cX5_add 1 = .ok (.aload_n 0, 1) := by decide +kernel
theorem dX5_add_2 : decode cX5_add 2 = .ok (.getfield 173, 3) := by decide +kernel
theorem dX5_add_5 : decode cX5_add 5 = .ok (.ldc2_w 176, 3) := by decide +kernel
theorem dX5_add_8 : decode cX5_add 8 = .ok (.lmul, 1) := by decide +kernel
theorem dX5_add_9 : decode cX5_add 9 = .ok (.iload_n 1, 1) := by decide +kernel
theorem dX5_add_10 : decode cX5_add 10 = .ok (.i2l, 1) := by decide +kernel
theorem dX5_add_11 : decode cX5_add 11 = .ok (.ladd, 1) := by decide +kernel
theorem dX5_add_12 : decode cX5_add 12 = .ok (.putfield 173, 3) := by decide +kernel
theorem dX5_add_15 : decode cX5_add 15 = .ok (.return_, 1) := by decide +kernel
set_option maxRecDepth 20000 in
theorem ggX5_digest_X5_manyNow : GoodIn wsX5_digest wsX5_manyNow := goodIn_r _ [9, 10, 4, 11, 12, 13, 14, 15, 16, 17, 18, 19, 20, 21, 22, 23, 263, 264, 265, 266, 267, 268, 269, 270, 271, 272, 273, 274, 275] (by decide +kernel) (by decide +kernel)
set_option maxRecDepth 20000 in
theorem gX5_digest_X5_manyNow : GoodIn wsX5_digest (wsV RX5 154 RX5 yX5_manyNow wsX5_manyNow) := goodIn_app (goodIn_of _ (by decide +kernel)) ggX5_digest_X5_manyNow
set_option maxRecDepth 20000 in
theorem ggX5_digest_X5_add : GoodIn wsX5_digest wsX5_add := goodIn_r _ [27, 3, 28, 263, 264, 265] (by decide +kernel) (by decide +kernel)
set_option maxRecDepth 20000 in
theorem gX5_digest_X5_add : GoodIn wsX5_digest (wsV RX5 180 RX5 yX5_add wsX5_add) := goodIn_app (goodIn_of _ (by decide +kernel)) ggX5_digest_X5_add
set_option maxRecDepth 20000 in
theorem ggX5_digest_X5_ofSectionNow : GoodIn wsX5_digest wsX5_ofSectionNow := goodIn_r _ [32, 4, 33, 34, 35, 36, 14, 37, 17, 38, 39, 40, 41, 42, 8, 43, 44, 45, 46, 47, 48, 49, 50, 51, 52, 21, 53, 54, 55, 56, 57, 58, 59, 60, 61, 62, 63, 64, 65, 66, 67, 68, 69, 70, 71, 72, 73, 74, 75, 76, 77, 78, 79, 80, 81, 82, 83, 84, 263, 264, 265, 266, 267, 268, 269, 270, 271, 272, 276, 277, 278, 279, 273, 274, 275] (by decide +kernel) (by decide +kernel)
set_option maxRecDepth 20000 in
theorem gX5_digest_X5_ofSectionNow : GoodIn wsX5_digest (wsV RX5 124 RX5 yX5_ofSectionNow wsX5_ofSectionNow) := goodIn_app (goodIn_of _ (by decide +kernel)) ggX5_digest_X5_ofSectionNow
set_option maxRecDepth 20000 in
theorem ggX5_digest_X5_worksNow : GoodIn wsX5_digest wsX5_worksNow := goodIn_r _ [257, 4, 148, 149, 150, 14, 151, 152, 153, 111, 95, 17, 94, 16, 137, 139, 154, 155, 156, 157, 62, 63, 158, 10, 159, 160, 21, 161, 162, 163, 164, 165, 166, 167, 168, 169, 170, 171, 172, 173, 174, 175, 176, 177, 178, 179, 180, 181, 182, 183, 184, 185, 186, 187, 66, 23, 188, 189, 190, 191, 192, 193, 194, 195, 196, 197, 198, 199, 200, 201, 202, 203, 204, 205, 206, 47, 48, 49, 207, 208, 209, 210, 211, 212, 105, 106, 213, 214, 215, 216, 217, 218, 219, 220, 221, 222, 258, 259, 260, 261, 262, 35, 36, 37, 38, 39, 40, 41, 42, 8, 43, 44, 45, 46, 223, 224, 225, 226, 227, 228, 229, 230, 231, 232, 233, 234, 235, 129, 130, 131, 132, 133, 134, 135, 136, 138, 121, 140, 51, 52, 53, 54, 55, 56, 57, 58, 59, 60, 61, 64, 65, 67, 141, 69, 70, 71, 72, 142, 74, 75, 76, 77, 78, 79, 80, 81, 143, 97, 98, 99, 236, 237, 238, 239, 104, 240, 118, 119, 120, 122, 91, 92, 93, 123, 101, 102, 103, 107, 108, 109, 110, 241, 242, 243, 244, 263, 264, 265, 266, 267, 268, 269, 270, 271, 272, 273, 274, 275, 276, 277, 278, 279] (by decide +kernel) (by decide +kernel)
set_option maxRecDepth 20000 in
theorem gX5_digest_X5_worksNow : GoodIn wsX5_digest (wsV RX5 170 RX5 yX5_worksNow wsX5_worksNow) := goodIn_app (goodIn_of _ (by decide +kernel)) ggX5_digest_X5_worksNow
theorem dX5_digest_0 : decode cX5_digest 0 = .ok (.aload_n 0, 1) := by decide +kernel
theorem dX5_digest_1 : decode cX5_digest 1 = .ok (.iconst 0, 1) := by decide +kernel
theorem dX5_digest_2 : decode cX5_digest 2 = .ok (.putfield 16, 3) := by decide +kernel
theorem dX5_digest_5 : decode cX5_digest 5 = .ok (.aload_n 0, 1) := by decide +kernel
theorem dX5_digest_6 : decode cX5_digest 6 = .ok (.ldc2_w 178, 3) := by decide +kernel
theorem dX5_digest_9 : decode cX5_digest 9 = .ok (.putfield 173, 3) := by decide +kernel
theorem dX5_digest_12 : decode cX5_digest 12 = .ok (.iconst 0, 1) := by decide +kernel
theorem dX5_digest_13 : decode cX5_digest 13 = .ok (.istore_n 1, 1) := by decide +kernel
theorem dX5_digest_14 : decode cX5_digest 14 = .ok (.iload_n 1, 1) := by decide +kernel
theorem dX5_digest_15 : decode cX5_digest 15 = .ok (.bipush 10, 2) := by decide +kernel
theorem dX5_digest_17 : decode cX5_digest 17 = .ok (.if_icmp .ge 18, 3) := by decide +kernel
theorem dX5_digest_20 : decode cX5_digest 20 = .ok (.aload_n 0, 1) := by decide +kernel
theorem dX5_digest_21 : decode cX5_digest 21 = .ok (.aload_n 0, 1) := by decide +kernel
theorem dX5_digest_22 : decode cX5_digest 22 = .ok (.iload_n 1, 1) := by decide +kernel
theorem dX5_digest_23 : decode cX5_digest 23 = .ok (.invokevirtual 154, 3) := by decide +kernel
theorem dX5_digest_26 : decode cX5_digest 26 = .ok (.invokevirtual 180, 3) := by decide +kernel
theorem dX5_digest_29 : decode cX5_digest 29 = .ok (.iinc 1 1, 3) := by decide +kernel
theorem dX5_digest_32 : decode cX5_digest 32 = .ok (.goto (-18), 3) := by decide +kernel
theorem dX5_digest_35 : decode cX5_digest 35 = .ok (.iconst 0, 1) := by decide +kernel
theorem dX5_digest_36 : decode cX5_digest 36 = .ok (.istore_n 1, 1) := by decide +kernel
theorem dX5_digest_37 : decode cX5_digest 37 = .ok (.iload_n 1, 1) := by decide +kernel
theorem dX5_digest_38 : decode cX5_digest 38 = .ok (.bipush 20, 2) := by decide +kernel
theorem dX5_digest_40 : decode cX5_digest 40 = .ok (.if_icmp .ge 32, 3) := by decide +kernel
theorem dX5_digest_43 : decode cX5_digest 43 = .ok (.iconst 0, 1) := by decide +kernel
theorem dX5_digest_44 : decode cX5_digest 44 = .ok (.istore_n 2, 1) := by decide +kernel
theorem dX5_digest_45 : decode cX5_digest 45 = .ok (.iload_n 2, 1) := by decide +kernel
theorem dX5_digest_46 : decode cX5_digest 46 = .ok (.iconst 5, 1) := by decide +kernel
theorem dX5_digest_47 : decode cX5_digest 47 = .ok (.if_icmp .ge 19, 3) := by decide +kernel
theorem dX5_digest_50 : decode cX5_digest 50 = .ok (.aload_n 0, 1) := by decide +kernel
theorem dX5_digest_51 : decode cX5_digest 51 = .ok (.aload_n 0, 1) := by decide +kernel
theorem dX5_digest_52 : decode cX5_digest 52 = .ok (.iload_n 1, 1) := by decide +kernel
theorem dX5_digest_53 : decode cX5_digest 53 = .ok (.iload_n 2, 1) := by decide +kernel
theorem dX5_digest_54 : decode cX5_digest 54 = .ok (.invokevirtual 124, 3) := by decide +kernel
theorem dX5_digest_57 : decode cX5_digest 57 = .ok (.invokevirtual 180, 3) := by decide +kernel
theorem dX5_digest_60 : decode cX5_digest 60 = .ok (.iinc 2 1, 3) := by decide +kernel
theorem dX5_digest_63 : decode cX5_digest 63 = .ok (.goto (-18), 3) := by decide +kernel
theorem dX5_digest_66 : decode cX5_digest 66 = .ok (.iinc 1 1, 3) := by decide +kernel
theorem dX5_digest_69 : decode cX5_digest 69 = .ok (.goto (-32), 3) := by decide +kernel
theorem dX5_digest_72 : decode cX5_digest 72 = .ok (.iconst 0, 1) := by decide +kernel
theorem dX5_digest_73 : decode cX5_digest 73 = .ok (.istore_n 1, 1) := by decide +kernel
theorem dX5_digest_74 : decode cX5_digest 74 = .ok (.iload_n 1, 1) := by decide +kernel
theorem dX5_digest_75 : decode cX5_digest 75 = .ok (.aload_n 0, 1) := by decide +kernel
theorem dX5_digest_76 : decode cX5_digest 76 = .ok (.getfield 10, 3) := by decide +kernel
theorem dX5_digest_79 : decode cX5_digest 79 = .ok (.getfield 30, 3) := by decide +kernel
theorem dX5_digest_82 : decode cX5_digest 82 = .ok (.if_icmp .ge 98, 3) := by decide +kernel
theorem dX5_digest_180 : decode cX5_digest 180 = .ok (.iconst 0, 1) := by decide +kernel
theorem dX5_digest_181 : decode cX5_digest 181 = .ok (.istore_n 1, 1) := by decide +kernel
theorem dX5_digest_182 : decode cX5_digest 182 = .ok (.iload_n 1, 1) := by decide +kernel
theorem dX5_digest_183 : decode cX5_digest 183 = .ok (.aload_n 0, 1) := by decide +kernel
theorem dX5_digest_184 : decode cX5_digest 184 = .ok (.getfield 10, 3) := by decide +kernel
theorem dX5_digest_187 : decode cX5_digest 187 = .ok (.getfield 33, 3) := by decide +kernel
theorem dX5_digest_190 : decode cX5_digest 190 = .ok (.if_icmp .ge 37, 3) := by decide +kernel
theorem dX5_digest_227 : decode cX5_digest 227 = .ok (.aload_n 0, 1) := by decide +kernel
theorem dX5_digest_228 : decode cX5_digest 228 = .ok (.aload_n 0, 1) := by decide +kernel
theorem dX5_digest_229 : decode cX5_digest 229 = .ok (.iconst 5, 1) := by decide +kernel
theorem dX5_digest_230 : decode cX5_digest 230 = .ok (.bipush 6, 2) := by decide +kernel
theorem dX5_digest_232 : decode cX5_digest 232 = .ok (.bipush 60, 2) := by decide +kernel
theorem dX5_digest_234 : decode cX5_digest 234 = .ok (.invokevirtual 170, 3) := by decide +kernel
theorem dX5_digest_237 : decode cX5_digest 237 = .ok (.invokevirtual 180, 3) := by decide +kernel
theorem dX5_digest_240 : decode cX5_digest 240 = .ok (.aload_n 0, 1) := by decide +kernel
theorem dX5_digest_241 : decode cX5_digest 241 = .ok (.getfield 173, 3) := by decide +kernel
theorem dX5_digest_244 : decode cX5_digest 244 = .ok (.lreturn, 1) := by decide +kernel
theorem dJxa1e45_init_da8c8_0 : decode cJxa1e45_init_da8c8 0 = .ok (.aload_n 0, 1) := by decide +kernel
theorem dJxa1e45_init_da8c8_1 : decode cJxa1e45_init_da8c8 1 = .ok (.invokespecial 1, 3) := by decide +kernel
theorem dJxa1e45_init_da8c8_4 : decode cJxa1e45_init_da8c8 4 = .ok (.return_, 1) := by decide +kernel
set_option maxRecDepth 20000 in
theorem ggJxc12de_init_da8c8_Jxa1e45_init_da8c8 : GoodIn wsJxc12de_init_da8c8 wsJxa1e45_init_da8c8 := goodIn_r _ [5, 6, 7, 8] (by decide +kernel) (by decide +kernel)
set_option maxRecDepth 20000 in
theorem gJxc12de_init_da8c8_Jxa1e45_init_da8c8 : GoodIn wsJxc12de_init_da8c8 (wsJxa1e45_init_da8c8) := ggJxc12de_init_da8c8_Jxa1e45_init_da8c8
theorem dJxc12de_init_da8c8_0 : decode cJxc12de_init_da8c8 0 = .ok (.aload_n 0, 1) := by decide +kernel
theorem dJxc12de_init_da8c8_1 : decode cJxc12de_init_da8c8 1 = .ok (.invokespecial 1, 3) := by decide +kernel
theorem dJxc12de_init_da8c8_4 : decode cJxc12de_init_da8c8 4 = .ok (.aload_n 0, 1) := by decide +kernel
theorem dJxc12de_init_da8c8_5 : decode cJxc12de_init_da8c8 5 = .ok (.iconst 0, 1) := by decide +kernel
theorem dJxc12de_init_da8c8_6 : decode cJxc12de_init_da8c8 6 = .ok (.putfield 7, 3) := by decide +kernel
theorem dJxc12de_init_da8c8_9 : decode cJxc12de_init_da8c8 9 = .ok (.return_, 1) := by decide +kernel
theorem dJx35411_init_45d68_0 : decode cJx35411_init_45d68 0 = .ok (.aload_n 0, 1) := by decide +kernel
theorem dJx35411_init_45d68_1 : decode cJx35411_init_45d68 1 = .ok (.aload_n 1, 1) := by decide +kernel
theorem dJx35411_init_45d68_2 : decode cJx35411_init_45d68 2 = .ok (.putfield 1, 3) := by decide +kernel
theorem dJx35411_init_45d68_5 : decode cJx35411_init_45d68 5 = .ok (.aload_n 0, 1) := by decide +kernel
theorem dJx35411_init_45d68_6 : decode cJx35411_init_45d68 6 = .ok (.invokespecial 7, 3) := by decide +kernel
theorem dJx35411_init_45d68_9 : decode cJx35411_init_45d68 9 = .ok (.aload_n 0, 1) := by decide +kernel
theorem dJx35411_init_45d68_10 : decode cJx35411_init_45d68 10 = .ok (.iconst (-1), 1) := by decide +kernel
theorem dJx35411_init_45d68_11 : decode cJx35411_init_45d68 11 = .ok (.putfield 13, 3) := by decide +kernel
theorem dJx35411_init_45d68_14 : decode cJx35411_init_45d68 14 = .ok (.aload_n 0, 1) := by decide +kernel
theorem dJx35411_init_45d68_15 : decode cJx35411_init_45d68 15 = .ok (.aload_n 0, 1) := by decide +kernel
theorem dJx35411_init_45d68_16 : decode cJx35411_init_45d68 16 = .ok (.getfield 1, 3) := by decide +kernel
theorem dJx35411_init_45d68_19 : decode cJx35411_init_45d68 19 = .ok (.getfield 17, 3) := by decide +kernel
theorem dJx35411_init_45d68_22 : decode cJx35411_init_45d68 22 = .ok (.putfield 22, 3) := by decide +kernel
theorem dJx35411_init_45d68_25 : decode cJx35411_init_45d68 25 = .ok (.return_, 1) := by decide +kernel
theorem dJx35411_hasNext_aae02_0 : decode cJx35411_hasNext_aae02 0 = .ok (.aload_n 0, 1) := by decide +kernel
theorem dJx35411_hasNext_aae02_1 : decode cJx35411_hasNext_aae02 1 = .ok (.getfield 25, 3) := by decide +kernel
theorem dJx35411_hasNext_aae02_4 : decode cJx35411_hasNext_aae02 4 = .ok (.aload_n 0, 1) := by decide +kernel
theorem dJx35411_hasNext_aae02_5 : decode cJx35411_hasNext_aae02 5 = .ok (.getfield 1, 3) := by decide +kernel
theorem dJx35411_hasNext_aae02_8 : decode cJx35411_hasNext_aae02 8 = .ok (.getfield 28, 3) := by decide +kernel
theorem dJx35411_hasNext_aae02_11 : decode cJx35411_hasNext_aae02 11 = .ok (.if_icmp .eq 7, 3) := by decide +kernel
theorem dJx35411_hasNext_aae02_18 : decode cJx35411_hasNext_aae02 18 = .ok (.iconst 0, 1) := by decide +kernel
theorem dJx35411_hasNext_aae02_19 : decode cJx35411_hasNext_aae02 19 = .ok (.ireturn, 1) := by decide +kernel
set_option maxRecDepth 20000 in
theorem ggJx4a65c_init_da8c8_Jxc12de_init_da8c8 : GoodIn wsJx4a65c_init_da8c8 wsJxc12de_init_da8c8 := goodIn_r _ [6, 7, 8, 9, 10, 11, 12, 13, 14, 15, 16, 17] (by decide +kernel) (by decide +kernel)
set_option maxRecDepth 20000 in
theorem gJx4a65c_init_da8c8_Jxc12de_init_da8c8 : GoodIn wsJx4a65c_init_da8c8 (wsJxc12de_init_da8c8) := ggJx4a65c_init_da8c8_Jxc12de_init_da8c8
theorem dJx4a65c_init_da8c8_0 : decode cJx4a65c_init_da8c8 0 = .ok (.aload_n 0, 1) := by decide +kernel
theorem dJx4a65c_init_da8c8_1 : decode cJx4a65c_init_da8c8 1 = .ok (.invokespecial 1, 3) := by decide +kernel
theorem dJx4a65c_init_da8c8_4 : decode cJx4a65c_init_da8c8 4 = .ok (.aload_n 0, 1) := by decide +kernel
theorem dJx4a65c_init_da8c8_5 : decode cJx4a65c_init_da8c8 5 = .ok (.getstatic 39, 3) := by decide +kernel
theorem dJx4a65c_init_da8c8_8 : decode cJx4a65c_init_da8c8 8 = .ok (.putfield 9, 3) := by decide +kernel
theorem dJx4a65c_init_da8c8_11 : decode cJx4a65c_init_da8c8 11 = .ok (.return_, 1) := by decide +kernel
theorem dJx4a65c_grow_92f84_0 : decode cJx4a65c_grow_92f84 0 = .ok (.aload_n 0, 1) := by decide +kernel
theorem dJx4a65c_grow_92f84_1 : decode cJx4a65c_grow_92f84 1 = .ok (.getfield 9, 3) := by decide +kernel
theorem dJx4a65c_grow_92f84_4 : decode cJx4a65c_grow_92f84 4 = .ok (.arraylength, 1) := by decide +kernel
theorem dJx4a65c_grow_92f84_5 : decode cJx4a65c_grow_92f84 5 = .ok (.istore_n 2, 1) := by decide +kernel
theorem dJx4a65c_grow_92f84_6 : decode cJx4a65c_grow_92f84 6 = .ok (.iload_n 2, 1) := by decide +kernel
theorem dJx4a65c_grow_92f84_7 : decode cJx4a65c_grow_92f84 7 = .ok (.ifCond .gt 13, 3) := by decide +kernel
theorem dJx4a65c_grow_92f84_10 : decode cJx4a65c_grow_92f84 10 = .ok (.aload_n 0, 1) := by decide +kernel
theorem dJx4a65c_grow_92f84_11 : decode cJx4a65c_grow_92f84 11 = .ok (.getfield 9, 3) := by decide +kernel
theorem dJx4a65c_grow_92f84_14 : decode cJx4a65c_grow_92f84 14 = .ok (.getstatic 39, 3) := by decide +kernel
theorem dJx4a65c_grow_92f84_17 : decode cJx4a65c_grow_92f84 17 = .ok (.if_acmp .eq 28, 3) := by decide +kernel
theorem dJx4a65c_grow_92f84_45 : decode cJx4a65c_grow_92f84 45 = .ok (.aload_n 0, 1) := by decide +kernel
theorem dJx4a65c_grow_92f84_46 : decode cJx4a65c_grow_92f84 46 = .ok (.bipush 10, 2) := by decide +kernel
theorem dJx4a65c_grow_92f84_48 : decode cJx4a65c_grow_92f84 48 = .ok (.iload_n 1, 1) := by decide +kernel
theorem dJx4a65c_grow_92f84_49 : decode cJx4a65c_grow_92f84 49 = .ok (.invokestatic 79, 3) := by decide +kernel
theorem dJx4a65c_grow_92f84_52 : decode cJx4a65c_grow_92f84 52 = .ok (.anewarray 7, 3) := by decide +kernel
theorem dJx4a65c_grow_92f84_55 : decode cJx4a65c_grow_92f84 55 = .ok (.dup_x1, 1) := by decide +kernel
theorem dJx4a65c_grow_92f84_56 : decode cJx4a65c_grow_92f84 56 = .ok (.putfield 9, 3) := by decide +kernel
theorem dJx4a65c_grow_92f84_59 : decode cJx4a65c_grow_92f84 59 = .ok (.areturn, 1) := by decide +kernel
set_option maxRecDepth 20000 in
theorem ggJx4a65c_grow_d5877_Jx4a65c_grow_92f84 : GoodIn wsJx4a65c_grow_d5877 wsJx4a65c_grow_92f84 := goodIn_r _ [6, 7, 8, 9, 10, 11, 12, 13, 14, 15, 16, 17, 18, 19, 20, 21, 22, 23, 24, 25, 26, 27, 28, 29, 30, 31, 32, 33, 34, 35, 36, 37, 38, 39, 40, 41, 42, 43, 44, 45] (by decide +kernel) (by decide +kernel)
set_option maxRecDepth 20000 in
theorem gJx4a65c_grow_d5877_Jx4a65c_grow_92f84 : GoodIn wsJx4a65c_grow_d5877 (wsV RJx4a65c 69 RJx4a65c yJx4a65c_grow_92f84 wsJx4a65c_grow_92f84) := goodIn_app (goodIn_of _ (by decide +kernel)) ggJx4a65c_grow_d5877_Jx4a65c_grow_92f84
theorem dJx4a65c_grow_d5877_0 : decode cJx4a65c_grow_d5877 0 = .ok (.aload_n 0, 1) := by decide +kernel
theorem dJx4a65c_grow_d5877_1 : decode cJx4a65c_grow_d5877 1 = .ok (.aload_n 0, 1) := by decide +kernel
theorem dJx4a65c_grow_d5877_2 : decode cJx4a65c_grow_d5877 2 = .ok (.getfield 48, 3) := by decide +kernel
theorem dJx4a65c_grow_d5877_5 : decode cJx4a65c_grow_d5877 5 = .ok (.iconst 1, 1) := by decide +kernel
theorem dJx4a65c_grow_d5877_6 : decode cJx4a65c_grow_d5877 6 = .ok (.iadd, 1) := by decide +kernel
theorem dJx4a65c_grow_d5877_7 : decode cJx4a65c_grow_d5877 7 = .ok (.invokevirtual 69, 3) := by decide +kernel
theorem dJx4a65c_grow_d5877_10 : decode cJx4a65c_grow_d5877 10 = .ok (.areturn, 1) := by decide +kernel
theorem dJx4a65c_size_8abf5_0 : decode cJx4a65c_size_8abf5 0 = .ok (.aload_n 0, 1) := by decide +kernel
theorem dJx4a65c_size_8abf5_1 : decode cJx4a65c_size_8abf5 1 = .ok (.getfield 48, 3) := by decide +kernel
theorem dJx4a65c_size_8abf5_4 : decode cJx4a65c_size_8abf5 4 = .ok (.ireturn, 1) := by decide +kernel
set_option maxRecDepth 20000 in
theorem ggJx4a65c_toArray_d5877_J7_copyOf_1904c : GoodIn wsJx4a65c_toArray_d5877 wsJ7_copyOf_1904c := goodIn_r _ [6, 7, 8, 9, 10, 11, 12, 5, 13, 14, 15, 16, 17, 18, 19, 20, 21, 22, 23] (by decide +kernel) (by decide +kernel)
set_option maxRecDepth 20000 in
theorem gJx4a65c_toArray_d5877_J7_copyOf_1904c : GoodIn wsJx4a65c_toArray_d5877 (va_wsS RJx4a65c 66 yJ7_copyOf_1904c wsJ7_copyOf_1904c) := goodIn_app (goodIn_of _ (by decide +kernel)) ggJx4a65c_toArray_d5877_J7_copyOf_1904c
theorem dJx4a65c_toArray_d5877_0 : decode cJx4a65c_toArray_d5877 0 = .ok (.aload_n 0, 1) := by decide +kernel
theorem dJx4a65c_toArray_d5877_1 : decode cJx4a65c_toArray_d5877 1 = .ok (.getfield 9, 3) := by decide +kernel
theorem dJx4a65c_toArray_d5877_4 : decode cJx4a65c_toArray_d5877 4 = .ok (.aload_n 0, 1) := by decide +kernel
theorem dJx4a65c_toArray_d5877_5 : decode cJx4a65c_toArray_d5877 5 = .ok (.getfield 48, 3) := by decide +kernel
theorem dJx4a65c_toArray_d5877_8 : decode cJx4a65c_toArray_d5877 8 = .ok (.invokestatic 66, 3) := by decide +kernel
theorem dJx4a65c_toArray_d5877_11 : decode cJx4a65c_toArray_d5877 11 = .ok (.areturn, 1) := by decide +kernel
set_option maxRecDepth 20000 in
theorem ggJx4a65c_add_72be8_Jx4a65c_grow_d5877 : GoodIn wsJx4a65c_add_72be8 wsJx4a65c_grow_d5877 := goodIn_r _ [6, 1, 7, 8, 9, 5, 10, 11, 12, 13, 14, 15, 16, 17, 18, 19, 20, 21, 22, 23, 24, 25, 26, 27, 28, 29, 30, 31, 32, 33, 34, 35, 36, 37, 38, 39, 40, 41, 42, 43, 44, 45, 46, 47, 48, 49] (by decide +kernel) (by decide +kernel)
set_option maxRecDepth 20000 in
theorem gJx4a65c_add_72be8_Jx4a65c_grow_d5877 : GoodIn wsJx4a65c_add_72be8 (wsV RJx4a65c 129 RJx4a65c yJx4a65c_grow_d5877 wsJx4a65c_grow_d5877) := goodIn_app (goodIn_of _ (by decide +kernel)) ggJx4a65c_add_72be8_Jx4a65c_grow_d5877
theorem dJx4a65c_add_72be8_0 : decode cJx4a65c_add_72be8 0 = .ok (.iload_n 3, 1) := by decide +kernel
theorem dJx4a65c_add_72be8_1 : decode cJx4a65c_add_72be8 1 = .ok (.aload_n 2, 1) := by decide +kernel
theorem dJx4a65c_add_72be8_2 : decode cJx4a65c_add_72be8 2 = .ok (.arraylength, 1) := by decide +kernel
theorem dJx4a65c_add_72be8_3 : decode cJx4a65c_add_72be8 3 = .ok (.if_icmp .ne 8, 3) := by decide +kernel
theorem dJx4a65c_add_72be8_6 : decode cJx4a65c_add_72be8 6 = .ok (.aload_n 0, 1) := by decide +kernel
theorem dJx4a65c_add_72be8_7 : decode cJx4a65c_add_72be8 7 = .ok (.invokevirtual 129, 3) := by decide +kernel
theorem dJx4a65c_add_72be8_10 : decode cJx4a65c_add_72be8 10 = .ok (.astore_n 2, 1) := by decide +kernel
theorem dJx4a65c_add_72be8_11 : decode cJx4a65c_add_72be8 11 = .ok (.aload_n 2, 1) := by decide +kernel
theorem dJx4a65c_add_72be8_12 : decode cJx4a65c_add_72be8 12 = .ok (.iload_n 3, 1) := by decide +kernel
theorem dJx4a65c_add_72be8_13 : decode cJx4a65c_add_72be8 13 = .ok (.aload_n 1, 1) := by decide +kernel
theorem dJx4a65c_add_72be8_14 : decode cJx4a65c_add_72be8 14 = .ok (.aastore, 1) := by decide +kernel
theorem dJx4a65c_add_72be8_15 : decode cJx4a65c_add_72be8 15 = .ok (.aload_n 0, 1) := by decide +kernel
theorem dJx4a65c_add_72be8_16 : decode cJx4a65c_add_72be8 16 = .ok (.iload_n 3, 1) := by decide +kernel
theorem dJx4a65c_add_72be8_17 : decode cJx4a65c_add_72be8 17 = .ok (.iconst 1, 1) := by decide +kernel
theorem dJx4a65c_add_72be8_18 : decode cJx4a65c_add_72be8 18 = .ok (.iadd, 1) := by decide +kernel
theorem dJx4a65c_add_72be8_19 : decode cJx4a65c_add_72be8 19 = .ok (.putfield 48, 3) := by decide +kernel
theorem dJx4a65c_add_72be8_22 : decode cJx4a65c_add_72be8 22 = .ok (.return_, 1) := by decide +kernel
set_option maxRecDepth 20000 in
theorem ggJx4a65c_add_9ea2d_Jx4a65c_add_72be8 : GoodIn wsJx4a65c_add_9ea2d wsJx4a65c_add_72be8 := goodIn_r _ [9, 4, 10, 11, 12, 8, 13, 14, 15, 16, 17, 3, 18, 19, 20, 21, 22, 23, 24, 25, 26, 27, 28, 29, 30, 31, 32, 33, 34, 35, 36, 37, 38, 39, 40, 41, 42, 43, 44, 45, 46, 47, 48, 49, 50, 51, 52, 53, 54, 55] (by decide +kernel) (by decide +kernel)
set_option maxRecDepth 20000 in
theorem gJx4a65c_add_9ea2d_Jx4a65c_add_72be8 : GoodIn wsJx4a65c_add_9ea2d (wsV RJx4a65c 131 RJx4a65c yJx4a65c_add_72be8 wsJx4a65c_add_72be8) := goodIn_app (goodIn_of _ (by decide +kernel)) ggJx4a65c_add_9ea2d_Jx4a65c_add_72be8
theorem dJx4a65c_add_9ea2d_0 : decode cJx4a65c_add_9ea2d 0 = .ok (.aload_n 0, 1) := by decide +kernel
theorem dJx4a65c_add_9ea2d_1 : decode cJx4a65c_add_9ea2d 1 = .ok (.dup, 1) := by decide +kernel
theorem dJx4a65c_add_9ea2d_2 : decode cJx4a65c_add_9ea2d 2 = .ok (.getfield 63, 3) := by decide +kernel
theorem dJx4a65c_add_9ea2d_5 : decode cJx4a65c_add_9ea2d 5 = .ok (.iconst 1, 1) := by decide +kernel
theorem dJx4a65c_add_9ea2d_6 : decode cJx4a65c_add_9ea2d 6 = .ok (.iadd, 1) := by decide +kernel
theorem dJx4a65c_add_9ea2d_7 : decode cJx4a65c_add_9ea2d 7 = .ok (.putfield 63, 3) := by decide +kernel
theorem dJx4a65c_add_9ea2d_10 : decode cJx4a65c_add_9ea2d 10 = .ok (.aload_n 0, 1) := by decide +kernel
theorem dJx4a65c_add_9ea2d_11 : decode cJx4a65c_add_9ea2d 11 = .ok (.aload_n 1, 1) := by decide +kernel
theorem dJx4a65c_add_9ea2d_12 : decode cJx4a65c_add_9ea2d 12 = .ok (.aload_n 0, 1) := by decide +kernel
theorem dJx4a65c_add_9ea2d_13 : decode cJx4a65c_add_9ea2d 13 = .ok (.getfield 9, 3) := by decide +kernel
theorem dJx4a65c_add_9ea2d_16 : decode cJx4a65c_add_9ea2d 16 = .ok (.aload_n 0, 1) := by decide +kernel
theorem dJx4a65c_add_9ea2d_17 : decode cJx4a65c_add_9ea2d 17 = .ok (.getfield 48, 3) := by decide +kernel
theorem dJx4a65c_add_9ea2d_20 : decode cJx4a65c_add_9ea2d 20 = .ok (.invokevirtual 131, 3) := by decide +kernel
theorem dJx4a65c_add_9ea2d_23 : decode cJx4a65c_add_9ea2d 23 = .ok (.iconst 1, 1) := by decide +kernel
theorem dJx4a65c_add_9ea2d_24 : decode cJx4a65c_add_9ea2d 24 = .ok (.ireturn, 1) := by decide +kernel
set_option maxRecDepth 20000 in
theorem ggJx4a65c_addAll_f0b43_Jx4a65c_toArray_d5877 : GoodIn wsJx4a65c_addAll_f0b43 wsJx4a65c_toArray_d5877 := goodIn_r _ [13, 3, 4, 14, 15, 16, 17, 18, 19, 20, 21, 22, 23, 24, 25, 26, 27, 28, 29, 30, 31, 6, 7, 8, 50, 51, 52] (by decide +kernel) (by decide +kernel)
set_option maxRecDepth 20000 in
theorem gJx4a65c_addAll_f0b43_Jx4a65c_toArray_d5877_f42Jx4a65c : GoodIn wsJx4a65c_addAll_f0b43 (va_wsF RJx4a65c 42 RJx4a65c ⟨"java/util/Collection", "toArray", "()[Ljava/lang/Object;"⟩ yJx4a65c_toArray_d5877 wsJx4a65c_toArray_d5877) := goodIn_app (goodIn_of _ (by decide +kernel)) ggJx4a65c_addAll_f0b43_Jx4a65c_toArray_d5877
theorem dJx4a65c_addAll_f0b43_0 : decode cJx4a65c_addAll_f0b43 0 = .ok (.aload_n 1, 1) := by decide +kernel
theorem dJx4a65c_addAll_f0b43_1 : decode cJx4a65c_addAll_f0b43 1 = .ok (.invokeinterface 42 1, 5) := by decide +kernel
theorem dJx4a65c_addAll_f0b43_6 : decode cJx4a65c_addAll_f0b43 6 = .ok (.astore_n 2, 1) := by decide +kernel
theorem dJx4a65c_addAll_f0b43_7 : decode cJx4a65c_addAll_f0b43 7 = .ok (.aload_n 0, 1) := by decide +kernel
theorem dJx4a65c_addAll_f0b43_8 : decode cJx4a65c_addAll_f0b43 8 = .ok (.dup, 1) := by decide +kernel
theorem dJx4a65c_addAll_f0b43_9 : decode cJx4a65c_addAll_f0b43 9 = .ok (.getfield 63, 3) := by decide +kernel
theorem dJx4a65c_addAll_f0b43_12 : decode cJx4a65c_addAll_f0b43 12 = .ok (.iconst 1, 1) := by decide +kernel
theorem dJx4a65c_addAll_f0b43_13 : decode cJx4a65c_addAll_f0b43 13 = .ok (.iadd, 1) := by decide +kernel
theorem dJx4a65c_addAll_f0b43_14 : decode cJx4a65c_addAll_f0b43 14 = .ok (.putfield 63, 3) := by decide +kernel
theorem dJx4a65c_addAll_f0b43_17 : decode cJx4a65c_addAll_f0b43 17 = .ok (.aload_n 2, 1) := by decide +kernel
theorem dJx4a65c_addAll_f0b43_18 : decode cJx4a65c_addAll_f0b43 18 = .ok (.arraylength, 1) := by decide +kernel
theorem dJx4a65c_addAll_f0b43_19 : decode cJx4a65c_addAll_f0b43 19 = .ok (.istore_n 3, 1) := by decide +kernel
theorem dJx4a65c_addAll_f0b43_20 : decode cJx4a65c_addAll_f0b43 20 = .ok (.iload_n 3, 1) := by decide +kernel
theorem dJx4a65c_addAll_f0b43_21 : decode cJx4a65c_addAll_f0b43 21 = .ok (.ifCond .ne 5, 3) := by decide +kernel
theorem dJx4a65c_addAll_f0b43_24 : decode cJx4a65c_addAll_f0b43 24 = .ok (.iconst 0, 1) := by decide +kernel
theorem dJx4a65c_addAll_f0b43_25 : decode cJx4a65c_addAll_f0b43 25 = .ok (.ireturn, 1) := by decide +kernel
set_option maxRecDepth 20000 in
theorem ggJx4a65c_iterator_32c93_Jx35411_init_45d68 : GoodIn wsJx4a65c_iterator_32c93 wsJx35411_init_45d68 := goodIn_r _ [6, 7, 8, 9, 10, 11, 12, 13, 14, 15, 16, 17, 18, 19, 20, 21] (by decide +kernel) (by decide +kernel)
set_option maxRecDepth 20000 in
theorem gJx4a65c_iterator_32c93_Jx35411_init_45d68 : GoodIn wsJx4a65c_iterator_32c93 (wsJx35411_init_45d68) := ggJx4a65c_iterator_32c93_Jx35411_init_45d68
theorem dJx4a65c_iterator_32c93_0 : decode cJx4a65c_iterator_32c93 0 = .ok (.new 267, 3) := by decide +kernel
theorem dJx4a65c_iterator_32c93_3 : decode cJx4a65c_iterator_32c93 3 = .ok (.dup, 1) := by decide +kernel
theorem dJx4a65c_iterator_32c93_4 : decode cJx4a65c_iterator_32c93 4 = .ok (.aload_n 0, 1) := by decide +kernel
theorem dJx4a65c_iterator_32c93_5 : decode cJx4a65c_iterator_32c93 5 = .ok (.invokespecial 269, 3) := by decide +kernel
theorem dJx4a65c_iterator_32c93_8 : decode cJx4a65c_iterator_32c93 8 = .ok (.areturn, 1) := by decide +kernel
set_option maxRecDepth 20000 in
theorem ggJ7_copyOf_1904c_J7_copyOf_6403c : GoodIn wsJ7_copyOf_1904c wsJ7_copyOf_6403c := goodIn_r _ [8, 9, 10, 11, 12, 13, 14, 15, 16, 17, 18] (by decide +kernel) (by decide +kernel)
set_option maxRecDepth 20000 in
theorem gJ7_copyOf_1904c_J7_copyOf_6403c : GoodIn wsJ7_copyOf_1904c (va_wsS RJ7 300 yJ7_copyOf_6403c wsJ7_copyOf_6403c) := goodIn_app (goodIn_of _ (by decide +kernel)) ggJ7_copyOf_1904c_J7_copyOf_6403c
theorem dJ7_copyOf_1904c_0 : decode cJ7_copyOf_1904c 0 = .ok (.aload_n 0, 1) := by decide +kernel
theorem dJ7_copyOf_1904c_1 : decode cJ7_copyOf_1904c 1 = .ok (.iload_n 1, 1) := by decide +kernel
theorem dJ7_copyOf_1904c_2 : decode cJ7_copyOf_1904c 2 = .ok (.aload_n 0, 1) := by decide +kernel
theorem dJ7_copyOf_1904c_3 : decode cJ7_copyOf_1904c 3 = .ok (.invokevirtual 86, 3) := by decide +kernel
theorem dJ7_copyOf_1904c_6 : decode cJ7_copyOf_1904c 6 = .ok (.invokestatic 300, 3) := by decide +kernel
theorem dJ7_copyOf_1904c_9 : decode cJ7_copyOf_1904c 9 = .ok (.areturn, 1) := by decide +kernel
theorem dJ7_copyOf_6403c_0 : decode cJ7_copyOf_6403c 0 = .ok (.aload_n 2, 1) := by decide +kernel
theorem dJ7_copyOf_6403c_1 : decode cJ7_copyOf_6403c 1 = .ok (.ldc 110, 2) := by decide +kernel
theorem dJ7_copyOf_6403c_3 : decode cJ7_copyOf_6403c 3 = .ok (.if_acmp .ne 10, 3) := by decide +kernel
theorem dJ7_copyOf_6403c_6 : decode cJ7_copyOf_6403c 6 = .ok (.iload_n 1, 1) := by decide +kernel
theorem dJ7_copyOf_6403c_7 : decode cJ7_copyOf_6403c 7 = .ok (.anewarray 2, 3) := by decide +kernel
theorem dJ7_copyOf_6403c_10 : decode cJ7_copyOf_6403c 10 = .ok (.goto 14, 3) := by decide +kernel
theorem dJ7_copyOf_6403c_24 : decode cJ7_copyOf_6403c 24 = .ok (.astore_n 3, 1) := by decide +kernel
theorem dJ7_copyOf_6403c_25 : decode cJ7_copyOf_6403c 25 = .ok (.aload_n 0, 1) := by decide +kernel
theorem dJ7_copyOf_6403c_26 : decode cJ7_copyOf_6403c 26 = .ok (.iconst 0, 1) := by decide +kernel
theorem dJ7_copyOf_6403c_27 : decode cJ7_copyOf_6403c 27 = .ok (.aload_n 3, 1) := by decide +kernel
theorem dJ7_copyOf_6403c_28 : decode cJ7_copyOf_6403c 28 = .ok (.iconst 0, 1) := by decide +kernel
theorem dJ7_copyOf_6403c_29 : decode cJ7_copyOf_6403c 29 = .ok (.aload_n 0, 1) := by decide +kernel
theorem dJ7_copyOf_6403c_30 : decode cJ7_copyOf_6403c 30 = .ok (.arraylength, 1) := by decide +kernel
theorem dJ7_copyOf_6403c_31 : decode cJ7_copyOf_6403c 31 = .ok (.iload_n 1, 1) := by decide +kernel
theorem dJ7_copyOf_6403c_32 : decode cJ7_copyOf_6403c 32 = .ok (.invokestatic 304, 3) := by decide +kernel
theorem dJ7_copyOf_6403c_35 : decode cJ7_copyOf_6403c 35 = .ok (.invokestatic 150, 3) := by decide +kernel
theorem dJ7_copyOf_6403c_38 : decode cJ7_copyOf_6403c 38 = .ok (.aload_n 3, 1) := by decide +kernel
theorem dJ7_copyOf_6403c_39 : decode cJ7_copyOf_6403c 39 = .ok (.areturn, 1) := by decide +kernel
