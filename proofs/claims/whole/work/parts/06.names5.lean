set_option maxRecDepth 20000 in
theorem ggX10_numbers_X10_divides : GoodIn wsX10_numbers wsX10_divides := goodIn_r _ [22, 23, 1, 24, 25, 26, 4, 5, 6, 7, 8, 27, 28, 29, 30, 31, 3, 32, 33, 34, 35, 36, 37, 38, 39, 40, 41, 42, 43, 44, 45, 46, 47, 48, 49, 50, 51, 52, 53, 54, 55, 56, 57, 58, 59, 60, 61, 62, 63, 64, 65, 66] (by decide +kernel) (by decide +kernel)
set_option maxRecDepth 20000 in
theorem gX10_numbers_X10_divides : GoodIn wsX10_numbers (wsV RX10 96 RX10 yX10_divides wsX10_divides) := goodIn_app (goodIn_of _ (by decide +kernel)) ggX10_numbers_X10_divides
theorem dX10_numbers_0 : decode cX10_numbers 0 = .ok (.iconst 0, 1) := by decide +kernel
theorem dX10_numbers_1 : decode cX10_numbers 1 = .ok (.istore_n 1, 1) := by decide +kernel
theorem dX10_numbers_2 : decode cX10_numbers 2 = .ok (.iload_n 1, 1) := by decide +kernel
theorem dX10_numbers_3 : decode cX10_numbers 3 = .ok (.aload_n 0, 1) := by decide +kernel
theorem dX10_numbers_4 : decode cX10_numbers 4 = .ok (.invokevirtual 85, 3) := by decide +kernel
theorem dX10_numbers_7 : decode cX10_numbers 7 = .ok (.if_icmp .ge 107, 3) := by decide +kernel
theorem dX10_numbers_10 : decode cX10_numbers 10 = .ok (.iconst 0, 1) := by decide +kernel
theorem dX10_numbers_11 : decode cX10_numbers 11 = .ok (.istore_n 2, 1) := by decide +kernel
theorem dX10_numbers_12 : decode cX10_numbers 12 = .ok (.iconst 0, 1) := by decide +kernel
theorem dX10_numbers_13 : decode cX10_numbers 13 = .ok (.istore_n 3, 1) := by decide +kernel
theorem dX10_numbers_14 : decode cX10_numbers 14 = .ok (.iconst 0, 1) := by decide +kernel
theorem dX10_numbers_15 : decode cX10_numbers 15 = .ok (.istore 4, 2) := by decide +kernel
theorem dX10_numbers_17 : decode cX10_numbers 17 = .ok (.aload_n 0, 1) := by decide +kernel
theorem dX10_numbers_18 : decode cX10_numbers 18 = .ok (.getfield 7, 3) := by decide +kernel
theorem dX10_numbers_21 : decode cX10_numbers 21 = .ok (.iconst 1, 1) := by decide +kernel
theorem dX10_numbers_22 : decode cX10_numbers 22 = .ok (.isub, 1) := by decide +kernel
theorem dX10_numbers_23 : decode cX10_numbers 23 = .ok (.istore 5, 2) := by decide +kernel
theorem dX10_numbers_25 : decode cX10_numbers 25 = .ok (.iload 5, 2) := by decide +kernel
theorem dX10_numbers_27 : decode cX10_numbers 27 = .ok (.ifCond .lt 57, 3) := by decide +kernel
theorem dX10_numbers_30 : decode cX10_numbers 30 = .ok (.iload_n 1, 1) := by decide +kernel
theorem dX10_numbers_31 : decode cX10_numbers 31 = .ok (.iconst 2, 1) := by decide +kernel
theorem dX10_numbers_32 : decode cX10_numbers 32 = .ok (.iload 5, 2) := by decide +kernel
theorem dX10_numbers_34 : decode cX10_numbers 34 = .ok (.imul, 1) := by decide +kernel
theorem dX10_numbers_35 : decode cX10_numbers 35 = .ok (.ishr, 1) := by decide +kernel
theorem dX10_numbers_36 : decode cX10_numbers 36 = .ok (.iconst 3, 1) := by decide +kernel
theorem dX10_numbers_37 : decode cX10_numbers 37 = .ok (.iand, 1) := by decide +kernel
theorem dX10_numbers_38 : decode cX10_numbers 38 = .ok (.istore 6, 2) := by decide +kernel
theorem dX10_numbers_40 : decode cX10_numbers 40 = .ok (.aload_n 0, 1) := by decide +kernel
theorem dX10_numbers_41 : decode cX10_numbers 41 = .ok (.iload 4, 2) := by decide +kernel
theorem dX10_numbers_43 : decode cX10_numbers 43 = .ok (.iload 6, 2) := by decide +kernel
theorem dX10_numbers_45 : decode cX10_numbers 45 = .ok (.invokevirtual 89, 3) := by decide +kernel
theorem dX10_numbers_48 : decode cX10_numbers 48 = .ok (.istore 7, 2) := by decide +kernel
theorem dX10_numbers_50 : decode cX10_numbers 50 = .ok (.iconst 2, 1) := by decide +kernel
theorem dX10_numbers_51 : decode cX10_numbers 51 = .ok (.iload_n 2, 1) := by decide +kernel
theorem dX10_numbers_52 : decode cX10_numbers 52 = .ok (.imul, 1) := by decide +kernel
theorem dX10_numbers_53 : decode cX10_numbers 53 = .ok (.iload 7, 2) := by decide +kernel
theorem dX10_numbers_55 : decode cX10_numbers 55 = .ok (.iconst 2, 1) := by decide +kernel
theorem dX10_numbers_56 : decode cX10_numbers 56 = .ok (.irem, 1) := by decide +kernel
theorem dX10_numbers_57 : decode cX10_numbers 57 = .ok (.iadd, 1) := by decide +kernel
theorem dX10_numbers_58 : decode cX10_numbers 58 = .ok (.istore_n 2, 1) := by decide +kernel
theorem dX10_numbers_59 : decode cX10_numbers 59 = .ok (.iconst 2, 1) := by decide +kernel
theorem dX10_numbers_60 : decode cX10_numbers 60 = .ok (.iload_n 3, 1) := by decide +kernel
theorem dX10_numbers_61 : decode cX10_numbers 61 = .ok (.imul, 1) := by decide +kernel
theorem dX10_numbers_62 : decode cX10_numbers 62 = .ok (.iload 7, 2) := by decide +kernel
theorem dX10_numbers_64 : decode cX10_numbers 64 = .ok (.iconst 2, 1) := by decide +kernel
theorem dX10_numbers_65 : decode cX10_numbers 65 = .ok (.idiv, 1) := by decide +kernel
theorem dX10_numbers_66 : decode cX10_numbers 66 = .ok (.iadd, 1) := by decide +kernel
theorem dX10_numbers_67 : decode cX10_numbers 67 = .ok (.istore_n 3, 1) := by decide +kernel
theorem dX10_numbers_68 : decode cX10_numbers 68 = .ok (.aload_n 0, 1) := by decide +kernel
theorem dX10_numbers_69 : decode cX10_numbers 69 = .ok (.iload 4, 2) := by decide +kernel
theorem dX10_numbers_71 : decode cX10_numbers 71 = .ok (.iload 6, 2) := by decide +kernel
theorem dX10_numbers_73 : decode cX10_numbers 73 = .ok (.invokevirtual 93, 3) := by decide +kernel
theorem dX10_numbers_76 : decode cX10_numbers 76 = .ok (.istore 4, 2) := by decide +kernel
theorem dX10_numbers_78 : decode cX10_numbers 78 = .ok (.iinc 5 (-1), 3) := by decide +kernel
theorem dX10_numbers_81 : decode cX10_numbers 81 = .ok (.goto (-56), 3) := by decide +kernel
theorem dX10_numbers_84 : decode cX10_numbers 84 = .ok (.aload_n 0, 1) := by decide +kernel
theorem dX10_numbers_85 : decode cX10_numbers 85 = .ok (.getfield 60, 3) := by decide +kernel
theorem dX10_numbers_88 : decode cX10_numbers 88 = .ok (.iload_n 1, 1) := by decide +kernel
theorem dX10_numbers_89 : decode cX10_numbers 89 = .ok (.bipush 64, 2) := by decide +kernel
theorem dX10_numbers_91 : decode cX10_numbers 91 = .ok (.iload_n 3, 1) := by decide +kernel
theorem dX10_numbers_92 : decode cX10_numbers 92 = .ok (.imul, 1) := by decide +kernel
theorem dX10_numbers_93 : decode cX10_numbers 93 = .ok (.iload_n 2, 1) := by decide +kernel
theorem dX10_numbers_94 : decode cX10_numbers 94 = .ok (.iadd, 1) := by decide +kernel
theorem dX10_numbers_95 : decode cX10_numbers 95 = .ok (.iastore, 1) := by decide +kernel
theorem dX10_numbers_96 : decode cX10_numbers 96 = .ok (.aload_n 0, 1) := by decide +kernel
theorem dX10_numbers_97 : decode cX10_numbers 97 = .ok (.getfield 57, 3) := by decide +kernel
theorem dX10_numbers_100 : decode cX10_numbers 100 = .ok (.bipush 64, 2) := by decide +kernel
theorem dX10_numbers_102 : decode cX10_numbers 102 = .ok (.iload_n 3, 1) := by decide +kernel
theorem dX10_numbers_103 : decode cX10_numbers 103 = .ok (.imul, 1) := by decide +kernel
theorem dX10_numbers_104 : decode cX10_numbers 104 = .ok (.iload_n 2, 1) := by decide +kernel
theorem dX10_numbers_105 : decode cX10_numbers 105 = .ok (.iadd, 1) := by decide +kernel
theorem dX10_numbers_106 : decode cX10_numbers 106 = .ok (.iload_n 1, 1) := by decide +kernel
theorem dX10_numbers_107 : decode cX10_numbers 107 = .ok (.iastore, 1) := by decide +kernel
theorem dX10_numbers_108 : decode cX10_numbers 108 = .ok (.iinc 1 1, 3) := by decide +kernel
theorem dX10_numbers_111 : decode cX10_numbers 111 = .ok (.goto (-109), 3) := by decide +kernel
theorem dX10_numbers_114 : decode cX10_numbers 114 = .ok (.aload_n 0, 1) := by decide +kernel
theorem dX10_numbers_115 : decode cX10_numbers 115 = .ok (.invokevirtual 96, 3) := by decide +kernel
theorem dX10_numbers_118 : decode cX10_numbers 118 = .ok (.return_, 1) := by decide +kernel
set_option maxRecDepth 20000 in
theorem ggX10_setLevels_X10_in : GoodIn wsX10_setLevels wsX10_in := goodIn_r _ [10] (by decide +kernel) (by decide +kernel)
set_option maxRecDepth 20000 in
theorem gX10_setLevels_X10_in : GoodIn wsX10_setLevels (va_wsS RX10 99 yX10_in wsX10_in) := goodIn_app (goodIn_of _ (by decide +kernel)) ggX10_setLevels_X10_in
set_option maxRecDepth 20000 in
theorem ggX10_setLevels_X10_side : GoodIn wsX10_setLevels wsX10_side := goodIn_r _ [14, 1, 53, 54, 55, 56, 57, 58, 59, 60, 61, 62, 63, 64, 65, 66, 67, 68, 69, 70, 71, 72, 73, 74, 75, 76, 77, 78, 79, 80, 81] (by decide +kernel) (by decide +kernel)
set_option maxRecDepth 20000 in
theorem gX10_setLevels_X10_side : GoodIn wsX10_setLevels (wsV RX10 109 RX10 yX10_side wsX10_side) := goodIn_app (goodIn_of _ (by decide +kernel)) ggX10_setLevels_X10_side
set_option maxRecDepth 20000 in
theorem ggX10_setLevels_X10_numbers : GoodIn wsX10_setLevels wsX10_numbers := goodIn_r _ [18, 1, 19, 20, 21, 22, 23, 9, 24, 25, 26, 27, 28, 29, 30, 31, 32, 33, 34, 35, 36, 37, 38, 39, 40, 41, 42, 43, 44, 45, 46, 6, 47, 48, 49, 50, 51, 52, 53, 54, 55, 56, 57, 58, 59, 60, 61, 62, 63, 64, 65, 66, 67, 68, 69, 70, 71, 72, 73, 74, 75, 76, 77, 78, 79, 80, 81] (by decide +kernel) (by decide +kernel)
set_option maxRecDepth 20000 in
theorem gX10_setLevels_X10_numbers : GoodIn wsX10_setLevels (wsV RX10 79 RX10 yX10_numbers wsX10_numbers) := goodIn_app (goodIn_of _ (by decide +kernel)) ggX10_setLevels_X10_numbers
theorem dX10_setLevels_0 : decode cX10_setLevels 0 = .ok (.iload_n 1, 1) := by decide +kernel
theorem dX10_setLevels_1 : decode cX10_setLevels 1 = .ok (.iconst 1, 1) := by decide +kernel
theorem dX10_setLevels_2 : decode cX10_setLevels 2 = .ok (.bipush 6, 2) := by decide +kernel
theorem dX10_setLevels_4 : decode cX10_setLevels 4 = .ok (.invokestatic 99, 3) := by decide +kernel
theorem dX10_setLevels_7 : decode cX10_setLevels 7 = .ok (.ifCond .ne 6, 3) := by decide +kernel
theorem dX10_setLevels_10 : decode cX10_setLevels 10 = .ok (.bipush (-2), 2) := by decide +kernel
theorem dX10_setLevels_12 : decode cX10_setLevels 12 = .ok (.ireturn, 1) := by decide +kernel
theorem dX10_setLevels_13 : decode cX10_setLevels 13 = .ok (.aload_n 0, 1) := by decide +kernel
theorem dX10_setLevels_14 : decode cX10_setLevels 14 = .ok (.getfield 7, 3) := by decide +kernel
theorem dX10_setLevels_17 : decode cX10_setLevels 17 = .ok (.istore_n 2, 1) := by decide +kernel
theorem dX10_setLevels_18 : decode cX10_setLevels 18 = .ok (.aload_n 0, 1) := by decide +kernel
theorem dX10_setLevels_19 : decode cX10_setLevels 19 = .ok (.iload_n 1, 1) := by decide +kernel
theorem dX10_setLevels_20 : decode cX10_setLevels 20 = .ok (.putfield 7, 3) := by decide +kernel
theorem dX10_setLevels_23 : decode cX10_setLevels 23 = .ok (.aload_n 0, 1) := by decide +kernel
theorem dX10_setLevels_24 : decode cX10_setLevels 24 = .ok (.iconst 0, 1) := by decide +kernel
theorem dX10_setLevels_25 : decode cX10_setLevels 25 = .ok (.putfield 103, 3) := by decide +kernel
theorem dX10_setLevels_28 : decode cX10_setLevels 28 = .ok (.aload_n 0, 1) := by decide +kernel
theorem dX10_setLevels_29 : decode cX10_setLevels 29 = .ok (.iconst 0, 1) := by decide +kernel
theorem dX10_setLevels_30 : decode cX10_setLevels 30 = .ok (.putfield 106, 3) := by decide +kernel
theorem dX10_setLevels_33 : decode cX10_setLevels 33 = .ok (.aload_n 0, 1) := by decide +kernel
theorem dX10_setLevels_34 : decode cX10_setLevels 34 = .ok (.aload_n 0, 1) := by decide +kernel
theorem dX10_setLevels_35 : decode cX10_setLevels 35 = .ok (.invokevirtual 109, 3) := by decide +kernel
theorem dX10_setLevels_38 : decode cX10_setLevels 38 = .ok (.iconst 1, 1) := by decide +kernel
theorem dX10_setLevels_39 : decode cX10_setLevels 39 = .ok (.isub, 1) := by decide +kernel
theorem dX10_setLevels_40 : decode cX10_setLevels 40 = .ok (.putfield 20, 3) := by decide +kernel
theorem dX10_setLevels_43 : decode cX10_setLevels 43 = .ok (.aload_n 0, 1) := by decide +kernel
theorem dX10_setLevels_44 : decode cX10_setLevels 44 = .ok (.aload_n 0, 1) := by decide +kernel
theorem dX10_setLevels_45 : decode cX10_setLevels 45 = .ok (.invokevirtual 109, 3) := by decide +kernel
theorem dX10_setLevels_48 : decode cX10_setLevels 48 = .ok (.iconst 1, 1) := by decide +kernel
theorem dX10_setLevels_49 : decode cX10_setLevels 49 = .ok (.isub, 1) := by decide +kernel
theorem dX10_setLevels_50 : decode cX10_setLevels 50 = .ok (.putfield 23, 3) := by decide +kernel
theorem dX10_setLevels_53 : decode cX10_setLevels 53 = .ok (.aload_n 0, 1) := by decide +kernel
theorem dX10_setLevels_54 : decode cX10_setLevels 54 = .ok (.iconst 0, 1) := by decide +kernel
theorem dX10_setLevels_55 : decode cX10_setLevels 55 = .ok (.putfield 112, 3) := by decide +kernel
theorem dX10_setLevels_58 : decode cX10_setLevels 58 = .ok (.aload_n 0, 1) := by decide +kernel
theorem dX10_setLevels_59 : decode cX10_setLevels 59 = .ok (.invokevirtual 79, 3) := by decide +kernel
theorem dX10_setLevels_62 : decode cX10_setLevels 62 = .ok (.iload_n 2, 1) := by decide +kernel
theorem dX10_setLevels_63 : decode cX10_setLevels 63 = .ok (.ireturn, 1) := by decide +kernel
set_option maxRecDepth 20000 in
theorem ggX10_setCurve_X10_in : GoodIn wsX10_setCurve wsX10_in := goodIn_r _ [5] (by decide +kernel) (by decide +kernel)
set_option maxRecDepth 20000 in
theorem gX10_setCurve_X10_in : GoodIn wsX10_setCurve (va_wsS RX10 99 yX10_in wsX10_in) := goodIn_app (goodIn_of _ (by decide +kernel)) ggX10_setCurve_X10_in
set_option maxRecDepth 20000 in
theorem ggX10_setCurve_X10_numbers : GoodIn wsX10_setCurve wsX10_numbers := goodIn_r _ [9, 10, 11, 12, 13, 14, 15, 4, 16, 17, 18, 19, 20, 21, 1, 22, 23, 24, 25, 26, 27, 28, 29, 30, 31, 32, 33, 34, 35, 36, 37, 38, 39, 40, 41, 42, 43, 44, 45, 46, 47, 48, 49, 50, 51, 52, 53, 54, 55, 56, 57, 58, 59, 60, 61, 62, 63, 64, 65, 66, 67, 68, 69, 70, 71, 72, 73] (by decide +kernel) (by decide +kernel)
set_option maxRecDepth 20000 in
theorem gX10_setCurve_X10_numbers : GoodIn wsX10_setCurve (wsV RX10 79 RX10 yX10_numbers wsX10_numbers) := goodIn_app (goodIn_of _ (by decide +kernel)) ggX10_setCurve_X10_numbers
theorem dX10_setCurve_0 : decode cX10_setCurve 0 = .ok (.iload_n 1, 1) := by decide +kernel
theorem dX10_setCurve_1 : decode cX10_setCurve 1 = .ok (.iconst 0, 1) := by decide +kernel
theorem dX10_setCurve_2 : decode cX10_setCurve 2 = .ok (.iconst 2, 1) := by decide +kernel
theorem dX10_setCurve_3 : decode cX10_setCurve 3 = .ok (.invokestatic 99, 3) := by decide +kernel
theorem dX10_setCurve_6 : decode cX10_setCurve 6 = .ok (.ifCond .ne 6, 3) := by decide +kernel
theorem dX10_setCurve_9 : decode cX10_setCurve 9 = .ok (.bipush (-2), 2) := by decide +kernel
theorem dX10_setCurve_11 : decode cX10_setCurve 11 = .ok (.ireturn, 1) := by decide +kernel
theorem dX10_setCurve_12 : decode cX10_setCurve 12 = .ok (.aload_n 0, 1) := by decide +kernel
theorem dX10_setCurve_13 : decode cX10_setCurve 13 = .ok (.getfield 82, 3) := by decide +kernel
theorem dX10_setCurve_16 : decode cX10_setCurve 16 = .ok (.istore_n 2, 1) := by decide +kernel
theorem dX10_setCurve_17 : decode cX10_setCurve 17 = .ok (.aload_n 0, 1) := by decide +kernel
theorem dX10_setCurve_18 : decode cX10_setCurve 18 = .ok (.iload_n 1, 1) := by decide +kernel
theorem dX10_setCurve_19 : decode cX10_setCurve 19 = .ok (.putfield 82, 3) := by decide +kernel
theorem dX10_setCurve_22 : decode cX10_setCurve 22 = .ok (.aload_n 0, 1) := by decide +kernel
theorem dX10_setCurve_23 : decode cX10_setCurve 23 = .ok (.invokevirtual 79, 3) := by decide +kernel
theorem dX10_setCurve_26 : decode cX10_setCurve 26 = .ok (.iload_n 2, 1) := by decide +kernel
theorem dX10_setCurve_27 : decode cX10_setCurve 27 = .ok (.ireturn, 1) := by decide +kernel
theorem dX10_states_0 : decode cX10_states 0 = .ok (.aload_n 0, 1) := by decide +kernel
theorem dX10_states_1 : decode cX10_states 1 = .ok (.getfield 13, 3) := by decide +kernel
theorem dX10_states_4 : decode cX10_states 4 = .ok (.aload_n 0, 1) := by decide +kernel
theorem dX10_states_5 : decode cX10_states 5 = .ok (.getfield 82, 3) := by decide +kernel
theorem dX10_states_8 : decode cX10_states 8 = .ok (.iaload, 1) := by decide +kernel
theorem dX10_states_9 : decode cX10_states 9 = .ok (.ireturn, 1) := by decide +kernel
set_option maxRecDepth 20000 in
theorem ggX10_visit_X10_in : GoodIn wsX10_visit wsX10_in := goodIn_r _ [6] (by decide +kernel) (by decide +kernel)
set_option maxRecDepth 20000 in
theorem gX10_visit_X10_in : GoodIn wsX10_visit (va_wsS RX10 99 yX10_in wsX10_in) := goodIn_app (goodIn_of _ (by decide +kernel)) ggX10_visit_X10_in
set_option maxRecDepth 20000 in
theorem ggX10_visit_X10_quarter : GoodIn wsX10_visit wsX10_quarter := goodIn_r _ [10, 11, 2, 16, 17, 18, 19, 20, 21, 22, 23, 24, 25, 26, 27, 28, 29, 30, 31, 32, 33, 34, 35, 36, 37, 38, 39, 40, 41, 42, 43, 44] (by decide +kernel) (by decide +kernel)
set_option maxRecDepth 20000 in
theorem gX10_visit_X10_quarter : GoodIn wsX10_visit (wsV RX10 89 RX10 yX10_quarter wsX10_quarter) := goodIn_app (goodIn_of _ (by decide +kernel)) ggX10_visit_X10_quarter
set_option maxRecDepth 20000 in
theorem ggX10_visit_X10_stateFor : GoodIn wsX10_visit wsX10_stateFor := goodIn_r _ [15, 11, 2, 16, 17, 18, 19, 20, 21, 22, 23, 24, 25, 26, 27, 28, 29, 30, 31, 32, 33, 34, 35, 36, 37, 38, 39, 40, 41, 42, 43, 44] (by decide +kernel) (by decide +kernel)
set_option maxRecDepth 20000 in
theorem gX10_visit_X10_stateFor : GoodIn wsX10_visit (wsV RX10 93 RX10 yX10_stateFor wsX10_stateFor) := goodIn_app (goodIn_of _ (by decide +kernel)) ggX10_visit_X10_stateFor
theorem dX10_visit_0 : decode cX10_visit 0 = .ok (.iload_n 1, 1) := by decide +kernel
theorem dX10_visit_1 : decode cX10_visit 1 = .ok (.iconst 0, 1) := by decide +kernel
theorem dX10_visit_2 : decode cX10_visit 2 = .ok (.aload_n 0, 1) := by decide +kernel
theorem dX10_visit_3 : decode cX10_visit 3 = .ok (.getfield 13, 3) := by decide +kernel
theorem dX10_visit_6 : decode cX10_visit 6 = .ok (.aload_n 0, 1) := by decide +kernel
theorem dX10_visit_7 : decode cX10_visit 7 = .ok (.getfield 82, 3) := by decide +kernel
theorem dX10_visit_10 : decode cX10_visit 10 = .ok (.iaload, 1) := by decide +kernel
theorem dX10_visit_11 : decode cX10_visit 11 = .ok (.iconst 1, 1) := by decide +kernel
theorem dX10_visit_12 : decode cX10_visit 12 = .ok (.isub, 1) := by decide +kernel
theorem dX10_visit_13 : decode cX10_visit 13 = .ok (.invokestatic 99, 3) := by decide +kernel
theorem dX10_visit_16 : decode cX10_visit 16 = .ok (.ifCond .eq 12, 3) := by decide +kernel
theorem dX10_visit_19 : decode cX10_visit 19 = .ok (.iload_n 2, 1) := by decide +kernel
theorem dX10_visit_20 : decode cX10_visit 20 = .ok (.iconst 0, 1) := by decide +kernel
theorem dX10_visit_21 : decode cX10_visit 21 = .ok (.iconst 3, 1) := by decide +kernel
theorem dX10_visit_22 : decode cX10_visit 22 = .ok (.invokestatic 99, 3) := by decide +kernel
theorem dX10_visit_25 : decode cX10_visit 25 = .ok (.ifCond .ne 5, 3) := by decide +kernel
theorem dX10_visit_28 : decode cX10_visit 28 = .ok (.iconst (-1), 1) := by decide +kernel
theorem dX10_visit_29 : decode cX10_visit 29 = .ok (.ireturn, 1) := by decide +kernel
theorem dX10_visit_30 : decode cX10_visit 30 = .ok (.bipush 10, 2) := by decide +kernel
theorem dX10_visit_32 : decode cX10_visit 32 = .ok (.aload_n 0, 1) := by decide +kernel
theorem dX10_visit_33 : decode cX10_visit 33 = .ok (.iload_n 1, 1) := by decide +kernel
theorem dX10_visit_34 : decode cX10_visit 34 = .ok (.iload_n 2, 1) := by decide +kernel
theorem dX10_visit_35 : decode cX10_visit 35 = .ok (.invokevirtual 89, 3) := by decide +kernel
theorem dX10_visit_38 : decode cX10_visit 38 = .ok (.imul, 1) := by decide +kernel
theorem dX10_visit_39 : decode cX10_visit 39 = .ok (.aload_n 0, 1) := by decide +kernel
theorem dX10_visit_40 : decode cX10_visit 40 = .ok (.iload_n 1, 1) := by decide +kernel
theorem dX10_visit_41 : decode cX10_visit 41 = .ok (.iload_n 2, 1) := by decide +kernel
theorem dX10_visit_42 : decode cX10_visit 42 = .ok (.invokevirtual 93, 3) := by decide +kernel
theorem dX10_visit_45 : decode cX10_visit 45 = .ok (.iadd, 1) := by decide +kernel
theorem dX10_visit_46 : decode cX10_visit 46 = .ok (.ireturn, 1) := by decide +kernel
set_option maxRecDepth 20000 in
theorem ggX10_isCell_X10_side : GoodIn wsX10_isCell wsX10_side := goodIn_r _ [5, 6, 10, 11, 12, 13, 14, 15, 16, 17, 18, 19, 20, 21, 22, 23, 24, 25, 26, 27, 28, 29, 30, 31, 32, 33, 34, 35, 36, 37, 38] (by decide +kernel) (by decide +kernel)
set_option maxRecDepth 20000 in
theorem gX10_isCell_X10_side : GoodIn wsX10_isCell (wsV RX10 109 RX10 yX10_side wsX10_side) := goodIn_app (goodIn_of _ (by decide +kernel)) ggX10_isCell_X10_side
set_option maxRecDepth 20000 in
theorem ggX10_isCell_X10_in : GoodIn wsX10_isCell wsX10_in := goodIn_r _ [9] (by decide +kernel) (by decide +kernel)
set_option maxRecDepth 20000 in
theorem gX10_isCell_X10_in : GoodIn wsX10_isCell (va_wsS RX10 99 yX10_in wsX10_in) := goodIn_app (goodIn_of _ (by decide +kernel)) ggX10_isCell_X10_in
theorem dX10_isCell_0 : decode cX10_isCell 0 = .ok (.iload_n 1, 1) := by decide +kernel
theorem dX10_isCell_1 : decode cX10_isCell 1 = .ok (.iconst 0, 1) := by decide +kernel
theorem dX10_isCell_2 : decode cX10_isCell 2 = .ok (.aload_n 0, 1) := by decide +kernel
theorem dX10_isCell_3 : decode cX10_isCell 3 = .ok (.invokevirtual 109, 3) := by decide +kernel
theorem dX10_isCell_6 : decode cX10_isCell 6 = .ok (.iconst 1, 1) := by decide +kernel
theorem dX10_isCell_7 : decode cX10_isCell 7 = .ok (.isub, 1) := by decide +kernel
theorem dX10_isCell_8 : decode cX10_isCell 8 = .ok (.invokestatic 99, 3) := by decide +kernel
theorem dX10_isCell_11 : decode cX10_isCell 11 = .ok (.ifCond .eq 21, 3) := by decide +kernel
theorem dX10_isCell_14 : decode cX10_isCell 14 = .ok (.iload_n 2, 1) := by decide +kernel
theorem dX10_isCell_15 : decode cX10_isCell 15 = .ok (.iconst 0, 1) := by decide +kernel
theorem dX10_isCell_16 : decode cX10_isCell 16 = .ok (.aload_n 0, 1) := by decide +kernel
theorem dX10_isCell_17 : decode cX10_isCell 17 = .ok (.invokevirtual 109, 3) := by decide +kernel
theorem dX10_isCell_20 : decode cX10_isCell 20 = .ok (.iconst 1, 1) := by decide +kernel
theorem dX10_isCell_21 : decode cX10_isCell 21 = .ok (.isub, 1) := by decide +kernel
theorem dX10_isCell_22 : decode cX10_isCell 22 = .ok (.invokestatic 99, 3) := by decide +kernel
theorem dX10_isCell_25 : decode cX10_isCell 25 = .ok (.ifCond .eq 7, 3) := by decide +kernel
theorem dX10_isCell_28 : decode cX10_isCell 28 = .ok (.iconst 1, 1) := by decide +kernel
theorem dX10_isCell_29 : decode cX10_isCell 29 = .ok (.goto 4, 3) := by decide +kernel
theorem dX10_isCell_32 : decode cX10_isCell 32 = .ok (.iconst 0, 1) := by decide +kernel
theorem dX10_isCell_33 : decode cX10_isCell 33 = .ok (.ireturn, 1) := by decide +kernel
set_option maxRecDepth 20000 in
theorem ggX10_index_X10_isCell : GoodIn wsX10_index wsX10_isCell := goodIn_r _ [6, 7, 8, 9, 5, 10, 11, 12, 13, 14, 15, 16, 17, 18, 19, 20, 21, 22, 23, 24, 25, 26, 27, 28, 29, 30, 31, 32, 33, 34, 35, 36, 37, 38, 39, 40, 41, 42, 43] (by decide +kernel) (by decide +kernel)
set_option maxRecDepth 20000 in
theorem gX10_index_X10_isCell : GoodIn wsX10_index (wsV RX10 115 RX10 yX10_isCell wsX10_isCell) := goodIn_app (goodIn_of _ (by decide +kernel)) ggX10_index_X10_isCell
theorem dX10_index_0 : decode cX10_index 0 = .ok (.aload_n 0, 1) := by decide +kernel
theorem dX10_index_1 : decode cX10_index 1 = .ok (.iload_n 1, 1) := by decide +kernel
theorem dX10_index_2 : decode cX10_index 2 = .ok (.iload_n 2, 1) := by decide +kernel
theorem dX10_index_3 : decode cX10_index 3 = .ok (.invokevirtual 115, 3) := by decide +kernel
theorem dX10_index_6 : decode cX10_index 6 = .ok (.ifCond .eq 17, 3) := by decide +kernel
theorem dX10_index_9 : decode cX10_index 9 = .ok (.aload_n 0, 1) := by decide +kernel
theorem dX10_index_10 : decode cX10_index 10 = .ok (.getfield 57, 3) := by decide +kernel
theorem dX10_index_13 : decode cX10_index 13 = .ok (.bipush 64, 2) := by decide +kernel
theorem dX10_index_15 : decode cX10_index 15 = .ok (.iload_n 2, 1) := by decide +kernel
theorem dX10_index_16 : decode cX10_index 16 = .ok (.imul, 1) := by decide +kernel
theorem dX10_index_17 : decode cX10_index 17 = .ok (.iload_n 1, 1) := by decide +kernel
theorem dX10_index_18 : decode cX10_index 18 = .ok (.iadd, 1) := by decide +kernel
theorem dX10_index_19 : decode cX10_index 19 = .ok (.iaload, 1) := by decide +kernel
theorem dX10_index_20 : decode cX10_index 20 = .ok (.goto 4, 3) := by decide +kernel
theorem dX10_index_23 : decode cX10_index 23 = .ok (.iconst (-1), 1) := by decide +kernel
theorem dX10_index_24 : decode cX10_index 24 = .ok (.ireturn, 1) := by decide +kernel
set_option maxRecDepth 20000 in
theorem ggX10_cell_X10_all : GoodIn wsX10_cell wsX10_all := goodIn_r _ [6, 7, 11, 12, 13, 14, 15, 16, 17, 18, 19, 20, 21, 22, 23, 24, 25, 26, 27, 28, 29, 30, 31, 32, 33, 34, 35, 36, 37, 38, 39] (by decide +kernel) (by decide +kernel)
set_option maxRecDepth 20000 in
theorem gX10_cell_X10_all : GoodIn wsX10_cell (wsV RX10 85 RX10 yX10_all wsX10_all) := goodIn_app (goodIn_of _ (by decide +kernel)) ggX10_cell_X10_all
set_option maxRecDepth 20000 in
theorem ggX10_cell_X10_in : GoodIn wsX10_cell wsX10_in := goodIn_r _ [10] (by decide +kernel) (by decide +kernel)
set_option maxRecDepth 20000 in
theorem gX10_cell_X10_in : GoodIn wsX10_cell (va_wsS RX10 99 yX10_in wsX10_in) := goodIn_app (goodIn_of _ (by decide +kernel)) ggX10_cell_X10_in
theorem dX10_cell_0 : decode cX10_cell 0 = .ok (.iload_n 1, 1) := by decide +kernel
theorem dX10_cell_1 : decode cX10_cell 1 = .ok (.iconst 0, 1) := by decide +kernel
theorem dX10_cell_2 : decode cX10_cell 2 = .ok (.aload_n 0, 1) := by decide +kernel
theorem dX10_cell_3 : decode cX10_cell 3 = .ok (.invokevirtual 85, 3) := by decide +kernel
theorem dX10_cell_6 : decode cX10_cell 6 = .ok (.iconst 1, 1) := by decide +kernel
theorem dX10_cell_7 : decode cX10_cell 7 = .ok (.isub, 1) := by decide +kernel
theorem dX10_cell_8 : decode cX10_cell 8 = .ok (.invokestatic 99, 3) := by decide +kernel
theorem dX10_cell_11 : decode cX10_cell 11 = .ok (.ifCond .ne 5, 3) := by decide +kernel
theorem dX10_cell_14 : decode cX10_cell 14 = .ok (.iconst (-1), 1) := by decide +kernel
theorem dX10_cell_15 : decode cX10_cell 15 = .ok (.ireturn, 1) := by decide +kernel
theorem dX10_cell_16 : decode cX10_cell 16 = .ok (.iload_n 2, 1) := by decide +kernel
theorem dX10_cell_17 : decode cX10_cell 17 = .ok (.ifCond .eq 15, 3) := by decide +kernel
theorem dX10_cell_20 : decode cX10_cell 20 = .ok (.aload_n 0, 1) := by decide +kernel
theorem dX10_cell_21 : decode cX10_cell 21 = .ok (.getfield 60, 3) := by decide +kernel
theorem dX10_cell_24 : decode cX10_cell 24 = .ok (.iload_n 1, 1) := by decide +kernel
theorem dX10_cell_25 : decode cX10_cell 25 = .ok (.iaload, 1) := by decide +kernel
theorem dX10_cell_26 : decode cX10_cell 26 = .ok (.bipush 64, 2) := by decide +kernel
theorem dX10_cell_28 : decode cX10_cell 28 = .ok (.idiv, 1) := by decide +kernel
theorem dX10_cell_29 : decode cX10_cell 29 = .ok (.goto 12, 3) := by decide +kernel
theorem dX10_cell_32 : decode cX10_cell 32 = .ok (.aload_n 0, 1) := by decide +kernel
theorem dX10_cell_33 : decode cX10_cell 33 = .ok (.getfield 60, 3) := by decide +kernel
theorem dX10_cell_36 : decode cX10_cell 36 = .ok (.iload_n 1, 1) := by decide +kernel
theorem dX10_cell_37 : decode cX10_cell 37 = .ok (.iaload, 1) := by decide +kernel
theorem dX10_cell_38 : decode cX10_cell 38 = .ok (.bipush 64, 2) := by decide +kernel
theorem dX10_cell_40 : decode cX10_cell 40 = .ok (.irem, 1) := by decide +kernel
theorem dX10_cell_41 : decode cX10_cell 41 = .ok (.ireturn, 1) := by decide +kernel
theorem dX10_size_0 : decode cX10_size 0 = .ok (.iload_n 0, 1) := by decide +kernel
theorem dX10_size_1 : decode cX10_size 1 = .ok (.ifCond .ge 8, 3) := by decide +kernel
theorem dX10_size_4 : decode cX10_size 4 = .ok (.iload_n 0, 1) := by decide +kernel
theorem dX10_size_5 : decode cX10_size 5 = .ok (.ineg, 1) := by decide +kernel
theorem dX10_size_6 : decode cX10_size 6 = .ok (.goto 4, 3) := by decide +kernel
theorem dX10_size_9 : decode cX10_size 9 = .ok (.iload_n 0, 1) := by decide +kernel
theorem dX10_size_10 : decode cX10_size 10 = .ok (.ireturn, 1) := by decide +kernel
set_option maxRecDepth 20000 in
theorem ggX10_far_X10_size : GoodIn wsX10_far wsX10_size := goodIn_r _ [4] (by decide +kernel) (by decide +kernel)
set_option maxRecDepth 20000 in
theorem gX10_far_X10_size : GoodIn wsX10_far (va_wsS RX10 119 yX10_size wsX10_size) := goodIn_app (goodIn_of _ (by decide +kernel)) ggX10_far_X10_size
theorem dX10_far_0 : decode cX10_far 0 = .ok (.iload_n 0, 1) := by decide +kernel
theorem dX10_far_1 : decode cX10_far 1 = .ok (.bipush 64, 2) := by decide +kernel
theorem dX10_far_3 : decode cX10_far 3 = .ok (.idiv, 1) := by decide +kernel
theorem dX10_far_4 : decode cX10_far 4 = .ok (.iload_n 1, 1) := by decide +kernel
theorem dX10_far_5 : decode cX10_far 5 = .ok (.bipush 64, 2) := by decide +kernel
theorem dX10_far_7 : decode cX10_far 7 = .ok (.idiv, 1) := by decide +kernel
theorem dX10_far_8 : decode cX10_far 8 = .ok (.isub, 1) := by decide +kernel
theorem dX10_far_9 : decode cX10_far 9 = .ok (.invokestatic 119, 3) := by decide +kernel
theorem dX10_far_12 : decode cX10_far 12 = .ok (.iload_n 0, 1) := by decide +kernel
theorem dX10_far_13 : decode cX10_far 13 = .ok (.bipush 64, 2) := by decide +kernel
theorem dX10_far_15 : decode cX10_far 15 = .ok (.irem, 1) := by decide +kernel
theorem dX10_far_16 : decode cX10_far 16 = .ok (.iload_n 1, 1) := by decide +kernel
theorem dX10_far_17 : decode cX10_far 17 = .ok (.bipush 64, 2) := by decide +kernel
theorem dX10_far_19 : decode cX10_far 19 = .ok (.irem, 1) := by decide +kernel
theorem dX10_far_20 : decode cX10_far 20 = .ok (.isub, 1) := by decide +kernel
theorem dX10_far_21 : decode cX10_far 21 = .ok (.invokestatic 119, 3) := by decide +kernel
theorem dX10_far_24 : decode cX10_far 24 = .ok (.iadd, 1) := by decide +kernel
theorem dX10_far_25 : decode cX10_far 25 = .ok (.ireturn, 1) := by decide +kernel
set_option maxRecDepth 20000 in
theorem ggX10_breaksNow_X10_all : GoodIn wsX10_breaksNow wsX10_all := goodIn_r _ [6, 7, 14, 15, 16, 17, 18, 19, 20, 21, 22, 23, 24, 25, 26, 27, 28, 29, 30, 31, 32, 33, 34, 35, 36, 37, 38, 39, 40, 41, 42] (by decide +kernel) (by decide +kernel)
set_option maxRecDepth 20000 in
theorem gX10_breaksNow_X10_all : GoodIn wsX10_breaksNow (wsV RX10 85 RX10 yX10_all wsX10_all) := goodIn_app (goodIn_of _ (by decide +kernel)) ggX10_breaksNow_X10_all
set_option maxRecDepth 20000 in
theorem ggX10_breaksNow_X10_far : GoodIn wsX10_breaksNow wsX10_far := goodIn_r _ [10, 11, 12, 5, 13] (by decide +kernel) (by decide +kernel)
set_option maxRecDepth 20000 in
theorem gX10_breaksNow_X10_far : GoodIn wsX10_breaksNow (va_wsS RX10 123 yX10_far wsX10_far) := goodIn_app (goodIn_of _ (by decide +kernel)) ggX10_breaksNow_X10_far
theorem dX10_breaksNow_0 : decode cX10_breaksNow 0 = .ok (.iconst 0, 1) := by decide +kernel
theorem dX10_breaksNow_1 : decode cX10_breaksNow 1 = .ok (.istore_n 1, 1) := by decide +kernel
theorem dX10_breaksNow_2 : decode cX10_breaksNow 2 = .ok (.iconst 0, 1) := by decide +kernel
theorem dX10_breaksNow_3 : decode cX10_breaksNow 3 = .ok (.istore_n 2, 1) := by decide +kernel
theorem dX10_breaksNow_4 : decode cX10_breaksNow 4 = .ok (.iload_n 2, 1) := by decide +kernel
theorem dX10_breaksNow_5 : decode cX10_breaksNow 5 = .ok (.iconst 1, 1) := by decide +kernel
theorem dX10_breaksNow_6 : decode cX10_breaksNow 6 = .ok (.iadd, 1) := by decide +kernel
theorem dX10_breaksNow_7 : decode cX10_breaksNow 7 = .ok (.aload_n 0, 1) := by decide +kernel
theorem dX10_breaksNow_8 : decode cX10_breaksNow 8 = .ok (.invokevirtual 85, 3) := by decide +kernel
theorem dX10_breaksNow_11 : decode cX10_breaksNow 11 = .ok (.if_icmp .ge 38, 3) := by decide +kernel
theorem dX10_breaksNow_14 : decode cX10_breaksNow 14 = .ok (.iload_n 1, 1) := by decide +kernel
theorem dX10_breaksNow_15 : decode cX10_breaksNow 15 = .ok (.aload_n 0, 1) := by decide +kernel
theorem dX10_breaksNow_16 : decode cX10_breaksNow 16 = .ok (.getfield 60, 3) := by decide +kernel
theorem dX10_breaksNow_19 : decode cX10_breaksNow 19 = .ok (.iload_n 2, 1) := by decide +kernel
theorem dX10_breaksNow_20 : decode cX10_breaksNow 20 = .ok (.iaload, 1) := by decide +kernel
theorem dX10_breaksNow_21 : decode cX10_breaksNow 21 = .ok (.aload_n 0, 1) := by decide +kernel
theorem dX10_breaksNow_22 : decode cX10_breaksNow 22 = .ok (.getfield 60, 3) := by decide +kernel
theorem dX10_breaksNow_25 : decode cX10_breaksNow 25 = .ok (.iload_n 2, 1) := by decide +kernel
theorem dX10_breaksNow_26 : decode cX10_breaksNow 26 = .ok (.iconst 1, 1) := by decide +kernel
theorem dX10_breaksNow_27 : decode cX10_breaksNow 27 = .ok (.iadd, 1) := by decide +kernel
theorem dX10_breaksNow_28 : decode cX10_breaksNow 28 = .ok (.iaload, 1) := by decide +kernel
theorem dX10_breaksNow_29 : decode cX10_breaksNow 29 = .ok (.invokestatic 123, 3) := by decide +kernel
theorem dX10_breaksNow_32 : decode cX10_breaksNow 32 = .ok (.iconst 1, 1) := by decide +kernel
theorem dX10_breaksNow_33 : decode cX10_breaksNow 33 = .ok (.if_icmp .ne 7, 3) := by decide +kernel
theorem dX10_breaksNow_36 : decode cX10_breaksNow 36 = .ok (.iconst 0, 1) := by decide +kernel
theorem dX10_breaksNow_37 : decode cX10_breaksNow 37 = .ok (.goto 4, 3) := by decide +kernel
theorem dX10_breaksNow_40 : decode cX10_breaksNow 40 = .ok (.iconst 1, 1) := by decide +kernel
theorem dX10_breaksNow_41 : decode cX10_breaksNow 41 = .ok (.iadd, 1) := by decide +kernel
theorem dX10_breaksNow_42 : decode cX10_breaksNow 42 = .ok (.istore_n 1, 1) := by decide +kernel
theorem dX10_breaksNow_43 : decode cX10_breaksNow 43 = .ok (.iinc 2 1, 3) := by decide +kernel
theorem dX10_breaksNow_46 : decode cX10_breaksNow 46 = .ok (.goto (-42), 3) := by decide +kernel
theorem dX10_breaksNow_49 : decode cX10_breaksNow 49 = .ok (.iload_n 1, 1) := by decide +kernel
theorem dX10_breaksNow_50 : decode cX10_breaksNow 50 = .ok (.ireturn, 1) := by decide +kernel
set_option maxRecDepth 20000 in
theorem ggX10_breaks_X10_breaksNow : GoodIn wsX10_breaks wsX10_breaksNow := goodIn_r _ [5, 6, 7, 8, 9, 4, 10, 11, 12, 13, 14, 15, 16, 17, 18, 19, 20, 21, 22, 23, 24, 25, 26, 27, 28, 29, 30, 31, 32, 33, 34, 35, 36, 37, 38, 39, 40, 41, 42, 43, 44, 45, 46] (by decide +kernel) (by decide +kernel)
set_option maxRecDepth 20000 in
theorem gX10_breaks_X10_breaksNow : GoodIn wsX10_breaks (wsV RX10 126 RX10 yX10_breaksNow wsX10_breaksNow) := goodIn_app (goodIn_of _ (by decide +kernel)) ggX10_breaks_X10_breaksNow
theorem dX10_breaks_0 : decode cX10_breaks 0 = .ok (.aload_n 0, 1) := by decide +kernel
theorem dX10_breaks_1 : decode cX10_breaks 1 = .ok (.invokevirtual 126, 3) := by decide +kernel
theorem dX10_breaks_4 : decode cX10_breaks 4 = .ok (.ireturn, 1) := by decide +kernel
set_option maxRecDepth 20000 in
theorem ggX10_stretchNow_X10_all : GoodIn wsX10_stretchNow wsX10_all := goodIn_r _ [7, 8, 16, 17, 18, 19, 20, 21, 22, 23, 24, 25, 26, 27, 28, 29, 30, 31, 32, 33, 34, 35, 36, 37, 38, 39, 40, 41, 42, 43, 44] (by decide +kernel) (by decide +kernel)
set_option maxRecDepth 20000 in
theorem gX10_stretchNow_X10_all : GoodIn wsX10_stretchNow (wsV RX10 85 RX10 yX10_all wsX10_all) := goodIn_app (goodIn_of _ (by decide +kernel)) ggX10_stretchNow_X10_all
set_option maxRecDepth 20000 in
theorem ggX10_stretchNow_X10_side : GoodIn wsX10_stretchNow wsX10_side := goodIn_r _ [12, 8, 16, 17, 18, 19, 20, 21, 22, 23, 24, 25, 26, 27, 28, 29, 30, 31, 32, 33, 34, 35, 36, 37, 38, 39, 40, 41, 42, 43, 44] (by decide +kernel) (by decide +kernel)
set_option maxRecDepth 20000 in
theorem gX10_stretchNow_X10_side : GoodIn wsX10_stretchNow (wsV RX10 109 RX10 yX10_side wsX10_side) := goodIn_app (goodIn_of _ (by decide +kernel)) ggX10_stretchNow_X10_side
set_option maxRecDepth 20000 in
theorem ggX10_stretchNow_X10_size : GoodIn wsX10_stretchNow wsX10_size := goodIn_r _ [15] (by decide +kernel) (by decide +kernel)
set_option maxRecDepth 20000 in
theorem gX10_stretchNow_X10_size : GoodIn wsX10_stretchNow (va_wsS RX10 119 yX10_size wsX10_size) := goodIn_app (goodIn_of _ (by decide +kernel)) ggX10_stretchNow_X10_size
theorem dX10_stretchNow_0 : decode cX10_stretchNow 0 = .ok (.iconst 0, 1) := by decide +kernel
theorem dX10_stretchNow_1 : decode cX10_stretchNow 1 = .ok (.istore_n 1, 1) := by decide +kernel
theorem dX10_stretchNow_2 : decode cX10_stretchNow 2 = .ok (.iconst 0, 1) := by decide +kernel
theorem dX10_stretchNow_3 : decode cX10_stretchNow 3 = .ok (.istore_n 2, 1) := by decide +kernel
theorem dX10_stretchNow_4 : decode cX10_stretchNow 4 = .ok (.iload_n 2, 1) := by decide +kernel
theorem dX10_stretchNow_5 : decode cX10_stretchNow 5 = .ok (.aload_n 0, 1) := by decide +kernel
theorem dX10_stretchNow_6 : decode cX10_stretchNow 6 = .ok (.invokevirtual 85, 3) := by decide +kernel
theorem dX10_stretchNow_9 : decode cX10_stretchNow 9 = .ok (.if_icmp .ge 107, 3) := by decide +kernel
theorem dX10_stretchNow_12 : decode cX10_stretchNow 12 = .ok (.aload_n 0, 1) := by decide +kernel
theorem dX10_stretchNow_13 : decode cX10_stretchNow 13 = .ok (.getfield 60, 3) := by decide +kernel
theorem dX10_stretchNow_16 : decode cX10_stretchNow 16 = .ok (.iload_n 2, 1) := by decide +kernel
theorem dX10_stretchNow_17 : decode cX10_stretchNow 17 = .ok (.iaload, 1) := by decide +kernel
theorem dX10_stretchNow_18 : decode cX10_stretchNow 18 = .ok (.istore_n 3, 1) := by decide +kernel
theorem dX10_stretchNow_19 : decode cX10_stretchNow 19 = .ok (.iload_n 3, 1) := by decide +kernel
theorem dX10_stretchNow_20 : decode cX10_stretchNow 20 = .ok (.bipush 64, 2) := by decide +kernel
theorem dX10_stretchNow_22 : decode cX10_stretchNow 22 = .ok (.irem, 1) := by decide +kernel
theorem dX10_stretchNow_23 : decode cX10_stretchNow 23 = .ok (.iconst 1, 1) := by decide +kernel
theorem dX10_stretchNow_24 : decode cX10_stretchNow 24 = .ok (.iadd, 1) := by decide +kernel
theorem dX10_stretchNow_25 : decode cX10_stretchNow 25 = .ok (.aload_n 0, 1) := by decide +kernel
theorem dX10_stretchNow_26 : decode cX10_stretchNow 26 = .ok (.invokevirtual 109, 3) := by decide +kernel
theorem dX10_stretchNow_29 : decode cX10_stretchNow 29 = .ok (.if_icmp .ge 19, 3) := by decide +kernel
theorem dX10_stretchNow_32 : decode cX10_stretchNow 32 = .ok (.aload_n 0, 1) := by decide +kernel
theorem dX10_stretchNow_33 : decode cX10_stretchNow 33 = .ok (.getfield 57, 3) := by decide +kernel
theorem dX10_stretchNow_36 : decode cX10_stretchNow 36 = .ok (.iload_n 3, 1) := by decide +kernel
theorem dX10_stretchNow_37 : decode cX10_stretchNow 37 = .ok (.iconst 1, 1) := by decide +kernel
theorem dX10_stretchNow_38 : decode cX10_stretchNow 38 = .ok (.iadd, 1) := by decide +kernel
theorem dX10_stretchNow_39 : decode cX10_stretchNow 39 = .ok (.iaload, 1) := by decide +kernel
theorem dX10_stretchNow_40 : decode cX10_stretchNow 40 = .ok (.iload_n 2, 1) := by decide +kernel
theorem dX10_stretchNow_41 : decode cX10_stretchNow 41 = .ok (.isub, 1) := by decide +kernel
theorem dX10_stretchNow_42 : decode cX10_stretchNow 42 = .ok (.invokestatic 119, 3) := by decide +kernel
theorem dX10_stretchNow_45 : decode cX10_stretchNow 45 = .ok (.goto 4, 3) := by decide +kernel
theorem dX10_stretchNow_48 : decode cX10_stretchNow 48 = .ok (.iconst 0, 1) := by decide +kernel
theorem dX10_stretchNow_49 : decode cX10_stretchNow 49 = .ok (.istore 4, 2) := by decide +kernel
theorem dX10_stretchNow_51 : decode cX10_stretchNow 51 = .ok (.iload_n 3, 1) := by decide +kernel
theorem dX10_stretchNow_52 : decode cX10_stretchNow 52 = .ok (.bipush 64, 2) := by decide +kernel
theorem dX10_stretchNow_54 : decode cX10_stretchNow 54 = .ok (.idiv, 1) := by decide +kernel
theorem dX10_stretchNow_55 : decode cX10_stretchNow 55 = .ok (.iconst 1, 1) := by decide +kernel
theorem dX10_stretchNow_56 : decode cX10_stretchNow 56 = .ok (.iadd, 1) := by decide +kernel
theorem dX10_stretchNow_57 : decode cX10_stretchNow 57 = .ok (.aload_n 0, 1) := by decide +kernel
theorem dX10_stretchNow_58 : decode cX10_stretchNow 58 = .ok (.invokevirtual 109, 3) := by decide +kernel
theorem dX10_stretchNow_61 : decode cX10_stretchNow 61 = .ok (.if_icmp .ge 20, 3) := by decide +kernel
theorem dX10_stretchNow_64 : decode cX10_stretchNow 64 = .ok (.aload_n 0, 1) := by decide +kernel
theorem dX10_stretchNow_65 : decode cX10_stretchNow 65 = .ok (.getfield 57, 3) := by decide +kernel
theorem dX10_stretchNow_68 : decode cX10_stretchNow 68 = .ok (.iload_n 3, 1) := by decide +kernel
theorem dX10_stretchNow_69 : decode cX10_stretchNow 69 = .ok (.bipush 64, 2) := by decide +kernel
theorem dX10_stretchNow_71 : decode cX10_stretchNow 71 = .ok (.iadd, 1) := by decide +kernel
theorem dX10_stretchNow_72 : decode cX10_stretchNow 72 = .ok (.iaload, 1) := by decide +kernel
theorem dX10_stretchNow_73 : decode cX10_stretchNow 73 = .ok (.iload_n 2, 1) := by decide +kernel
theorem dX10_stretchNow_74 : decode cX10_stretchNow 74 = .ok (.isub, 1) := by decide +kernel
theorem dX10_stretchNow_75 : decode cX10_stretchNow 75 = .ok (.invokestatic 119, 3) := by decide +kernel
theorem dX10_stretchNow_78 : decode cX10_stretchNow 78 = .ok (.goto 4, 3) := by decide +kernel
theorem dX10_stretchNow_81 : decode cX10_stretchNow 81 = .ok (.iconst 0, 1) := by decide +kernel
theorem dX10_stretchNow_82 : decode cX10_stretchNow 82 = .ok (.istore 5, 2) := by decide +kernel
theorem dX10_stretchNow_84 : decode cX10_stretchNow 84 = .ok (.iload 4, 2) := by decide +kernel
theorem dX10_stretchNow_86 : decode cX10_stretchNow 86 = .ok (.iload_n 1, 1) := by decide +kernel
theorem dX10_stretchNow_87 : decode cX10_stretchNow 87 = .ok (.if_icmp .le 8, 3) := by decide +kernel
theorem dX10_stretchNow_90 : decode cX10_stretchNow 90 = .ok (.iload 4, 2) := by decide +kernel
theorem dX10_stretchNow_92 : decode cX10_stretchNow 92 = .ok (.goto 4, 3) := by decide +kernel
theorem dX10_stretchNow_95 : decode cX10_stretchNow 95 = .ok (.iload_n 1, 1) := by decide +kernel
theorem dX10_stretchNow_96 : decode cX10_stretchNow 96 = .ok (.istore_n 1, 1) := by decide +kernel
theorem dX10_stretchNow_97 : decode cX10_stretchNow 97 = .ok (.iload 5, 2) := by decide +kernel
theorem dX10_stretchNow_99 : decode cX10_stretchNow 99 = .ok (.iload_n 1, 1) := by decide +kernel
theorem dX10_stretchNow_100 : decode cX10_stretchNow 100 = .ok (.if_icmp .le 8, 3) := by decide +kernel
theorem dX10_stretchNow_103 : decode cX10_stretchNow 103 = .ok (.iload 5, 2) := by decide +kernel
theorem dX10_stretchNow_105 : decode cX10_stretchNow 105 = .ok (.goto 4, 3) := by decide +kernel
theorem dX10_stretchNow_108 : decode cX10_stretchNow 108 = .ok (.iload_n 1, 1) := by decide +kernel
theorem dX10_stretchNow_109 : decode cX10_stretchNow 109 = .ok (.istore_n 1, 1) := by decide +kernel
theorem dX10_stretchNow_110 : decode cX10_stretchNow 110 = .ok (.iinc 2 1, 3) := by decide +kernel
theorem dX10_stretchNow_113 : decode cX10_stretchNow 113 = .ok (.goto (-109), 3) := by decide +kernel
theorem dX10_stretchNow_116 : decode cX10_stretchNow 116 = .ok (.iload_n 1, 1) := by decide +kernel
theorem dX10_stretchNow_117 : decode cX10_stretchNow 117 = .ok (.ireturn, 1) := by decide +kernel
set_option maxRecDepth 20000 in
theorem ggX10_stretch_X10_stretchNow : GoodIn wsX10_stretch wsX10_stretchNow := goodIn_r _ [5, 6, 7, 8, 9, 10, 4, 11, 12, 13, 14, 15, 16, 17, 18, 19, 20, 21, 22, 23, 24, 25, 26, 27, 28, 29, 30, 31, 32, 33, 34, 35, 36, 37, 38, 39, 40, 41, 42, 43, 44, 45, 46, 47, 48] (by decide +kernel) (by decide +kernel)
set_option maxRecDepth 20000 in
theorem gX10_stretch_X10_stretchNow : GoodIn wsX10_stretch (wsV RX10 129 RX10 yX10_stretchNow wsX10_stretchNow) := goodIn_app (goodIn_of _ (by decide +kernel)) ggX10_stretch_X10_stretchNow
theorem dX10_stretch_0 : decode cX10_stretch 0 = .ok (.aload_n 0, 1) := by decide +kernel
theorem dX10_stretch_1 : decode cX10_stretch 1 = .ok (.invokevirtual 129, 3) := by decide +kernel
theorem dX10_stretch_4 : decode cX10_stretch 4 = .ok (.ireturn, 1) := by decide +kernel
set_option maxRecDepth 20000 in
theorem ggX10_append_X10_in : GoodIn wsX10_append wsX10_in := goodIn_r _ [6] (by decide +kernel) (by decide +kernel)
set_option maxRecDepth 20000 in
theorem gX10_append_X10_in : GoodIn wsX10_append (va_wsS RX10 99 yX10_in wsX10_in) := goodIn_app (goodIn_of _ (by decide +kernel)) ggX10_append_X10_in
theorem dX10_append_0 : decode cX10_append 0 = .ok (.iload_n 1, 1) := by decide +kernel
theorem dX10_append_1 : decode cX10_append 1 = .ok (.iconst 0, 1) := by decide +kernel
theorem dX10_append_2 : decode cX10_append 2 = .ok (.bipush 127, 2) := by decide +kernel
theorem dX10_append_4 : decode cX10_append 4 = .ok (.invokestatic 99, 3) := by decide +kernel
theorem dX10_append_7 : decode cX10_append 7 = .ok (.ifCond .ne 6, 3) := by decide +kernel
theorem dX10_append_10 : decode cX10_append 10 = .ok (.bipush (-2), 2) := by decide +kernel
theorem dX10_append_12 : decode cX10_append 12 = .ok (.ireturn, 1) := by decide +kernel
theorem dX10_append_13 : decode cX10_append 13 = .ok (.aload_n 0, 1) := by decide +kernel
theorem dX10_append_14 : decode cX10_append 14 = .ok (.getfield 132, 3) := by decide +kernel
theorem dX10_append_17 : decode cX10_append 17 = .ok (.bipush 80, 2) := by decide +kernel
theorem dX10_append_19 : decode cX10_append 19 = .ok (.if_icmp .ne 6, 3) := by decide +kernel
theorem dX10_append_22 : decode cX10_append 22 = .ok (.bipush (-4), 2) := by decide +kernel
theorem dX10_append_24 : decode cX10_append 24 = .ok (.ireturn, 1) := by decide +kernel
theorem dX10_append_25 : decode cX10_append 25 = .ok (.aload_n 0, 1) := by decide +kernel
theorem dX10_append_26 : decode cX10_append 26 = .ok (.getfield 38, 3) := by decide +kernel
theorem dX10_append_29 : decode cX10_append 29 = .ok (.aload_n 0, 1) := by decide +kernel
theorem dX10_append_30 : decode cX10_append 30 = .ok (.getfield 132, 3) := by decide +kernel
theorem dX10_append_33 : decode cX10_append 33 = .ok (.iload_n 1, 1) := by decide +kernel
theorem dX10_append_34 : decode cX10_append 34 = .ok (.iastore, 1) := by decide +kernel
theorem dX10_append_35 : decode cX10_append 35 = .ok (.aload_n 0, 1) := by decide +kernel
theorem dX10_append_36 : decode cX10_append 36 = .ok (.dup, 1) := by decide +kernel
theorem dX10_append_37 : decode cX10_append 37 = .ok (.getfield 132, 3) := by decide +kernel
theorem dX10_append_40 : decode cX10_append 40 = .ok (.iconst 1, 1) := by decide +kernel
theorem dX10_append_41 : decode cX10_append 41 = .ok (.iadd, 1) := by decide +kernel
theorem dX10_append_42 : decode cX10_append 42 = .ok (.putfield 132, 3) := by decide +kernel
theorem dX10_append_45 : decode cX10_append 45 = .ok (.aload_n 0, 1) := by decide +kernel
theorem dX10_append_46 : decode cX10_append 46 = .ok (.getfield 132, 3) := by decide +kernel
theorem dX10_append_49 : decode cX10_append 49 = .ok (.ireturn, 1) := by decide +kernel
theorem dX10_clearText_0 : decode cX10_clearText 0 = .ok (.aload_n 0, 1) := by decide +kernel
theorem dX10_clearText_1 : decode cX10_clearText 1 = .ok (.getfield 132, 3) := by decide +kernel
theorem dX10_clearText_4 : decode cX10_clearText 4 = .ok (.istore_n 1, 1) := by decide +kernel
theorem dX10_clearText_5 : decode cX10_clearText 5 = .ok (.aload_n 0, 1) := by decide +kernel
theorem dX10_clearText_6 : decode cX10_clearText 6 = .ok (.iconst 0, 1) := by decide +kernel
theorem dX10_clearText_7 : decode cX10_clearText 7 = .ok (.putfield 132, 3) := by decide +kernel
theorem dX10_clearText_10 : decode cX10_clearText 10 = .ok (.iload_n 1, 1) := by decide +kernel
theorem dX10_clearText_11 : decode cX10_clearText 11 = .ok (.ireturn, 1) := by decide +kernel
set_option maxRecDepth 20000 in
theorem ggX10_isWell_X10_in : GoodIn wsX10_isWell wsX10_in := goodIn_r _ [5] (by decide +kernel) (by decide +kernel)
set_option maxRecDepth 20000 in
theorem gX10_isWell_X10_in : GoodIn wsX10_isWell (va_wsS RX10 99 yX10_in wsX10_in) := goodIn_app (goodIn_of _ (by decide +kernel)) ggX10_isWell_X10_in
theorem dX10_isWell_0 : decode cX10_isWell 0 = .ok (.iload_n 1, 1) := by decide +kernel
theorem dX10_isWell_1 : decode cX10_isWell 1 = .ok (.bipush 9, 2) := by decide +kernel
theorem dX10_isWell_3 : decode cX10_isWell 3 = .ok (.irem, 1) := by decide +kernel
theorem dX10_isWell_4 : decode cX10_isWell 4 = .ok (.istore_n 2, 1) := by decide +kernel
theorem dX10_isWell_5 : decode cX10_isWell 5 = .ok (.iload_n 1, 1) := by decide +kernel
theorem dX10_isWell_6 : decode cX10_isWell 6 = .ok (.bipush 72, 2) := by decide +kernel
theorem dX10_isWell_8 : decode cX10_isWell 8 = .ok (.if_icmp .lt 5, 3) := by decide +kernel
theorem dX10_isWell_11 : decode cX10_isWell 11 = .ok (.iconst 0, 1) := by decide +kernel
theorem dX10_isWell_12 : decode cX10_isWell 12 = .ok (.ireturn, 1) := by decide +kernel
theorem dX10_isWell_13 : decode cX10_isWell 13 = .ok (.iload_n 2, 1) := by decide +kernel
theorem dX10_isWell_14 : decode cX10_isWell 14 = .ok (.bipush 8, 2) := by decide +kernel
theorem dX10_isWell_16 : decode cX10_isWell 16 = .ok (.if_icmp .ne 20, 3) := by decide +kernel
theorem dX10_isWell_19 : decode cX10_isWell 19 = .ok (.aload_n 0, 1) := by decide +kernel
theorem dX10_isWell_20 : decode cX10_isWell 20 = .ok (.getfield 38, 3) := by decide +kernel
theorem dX10_isWell_23 : decode cX10_isWell 23 = .ok (.iload_n 1, 1) := by decide +kernel
theorem dX10_isWell_24 : decode cX10_isWell 24 = .ok (.iaload, 1) := by decide +kernel
theorem dX10_isWell_25 : decode cX10_isWell 25 = .ok (.bipush 59, 2) := by decide +kernel
theorem dX10_isWell_27 : decode cX10_isWell 27 = .ok (.if_icmp .ne 7, 3) := by decide +kernel
theorem dX10_isWell_30 : decode cX10_isWell 30 = .ok (.iconst 1, 1) := by decide +kernel
theorem dX10_isWell_31 : decode cX10_isWell 31 = .ok (.goto 4, 3) := by decide +kernel
theorem dX10_isWell_34 : decode cX10_isWell 34 = .ok (.iconst 0, 1) := by decide +kernel
theorem dX10_isWell_35 : decode cX10_isWell 35 = .ok (.ireturn, 1) := by decide +kernel
theorem dX10_isWell_36 : decode cX10_isWell 36 = .ok (.aload_n 0, 1) := by decide +kernel
theorem dX10_isWell_37 : decode cX10_isWell 37 = .ok (.getfield 38, 3) := by decide +kernel
theorem dX10_isWell_40 : decode cX10_isWell 40 = .ok (.iload_n 1, 1) := by decide +kernel
theorem dX10_isWell_41 : decode cX10_isWell 41 = .ok (.iaload, 1) := by decide +kernel
theorem dX10_isWell_42 : decode cX10_isWell 42 = .ok (.bipush 48, 2) := by decide +kernel
theorem dX10_isWell_44 : decode cX10_isWell 44 = .ok (.iload_n 2, 1) := by decide +kernel
theorem dX10_isWell_45 : decode cX10_isWell 45 = .ok (.iconst 4, 1) := by decide +kernel
theorem dX10_isWell_46 : decode cX10_isWell 46 = .ok (.if_icmp .ge 8, 3) := by decide +kernel
theorem dX10_isWell_49 : decode cX10_isWell 49 = .ok (.bipush 51, 2) := by decide +kernel
theorem dX10_isWell_51 : decode cX10_isWell 51 = .ok (.goto 5, 3) := by decide +kernel
theorem dX10_isWell_54 : decode cX10_isWell 54 = .ok (.bipush 57, 2) := by decide +kernel
theorem dX10_isWell_56 : decode cX10_isWell 56 = .ok (.invokestatic 99, 3) := by decide +kernel
theorem dX10_isWell_59 : decode cX10_isWell 59 = .ok (.istore_n 3, 1) := by decide +kernel
theorem dX10_isWell_60 : decode cX10_isWell 60 = .ok (.iload_n 1, 1) := by decide +kernel
theorem dX10_isWell_61 : decode cX10_isWell 61 = .ok (.iload_n 2, 1) := by decide +kernel
theorem dX10_isWell_62 : decode cX10_isWell 62 = .ok (.isub, 1) := by decide +kernel
theorem dX10_isWell_63 : decode cX10_isWell 63 = .ok (.istore 4, 2) := by decide +kernel
theorem dX10_isWell_65 : decode cX10_isWell 65 = .ok (.iload 4, 2) := by decide +kernel
theorem dX10_isWell_67 : decode cX10_isWell 67 = .ok (.iload_n 1, 1) := by decide +kernel
theorem dX10_isWell_68 : decode cX10_isWell 68 = .ok (.if_icmp .ge 40, 3) := by decide +kernel
theorem dX10_isWell_71 : decode cX10_isWell 71 = .ok (.iload_n 2, 1) := by decide +kernel
theorem dX10_isWell_72 : decode cX10_isWell 72 = .ok (.iconst 4, 1) := by decide +kernel
theorem dX10_isWell_73 : decode cX10_isWell 73 = .ok (.if_icmp .ge 35, 3) := by decide +kernel
theorem dX10_isWell_76 : decode cX10_isWell 76 = .ok (.iload_n 3, 1) := by decide +kernel
theorem dX10_isWell_77 : decode cX10_isWell 77 = .ok (.ifCond .eq 23, 3) := by decide +kernel
theorem dX10_isWell_80 : decode cX10_isWell 80 = .ok (.aload_n 0, 1) := by decide +kernel
theorem dX10_isWell_81 : decode cX10_isWell 81 = .ok (.getfield 38, 3) := by decide +kernel
theorem dX10_isWell_84 : decode cX10_isWell 84 = .ok (.iload 4, 2) := by decide +kernel
theorem dX10_isWell_86 : decode cX10_isWell 86 = .ok (.iaload, 1) := by decide +kernel
theorem dX10_isWell_87 : decode cX10_isWell 87 = .ok (.aload_n 0, 1) := by decide +kernel
theorem dX10_isWell_88 : decode cX10_isWell 88 = .ok (.getfield 38, 3) := by decide +kernel
theorem dX10_isWell_91 : decode cX10_isWell 91 = .ok (.iload_n 1, 1) := by decide +kernel
theorem dX10_isWell_92 : decode cX10_isWell 92 = .ok (.iaload, 1) := by decide +kernel
theorem dX10_isWell_93 : decode cX10_isWell 93 = .ok (.if_icmp .eq 7, 3) := by decide +kernel
theorem dX10_isWell_96 : decode cX10_isWell 96 = .ok (.iconst 1, 1) := by decide +kernel
theorem dX10_isWell_97 : decode cX10_isWell 97 = .ok (.goto 4, 3) := by decide +kernel
theorem dX10_isWell_100 : decode cX10_isWell 100 = .ok (.iconst 0, 1) := by decide +kernel
theorem dX10_isWell_101 : decode cX10_isWell 101 = .ok (.istore_n 3, 1) := by decide +kernel
theorem dX10_isWell_102 : decode cX10_isWell 102 = .ok (.iinc 4 1, 3) := by decide +kernel
theorem dX10_isWell_105 : decode cX10_isWell 105 = .ok (.goto (-40), 3) := by decide +kernel
theorem dX10_isWell_108 : decode cX10_isWell 108 = .ok (.iload_n 3, 1) := by decide +kernel
theorem dX10_isWell_109 : decode cX10_isWell 109 = .ok (.ireturn, 1) := by decide +kernel
set_option maxRecDepth 20000 in
theorem ggX10_fault_X10_isWell : GoodIn wsX10_fault wsX10_isWell := goodIn_r _ [7, 2, 8, 9, 6, 10, 11, 12, 13, 14, 15, 16, 17, 18, 19, 20, 21, 22, 23, 24, 25, 26, 27, 28, 29, 30, 31, 32, 33, 34, 35, 36, 37, 38, 39] (by decide +kernel) (by decide +kernel)
set_option maxRecDepth 20000 in
theorem gX10_fault_X10_isWell : GoodIn wsX10_fault (wsV RX10 135 RX10 yX10_isWell wsX10_isWell) := goodIn_app (goodIn_of _ (by decide +kernel)) ggX10_fault_X10_isWell
set_option maxRecDepth 20000 in
theorem ggX10_fault_X10_in : GoodIn wsX10_fault wsX10_in := goodIn_r _ [10] (by decide +kernel) (by decide +kernel)
set_option maxRecDepth 20000 in
theorem gX10_fault_X10_in : GoodIn wsX10_fault (va_wsS RX10 99 yX10_in wsX10_in) := goodIn_app (goodIn_of _ (by decide +kernel)) ggX10_fault_X10_in
theorem dX10_fault_0 : decode cX10_fault 0 = .ok (.iconst 0, 1) := by decide +kernel
theorem dX10_fault_1 : decode cX10_fault 1 = .ok (.istore_n 1, 1) := by decide +kernel
theorem dX10_fault_2 : decode cX10_fault 2 = .ok (.iload_n 1, 1) := by decide +kernel
theorem dX10_fault_3 : decode cX10_fault 3 = .ok (.aload_n 0, 1) := by decide +kernel
theorem dX10_fault_4 : decode cX10_fault 4 = .ok (.getfield 132, 3) := by decide +kernel
theorem dX10_fault_7 : decode cX10_fault 7 = .ok (.if_icmp .ge 19, 3) := by decide +kernel
theorem dX10_fault_10 : decode cX10_fault 10 = .ok (.aload_n 0, 1) := by decide +kernel
theorem dX10_fault_11 : decode cX10_fault 11 = .ok (.iload_n 1, 1) := by decide +kernel
theorem dX10_fault_12 : decode cX10_fault 12 = .ok (.invokevirtual 135, 3) := by decide +kernel
theorem dX10_fault_15 : decode cX10_fault 15 = .ok (.ifCond .ne 5, 3) := by decide +kernel
theorem dX10_fault_18 : decode cX10_fault 18 = .ok (.iload_n 1, 1) := by decide +kernel
theorem dX10_fault_19 : decode cX10_fault 19 = .ok (.ireturn, 1) := by decide +kernel
theorem dX10_fault_20 : decode cX10_fault 20 = .ok (.iinc 1 1, 3) := by decide +kernel
theorem dX10_fault_23 : decode cX10_fault 23 = .ok (.goto (-21), 3) := by decide +kernel
theorem dX10_fault_26 : decode cX10_fault 26 = .ok (.aload_n 0, 1) := by decide +kernel
theorem dX10_fault_27 : decode cX10_fault 27 = .ok (.getfield 132, 3) := by decide +kernel
theorem dX10_fault_30 : decode cX10_fault 30 = .ok (.ifCond .eq 13, 3) := by decide +kernel
theorem dX10_fault_33 : decode cX10_fault 33 = .ok (.aload_n 0, 1) := by decide +kernel
theorem dX10_fault_34 : decode cX10_fault 34 = .ok (.getfield 132, 3) := by decide +kernel
theorem dX10_fault_37 : decode cX10_fault 37 = .ok (.bipush 9, 2) := by decide +kernel
theorem dX10_fault_39 : decode cX10_fault 39 = .ok (.irem, 1) := by decide +kernel
theorem dX10_fault_40 : decode cX10_fault 40 = .ok (.ifCond .eq 8, 3) := by decide +kernel
theorem dX10_fault_43 : decode cX10_fault 43 = .ok (.aload_n 0, 1) := by decide +kernel
theorem dX10_fault_44 : decode cX10_fault 44 = .ok (.getfield 132, 3) := by decide +kernel
theorem dX10_fault_47 : decode cX10_fault 47 = .ok (.ireturn, 1) := by decide +kernel
theorem dX10_fault_48 : decode cX10_fault 48 = .ok (.iconst 0, 1) := by decide +kernel
theorem dX10_fault_49 : decode cX10_fault 49 = .ok (.istore_n 1, 1) := by decide +kernel
theorem dX10_fault_50 : decode cX10_fault 50 = .ok (.iload_n 1, 1) := by decide +kernel
theorem dX10_fault_51 : decode cX10_fault 51 = .ok (.aload_n 0, 1) := by decide +kernel
theorem dX10_fault_52 : decode cX10_fault 52 = .ok (.getfield 132, 3) := by decide +kernel
theorem dX10_fault_55 : decode cX10_fault 55 = .ok (.if_icmp .ge 43, 3) := by decide +kernel
theorem dX10_fault_58 : decode cX10_fault 58 = .ok (.iload_n 1, 1) := by decide +kernel
theorem dX10_fault_59 : decode cX10_fault 59 = .ok (.bipush 9, 2) := by decide +kernel
theorem dX10_fault_61 : decode cX10_fault 61 = .ok (.irem, 1) := by decide +kernel
theorem dX10_fault_62 : decode cX10_fault 62 = .ok (.iconst 4, 1) := by decide +kernel
theorem dX10_fault_63 : decode cX10_fault 63 = .ok (.bipush 7, 2) := by decide +kernel
theorem dX10_fault_65 : decode cX10_fault 65 = .ok (.invokestatic 99, 3) := by decide +kernel
theorem dX10_fault_68 : decode cX10_fault 68 = .ok (.ifCond .eq 24, 3) := by decide +kernel
theorem dX10_fault_71 : decode cX10_fault 71 = .ok (.aload_n 0, 1) := by decide +kernel
theorem dX10_fault_72 : decode cX10_fault 72 = .ok (.getfield 38, 3) := by decide +kernel
theorem dX10_fault_75 : decode cX10_fault 75 = .ok (.iload_n 1, 1) := by decide +kernel
theorem dX10_fault_76 : decode cX10_fault 76 = .ok (.iaload, 1) := by decide +kernel
theorem dX10_fault_77 : decode cX10_fault 77 = .ok (.bipush 48, 2) := by decide +kernel
theorem dX10_fault_79 : decode cX10_fault 79 = .ok (.isub, 1) := by decide +kernel
theorem dX10_fault_80 : decode cX10_fault 80 = .ok (.aload_n 0, 1) := by decide +kernel
theorem dX10_fault_81 : decode cX10_fault 81 = .ok (.getfield 132, 3) := by decide +kernel
theorem dX10_fault_84 : decode cX10_fault 84 = .ok (.bipush 9, 2) := by decide +kernel
theorem dX10_fault_86 : decode cX10_fault 86 = .ok (.idiv, 1) := by decide +kernel
theorem dX10_fault_87 : decode cX10_fault 87 = .ok (.if_icmp .lt 5, 3) := by decide +kernel
theorem dX10_fault_90 : decode cX10_fault 90 = .ok (.iload_n 1, 1) := by decide +kernel
theorem dX10_fault_91 : decode cX10_fault 91 = .ok (.ireturn, 1) := by decide +kernel
theorem dX10_fault_92 : decode cX10_fault 92 = .ok (.iinc 1 1, 3) := by decide +kernel
theorem dX10_fault_95 : decode cX10_fault 95 = .ok (.goto (-45), 3) := by decide +kernel
theorem dX10_fault_98 : decode cX10_fault 98 = .ok (.iconst (-1), 1) := by decide +kernel
theorem dX10_fault_99 : decode cX10_fault 99 = .ok (.ireturn, 1) := by decide +kernel
set_option maxRecDepth 20000 in
theorem ggX10_faultPosition_X10_fault : GoodIn wsX10_faultPosition wsX10_fault := goodIn_r _ [5, 6, 7, 8, 9, 10, 4, 11, 12, 13, 14, 15, 16, 17, 18, 19, 20, 21, 22, 23, 24, 25, 26, 27, 28, 29, 30, 31, 32, 33, 34, 35, 36, 37, 38, 39, 40, 41, 42, 43] (by decide +kernel) (by decide +kernel)
set_option maxRecDepth 20000 in
theorem gX10_faultPosition_X10_fault : GoodIn wsX10_faultPosition (wsV RX10 139 RX10 yX10_fault wsX10_fault) := goodIn_app (goodIn_of _ (by decide +kernel)) ggX10_faultPosition_X10_fault
theorem dX10_faultPosition_0 : decode cX10_faultPosition 0 = .ok (.aload_n 0, 1) := by decide +kernel
theorem dX10_faultPosition_1 : decode cX10_faultPosition 1 = .ok (.invokevirtual 139, 3) := by decide +kernel
theorem dX10_faultPosition_4 : decode cX10_faultPosition 4 = .ok (.istore_n 1, 1) := by decide +kernel
theorem dX10_faultPosition_5 : decode cX10_faultPosition 5 = .ok (.iload_n 1, 1) := by decide +kernel
theorem dX10_faultPosition_6 : decode cX10_faultPosition 6 = .ok (.ifCond .ge 8, 3) := by decide +kernel
theorem dX10_faultPosition_9 : decode cX10_faultPosition 9 = .ok (.bipush (-5), 2) := by decide +kernel
theorem dX10_faultPosition_11 : decode cX10_faultPosition 11 = .ok (.goto 4, 3) := by decide +kernel
theorem dX10_faultPosition_14 : decode cX10_faultPosition 14 = .ok (.iload_n 1, 1) := by decide +kernel
theorem dX10_faultPosition_15 : decode cX10_faultPosition 15 = .ok (.ireturn, 1) := by decide +kernel
set_option maxRecDepth 20000 in
theorem ggX10_read_X10_fault : GoodIn wsX10_read wsX10_fault := goodIn_r _ [10, 1, 3, 11, 12, 13, 9, 14, 15, 16, 17, 56, 57, 58, 59, 60, 61, 62, 63, 64, 65, 66, 67, 68, 69, 70, 71, 72, 73, 74, 75, 76, 77, 78, 79, 80, 81, 82, 83, 84] (by decide +kernel) (by decide +kernel)
set_option maxRecDepth 20000 in
theorem gX10_read_X10_fault : GoodIn wsX10_read (wsV RX10 139 RX10 yX10_fault wsX10_fault) := goodIn_app (goodIn_of _ (by decide +kernel)) ggX10_read_X10_fault
set_option maxRecDepth 20000 in
theorem ggX10_read_X10_numbers : GoodIn wsX10_read wsX10_numbers := goodIn_r _ [21, 22, 23, 24, 25, 26, 27, 9, 28, 29, 30, 31, 32, 2, 5, 33, 34, 35, 36, 37, 38, 39, 40, 41, 42, 43, 44, 45, 46, 47, 48, 49, 50, 51, 52, 53, 54, 55, 56, 57, 58, 59, 60, 61, 62, 63, 64, 65, 66, 67, 68, 69, 70, 71, 72, 73, 74, 75, 76, 77, 78, 79, 80, 81, 82, 83, 84] (by decide +kernel) (by decide +kernel)
set_option maxRecDepth 20000 in
theorem gX10_read_X10_numbers : GoodIn wsX10_read (wsV RX10 79 RX10 yX10_numbers wsX10_numbers) := goodIn_app (goodIn_of _ (by decide +kernel)) ggX10_read_X10_numbers
theorem dX10_read_0 : decode cX10_read 0 = .ok (.aload_n 0, 1) := by decide +kernel
theorem dX10_read_1 : decode cX10_read 1 = .ok (.invokevirtual 139, 3) := by decide +kernel
theorem dX10_read_4 : decode cX10_read 4 = .ok (.ifCond .lt 6, 3) := by decide +kernel
theorem dX10_read_7 : decode cX10_read 7 = .ok (.bipush (-3), 2) := by decide +kernel
theorem dX10_read_9 : decode cX10_read 9 = .ok (.ireturn, 1) := by decide +kernel
theorem dX10_read_10 : decode cX10_read 10 = .ok (.aload_n 0, 1) := by decide +kernel
theorem dX10_read_11 : decode cX10_read 11 = .ok (.getfield 132, 3) := by decide +kernel
theorem dX10_read_14 : decode cX10_read 14 = .ok (.bipush 9, 2) := by decide +kernel
theorem dX10_read_16 : decode cX10_read 16 = .ok (.idiv, 1) := by decide +kernel
theorem dX10_read_17 : decode cX10_read 17 = .ok (.istore_n 1, 1) := by decide +kernel
theorem dX10_read_18 : decode cX10_read 18 = .ok (.iconst 0, 1) := by decide +kernel
theorem dX10_read_19 : decode cX10_read 19 = .ok (.istore_n 2, 1) := by decide +kernel
theorem dX10_read_20 : decode cX10_read 20 = .ok (.iload_n 2, 1) := by decide +kernel
theorem dX10_read_21 : decode cX10_read 21 = .ok (.aload_n 0, 1) := by decide +kernel
theorem dX10_read_22 : decode cX10_read 22 = .ok (.getfield 132, 3) := by decide +kernel
theorem dX10_read_25 : decode cX10_read 25 = .ok (.if_icmp .ge 48, 3) := by decide +kernel
theorem dX10_read_28 : decode cX10_read 28 = .ok (.iload_n 2, 1) := by decide +kernel
theorem dX10_read_29 : decode cX10_read 29 = .ok (.bipush 9, 2) := by decide +kernel
theorem dX10_read_31 : decode cX10_read 31 = .ok (.irem, 1) := by decide +kernel
theorem dX10_read_32 : decode cX10_read 32 = .ok (.bipush 8, 2) := by decide +kernel
theorem dX10_read_34 : decode cX10_read 34 = .ok (.if_icmp .ge 33, 3) := by decide +kernel
theorem dX10_read_37 : decode cX10_read 37 = .ok (.aload_n 0, 1) := by decide +kernel
theorem dX10_read_38 : decode cX10_read 38 = .ok (.getfield 17, 3) := by decide +kernel
theorem dX10_read_41 : decode cX10_read 41 = .ok (.sipush 128, 3) := by decide +kernel
theorem dX10_read_44 : decode cX10_read 44 = .ok (.bipush 8, 2) := by decide +kernel
theorem dX10_read_46 : decode cX10_read 46 = .ok (.iload_n 2, 1) := by decide +kernel
theorem dX10_read_47 : decode cX10_read 47 = .ok (.bipush 9, 2) := by decide +kernel
theorem dX10_read_49 : decode cX10_read 49 = .ok (.idiv, 1) := by decide +kernel
theorem dX10_read_50 : decode cX10_read 50 = .ok (.imul, 1) := by decide +kernel
theorem dX10_read_51 : decode cX10_read 51 = .ok (.iadd, 1) := by decide +kernel
theorem dX10_read_52 : decode cX10_read 52 = .ok (.iload_n 2, 1) := by decide +kernel
theorem dX10_read_53 : decode cX10_read 53 = .ok (.bipush 9, 2) := by decide +kernel
theorem dX10_read_55 : decode cX10_read 55 = .ok (.irem, 1) := by decide +kernel
theorem dX10_read_56 : decode cX10_read 56 = .ok (.iadd, 1) := by decide +kernel
theorem dX10_read_57 : decode cX10_read 57 = .ok (.aload_n 0, 1) := by decide +kernel
theorem dX10_read_58 : decode cX10_read 58 = .ok (.getfield 38, 3) := by decide +kernel
theorem dX10_read_61 : decode cX10_read 61 = .ok (.iload_n 2, 1) := by decide +kernel
theorem dX10_read_62 : decode cX10_read 62 = .ok (.iaload, 1) := by decide +kernel
theorem dX10_read_63 : decode cX10_read 63 = .ok (.bipush 48, 2) := by decide +kernel
theorem dX10_read_65 : decode cX10_read 65 = .ok (.isub, 1) := by decide +kernel
theorem dX10_read_66 : decode cX10_read 66 = .ok (.iastore, 1) := by decide +kernel
theorem dX10_read_67 : decode cX10_read 67 = .ok (.iinc 2 1, 3) := by decide +kernel
theorem dX10_read_70 : decode cX10_read 70 = .ok (.goto (-50), 3) := by decide +kernel
theorem dX10_read_73 : decode cX10_read 73 = .ok (.aload_n 0, 1) := by decide +kernel
theorem dX10_read_74 : decode cX10_read 74 = .ok (.getfield 13, 3) := by decide +kernel
theorem dX10_read_77 : decode cX10_read 77 = .ok (.iconst 2, 1) := by decide +kernel
theorem dX10_read_78 : decode cX10_read 78 = .ok (.iload_n 1, 1) := by decide +kernel
theorem dX10_read_79 : decode cX10_read 79 = .ok (.iastore, 1) := by decide +kernel
theorem dX10_read_80 : decode cX10_read 80 = .ok (.aload_n 0, 1) := by decide +kernel
theorem dX10_read_81 : decode cX10_read 81 = .ok (.iconst 2, 1) := by decide +kernel
theorem dX10_read_82 : decode cX10_read 82 = .ok (.putfield 82, 3) := by decide +kernel
theorem dX10_read_85 : decode cX10_read 85 = .ok (.aload_n 0, 1) := by decide +kernel
theorem dX10_read_86 : decode cX10_read 86 = .ok (.invokevirtual 79, 3) := by decide +kernel
theorem dX10_read_89 : decode cX10_read 89 = .ok (.iload_n 1, 1) := by decide +kernel
theorem dX10_read_90 : decode cX10_read 90 = .ok (.ireturn, 1) := by decide +kernel
set_option maxRecDepth 20000 in
theorem ggX10_setRange_X10_side : GoodIn wsX10_setRange wsX10_side := goodIn_r _ [9, 10, 14, 15, 16, 17, 18, 19, 20, 21, 22, 23, 24, 25, 26, 27, 28, 29, 30, 31, 32, 33, 34, 35, 36, 37, 38, 39, 40, 41, 42] (by decide +kernel) (by decide +kernel)
set_option maxRecDepth 20000 in
theorem gX10_setRange_X10_side : GoodIn wsX10_setRange (wsV RX10 109 RX10 yX10_side wsX10_side) := goodIn_app (goodIn_of _ (by decide +kernel)) ggX10_setRange_X10_side
set_option maxRecDepth 20000 in
theorem ggX10_setRange_X10_in : GoodIn wsX10_setRange wsX10_in := goodIn_r _ [13] (by decide +kernel) (by decide +kernel)
set_option maxRecDepth 20000 in
theorem gX10_setRange_X10_in : GoodIn wsX10_setRange (va_wsS RX10 99 yX10_in wsX10_in) := goodIn_app (goodIn_of _ (by decide +kernel)) ggX10_setRange_X10_in
theorem dX10_setRange_0 : decode cX10_setRange 0 = .ok (.aload_n 0, 1) := by decide +kernel
theorem dX10_setRange_1 : decode cX10_setRange 1 = .ok (.invokevirtual 109, 3) := by decide +kernel
theorem dX10_setRange_4 : decode cX10_setRange 4 = .ok (.iconst 1, 1) := by decide +kernel
theorem dX10_setRange_5 : decode cX10_setRange 5 = .ok (.isub, 1) := by decide +kernel
theorem dX10_setRange_6 : decode cX10_setRange 6 = .ok (.istore 5, 2) := by decide +kernel
theorem dX10_setRange_8 : decode cX10_setRange 8 = .ok (.iload_n 1, 1) := by decide +kernel
theorem dX10_setRange_9 : decode cX10_setRange 9 = .ok (.iconst 0, 1) := by decide +kernel
theorem dX10_setRange_10 : decode cX10_setRange 10 = .ok (.iload 5, 2) := by decide +kernel
theorem dX10_setRange_12 : decode cX10_setRange 12 = .ok (.invokestatic 99, 3) := by decide +kernel
theorem dX10_setRange_15 : decode cX10_setRange 15 = .ok (.ifCond .eq 34, 3) := by decide +kernel
theorem dX10_setRange_18 : decode cX10_setRange 18 = .ok (.iload_n 2, 1) := by decide +kernel
theorem dX10_setRange_19 : decode cX10_setRange 19 = .ok (.iconst 0, 1) := by decide +kernel
theorem dX10_setRange_20 : decode cX10_setRange 20 = .ok (.iload 5, 2) := by decide +kernel
theorem dX10_setRange_22 : decode cX10_setRange 22 = .ok (.invokestatic 99, 3) := by decide +kernel
theorem dX10_setRange_25 : decode cX10_setRange 25 = .ok (.ifCond .eq 24, 3) := by decide +kernel
theorem dX10_setRange_28 : decode cX10_setRange 28 = .ok (.iload_n 3, 1) := by decide +kernel
theorem dX10_setRange_29 : decode cX10_setRange 29 = .ok (.iload_n 1, 1) := by decide +kernel
theorem dX10_setRange_30 : decode cX10_setRange 30 = .ok (.iload 5, 2) := by decide +kernel
theorem dX10_setRange_32 : decode cX10_setRange 32 = .ok (.invokestatic 99, 3) := by decide +kernel
theorem dX10_setRange_35 : decode cX10_setRange 35 = .ok (.ifCond .eq 14, 3) := by decide +kernel
theorem dX10_setRange_38 : decode cX10_setRange 38 = .ok (.iload 4, 2) := by decide +kernel
theorem dX10_setRange_40 : decode cX10_setRange 40 = .ok (.iload_n 2, 1) := by decide +kernel
theorem dX10_setRange_41 : decode cX10_setRange 41 = .ok (.iload 5, 2) := by decide +kernel
theorem dX10_setRange_43 : decode cX10_setRange 43 = .ok (.invokestatic 99, 3) := by decide +kernel
theorem dX10_setRange_46 : decode cX10_setRange 46 = .ok (.ifCond .ne 6, 3) := by decide +kernel
theorem dX10_setRange_49 : decode cX10_setRange 49 = .ok (.bipush (-2), 2) := by decide +kernel
theorem dX10_setRange_51 : decode cX10_setRange 51 = .ok (.ireturn, 1) := by decide +kernel
theorem dX10_setRange_52 : decode cX10_setRange 52 = .ok (.aload_n 0, 1) := by decide +kernel
theorem dX10_setRange_53 : decode cX10_setRange 53 = .ok (.iload_n 1, 1) := by decide +kernel
theorem dX10_setRange_54 : decode cX10_setRange 54 = .ok (.putfield 103, 3) := by decide +kernel
theorem dX10_setRange_57 : decode cX10_setRange 57 = .ok (.aload_n 0, 1) := by decide +kernel
theorem dX10_setRange_58 : decode cX10_setRange 58 = .ok (.iload_n 2, 1) := by decide +kernel
theorem dX10_setRange_59 : decode cX10_setRange 59 = .ok (.putfield 106, 3) := by decide +kernel
theorem dX10_setRange_62 : decode cX10_setRange 62 = .ok (.aload_n 0, 1) := by decide +kernel
theorem dX10_setRange_63 : decode cX10_setRange 63 = .ok (.iload_n 3, 1) := by decide +kernel
theorem dX10_setRange_64 : decode cX10_setRange 64 = .ok (.putfield 20, 3) := by decide +kernel
theorem dX10_setRange_67 : decode cX10_setRange 67 = .ok (.aload_n 0, 1) := by decide +kernel
theorem dX10_setRange_68 : decode cX10_setRange 68 = .ok (.iload 4, 2) := by decide +kernel
theorem dX10_setRange_70 : decode cX10_setRange 70 = .ok (.putfield 23, 3) := by decide +kernel
theorem dX10_setRange_73 : decode cX10_setRange 73 = .ok (.iload_n 3, 1) := by decide +kernel
theorem dX10_setRange_74 : decode cX10_setRange 74 = .ok (.iload_n 1, 1) := by decide +kernel
theorem dX10_setRange_75 : decode cX10_setRange 75 = .ok (.isub, 1) := by decide +kernel
theorem dX10_setRange_76 : decode cX10_setRange 76 = .ok (.iconst 1, 1) := by decide +kernel
theorem dX10_setRange_77 : decode cX10_setRange 77 = .ok (.iadd, 1) := by decide +kernel
theorem dX10_setRange_78 : decode cX10_setRange 78 = .ok (.iload 4, 2) := by decide +kernel
theorem dX10_setRange_80 : decode cX10_setRange 80 = .ok (.iload_n 2, 1) := by decide +kernel
theorem dX10_setRange_81 : decode cX10_setRange 81 = .ok (.isub, 1) := by decide +kernel
theorem dX10_setRange_82 : decode cX10_setRange 82 = .ok (.iconst 1, 1) := by decide +kernel
theorem dX10_setRange_83 : decode cX10_setRange 83 = .ok (.iadd, 1) := by decide +kernel
theorem dX10_setRange_84 : decode cX10_setRange 84 = .ok (.imul, 1) := by decide +kernel
theorem dX10_setRange_85 : decode cX10_setRange 85 = .ok (.ireturn, 1) := by decide +kernel
set_option maxRecDepth 20000 in
theorem ggX10_isInRange_X10_in : GoodIn wsX10_isInRange wsX10_in := goodIn_r _ [9] (by decide +kernel) (by decide +kernel)
set_option maxRecDepth 20000 in
theorem gX10_isInRange_X10_in : GoodIn wsX10_isInRange (va_wsS RX10 99 yX10_in wsX10_in) := goodIn_app (goodIn_of _ (by decide +kernel)) ggX10_isInRange_X10_in
theorem dX10_isInRange_0 : decode cX10_isInRange 0 = .ok (.aload_n 0, 1) := by decide +kernel
theorem dX10_isInRange_1 : decode cX10_isInRange 1 = .ok (.getfield 60, 3) := by decide +kernel
theorem dX10_isInRange_4 : decode cX10_isInRange 4 = .ok (.iload_n 1, 1) := by decide +kernel
theorem dX10_isInRange_5 : decode cX10_isInRange 5 = .ok (.iaload, 1) := by decide +kernel
theorem dX10_isInRange_6 : decode cX10_isInRange 6 = .ok (.bipush 64, 2) := by decide +kernel
theorem dX10_isInRange_8 : decode cX10_isInRange 8 = .ok (.irem, 1) := by decide +kernel
theorem dX10_isInRange_9 : decode cX10_isInRange 9 = .ok (.aload_n 0, 1) := by decide +kernel
theorem dX10_isInRange_10 : decode cX10_isInRange 10 = .ok (.getfield 103, 3) := by decide +kernel
theorem dX10_isInRange_13 : decode cX10_isInRange 13 = .ok (.aload_n 0, 1) := by decide +kernel
theorem dX10_isInRange_14 : decode cX10_isInRange 14 = .ok (.getfield 20, 3) := by decide +kernel
theorem dX10_isInRange_17 : decode cX10_isInRange 17 = .ok (.invokestatic 99, 3) := by decide +kernel
theorem dX10_isInRange_20 : decode cX10_isInRange 20 = .ok (.ifCond .eq 30, 3) := by decide +kernel
theorem dX10_isInRange_23 : decode cX10_isInRange 23 = .ok (.aload_n 0, 1) := by decide +kernel
theorem dX10_isInRange_24 : decode cX10_isInRange 24 = .ok (.getfield 60, 3) := by decide +kernel
theorem dX10_isInRange_27 : decode cX10_isInRange 27 = .ok (.iload_n 1, 1) := by decide +kernel
theorem dX10_isInRange_28 : decode cX10_isInRange 28 = .ok (.iaload, 1) := by decide +kernel
theorem dX10_isInRange_29 : decode cX10_isInRange 29 = .ok (.bipush 64, 2) := by decide +kernel
theorem dX10_isInRange_31 : decode cX10_isInRange 31 = .ok (.idiv, 1) := by decide +kernel
theorem dX10_isInRange_32 : decode cX10_isInRange 32 = .ok (.aload_n 0, 1) := by decide +kernel
theorem dX10_isInRange_33 : decode cX10_isInRange 33 = .ok (.getfield 106, 3) := by decide +kernel
theorem dX10_isInRange_36 : decode cX10_isInRange 36 = .ok (.aload_n 0, 1) := by decide +kernel
theorem dX10_isInRange_37 : decode cX10_isInRange 37 = .ok (.getfield 23, 3) := by decide +kernel
theorem dX10_isInRange_40 : decode cX10_isInRange 40 = .ok (.invokestatic 99, 3) := by decide +kernel
theorem dX10_isInRange_43 : decode cX10_isInRange 43 = .ok (.ifCond .eq 7, 3) := by decide +kernel
theorem dX10_isInRange_46 : decode cX10_isInRange 46 = .ok (.iconst 1, 1) := by decide +kernel
theorem dX10_isInRange_47 : decode cX10_isInRange 47 = .ok (.goto 4, 3) := by decide +kernel
theorem dX10_isInRange_50 : decode cX10_isInRange 50 = .ok (.iconst 0, 1) := by decide +kernel
theorem dX10_isInRange_51 : decode cX10_isInRange 51 = .ok (.ireturn, 1) := by decide +kernel
set_option maxRecDepth 20000 in
theorem ggX10_findIntervals_X10_all : GoodIn wsX10_findIntervals wsX10_all := goodIn_r _ [8, 9, 22, 23, 24, 25, 26, 27, 28, 29, 30, 31, 32, 33, 34, 35, 36, 37, 38, 39, 40, 41, 42, 43, 44, 45, 46, 47, 48, 49, 50] (by decide +kernel) (by decide +kernel)
set_option maxRecDepth 20000 in
theorem gX10_findIntervals_X10_all : GoodIn wsX10_findIntervals (wsV RX10 85 RX10 yX10_all wsX10_all) := goodIn_app (goodIn_of _ (by decide +kernel)) ggX10_findIntervals_X10_all
set_option maxRecDepth 20000 in
theorem ggX10_findIntervals_X10_isInRange : GoodIn wsX10_findIntervals wsX10_isInRange := goodIn_r _ [13, 14, 15, 16, 17, 18, 19, 20, 7, 21, 22, 23, 24, 25, 26, 27, 28, 29, 30, 31, 32, 33, 34, 35, 36, 37, 38, 39, 40, 41, 42, 43, 44, 45, 46, 47, 48, 49, 50] (by decide +kernel) (by decide +kernel)
set_option maxRecDepth 20000 in
theorem gX10_findIntervals_X10_isInRange : GoodIn wsX10_findIntervals (wsV RX10 145 RX10 yX10_isInRange wsX10_isInRange) := goodIn_app (goodIn_of _ (by decide +kernel)) ggX10_findIntervals_X10_isInRange
theorem dX10_findIntervals_0 : decode cX10_findIntervals 0 = .ok (.aload_n 0, 1) := by decide +kernel
theorem dX10_findIntervals_1 : decode cX10_findIntervals 1 = .ok (.iconst 0, 1) := by decide +kernel
theorem dX10_findIntervals_2 : decode cX10_findIntervals 2 = .ok (.putfield 142, 3) := by decide +kernel
theorem dX10_findIntervals_5 : decode cX10_findIntervals 5 = .ok (.iconst 0, 1) := by decide +kernel
theorem dX10_findIntervals_6 : decode cX10_findIntervals 6 = .ok (.istore_n 1, 1) := by decide +kernel
theorem dX10_findIntervals_7 : decode cX10_findIntervals 7 = .ok (.iconst 0, 1) := by decide +kernel
theorem dX10_findIntervals_8 : decode cX10_findIntervals 8 = .ok (.istore_n 2, 1) := by decide +kernel
theorem dX10_findIntervals_9 : decode cX10_findIntervals 9 = .ok (.iload_n 2, 1) := by decide +kernel
theorem dX10_findIntervals_10 : decode cX10_findIntervals 10 = .ok (.aload_n 0, 1) := by decide +kernel
theorem dX10_findIntervals_11 : decode cX10_findIntervals 11 = .ok (.invokevirtual 85, 3) := by decide +kernel
theorem dX10_findIntervals_14 : decode cX10_findIntervals 14 = .ok (.if_icmp .ge 61, 3) := by decide +kernel
theorem dX10_findIntervals_17 : decode cX10_findIntervals 17 = .ok (.aload_n 0, 1) := by decide +kernel
theorem dX10_findIntervals_18 : decode cX10_findIntervals 18 = .ok (.iload_n 2, 1) := by decide +kernel
theorem dX10_findIntervals_19 : decode cX10_findIntervals 19 = .ok (.invokevirtual 145, 3) := by decide +kernel
theorem dX10_findIntervals_22 : decode cX10_findIntervals 22 = .ok (.istore_n 3, 1) := by decide +kernel
theorem dX10_findIntervals_23 : decode cX10_findIntervals 23 = .ok (.iload_n 3, 1) := by decide +kernel
theorem dX10_findIntervals_24 : decode cX10_findIntervals 24 = .ok (.ifCond .eq 27, 3) := by decide +kernel
theorem dX10_findIntervals_27 : decode cX10_findIntervals 27 = .ok (.iload_n 1, 1) := by decide +kernel
theorem dX10_findIntervals_28 : decode cX10_findIntervals 28 = .ok (.ifCond .ne 23, 3) := by decide +kernel
theorem dX10_findIntervals_31 : decode cX10_findIntervals 31 = .ok (.aload_n 0, 1) := by decide +kernel
theorem dX10_findIntervals_32 : decode cX10_findIntervals 32 = .ok (.getfield 63, 3) := by decide +kernel
theorem dX10_findIntervals_35 : decode cX10_findIntervals 35 = .ok (.aload_n 0, 1) := by decide +kernel
theorem dX10_findIntervals_36 : decode cX10_findIntervals 36 = .ok (.getfield 142, 3) := by decide +kernel
theorem dX10_findIntervals_39 : decode cX10_findIntervals 39 = .ok (.iload_n 2, 1) := by decide +kernel
theorem dX10_findIntervals_40 : decode cX10_findIntervals 40 = .ok (.iastore, 1) := by decide +kernel
theorem dX10_findIntervals_41 : decode cX10_findIntervals 41 = .ok (.aload_n 0, 1) := by decide +kernel
theorem dX10_findIntervals_42 : decode cX10_findIntervals 42 = .ok (.dup, 1) := by decide +kernel
theorem dX10_findIntervals_43 : decode cX10_findIntervals 43 = .ok (.getfield 142, 3) := by decide +kernel
theorem dX10_findIntervals_46 : decode cX10_findIntervals 46 = .ok (.iconst 1, 1) := by decide +kernel
theorem dX10_findIntervals_47 : decode cX10_findIntervals 47 = .ok (.iadd, 1) := by decide +kernel
theorem dX10_findIntervals_48 : decode cX10_findIntervals 48 = .ok (.putfield 142, 3) := by decide +kernel
theorem dX10_findIntervals_51 : decode cX10_findIntervals 51 = .ok (.iload_n 3, 1) := by decide +kernel
theorem dX10_findIntervals_52 : decode cX10_findIntervals 52 = .ok (.ifCond .eq 15, 3) := by decide +kernel
theorem dX10_findIntervals_55 : decode cX10_findIntervals 55 = .ok (.aload_n 0, 1) := by decide +kernel
theorem dX10_findIntervals_56 : decode cX10_findIntervals 56 = .ok (.getfield 66, 3) := by decide +kernel
theorem dX10_findIntervals_59 : decode cX10_findIntervals 59 = .ok (.aload_n 0, 1) := by decide +kernel
theorem dX10_findIntervals_60 : decode cX10_findIntervals 60 = .ok (.getfield 142, 3) := by decide +kernel
theorem dX10_findIntervals_63 : decode cX10_findIntervals 63 = .ok (.iconst 1, 1) := by decide +kernel
theorem dX10_findIntervals_64 : decode cX10_findIntervals 64 = .ok (.isub, 1) := by decide +kernel
theorem dX10_findIntervals_65 : decode cX10_findIntervals 65 = .ok (.iload_n 2, 1) := by decide +kernel
theorem dX10_findIntervals_66 : decode cX10_findIntervals 66 = .ok (.iastore, 1) := by decide +kernel
theorem dX10_findIntervals_67 : decode cX10_findIntervals 67 = .ok (.iload_n 3, 1) := by decide +kernel
theorem dX10_findIntervals_68 : decode cX10_findIntervals 68 = .ok (.istore_n 1, 1) := by decide +kernel
theorem dX10_findIntervals_69 : decode cX10_findIntervals 69 = .ok (.iinc 2 1, 3) := by decide +kernel
theorem dX10_findIntervals_72 : decode cX10_findIntervals 72 = .ok (.goto (-63), 3) := by decide +kernel
theorem dX10_findIntervals_75 : decode cX10_findIntervals 75 = .ok (.return_, 1) := by decide +kernel
set_option maxRecDepth 20000 in
theorem ggX10_intervals_X10_findIntervals : GoodIn wsX10_intervals wsX10_findIntervals := goodIn_r _ [6, 1, 7, 8, 9, 10, 11, 5, 12, 13, 14, 15, 16, 17, 18, 19, 20, 21, 22, 23, 24, 25, 26, 27, 28, 29, 30, 31, 32, 33, 34, 35, 36, 37, 38, 39, 40, 41, 42, 43, 44, 45, 46, 47, 48, 49, 50, 51, 52, 53, 54] (by decide +kernel) (by decide +kernel)
set_option maxRecDepth 20000 in
theorem gX10_intervals_X10_findIntervals : GoodIn wsX10_intervals (wsV RX10 148 RX10 yX10_findIntervals wsX10_findIntervals) := goodIn_app (goodIn_of _ (by decide +kernel)) ggX10_intervals_X10_findIntervals
theorem dX10_intervals_0 : decode cX10_intervals 0 = .ok (.aload_n 0, 1) := by decide +kernel
theorem dX10_intervals_1 : decode cX10_intervals 1 = .ok (.invokevirtual 148, 3) := by decide +kernel
theorem dX10_intervals_4 : decode cX10_intervals 4 = .ok (.aload_n 0, 1) := by decide +kernel
theorem dX10_intervals_5 : decode cX10_intervals 5 = .ok (.getfield 142, 3) := by decide +kernel
theorem dX10_intervals_8 : decode cX10_intervals 8 = .ok (.ireturn, 1) := by decide +kernel
set_option maxRecDepth 20000 in
theorem ggX10_interval_X10_findIntervals : GoodIn wsX10_interval wsX10_findIntervals := goodIn_r _ [8, 1, 3, 2, 9, 10, 11, 7, 12, 13, 14, 15, 16, 17, 18, 19, 20, 21, 22, 23, 24, 25, 26, 27, 28, 29, 30, 31, 32, 33, 34, 35, 36, 37, 38, 39, 40, 41, 42, 43, 44, 45, 46, 47, 48, 49, 50, 51, 52, 53, 54] (by decide +kernel) (by decide +kernel)
set_option maxRecDepth 20000 in
theorem gX10_interval_X10_findIntervals : GoodIn wsX10_interval (wsV RX10 148 RX10 yX10_findIntervals wsX10_findIntervals) := goodIn_app (goodIn_of _ (by decide +kernel)) ggX10_interval_X10_findIntervals
set_option maxRecDepth 20000 in
theorem ggX10_interval_X10_in : GoodIn wsX10_interval wsX10_in := goodIn_r _ [25] (by decide +kernel) (by decide +kernel)
set_option maxRecDepth 20000 in
theorem gX10_interval_X10_in : GoodIn wsX10_interval (va_wsS RX10 99 yX10_in wsX10_in) := goodIn_app (goodIn_of _ (by decide +kernel)) ggX10_interval_X10_in
theorem dX10_interval_0 : decode cX10_interval 0 = .ok (.aload_n 0, 1) := by decide +kernel
theorem dX10_interval_1 : decode cX10_interval 1 = .ok (.invokevirtual 148, 3) := by decide +kernel
theorem dX10_interval_4 : decode cX10_interval 4 = .ok (.iload_n 1, 1) := by decide +kernel
theorem dX10_interval_5 : decode cX10_interval 5 = .ok (.iconst 0, 1) := by decide +kernel
theorem dX10_interval_6 : decode cX10_interval 6 = .ok (.aload_n 0, 1) := by decide +kernel
theorem dX10_interval_7 : decode cX10_interval 7 = .ok (.getfield 142, 3) := by decide +kernel
theorem dX10_interval_10 : decode cX10_interval 10 = .ok (.iconst 1, 1) := by decide +kernel
theorem dX10_interval_11 : decode cX10_interval 11 = .ok (.isub, 1) := by decide +kernel
theorem dX10_interval_12 : decode cX10_interval 12 = .ok (.invokestatic 99, 3) := by decide +kernel
theorem dX10_interval_15 : decode cX10_interval 15 = .ok (.ifCond .ne 5, 3) := by decide +kernel
theorem dX10_interval_18 : decode cX10_interval 18 = .ok (.iconst (-1), 1) := by decide +kernel
theorem dX10_interval_19 : decode cX10_interval 19 = .ok (.ireturn, 1) := by decide +kernel
theorem dX10_interval_20 : decode cX10_interval 20 = .ok (.iload_n 2, 1) := by decide +kernel
theorem dX10_interval_21 : decode cX10_interval 21 = .ok (.ifCond .eq 12, 3) := by decide +kernel
theorem dX10_interval_24 : decode cX10_interval 24 = .ok (.aload_n 0, 1) := by decide +kernel
theorem dX10_interval_25 : decode cX10_interval 25 = .ok (.getfield 66, 3) := by decide +kernel
theorem dX10_interval_28 : decode cX10_interval 28 = .ok (.iload_n 1, 1) := by decide +kernel
theorem dX10_interval_29 : decode cX10_interval 29 = .ok (.iaload, 1) := by decide +kernel
theorem dX10_interval_30 : decode cX10_interval 30 = .ok (.goto 9, 3) := by decide +kernel
theorem dX10_interval_33 : decode cX10_interval 33 = .ok (.aload_n 0, 1) := by decide +kernel
theorem dX10_interval_34 : decode cX10_interval 34 = .ok (.getfield 63, 3) := by decide +kernel
theorem dX10_interval_37 : decode cX10_interval 37 = .ok (.iload_n 1, 1) := by decide +kernel
theorem dX10_interval_38 : decode cX10_interval 38 = .ok (.iaload, 1) := by decide +kernel
theorem dX10_interval_39 : decode cX10_interval 39 = .ok (.ireturn, 1) := by decide +kernel
set_option maxRecDepth 20000 in
theorem ggX10_joins_X10_findIntervals : GoodIn wsX10_joins wsX10_findIntervals := goodIn_r _ [8, 1, 2, 3, 9, 10, 11, 7, 12, 13, 14, 15, 16, 17, 18, 19, 20, 21, 22, 23, 24, 25, 26, 27, 28, 29, 30, 31, 32, 33, 34, 35, 36, 37, 38, 39, 40, 41, 42, 43, 44, 45, 46, 47, 48, 49, 50, 51, 52, 53, 54] (by decide +kernel) (by decide +kernel)
set_option maxRecDepth 20000 in
theorem gX10_joins_X10_findIntervals : GoodIn wsX10_joins (wsV RX10 148 RX10 yX10_findIntervals wsX10_findIntervals) := goodIn_app (goodIn_of _ (by decide +kernel)) ggX10_joins_X10_findIntervals
theorem dX10_joins_0 : decode cX10_joins 0 = .ok (.aload_n 0, 1) := by decide +kernel
theorem dX10_joins_1 : decode cX10_joins 1 = .ok (.invokevirtual 148, 3) := by decide +kernel
theorem dX10_joins_4 : decode cX10_joins 4 = .ok (.iconst 0, 1) := by decide +kernel
theorem dX10_joins_5 : decode cX10_joins 5 = .ok (.istore_n 2, 1) := by decide +kernel
theorem dX10_joins_6 : decode cX10_joins 6 = .ok (.aload_n 0, 1) := by decide +kernel
theorem dX10_joins_7 : decode cX10_joins 7 = .ok (.getfield 142, 3) := by decide +kernel
theorem dX10_joins_10 : decode cX10_joins 10 = .ok (.iload_n 1, 1) := by decide +kernel
theorem dX10_joins_11 : decode cX10_joins 11 = .ok (.if_icmp .le 168, 3) := by decide +kernel
theorem dX10_joins_14 : decode cX10_joins 14 = .ok (.iconst 0, 1) := by decide +kernel
theorem dX10_joins_15 : decode cX10_joins 15 = .ok (.istore_n 3, 1) := by decide +kernel
theorem dX10_joins_16 : decode cX10_joins 16 = .ok (.iconst 1, 1) := by decide +kernel
theorem dX10_joins_17 : decode cX10_joins 17 = .ok (.istore 4, 2) := by decide +kernel
theorem dX10_joins_19 : decode cX10_joins 19 = .ok (.iload 4, 2) := by decide +kernel
theorem dX10_joins_21 : decode cX10_joins 21 = .ok (.iconst 1, 1) := by decide +kernel
theorem dX10_joins_22 : decode cX10_joins 22 = .ok (.iadd, 1) := by decide +kernel
theorem dX10_joins_23 : decode cX10_joins 23 = .ok (.aload_n 0, 1) := by decide +kernel
theorem dX10_joins_24 : decode cX10_joins 24 = .ok (.getfield 142, 3) := by decide +kernel
theorem dX10_joins_27 : decode cX10_joins 27 = .ok (.if_icmp .ge 51, 3) := by decide +kernel
theorem dX10_joins_30 : decode cX10_joins 30 = .ok (.aload_n 0, 1) := by decide +kernel
theorem dX10_joins_31 : decode cX10_joins 31 = .ok (.getfield 63, 3) := by decide +kernel
theorem dX10_joins_34 : decode cX10_joins 34 = .ok (.iload 4, 2) := by decide +kernel
theorem dX10_joins_36 : decode cX10_joins 36 = .ok (.iconst 1, 1) := by decide +kernel
theorem dX10_joins_37 : decode cX10_joins 37 = .ok (.iadd, 1) := by decide +kernel
theorem dX10_joins_38 : decode cX10_joins 38 = .ok (.iaload, 1) := by decide +kernel
theorem dX10_joins_39 : decode cX10_joins 39 = .ok (.aload_n 0, 1) := by decide +kernel
theorem dX10_joins_40 : decode cX10_joins 40 = .ok (.getfield 66, 3) := by decide +kernel
theorem dX10_joins_43 : decode cX10_joins 43 = .ok (.iload 4, 2) := by decide +kernel
theorem dX10_joins_45 : decode cX10_joins 45 = .ok (.iaload, 1) := by decide +kernel
theorem dX10_joins_46 : decode cX10_joins 46 = .ok (.isub, 1) := by decide +kernel
theorem dX10_joins_47 : decode cX10_joins 47 = .ok (.aload_n 0, 1) := by decide +kernel
theorem dX10_joins_48 : decode cX10_joins 48 = .ok (.getfield 63, 3) := by decide +kernel
theorem dX10_joins_51 : decode cX10_joins 51 = .ok (.iload_n 3, 1) := by decide +kernel
theorem dX10_joins_52 : decode cX10_joins 52 = .ok (.iconst 1, 1) := by decide +kernel
theorem dX10_joins_53 : decode cX10_joins 53 = .ok (.iadd, 1) := by decide +kernel
theorem dX10_joins_54 : decode cX10_joins 54 = .ok (.iaload, 1) := by decide +kernel
theorem dX10_joins_55 : decode cX10_joins 55 = .ok (.aload_n 0, 1) := by decide +kernel
theorem dX10_joins_56 : decode cX10_joins 56 = .ok (.getfield 66, 3) := by decide +kernel
theorem dX10_joins_59 : decode cX10_joins 59 = .ok (.iload_n 3, 1) := by decide +kernel
theorem dX10_joins_60 : decode cX10_joins 60 = .ok (.iaload, 1) := by decide +kernel
theorem dX10_joins_61 : decode cX10_joins 61 = .ok (.isub, 1) := by decide +kernel
theorem dX10_joins_62 : decode cX10_joins 62 = .ok (.if_icmp .ge 8, 3) := by decide +kernel
theorem dX10_joins_65 : decode cX10_joins 65 = .ok (.iload 4, 2) := by decide +kernel
theorem dX10_joins_67 : decode cX10_joins 67 = .ok (.goto 4, 3) := by decide +kernel
theorem dX10_joins_70 : decode cX10_joins 70 = .ok (.iload_n 3, 1) := by decide +kernel
theorem dX10_joins_71 : decode cX10_joins 71 = .ok (.istore_n 3, 1) := by decide +kernel
theorem dX10_joins_72 : decode cX10_joins 72 = .ok (.iinc 4 1, 3) := by decide +kernel
theorem dX10_joins_75 : decode cX10_joins 75 = .ok (.goto (-56), 3) := by decide +kernel
theorem dX10_joins_78 : decode cX10_joins 78 = .ok (.iload_n 2, 1) := by decide +kernel
theorem dX10_joins_79 : decode cX10_joins 79 = .ok (.aload_n 0, 1) := by decide +kernel
theorem dX10_joins_80 : decode cX10_joins 80 = .ok (.getfield 63, 3) := by decide +kernel
theorem dX10_joins_83 : decode cX10_joins 83 = .ok (.iload_n 3, 1) := by decide +kernel
theorem dX10_joins_84 : decode cX10_joins 84 = .ok (.iconst 1, 1) := by decide +kernel
theorem dX10_joins_85 : decode cX10_joins 85 = .ok (.iadd, 1) := by decide +kernel
theorem dX10_joins_86 : decode cX10_joins 86 = .ok (.iaload, 1) := by decide +kernel
theorem dX10_joins_87 : decode cX10_joins 87 = .ok (.aload_n 0, 1) := by decide +kernel
theorem dX10_joins_88 : decode cX10_joins 88 = .ok (.getfield 66, 3) := by decide +kernel
theorem dX10_joins_91 : decode cX10_joins 91 = .ok (.iload_n 3, 1) := by decide +kernel
theorem dX10_joins_92 : decode cX10_joins 92 = .ok (.iaload, 1) := by decide +kernel
theorem dX10_joins_93 : decode cX10_joins 93 = .ok (.isub, 1) := by decide +kernel
theorem dX10_joins_94 : decode cX10_joins 94 = .ok (.iconst 1, 1) := by decide +kernel
theorem dX10_joins_95 : decode cX10_joins 95 = .ok (.isub, 1) := by decide +kernel
theorem dX10_joins_96 : decode cX10_joins 96 = .ok (.iadd, 1) := by decide +kernel
theorem dX10_joins_97 : decode cX10_joins 97 = .ok (.istore_n 2, 1) := by decide +kernel
theorem dX10_joins_98 : decode cX10_joins 98 = .ok (.aload_n 0, 1) := by decide +kernel
theorem dX10_joins_99 : decode cX10_joins 99 = .ok (.getfield 66, 3) := by decide +kernel
theorem dX10_joins_102 : decode cX10_joins 102 = .ok (.iload_n 3, 1) := by decide +kernel
theorem dX10_joins_103 : decode cX10_joins 103 = .ok (.aload_n 0, 1) := by decide +kernel
theorem dX10_joins_104 : decode cX10_joins 104 = .ok (.getfield 66, 3) := by decide +kernel
theorem dX10_joins_107 : decode cX10_joins 107 = .ok (.iload_n 3, 1) := by decide +kernel
theorem dX10_joins_108 : decode cX10_joins 108 = .ok (.iconst 1, 1) := by decide +kernel
theorem dX10_joins_109 : decode cX10_joins 109 = .ok (.iadd, 1) := by decide +kernel
theorem dX10_joins_110 : decode cX10_joins 110 = .ok (.iaload, 1) := by decide +kernel
theorem dX10_joins_111 : decode cX10_joins 111 = .ok (.iastore, 1) := by decide +kernel
theorem dX10_joins_112 : decode cX10_joins 112 = .ok (.iload_n 3, 1) := by decide +kernel
theorem dX10_joins_113 : decode cX10_joins 113 = .ok (.iconst 1, 1) := by decide +kernel
theorem dX10_joins_114 : decode cX10_joins 114 = .ok (.iadd, 1) := by decide +kernel
theorem dX10_joins_115 : decode cX10_joins 115 = .ok (.istore 4, 2) := by decide +kernel
theorem dX10_joins_117 : decode cX10_joins 117 = .ok (.iload 4, 2) := by decide +kernel
theorem dX10_joins_119 : decode cX10_joins 119 = .ok (.iconst 1, 1) := by decide +kernel
theorem dX10_joins_120 : decode cX10_joins 120 = .ok (.iadd, 1) := by decide +kernel
theorem dX10_joins_121 : decode cX10_joins 121 = .ok (.aload_n 0, 1) := by decide +kernel
theorem dX10_joins_122 : decode cX10_joins 122 = .ok (.getfield 142, 3) := by decide +kernel
theorem dX10_joins_125 : decode cX10_joins 125 = .ok (.if_icmp .ge 41, 3) := by decide +kernel
theorem dX10_joins_128 : decode cX10_joins 128 = .ok (.aload_n 0, 1) := by decide +kernel
theorem dX10_joins_129 : decode cX10_joins 129 = .ok (.getfield 63, 3) := by decide +kernel
theorem dX10_joins_132 : decode cX10_joins 132 = .ok (.iload 4, 2) := by decide +kernel
theorem dX10_joins_134 : decode cX10_joins 134 = .ok (.aload_n 0, 1) := by decide +kernel
theorem dX10_joins_135 : decode cX10_joins 135 = .ok (.getfield 63, 3) := by decide +kernel
theorem dX10_joins_138 : decode cX10_joins 138 = .ok (.iload 4, 2) := by decide +kernel
theorem dX10_joins_140 : decode cX10_joins 140 = .ok (.iconst 1, 1) := by decide +kernel
theorem dX10_joins_141 : decode cX10_joins 141 = .ok (.iadd, 1) := by decide +kernel
theorem dX10_joins_142 : decode cX10_joins 142 = .ok (.iaload, 1) := by decide +kernel
theorem dX10_joins_143 : decode cX10_joins 143 = .ok (.iastore, 1) := by decide +kernel
theorem dX10_joins_144 : decode cX10_joins 144 = .ok (.aload_n 0, 1) := by decide +kernel
theorem dX10_joins_145 : decode cX10_joins 145 = .ok (.getfield 66, 3) := by decide +kernel
theorem dX10_joins_148 : decode cX10_joins 148 = .ok (.iload 4, 2) := by decide +kernel
theorem dX10_joins_150 : decode cX10_joins 150 = .ok (.aload_n 0, 1) := by decide +kernel
theorem dX10_joins_151 : decode cX10_joins 151 = .ok (.getfield 66, 3) := by decide +kernel
theorem dX10_joins_154 : decode cX10_joins 154 = .ok (.iload 4, 2) := by decide +kernel
theorem dX10_joins_156 : decode cX10_joins 156 = .ok (.iconst 1, 1) := by decide +kernel
theorem dX10_joins_157 : decode cX10_joins 157 = .ok (.iadd, 1) := by decide +kernel
theorem dX10_joins_158 : decode cX10_joins 158 = .ok (.iaload, 1) := by decide +kernel
theorem dX10_joins_159 : decode cX10_joins 159 = .ok (.iastore, 1) := by decide +kernel
theorem dX10_joins_160 : decode cX10_joins 160 = .ok (.iinc 4 1, 3) := by decide +kernel
theorem dX10_joins_163 : decode cX10_joins 163 = .ok (.goto (-46), 3) := by decide +kernel
theorem dX10_joins_166 : decode cX10_joins 166 = .ok (.aload_n 0, 1) := by decide +kernel
theorem dX10_joins_167 : decode cX10_joins 167 = .ok (.dup, 1) := by decide +kernel
theorem dX10_joins_168 : decode cX10_joins 168 = .ok (.getfield 142, 3) := by decide +kernel
theorem dX10_joins_171 : decode cX10_joins 171 = .ok (.iconst 1, 1) := by decide +kernel
theorem dX10_joins_172 : decode cX10_joins 172 = .ok (.isub, 1) := by decide +kernel
theorem dX10_joins_173 : decode cX10_joins 173 = .ok (.putfield 142, 3) := by decide +kernel
theorem dX10_joins_176 : decode cX10_joins 176 = .ok (.goto (-170), 3) := by decide +kernel
theorem dX10_joins_179 : decode cX10_joins 179 = .ok (.iload_n 2, 1) := by decide +kernel
theorem dX10_joins_180 : decode cX10_joins 180 = .ok (.ireturn, 1) := by decide +kernel
set_option maxRecDepth 20000 in
theorem ggX10_extra_X10_joins : GoodIn wsX10_extra wsX10_joins := goodIn_r _ [5, 6, 7, 8, 9, 10, 11, 4, 12, 13, 14, 15, 16, 17, 18, 19, 20, 21, 22, 23, 24, 25, 26, 27, 28, 29, 30, 31, 32, 33, 34, 35, 36, 37, 38, 39, 40, 41, 42, 43, 44, 45, 46, 47, 48, 49, 50, 51, 52, 53, 54, 55, 56, 57, 58] (by decide +kernel) (by decide +kernel)
set_option maxRecDepth 20000 in
theorem gX10_extra_X10_joins : GoodIn wsX10_extra (wsV RX10 151 RX10 yX10_joins wsX10_joins) := goodIn_app (goodIn_of _ (by decide +kernel)) ggX10_extra_X10_joins
theorem dX10_extra_0 : decode cX10_extra 0 = .ok (.iload_n 1, 1) := by decide +kernel
theorem dX10_extra_1 : decode cX10_extra 1 = .ok (.iconst 1, 1) := by decide +kernel
theorem dX10_extra_2 : decode cX10_extra 2 = .ok (.if_icmp .ge 8, 3) := by decide +kernel
theorem dX10_extra_5 : decode cX10_extra 5 = .ok (.bipush (-2), 2) := by decide +kernel
theorem dX10_extra_7 : decode cX10_extra 7 = .ok (.goto 8, 3) := by decide +kernel
theorem dX10_extra_10 : decode cX10_extra 10 = .ok (.aload_n 0, 1) := by decide +kernel
theorem dX10_extra_11 : decode cX10_extra 11 = .ok (.iload_n 1, 1) := by decide +kernel
theorem dX10_extra_12 : decode cX10_extra 12 = .ok (.invokevirtual 151, 3) := by decide +kernel
theorem dX10_extra_15 : decode cX10_extra 15 = .ok (.ireturn, 1) := by decide +kernel
set_option maxRecDepth 20000 in
theorem ggX10_covering_X10_joins : GoodIn wsX10_covering wsX10_joins := goodIn_r _ [8, 1, 3, 2, 9, 10, 11, 7, 12, 13, 14, 15, 16, 17, 18, 19, 20, 21, 22, 23, 24, 25, 26, 27, 28, 29, 30, 31, 32, 33, 34, 35, 36, 37, 38, 39, 40, 41, 42, 43, 44, 45, 46, 47, 48, 49, 50, 51, 52, 53, 54, 55, 56, 57, 58] (by decide +kernel) (by decide +kernel)
set_option maxRecDepth 20000 in
theorem gX10_covering_X10_joins : GoodIn wsX10_covering (wsV RX10 151 RX10 yX10_joins wsX10_joins) := goodIn_app (goodIn_of _ (by decide +kernel)) ggX10_covering_X10_joins
set_option maxRecDepth 20000 in
theorem ggX10_covering_X10_in : GoodIn wsX10_covering wsX10_in := goodIn_r _ [29] (by decide +kernel) (by decide +kernel)
set_option maxRecDepth 20000 in
theorem gX10_covering_X10_in : GoodIn wsX10_covering (va_wsS RX10 99 yX10_in wsX10_in) := goodIn_app (goodIn_of _ (by decide +kernel)) ggX10_covering_X10_in
theorem dX10_covering_0 : decode cX10_covering 0 = .ok (.iload_n 1, 1) := by decide +kernel
theorem dX10_covering_1 : decode cX10_covering 1 = .ok (.iconst 1, 1) := by decide +kernel
theorem dX10_covering_2 : decode cX10_covering 2 = .ok (.if_icmp .ge 6, 3) := by decide +kernel
theorem dX10_covering_5 : decode cX10_covering 5 = .ok (.bipush (-2), 2) := by decide +kernel
theorem dX10_covering_7 : decode cX10_covering 7 = .ok (.ireturn, 1) := by decide +kernel
theorem dX10_covering_8 : decode cX10_covering 8 = .ok (.aload_n 0, 1) := by decide +kernel
theorem dX10_covering_9 : decode cX10_covering 9 = .ok (.iload_n 1, 1) := by decide +kernel
theorem dX10_covering_10 : decode cX10_covering 10 = .ok (.invokevirtual 151, 3) := by decide +kernel
theorem dX10_covering_13 : decode cX10_covering 13 = .ok (.istore 4, 2) := by decide +kernel
theorem dX10_covering_15 : decode cX10_covering 15 = .ok (.iload_n 2, 1) := by decide +kernel
theorem dX10_covering_16 : decode cX10_covering 16 = .ok (.iconst 0, 1) := by decide +kernel
theorem dX10_covering_17 : decode cX10_covering 17 = .ok (.aload_n 0, 1) := by decide +kernel
theorem dX10_covering_18 : decode cX10_covering 18 = .ok (.getfield 142, 3) := by decide +kernel
theorem dX10_covering_21 : decode cX10_covering 21 = .ok (.iconst 1, 1) := by decide +kernel
theorem dX10_covering_22 : decode cX10_covering 22 = .ok (.isub, 1) := by decide +kernel
theorem dX10_covering_23 : decode cX10_covering 23 = .ok (.invokestatic 99, 3) := by decide +kernel
theorem dX10_covering_26 : decode cX10_covering 26 = .ok (.ifCond .ne 5, 3) := by decide +kernel
theorem dX10_covering_29 : decode cX10_covering 29 = .ok (.iconst (-1), 1) := by decide +kernel
theorem dX10_covering_30 : decode cX10_covering 30 = .ok (.ireturn, 1) := by decide +kernel
theorem dX10_covering_31 : decode cX10_covering 31 = .ok (.iload_n 3, 1) := by decide +kernel
theorem dX10_covering_32 : decode cX10_covering 32 = .ok (.ifCond .eq 12, 3) := by decide +kernel
theorem dX10_covering_35 : decode cX10_covering 35 = .ok (.aload_n 0, 1) := by decide +kernel
theorem dX10_covering_36 : decode cX10_covering 36 = .ok (.getfield 66, 3) := by decide +kernel
theorem dX10_covering_39 : decode cX10_covering 39 = .ok (.iload_n 2, 1) := by decide +kernel
theorem dX10_covering_40 : decode cX10_covering 40 = .ok (.iaload, 1) := by decide +kernel
theorem dX10_covering_41 : decode cX10_covering 41 = .ok (.goto 9, 3) := by decide +kernel
theorem dX10_covering_44 : decode cX10_covering 44 = .ok (.aload_n 0, 1) := by decide +kernel
theorem dX10_covering_45 : decode cX10_covering 45 = .ok (.getfield 63, 3) := by decide +kernel
theorem dX10_covering_48 : decode cX10_covering 48 = .ok (.iload_n 2, 1) := by decide +kernel
theorem dX10_covering_49 : decode cX10_covering 49 = .ok (.iaload, 1) := by decide +kernel
theorem dX10_covering_50 : decode cX10_covering 50 = .ok (.ireturn, 1) := by decide +kernel
set_option maxRecDepth 20000 in
theorem ggX10_places_X10_side : GoodIn wsX10_places wsX10_side := goodIn_r _ [5, 6, 7, 8, 9, 10, 11, 12, 13, 14, 15, 16, 17, 18, 19, 20, 21, 22, 23, 24, 25, 26, 27, 28, 29, 30, 31, 32, 33, 34, 35] (by decide +kernel) (by decide +kernel)
set_option maxRecDepth 20000 in
theorem gX10_places_X10_side : GoodIn wsX10_places (wsV RX10 109 RX10 yX10_side wsX10_side) := goodIn_app (goodIn_of _ (by decide +kernel)) ggX10_places_X10_side
theorem dX10_places_0 : decode cX10_places 0 = .ok (.iload_n 1, 1) := by decide +kernel
theorem dX10_places_1 : decode cX10_places 1 = .ok (.iload_n 2, 1) := by decide +kernel
theorem dX10_places_2 : decode cX10_places 2 = .ok (.if_icmp .ge 7, 3) := by decide +kernel
theorem dX10_places_5 : decode cX10_places 5 = .ok (.iload_n 1, 1) := by decide +kernel
theorem dX10_places_6 : decode cX10_places 6 = .ok (.goto 4, 3) := by decide +kernel
theorem dX10_places_9 : decode cX10_places 9 = .ok (.iload_n 2, 1) := by decide +kernel
theorem dX10_places_10 : decode cX10_places 10 = .ok (.istore 4, 2) := by decide +kernel
theorem dX10_places_12 : decode cX10_places 12 = .ok (.iload_n 1, 1) := by decide +kernel
theorem dX10_places_13 : decode cX10_places 13 = .ok (.iload_n 2, 1) := by decide +kernel
theorem dX10_places_14 : decode cX10_places 14 = .ok (.if_icmp .ge 7, 3) := by decide +kernel
theorem dX10_places_17 : decode cX10_places 17 = .ok (.iload_n 2, 1) := by decide +kernel
theorem dX10_places_18 : decode cX10_places 18 = .ok (.goto 4, 3) := by decide +kernel
theorem dX10_places_21 : decode cX10_places 21 = .ok (.iload_n 1, 1) := by decide +kernel
theorem dX10_places_22 : decode cX10_places 22 = .ok (.istore 5, 2) := by decide +kernel
theorem dX10_places_24 : decode cX10_places 24 = .ok (.iload 5, 2) := by decide +kernel
theorem dX10_places_26 : decode cX10_places 26 = .ok (.iload_n 3, 1) := by decide +kernel
theorem dX10_places_27 : decode cX10_places 27 = .ok (.isub, 1) := by decide +kernel
theorem dX10_places_28 : decode cX10_places 28 = .ok (.iconst 1, 1) := by decide +kernel
theorem dX10_places_29 : decode cX10_places 29 = .ok (.iadd, 1) := by decide +kernel
theorem dX10_places_30 : decode cX10_places 30 = .ok (.ifCond .ge 7, 3) := by decide +kernel
theorem dX10_places_33 : decode cX10_places 33 = .ok (.iconst 0, 1) := by decide +kernel
theorem dX10_places_34 : decode cX10_places 34 = .ok (.goto 9, 3) := by decide +kernel
theorem dX10_places_37 : decode cX10_places 37 = .ok (.iload 5, 2) := by decide +kernel
theorem dX10_places_39 : decode cX10_places 39 = .ok (.iload_n 3, 1) := by decide +kernel
theorem dX10_places_40 : decode cX10_places 40 = .ok (.isub, 1) := by decide +kernel
theorem dX10_places_41 : decode cX10_places 41 = .ok (.iconst 1, 1) := by decide +kernel
theorem dX10_places_42 : decode cX10_places 42 = .ok (.iadd, 1) := by decide +kernel
theorem dX10_places_43 : decode cX10_places 43 = .ok (.istore 6, 2) := by decide +kernel
theorem dX10_places_45 : decode cX10_places 45 = .ok (.iload 4, 2) := by decide +kernel
theorem dX10_places_47 : decode cX10_places 47 = .ok (.aload_n 0, 1) := by decide +kernel
theorem dX10_places_48 : decode cX10_places 48 = .ok (.invokevirtual 109, 3) := by decide +kernel
theorem dX10_places_51 : decode cX10_places 51 = .ok (.iload_n 3, 1) := by decide +kernel
theorem dX10_places_52 : decode cX10_places 52 = .ok (.isub, 1) := by decide +kernel
theorem dX10_places_53 : decode cX10_places 53 = .ok (.if_icmp .ge 8, 3) := by decide +kernel
theorem dX10_places_56 : decode cX10_places 56 = .ok (.iload 4, 2) := by decide +kernel
theorem dX10_places_58 : decode cX10_places 58 = .ok (.goto 9, 3) := by decide +kernel
theorem dX10_places_61 : decode cX10_places 61 = .ok (.aload_n 0, 1) := by decide +kernel
theorem dX10_places_62 : decode cX10_places 62 = .ok (.invokevirtual 109, 3) := by decide +kernel
theorem dX10_places_65 : decode cX10_places 65 = .ok (.iload_n 3, 1) := by decide +kernel
theorem dX10_places_66 : decode cX10_places 66 = .ok (.isub, 1) := by decide +kernel
theorem dX10_places_67 : decode cX10_places 67 = .ok (.istore 7, 2) := by decide +kernel
theorem dX10_places_69 : decode cX10_places 69 = .ok (.iload 7, 2) := by decide +kernel
theorem dX10_places_71 : decode cX10_places 71 = .ok (.iload 6, 2) := by decide +kernel
theorem dX10_places_73 : decode cX10_places 73 = .ok (.if_icmp .ge 7, 3) := by decide +kernel
theorem dX10_places_76 : decode cX10_places 76 = .ok (.iconst 0, 1) := by decide +kernel
theorem dX10_places_77 : decode cX10_places 77 = .ok (.goto 10, 3) := by decide +kernel
theorem dX10_places_80 : decode cX10_places 80 = .ok (.iload 7, 2) := by decide +kernel
theorem dX10_places_82 : decode cX10_places 82 = .ok (.iload 6, 2) := by decide +kernel
theorem dX10_places_84 : decode cX10_places 84 = .ok (.isub, 1) := by decide +kernel
theorem dX10_places_85 : decode cX10_places 85 = .ok (.iconst 1, 1) := by decide +kernel
theorem dX10_places_86 : decode cX10_places 86 = .ok (.iadd, 1) := by decide +kernel
theorem dX10_places_87 : decode cX10_places 87 = .ok (.ireturn, 1) := by decide +kernel
set_option maxRecDepth 20000 in
theorem ggX10_clusters_X10_side : GoodIn wsX10_clusters wsX10_side := goodIn_r _ [6, 7, 19, 20, 21, 22, 23, 24, 25, 26, 27, 28, 29, 30, 31, 32, 33, 34, 35, 36, 37, 38, 39, 40, 41, 42, 43, 44, 45, 46, 47] (by decide +kernel) (by decide +kernel)
set_option maxRecDepth 20000 in
theorem gX10_clusters_X10_side : GoodIn wsX10_clusters (wsV RX10 109 RX10 yX10_side wsX10_side) := goodIn_app (goodIn_of _ (by decide +kernel)) ggX10_clusters_X10_side
set_option maxRecDepth 20000 in
theorem ggX10_clusters_X10_in : GoodIn wsX10_clusters wsX10_in := goodIn_r _ [10] (by decide +kernel) (by decide +kernel)
set_option maxRecDepth 20000 in
theorem gX10_clusters_X10_in : GoodIn wsX10_clusters (va_wsS RX10 99 yX10_in wsX10_in) := goodIn_app (goodIn_of _ (by decide +kernel)) ggX10_clusters_X10_in
set_option maxRecDepth 20000 in
theorem ggX10_clusters_X10_all : GoodIn wsX10_clusters wsX10_all := goodIn_r _ [14, 7, 19, 20, 21, 22, 23, 24, 25, 26, 27, 28, 29, 30, 31, 32, 33, 34, 35, 36, 37, 38, 39, 40, 41, 42, 43, 44, 45, 46, 47] (by decide +kernel) (by decide +kernel)
set_option maxRecDepth 20000 in
theorem gX10_clusters_X10_all : GoodIn wsX10_clusters (wsV RX10 85 RX10 yX10_all wsX10_all) := goodIn_app (goodIn_of _ (by decide +kernel)) ggX10_clusters_X10_all
set_option maxRecDepth 20000 in
theorem ggX10_clusters_X10_places : GoodIn wsX10_clusters wsX10_places := goodIn_r _ [18, 2, 3, 4, 5, 6, 7, 19, 20, 21, 22, 23, 24, 25, 26, 27, 28, 29, 30, 31, 32, 33, 34, 35, 36, 37, 38, 39, 40, 41, 42, 43, 44, 45, 46, 47] (by decide +kernel) (by decide +kernel)
set_option maxRecDepth 20000 in
theorem gX10_clusters_X10_places : GoodIn wsX10_clusters (wsV RX10 154 RX10 yX10_places wsX10_places) := goodIn_app (goodIn_of _ (by decide +kernel)) ggX10_clusters_X10_places
theorem dX10_clusters_0 : decode cX10_clusters 0 = .ok (.iload_n 1, 1) := by decide +kernel
theorem dX10_clusters_1 : decode cX10_clusters 1 = .ok (.iconst 1, 1) := by decide +kernel
theorem dX10_clusters_2 : decode cX10_clusters 2 = .ok (.aload_n 0, 1) := by decide +kernel
theorem dX10_clusters_3 : decode cX10_clusters 3 = .ok (.invokevirtual 109, 3) := by decide +kernel
theorem dX10_clusters_6 : decode cX10_clusters 6 = .ok (.invokestatic 99, 3) := by decide +kernel
theorem dX10_clusters_9 : decode cX10_clusters 9 = .ok (.ifCond .eq 15, 3) := by decide +kernel
theorem dX10_clusters_12 : decode cX10_clusters 12 = .ok (.iload_n 2, 1) := by decide +kernel
theorem dX10_clusters_13 : decode cX10_clusters 13 = .ok (.iconst 1, 1) := by decide +kernel
theorem dX10_clusters_14 : decode cX10_clusters 14 = .ok (.aload_n 0, 1) := by decide +kernel
theorem dX10_clusters_15 : decode cX10_clusters 15 = .ok (.invokevirtual 109, 3) := by decide +kernel
theorem dX10_clusters_18 : decode cX10_clusters 18 = .ok (.invokestatic 99, 3) := by decide +kernel
theorem dX10_clusters_21 : decode cX10_clusters 21 = .ok (.ifCond .ne 6, 3) := by decide +kernel
theorem dX10_clusters_24 : decode cX10_clusters 24 = .ok (.bipush (-2), 2) := by decide +kernel
theorem dX10_clusters_26 : decode cX10_clusters 26 = .ok (.ireturn, 1) := by decide +kernel
theorem dX10_clusters_27 : decode cX10_clusters 27 = .ok (.iconst 0, 1) := by decide +kernel
theorem dX10_clusters_28 : decode cX10_clusters 28 = .ok (.istore_n 3, 1) := by decide +kernel
theorem dX10_clusters_29 : decode cX10_clusters 29 = .ok (.iconst 0, 1) := by decide +kernel
theorem dX10_clusters_30 : decode cX10_clusters 30 = .ok (.istore 4, 2) := by decide +kernel
theorem dX10_clusters_32 : decode cX10_clusters 32 = .ok (.iload 4, 2) := by decide +kernel
theorem dX10_clusters_34 : decode cX10_clusters 34 = .ok (.aload_n 0, 1) := by decide +kernel
theorem dX10_clusters_35 : decode cX10_clusters 35 = .ok (.invokevirtual 85, 3) := by decide +kernel
theorem dX10_clusters_38 : decode cX10_clusters 38 = .ok (.if_icmp .ge 116, 3) := by decide +kernel
theorem dX10_clusters_41 : decode cX10_clusters 41 = .ok (.aload_n 0, 1) := by decide +kernel
theorem dX10_clusters_42 : decode cX10_clusters 42 = .ok (.getfield 60, 3) := by decide +kernel
theorem dX10_clusters_45 : decode cX10_clusters 45 = .ok (.iload 4, 2) := by decide +kernel
theorem dX10_clusters_47 : decode cX10_clusters 47 = .ok (.iaload, 1) := by decide +kernel
theorem dX10_clusters_48 : decode cX10_clusters 48 = .ok (.istore 5, 2) := by decide +kernel
theorem dX10_clusters_50 : decode cX10_clusters 50 = .ok (.iload 4, 2) := by decide +kernel
theorem dX10_clusters_52 : decode cX10_clusters 52 = .ok (.ifCond .ne 8, 3) := by decide +kernel
theorem dX10_clusters_55 : decode cX10_clusters 55 = .ok (.iload 5, 2) := by decide +kernel
theorem dX10_clusters_57 : decode cX10_clusters 57 = .ok (.goto 12, 3) := by decide +kernel
theorem dX10_clusters_60 : decode cX10_clusters 60 = .ok (.aload_n 0, 1) := by decide +kernel
theorem dX10_clusters_61 : decode cX10_clusters 61 = .ok (.getfield 60, 3) := by decide +kernel
theorem dX10_clusters_64 : decode cX10_clusters 64 = .ok (.iload 4, 2) := by decide +kernel
theorem dX10_clusters_66 : decode cX10_clusters 66 = .ok (.iconst 1, 1) := by decide +kernel
theorem dX10_clusters_67 : decode cX10_clusters 67 = .ok (.isub, 1) := by decide +kernel
theorem dX10_clusters_68 : decode cX10_clusters 68 = .ok (.iaload, 1) := by decide +kernel
theorem dX10_clusters_69 : decode cX10_clusters 69 = .ok (.istore 6, 2) := by decide +kernel
theorem dX10_clusters_71 : decode cX10_clusters 71 = .ok (.iload_n 3, 1) := by decide +kernel
theorem dX10_clusters_72 : decode cX10_clusters 72 = .ok (.aload_n 0, 1) := by decide +kernel
theorem dX10_clusters_73 : decode cX10_clusters 73 = .ok (.iload 5, 2) := by decide +kernel
theorem dX10_clusters_75 : decode cX10_clusters 75 = .ok (.bipush 64, 2) := by decide +kernel
theorem dX10_clusters_77 : decode cX10_clusters 77 = .ok (.irem, 1) := by decide +kernel
theorem dX10_clusters_78 : decode cX10_clusters 78 = .ok (.iload 5, 2) := by decide +kernel
theorem dX10_clusters_80 : decode cX10_clusters 80 = .ok (.bipush 64, 2) := by decide +kernel
theorem dX10_clusters_82 : decode cX10_clusters 82 = .ok (.irem, 1) := by decide +kernel
theorem dX10_clusters_83 : decode cX10_clusters 83 = .ok (.iload_n 1, 1) := by decide +kernel
theorem dX10_clusters_84 : decode cX10_clusters 84 = .ok (.invokevirtual 154, 3) := by decide +kernel
theorem dX10_clusters_87 : decode cX10_clusters 87 = .ok (.aload_n 0, 1) := by decide +kernel
theorem dX10_clusters_88 : decode cX10_clusters 88 = .ok (.iload 5, 2) := by decide +kernel
theorem dX10_clusters_90 : decode cX10_clusters 90 = .ok (.bipush 64, 2) := by decide +kernel
theorem dX10_clusters_92 : decode cX10_clusters 92 = .ok (.idiv, 1) := by decide +kernel
theorem dX10_clusters_93 : decode cX10_clusters 93 = .ok (.iload 5, 2) := by decide +kernel
theorem dX10_clusters_95 : decode cX10_clusters 95 = .ok (.bipush 64, 2) := by decide +kernel
theorem dX10_clusters_97 : decode cX10_clusters 97 = .ok (.idiv, 1) := by decide +kernel
theorem dX10_clusters_98 : decode cX10_clusters 98 = .ok (.iload_n 2, 1) := by decide +kernel
theorem dX10_clusters_99 : decode cX10_clusters 99 = .ok (.invokevirtual 154, 3) := by decide +kernel
theorem dX10_clusters_102 : decode cX10_clusters 102 = .ok (.imul, 1) := by decide +kernel
theorem dX10_clusters_103 : decode cX10_clusters 103 = .ok (.iadd, 1) := by decide +kernel
theorem dX10_clusters_104 : decode cX10_clusters 104 = .ok (.istore_n 3, 1) := by decide +kernel
theorem dX10_clusters_105 : decode cX10_clusters 105 = .ok (.iload_n 3, 1) := by decide +kernel
theorem dX10_clusters_106 : decode cX10_clusters 106 = .ok (.iload 4, 2) := by decide +kernel
theorem dX10_clusters_108 : decode cX10_clusters 108 = .ok (.ifCond .ne 7, 3) := by decide +kernel
theorem dX10_clusters_111 : decode cX10_clusters 111 = .ok (.iconst 0, 1) := by decide +kernel
theorem dX10_clusters_112 : decode cX10_clusters 112 = .ok (.goto 34, 3) := by decide +kernel
theorem dX10_clusters_115 : decode cX10_clusters 115 = .ok (.aload_n 0, 1) := by decide +kernel
theorem dX10_clusters_116 : decode cX10_clusters 116 = .ok (.iload 5, 2) := by decide +kernel
theorem dX10_clusters_118 : decode cX10_clusters 118 = .ok (.bipush 64, 2) := by decide +kernel
theorem dX10_clusters_120 : decode cX10_clusters 120 = .ok (.irem, 1) := by decide +kernel
theorem dX10_clusters_121 : decode cX10_clusters 121 = .ok (.iload 6, 2) := by decide +kernel
theorem dX10_clusters_123 : decode cX10_clusters 123 = .ok (.bipush 64, 2) := by decide +kernel
theorem dX10_clusters_125 : decode cX10_clusters 125 = .ok (.irem, 1) := by decide +kernel
theorem dX10_clusters_126 : decode cX10_clusters 126 = .ok (.iload_n 1, 1) := by decide +kernel
theorem dX10_clusters_127 : decode cX10_clusters 127 = .ok (.invokevirtual 154, 3) := by decide +kernel
theorem dX10_clusters_130 : decode cX10_clusters 130 = .ok (.aload_n 0, 1) := by decide +kernel
theorem dX10_clusters_131 : decode cX10_clusters 131 = .ok (.iload 5, 2) := by decide +kernel
theorem dX10_clusters_133 : decode cX10_clusters 133 = .ok (.bipush 64, 2) := by decide +kernel
theorem dX10_clusters_135 : decode cX10_clusters 135 = .ok (.idiv, 1) := by decide +kernel
theorem dX10_clusters_136 : decode cX10_clusters 136 = .ok (.iload 6, 2) := by decide +kernel
theorem dX10_clusters_138 : decode cX10_clusters 138 = .ok (.bipush 64, 2) := by decide +kernel
theorem dX10_clusters_140 : decode cX10_clusters 140 = .ok (.idiv, 1) := by decide +kernel
theorem dX10_clusters_141 : decode cX10_clusters 141 = .ok (.iload_n 2, 1) := by decide +kernel
theorem dX10_clusters_142 : decode cX10_clusters 142 = .ok (.invokevirtual 154, 3) := by decide +kernel
theorem dX10_clusters_145 : decode cX10_clusters 145 = .ok (.imul, 1) := by decide +kernel
theorem dX10_clusters_146 : decode cX10_clusters 146 = .ok (.isub, 1) := by decide +kernel
theorem dX10_clusters_147 : decode cX10_clusters 147 = .ok (.istore_n 3, 1) := by decide +kernel
theorem dX10_clusters_148 : decode cX10_clusters 148 = .ok (.iinc 4 1, 3) := by decide +kernel
theorem dX10_clusters_151 : decode cX10_clusters 151 = .ok (.goto (-119), 3) := by decide +kernel
theorem dX10_clusters_154 : decode cX10_clusters 154 = .ok (.iload_n 3, 1) := by decide +kernel
theorem dX10_clusters_155 : decode cX10_clusters 155 = .ok (.ireturn, 1) := by decide +kernel
theorem dX10_pointAt_0 : decode cX10_pointAt 0 = .ok (.iconst 0, 1) := by decide +kernel
theorem dX10_pointAt_1 : decode cX10_pointAt 1 = .ok (.istore_n 3, 1) := by decide +kernel
theorem dX10_pointAt_2 : decode cX10_pointAt 2 = .ok (.iload_n 3, 1) := by decide +kernel
theorem dX10_pointAt_3 : decode cX10_pointAt 3 = .ok (.aload_n 0, 1) := by decide +kernel
theorem dX10_pointAt_4 : decode cX10_pointAt 4 = .ok (.getfield 112, 3) := by decide +kernel
theorem dX10_pointAt_7 : decode cX10_pointAt 7 = .ok (.if_icmp .ge 26, 3) := by decide +kernel
theorem dX10_pointAt_10 : decode cX10_pointAt 10 = .ok (.aload_n 0, 1) := by decide +kernel
theorem dX10_pointAt_11 : decode cX10_pointAt 11 = .ok (.getfield 26, 3) := by decide +kernel
theorem dX10_pointAt_14 : decode cX10_pointAt 14 = .ok (.iload_n 3, 1) := by decide +kernel
theorem dX10_pointAt_15 : decode cX10_pointAt 15 = .ok (.iaload, 1) := by decide +kernel
theorem dX10_pointAt_16 : decode cX10_pointAt 16 = .ok (.bipush 64, 2) := by decide +kernel
theorem dX10_pointAt_18 : decode cX10_pointAt 18 = .ok (.iload_n 2, 1) := by decide +kernel
theorem dX10_pointAt_19 : decode cX10_pointAt 19 = .ok (.imul, 1) := by decide +kernel
theorem dX10_pointAt_20 : decode cX10_pointAt 20 = .ok (.iload_n 1, 1) := by decide +kernel
theorem dX10_pointAt_21 : decode cX10_pointAt 21 = .ok (.iadd, 1) := by decide +kernel
theorem dX10_pointAt_22 : decode cX10_pointAt 22 = .ok (.if_icmp .ne 5, 3) := by decide +kernel
theorem dX10_pointAt_25 : decode cX10_pointAt 25 = .ok (.iload_n 3, 1) := by decide +kernel
theorem dX10_pointAt_26 : decode cX10_pointAt 26 = .ok (.ireturn, 1) := by decide +kernel
theorem dX10_pointAt_27 : decode cX10_pointAt 27 = .ok (.iinc 3 1, 3) := by decide +kernel
theorem dX10_pointAt_30 : decode cX10_pointAt 30 = .ok (.goto (-28), 3) := by decide +kernel
theorem dX10_pointAt_33 : decode cX10_pointAt 33 = .ok (.iconst (-1), 1) := by decide +kernel
theorem dX10_pointAt_34 : decode cX10_pointAt 34 = .ok (.ireturn, 1) := by decide +kernel
set_option maxRecDepth 20000 in
theorem ggX10_addPoint_X10_isCell : GoodIn wsX10_addPoint wsX10_isCell := goodIn_r _ [7, 8, 9, 10, 6, 11, 12, 13, 14, 15, 42, 43, 44, 45, 46, 47, 48, 49, 50, 51, 52, 53, 54, 55, 56, 57, 58, 59, 60, 61, 62, 63, 64, 65, 66, 67, 68, 69, 70] (by decide +kernel) (by decide +kernel)
set_option maxRecDepth 20000 in
theorem gX10_addPoint_X10_isCell : GoodIn wsX10_addPoint (wsV RX10 115 RX10 yX10_isCell wsX10_isCell) := goodIn_app (goodIn_of _ (by decide +kernel)) ggX10_addPoint_X10_isCell
set_option maxRecDepth 20000 in
theorem ggX10_addPoint_X10_pointAt : GoodIn wsX10_addPoint wsX10_pointAt := goodIn_r _ [19, 1, 2, 42, 43, 44, 45, 46, 47, 48, 49, 50, 51, 52, 53, 54, 55, 56, 57, 58, 59, 60, 61, 62, 63, 64, 65, 66, 67, 68, 69, 70] (by decide +kernel) (by decide +kernel)
set_option maxRecDepth 20000 in
theorem gX10_addPoint_X10_pointAt : GoodIn wsX10_addPoint (wsV RX10 158 RX10 yX10_pointAt wsX10_pointAt) := goodIn_app (goodIn_of _ (by decide +kernel)) ggX10_addPoint_X10_pointAt
set_option maxRecDepth 20000 in
theorem ggX10_addPoint_X10_divides : GoodIn wsX10_addPoint wsX10_divides := goodIn_r _ [23, 24, 12, 25, 26, 27, 28, 29, 30, 6, 31, 32, 33, 34, 35, 1, 36, 2, 37, 38, 39, 40, 41, 42, 43, 44, 45, 46, 47, 48, 49, 50, 51, 52, 53, 54, 55, 56, 57, 58, 59, 60, 61, 62, 63, 64, 65, 66, 67, 68, 69, 70] (by decide +kernel) (by decide +kernel)
set_option maxRecDepth 20000 in
theorem gX10_addPoint_X10_divides : GoodIn wsX10_addPoint (wsV RX10 96 RX10 yX10_divides wsX10_divides) := goodIn_app (goodIn_of _ (by decide +kernel)) ggX10_addPoint_X10_divides
theorem dX10_addPoint_0 : decode cX10_addPoint 0 = .ok (.aload_n 0, 1) := by decide +kernel
theorem dX10_addPoint_1 : decode cX10_addPoint 1 = .ok (.iload_n 1, 1) := by decide +kernel
theorem dX10_addPoint_2 : decode cX10_addPoint 2 = .ok (.iload_n 2, 1) := by decide +kernel
theorem dX10_addPoint_3 : decode cX10_addPoint 3 = .ok (.invokevirtual 115, 3) := by decide +kernel
theorem dX10_addPoint_6 : decode cX10_addPoint 6 = .ok (.ifCond .ne 5, 3) := by decide +kernel
theorem dX10_addPoint_9 : decode cX10_addPoint 9 = .ok (.iconst (-1), 1) := by decide +kernel
theorem dX10_addPoint_10 : decode cX10_addPoint 10 = .ok (.ireturn, 1) := by decide +kernel
theorem dX10_addPoint_11 : decode cX10_addPoint 11 = .ok (.aload_n 0, 1) := by decide +kernel
theorem dX10_addPoint_12 : decode cX10_addPoint 12 = .ok (.iload_n 1, 1) := by decide +kernel
theorem dX10_addPoint_13 : decode cX10_addPoint 13 = .ok (.iload_n 2, 1) := by decide +kernel
theorem dX10_addPoint_14 : decode cX10_addPoint 14 = .ok (.invokevirtual 158, 3) := by decide +kernel
theorem dX10_addPoint_17 : decode cX10_addPoint 17 = .ok (.ifCond .lt 6, 3) := by decide +kernel
theorem dX10_addPoint_20 : decode cX10_addPoint 20 = .ok (.bipush (-3), 2) := by decide +kernel
theorem dX10_addPoint_22 : decode cX10_addPoint 22 = .ok (.ireturn, 1) := by decide +kernel
theorem dX10_addPoint_23 : decode cX10_addPoint 23 = .ok (.aload_n 0, 1) := by decide +kernel
theorem dX10_addPoint_24 : decode cX10_addPoint 24 = .ok (.getfield 112, 3) := by decide +kernel
theorem dX10_addPoint_27 : decode cX10_addPoint 27 = .ok (.bipush 40, 2) := by decide +kernel
theorem dX10_addPoint_29 : decode cX10_addPoint 29 = .ok (.if_icmp .ne 6, 3) := by decide +kernel
theorem dX10_addPoint_32 : decode cX10_addPoint 32 = .ok (.bipush (-4), 2) := by decide +kernel
theorem dX10_addPoint_34 : decode cX10_addPoint 34 = .ok (.ireturn, 1) := by decide +kernel
theorem dX10_addPoint_35 : decode cX10_addPoint 35 = .ok (.aload_n 0, 1) := by decide +kernel
theorem dX10_addPoint_36 : decode cX10_addPoint 36 = .ok (.getfield 26, 3) := by decide +kernel
theorem dX10_addPoint_39 : decode cX10_addPoint 39 = .ok (.aload_n 0, 1) := by decide +kernel
theorem dX10_addPoint_40 : decode cX10_addPoint 40 = .ok (.getfield 112, 3) := by decide +kernel
theorem dX10_addPoint_43 : decode cX10_addPoint 43 = .ok (.bipush 64, 2) := by decide +kernel
theorem dX10_addPoint_45 : decode cX10_addPoint 45 = .ok (.iload_n 2, 1) := by decide +kernel
theorem dX10_addPoint_46 : decode cX10_addPoint 46 = .ok (.imul, 1) := by decide +kernel
theorem dX10_addPoint_47 : decode cX10_addPoint 47 = .ok (.iload_n 1, 1) := by decide +kernel
theorem dX10_addPoint_48 : decode cX10_addPoint 48 = .ok (.iadd, 1) := by decide +kernel
theorem dX10_addPoint_49 : decode cX10_addPoint 49 = .ok (.iastore, 1) := by decide +kernel
theorem dX10_addPoint_50 : decode cX10_addPoint 50 = .ok (.aload_n 0, 1) := by decide +kernel
theorem dX10_addPoint_51 : decode cX10_addPoint 51 = .ok (.dup, 1) := by decide +kernel
theorem dX10_addPoint_52 : decode cX10_addPoint 52 = .ok (.getfield 112, 3) := by decide +kernel
theorem dX10_addPoint_55 : decode cX10_addPoint 55 = .ok (.iconst 1, 1) := by decide +kernel
theorem dX10_addPoint_56 : decode cX10_addPoint 56 = .ok (.iadd, 1) := by decide +kernel
theorem dX10_addPoint_57 : decode cX10_addPoint 57 = .ok (.putfield 112, 3) := by decide +kernel
theorem dX10_addPoint_60 : decode cX10_addPoint 60 = .ok (.aload_n 0, 1) := by decide +kernel
theorem dX10_addPoint_61 : decode cX10_addPoint 61 = .ok (.invokevirtual 96, 3) := by decide +kernel
theorem dX10_addPoint_64 : decode cX10_addPoint 64 = .ok (.aload_n 0, 1) := by decide +kernel
theorem dX10_addPoint_65 : decode cX10_addPoint 65 = .ok (.getfield 112, 3) := by decide +kernel
theorem dX10_addPoint_68 : decode cX10_addPoint 68 = .ok (.ireturn, 1) := by decide +kernel
set_option maxRecDepth 20000 in
theorem ggX10_removePoint_X10_isCell : GoodIn wsX10_removePoint wsX10_isCell := goodIn_r _ [7, 8, 9, 10, 6, 11, 12, 13, 14, 15, 42, 43, 44, 45, 46, 47, 48, 49, 50, 51, 52, 53, 54, 55, 56, 57, 58, 59, 60, 61, 62, 63, 64, 65, 66, 67, 68, 69, 70] (by decide +kernel) (by decide +kernel)
set_option maxRecDepth 20000 in
theorem gX10_removePoint_X10_isCell : GoodIn wsX10_removePoint (wsV RX10 115 RX10 yX10_isCell wsX10_isCell) := goodIn_app (goodIn_of _ (by decide +kernel)) ggX10_removePoint_X10_isCell
set_option maxRecDepth 20000 in
theorem ggX10_removePoint_X10_pointAt : GoodIn wsX10_removePoint wsX10_pointAt := goodIn_r _ [19, 1, 2, 42, 43, 44, 45, 46, 47, 48, 49, 50, 51, 52, 53, 54, 55, 56, 57, 58, 59, 60, 61, 62, 63, 64, 65, 66, 67, 68, 69, 70] (by decide +kernel) (by decide +kernel)
set_option maxRecDepth 20000 in
theorem gX10_removePoint_X10_pointAt : GoodIn wsX10_removePoint (wsV RX10 158 RX10 yX10_pointAt wsX10_pointAt) := goodIn_app (goodIn_of _ (by decide +kernel)) ggX10_removePoint_X10_pointAt
set_option maxRecDepth 20000 in
theorem ggX10_removePoint_X10_divides : GoodIn wsX10_removePoint wsX10_divides := goodIn_r _ [23, 24, 12, 25, 26, 27, 28, 29, 30, 6, 31, 32, 33, 34, 35, 1, 36, 2, 37, 38, 39, 40, 41, 42, 43, 44, 45, 46, 47, 48, 49, 50, 51, 52, 53, 54, 55, 56, 57, 58, 59, 60, 61, 62, 63, 64, 65, 66, 67, 68, 69, 70] (by decide +kernel) (by decide +kernel)
set_option maxRecDepth 20000 in
theorem gX10_removePoint_X10_divides : GoodIn wsX10_removePoint (wsV RX10 96 RX10 yX10_divides wsX10_divides) := goodIn_app (goodIn_of _ (by decide +kernel)) ggX10_removePoint_X10_divides
theorem dX10_removePoint_0 : decode cX10_removePoint 0 = .ok (.aload_n 0, 1) := by decide +kernel
theorem dX10_removePoint_1 : decode cX10_removePoint 1 = .ok (.iload_n 1, 1) := by decide +kernel
theorem dX10_removePoint_2 : decode cX10_removePoint 2 = .ok (.iload_n 2, 1) := by decide +kernel
theorem dX10_removePoint_3 : decode cX10_removePoint 3 = .ok (.invokevirtual 115, 3) := by decide +kernel
theorem dX10_removePoint_6 : decode cX10_removePoint 6 = .ok (.ifCond .ne 5, 3) := by decide +kernel
theorem dX10_removePoint_9 : decode cX10_removePoint 9 = .ok (.iconst (-1), 1) := by decide +kernel
theorem dX10_removePoint_10 : decode cX10_removePoint 10 = .ok (.ireturn, 1) := by decide +kernel
theorem dX10_removePoint_11 : decode cX10_removePoint 11 = .ok (.aload_n 0, 1) := by decide +kernel
theorem dX10_removePoint_12 : decode cX10_removePoint 12 = .ok (.iload_n 1, 1) := by decide +kernel
theorem dX10_removePoint_13 : decode cX10_removePoint 13 = .ok (.iload_n 2, 1) := by decide +kernel
theorem dX10_removePoint_14 : decode cX10_removePoint 14 = .ok (.invokevirtual 158, 3) := by decide +kernel
theorem dX10_removePoint_17 : decode cX10_removePoint 17 = .ok (.istore_n 3, 1) := by decide +kernel
theorem dX10_removePoint_18 : decode cX10_removePoint 18 = .ok (.iload_n 3, 1) := by decide +kernel
theorem dX10_removePoint_19 : decode cX10_removePoint 19 = .ok (.ifCond .ge 6, 3) := by decide +kernel
theorem dX10_removePoint_22 : decode cX10_removePoint 22 = .ok (.bipush (-3), 2) := by decide +kernel
theorem dX10_removePoint_24 : decode cX10_removePoint 24 = .ok (.ireturn, 1) := by decide +kernel
theorem dX10_removePoint_25 : decode cX10_removePoint 25 = .ok (.aload_n 0, 1) := by decide +kernel
theorem dX10_removePoint_26 : decode cX10_removePoint 26 = .ok (.dup, 1) := by decide +kernel
theorem dX10_removePoint_27 : decode cX10_removePoint 27 = .ok (.getfield 112, 3) := by decide +kernel
theorem dX10_removePoint_30 : decode cX10_removePoint 30 = .ok (.iconst 1, 1) := by decide +kernel
theorem dX10_removePoint_31 : decode cX10_removePoint 31 = .ok (.isub, 1) := by decide +kernel
theorem dX10_removePoint_32 : decode cX10_removePoint 32 = .ok (.putfield 112, 3) := by decide +kernel
theorem dX10_removePoint_35 : decode cX10_removePoint 35 = .ok (.aload_n 0, 1) := by decide +kernel
theorem dX10_removePoint_36 : decode cX10_removePoint 36 = .ok (.getfield 26, 3) := by decide +kernel
theorem dX10_removePoint_39 : decode cX10_removePoint 39 = .ok (.iload_n 3, 1) := by decide +kernel
theorem dX10_removePoint_40 : decode cX10_removePoint 40 = .ok (.aload_n 0, 1) := by decide +kernel
theorem dX10_removePoint_41 : decode cX10_removePoint 41 = .ok (.getfield 26, 3) := by decide +kernel
theorem dX10_removePoint_44 : decode cX10_removePoint 44 = .ok (.aload_n 0, 1) := by decide +kernel
theorem dX10_removePoint_45 : decode cX10_removePoint 45 = .ok (.getfield 112, 3) := by decide +kernel
theorem dX10_removePoint_48 : decode cX10_removePoint 48 = .ok (.iaload, 1) := by decide +kernel
theorem dX10_removePoint_49 : decode cX10_removePoint 49 = .ok (.iastore, 1) := by decide +kernel
theorem dX10_removePoint_50 : decode cX10_removePoint 50 = .ok (.aload_n 0, 1) := by decide +kernel
theorem dX10_removePoint_51 : decode cX10_removePoint 51 = .ok (.invokevirtual 96, 3) := by decide +kernel
theorem dX10_removePoint_54 : decode cX10_removePoint 54 = .ok (.aload_n 0, 1) := by decide +kernel
theorem dX10_removePoint_55 : decode cX10_removePoint 55 = .ok (.getfield 112, 3) := by decide +kernel
theorem dX10_removePoint_58 : decode cX10_removePoint 58 = .ok (.ireturn, 1) := by decide +kernel
theorem dX10_points_0 : decode cX10_points 0 = .ok (.aload_n 0, 1) := by decide +kernel
theorem dX10_points_1 : decode cX10_points 1 = .ok (.getfield 112, 3) := by decide +kernel
theorem dX10_points_4 : decode cX10_points 4 = .ok (.ireturn, 1) := by decide +kernel
set_option maxRecDepth 20000 in
theorem ggX10_nearest_X10_isCell : GoodIn wsX10_nearest wsX10_isCell := goodIn_r _ [8, 9, 10, 11, 7, 12, 13, 14, 15, 16, 20, 21, 22, 23, 24, 25, 26, 27, 28, 29, 30, 31, 32, 33, 34, 35, 36, 37, 38, 39, 40, 41, 42, 43, 44, 45, 46, 47, 48] (by decide +kernel) (by decide +kernel)
set_option maxRecDepth 20000 in
theorem gX10_nearest_X10_isCell : GoodIn wsX10_nearest (wsV RX10 115 RX10 yX10_isCell wsX10_isCell) := goodIn_app (goodIn_of _ (by decide +kernel)) ggX10_nearest_X10_isCell
set_option maxRecDepth 20000 in
theorem ggX10_nearest_X10_size : GoodIn wsX10_nearest wsX10_size := goodIn_r _ [19] (by decide +kernel) (by decide +kernel)
set_option maxRecDepth 20000 in
theorem gX10_nearest_X10_size : GoodIn wsX10_nearest (va_wsS RX10 119 yX10_size wsX10_size) := goodIn_app (goodIn_of _ (by decide +kernel)) ggX10_nearest_X10_size
theorem dX10_nearest_0 : decode cX10_nearest 0 = .ok (.aload_n 0, 1) := by decide +kernel
theorem dX10_nearest_1 : decode cX10_nearest 1 = .ok (.iload_n 1, 1) := by decide +kernel
theorem dX10_nearest_2 : decode cX10_nearest 2 = .ok (.iload_n 2, 1) := by decide +kernel
theorem dX10_nearest_3 : decode cX10_nearest 3 = .ok (.invokevirtual 115, 3) := by decide +kernel
theorem dX10_nearest_6 : decode cX10_nearest 6 = .ok (.ifCond .ne 5, 3) := by decide +kernel
theorem dX10_nearest_9 : decode cX10_nearest 9 = .ok (.iconst (-1), 1) := by decide +kernel
theorem dX10_nearest_10 : decode cX10_nearest 10 = .ok (.ireturn, 1) := by decide +kernel
theorem dX10_nearest_11 : decode cX10_nearest 11 = .ok (.aload_n 0, 1) := by decide +kernel
theorem dX10_nearest_12 : decode cX10_nearest 12 = .ok (.getfield 57, 3) := by decide +kernel
theorem dX10_nearest_15 : decode cX10_nearest 15 = .ok (.bipush 64, 2) := by decide +kernel
theorem dX10_nearest_17 : decode cX10_nearest 17 = .ok (.iload_n 2, 1) := by decide +kernel
theorem dX10_nearest_18 : decode cX10_nearest 18 = .ok (.imul, 1) := by decide +kernel
theorem dX10_nearest_19 : decode cX10_nearest 19 = .ok (.iload_n 1, 1) := by decide +kernel
theorem dX10_nearest_20 : decode cX10_nearest 20 = .ok (.iadd, 1) := by decide +kernel
theorem dX10_nearest_21 : decode cX10_nearest 21 = .ok (.iaload, 1) := by decide +kernel
theorem dX10_nearest_22 : decode cX10_nearest 22 = .ok (.istore_n 3, 1) := by decide +kernel
theorem dX10_nearest_23 : decode cX10_nearest 23 = .ok (.bipush (-5), 2) := by decide +kernel
theorem dX10_nearest_25 : decode cX10_nearest 25 = .ok (.istore 4, 2) := by decide +kernel
theorem dX10_nearest_27 : decode cX10_nearest 27 = .ok (.iconst 0, 1) := by decide +kernel
theorem dX10_nearest_28 : decode cX10_nearest 28 = .ok (.istore 5, 2) := by decide +kernel
theorem dX10_nearest_30 : decode cX10_nearest 30 = .ok (.iload 5, 2) := by decide +kernel
theorem dX10_nearest_32 : decode cX10_nearest 32 = .ok (.aload_n 0, 1) := by decide +kernel
theorem dX10_nearest_33 : decode cX10_nearest 33 = .ok (.getfield 112, 3) := by decide +kernel
theorem dX10_nearest_36 : decode cX10_nearest 36 = .ok (.if_icmp .ge 75, 3) := by decide +kernel
theorem dX10_nearest_39 : decode cX10_nearest 39 = .ok (.aload_n 0, 1) := by decide +kernel
theorem dX10_nearest_40 : decode cX10_nearest 40 = .ok (.getfield 57, 3) := by decide +kernel
theorem dX10_nearest_43 : decode cX10_nearest 43 = .ok (.aload_n 0, 1) := by decide +kernel
theorem dX10_nearest_44 : decode cX10_nearest 44 = .ok (.getfield 26, 3) := by decide +kernel
theorem dX10_nearest_47 : decode cX10_nearest 47 = .ok (.iload 5, 2) := by decide +kernel
theorem dX10_nearest_49 : decode cX10_nearest 49 = .ok (.iaload, 1) := by decide +kernel
theorem dX10_nearest_50 : decode cX10_nearest 50 = .ok (.iaload, 1) := by decide +kernel
theorem dX10_nearest_51 : decode cX10_nearest 51 = .ok (.istore 6, 2) := by decide +kernel
theorem dX10_nearest_53 : decode cX10_nearest 53 = .ok (.iload 4, 2) := by decide +kernel
theorem dX10_nearest_55 : decode cX10_nearest 55 = .ok (.ifCond .ge 7, 3) := by decide +kernel
theorem dX10_nearest_58 : decode cX10_nearest 58 = .ok (.iconst 1, 1) := by decide +kernel
theorem dX10_nearest_59 : decode cX10_nearest 59 = .ok (.goto 18, 3) := by decide +kernel
theorem dX10_nearest_62 : decode cX10_nearest 62 = .ok (.iload 4, 2) := by decide +kernel
theorem dX10_nearest_64 : decode cX10_nearest 64 = .ok (.iload_n 3, 1) := by decide +kernel
theorem dX10_nearest_65 : decode cX10_nearest 65 = .ok (.isub, 1) := by decide +kernel
theorem dX10_nearest_66 : decode cX10_nearest 66 = .ok (.invokestatic 119, 3) := by decide +kernel
theorem dX10_nearest_69 : decode cX10_nearest 69 = .ok (.iload 6, 2) := by decide +kernel
theorem dX10_nearest_71 : decode cX10_nearest 71 = .ok (.iload_n 3, 1) := by decide +kernel
theorem dX10_nearest_72 : decode cX10_nearest 72 = .ok (.isub, 1) := by decide +kernel
theorem dX10_nearest_73 : decode cX10_nearest 73 = .ok (.invokestatic 119, 3) := by decide +kernel
theorem dX10_nearest_76 : decode cX10_nearest 76 = .ok (.isub, 1) := by decide +kernel
theorem dX10_nearest_77 : decode cX10_nearest 77 = .ok (.istore 7, 2) := by decide +kernel
theorem dX10_nearest_79 : decode cX10_nearest 79 = .ok (.iload 7, 2) := by decide +kernel
theorem dX10_nearest_81 : decode cX10_nearest 81 = .ok (.ifCond .gt 15, 3) := by decide +kernel
theorem dX10_nearest_84 : decode cX10_nearest 84 = .ok (.iload 7, 2) := by decide +kernel
theorem dX10_nearest_86 : decode cX10_nearest 86 = .ok (.ifCond .ne 15, 3) := by decide +kernel
theorem dX10_nearest_89 : decode cX10_nearest 89 = .ok (.iload 6, 2) := by decide +kernel
theorem dX10_nearest_91 : decode cX10_nearest 91 = .ok (.iload 4, 2) := by decide +kernel
theorem dX10_nearest_93 : decode cX10_nearest 93 = .ok (.if_icmp .ge 8, 3) := by decide +kernel
theorem dX10_nearest_96 : decode cX10_nearest 96 = .ok (.iload 6, 2) := by decide +kernel
theorem dX10_nearest_98 : decode cX10_nearest 98 = .ok (.goto 5, 3) := by decide +kernel
theorem dX10_nearest_101 : decode cX10_nearest 101 = .ok (.iload 4, 2) := by decide +kernel
theorem dX10_nearest_103 : decode cX10_nearest 103 = .ok (.istore 4, 2) := by decide +kernel
theorem dX10_nearest_105 : decode cX10_nearest 105 = .ok (.iinc 5 1, 3) := by decide +kernel
theorem dX10_nearest_108 : decode cX10_nearest 108 = .ok (.goto (-78), 3) := by decide +kernel
theorem dX10_nearest_111 : decode cX10_nearest 111 = .ok (.iload 4, 2) := by decide +kernel
theorem dX10_nearest_113 : decode cX10_nearest 113 = .ok (.ireturn, 1) := by decide +kernel
set_option maxRecDepth 20000 in
theorem ggX10_setBucket_X10_in : GoodIn wsX10_setBucket wsX10_in := goodIn_r _ [5] (by decide +kernel) (by decide +kernel)
set_option maxRecDepth 20000 in
theorem gX10_setBucket_X10_in : GoodIn wsX10_setBucket (va_wsS RX10 99 yX10_in wsX10_in) := goodIn_app (goodIn_of _ (by decide +kernel)) ggX10_setBucket_X10_in
set_option maxRecDepth 20000 in
theorem ggX10_setBucket_X10_divides : GoodIn wsX10_setBucket wsX10_divides := goodIn_r _ [9, 10, 11, 1, 12, 13, 14, 15, 16, 4, 17, 18, 19, 20, 21, 22, 23, 24, 25, 26, 27, 28, 29, 30, 31, 32, 33, 34, 35, 36, 37, 38, 39, 40, 41, 42, 43, 44, 45, 46, 47, 48, 49, 50, 51, 52, 53, 54, 55, 56, 57, 58] (by decide +kernel) (by decide +kernel)
set_option maxRecDepth 20000 in
theorem gX10_setBucket_X10_divides : GoodIn wsX10_setBucket (wsV RX10 96 RX10 yX10_divides wsX10_divides) := goodIn_app (goodIn_of _ (by decide +kernel)) ggX10_setBucket_X10_divides
theorem dX10_setBucket_0 : decode cX10_setBucket 0 = .ok (.iload_n 1, 1) := by decide +kernel
theorem dX10_setBucket_1 : decode cX10_setBucket 1 = .ok (.iconst 1, 1) := by decide +kernel
theorem dX10_setBucket_2 : decode cX10_setBucket 2 = .ok (.bipush 8, 2) := by decide +kernel
theorem dX10_setBucket_4 : decode cX10_setBucket 4 = .ok (.invokestatic 99, 3) := by decide +kernel
theorem dX10_setBucket_7 : decode cX10_setBucket 7 = .ok (.ifCond .ne 6, 3) := by decide +kernel
theorem dX10_setBucket_10 : decode cX10_setBucket 10 = .ok (.bipush (-2), 2) := by decide +kernel
theorem dX10_setBucket_12 : decode cX10_setBucket 12 = .ok (.ireturn, 1) := by decide +kernel
theorem dX10_setBucket_13 : decode cX10_setBucket 13 = .ok (.aload_n 0, 1) := by decide +kernel
theorem dX10_setBucket_14 : decode cX10_setBucket 14 = .ok (.getfield 29, 3) := by decide +kernel
theorem dX10_setBucket_17 : decode cX10_setBucket 17 = .ok (.istore_n 2, 1) := by decide +kernel
theorem dX10_setBucket_18 : decode cX10_setBucket 18 = .ok (.aload_n 0, 1) := by decide +kernel
theorem dX10_setBucket_19 : decode cX10_setBucket 19 = .ok (.iload_n 1, 1) := by decide +kernel
theorem dX10_setBucket_20 : decode cX10_setBucket 20 = .ok (.putfield 29, 3) := by decide +kernel
theorem dX10_setBucket_23 : decode cX10_setBucket 23 = .ok (.aload_n 0, 1) := by decide +kernel
theorem dX10_setBucket_24 : decode cX10_setBucket 24 = .ok (.invokevirtual 96, 3) := by decide +kernel
theorem dX10_setBucket_27 : decode cX10_setBucket 27 = .ok (.iload_n 2, 1) := by decide +kernel
theorem dX10_setBucket_28 : decode cX10_setBucket 28 = .ok (.ireturn, 1) := by decide +kernel
theorem dX10_pointsIn_0 : decode cX10_pointsIn 0 = .ok (.iconst 0, 1) := by decide +kernel
theorem dX10_pointsIn_1 : decode cX10_pointsIn 1 = .ok (.istore_n 3, 1) := by decide +kernel
theorem dX10_pointsIn_2 : decode cX10_pointsIn 2 = .ok (.iconst 0, 1) := by decide +kernel
theorem dX10_pointsIn_3 : decode cX10_pointsIn 3 = .ok (.istore 4, 2) := by decide +kernel
theorem dX10_pointsIn_5 : decode cX10_pointsIn 5 = .ok (.iload 4, 2) := by decide +kernel
theorem dX10_pointsIn_7 : decode cX10_pointsIn 7 = .ok (.aload_n 0, 1) := by decide +kernel
theorem dX10_pointsIn_8 : decode cX10_pointsIn 8 = .ok (.getfield 112, 3) := by decide +kernel
theorem dX10_pointsIn_11 : decode cX10_pointsIn 11 = .ok (.if_icmp .ge 41, 3) := by decide +kernel
theorem dX10_pointsIn_14 : decode cX10_pointsIn 14 = .ok (.iload_n 3, 1) := by decide +kernel
theorem dX10_pointsIn_15 : decode cX10_pointsIn 15 = .ok (.aload_n 0, 1) := by decide +kernel
theorem dX10_pointsIn_16 : decode cX10_pointsIn 16 = .ok (.getfield 57, 3) := by decide +kernel
theorem dX10_pointsIn_19 : decode cX10_pointsIn 19 = .ok (.aload_n 0, 1) := by decide +kernel
theorem dX10_pointsIn_20 : decode cX10_pointsIn 20 = .ok (.getfield 26, 3) := by decide +kernel
theorem dX10_pointsIn_23 : decode cX10_pointsIn 23 = .ok (.iload 4, 2) := by decide +kernel
theorem dX10_pointsIn_25 : decode cX10_pointsIn 25 = .ok (.iaload, 1) := by decide +kernel
theorem dX10_pointsIn_26 : decode cX10_pointsIn 26 = .ok (.iaload, 1) := by decide +kernel
theorem dX10_pointsIn_27 : decode cX10_pointsIn 27 = .ok (.iconst 2, 1) := by decide +kernel
theorem dX10_pointsIn_28 : decode cX10_pointsIn 28 = .ok (.iload_n 2, 1) := by decide +kernel
theorem dX10_pointsIn_29 : decode cX10_pointsIn 29 = .ok (.imul, 1) := by decide +kernel
theorem dX10_pointsIn_30 : decode cX10_pointsIn 30 = .ok (.ishr, 1) := by decide +kernel
theorem dX10_pointsIn_31 : decode cX10_pointsIn 31 = .ok (.iload_n 1, 1) := by decide +kernel
theorem dX10_pointsIn_32 : decode cX10_pointsIn 32 = .ok (.iconst 2, 1) := by decide +kernel
theorem dX10_pointsIn_33 : decode cX10_pointsIn 33 = .ok (.iload_n 2, 1) := by decide +kernel
theorem dX10_pointsIn_34 : decode cX10_pointsIn 34 = .ok (.imul, 1) := by decide +kernel
theorem dX10_pointsIn_35 : decode cX10_pointsIn 35 = .ok (.ishr, 1) := by decide +kernel
theorem dX10_pointsIn_36 : decode cX10_pointsIn 36 = .ok (.if_icmp .ne 7, 3) := by decide +kernel
theorem dX10_pointsIn_39 : decode cX10_pointsIn 39 = .ok (.iconst 1, 1) := by decide +kernel
theorem dX10_pointsIn_40 : decode cX10_pointsIn 40 = .ok (.goto 4, 3) := by decide +kernel
theorem dX10_pointsIn_43 : decode cX10_pointsIn 43 = .ok (.iconst 0, 1) := by decide +kernel
theorem dX10_pointsIn_44 : decode cX10_pointsIn 44 = .ok (.iadd, 1) := by decide +kernel
theorem dX10_pointsIn_45 : decode cX10_pointsIn 45 = .ok (.istore_n 3, 1) := by decide +kernel
theorem dX10_pointsIn_46 : decode cX10_pointsIn 46 = .ok (.iinc 4 1, 3) := by decide +kernel
theorem dX10_pointsIn_49 : decode cX10_pointsIn 49 = .ok (.goto (-44), 3) := by decide +kernel
theorem dX10_pointsIn_52 : decode cX10_pointsIn 52 = .ok (.iload_n 3, 1) := by decide +kernel
theorem dX10_pointsIn_53 : decode cX10_pointsIn 53 = .ok (.ireturn, 1) := by decide +kernel
set_option maxRecDepth 20000 in
theorem ggX10_divides_X10_all : GoodIn wsX10_divides wsX10_all := goodIn_r _ [10, 2, 23, 24, 25, 26, 27, 28, 29, 30, 31, 32, 33, 34, 35, 36, 37, 38, 39, 40, 41, 42, 43, 44, 45, 46, 47, 48, 49, 50, 51] (by decide +kernel) (by decide +kernel)
set_option maxRecDepth 20000 in
theorem gX10_divides_X10_all : GoodIn wsX10_divides (wsV RX10 85 RX10 yX10_all wsX10_all) := goodIn_app (goodIn_of _ (by decide +kernel)) ggX10_divides_X10_all
set_option maxRecDepth 20000 in
theorem ggX10_divides_X10_pointsIn : GoodIn wsX10_divides wsX10_pointsIn := goodIn_r _ [14, 15, 16, 17, 23, 24, 25, 26, 27, 28, 29, 30, 31, 32, 33, 34, 35, 36, 37, 38, 39, 40, 41, 42, 43, 44, 45, 46, 47, 48, 49, 50, 51] (by decide +kernel) (by decide +kernel)
set_option maxRecDepth 20000 in
theorem gX10_divides_X10_pointsIn : GoodIn wsX10_divides (wsV RX10 164 RX10 yX10_pointsIn wsX10_pointsIn) := goodIn_app (goodIn_of _ (by decide +kernel)) ggX10_divides_X10_pointsIn
set_option maxRecDepth 20000 in
theorem ggX10_divides_X10_maps : GoodIn wsX10_divides wsX10_maps := goodIn_r _ [21, 1, 4, 5, 22, 23, 24, 25, 26, 27, 28, 29, 30, 31, 32, 33, 34, 35, 36, 37, 38, 39, 40, 41, 42, 43, 44, 45, 46, 47, 48, 49, 50, 51] (by decide +kernel) (by decide +kernel)
set_option maxRecDepth 20000 in
theorem gX10_divides_X10_maps : GoodIn wsX10_divides (wsV RX10 167 RX10 yX10_maps wsX10_maps) := goodIn_app (goodIn_of _ (by decide +kernel)) ggX10_divides_X10_maps
theorem dX10_divides_0 : decode cX10_divides 0 = .ok (.aload_n 0, 1) := by decide +kernel
theorem dX10_divides_1 : decode cX10_divides 1 = .ok (.iconst 0, 1) := by decide +kernel
theorem dX10_divides_2 : decode cX10_divides 2 = .ok (.putfield 161, 3) := by decide +kernel
theorem dX10_divides_5 : decode cX10_divides 5 = .ok (.iconst 0, 1) := by decide +kernel
theorem dX10_divides_6 : decode cX10_divides 6 = .ok (.istore_n 1, 1) := by decide +kernel
theorem dX10_divides_7 : decode cX10_divides 7 = .ok (.iload_n 1, 1) := by decide +kernel
theorem dX10_divides_8 : decode cX10_divides 8 = .ok (.aload_n 0, 1) := by decide +kernel
theorem dX10_divides_9 : decode cX10_divides 9 = .ok (.invokevirtual 85, 3) := by decide +kernel
theorem dX10_divides_12 : decode cX10_divides 12 = .ok (.if_icmp .ge 90, 3) := by decide +kernel
theorem dX10_divides_15 : decode cX10_divides 15 = .ok (.aload_n 0, 1) := by decide +kernel
theorem dX10_divides_16 : decode cX10_divides 16 = .ok (.getfield 7, 3) := by decide +kernel
theorem dX10_divides_19 : decode cX10_divides 19 = .ok (.istore_n 2, 1) := by decide +kernel
theorem dX10_divides_20 : decode cX10_divides 20 = .ok (.iload_n 1, 1) := by decide +kernel
theorem dX10_divides_21 : decode cX10_divides 21 = .ok (.iconst 1, 1) := by decide +kernel
theorem dX10_divides_22 : decode cX10_divides 22 = .ok (.iconst 2, 1) := by decide +kernel
theorem dX10_divides_23 : decode cX10_divides 23 = .ok (.iload_n 2, 1) := by decide +kernel
theorem dX10_divides_24 : decode cX10_divides 24 = .ok (.imul, 1) := by decide +kernel
theorem dX10_divides_25 : decode cX10_divides 25 = .ok (.ishl, 1) := by decide +kernel
theorem dX10_divides_26 : decode cX10_divides 26 = .ok (.iconst 1, 1) := by decide +kernel
theorem dX10_divides_27 : decode cX10_divides 27 = .ok (.isub, 1) := by decide +kernel
theorem dX10_divides_28 : decode cX10_divides 28 = .ok (.iand, 1) := by decide +kernel
theorem dX10_divides_29 : decode cX10_divides 29 = .ok (.ifCond .eq 9, 3) := by decide +kernel
theorem dX10_divides_32 : decode cX10_divides 32 = .ok (.iinc 2 (-1), 3) := by decide +kernel
theorem dX10_divides_35 : decode cX10_divides 35 = .ok (.goto (-15), 3) := by decide +kernel
theorem dX10_divides_38 : decode cX10_divides 38 = .ok (.iload_n 2, 1) := by decide +kernel
theorem dX10_divides_39 : decode cX10_divides 39 = .ok (.ifCond .le 22, 3) := by decide +kernel
theorem dX10_divides_42 : decode cX10_divides 42 = .ok (.aload_n 0, 1) := by decide +kernel
theorem dX10_divides_43 : decode cX10_divides 43 = .ok (.iload_n 1, 1) := by decide +kernel
theorem dX10_divides_44 : decode cX10_divides 44 = .ok (.iload_n 2, 1) := by decide +kernel
theorem dX10_divides_45 : decode cX10_divides 45 = .ok (.invokevirtual 164, 3) := by decide +kernel
theorem dX10_divides_48 : decode cX10_divides 48 = .ok (.aload_n 0, 1) := by decide +kernel
theorem dX10_divides_49 : decode cX10_divides 49 = .ok (.getfield 29, 3) := by decide +kernel
theorem dX10_divides_52 : decode cX10_divides 52 = .ok (.if_icmp .le 9, 3) := by decide +kernel
theorem dX10_divides_55 : decode cX10_divides 55 = .ok (.iinc 2 (-1), 3) := by decide +kernel
theorem dX10_divides_58 : decode cX10_divides 58 = .ok (.goto (-20), 3) := by decide +kernel
theorem dX10_divides_61 : decode cX10_divides 61 = .ok (.aload_n 0, 1) := by decide +kernel
theorem dX10_divides_62 : decode cX10_divides 62 = .ok (.getfield 32, 3) := by decide +kernel
theorem dX10_divides_65 : decode cX10_divides 65 = .ok (.aload_n 0, 1) := by decide +kernel
theorem dX10_divides_66 : decode cX10_divides 66 = .ok (.getfield 161, 3) := by decide +kernel
theorem dX10_divides_69 : decode cX10_divides 69 = .ok (.iload_n 1, 1) := by decide +kernel
theorem dX10_divides_70 : decode cX10_divides 70 = .ok (.iastore, 1) := by decide +kernel
theorem dX10_divides_71 : decode cX10_divides 71 = .ok (.aload_n 0, 1) := by decide +kernel
theorem dX10_divides_72 : decode cX10_divides 72 = .ok (.getfield 35, 3) := by decide +kernel
theorem dX10_divides_75 : decode cX10_divides 75 = .ok (.aload_n 0, 1) := by decide +kernel
theorem dX10_divides_76 : decode cX10_divides 76 = .ok (.getfield 161, 3) := by decide +kernel
theorem dX10_divides_79 : decode cX10_divides 79 = .ok (.iload_n 2, 1) := by decide +kernel
theorem dX10_divides_80 : decode cX10_divides 80 = .ok (.iastore, 1) := by decide +kernel
theorem dX10_divides_81 : decode cX10_divides 81 = .ok (.aload_n 0, 1) := by decide +kernel
theorem dX10_divides_82 : decode cX10_divides 82 = .ok (.dup, 1) := by decide +kernel
theorem dX10_divides_83 : decode cX10_divides 83 = .ok (.getfield 161, 3) := by decide +kernel
theorem dX10_divides_86 : decode cX10_divides 86 = .ok (.iconst 1, 1) := by decide +kernel
theorem dX10_divides_87 : decode cX10_divides 87 = .ok (.iadd, 1) := by decide +kernel
theorem dX10_divides_88 : decode cX10_divides 88 = .ok (.putfield 161, 3) := by decide +kernel
theorem dX10_divides_91 : decode cX10_divides 91 = .ok (.iload_n 1, 1) := by decide +kernel
theorem dX10_divides_92 : decode cX10_divides 92 = .ok (.iconst 1, 1) := by decide +kernel
theorem dX10_divides_93 : decode cX10_divides 93 = .ok (.iconst 2, 1) := by decide +kernel
theorem dX10_divides_94 : decode cX10_divides 94 = .ok (.iload_n 2, 1) := by decide +kernel
theorem dX10_divides_95 : decode cX10_divides 95 = .ok (.imul, 1) := by decide +kernel
theorem dX10_divides_96 : decode cX10_divides 96 = .ok (.ishl, 1) := by decide +kernel
theorem dX10_divides_97 : decode cX10_divides 97 = .ok (.iadd, 1) := by decide +kernel
theorem dX10_divides_98 : decode cX10_divides 98 = .ok (.istore_n 1, 1) := by decide +kernel
theorem dX10_divides_99 : decode cX10_divides 99 = .ok (.goto (-92), 3) := by decide +kernel
theorem dX10_divides_102 : decode cX10_divides 102 = .ok (.aload_n 0, 1) := by decide +kernel
theorem dX10_divides_103 : decode cX10_divides 103 = .ok (.invokevirtual 167, 3) := by decide +kernel
theorem dX10_divides_106 : decode cX10_divides 106 = .ok (.return_, 1) := by decide +kernel
theorem dX10_maps_0 : decode cX10_maps 0 = .ok (.iconst 0, 1) := by decide +kernel
theorem dX10_maps_1 : decode cX10_maps 1 = .ok (.istore_n 1, 1) := by decide +kernel
theorem dX10_maps_2 : decode cX10_maps 2 = .ok (.iload_n 1, 1) := by decide +kernel
theorem dX10_maps_3 : decode cX10_maps 3 = .ok (.aload_n 0, 1) := by decide +kernel
theorem dX10_maps_4 : decode cX10_maps 4 = .ok (.getfield 161, 3) := by decide +kernel
theorem dX10_maps_7 : decode cX10_maps 7 = .ok (.if_icmp .ge 50, 3) := by decide +kernel
theorem dX10_maps_10 : decode cX10_maps 10 = .ok (.aload_n 0, 1) := by decide +kernel
theorem dX10_maps_11 : decode cX10_maps 11 = .ok (.getfield 32, 3) := by decide +kernel
theorem dX10_maps_14 : decode cX10_maps 14 = .ok (.iload_n 1, 1) := by decide +kernel
theorem dX10_maps_15 : decode cX10_maps 15 = .ok (.iaload, 1) := by decide +kernel
theorem dX10_maps_16 : decode cX10_maps 16 = .ok (.istore_n 2, 1) := by decide +kernel
