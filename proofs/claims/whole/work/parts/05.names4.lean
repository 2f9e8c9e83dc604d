set_option maxRecDepth 20000 in
theorem gX8_findUnknownState_X8_countStates : GoodIn wsX8_findUnknownState (wsV RX8 34 RX8 yX8_countStates wsX8_countStates) := goodIn_app (goodIn_of _ (by decide +kernel)) ggX8_findUnknownState_X8_countStates
set_option maxRecDepth 20000 in
theorem ggX8_findUnknownState_X8_digitAt : GoodIn wsX8_findUnknownState wsX8_digitAt := goodIn_r _ [10, 11, 12, 13] (by decide +kernel) (by decide +kernel)
set_option maxRecDepth 20000 in
theorem gX8_findUnknownState_X8_digitAt : GoodIn wsX8_findUnknownState (wsV RX8 37 RX8 yX8_digitAt wsX8_digitAt) := goodIn_app (goodIn_of _ (by decide +kernel)) ggX8_findUnknownState_X8_digitAt
theorem dX8_findUnknownState_0 : decode cX8_findUnknownState 0 = .ok (.iconst 0, 1) := by decide +kernel
theorem dX8_findUnknownState_1 : decode cX8_findUnknownState 1 = .ok (.istore_n 1, 1) := by decide +kernel
theorem dX8_findUnknownState_2 : decode cX8_findUnknownState 2 = .ok (.iload_n 1, 1) := by decide +kernel
theorem dX8_findUnknownState_3 : decode cX8_findUnknownState 3 = .ok (.aload_n 0, 1) := by decide +kernel
theorem dX8_findUnknownState_4 : decode cX8_findUnknownState 4 = .ok (.invokevirtual 34, 3) := by decide +kernel
theorem dX8_findUnknownState_7 : decode cX8_findUnknownState 7 = .ok (.if_icmp .ge 43, 3) := by decide +kernel
theorem dX8_findUnknownState_10 : decode cX8_findUnknownState 10 = .ok (.iconst 4, 1) := by decide +kernel
theorem dX8_findUnknownState_11 : decode cX8_findUnknownState 11 = .ok (.istore_n 2, 1) := by decide +kernel
theorem dX8_findUnknownState_12 : decode cX8_findUnknownState 12 = .ok (.iload_n 2, 1) := by decide +kernel
theorem dX8_findUnknownState_13 : decode cX8_findUnknownState 13 = .ok (.bipush 8, 2) := by decide +kernel
theorem dX8_findUnknownState_15 : decode cX8_findUnknownState 15 = .ok (.if_icmp .ge 29, 3) := by decide +kernel
theorem dX8_findUnknownState_18 : decode cX8_findUnknownState 18 = .ok (.aload_n 0, 1) := by decide +kernel
theorem dX8_findUnknownState_19 : decode cX8_findUnknownState 19 = .ok (.iload_n 1, 1) := by decide +kernel
theorem dX8_findUnknownState_20 : decode cX8_findUnknownState 20 = .ok (.iload_n 2, 1) := by decide +kernel
theorem dX8_findUnknownState_21 : decode cX8_findUnknownState 21 = .ok (.invokevirtual 37, 3) := by decide +kernel
theorem dX8_findUnknownState_24 : decode cX8_findUnknownState 24 = .ok (.aload_n 0, 1) := by decide +kernel
theorem dX8_findUnknownState_25 : decode cX8_findUnknownState 25 = .ok (.invokevirtual 34, 3) := by decide +kernel
theorem dX8_findUnknownState_28 : decode cX8_findUnknownState 28 = .ok (.if_icmp .lt 10, 3) := by decide +kernel
theorem dX8_findUnknownState_31 : decode cX8_findUnknownState 31 = .ok (.bipush 9, 2) := by decide +kernel
theorem dX8_findUnknownState_33 : decode cX8_findUnknownState 33 = .ok (.iload_n 1, 1) := by decide +kernel
theorem dX8_findUnknownState_34 : decode cX8_findUnknownState 34 = .ok (.imul, 1) := by decide +kernel
theorem dX8_findUnknownState_35 : decode cX8_findUnknownState 35 = .ok (.iload_n 2, 1) := by decide +kernel
theorem dX8_findUnknownState_36 : decode cX8_findUnknownState 36 = .ok (.iadd, 1) := by decide +kernel
theorem dX8_findUnknownState_37 : decode cX8_findUnknownState 37 = .ok (.ireturn, 1) := by decide +kernel
theorem dX8_findUnknownState_38 : decode cX8_findUnknownState 38 = .ok (.iinc 2 1, 3) := by decide +kernel
theorem dX8_findUnknownState_41 : decode cX8_findUnknownState 41 = .ok (.goto (-29), 3) := by decide +kernel
theorem dX8_findUnknownState_44 : decode cX8_findUnknownState 44 = .ok (.iinc 1 1, 3) := by decide +kernel
theorem dX8_findUnknownState_47 : decode cX8_findUnknownState 47 = .ok (.goto (-45), 3) := by decide +kernel
theorem dX8_findUnknownState_50 : decode cX8_findUnknownState 50 = .ok (.iconst (-1), 1) := by decide +kernel
theorem dX8_findUnknownState_51 : decode cX8_findUnknownState 51 = .ok (.ireturn, 1) := by decide +kernel
set_option maxRecDepth 20000 in
theorem ggX9_init_X5_init : GoodIn wsX9_init wsX5_init := goodIn_r _ [31, 32, 2, 3, 33, 34, 35, 36, 37, 38, 39, 40, 41, 42, 43, 44, 45, 46, 47, 48, 49, 50, 51, 52, 53, 54, 55, 56, 57, 58, 59, 60, 61, 62, 63, 64, 65, 66, 67, 68, 69, 70, 71, 72, 73, 74, 75, 76, 77, 78, 79, 180, 181, 182, 183, 184, 185, 186, 207, 208, 209, 210, 211, 212, 213, 214, 215, 216] (by decide +kernel) (by decide +kernel)
set_option maxRecDepth 20000 in
theorem gX9_init_X5_init_n9 : GoodIn wsX9_init (wsX5_init) := ggX9_init_X5_init
set_option maxRecDepth 20000 in
theorem ggX9_init_X8_init : GoodIn wsX9_init wsX8_init := goodIn_r _ [81, 82, 2, 3, 83, 57, 84, 194, 195] (by decide +kernel) (by decide +kernel)
set_option maxRecDepth 20000 in
theorem gX9_init_X8_init_n26 : GoodIn wsX9_init (wsX8_init) := ggX9_init_X8_init
set_option maxRecDepth 20000 in
theorem ggX9_init_X2_init : GoodIn wsX9_init wsX2_init := goodIn_r _ [86, 87, 2, 3, 88, 89, 57, 90, 91, 196, 197, 198, 199] (by decide +kernel) (by decide +kernel)
set_option maxRecDepth 20000 in
theorem gX9_init_X2_init_n33 : GoodIn wsX9_init (wsX2_init) := ggX9_init_X2_init
set_option maxRecDepth 20000 in
theorem ggX9_init_X0_init : GoodIn wsX9_init wsX0_init := goodIn_r _ [93, 94, 2, 3, 95, 57, 96, 97, 200, 201, 202] (by decide +kernel) (by decide +kernel)
set_option maxRecDepth 20000 in
theorem gX9_init_X0_init_n40 : GoodIn wsX9_init (wsX0_init) := ggX9_init_X0_init
set_option maxRecDepth 20000 in
theorem ggX9_init_X7_init : GoodIn wsX9_init wsX7_init := goodIn_r _ [100, 101, 2, 3, 102, 57, 103, 104, 105, 203, 204, 205, 206] (by decide +kernel) (by decide +kernel)
set_option maxRecDepth 20000 in
theorem gX9_init_X7_init : GoodIn wsX9_init (wsX7_init) := ggX9_init_X7_init
set_option maxRecDepth 20000 in
theorem ggX9_init_X4_setWhole : GoodIn wsX9_init wsX4_setWhole := goodIn_r _ [109, 110, 111, 112, 41, 113, 66, 67, 68, 69, 209, 210, 211, 212] (by decide +kernel) (by decide +kernel)
set_option maxRecDepth 20000 in
theorem gX9_init_X4_setWhole : GoodIn wsX9_init (wsV RX9 66 RX4 yX4_setWhole wsX4_setWhole) := goodIn_app (goodIn_of _ (by decide +kernel)) ggX9_init_X4_setWhole
set_option maxRecDepth 20000 in
theorem ggX9_init_X9_renumber : GoodIn wsX9_init wsX9_renumber := goodIn_r _ [118, 18, 7, 29, 22, 28, 119, 120, 121, 6, 122, 34, 38, 123, 124, 125, 126, 17, 127, 88, 89, 90, 91, 128, 129, 130, 131, 132, 133, 134, 21, 135, 95, 136, 97, 96, 137, 138, 139, 140, 141, 142, 143, 144, 145, 146, 147, 41, 148, 66, 68, 67, 69, 187, 188, 189, 190, 191, 192, 193, 180, 181, 182, 183, 184, 185, 186, 207, 208, 196, 197, 198, 199, 200, 201, 202, 209, 210, 211, 212] (by decide +kernel) (by decide +kernel)
set_option maxRecDepth 20000 in
theorem gX9_init_X9_renumber : GoodIn wsX9_init (wsV RX9 72 RX9 yX9_renumber wsX9_renumber) := goodIn_app (goodIn_of _ (by decide +kernel)) ggX9_init_X9_renumber
set_option maxRecDepth 20000 in
theorem ggX9_init_X9_redivide : GoodIn wsX9_init wsX9_redivide := goodIn_r _ [152, 7, 26, 18, 153, 154, 155, 156, 157, 50, 158, 78, 79, 159, 160, 161, 162, 163, 164, 165, 166, 45, 167, 73, 168, 169, 170, 171, 74, 172, 173, 174, 17, 175, 91, 176, 177, 178, 179, 187, 188, 189, 190, 191, 192, 193, 180, 181, 182, 183, 184, 185, 186, 215, 216, 196, 197, 198, 199, 213, 214] (by decide +kernel) (by decide +kernel)
set_option maxRecDepth 20000 in
theorem gX9_init_X9_redivide : GoodIn wsX9_init (wsV RX9 75 RX9 yX9_redivide wsX9_redivide) := goodIn_app (goodIn_of _ (by decide +kernel)) ggX9_init_X9_redivide
theorem dX9_init_0 : decode cX9_init 0 = .ok (.aload_n 0, 1) := by decide +kernel
theorem dX9_init_1 : decode cX9_init 1 = .ok (.invokespecial 1, 3) := by decide +kernel
theorem dX9_init_4 : decode cX9_init 4 = .ok (.aload_n 0, 1) := by decide +kernel
theorem dX9_init_5 : decode cX9_init 5 = .ok (.new 7, 3) := by decide +kernel
theorem dX9_init_8 : decode cX9_init 8 = .ok (.dup, 1) := by decide +kernel
theorem dX9_init_9 : decode cX9_init 9 = .ok (.invokespecial 9, 3) := by decide +kernel
theorem dX9_init_12 : decode cX9_init 12 = .ok (.putfield 10, 3) := by decide +kernel
theorem dX9_init_15 : decode cX9_init 15 = .ok (.aload_n 0, 1) := by decide +kernel
theorem dX9_init_16 : decode cX9_init 16 = .ok (.iconst 2, 1) := by decide +kernel
theorem dX9_init_17 : decode cX9_init 17 = .ok (.anewarray 7, 3) := by decide +kernel
theorem dX9_init_20 : decode cX9_init 20 = .ok (.dup, 1) := by decide +kernel
theorem dX9_init_21 : decode cX9_init 21 = .ok (.iconst 0, 1) := by decide +kernel
theorem dX9_init_22 : decode cX9_init 22 = .ok (.new 7, 3) := by decide +kernel
theorem dX9_init_25 : decode cX9_init 25 = .ok (.dup, 1) := by decide +kernel
theorem dX9_init_26 : decode cX9_init 26 = .ok (.invokespecial 9, 3) := by decide +kernel
theorem dX9_init_29 : decode cX9_init 29 = .ok (.aastore, 1) := by decide +kernel
theorem dX9_init_30 : decode cX9_init 30 = .ok (.dup, 1) := by decide +kernel
theorem dX9_init_31 : decode cX9_init 31 = .ok (.iconst 1, 1) := by decide +kernel
theorem dX9_init_32 : decode cX9_init 32 = .ok (.new 7, 3) := by decide +kernel
theorem dX9_init_35 : decode cX9_init 35 = .ok (.dup, 1) := by decide +kernel
theorem dX9_init_36 : decode cX9_init 36 = .ok (.invokespecial 9, 3) := by decide +kernel
theorem dX9_init_39 : decode cX9_init 39 = .ok (.aastore, 1) := by decide +kernel
theorem dX9_init_40 : decode cX9_init 40 = .ok (.putfield 16, 3) := by decide +kernel
theorem dX9_init_43 : decode cX9_init 43 = .ok (.aload_n 0, 1) := by decide +kernel
theorem dX9_init_44 : decode cX9_init 44 = .ok (.iconst 2, 1) := by decide +kernel
theorem dX9_init_45 : decode cX9_init 45 = .ok (.newarray .boolean, 2) := by decide +kernel
theorem dX9_init_47 : decode cX9_init 47 = .ok (.putfield 20, 3) := by decide +kernel
theorem dX9_init_50 : decode cX9_init 50 = .ok (.aload_n 0, 1) := by decide +kernel
theorem dX9_init_51 : decode cX9_init 51 = .ok (.new 24, 3) := by decide +kernel
theorem dX9_init_54 : decode cX9_init 54 = .ok (.dup, 1) := by decide +kernel
theorem dX9_init_55 : decode cX9_init 55 = .ok (.invokespecial 26, 3) := by decide +kernel
theorem dX9_init_58 : decode cX9_init 58 = .ok (.putfield 27, 3) := by decide +kernel
theorem dX9_init_61 : decode cX9_init 61 = .ok (.aload_n 0, 1) := by decide +kernel
theorem dX9_init_62 : decode cX9_init 62 = .ok (.new 31, 3) := by decide +kernel
theorem dX9_init_65 : decode cX9_init 65 = .ok (.dup, 1) := by decide +kernel
theorem dX9_init_66 : decode cX9_init 66 = .ok (.invokespecial 33, 3) := by decide +kernel
theorem dX9_init_69 : decode cX9_init 69 = .ok (.putfield 34, 3) := by decide +kernel
theorem dX9_init_72 : decode cX9_init 72 = .ok (.aload_n 0, 1) := by decide +kernel
theorem dX9_init_73 : decode cX9_init 73 = .ok (.new 38, 3) := by decide +kernel
theorem dX9_init_76 : decode cX9_init 76 = .ok (.dup, 1) := by decide +kernel
theorem dX9_init_77 : decode cX9_init 77 = .ok (.invokespecial 40, 3) := by decide +kernel
theorem dX9_init_80 : decode cX9_init 80 = .ok (.putfield 41, 3) := by decide +kernel
theorem dX9_init_83 : decode cX9_init 83 = .ok (.aload_n 0, 1) := by decide +kernel
theorem dX9_init_84 : decode cX9_init 84 = .ok (.new 45, 3) := by decide +kernel
theorem dX9_init_87 : decode cX9_init 87 = .ok (.dup, 1) := by decide +kernel
theorem dX9_init_88 : decode cX9_init 88 = .ok (.aload_n 0, 1) := by decide +kernel
theorem dX9_init_89 : decode cX9_init 89 = .ok (.getfield 34, 3) := by decide +kernel
theorem dX9_init_92 : decode cX9_init 92 = .ok (.aload_n 0, 1) := by decide +kernel
theorem dX9_init_93 : decode cX9_init 93 = .ok (.getfield 10, 3) := by decide +kernel
theorem dX9_init_96 : decode cX9_init 96 = .ok (.getfield 47, 3) := by decide +kernel
theorem dX9_init_99 : decode cX9_init 99 = .ok (.invokespecial 51, 3) := by decide +kernel
theorem dX9_init_102 : decode cX9_init 102 = .ok (.putfield 54, 3) := by decide +kernel
theorem dX9_init_105 : decode cX9_init 105 = .ok (.aload_n 0, 1) := by decide +kernel
theorem dX9_init_106 : decode cX9_init 106 = .ok (.getfield 10, 3) := by decide +kernel
theorem dX9_init_109 : decode cX9_init 109 = .ok (.getfield 58, 3) := by decide +kernel
theorem dX9_init_112 : decode cX9_init 112 = .ok (.iconst 1, 1) := by decide +kernel
theorem dX9_init_113 : decode cX9_init 113 = .ok (.aload_n 0, 1) := by decide +kernel
theorem dX9_init_114 : decode cX9_init 114 = .ok (.getfield 10, 3) := by decide +kernel
theorem dX9_init_117 : decode cX9_init 117 = .ok (.getfield 62, 3) := by decide +kernel
theorem dX9_init_120 : decode cX9_init 120 = .ok (.ishl, 1) := by decide +kernel
theorem dX9_init_121 : decode cX9_init 121 = .ok (.invokevirtual 66, 3) := by decide +kernel
theorem dX9_init_124 : decode cX9_init 124 = .ok (.aload_n 0, 1) := by decide +kernel
theorem dX9_init_125 : decode cX9_init 125 = .ok (.invokevirtual 72, 3) := by decide +kernel
theorem dX9_init_128 : decode cX9_init 128 = .ok (.aload_n 0, 1) := by decide +kernel
theorem dX9_init_129 : decode cX9_init 129 = .ok (.invokevirtual 75, 3) := by decide +kernel
theorem dX9_init_132 : decode cX9_init 132 = .ok (.return_, 1) := by decide +kernel
set_option maxRecDepth 20000 in
theorem ggX9_setLevels_X4_setWhole : GoodIn wsX9_setLevels wsX4_setWhole := goodIn_r _ [9, 10, 11, 12, 8, 13, 14, 15, 16, 17, 122, 123, 124, 125] (by decide +kernel) (by decide +kernel)
set_option maxRecDepth 20000 in
theorem gX9_setLevels_X4_setWhole : GoodIn wsX9_setLevels (wsV RX9 66 RX4 yX4_setWhole wsX4_setWhole) := goodIn_app (goodIn_of _ (by decide +kernel)) ggX9_setLevels_X4_setWhole
set_option maxRecDepth 20000 in
theorem ggX9_setLevels_X3_removeAll : GoodIn wsX9_setLevels wsX3_removeAll := goodIn_r _ [22, 23, 126, 127] (by decide +kernel) (by decide +kernel)
set_option maxRecDepth 20000 in
theorem gX9_setLevels_X3_removeAll : GoodIn wsX9_setLevels (wsV RX9 82 RX3 yX3_removeAll wsX3_removeAll) := goodIn_app (goodIn_of _ (by decide +kernel)) ggX9_setLevels_X3_removeAll
set_option maxRecDepth 20000 in
theorem ggX9_setLevels_X9_renumber : GoodIn wsX9_setLevels wsX9_renumber := goodIn_r _ [28, 29, 1, 2, 30, 3, 31, 32, 33, 34, 35, 36, 37, 38, 39, 40, 41, 42, 43, 44, 45, 46, 47, 48, 49, 50, 51, 52, 53, 54, 55, 56, 57, 58, 59, 60, 61, 62, 63, 64, 65, 66, 67, 68, 69, 70, 71, 8, 72, 14, 16, 15, 17, 108, 109, 110, 111, 112, 113, 114, 115, 116, 117, 118, 119, 120, 121, 128, 129, 130, 131, 132, 133, 134, 135, 136, 122, 123, 124, 125] (by decide +kernel) (by decide +kernel)
set_option maxRecDepth 20000 in
theorem gX9_setLevels_X9_renumber : GoodIn wsX9_setLevels (wsV RX9 72 RX9 yX9_renumber wsX9_renumber) := goodIn_app (goodIn_of _ (by decide +kernel)) ggX9_setLevels_X9_renumber
set_option maxRecDepth 20000 in
theorem ggX9_setLevels_X9_redivide : GoodIn wsX9_setLevels wsX9_redivide := goodIn_r _ [76, 1, 77, 29, 4, 78, 79, 80, 81, 82, 83, 84, 85, 86, 87, 88, 89, 90, 91, 92, 93, 21, 94, 23, 95, 96, 97, 98, 99, 100, 101, 102, 42, 103, 47, 104, 105, 106, 107, 108, 109, 110, 111, 112, 113, 114, 115, 116, 117, 118, 119, 120, 121, 137, 138, 130, 131, 132, 133, 126, 127] (by decide +kernel) (by decide +kernel)
set_option maxRecDepth 20000 in
theorem gX9_setLevels_X9_redivide : GoodIn wsX9_setLevels (wsV RX9 75 RX9 yX9_redivide wsX9_redivide) := goodIn_app (goodIn_of _ (by decide +kernel)) ggX9_setLevels_X9_redivide
theorem dX9_setLevels_0 : decode cX9_setLevels 0 = .ok (.iload_n 1, 1) := by decide +kernel
theorem dX9_setLevels_1 : decode cX9_setLevels 1 = .ok (.iconst 1, 1) := by decide +kernel
theorem dX9_setLevels_2 : decode cX9_setLevels 2 = .ok (.if_icmp .lt 9, 3) := by decide +kernel
theorem dX9_setLevels_5 : decode cX9_setLevels 5 = .ok (.iload_n 1, 1) := by decide +kernel
theorem dX9_setLevels_6 : decode cX9_setLevels 6 = .ok (.bipush 6, 2) := by decide +kernel
theorem dX9_setLevels_8 : decode cX9_setLevels 8 = .ok (.if_icmp .le 6, 3) := by decide +kernel
theorem dX9_setLevels_11 : decode cX9_setLevels 11 = .ok (.bipush (-2), 2) := by decide +kernel
theorem dX9_setLevels_13 : decode cX9_setLevels 13 = .ok (.ireturn, 1) := by decide +kernel
theorem dX9_setLevels_14 : decode cX9_setLevels 14 = .ok (.aload_n 0, 1) := by decide +kernel
theorem dX9_setLevels_15 : decode cX9_setLevels 15 = .ok (.getfield 10, 3) := by decide +kernel
theorem dX9_setLevels_18 : decode cX9_setLevels 18 = .ok (.getfield 62, 3) := by decide +kernel
theorem dX9_setLevels_21 : decode cX9_setLevels 21 = .ok (.istore_n 2, 1) := by decide +kernel
theorem dX9_setLevels_22 : decode cX9_setLevels 22 = .ok (.aload_n 0, 1) := by decide +kernel
theorem dX9_setLevels_23 : decode cX9_setLevels 23 = .ok (.getfield 10, 3) := by decide +kernel
theorem dX9_setLevels_26 : decode cX9_setLevels 26 = .ok (.iload_n 1, 1) := by decide +kernel
theorem dX9_setLevels_27 : decode cX9_setLevels 27 = .ok (.putfield 62, 3) := by decide +kernel
theorem dX9_setLevels_30 : decode cX9_setLevels 30 = .ok (.aload_n 0, 1) := by decide +kernel
theorem dX9_setLevels_31 : decode cX9_setLevels 31 = .ok (.getfield 10, 3) := by decide +kernel
theorem dX9_setLevels_34 : decode cX9_setLevels 34 = .ok (.getfield 58, 3) := by decide +kernel
theorem dX9_setLevels_37 : decode cX9_setLevels 37 = .ok (.iconst 1, 1) := by decide +kernel
theorem dX9_setLevels_38 : decode cX9_setLevels 38 = .ok (.iload_n 1, 1) := by decide +kernel
theorem dX9_setLevels_39 : decode cX9_setLevels 39 = .ok (.ishl, 1) := by decide +kernel
theorem dX9_setLevels_40 : decode cX9_setLevels 40 = .ok (.invokevirtual 66, 3) := by decide +kernel
theorem dX9_setLevels_43 : decode cX9_setLevels 43 = .ok (.aload_n 0, 1) := by decide +kernel
theorem dX9_setLevels_44 : decode cX9_setLevels 44 = .ok (.getfield 10, 3) := by decide +kernel
theorem dX9_setLevels_47 : decode cX9_setLevels 47 = .ok (.getfield 78, 3) := by decide +kernel
theorem dX9_setLevels_50 : decode cX9_setLevels 50 = .ok (.invokevirtual 82, 3) := by decide +kernel
theorem dX9_setLevels_53 : decode cX9_setLevels 53 = .ok (.aload_n 0, 1) := by decide +kernel
theorem dX9_setLevels_54 : decode cX9_setLevels 54 = .ok (.invokevirtual 72, 3) := by decide +kernel
theorem dX9_setLevels_57 : decode cX9_setLevels 57 = .ok (.aload_n 0, 1) := by decide +kernel
theorem dX9_setLevels_58 : decode cX9_setLevels 58 = .ok (.invokevirtual 75, 3) := by decide +kernel
theorem dX9_setLevels_61 : decode cX9_setLevels 61 = .ok (.iload_n 2, 1) := by decide +kernel
theorem dX9_setLevels_62 : decode cX9_setLevels 62 = .ok (.ireturn, 1) := by decide +kernel
set_option maxRecDepth 20000 in
theorem ggX9_setCurve_X9_renumber : GoodIn wsX9_setCurve wsX9_renumber := goodIn_r _ [7, 8, 1, 9, 10, 11, 12, 13, 14, 15, 16, 17, 18, 19, 20, 21, 22, 23, 24, 25, 26, 27, 28, 29, 30, 31, 32, 33, 34, 35, 36, 37, 38, 39, 40, 41, 42, 43, 44, 45, 46, 47, 48, 49, 50, 51, 52, 53, 54, 55, 56, 57, 58, 97, 98, 99, 100, 101, 102, 103, 104, 105, 106, 107, 108, 109, 110, 111, 112, 113, 114, 115, 116, 117, 118, 119, 120, 121, 122, 123] (by decide +kernel) (by decide +kernel)
set_option maxRecDepth 20000 in
theorem gX9_setCurve_X9_renumber : GoodIn wsX9_setCurve (wsV RX9 72 RX9 yX9_renumber wsX9_renumber) := goodIn_app (goodIn_of _ (by decide +kernel)) ggX9_setCurve_X9_renumber
set_option maxRecDepth 20000 in
theorem ggX9_setCurve_X9_redivide : GoodIn wsX9_setCurve wsX9_redivide := goodIn_r _ [62, 1, 63, 8, 64, 65, 66, 67, 68, 69, 70, 71, 72, 73, 74, 75, 76, 77, 78, 79, 80, 81, 82, 83, 84, 85, 86, 87, 88, 89, 90, 91, 23, 92, 28, 93, 94, 95, 96, 97, 98, 99, 100, 101, 102, 103, 104, 105, 106, 107, 108, 109, 110, 124, 125, 113, 114, 115, 116, 126, 127] (by decide +kernel) (by decide +kernel)
set_option maxRecDepth 20000 in
theorem gX9_setCurve_X9_redivide : GoodIn wsX9_setCurve (wsV RX9 75 RX9 yX9_redivide wsX9_redivide) := goodIn_app (goodIn_of _ (by decide +kernel)) ggX9_setCurve_X9_redivide
theorem dX9_setCurve_0 : decode cX9_setCurve 0 = .ok (.iload_n 1, 1) := by decide +kernel
theorem dX9_setCurve_1 : decode cX9_setCurve 1 = .ok (.ifCond .lt 8, 3) := by decide +kernel
theorem dX9_setCurve_4 : decode cX9_setCurve 4 = .ok (.iload_n 1, 1) := by decide +kernel
theorem dX9_setCurve_5 : decode cX9_setCurve 5 = .ok (.iconst 2, 1) := by decide +kernel
theorem dX9_setCurve_6 : decode cX9_setCurve 6 = .ok (.if_icmp .le 6, 3) := by decide +kernel
theorem dX9_setCurve_9 : decode cX9_setCurve 9 = .ok (.bipush (-2), 2) := by decide +kernel
theorem dX9_setCurve_11 : decode cX9_setCurve 11 = .ok (.ireturn, 1) := by decide +kernel
theorem dX9_setCurve_12 : decode cX9_setCurve 12 = .ok (.aload_n 0, 1) := by decide +kernel
theorem dX9_setCurve_13 : decode cX9_setCurve 13 = .ok (.getfield 10, 3) := by decide +kernel
theorem dX9_setCurve_16 : decode cX9_setCurve 16 = .ok (.getfield 87, 3) := by decide +kernel
theorem dX9_setCurve_19 : decode cX9_setCurve 19 = .ok (.istore_n 2, 1) := by decide +kernel
theorem dX9_setCurve_20 : decode cX9_setCurve 20 = .ok (.aload_n 0, 1) := by decide +kernel
theorem dX9_setCurve_21 : decode cX9_setCurve 21 = .ok (.getfield 10, 3) := by decide +kernel
theorem dX9_setCurve_24 : decode cX9_setCurve 24 = .ok (.iload_n 1, 1) := by decide +kernel
theorem dX9_setCurve_25 : decode cX9_setCurve 25 = .ok (.putfield 87, 3) := by decide +kernel
theorem dX9_setCurve_28 : decode cX9_setCurve 28 = .ok (.aload_n 0, 1) := by decide +kernel
theorem dX9_setCurve_29 : decode cX9_setCurve 29 = .ok (.invokevirtual 72, 3) := by decide +kernel
theorem dX9_setCurve_32 : decode cX9_setCurve 32 = .ok (.aload_n 0, 1) := by decide +kernel
theorem dX9_setCurve_33 : decode cX9_setCurve 33 = .ok (.invokevirtual 75, 3) := by decide +kernel
theorem dX9_setCurve_36 : decode cX9_setCurve 36 = .ok (.iload_n 2, 1) := by decide +kernel
theorem dX9_setCurve_37 : decode cX9_setCurve 37 = .ok (.ireturn, 1) := by decide +kernel
set_option maxRecDepth 20000 in
theorem ggX9_states_X5_stateCount : GoodIn wsX9_states wsX5_stateCount := goodIn_r _ [6, 7, 8, 9, 17, 18, 19, 20, 21, 22, 23, 24, 25] (by decide +kernel) (by decide +kernel)
set_option maxRecDepth 20000 in
theorem gX9_states_X5_stateCount : GoodIn wsX9_states (wsV RX9 90 RX5 yX5_stateCount wsX5_stateCount) := goodIn_app (goodIn_of _ (by decide +kernel)) ggX9_states_X5_stateCount
theorem dX9_states_0 : decode cX9_states 0 = .ok (.aload_n 0, 1) := by decide +kernel
theorem dX9_states_1 : decode cX9_states 1 = .ok (.getfield 10, 3) := by decide +kernel
theorem dX9_states_4 : decode cX9_states 4 = .ok (.invokevirtual 90, 3) := by decide +kernel
theorem dX9_states_7 : decode cX9_states 7 = .ok (.ireturn, 1) := by decide +kernel
set_option maxRecDepth 20000 in
theorem ggX9_visit_X5_stateCount : GoodIn wsX9_visit wsX5_stateCount := goodIn_r _ [6, 7, 8, 9, 22, 23, 24, 25, 26, 27, 28, 29, 30] (by decide +kernel) (by decide +kernel)
set_option maxRecDepth 20000 in
theorem gX9_visit_X5_stateCount : GoodIn wsX9_visit (wsV RX9 90 RX5 yX5_stateCount wsX5_stateCount) := goodIn_app (goodIn_of _ (by decide +kernel)) ggX9_visit_X5_stateCount
set_option maxRecDepth 20000 in
theorem ggX9_visit_X5_visitsOfCurve : GoodIn wsX9_visit wsX5_visitsOfCurve := goodIn_r _ [13, 7, 8, 14, 22, 23, 24, 25, 26, 27, 28, 29, 30] (by decide +kernel) (by decide +kernel)
set_option maxRecDepth 20000 in
theorem gX9_visit_X5_visitsOfCurve : GoodIn wsX9_visit (wsV RX9 94 RX5 yX5_visitsOfCurve wsX5_visitsOfCurve) := goodIn_app (goodIn_of _ (by decide +kernel)) ggX9_visit_X5_visitsOfCurve
theorem dX9_visit_0 : decode cX9_visit 0 = .ok (.iload_n 1, 1) := by decide +kernel
theorem dX9_visit_1 : decode cX9_visit 1 = .ok (.ifCond .lt 23, 3) := by decide +kernel
theorem dX9_visit_4 : decode cX9_visit 4 = .ok (.iload_n 1, 1) := by decide +kernel
theorem dX9_visit_5 : decode cX9_visit 5 = .ok (.aload_n 0, 1) := by decide +kernel
theorem dX9_visit_6 : decode cX9_visit 6 = .ok (.getfield 10, 3) := by decide +kernel
theorem dX9_visit_9 : decode cX9_visit 9 = .ok (.invokevirtual 90, 3) := by decide +kernel
theorem dX9_visit_12 : decode cX9_visit 12 = .ok (.if_icmp .ge 12, 3) := by decide +kernel
theorem dX9_visit_15 : decode cX9_visit 15 = .ok (.iload_n 2, 1) := by decide +kernel
theorem dX9_visit_16 : decode cX9_visit 16 = .ok (.ifCond .lt 8, 3) := by decide +kernel
theorem dX9_visit_19 : decode cX9_visit 19 = .ok (.iload_n 2, 1) := by decide +kernel
theorem dX9_visit_20 : decode cX9_visit 20 = .ok (.iconst 4, 1) := by decide +kernel
theorem dX9_visit_21 : decode cX9_visit 21 = .ok (.if_icmp .lt 5, 3) := by decide +kernel
theorem dX9_visit_24 : decode cX9_visit 24 = .ok (.iconst (-1), 1) := by decide +kernel
theorem dX9_visit_25 : decode cX9_visit 25 = .ok (.ireturn, 1) := by decide +kernel
theorem dX9_visit_26 : decode cX9_visit 26 = .ok (.aload_n 0, 1) := by decide +kernel
theorem dX9_visit_27 : decode cX9_visit 27 = .ok (.getfield 10, 3) := by decide +kernel
theorem dX9_visit_30 : decode cX9_visit 30 = .ok (.invokevirtual 94, 3) := by decide +kernel
theorem dX9_visit_33 : decode cX9_visit 33 = .ok (.iconst 4, 1) := by decide +kernel
theorem dX9_visit_34 : decode cX9_visit 34 = .ok (.iload_n 1, 1) := by decide +kernel
theorem dX9_visit_35 : decode cX9_visit 35 = .ok (.imul, 1) := by decide +kernel
theorem dX9_visit_36 : decode cX9_visit 36 = .ok (.iload_n 2, 1) := by decide +kernel
theorem dX9_visit_37 : decode cX9_visit 37 = .ok (.iadd, 1) := by decide +kernel
theorem dX9_visit_38 : decode cX9_visit 38 = .ok (.iaload, 1) := by decide +kernel
theorem dX9_visit_39 : decode cX9_visit 39 = .ok (.ireturn, 1) := by decide +kernel
set_option maxRecDepth 20000 in
theorem ggX9_index_X2_holds : GoodIn wsX9_index wsX2_holds := goodIn_r _ [6, 7, 20, 21, 22, 23] (by decide +kernel) (by decide +kernel)
set_option maxRecDepth 20000 in
theorem gX9_index_X2_holds : GoodIn wsX9_index (wsV RX9 98 RX2 yX2_holds wsX2_holds) := goodIn_app (goodIn_of _ (by decide +kernel)) ggX9_index_X2_holds
set_option maxRecDepth 20000 in
theorem ggX9_index_X2_indexOf : GoodIn wsX9_index wsX2_indexOf := goodIn_r _ [11, 12, 20, 21, 22, 23] (by decide +kernel) (by decide +kernel)
set_option maxRecDepth 20000 in
theorem gX9_index_X2_indexOf : GoodIn wsX9_index (wsV RX9 102 RX2 yX2_indexOf wsX2_indexOf) := goodIn_app (goodIn_of _ (by decide +kernel)) ggX9_index_X2_indexOf
theorem dX9_index_0 : decode cX9_index 0 = .ok (.aload_n 0, 1) := by decide +kernel
theorem dX9_index_1 : decode cX9_index 1 = .ok (.getfield 34, 3) := by decide +kernel
theorem dX9_index_4 : decode cX9_index 4 = .ok (.iload_n 1, 1) := by decide +kernel
theorem dX9_index_5 : decode cX9_index 5 = .ok (.iload_n 2, 1) := by decide +kernel
theorem dX9_index_6 : decode cX9_index 6 = .ok (.invokevirtual 98, 3) := by decide +kernel
theorem dX9_index_9 : decode cX9_index 9 = .ok (.ifCond .eq 15, 3) := by decide +kernel
theorem dX9_index_12 : decode cX9_index 12 = .ok (.aload_n 0, 1) := by decide +kernel
theorem dX9_index_13 : decode cX9_index 13 = .ok (.getfield 34, 3) := by decide +kernel
theorem dX9_index_16 : decode cX9_index 16 = .ok (.iload_n 1, 1) := by decide +kernel
theorem dX9_index_17 : decode cX9_index 17 = .ok (.iload_n 2, 1) := by decide +kernel
theorem dX9_index_18 : decode cX9_index 18 = .ok (.invokevirtual 102, 3) := by decide +kernel
theorem dX9_index_21 : decode cX9_index 21 = .ok (.goto 4, 3) := by decide +kernel
theorem dX9_index_24 : decode cX9_index 24 = .ok (.iconst (-1), 1) := by decide +kernel
theorem dX9_index_25 : decode cX9_index 25 = .ok (.ireturn, 1) := by decide +kernel
set_option maxRecDepth 20000 in
theorem ggX9_cell_X2_yAt : GoodIn wsX9_cell wsX2_yAt := goodIn_r _ [7, 8, 20, 21, 22, 23] (by decide +kernel) (by decide +kernel)
set_option maxRecDepth 20000 in
theorem gX9_cell_X2_yAt : GoodIn wsX9_cell (wsV RX9 109 RX2 yX2_yAt wsX2_yAt) := goodIn_app (goodIn_of _ (by decide +kernel)) ggX9_cell_X2_yAt
set_option maxRecDepth 20000 in
theorem ggX9_cell_X2_xAt : GoodIn wsX9_cell wsX2_xAt := goodIn_r _ [12, 8, 20, 21, 22, 23] (by decide +kernel) (by decide +kernel)
set_option maxRecDepth 20000 in
theorem gX9_cell_X2_xAt : GoodIn wsX9_cell (wsV RX9 113 RX2 yX2_xAt wsX2_xAt) := goodIn_app (goodIn_of _ (by decide +kernel)) ggX9_cell_X2_xAt
theorem dX9_cell_0 : decode cX9_cell 0 = .ok (.iload_n 1, 1) := by decide +kernel
theorem dX9_cell_1 : decode cX9_cell 1 = .ok (.ifCond .lt 14, 3) := by decide +kernel
theorem dX9_cell_4 : decode cX9_cell 4 = .ok (.iload_n 1, 1) := by decide +kernel
theorem dX9_cell_5 : decode cX9_cell 5 = .ok (.aload_n 0, 1) := by decide +kernel
theorem dX9_cell_6 : decode cX9_cell 6 = .ok (.getfield 34, 3) := by decide +kernel
theorem dX9_cell_9 : decode cX9_cell 9 = .ok (.getfield 106, 3) := by decide +kernel
theorem dX9_cell_12 : decode cX9_cell 12 = .ok (.if_icmp .lt 5, 3) := by decide +kernel
theorem dX9_cell_15 : decode cX9_cell 15 = .ok (.iconst (-1), 1) := by decide +kernel
theorem dX9_cell_16 : decode cX9_cell 16 = .ok (.ireturn, 1) := by decide +kernel
theorem dX9_cell_17 : decode cX9_cell 17 = .ok (.iload_n 2, 1) := by decide +kernel
theorem dX9_cell_18 : decode cX9_cell 18 = .ok (.ifCond .eq 14, 3) := by decide +kernel
theorem dX9_cell_21 : decode cX9_cell 21 = .ok (.aload_n 0, 1) := by decide +kernel
theorem dX9_cell_22 : decode cX9_cell 22 = .ok (.getfield 34, 3) := by decide +kernel
theorem dX9_cell_25 : decode cX9_cell 25 = .ok (.iload_n 1, 1) := by decide +kernel
theorem dX9_cell_26 : decode cX9_cell 26 = .ok (.invokevirtual 109, 3) := by decide +kernel
theorem dX9_cell_29 : decode cX9_cell 29 = .ok (.goto 11, 3) := by decide +kernel
theorem dX9_cell_32 : decode cX9_cell 32 = .ok (.aload_n 0, 1) := by decide +kernel
theorem dX9_cell_33 : decode cX9_cell 33 = .ok (.getfield 34, 3) := by decide +kernel
theorem dX9_cell_36 : decode cX9_cell 36 = .ok (.iload_n 1, 1) := by decide +kernel
theorem dX9_cell_37 : decode cX9_cell 37 = .ok (.invokevirtual 113, 3) := by decide +kernel
theorem dX9_cell_40 : decode cX9_cell 40 = .ok (.ireturn, 1) := by decide +kernel
set_option maxRecDepth 20000 in
theorem ggX9_breaks_X2_countBreaks : GoodIn wsX9_breaks wsX2_countBreaks := goodIn_r _ [6, 7, 8, 9, 10, 11, 12, 13, 14, 5, 15, 16, 17, 18, 19, 20, 28, 29, 30, 31] (by decide +kernel) (by decide +kernel)
set_option maxRecDepth 20000 in
theorem gX9_breaks_X2_countBreaks : GoodIn wsX9_breaks (wsV RX9 116 RX2 yX2_countBreaks wsX2_countBreaks) := goodIn_app (goodIn_of _ (by decide +kernel)) ggX9_breaks_X2_countBreaks
theorem dX9_breaks_0 : decode cX9_breaks 0 = .ok (.aload_n 0, 1) := by decide +kernel
theorem dX9_breaks_1 : decode cX9_breaks 1 = .ok (.getfield 34, 3) := by decide +kernel
theorem dX9_breaks_4 : decode cX9_breaks 4 = .ok (.invokevirtual 116, 3) := by decide +kernel
theorem dX9_breaks_7 : decode cX9_breaks 7 = .ok (.ireturn, 1) := by decide +kernel
set_option maxRecDepth 20000 in
theorem ggX9_stretch_X2_greatestDifference : GoodIn wsX9_stretch wsX2_greatestDifference := goodIn_r _ [6, 7, 8, 9, 10, 11, 12, 13, 14, 15, 16, 17, 5, 18, 19, 27, 28, 29, 30] (by decide +kernel) (by decide +kernel)
set_option maxRecDepth 20000 in
theorem gX9_stretch_X2_greatestDifference : GoodIn wsX9_stretch (wsV RX9 119 RX2 yX2_greatestDifference wsX2_greatestDifference) := goodIn_app (goodIn_of _ (by decide +kernel)) ggX9_stretch_X2_greatestDifference
theorem dX9_stretch_0 : decode cX9_stretch 0 = .ok (.aload_n 0, 1) := by decide +kernel
theorem dX9_stretch_1 : decode cX9_stretch 1 = .ok (.getfield 34, 3) := by decide +kernel
theorem dX9_stretch_4 : decode cX9_stretch 4 = .ok (.invokevirtual 119, 3) := by decide +kernel
theorem dX9_stretch_7 : decode cX9_stretch 7 = .ok (.ireturn, 1) := by decide +kernel
set_option maxRecDepth 20000 in
theorem ggX9_append_X8_add : GoodIn wsX9_append wsX8_add := goodIn_r _ [7, 8, 9, 17, 18] (by decide +kernel) (by decide +kernel)
set_option maxRecDepth 20000 in
theorem gX9_append_X8_add : GoodIn wsX9_append (wsV RX9 122 RX8 yX8_add wsX8_add) := goodIn_app (goodIn_of _ (by decide +kernel)) ggX9_append_X8_add
theorem dX9_append_0 : decode cX9_append 0 = .ok (.iload_n 1, 1) := by decide +kernel
theorem dX9_append_1 : decode cX9_append 1 = .ok (.ifCond .lt 9, 3) := by decide +kernel
theorem dX9_append_4 : decode cX9_append 4 = .ok (.iload_n 1, 1) := by decide +kernel
theorem dX9_append_5 : decode cX9_append 5 = .ok (.bipush 127, 2) := by decide +kernel
theorem dX9_append_7 : decode cX9_append 7 = .ok (.if_icmp .le 6, 3) := by decide +kernel
theorem dX9_append_10 : decode cX9_append 10 = .ok (.bipush (-2), 2) := by decide +kernel
theorem dX9_append_12 : decode cX9_append 12 = .ok (.ireturn, 1) := by decide +kernel
theorem dX9_append_13 : decode cX9_append 13 = .ok (.aload_n 0, 1) := by decide +kernel
theorem dX9_append_14 : decode cX9_append 14 = .ok (.getfield 27, 3) := by decide +kernel
theorem dX9_append_17 : decode cX9_append 17 = .ok (.iload_n 1, 1) := by decide +kernel
theorem dX9_append_18 : decode cX9_append 18 = .ok (.invokevirtual 122, 3) := by decide +kernel
theorem dX9_append_21 : decode cX9_append 21 = .ok (.ifCond .eq 13, 3) := by decide +kernel
theorem dX9_append_24 : decode cX9_append 24 = .ok (.aload_n 0, 1) := by decide +kernel
theorem dX9_append_25 : decode cX9_append 25 = .ok (.getfield 27, 3) := by decide +kernel
theorem dX9_append_28 : decode cX9_append 28 = .ok (.getfield 126, 3) := by decide +kernel
theorem dX9_append_31 : decode cX9_append 31 = .ok (.goto 5, 3) := by decide +kernel
theorem dX9_append_34 : decode cX9_append 34 = .ok (.bipush (-4), 2) := by decide +kernel
theorem dX9_append_36 : decode cX9_append 36 = .ok (.ireturn, 1) := by decide +kernel
theorem dX9_clearText_0 : decode cX9_clearText 0 = .ok (.aload_n 0, 1) := by decide +kernel
theorem dX9_clearText_1 : decode cX9_clearText 1 = .ok (.getfield 27, 3) := by decide +kernel
theorem dX9_clearText_4 : decode cX9_clearText 4 = .ok (.getfield 126, 3) := by decide +kernel
theorem dX9_clearText_7 : decode cX9_clearText 7 = .ok (.istore_n 1, 1) := by decide +kernel
theorem dX9_clearText_8 : decode cX9_clearText 8 = .ok (.aload_n 0, 1) := by decide +kernel
theorem dX9_clearText_9 : decode cX9_clearText 9 = .ok (.getfield 27, 3) := by decide +kernel
theorem dX9_clearText_12 : decode cX9_clearText 12 = .ok (.iconst 0, 1) := by decide +kernel
theorem dX9_clearText_13 : decode cX9_clearText 13 = .ok (.putfield 126, 3) := by decide +kernel
theorem dX9_clearText_16 : decode cX9_clearText 16 = .ok (.iload_n 1, 1) := by decide +kernel
theorem dX9_clearText_17 : decode cX9_clearText 17 = .ok (.ireturn, 1) := by decide +kernel
set_option maxRecDepth 20000 in
theorem ggX9_faultPosition_X8_findFault : GoodIn wsX9_faultPosition wsX8_findFault := goodIn_r _ [6, 7, 8, 9, 5, 10, 11, 12, 13, 14, 15, 16, 17, 18, 19, 20, 21, 22, 23, 24, 25, 26, 27, 28, 29, 30, 31, 32, 40, 41] (by decide +kernel) (by decide +kernel)
set_option maxRecDepth 20000 in
theorem gX9_faultPosition_X8_findFault : GoodIn wsX9_faultPosition (wsV RX9 129 RX8 yX8_findFault wsX8_findFault) := goodIn_app (goodIn_of _ (by decide +kernel)) ggX9_faultPosition_X8_findFault
theorem dX9_faultPosition_0 : decode cX9_faultPosition 0 = .ok (.aload_n 0, 1) := by decide +kernel
theorem dX9_faultPosition_1 : decode cX9_faultPosition 1 = .ok (.getfield 27, 3) := by decide +kernel
theorem dX9_faultPosition_4 : decode cX9_faultPosition 4 = .ok (.invokevirtual 129, 3) := by decide +kernel
theorem dX9_faultPosition_7 : decode cX9_faultPosition 7 = .ok (.istore_n 1, 1) := by decide +kernel
theorem dX9_faultPosition_8 : decode cX9_faultPosition 8 = .ok (.iload_n 1, 1) := by decide +kernel
theorem dX9_faultPosition_9 : decode cX9_faultPosition 9 = .ok (.iconst (-1), 1) := by decide +kernel
theorem dX9_faultPosition_10 : decode cX9_faultPosition 10 = .ok (.if_icmp .ne 8, 3) := by decide +kernel
theorem dX9_faultPosition_13 : decode cX9_faultPosition 13 = .ok (.bipush (-5), 2) := by decide +kernel
theorem dX9_faultPosition_15 : decode cX9_faultPosition 15 = .ok (.goto 4, 3) := by decide +kernel
theorem dX9_faultPosition_18 : decode cX9_faultPosition 18 = .ok (.iload_n 1, 1) := by decide +kernel
theorem dX9_faultPosition_19 : decode cX9_faultPosition 19 = .ok (.ireturn, 1) := by decide +kernel
set_option maxRecDepth 20000 in
theorem ggX9_read_X8_findFault : GoodIn wsX9_read wsX8_findFault := goodIn_r _ [10, 11, 12, 13, 9, 14, 15, 16, 17, 18, 19, 20, 21, 22, 23, 24, 25, 26, 27, 28, 29, 30, 31, 32, 33, 34, 35, 36, 156, 157] (by decide +kernel) (by decide +kernel)
set_option maxRecDepth 20000 in
theorem gX9_read_X8_findFault : GoodIn wsX9_read (wsV RX9 129 RX8 yX8_findFault wsX8_findFault) := goodIn_app (goodIn_of _ (by decide +kernel)) ggX9_read_X8_findFault
set_option maxRecDepth 20000 in
theorem ggX9_read_X6_takeFrom : GoodIn wsX9_read wsX6_takeFrom := goodIn_r _ [41, 42, 43, 44, 30, 31, 9, 32, 15, 45, 34, 35, 36, 20, 154, 155, 156, 157] (by decide +kernel) (by decide +kernel)
set_option maxRecDepth 20000 in
theorem gX9_read_X6_takeFrom : GoodIn wsX9_read (wsV RX9 136 RX6 yX6_takeFrom wsX6_takeFrom) := goodIn_app (goodIn_of _ (by decide +kernel)) ggX9_read_X6_takeFrom
set_option maxRecDepth 20000 in
theorem ggX9_read_X9_renumber : GoodIn wsX9_read wsX9_renumber := goodIn_r _ [50, 51, 2, 52, 53, 54, 55, 56, 57, 58, 59, 60, 61, 62, 63, 64, 65, 66, 67, 68, 69, 70, 71, 72, 73, 74, 75, 76, 77, 78, 79, 80, 81, 82, 83, 84, 85, 86, 87, 88, 89, 90, 91, 92, 93, 94, 95, 96, 97, 98, 99, 100, 101, 140, 141, 142, 143, 144, 145, 146, 147, 148, 149, 150, 151, 152, 153, 154, 155, 158, 159, 160, 161, 162, 163, 164, 165, 166, 167, 168] (by decide +kernel) (by decide +kernel)
set_option maxRecDepth 20000 in
theorem gX9_read_X9_renumber : GoodIn wsX9_read (wsV RX9 72 RX9 yX9_renumber wsX9_renumber) := goodIn_app (goodIn_of _ (by decide +kernel)) ggX9_read_X9_renumber
set_option maxRecDepth 20000 in
theorem ggX9_read_X9_redivide : GoodIn wsX9_read wsX9_redivide := goodIn_r _ [105, 2, 106, 51, 107, 108, 109, 110, 111, 112, 113, 114, 115, 116, 117, 118, 119, 120, 121, 122, 123, 124, 125, 126, 127, 128, 129, 130, 131, 132, 133, 134, 66, 135, 71, 136, 137, 138, 139, 140, 141, 142, 143, 144, 145, 146, 147, 148, 149, 150, 151, 152, 153, 169, 170, 158, 159, 160, 161, 171, 172] (by decide +kernel) (by decide +kernel)
set_option maxRecDepth 20000 in
theorem gX9_read_X9_redivide : GoodIn wsX9_read (wsV RX9 75 RX9 yX9_redivide wsX9_redivide) := goodIn_app (goodIn_of _ (by decide +kernel)) ggX9_read_X9_redivide
theorem dX9_read_0 : decode cX9_read 0 = .ok (.aload_n 0, 1) := by decide +kernel
theorem dX9_read_1 : decode cX9_read 1 = .ok (.getfield 27, 3) := by decide +kernel
theorem dX9_read_4 : decode cX9_read 4 = .ok (.invokevirtual 129, 3) := by decide +kernel
theorem dX9_read_7 : decode cX9_read 7 = .ok (.iconst (-1), 1) := by decide +kernel
theorem dX9_read_8 : decode cX9_read 8 = .ok (.if_icmp .eq 6, 3) := by decide +kernel
theorem dX9_read_11 : decode cX9_read 11 = .ok (.bipush (-3), 2) := by decide +kernel
theorem dX9_read_13 : decode cX9_read 13 = .ok (.ireturn, 1) := by decide +kernel
theorem dX9_read_14 : decode cX9_read 14 = .ok (.aload_n 0, 1) := by decide +kernel
theorem dX9_read_15 : decode cX9_read 15 = .ok (.getfield 10, 3) := by decide +kernel
theorem dX9_read_18 : decode cX9_read 18 = .ok (.getfield 132, 3) := by decide +kernel
theorem dX9_read_21 : decode cX9_read 21 = .ok (.aload_n 0, 1) := by decide +kernel
theorem dX9_read_22 : decode cX9_read 22 = .ok (.getfield 27, 3) := by decide +kernel
theorem dX9_read_25 : decode cX9_read 25 = .ok (.invokevirtual 136, 3) := by decide +kernel
theorem dX9_read_28 : decode cX9_read 28 = .ok (.aload_n 0, 1) := by decide +kernel
theorem dX9_read_29 : decode cX9_read 29 = .ok (.getfield 10, 3) := by decide +kernel
theorem dX9_read_32 : decode cX9_read 32 = .ok (.iconst 2, 1) := by decide +kernel
theorem dX9_read_33 : decode cX9_read 33 = .ok (.putfield 87, 3) := by decide +kernel
theorem dX9_read_36 : decode cX9_read 36 = .ok (.aload_n 0, 1) := by decide +kernel
theorem dX9_read_37 : decode cX9_read 37 = .ok (.invokevirtual 72, 3) := by decide +kernel
theorem dX9_read_40 : decode cX9_read 40 = .ok (.aload_n 0, 1) := by decide +kernel
theorem dX9_read_41 : decode cX9_read 41 = .ok (.invokevirtual 75, 3) := by decide +kernel
theorem dX9_read_44 : decode cX9_read 44 = .ok (.aload_n 0, 1) := by decide +kernel
theorem dX9_read_45 : decode cX9_read 45 = .ok (.getfield 10, 3) := by decide +kernel
theorem dX9_read_48 : decode cX9_read 48 = .ok (.getfield 132, 3) := by decide +kernel
theorem dX9_read_51 : decode cX9_read 51 = .ok (.getfield 142, 3) := by decide +kernel
theorem dX9_read_54 : decode cX9_read 54 = .ok (.ireturn, 1) := by decide +kernel
set_option maxRecDepth 20000 in
theorem ggX9_setRange_X2_holds : GoodIn wsX9_setRange wsX2_holds := goodIn_r _ [9, 10, 56, 57, 58, 59] (by decide +kernel) (by decide +kernel)
set_option maxRecDepth 20000 in
theorem gX9_setRange_X2_holds : GoodIn wsX9_setRange (wsV RX9 98 RX2 yX2_holds wsX2_holds) := goodIn_app (goodIn_of _ (by decide +kernel)) ggX9_setRange_X2_holds
set_option maxRecDepth 20000 in
theorem ggX9_setRange_X4_setEdges : GoodIn wsX9_setRange wsX4_setEdges := goodIn_r _ [15, 16, 17, 18, 19, 60, 61, 62, 63] (by decide +kernel) (by decide +kernel)
set_option maxRecDepth 20000 in
theorem gX9_setRange_X4_setEdges : GoodIn wsX9_setRange (wsV RX9 145 RX4 yX4_setEdges wsX4_setEdges) := goodIn_app (goodIn_of _ (by decide +kernel)) ggX9_setRange_X4_setEdges
set_option maxRecDepth 20000 in
theorem ggX9_setRange_X0_fill : GoodIn wsX9_setRange wsX0_fill := goodIn_r _ [24, 25, 26, 27, 28, 29, 30, 31, 8, 32, 33, 34, 35, 36, 37, 38, 39, 40, 14, 41, 16, 18, 17, 19, 64, 65, 66, 56, 57, 58, 59, 60, 61, 62, 63] (by decide +kernel) (by decide +kernel)
set_option maxRecDepth 20000 in
theorem gX9_setRange_X0_fill : GoodIn wsX9_setRange (wsV RX9 149 RX0 yX0_fill wsX0_fill) := goodIn_app (goodIn_of _ (by decide +kernel)) ggX9_setRange_X0_fill
theorem dX9_setRange_0 : decode cX9_setRange 0 = .ok (.aload_n 0, 1) := by decide +kernel
theorem dX9_setRange_1 : decode cX9_setRange 1 = .ok (.getfield 34, 3) := by decide +kernel
theorem dX9_setRange_4 : decode cX9_setRange 4 = .ok (.iload_n 1, 1) := by decide +kernel
theorem dX9_setRange_5 : decode cX9_setRange 5 = .ok (.iload_n 2, 1) := by decide +kernel
theorem dX9_setRange_6 : decode cX9_setRange 6 = .ok (.invokevirtual 98, 3) := by decide +kernel
theorem dX9_setRange_9 : decode cX9_setRange 9 = .ok (.ifCond .eq 27, 3) := by decide +kernel
theorem dX9_setRange_12 : decode cX9_setRange 12 = .ok (.aload_n 0, 1) := by decide +kernel
theorem dX9_setRange_13 : decode cX9_setRange 13 = .ok (.getfield 34, 3) := by decide +kernel
theorem dX9_setRange_16 : decode cX9_setRange 16 = .ok (.iload_n 3, 1) := by decide +kernel
theorem dX9_setRange_17 : decode cX9_setRange 17 = .ok (.iload 4, 2) := by decide +kernel
theorem dX9_setRange_19 : decode cX9_setRange 19 = .ok (.invokevirtual 98, 3) := by decide +kernel
theorem dX9_setRange_22 : decode cX9_setRange 22 = .ok (.ifCond .eq 14, 3) := by decide +kernel
theorem dX9_setRange_25 : decode cX9_setRange 25 = .ok (.iload_n 3, 1) := by decide +kernel
theorem dX9_setRange_26 : decode cX9_setRange 26 = .ok (.iload_n 1, 1) := by decide +kernel
theorem dX9_setRange_27 : decode cX9_setRange 27 = .ok (.if_icmp .lt 9, 3) := by decide +kernel
theorem dX9_setRange_30 : decode cX9_setRange 30 = .ok (.iload 4, 2) := by decide +kernel
theorem dX9_setRange_32 : decode cX9_setRange 32 = .ok (.iload_n 2, 1) := by decide +kernel
theorem dX9_setRange_33 : decode cX9_setRange 33 = .ok (.if_icmp .ge 6, 3) := by decide +kernel
theorem dX9_setRange_36 : decode cX9_setRange 36 = .ok (.bipush (-2), 2) := by decide +kernel
theorem dX9_setRange_38 : decode cX9_setRange 38 = .ok (.ireturn, 1) := by decide +kernel
theorem dX9_setRange_39 : decode cX9_setRange 39 = .ok (.aload_n 0, 1) := by decide +kernel
theorem dX9_setRange_40 : decode cX9_setRange 40 = .ok (.getfield 10, 3) := by decide +kernel
theorem dX9_setRange_43 : decode cX9_setRange 43 = .ok (.getfield 58, 3) := by decide +kernel
theorem dX9_setRange_46 : decode cX9_setRange 46 = .ok (.iload_n 1, 1) := by decide +kernel
theorem dX9_setRange_47 : decode cX9_setRange 47 = .ok (.iload_n 2, 1) := by decide +kernel
theorem dX9_setRange_48 : decode cX9_setRange 48 = .ok (.iload_n 3, 1) := by decide +kernel
theorem dX9_setRange_49 : decode cX9_setRange 49 = .ok (.iload 4, 2) := by decide +kernel
theorem dX9_setRange_51 : decode cX9_setRange 51 = .ok (.invokevirtual 145, 3) := by decide +kernel
theorem dX9_setRange_54 : decode cX9_setRange 54 = .ok (.aload_n 0, 1) := by decide +kernel
theorem dX9_setRange_55 : decode cX9_setRange 55 = .ok (.getfield 41, 3) := by decide +kernel
theorem dX9_setRange_58 : decode cX9_setRange 58 = .ok (.aload_n 0, 1) := by decide +kernel
theorem dX9_setRange_59 : decode cX9_setRange 59 = .ok (.getfield 34, 3) := by decide +kernel
theorem dX9_setRange_62 : decode cX9_setRange 62 = .ok (.aload_n 0, 1) := by decide +kernel
theorem dX9_setRange_63 : decode cX9_setRange 63 = .ok (.getfield 10, 3) := by decide +kernel
theorem dX9_setRange_66 : decode cX9_setRange 66 = .ok (.getfield 58, 3) := by decide +kernel
theorem dX9_setRange_69 : decode cX9_setRange 69 = .ok (.invokevirtual 149, 3) := by decide +kernel
theorem dX9_setRange_72 : decode cX9_setRange 72 = .ok (.iload_n 3, 1) := by decide +kernel
theorem dX9_setRange_73 : decode cX9_setRange 73 = .ok (.iload_n 1, 1) := by decide +kernel
theorem dX9_setRange_74 : decode cX9_setRange 74 = .ok (.isub, 1) := by decide +kernel
theorem dX9_setRange_75 : decode cX9_setRange 75 = .ok (.iconst 1, 1) := by decide +kernel
theorem dX9_setRange_76 : decode cX9_setRange 76 = .ok (.iadd, 1) := by decide +kernel
theorem dX9_setRange_77 : decode cX9_setRange 77 = .ok (.iload 4, 2) := by decide +kernel
theorem dX9_setRange_79 : decode cX9_setRange 79 = .ok (.iload_n 2, 1) := by decide +kernel
theorem dX9_setRange_80 : decode cX9_setRange 80 = .ok (.isub, 1) := by decide +kernel
theorem dX9_setRange_81 : decode cX9_setRange 81 = .ok (.iconst 1, 1) := by decide +kernel
theorem dX9_setRange_82 : decode cX9_setRange 82 = .ok (.iadd, 1) := by decide +kernel
theorem dX9_setRange_83 : decode cX9_setRange 83 = .ok (.imul, 1) := by decide +kernel
theorem dX9_setRange_84 : decode cX9_setRange 84 = .ok (.ireturn, 1) := by decide +kernel
theorem dX9_intervals_0 : decode cX9_intervals 0 = .ok (.aload_n 0, 1) := by decide +kernel
theorem dX9_intervals_1 : decode cX9_intervals 1 = .ok (.getfield 41, 3) := by decide +kernel
theorem dX9_intervals_4 : decode cX9_intervals 4 = .ok (.getfield 153, 3) := by decide +kernel
theorem dX9_intervals_7 : decode cX9_intervals 7 = .ok (.ireturn, 1) := by decide +kernel
theorem dX9_interval_0 : decode cX9_interval 0 = .ok (.iload_n 1, 1) := by decide +kernel
theorem dX9_interval_1 : decode cX9_interval 1 = .ok (.ifCond .lt 14, 3) := by decide +kernel
theorem dX9_interval_4 : decode cX9_interval 4 = .ok (.iload_n 1, 1) := by decide +kernel
theorem dX9_interval_5 : decode cX9_interval 5 = .ok (.aload_n 0, 1) := by decide +kernel
theorem dX9_interval_6 : decode cX9_interval 6 = .ok (.getfield 41, 3) := by decide +kernel
theorem dX9_interval_9 : decode cX9_interval 9 = .ok (.getfield 153, 3) := by decide +kernel
theorem dX9_interval_12 : decode cX9_interval 12 = .ok (.if_icmp .lt 5, 3) := by decide +kernel
theorem dX9_interval_15 : decode cX9_interval 15 = .ok (.iconst (-1), 1) := by decide +kernel
theorem dX9_interval_16 : decode cX9_interval 16 = .ok (.ireturn, 1) := by decide +kernel
theorem dX9_interval_17 : decode cX9_interval 17 = .ok (.iload_n 2, 1) := by decide +kernel
theorem dX9_interval_18 : decode cX9_interval 18 = .ok (.ifCond .eq 15, 3) := by decide +kernel
theorem dX9_interval_21 : decode cX9_interval 21 = .ok (.aload_n 0, 1) := by decide +kernel
theorem dX9_interval_22 : decode cX9_interval 22 = .ok (.getfield 41, 3) := by decide +kernel
theorem dX9_interval_25 : decode cX9_interval 25 = .ok (.getfield 154, 3) := by decide +kernel
theorem dX9_interval_28 : decode cX9_interval 28 = .ok (.iload_n 1, 1) := by decide +kernel
theorem dX9_interval_29 : decode cX9_interval 29 = .ok (.iaload, 1) := by decide +kernel
theorem dX9_interval_30 : decode cX9_interval 30 = .ok (.goto 12, 3) := by decide +kernel
theorem dX9_interval_33 : decode cX9_interval 33 = .ok (.aload_n 0, 1) := by decide +kernel
theorem dX9_interval_34 : decode cX9_interval 34 = .ok (.getfield 41, 3) := by decide +kernel
theorem dX9_interval_37 : decode cX9_interval 37 = .ok (.getfield 158, 3) := by decide +kernel
theorem dX9_interval_40 : decode cX9_interval 40 = .ok (.iload_n 1, 1) := by decide +kernel
theorem dX9_interval_41 : decode cX9_interval 41 = .ok (.iaload, 1) := by decide +kernel
theorem dX9_interval_42 : decode cX9_interval 42 = .ok (.ireturn, 1) := by decide +kernel
set_option maxRecDepth 20000 in
theorem ggX9_extra_X0_cellsOfJoinedGaps : GoodIn wsX9_extra wsX0_cellsOfJoinedGaps := goodIn_r _ [6, 7, 8, 9, 10, 5, 11, 12, 13, 14, 15, 16, 17, 18, 19, 20, 21, 22, 23, 24, 25, 26, 27, 28, 29, 37, 38, 39] (by decide +kernel) (by decide +kernel)
set_option maxRecDepth 20000 in
theorem gX9_extra_X0_cellsOfJoinedGaps : GoodIn wsX9_extra (wsV RX9 161 RX0 yX0_cellsOfJoinedGaps wsX0_cellsOfJoinedGaps) := goodIn_app (goodIn_of _ (by decide +kernel)) ggX9_extra_X0_cellsOfJoinedGaps
theorem dX9_extra_0 : decode cX9_extra 0 = .ok (.iload_n 1, 1) := by decide +kernel
theorem dX9_extra_1 : decode cX9_extra 1 = .ok (.iconst 1, 1) := by decide +kernel
theorem dX9_extra_2 : decode cX9_extra 2 = .ok (.if_icmp .ge 8, 3) := by decide +kernel
theorem dX9_extra_5 : decode cX9_extra 5 = .ok (.bipush (-2), 2) := by decide +kernel
theorem dX9_extra_7 : decode cX9_extra 7 = .ok (.goto 11, 3) := by decide +kernel
theorem dX9_extra_10 : decode cX9_extra 10 = .ok (.aload_n 0, 1) := by decide +kernel
theorem dX9_extra_11 : decode cX9_extra 11 = .ok (.getfield 41, 3) := by decide +kernel
theorem dX9_extra_14 : decode cX9_extra 14 = .ok (.iload_n 1, 1) := by decide +kernel
theorem dX9_extra_15 : decode cX9_extra 15 = .ok (.invokevirtual 161, 3) := by decide +kernel
theorem dX9_extra_18 : decode cX9_extra 18 = .ok (.ireturn, 1) := by decide +kernel
set_option maxRecDepth 20000 in
theorem ggX9_covering_X0_endOfJoined : GoodIn wsX9_covering wsX0_endOfJoined := goodIn_r _ [11, 12, 13, 14, 15, 16, 17, 10, 18, 19, 20, 5, 21, 22, 23, 24, 25, 26, 27, 28, 29, 30, 31, 32, 33, 41, 42, 43] (by decide +kernel) (by decide +kernel)
set_option maxRecDepth 20000 in
theorem gX9_covering_X0_endOfJoined : GoodIn wsX9_covering (wsV RX9 169 RX0 yX0_endOfJoined wsX0_endOfJoined) := goodIn_app (goodIn_of _ (by decide +kernel)) ggX9_covering_X0_endOfJoined
theorem dX9_covering_0 : decode cX9_covering 0 = .ok (.iload_n 1, 1) := by decide +kernel
theorem dX9_covering_1 : decode cX9_covering 1 = .ok (.iconst 1, 1) := by decide +kernel
theorem dX9_covering_2 : decode cX9_covering 2 = .ok (.if_icmp .ge 6, 3) := by decide +kernel
theorem dX9_covering_5 : decode cX9_covering 5 = .ok (.bipush (-2), 2) := by decide +kernel
theorem dX9_covering_7 : decode cX9_covering 7 = .ok (.ireturn, 1) := by decide +kernel
theorem dX9_covering_8 : decode cX9_covering 8 = .ok (.iload_n 2, 1) := by decide +kernel
theorem dX9_covering_9 : decode cX9_covering 9 = .ok (.ifCond .lt 18, 3) := by decide +kernel
theorem dX9_covering_12 : decode cX9_covering 12 = .ok (.iload_n 2, 1) := by decide +kernel
theorem dX9_covering_13 : decode cX9_covering 13 = .ok (.iload_n 1, 1) := by decide +kernel
theorem dX9_covering_14 : decode cX9_covering 14 = .ok (.aload_n 0, 1) := by decide +kernel
theorem dX9_covering_15 : decode cX9_covering 15 = .ok (.getfield 41, 3) := by decide +kernel
theorem dX9_covering_18 : decode cX9_covering 18 = .ok (.getfield 153, 3) := by decide +kernel
theorem dX9_covering_21 : decode cX9_covering 21 = .ok (.invokestatic 164, 3) := by decide +kernel
theorem dX9_covering_24 : decode cX9_covering 24 = .ok (.if_icmp .lt 5, 3) := by decide +kernel
theorem dX9_covering_27 : decode cX9_covering 27 = .ok (.iconst (-1), 1) := by decide +kernel
theorem dX9_covering_28 : decode cX9_covering 28 = .ok (.ireturn, 1) := by decide +kernel
theorem dX9_covering_29 : decode cX9_covering 29 = .ok (.aload_n 0, 1) := by decide +kernel
theorem dX9_covering_30 : decode cX9_covering 30 = .ok (.getfield 41, 3) := by decide +kernel
theorem dX9_covering_33 : decode cX9_covering 33 = .ok (.iload_n 1, 1) := by decide +kernel
theorem dX9_covering_34 : decode cX9_covering 34 = .ok (.iload_n 2, 1) := by decide +kernel
theorem dX9_covering_35 : decode cX9_covering 35 = .ok (.iload_n 3, 1) := by decide +kernel
theorem dX9_covering_36 : decode cX9_covering 36 = .ok (.invokevirtual 169, 3) := by decide +kernel
theorem dX9_covering_39 : decode cX9_covering 39 = .ok (.ireturn, 1) := by decide +kernel
set_option maxRecDepth 20000 in
theorem ggX9_clusters_X2_countIntervalsOfAll : GoodIn wsX9_clusters wsX2_countIntervalsOfAll := goodIn_r _ [7, 8, 9, 10, 11, 6, 12, 13, 14, 15, 16, 17, 18, 19, 20, 21, 22, 23, 24, 25, 26, 27, 28, 29, 30, 31, 32, 33, 41, 42, 43, 44] (by decide +kernel) (by decide +kernel)
set_option maxRecDepth 20000 in
theorem gX9_clusters_X2_countIntervalsOfAll : GoodIn wsX9_clusters (wsV RX9 176 RX2 yX2_countIntervalsOfAll wsX2_countIntervalsOfAll) := goodIn_app (goodIn_of _ (by decide +kernel)) ggX9_clusters_X2_countIntervalsOfAll
theorem dX9_clusters_0 : decode cX9_clusters 0 = .ok (.iload_n 1, 1) := by decide +kernel
theorem dX9_clusters_1 : decode cX9_clusters 1 = .ok (.iconst 1, 1) := by decide +kernel
theorem dX9_clusters_2 : decode cX9_clusters 2 = .ok (.if_icmp .lt 30, 3) := by decide +kernel
theorem dX9_clusters_5 : decode cX9_clusters 5 = .ok (.iload_n 1, 1) := by decide +kernel
theorem dX9_clusters_6 : decode cX9_clusters 6 = .ok (.aload_n 0, 1) := by decide +kernel
theorem dX9_clusters_7 : decode cX9_clusters 7 = .ok (.getfield 34, 3) := by decide +kernel
theorem dX9_clusters_10 : decode cX9_clusters 10 = .ok (.getfield 173, 3) := by decide +kernel
theorem dX9_clusters_13 : decode cX9_clusters 13 = .ok (.if_icmp .gt 19, 3) := by decide +kernel
theorem dX9_clusters_16 : decode cX9_clusters 16 = .ok (.iload_n 2, 1) := by decide +kernel
theorem dX9_clusters_17 : decode cX9_clusters 17 = .ok (.iconst 1, 1) := by decide +kernel
theorem dX9_clusters_18 : decode cX9_clusters 18 = .ok (.if_icmp .lt 14, 3) := by decide +kernel
theorem dX9_clusters_21 : decode cX9_clusters 21 = .ok (.iload_n 2, 1) := by decide +kernel
theorem dX9_clusters_22 : decode cX9_clusters 22 = .ok (.aload_n 0, 1) := by decide +kernel
theorem dX9_clusters_23 : decode cX9_clusters 23 = .ok (.getfield 34, 3) := by decide +kernel
theorem dX9_clusters_26 : decode cX9_clusters 26 = .ok (.getfield 173, 3) := by decide +kernel
theorem dX9_clusters_29 : decode cX9_clusters 29 = .ok (.if_icmp .le 6, 3) := by decide +kernel
theorem dX9_clusters_32 : decode cX9_clusters 32 = .ok (.bipush (-2), 2) := by decide +kernel
theorem dX9_clusters_34 : decode cX9_clusters 34 = .ok (.ireturn, 1) := by decide +kernel
theorem dX9_clusters_35 : decode cX9_clusters 35 = .ok (.aload_n 0, 1) := by decide +kernel
theorem dX9_clusters_36 : decode cX9_clusters 36 = .ok (.getfield 34, 3) := by decide +kernel
theorem dX9_clusters_39 : decode cX9_clusters 39 = .ok (.iload_n 1, 1) := by decide +kernel
theorem dX9_clusters_40 : decode cX9_clusters 40 = .ok (.iload_n 2, 1) := by decide +kernel
theorem dX9_clusters_41 : decode cX9_clusters 41 = .ok (.invokevirtual 176, 3) := by decide +kernel
theorem dX9_clusters_44 : decode cX9_clusters 44 = .ok (.ireturn, 1) := by decide +kernel
set_option maxRecDepth 20000 in
theorem ggX9_addPoint_X2_holds : GoodIn wsX9_addPoint wsX2_holds := goodIn_r _ [9, 10, 74, 75, 76, 77] (by decide +kernel) (by decide +kernel)
set_option maxRecDepth 20000 in
theorem gX9_addPoint_X2_holds : GoodIn wsX9_addPoint (wsV RX9 98 RX2 yX2_holds wsX2_holds) := goodIn_app (goodIn_of _ (by decide +kernel)) ggX9_addPoint_X2_holds
set_option maxRecDepth 20000 in
theorem ggX9_addPoint_X3_find : GoodIn wsX9_addPoint wsX3_find := goodIn_r _ [15, 16, 17, 72, 73] (by decide +kernel) (by decide +kernel)
set_option maxRecDepth 20000 in
theorem gX9_addPoint_X3_find : GoodIn wsX9_addPoint (wsV RX9 179 RX3 yX3_find wsX3_find) := goodIn_app (goodIn_of _ (by decide +kernel)) ggX9_addPoint_X3_find
set_option maxRecDepth 20000 in
theorem ggX9_addPoint_X3_add : GoodIn wsX9_addPoint wsX3_add := goodIn_r _ [21, 16, 17, 72, 73] (by decide +kernel) (by decide +kernel)
set_option maxRecDepth 20000 in
theorem gX9_addPoint_X3_add : GoodIn wsX9_addPoint (wsV RX9 182 RX3 yX3_add wsX3_add) := goodIn_app (goodIn_of _ (by decide +kernel)) ggX9_addPoint_X3_add
set_option maxRecDepth 20000 in
theorem ggX9_addPoint_X9_redivide : GoodIn wsX9_addPoint wsX9_redivide := goodIn_r _ [26, 2, 27, 1, 3, 28, 29, 30, 31, 32, 33, 34, 35, 36, 37, 38, 39, 40, 41, 42, 43, 14, 44, 16, 45, 46, 47, 48, 17, 49, 50, 51, 8, 52, 53, 54, 55, 56, 57, 58, 59, 60, 61, 62, 63, 64, 65, 66, 67, 68, 69, 70, 71, 78, 79, 74, 75, 76, 77, 72, 73] (by decide +kernel) (by decide +kernel)
set_option maxRecDepth 20000 in
theorem gX9_addPoint_X9_redivide : GoodIn wsX9_addPoint (wsV RX9 75 RX9 yX9_redivide wsX9_redivide) := goodIn_app (goodIn_of _ (by decide +kernel)) ggX9_addPoint_X9_redivide
theorem dX9_addPoint_0 : decode cX9_addPoint 0 = .ok (.aload_n 0, 1) := by decide +kernel
theorem dX9_addPoint_1 : decode cX9_addPoint 1 = .ok (.getfield 34, 3) := by decide +kernel
theorem dX9_addPoint_4 : decode cX9_addPoint 4 = .ok (.iload_n 1, 1) := by decide +kernel
theorem dX9_addPoint_5 : decode cX9_addPoint 5 = .ok (.iload_n 2, 1) := by decide +kernel
theorem dX9_addPoint_6 : decode cX9_addPoint 6 = .ok (.invokevirtual 98, 3) := by decide +kernel
theorem dX9_addPoint_9 : decode cX9_addPoint 9 = .ok (.ifCond .ne 5, 3) := by decide +kernel
theorem dX9_addPoint_12 : decode cX9_addPoint 12 = .ok (.iconst (-1), 1) := by decide +kernel
theorem dX9_addPoint_13 : decode cX9_addPoint 13 = .ok (.ireturn, 1) := by decide +kernel
theorem dX9_addPoint_14 : decode cX9_addPoint 14 = .ok (.aload_n 0, 1) := by decide +kernel
theorem dX9_addPoint_15 : decode cX9_addPoint 15 = .ok (.getfield 10, 3) := by decide +kernel
theorem dX9_addPoint_18 : decode cX9_addPoint 18 = .ok (.getfield 78, 3) := by decide +kernel
theorem dX9_addPoint_21 : decode cX9_addPoint 21 = .ok (.iload_n 1, 1) := by decide +kernel
theorem dX9_addPoint_22 : decode cX9_addPoint 22 = .ok (.iload_n 2, 1) := by decide +kernel
theorem dX9_addPoint_23 : decode cX9_addPoint 23 = .ok (.invokevirtual 179, 3) := by decide +kernel
theorem dX9_addPoint_26 : decode cX9_addPoint 26 = .ok (.iconst (-1), 1) := by decide +kernel
theorem dX9_addPoint_27 : decode cX9_addPoint 27 = .ok (.if_icmp .eq 6, 3) := by decide +kernel
theorem dX9_addPoint_30 : decode cX9_addPoint 30 = .ok (.bipush (-3), 2) := by decide +kernel
theorem dX9_addPoint_32 : decode cX9_addPoint 32 = .ok (.ireturn, 1) := by decide +kernel
theorem dX9_addPoint_33 : decode cX9_addPoint 33 = .ok (.aload_n 0, 1) := by decide +kernel
theorem dX9_addPoint_34 : decode cX9_addPoint 34 = .ok (.getfield 10, 3) := by decide +kernel
theorem dX9_addPoint_37 : decode cX9_addPoint 37 = .ok (.getfield 78, 3) := by decide +kernel
theorem dX9_addPoint_40 : decode cX9_addPoint 40 = .ok (.iload_n 1, 1) := by decide +kernel
theorem dX9_addPoint_41 : decode cX9_addPoint 41 = .ok (.iload_n 2, 1) := by decide +kernel
theorem dX9_addPoint_42 : decode cX9_addPoint 42 = .ok (.invokevirtual 182, 3) := by decide +kernel
theorem dX9_addPoint_45 : decode cX9_addPoint 45 = .ok (.ifCond .ne 6, 3) := by decide +kernel
theorem dX9_addPoint_48 : decode cX9_addPoint 48 = .ok (.bipush (-4), 2) := by decide +kernel
theorem dX9_addPoint_50 : decode cX9_addPoint 50 = .ok (.ireturn, 1) := by decide +kernel
theorem dX9_addPoint_51 : decode cX9_addPoint 51 = .ok (.aload_n 0, 1) := by decide +kernel
theorem dX9_addPoint_52 : decode cX9_addPoint 52 = .ok (.invokevirtual 75, 3) := by decide +kernel
theorem dX9_addPoint_55 : decode cX9_addPoint 55 = .ok (.aload_n 0, 1) := by decide +kernel
theorem dX9_addPoint_56 : decode cX9_addPoint 56 = .ok (.getfield 10, 3) := by decide +kernel
theorem dX9_addPoint_59 : decode cX9_addPoint 59 = .ok (.getfield 78, 3) := by decide +kernel
theorem dX9_addPoint_62 : decode cX9_addPoint 62 = .ok (.getfield 184, 3) := by decide +kernel
theorem dX9_addPoint_65 : decode cX9_addPoint 65 = .ok (.ireturn, 1) := by decide +kernel
set_option maxRecDepth 20000 in
theorem ggX9_removePoint_X2_holds : GoodIn wsX9_removePoint wsX2_holds := goodIn_r _ [9, 10, 74, 75, 76, 77] (by decide +kernel) (by decide +kernel)
set_option maxRecDepth 20000 in
theorem gX9_removePoint_X2_holds : GoodIn wsX9_removePoint (wsV RX9 98 RX2 yX2_holds wsX2_holds) := goodIn_app (goodIn_of _ (by decide +kernel)) ggX9_removePoint_X2_holds
set_option maxRecDepth 20000 in
theorem ggX9_removePoint_X3_remove : GoodIn wsX9_removePoint wsX3_remove := goodIn_r _ [15, 16, 17, 18, 19, 20, 14, 21, 72, 73] (by decide +kernel) (by decide +kernel)
set_option maxRecDepth 20000 in
theorem gX9_removePoint_X3_remove : GoodIn wsX9_removePoint (wsV RX9 185 RX3 yX3_remove wsX3_remove) := goodIn_app (goodIn_of _ (by decide +kernel)) ggX9_removePoint_X3_remove
set_option maxRecDepth 20000 in
theorem ggX9_removePoint_X9_redivide : GoodIn wsX9_removePoint wsX9_redivide := goodIn_r _ [26, 2, 27, 1, 3, 28, 29, 30, 31, 32, 33, 34, 35, 36, 37, 38, 39, 40, 41, 42, 43, 14, 44, 16, 45, 46, 47, 48, 17, 49, 50, 51, 8, 52, 53, 54, 55, 56, 57, 58, 59, 60, 61, 62, 63, 64, 65, 66, 67, 68, 69, 70, 71, 78, 79, 74, 75, 76, 77, 72, 73] (by decide +kernel) (by decide +kernel)
set_option maxRecDepth 20000 in
theorem gX9_removePoint_X9_redivide : GoodIn wsX9_removePoint (wsV RX9 75 RX9 yX9_redivide wsX9_redivide) := goodIn_app (goodIn_of _ (by decide +kernel)) ggX9_removePoint_X9_redivide
theorem dX9_removePoint_0 : decode cX9_removePoint 0 = .ok (.aload_n 0, 1) := by decide +kernel
theorem dX9_removePoint_1 : decode cX9_removePoint 1 = .ok (.getfield 34, 3) := by decide +kernel
theorem dX9_removePoint_4 : decode cX9_removePoint 4 = .ok (.iload_n 1, 1) := by decide +kernel
theorem dX9_removePoint_5 : decode cX9_removePoint 5 = .ok (.iload_n 2, 1) := by decide +kernel
theorem dX9_removePoint_6 : decode cX9_removePoint 6 = .ok (.invokevirtual 98, 3) := by decide +kernel
theorem dX9_removePoint_9 : decode cX9_removePoint 9 = .ok (.ifCond .ne 5, 3) := by decide +kernel
theorem dX9_removePoint_12 : decode cX9_removePoint 12 = .ok (.iconst (-1), 1) := by decide +kernel
theorem dX9_removePoint_13 : decode cX9_removePoint 13 = .ok (.ireturn, 1) := by decide +kernel
theorem dX9_removePoint_14 : decode cX9_removePoint 14 = .ok (.aload_n 0, 1) := by decide +kernel
theorem dX9_removePoint_15 : decode cX9_removePoint 15 = .ok (.getfield 10, 3) := by decide +kernel
theorem dX9_removePoint_18 : decode cX9_removePoint 18 = .ok (.getfield 78, 3) := by decide +kernel
theorem dX9_removePoint_21 : decode cX9_removePoint 21 = .ok (.iload_n 1, 1) := by decide +kernel
theorem dX9_removePoint_22 : decode cX9_removePoint 22 = .ok (.iload_n 2, 1) := by decide +kernel
theorem dX9_removePoint_23 : decode cX9_removePoint 23 = .ok (.invokevirtual 185, 3) := by decide +kernel
theorem dX9_removePoint_26 : decode cX9_removePoint 26 = .ok (.ifCond .ne 6, 3) := by decide +kernel
theorem dX9_removePoint_29 : decode cX9_removePoint 29 = .ok (.bipush (-3), 2) := by decide +kernel
theorem dX9_removePoint_31 : decode cX9_removePoint 31 = .ok (.ireturn, 1) := by decide +kernel
theorem dX9_removePoint_32 : decode cX9_removePoint 32 = .ok (.aload_n 0, 1) := by decide +kernel
theorem dX9_removePoint_33 : decode cX9_removePoint 33 = .ok (.invokevirtual 75, 3) := by decide +kernel
theorem dX9_removePoint_36 : decode cX9_removePoint 36 = .ok (.aload_n 0, 1) := by decide +kernel
theorem dX9_removePoint_37 : decode cX9_removePoint 37 = .ok (.getfield 10, 3) := by decide +kernel
theorem dX9_removePoint_40 : decode cX9_removePoint 40 = .ok (.getfield 78, 3) := by decide +kernel
theorem dX9_removePoint_43 : decode cX9_removePoint 43 = .ok (.getfield 184, 3) := by decide +kernel
theorem dX9_removePoint_46 : decode cX9_removePoint 46 = .ok (.ireturn, 1) := by decide +kernel
theorem dX9_points_0 : decode cX9_points 0 = .ok (.aload_n 0, 1) := by decide +kernel
theorem dX9_points_1 : decode cX9_points 1 = .ok (.getfield 10, 3) := by decide +kernel
theorem dX9_points_4 : decode cX9_points 4 = .ok (.getfield 78, 3) := by decide +kernel
theorem dX9_points_7 : decode cX9_points 7 = .ok (.getfield 184, 3) := by decide +kernel
theorem dX9_points_10 : decode cX9_points 10 = .ok (.ireturn, 1) := by decide +kernel
set_option maxRecDepth 20000 in
theorem ggX9_nearest_X2_holds : GoodIn wsX9_nearest wsX2_holds := goodIn_r _ [8, 9, 45, 46, 47, 48] (by decide +kernel) (by decide +kernel)
set_option maxRecDepth 20000 in
theorem gX9_nearest_X2_holds : GoodIn wsX9_nearest (wsV RX9 98 RX2 yX2_holds wsX2_holds) := goodIn_app (goodIn_of _ (by decide +kernel)) ggX9_nearest_X2_holds
set_option maxRecDepth 20000 in
theorem ggX9_nearest_X2_indexOf : GoodIn wsX9_nearest wsX2_indexOf := goodIn_r _ [13, 14, 45, 46, 47, 48] (by decide +kernel) (by decide +kernel)
set_option maxRecDepth 20000 in
theorem gX9_nearest_X2_indexOf : GoodIn wsX9_nearest (wsV RX9 102 RX2 yX2_indexOf wsX2_indexOf) := goodIn_app (goodIn_of _ (by decide +kernel)) ggX9_nearest_X2_indexOf
set_option maxRecDepth 20000 in
theorem ggX9_nearest_X3_findNearest : GoodIn wsX9_nearest wsX3_findNearest := goodIn_r _ [19, 20, 21, 22, 23, 24, 25, 26, 27, 18, 28, 29, 30, 11, 12, 7, 13, 14, 49, 50, 45, 46, 47, 48] (by decide +kernel) (by decide +kernel)
set_option maxRecDepth 20000 in
theorem gX9_nearest_X3_findNearest : GoodIn wsX9_nearest (wsV RX9 188 RX3 yX3_findNearest wsX3_findNearest) := goodIn_app (goodIn_of _ (by decide +kernel)) ggX9_nearest_X3_findNearest
theorem dX9_nearest_0 : decode cX9_nearest 0 = .ok (.aload_n 0, 1) := by decide +kernel
theorem dX9_nearest_1 : decode cX9_nearest 1 = .ok (.getfield 34, 3) := by decide +kernel
theorem dX9_nearest_4 : decode cX9_nearest 4 = .ok (.iload_n 1, 1) := by decide +kernel
theorem dX9_nearest_5 : decode cX9_nearest 5 = .ok (.iload_n 2, 1) := by decide +kernel
theorem dX9_nearest_6 : decode cX9_nearest 6 = .ok (.invokevirtual 98, 3) := by decide +kernel
theorem dX9_nearest_9 : decode cX9_nearest 9 = .ok (.ifCond .ne 5, 3) := by decide +kernel
theorem dX9_nearest_12 : decode cX9_nearest 12 = .ok (.iconst (-1), 1) := by decide +kernel
theorem dX9_nearest_13 : decode cX9_nearest 13 = .ok (.ireturn, 1) := by decide +kernel
theorem dX9_nearest_14 : decode cX9_nearest 14 = .ok (.aload_n 0, 1) := by decide +kernel
theorem dX9_nearest_15 : decode cX9_nearest 15 = .ok (.getfield 10, 3) := by decide +kernel
theorem dX9_nearest_18 : decode cX9_nearest 18 = .ok (.getfield 78, 3) := by decide +kernel
theorem dX9_nearest_21 : decode cX9_nearest 21 = .ok (.aload_n 0, 1) := by decide +kernel
theorem dX9_nearest_22 : decode cX9_nearest 22 = .ok (.getfield 34, 3) := by decide +kernel
theorem dX9_nearest_25 : decode cX9_nearest 25 = .ok (.aload_n 0, 1) := by decide +kernel
theorem dX9_nearest_26 : decode cX9_nearest 26 = .ok (.getfield 34, 3) := by decide +kernel
theorem dX9_nearest_29 : decode cX9_nearest 29 = .ok (.iload_n 1, 1) := by decide +kernel
theorem dX9_nearest_30 : decode cX9_nearest 30 = .ok (.iload_n 2, 1) := by decide +kernel
theorem dX9_nearest_31 : decode cX9_nearest 31 = .ok (.invokevirtual 102, 3) := by decide +kernel
theorem dX9_nearest_34 : decode cX9_nearest 34 = .ok (.invokevirtual 188, 3) := by decide +kernel
theorem dX9_nearest_37 : decode cX9_nearest 37 = .ok (.istore_n 3, 1) := by decide +kernel
theorem dX9_nearest_38 : decode cX9_nearest 38 = .ok (.iload_n 3, 1) := by decide +kernel
theorem dX9_nearest_39 : decode cX9_nearest 39 = .ok (.iconst (-1), 1) := by decide +kernel
theorem dX9_nearest_40 : decode cX9_nearest 40 = .ok (.if_icmp .ne 8, 3) := by decide +kernel
theorem dX9_nearest_43 : decode cX9_nearest 43 = .ok (.bipush (-5), 2) := by decide +kernel
theorem dX9_nearest_45 : decode cX9_nearest 45 = .ok (.goto 4, 3) := by decide +kernel
theorem dX9_nearest_48 : decode cX9_nearest 48 = .ok (.iload_n 3, 1) := by decide +kernel
theorem dX9_nearest_49 : decode cX9_nearest 49 = .ok (.ireturn, 1) := by decide +kernel
set_option maxRecDepth 20000 in
theorem ggX9_setBucket_X9_redivide : GoodIn wsX9_setBucket wsX9_redivide := goodIn_r _ [7, 1, 8, 9, 10, 2, 11, 12, 13, 14, 15, 16, 17, 18, 19, 20, 21, 22, 23, 24, 25, 26, 27, 28, 29, 30, 31, 32, 33, 34, 35, 36, 37, 38, 39, 40, 41, 42, 43, 44, 45, 46, 47, 48, 49, 50, 51, 52, 53, 54, 55, 56, 57, 58, 59, 60, 61, 62, 63, 64, 65] (by decide +kernel) (by decide +kernel)
set_option maxRecDepth 20000 in
theorem gX9_setBucket_X9_redivide : GoodIn wsX9_setBucket (wsV RX9 75 RX9 yX9_redivide wsX9_redivide) := goodIn_app (goodIn_of _ (by decide +kernel)) ggX9_setBucket_X9_redivide
theorem dX9_setBucket_0 : decode cX9_setBucket 0 = .ok (.iload_n 1, 1) := by decide +kernel
theorem dX9_setBucket_1 : decode cX9_setBucket 1 = .ok (.iconst 1, 1) := by decide +kernel
theorem dX9_setBucket_2 : decode cX9_setBucket 2 = .ok (.if_icmp .lt 9, 3) := by decide +kernel
theorem dX9_setBucket_5 : decode cX9_setBucket 5 = .ok (.iload_n 1, 1) := by decide +kernel
theorem dX9_setBucket_6 : decode cX9_setBucket 6 = .ok (.bipush 8, 2) := by decide +kernel
theorem dX9_setBucket_8 : decode cX9_setBucket 8 = .ok (.if_icmp .le 6, 3) := by decide +kernel
theorem dX9_setBucket_11 : decode cX9_setBucket 11 = .ok (.bipush (-2), 2) := by decide +kernel
theorem dX9_setBucket_13 : decode cX9_setBucket 13 = .ok (.ireturn, 1) := by decide +kernel
theorem dX9_setBucket_14 : decode cX9_setBucket 14 = .ok (.aload_n 0, 1) := by decide +kernel
theorem dX9_setBucket_15 : decode cX9_setBucket 15 = .ok (.getfield 10, 3) := by decide +kernel
theorem dX9_setBucket_18 : decode cX9_setBucket 18 = .ok (.getfield 192, 3) := by decide +kernel
theorem dX9_setBucket_21 : decode cX9_setBucket 21 = .ok (.istore_n 2, 1) := by decide +kernel
theorem dX9_setBucket_22 : decode cX9_setBucket 22 = .ok (.aload_n 0, 1) := by decide +kernel
theorem dX9_setBucket_23 : decode cX9_setBucket 23 = .ok (.getfield 10, 3) := by decide +kernel
theorem dX9_setBucket_26 : decode cX9_setBucket 26 = .ok (.iload_n 1, 1) := by decide +kernel
theorem dX9_setBucket_27 : decode cX9_setBucket 27 = .ok (.putfield 192, 3) := by decide +kernel
theorem dX9_setBucket_30 : decode cX9_setBucket 30 = .ok (.aload_n 0, 1) := by decide +kernel
theorem dX9_setBucket_31 : decode cX9_setBucket 31 = .ok (.invokevirtual 75, 3) := by decide +kernel
theorem dX9_setBucket_34 : decode cX9_setBucket 34 = .ok (.iload_n 2, 1) := by decide +kernel
theorem dX9_setBucket_35 : decode cX9_setBucket 35 = .ok (.ireturn, 1) := by decide +kernel
theorem dX9_leaves_0 : decode cX9_leaves 0 = .ok (.aload_n 0, 1) := by decide +kernel
theorem dX9_leaves_1 : decode cX9_leaves 1 = .ok (.getfield 10, 3) := by decide +kernel
theorem dX9_leaves_4 : decode cX9_leaves 4 = .ok (.getfield 47, 3) := by decide +kernel
theorem dX9_leaves_7 : decode cX9_leaves 7 = .ok (.getfield 195, 3) := by decide +kernel
theorem dX9_leaves_10 : decode cX9_leaves 10 = .ok (.ireturn, 1) := by decide +kernel
set_option maxRecDepth 20000 in
theorem ggX9_leaf_X9_isLeaf : GoodIn wsX9_leaf wsX9_isLeaf := goodIn_r _ [11, 2, 3, 12, 62, 63, 64, 65, 66, 67, 68, 69, 70, 71, 72, 73, 74, 75, 76, 77] (by decide +kernel) (by decide +kernel)
set_option maxRecDepth 20000 in
theorem gX9_leaf_X9_isLeaf : GoodIn wsX9_leaf (wsV RX9 198 RX9 yX9_isLeaf wsX9_isLeaf) := goodIn_app (goodIn_of _ (by decide +kernel)) ggX9_leaf_X9_isLeaf
set_option maxRecDepth 20000 in
theorem ggX9_leaf_X7_leftOf : GoodIn wsX9_leaf wsX7_leftOf := goodIn_r _ [17, 18, 19, 20, 21, 22, 23, 24, 25, 26, 27, 28, 29, 30, 31, 32, 78, 79, 80, 81, 76, 77, 82, 83, 84, 85] (by decide +kernel) (by decide +kernel)
set_option maxRecDepth 20000 in
theorem gX9_leaf_X7_leftOf : GoodIn wsX9_leaf (wsV RX9 201 RX7 yX7_leftOf wsX7_leftOf) := goodIn_app (goodIn_of _ (by decide +kernel)) ggX9_leaf_X7_leftOf
set_option maxRecDepth 20000 in
theorem ggX9_leaf_X7_belowOf : GoodIn wsX9_leaf wsX7_belowOf := goodIn_r _ [36, 18, 19, 20, 37, 38, 39, 24, 40, 26, 27, 28, 29, 30, 31, 32, 78, 79, 80, 81, 76, 77, 82, 83, 84, 85] (by decide +kernel) (by decide +kernel)
set_option maxRecDepth 20000 in
theorem gX9_leaf_X7_belowOf : GoodIn wsX9_leaf (wsV RX9 204 RX7 yX7_belowOf wsX7_belowOf) := goodIn_app (goodIn_of _ (by decide +kernel)) ggX9_leaf_X7_belowOf
set_option maxRecDepth 20000 in
theorem ggX9_leaf_X1_sideOf : GoodIn wsX9_leaf wsX1_sideOf := goodIn_r _ [31, 32, 76, 77] (by decide +kernel) (by decide +kernel)
set_option maxRecDepth 20000 in
theorem gX9_leaf_X1_sideOf : GoodIn wsX9_leaf (wsV RX9 207 RX1 yX1_sideOf wsX1_sideOf) := goodIn_app (goodIn_of _ (by decide +kernel)) ggX9_leaf_X1_sideOf
set_option maxRecDepth 20000 in
theorem ggX9_leaf_X1_countPoints : GoodIn wsX9_leaf wsX1_countPoints := goodIn_r _ [45, 32, 46, 47, 48, 49, 50, 51, 52, 53, 54, 55, 56, 57, 58, 59, 24, 60, 61, 76, 77, 86, 87, 82, 83, 84, 85] (by decide +kernel) (by decide +kernel)
set_option maxRecDepth 20000 in
theorem gX9_leaf_X1_countPoints : GoodIn wsX9_leaf (wsV RX9 210 RX1 yX1_countPoints wsX1_countPoints) := goodIn_app (goodIn_of _ (by decide +kernel)) ggX9_leaf_X1_countPoints
theorem dX9_leaf_0 : decode cX9_leaf 0 = .ok (.aload_n 0, 1) := by decide +kernel
theorem dX9_leaf_1 : decode cX9_leaf 1 = .ok (.iload_n 1, 1) := by decide +kernel
theorem dX9_leaf_2 : decode cX9_leaf 2 = .ok (.invokevirtual 198, 3) := by decide +kernel
theorem dX9_leaf_5 : decode cX9_leaf 5 = .ok (.ifCond .ne 5, 3) := by decide +kernel
theorem dX9_leaf_8 : decode cX9_leaf 8 = .ok (.iconst (-1), 1) := by decide +kernel
theorem dX9_leaf_9 : decode cX9_leaf 9 = .ok (.ireturn, 1) := by decide +kernel
theorem dX9_leaf_10 : decode cX9_leaf 10 = .ok (.iload_n 2, 1) := by decide +kernel
theorem dX9_leaf_11 : decode cX9_leaf 11 = .ok (.tableswitch 99 0 4 #[33, 42, 51, 63, 86], 33) := by decide +kernel
theorem dX9_leaf_44 : decode cX9_leaf 44 = .ok (.aload_n 0, 1) := by decide +kernel
theorem dX9_leaf_45 : decode cX9_leaf 45 = .ok (.getfield 54, 3) := by decide +kernel
theorem dX9_leaf_48 : decode cX9_leaf 48 = .ok (.iload_n 1, 1) := by decide +kernel
theorem dX9_leaf_49 : decode cX9_leaf 49 = .ok (.invokevirtual 201, 3) := by decide +kernel
theorem dX9_leaf_52 : decode cX9_leaf 52 = .ok (.ireturn, 1) := by decide +kernel
theorem dX9_leaf_53 : decode cX9_leaf 53 = .ok (.aload_n 0, 1) := by decide +kernel
theorem dX9_leaf_54 : decode cX9_leaf 54 = .ok (.getfield 54, 3) := by decide +kernel
theorem dX9_leaf_57 : decode cX9_leaf 57 = .ok (.iload_n 1, 1) := by decide +kernel
theorem dX9_leaf_58 : decode cX9_leaf 58 = .ok (.invokevirtual 204, 3) := by decide +kernel
theorem dX9_leaf_61 : decode cX9_leaf 61 = .ok (.ireturn, 1) := by decide +kernel
theorem dX9_leaf_62 : decode cX9_leaf 62 = .ok (.aload_n 0, 1) := by decide +kernel
theorem dX9_leaf_63 : decode cX9_leaf 63 = .ok (.getfield 10, 3) := by decide +kernel
theorem dX9_leaf_66 : decode cX9_leaf 66 = .ok (.getfield 47, 3) := by decide +kernel
theorem dX9_leaf_69 : decode cX9_leaf 69 = .ok (.iload_n 1, 1) := by decide +kernel
theorem dX9_leaf_70 : decode cX9_leaf 70 = .ok (.invokevirtual 207, 3) := by decide +kernel
theorem dX9_leaf_73 : decode cX9_leaf 73 = .ok (.ireturn, 1) := by decide +kernel
theorem dX9_leaf_74 : decode cX9_leaf 74 = .ok (.aload_n 0, 1) := by decide +kernel
theorem dX9_leaf_75 : decode cX9_leaf 75 = .ok (.getfield 10, 3) := by decide +kernel
theorem dX9_leaf_78 : decode cX9_leaf 78 = .ok (.getfield 47, 3) := by decide +kernel
theorem dX9_leaf_81 : decode cX9_leaf 81 = .ok (.iload_n 1, 1) := by decide +kernel
theorem dX9_leaf_82 : decode cX9_leaf 82 = .ok (.aload_n 0, 1) := by decide +kernel
theorem dX9_leaf_83 : decode cX9_leaf 83 = .ok (.getfield 34, 3) := by decide +kernel
theorem dX9_leaf_86 : decode cX9_leaf 86 = .ok (.aload_n 0, 1) := by decide +kernel
theorem dX9_leaf_87 : decode cX9_leaf 87 = .ok (.getfield 10, 3) := by decide +kernel
theorem dX9_leaf_90 : decode cX9_leaf 90 = .ok (.getfield 78, 3) := by decide +kernel
theorem dX9_leaf_93 : decode cX9_leaf 93 = .ok (.invokevirtual 210, 3) := by decide +kernel
theorem dX9_leaf_96 : decode cX9_leaf 96 = .ok (.ireturn, 1) := by decide +kernel
theorem dX9_leaf_97 : decode cX9_leaf 97 = .ok (.aload_n 0, 1) := by decide +kernel
theorem dX9_leaf_98 : decode cX9_leaf 98 = .ok (.getfield 10, 3) := by decide +kernel
theorem dX9_leaf_101 : decode cX9_leaf 101 = .ok (.getfield 47, 3) := by decide +kernel
theorem dX9_leaf_104 : decode cX9_leaf 104 = .ok (.getfield 214, 3) := by decide +kernel
theorem dX9_leaf_107 : decode cX9_leaf 107 = .ok (.iload_n 1, 1) := by decide +kernel
theorem dX9_leaf_108 : decode cX9_leaf 108 = .ok (.iaload, 1) := by decide +kernel
theorem dX9_leaf_109 : decode cX9_leaf 109 = .ok (.ireturn, 1) := by decide +kernel
theorem dX9_leaf_110 : decode cX9_leaf 110 = .ok (.bipush (-2), 2) := by decide +kernel
theorem dX9_leaf_112 : decode cX9_leaf 112 = .ok (.ireturn, 1) := by decide +kernel
set_option maxRecDepth 20000 in
theorem ggX9_leafAt_X2_holds : GoodIn wsX9_leafAt wsX2_holds := goodIn_r _ [8, 9, 36, 37, 38, 39] (by decide +kernel) (by decide +kernel)
set_option maxRecDepth 20000 in
theorem gX9_leafAt_X2_holds : GoodIn wsX9_leafAt (wsV RX9 98 RX2 yX2_holds wsX2_holds) := goodIn_app (goodIn_of _ (by decide +kernel)) ggX9_leafAt_X2_holds
set_option maxRecDepth 20000 in
theorem ggX9_leafAt_X2_indexOf : GoodIn wsX9_leafAt wsX2_indexOf := goodIn_r _ [13, 14, 36, 37, 38, 39] (by decide +kernel) (by decide +kernel)
set_option maxRecDepth 20000 in
theorem gX9_leafAt_X2_indexOf : GoodIn wsX9_leafAt (wsV RX9 102 RX2 yX2_indexOf wsX2_indexOf) := goodIn_app (goodIn_of _ (by decide +kernel)) ggX9_leafAt_X2_indexOf
set_option maxRecDepth 20000 in
theorem ggX9_leafAt_X1_leafOfIndex : GoodIn wsX9_leafAt wsX1_leafOfIndex := goodIn_r _ [19, 20, 21, 40, 41] (by decide +kernel) (by decide +kernel)
set_option maxRecDepth 20000 in
theorem gX9_leafAt_X1_leafOfIndex : GoodIn wsX9_leafAt (wsV RX9 217 RX1 yX1_leafOfIndex wsX1_leafOfIndex) := goodIn_app (goodIn_of _ (by decide +kernel)) ggX9_leafAt_X1_leafOfIndex
theorem dX9_leafAt_0 : decode cX9_leafAt 0 = .ok (.aload_n 0, 1) := by decide +kernel
theorem dX9_leafAt_1 : decode cX9_leafAt 1 = .ok (.getfield 34, 3) := by decide +kernel
theorem dX9_leafAt_4 : decode cX9_leafAt 4 = .ok (.iload_n 1, 1) := by decide +kernel
theorem dX9_leafAt_5 : decode cX9_leafAt 5 = .ok (.iload_n 2, 1) := by decide +kernel
theorem dX9_leafAt_6 : decode cX9_leafAt 6 = .ok (.invokevirtual 98, 3) := by decide +kernel
theorem dX9_leafAt_9 : decode cX9_leafAt 9 = .ok (.ifCond .eq 25, 3) := by decide +kernel
theorem dX9_leafAt_12 : decode cX9_leafAt 12 = .ok (.aload_n 0, 1) := by decide +kernel
theorem dX9_leafAt_13 : decode cX9_leafAt 13 = .ok (.getfield 10, 3) := by decide +kernel
theorem dX9_leafAt_16 : decode cX9_leafAt 16 = .ok (.getfield 47, 3) := by decide +kernel
theorem dX9_leafAt_19 : decode cX9_leafAt 19 = .ok (.aload_n 0, 1) := by decide +kernel
theorem dX9_leafAt_20 : decode cX9_leafAt 20 = .ok (.getfield 34, 3) := by decide +kernel
theorem dX9_leafAt_23 : decode cX9_leafAt 23 = .ok (.iload_n 1, 1) := by decide +kernel
theorem dX9_leafAt_24 : decode cX9_leafAt 24 = .ok (.iload_n 2, 1) := by decide +kernel
theorem dX9_leafAt_25 : decode cX9_leafAt 25 = .ok (.invokevirtual 102, 3) := by decide +kernel
theorem dX9_leafAt_28 : decode cX9_leafAt 28 = .ok (.invokevirtual 217, 3) := by decide +kernel
theorem dX9_leafAt_31 : decode cX9_leafAt 31 = .ok (.goto 4, 3) := by decide +kernel
theorem dX9_leafAt_34 : decode cX9_leafAt 34 = .ok (.iconst (-1), 1) := by decide +kernel
theorem dX9_leafAt_35 : decode cX9_leafAt 35 = .ok (.ireturn, 1) := by decide +kernel
set_option maxRecDepth 20000 in
theorem ggX9_neighbours_X9_isLeaf : GoodIn wsX9_neighbours wsX9_isLeaf := goodIn_r _ [7, 8, 9, 10, 74, 75, 76, 77, 78, 79, 80, 85, 86, 87, 88, 89, 90, 91, 92, 93] (by decide +kernel) (by decide +kernel)
set_option maxRecDepth 20000 in
theorem gX9_neighbours_X9_isLeaf : GoodIn wsX9_neighbours (wsV RX9 198 RX9 yX9_isLeaf wsX9_isLeaf) := goodIn_app (goodIn_of _ (by decide +kernel)) ggX9_neighbours_X9_isLeaf
set_option maxRecDepth 20000 in
theorem ggX9_neighbours_X9_isSide : GoodIn wsX9_neighbours wsX9_isSide := goodIn_r _ [13] (by decide +kernel) (by decide +kernel)
set_option maxRecDepth 20000 in
theorem gX9_neighbours_X9_isSide : GoodIn wsX9_neighbours (va_wsS RX9 220 yX9_isSide wsX9_isSide) := goodIn_app (goodIn_of _ (by decide +kernel)) ggX9_neighbours_X9_isSide
set_option maxRecDepth 20000 in
theorem ggX9_neighbours_X7_findBeyond : GoodIn wsX9_neighbours wsX7_findBeyond := goodIn_r _ [18, 19, 20, 21, 22, 23, 24, 25, 26, 27, 28, 29, 30, 31, 32, 33, 34, 17, 35, 36, 37, 38, 39, 40, 41, 42, 43, 44, 45, 46, 47, 48, 49, 50, 51, 52, 53, 54, 55, 56, 57, 58, 59, 60, 61, 62, 63, 64, 65, 66, 67, 68, 69, 70, 71, 72, 73, 81, 82, 83, 84, 92, 93, 94, 95, 96, 97] (by decide +kernel) (by decide +kernel)
set_option maxRecDepth 20000 in
theorem gX9_neighbours_X7_findBeyond : GoodIn wsX9_neighbours (wsV RX9 223 RX7 yX7_findBeyond wsX7_findBeyond) := goodIn_app (goodIn_of _ (by decide +kernel)) ggX9_neighbours_X7_findBeyond
theorem dX9_neighbours_0 : decode cX9_neighbours 0 = .ok (.aload_n 0, 1) := by decide +kernel
theorem dX9_neighbours_1 : decode cX9_neighbours 1 = .ok (.iload_n 1, 1) := by decide +kernel
theorem dX9_neighbours_2 : decode cX9_neighbours 2 = .ok (.invokevirtual 198, 3) := by decide +kernel
theorem dX9_neighbours_5 : decode cX9_neighbours 5 = .ok (.ifCond .eq 10, 3) := by decide +kernel
theorem dX9_neighbours_8 : decode cX9_neighbours 8 = .ok (.iload_n 2, 1) := by decide +kernel
theorem dX9_neighbours_9 : decode cX9_neighbours 9 = .ok (.invokestatic 220, 3) := by decide +kernel
theorem dX9_neighbours_12 : decode cX9_neighbours 12 = .ok (.ifCond .ne 5, 3) := by decide +kernel
theorem dX9_neighbours_15 : decode cX9_neighbours 15 = .ok (.iconst (-1), 1) := by decide +kernel
theorem dX9_neighbours_16 : decode cX9_neighbours 16 = .ok (.ireturn, 1) := by decide +kernel
theorem dX9_neighbours_17 : decode cX9_neighbours 17 = .ok (.aload_n 0, 1) := by decide +kernel
theorem dX9_neighbours_18 : decode cX9_neighbours 18 = .ok (.getfield 54, 3) := by decide +kernel
theorem dX9_neighbours_21 : decode cX9_neighbours 21 = .ok (.iload_n 1, 1) := by decide +kernel
theorem dX9_neighbours_22 : decode cX9_neighbours 22 = .ok (.iload_n 2, 1) := by decide +kernel
theorem dX9_neighbours_23 : decode cX9_neighbours 23 = .ok (.invokevirtual 223, 3) := by decide +kernel
theorem dX9_neighbours_26 : decode cX9_neighbours 26 = .ok (.aload_n 0, 1) := by decide +kernel
theorem dX9_neighbours_27 : decode cX9_neighbours 27 = .ok (.getfield 54, 3) := by decide +kernel
theorem dX9_neighbours_30 : decode cX9_neighbours 30 = .ok (.getfield 227, 3) := by decide +kernel
theorem dX9_neighbours_33 : decode cX9_neighbours 33 = .ok (.ireturn, 1) := by decide +kernel
set_option maxRecDepth 20000 in
theorem ggX9_neighbour_X9_isLeaf : GoodIn wsX9_neighbour wsX9_isLeaf := goodIn_r _ [8, 9, 10, 11, 75, 76, 77, 78, 79, 80, 81, 86, 87, 88, 89, 90, 91, 92, 93, 94] (by decide +kernel) (by decide +kernel)
set_option maxRecDepth 20000 in
theorem gX9_neighbour_X9_isLeaf : GoodIn wsX9_neighbour (wsV RX9 198 RX9 yX9_isLeaf wsX9_isLeaf) := goodIn_app (goodIn_of _ (by decide +kernel)) ggX9_neighbour_X9_isLeaf
set_option maxRecDepth 20000 in
theorem ggX9_neighbour_X9_isSide : GoodIn wsX9_neighbour wsX9_isSide := goodIn_r _ [14] (by decide +kernel) (by decide +kernel)
set_option maxRecDepth 20000 in
theorem gX9_neighbour_X9_isSide : GoodIn wsX9_neighbour (va_wsS RX9 220 yX9_isSide wsX9_isSide) := goodIn_app (goodIn_of _ (by decide +kernel)) ggX9_neighbour_X9_isSide
set_option maxRecDepth 20000 in
theorem ggX9_neighbour_X7_findBeyond : GoodIn wsX9_neighbour wsX7_findBeyond := goodIn_r _ [19, 20, 21, 22, 23, 24, 25, 26, 27, 28, 29, 30, 31, 32, 33, 34, 35, 18, 36, 37, 38, 39, 40, 41, 42, 43, 44, 45, 46, 47, 48, 49, 50, 51, 52, 53, 54, 55, 56, 57, 58, 59, 60, 61, 62, 63, 64, 65, 66, 67, 68, 69, 70, 71, 72, 73, 74, 82, 83, 84, 85, 93, 94, 95, 96, 97, 98] (by decide +kernel) (by decide +kernel)
set_option maxRecDepth 20000 in
theorem gX9_neighbour_X7_findBeyond : GoodIn wsX9_neighbour (wsV RX9 223 RX7 yX7_findBeyond wsX7_findBeyond) := goodIn_app (goodIn_of _ (by decide +kernel)) ggX9_neighbour_X7_findBeyond
theorem dX9_neighbour_0 : decode cX9_neighbour 0 = .ok (.aload_n 0, 1) := by decide +kernel
theorem dX9_neighbour_1 : decode cX9_neighbour 1 = .ok (.iload_n 1, 1) := by decide +kernel
theorem dX9_neighbour_2 : decode cX9_neighbour 2 = .ok (.invokevirtual 198, 3) := by decide +kernel
theorem dX9_neighbour_5 : decode cX9_neighbour 5 = .ok (.ifCond .eq 14, 3) := by decide +kernel
theorem dX9_neighbour_8 : decode cX9_neighbour 8 = .ok (.iload_n 2, 1) := by decide +kernel
theorem dX9_neighbour_9 : decode cX9_neighbour 9 = .ok (.invokestatic 220, 3) := by decide +kernel
theorem dX9_neighbour_12 : decode cX9_neighbour 12 = .ok (.ifCond .eq 7, 3) := by decide +kernel
theorem dX9_neighbour_15 : decode cX9_neighbour 15 = .ok (.iload_n 3, 1) := by decide +kernel
theorem dX9_neighbour_16 : decode cX9_neighbour 16 = .ok (.ifCond .ge 5, 3) := by decide +kernel
theorem dX9_neighbour_19 : decode cX9_neighbour 19 = .ok (.iconst (-1), 1) := by decide +kernel
theorem dX9_neighbour_20 : decode cX9_neighbour 20 = .ok (.ireturn, 1) := by decide +kernel
theorem dX9_neighbour_21 : decode cX9_neighbour 21 = .ok (.aload_n 0, 1) := by decide +kernel
theorem dX9_neighbour_22 : decode cX9_neighbour 22 = .ok (.getfield 54, 3) := by decide +kernel
theorem dX9_neighbour_25 : decode cX9_neighbour 25 = .ok (.iload_n 1, 1) := by decide +kernel
theorem dX9_neighbour_26 : decode cX9_neighbour 26 = .ok (.iload_n 2, 1) := by decide +kernel
theorem dX9_neighbour_27 : decode cX9_neighbour 27 = .ok (.invokevirtual 223, 3) := by decide +kernel
theorem dX9_neighbour_30 : decode cX9_neighbour 30 = .ok (.iload_n 3, 1) := by decide +kernel
theorem dX9_neighbour_31 : decode cX9_neighbour 31 = .ok (.aload_n 0, 1) := by decide +kernel
theorem dX9_neighbour_32 : decode cX9_neighbour 32 = .ok (.getfield 54, 3) := by decide +kernel
theorem dX9_neighbour_35 : decode cX9_neighbour 35 = .ok (.getfield 227, 3) := by decide +kernel
theorem dX9_neighbour_38 : decode cX9_neighbour 38 = .ok (.if_icmp .ge 15, 3) := by decide +kernel
theorem dX9_neighbour_41 : decode cX9_neighbour 41 = .ok (.aload_n 0, 1) := by decide +kernel
theorem dX9_neighbour_42 : decode cX9_neighbour 42 = .ok (.getfield 54, 3) := by decide +kernel
theorem dX9_neighbour_45 : decode cX9_neighbour 45 = .ok (.getfield 228, 3) := by decide +kernel
theorem dX9_neighbour_48 : decode cX9_neighbour 48 = .ok (.iload_n 3, 1) := by decide +kernel
theorem dX9_neighbour_49 : decode cX9_neighbour 49 = .ok (.iaload, 1) := by decide +kernel
theorem dX9_neighbour_50 : decode cX9_neighbour 50 = .ok (.goto 5, 3) := by decide +kernel
theorem dX9_neighbour_53 : decode cX9_neighbour 53 = .ok (.bipush (-5), 2) := by decide +kernel
theorem dX9_neighbour_55 : decode cX9_neighbour 55 = .ok (.ireturn, 1) := by decide +kernel
set_option maxRecDepth 20000 in
theorem ggX9_balance_X7_divideAllTooLarge : GoodIn wsX9_balance wsX7_divideAllTooLarge := goodIn_r _ [6, 7, 8, 9, 10, 11, 12, 5, 13, 14, 15, 16, 17, 18, 19, 20, 21, 22, 23, 24, 25, 26, 27, 28, 29, 30, 31, 32, 33, 34, 35, 36, 37, 38, 39, 40, 41, 42, 43, 44, 45, 46, 47, 48, 49, 50, 51, 52, 53, 54, 55, 56, 57, 58, 59, 60, 61, 62, 63, 64, 65, 66, 67, 68, 69, 70, 71, 72, 73, 74, 75, 76, 77, 78, 79, 80, 81, 82, 83, 84, 85, 86, 94, 95, 96, 97, 98, 99, 100, 101, 102, 103] (by decide +kernel) (by decide +kernel)
set_option maxRecDepth 20000 in
theorem gX9_balance_X7_divideAllTooLarge : GoodIn wsX9_balance (wsV RX9 231 RX7 yX7_divideAllTooLarge wsX7_divideAllTooLarge) := goodIn_app (goodIn_of _ (by decide +kernel)) ggX9_balance_X7_divideAllTooLarge
theorem dX9_balance_0 : decode cX9_balance 0 = .ok (.aload_n 0, 1) := by decide +kernel
theorem dX9_balance_1 : decode cX9_balance 1 = .ok (.getfield 54, 3) := by decide +kernel
theorem dX9_balance_4 : decode cX9_balance 4 = .ok (.invokevirtual 231, 3) := by decide +kernel
theorem dX9_balance_7 : decode cX9_balance 7 = .ok (.ireturn, 1) := by decide +kernel
set_option maxRecDepth 20000 in
theorem ggX9_walk_X9_isLeaf : GoodIn wsX9_walk wsX9_isLeaf := goodIn_r _ [6, 7, 8, 9, 81, 82, 83, 84, 85, 86, 87, 88, 89, 90, 91, 92, 93, 94, 95, 96] (by decide +kernel) (by decide +kernel)
set_option maxRecDepth 20000 in
theorem gX9_walk_X9_isLeaf : GoodIn wsX9_walk (wsV RX9 198 RX9 yX9_isLeaf wsX9_isLeaf) := goodIn_app (goodIn_of _ (by decide +kernel)) ggX9_walk_X9_isLeaf
set_option maxRecDepth 20000 in
theorem ggX9_walk_X9_isSide : GoodIn wsX9_walk wsX9_isSide := goodIn_r _ [12] (by decide +kernel) (by decide +kernel)
set_option maxRecDepth 20000 in
theorem gX9_walk_X9_isSide : GoodIn wsX9_walk (va_wsS RX9 220 yX9_isSide wsX9_isSide) := goodIn_app (goodIn_of _ (by decide +kernel)) ggX9_walk_X9_isSide
set_option maxRecDepth 20000 in
theorem ggX9_walk_X7_countSteps : GoodIn wsX9_walk wsX7_countSteps := goodIn_r _ [17, 18, 19, 20, 16, 21, 22, 23, 24, 25, 26, 27, 28, 29, 30, 31, 32, 33, 34, 35, 36, 37, 38, 39, 40, 41, 42, 43, 44, 45, 46, 47, 48, 49, 50, 51, 52, 53, 54, 55, 56, 57, 58, 59, 60, 61, 62, 63, 64, 65, 66, 67, 68, 69, 70, 71, 72, 73, 74, 75, 76, 77, 78, 79, 80, 97, 98, 99, 100, 95, 96, 101, 102, 103, 104] (by decide +kernel) (by decide +kernel)
set_option maxRecDepth 20000 in
theorem gX9_walk_X7_countSteps : GoodIn wsX9_walk (wsV RX9 234 RX7 yX7_countSteps wsX7_countSteps) := goodIn_app (goodIn_of _ (by decide +kernel)) ggX9_walk_X7_countSteps
theorem dX9_walk_0 : decode cX9_walk 0 = .ok (.aload_n 0, 1) := by decide +kernel
theorem dX9_walk_1 : decode cX9_walk 1 = .ok (.iload_n 1, 1) := by decide +kernel
theorem dX9_walk_2 : decode cX9_walk 2 = .ok (.invokevirtual 198, 3) := by decide +kernel
theorem dX9_walk_5 : decode cX9_walk 5 = .ok (.ifCond .eq 22, 3) := by decide +kernel
theorem dX9_walk_8 : decode cX9_walk 8 = .ok (.iload_n 2, 1) := by decide +kernel
theorem dX9_walk_9 : decode cX9_walk 9 = .ok (.invokestatic 220, 3) := by decide +kernel
theorem dX9_walk_12 : decode cX9_walk 12 = .ok (.ifCond .eq 15, 3) := by decide +kernel
theorem dX9_walk_15 : decode cX9_walk 15 = .ok (.aload_n 0, 1) := by decide +kernel
theorem dX9_walk_16 : decode cX9_walk 16 = .ok (.getfield 54, 3) := by decide +kernel
theorem dX9_walk_19 : decode cX9_walk 19 = .ok (.iload_n 1, 1) := by decide +kernel
theorem dX9_walk_20 : decode cX9_walk 20 = .ok (.iload_n 2, 1) := by decide +kernel
theorem dX9_walk_21 : decode cX9_walk 21 = .ok (.invokevirtual 234, 3) := by decide +kernel
theorem dX9_walk_24 : decode cX9_walk 24 = .ok (.goto 4, 3) := by decide +kernel
theorem dX9_walk_27 : decode cX9_walk 27 = .ok (.iconst (-1), 1) := by decide +kernel
theorem dX9_walk_28 : decode cX9_walk 28 = .ok (.ireturn, 1) := by decide +kernel
set_option maxRecDepth 20000 in
theorem ggX9_walked_X9_isLeaf : GoodIn wsX9_walked wsX9_isLeaf := goodIn_r _ [6, 7, 8, 9, 84, 85, 86, 87, 88, 89, 90, 91, 92, 93, 94, 95, 96, 97, 98, 99] (by decide +kernel) (by decide +kernel)
set_option maxRecDepth 20000 in
theorem gX9_walked_X9_isLeaf : GoodIn wsX9_walked (wsV RX9 198 RX9 yX9_isLeaf wsX9_isLeaf) := goodIn_app (goodIn_of _ (by decide +kernel)) ggX9_walked_X9_isLeaf
set_option maxRecDepth 20000 in
theorem ggX9_walked_X9_isSide : GoodIn wsX9_walked wsX9_isSide := goodIn_r _ [12] (by decide +kernel) (by decide +kernel)
set_option maxRecDepth 20000 in
theorem gX9_walked_X9_isSide : GoodIn wsX9_walked (va_wsS RX9 220 yX9_isSide wsX9_isSide) := goodIn_app (goodIn_of _ (by decide +kernel)) ggX9_walked_X9_isSide
set_option maxRecDepth 20000 in
theorem ggX9_walked_X7_leafAfter : GoodIn wsX9_walked wsX7_leafAfter := goodIn_r _ [17, 18, 19, 20, 21, 22, 23, 24, 16, 25, 26, 27, 28, 29, 30, 31, 32, 33, 34, 35, 36, 37, 38, 39, 40, 41, 42, 43, 44, 45, 46, 47, 48, 49, 50, 51, 52, 53, 54, 55, 56, 57, 58, 59, 60, 61, 62, 63, 64, 65, 66, 67, 68, 69, 70, 71, 72, 73, 74, 75, 76, 77, 78, 79, 80, 81, 82, 83, 100, 101, 102, 103, 98, 99, 104, 105, 106, 107] (by decide +kernel) (by decide +kernel)
set_option maxRecDepth 20000 in
theorem gX9_walked_X7_leafAfter : GoodIn wsX9_walked (wsV RX9 237 RX7 yX7_leafAfter wsX7_leafAfter) := goodIn_app (goodIn_of _ (by decide +kernel)) ggX9_walked_X7_leafAfter
theorem dX9_walked_0 : decode cX9_walked 0 = .ok (.aload_n 0, 1) := by decide +kernel
theorem dX9_walked_1 : decode cX9_walked 1 = .ok (.iload_n 1, 1) := by decide +kernel
theorem dX9_walked_2 : decode cX9_walked 2 = .ok (.invokevirtual 198, 3) := by decide +kernel
theorem dX9_walked_5 : decode cX9_walked 5 = .ok (.ifCond .eq 14, 3) := by decide +kernel
theorem dX9_walked_8 : decode cX9_walked 8 = .ok (.iload_n 2, 1) := by decide +kernel
theorem dX9_walked_9 : decode cX9_walked 9 = .ok (.invokestatic 220, 3) := by decide +kernel
theorem dX9_walked_12 : decode cX9_walked 12 = .ok (.ifCond .eq 7, 3) := by decide +kernel
theorem dX9_walked_15 : decode cX9_walked 15 = .ok (.iload_n 3, 1) := by decide +kernel
theorem dX9_walked_16 : decode cX9_walked 16 = .ok (.ifCond .ge 5, 3) := by decide +kernel
theorem dX9_walked_19 : decode cX9_walked 19 = .ok (.iconst (-1), 1) := by decide +kernel
theorem dX9_walked_20 : decode cX9_walked 20 = .ok (.ireturn, 1) := by decide +kernel
theorem dX9_walked_21 : decode cX9_walked 21 = .ok (.aload_n 0, 1) := by decide +kernel
theorem dX9_walked_22 : decode cX9_walked 22 = .ok (.getfield 54, 3) := by decide +kernel
theorem dX9_walked_25 : decode cX9_walked 25 = .ok (.iload_n 1, 1) := by decide +kernel
theorem dX9_walked_26 : decode cX9_walked 26 = .ok (.iload_n 2, 1) := by decide +kernel
theorem dX9_walked_27 : decode cX9_walked 27 = .ok (.iload_n 3, 1) := by decide +kernel
theorem dX9_walked_28 : decode cX9_walked 28 = .ok (.invokevirtual 237, 3) := by decide +kernel
theorem dX9_walked_31 : decode cX9_walked 31 = .ok (.istore 4, 2) := by decide +kernel
theorem dX9_walked_33 : decode cX9_walked 33 = .ok (.iload 4, 2) := by decide +kernel
theorem dX9_walked_35 : decode cX9_walked 35 = .ok (.iconst (-1), 1) := by decide +kernel
theorem dX9_walked_36 : decode cX9_walked 36 = .ok (.if_icmp .ne 8, 3) := by decide +kernel
theorem dX9_walked_39 : decode cX9_walked 39 = .ok (.bipush (-5), 2) := by decide +kernel
theorem dX9_walked_41 : decode cX9_walked 41 = .ok (.goto 5, 3) := by decide +kernel
theorem dX9_walked_44 : decode cX9_walked 44 = .ok (.iload 4, 2) := by decide +kernel
theorem dX9_walked_46 : decode cX9_walked 46 = .ok (.ireturn, 1) := by decide +kernel
set_option maxRecDepth 20000 in
theorem ggX9_save_X5_copyFrom : GoodIn wsX9_save wsX5_copyFrom := goodIn_r _ [10, 11, 12, 13, 14, 15, 16, 17, 18, 19, 20, 21, 22, 23, 24, 25, 26, 27, 28, 29, 30, 31, 32, 33, 34, 35, 36, 37, 38, 39, 40, 41, 42, 43, 44, 45, 46, 47, 48, 49, 50, 51, 52, 53, 54, 55, 56, 57, 65, 66, 67, 68, 69, 70, 71, 74, 75, 76, 77, 78, 79, 80, 81, 72, 73] (by decide +kernel) (by decide +kernel)
set_option maxRecDepth 20000 in
theorem gX9_save_X5_copyFrom : GoodIn wsX9_save (wsV RX9 241 RX5 yX5_copyFrom wsX5_copyFrom) := goodIn_app (goodIn_of _ (by decide +kernel)) ggX9_save_X5_copyFrom
theorem dX9_save_0 : decode cX9_save 0 = .ok (.iload_n 1, 1) := by decide +kernel
theorem dX9_save_1 : decode cX9_save 1 = .ok (.ifCond .lt 8, 3) := by decide +kernel
theorem dX9_save_4 : decode cX9_save 4 = .ok (.iload_n 1, 1) := by decide +kernel
theorem dX9_save_5 : decode cX9_save 5 = .ok (.iconst 2, 1) := by decide +kernel
theorem dX9_save_6 : decode cX9_save 6 = .ok (.if_icmp .lt 5, 3) := by decide +kernel
theorem dX9_save_9 : decode cX9_save 9 = .ok (.iconst (-1), 1) := by decide +kernel
theorem dX9_save_10 : decode cX9_save 10 = .ok (.ireturn, 1) := by decide +kernel
theorem dX9_save_11 : decode cX9_save 11 = .ok (.aload_n 0, 1) := by decide +kernel
theorem dX9_save_12 : decode cX9_save 12 = .ok (.getfield 16, 3) := by decide +kernel
theorem dX9_save_15 : decode cX9_save 15 = .ok (.iload_n 1, 1) := by decide +kernel
theorem dX9_save_16 : decode cX9_save 16 = .ok (.aaload, 1) := by decide +kernel
theorem dX9_save_17 : decode cX9_save 17 = .ok (.aload_n 0, 1) := by decide +kernel
theorem dX9_save_18 : decode cX9_save 18 = .ok (.getfield 10, 3) := by decide +kernel
theorem dX9_save_21 : decode cX9_save 21 = .ok (.invokevirtual 241, 3) := by decide +kernel
theorem dX9_save_24 : decode cX9_save 24 = .ok (.aload_n 0, 1) := by decide +kernel
theorem dX9_save_25 : decode cX9_save 25 = .ok (.getfield 20, 3) := by decide +kernel
theorem dX9_save_28 : decode cX9_save 28 = .ok (.iload_n 1, 1) := by decide +kernel
theorem dX9_save_29 : decode cX9_save 29 = .ok (.iconst 1, 1) := by decide +kernel
theorem dX9_save_30 : decode cX9_save 30 = .ok (.bastore, 1) := by decide +kernel
theorem dX9_save_31 : decode cX9_save 31 = .ok (.aload_n 0, 1) := by decide +kernel
theorem dX9_save_32 : decode cX9_save 32 = .ok (.getfield 10, 3) := by decide +kernel
theorem dX9_save_35 : decode cX9_save 35 = .ok (.getfield 47, 3) := by decide +kernel
theorem dX9_save_38 : decode cX9_save 38 = .ok (.getfield 195, 3) := by decide +kernel
theorem dX9_save_41 : decode cX9_save 41 = .ok (.ireturn, 1) := by decide +kernel
set_option maxRecDepth 20000 in
theorem ggX9_restore_X5_copyFrom : GoodIn wsX9_restore wsX5_copyFrom := goodIn_r _ [10, 11, 12, 13, 14, 15, 16, 17, 18, 19, 20, 21, 22, 23, 24, 25, 26, 27, 28, 29, 30, 31, 32, 33, 34, 35, 36, 37, 38, 39, 40, 41, 42, 43, 44, 45, 46, 47, 48, 49, 50, 51, 52, 53, 54, 55, 56, 57, 113, 114, 115, 116, 117, 118, 119, 122, 123, 124, 125, 126, 127, 128, 129, 120, 121] (by decide +kernel) (by decide +kernel)
set_option maxRecDepth 20000 in
theorem gX9_restore_X5_copyFrom : GoodIn wsX9_restore (wsV RX9 241 RX5 yX5_copyFrom wsX5_copyFrom) := goodIn_app (goodIn_of _ (by decide +kernel)) ggX9_restore_X5_copyFrom
set_option maxRecDepth 20000 in
theorem ggX9_restore_X9_renumber : GoodIn wsX9_restore wsX9_renumber := goodIn_r _ [62, 63, 2, 64, 65, 66, 67, 68, 69, 9, 70, 12, 13, 71, 72, 73, 74, 75, 76, 77, 78, 79, 80, 81, 82, 83, 84, 85, 86, 87, 88, 89, 90, 91, 92, 93, 94, 95, 96, 97, 98, 99, 100, 101, 102, 103, 104, 36, 105, 38, 40, 39, 41, 106, 107, 108, 109, 110, 111, 112, 113, 114, 115, 116, 117, 118, 119, 126, 127, 130, 131, 132, 133, 134, 135, 136, 122, 123, 124, 125] (by decide +kernel) (by decide +kernel)
set_option maxRecDepth 20000 in
theorem gX9_restore_X9_renumber : GoodIn wsX9_restore (wsV RX9 72 RX9 yX9_renumber wsX9_renumber) := goodIn_app (goodIn_of _ (by decide +kernel)) ggX9_restore_X9_renumber
theorem dX9_restore_0 : decode cX9_restore 0 = .ok (.iload_n 1, 1) := by decide +kernel
theorem dX9_restore_1 : decode cX9_restore 1 = .ok (.ifCond .lt 8, 3) := by decide +kernel
theorem dX9_restore_4 : decode cX9_restore 4 = .ok (.iload_n 1, 1) := by decide +kernel
theorem dX9_restore_5 : decode cX9_restore 5 = .ok (.iconst 2, 1) := by decide +kernel
theorem dX9_restore_6 : decode cX9_restore 6 = .ok (.if_icmp .lt 5, 3) := by decide +kernel
theorem dX9_restore_9 : decode cX9_restore 9 = .ok (.iconst (-1), 1) := by decide +kernel
theorem dX9_restore_10 : decode cX9_restore 10 = .ok (.ireturn, 1) := by decide +kernel
theorem dX9_restore_11 : decode cX9_restore 11 = .ok (.aload_n 0, 1) := by decide +kernel
theorem dX9_restore_12 : decode cX9_restore 12 = .ok (.getfield 20, 3) := by decide +kernel
theorem dX9_restore_15 : decode cX9_restore 15 = .ok (.iload_n 1, 1) := by decide +kernel
theorem dX9_restore_16 : decode cX9_restore 16 = .ok (.baload, 1) := by decide +kernel
theorem dX9_restore_17 : decode cX9_restore 17 = .ok (.ifCond .ne 6, 3) := by decide +kernel
theorem dX9_restore_20 : decode cX9_restore 20 = .ok (.bipush (-3), 2) := by decide +kernel
theorem dX9_restore_22 : decode cX9_restore 22 = .ok (.ireturn, 1) := by decide +kernel
theorem dX9_restore_23 : decode cX9_restore 23 = .ok (.aload_n 0, 1) := by decide +kernel
theorem dX9_restore_24 : decode cX9_restore 24 = .ok (.getfield 10, 3) := by decide +kernel
theorem dX9_restore_27 : decode cX9_restore 27 = .ok (.aload_n 0, 1) := by decide +kernel
theorem dX9_restore_28 : decode cX9_restore 28 = .ok (.getfield 16, 3) := by decide +kernel
theorem dX9_restore_31 : decode cX9_restore 31 = .ok (.iload_n 1, 1) := by decide +kernel
theorem dX9_restore_32 : decode cX9_restore 32 = .ok (.aaload, 1) := by decide +kernel
theorem dX9_restore_33 : decode cX9_restore 33 = .ok (.invokevirtual 241, 3) := by decide +kernel
theorem dX9_restore_36 : decode cX9_restore 36 = .ok (.aload_n 0, 1) := by decide +kernel
theorem dX9_restore_37 : decode cX9_restore 37 = .ok (.invokevirtual 72, 3) := by decide +kernel
theorem dX9_restore_40 : decode cX9_restore 40 = .ok (.aload_n 0, 1) := by decide +kernel
theorem dX9_restore_41 : decode cX9_restore 41 = .ok (.getfield 10, 3) := by decide +kernel
theorem dX9_restore_44 : decode cX9_restore 44 = .ok (.getfield 47, 3) := by decide +kernel
theorem dX9_restore_47 : decode cX9_restore 47 = .ok (.getfield 195, 3) := by decide +kernel
theorem dX9_restore_50 : decode cX9_restore 50 = .ok (.ireturn, 1) := by decide +kernel
set_option maxRecDepth 20000 in
theorem ggX9_checksum_X9_sumCurve : GoodIn wsX9_checksum wsX9_sumCurve := goodIn_r _ [6, 7, 8, 9, 10, 5, 11, 12, 13, 14, 15, 16, 17, 18, 19, 20, 21, 22, 23, 24, 25, 26, 27, 28, 29, 30, 31, 32, 33, 34, 35, 36, 37, 38, 39, 40, 41, 42, 43, 44, 45, 46, 47, 48, 49, 50, 51, 52, 53, 54, 55, 56, 57, 58, 59, 60, 61, 62, 63, 64, 65, 66, 67, 68, 69, 70, 71, 72, 73, 74, 155, 156, 157, 158, 159, 160, 161, 162, 163, 164, 165, 166, 167, 168, 169, 170, 171, 172, 173, 174] (by decide +kernel) (by decide +kernel)
set_option maxRecDepth 20000 in
theorem gX9_checksum_X9_sumCurve : GoodIn wsX9_checksum (wsV RX9 247 RX9 yX9_sumCurve wsX9_sumCurve) := goodIn_app (goodIn_of _ (by decide +kernel)) ggX9_checksum_X9_sumCurve
set_option maxRecDepth 20000 in
theorem ggX9_checksum_X9_sumIntervals : GoodIn wsX9_checksum wsX9_sumIntervals := goodIn_r _ [78, 79, 80, 81, 5, 82, 83, 84, 9, 10, 11, 12, 85, 86, 87, 88, 89, 90, 155, 156, 157, 158, 159, 160, 161, 175, 176, 177] (by decide +kernel) (by decide +kernel)
set_option maxRecDepth 20000 in
theorem gX9_checksum_X9_sumIntervals : GoodIn wsX9_checksum (wsV RX9 251 RX9 yX9_sumIntervals wsX9_sumIntervals) := goodIn_app (goodIn_of _ (by decide +kernel)) ggX9_checksum_X9_sumIntervals
set_option maxRecDepth 20000 in
theorem ggX9_checksum_X9_sumLeaves : GoodIn wsX9_checksum wsX9_sumLeaves := goodIn_r _ [94, 7, 95, 96, 97, 98, 5, 99, 100, 101, 9, 10, 11, 12, 102, 103, 104, 105, 106, 107, 108, 109, 110, 111, 112, 38, 113, 114, 115, 116, 117, 118, 119, 120, 121, 122, 123, 124, 125, 126, 50, 51, 42, 52, 53, 127, 128, 129, 130, 131, 132, 133, 134, 135, 136, 137, 55, 56, 57, 138, 139, 140, 141, 142, 143, 144, 145, 146, 147, 148, 149, 150, 151, 152, 153, 154, 71, 72, 73, 74, 155, 156, 157, 158, 159, 160, 161, 162, 163, 164, 165, 166, 167, 168, 178, 179, 180, 181, 182, 183, 184, 185, 171, 172, 173, 174] (by decide +kernel) (by decide +kernel)
set_option maxRecDepth 20000 in
theorem gX9_checksum_X9_sumLeaves : GoodIn wsX9_checksum (wsV RX9 254 RX9 yX9_sumLeaves wsX9_sumLeaves) := goodIn_app (goodIn_of _ (by decide +kernel)) ggX9_checksum_X9_sumLeaves
theorem dX9_checksum_0 : decode cX9_checksum 0 = .ok (.aload_n 0, 1) := by decide +kernel
theorem dX9_checksum_1 : decode cX9_checksum 1 = .ok (.aload_n 0, 1) := by decide +kernel
theorem dX9_checksum_2 : decode cX9_checksum 2 = .ok (.aload_n 0, 1) := by decide +kernel
theorem dX9_checksum_3 : decode cX9_checksum 3 = .ok (.ldc2_w 245, 3) := by decide +kernel
theorem dX9_checksum_6 : decode cX9_checksum 6 = .ok (.invokevirtual 247, 3) := by decide +kernel
theorem dX9_checksum_9 : decode cX9_checksum 9 = .ok (.invokevirtual 251, 3) := by decide +kernel
theorem dX9_checksum_12 : decode cX9_checksum 12 = .ok (.invokevirtual 254, 3) := by decide +kernel
theorem dX9_checksum_15 : decode cX9_checksum 15 = .ok (.lreturn, 1) := by decide +kernel
set_option maxRecDepth 20000 in
theorem ggX9_renumber_X5_visitsOfCurve : GoodIn wsX9_renumber wsX5_visitsOfCurve := goodIn_r _ [10, 11, 12, 13, 60, 61, 62, 63, 64, 65, 66, 67, 68] (by decide +kernel) (by decide +kernel)
set_option maxRecDepth 20000 in
theorem gX9_renumber_X5_visitsOfCurve : GoodIn wsX9_renumber (wsV RX9 94 RX5 yX5_visitsOfCurve wsX5_visitsOfCurve) := goodIn_app (goodIn_of _ (by decide +kernel)) ggX9_renumber_X5_visitsOfCurve
set_option maxRecDepth 20000 in
theorem ggX9_renumber_X2_fill : GoodIn wsX9_renumber wsX2_fill := goodIn_r _ [18, 19, 20, 21, 22, 23, 24, 25, 17, 26, 69, 70, 71, 72] (by decide +kernel) (by decide +kernel)
set_option maxRecDepth 20000 in
theorem gX9_renumber_X2_fill : GoodIn wsX9_renumber (wsV RX9 257 RX2 yX2_fill wsX2_fill) := goodIn_app (goodIn_of _ (by decide +kernel)) ggX9_renumber_X2_fill
set_option maxRecDepth 20000 in
theorem ggX9_renumber_X0_fill : GoodIn wsX9_renumber wsX0_fill := goodIn_r _ [31, 32, 33, 34, 35, 36, 37, 38, 17, 39, 21, 40, 41, 42, 43, 44, 45, 46, 47, 48, 49, 50, 51, 52, 73, 74, 75, 69, 70, 71, 72, 76, 77, 78, 79] (by decide +kernel) (by decide +kernel)
set_option maxRecDepth 20000 in
theorem gX9_renumber_X0_fill : GoodIn wsX9_renumber (wsV RX9 149 RX0 yX0_fill wsX0_fill) := goodIn_app (goodIn_of _ (by decide +kernel)) ggX9_renumber_X0_fill
theorem dX9_renumber_0 : decode cX9_renumber 0 = .ok (.aload_n 0, 1) := by decide +kernel
theorem dX9_renumber_1 : decode cX9_renumber 1 = .ok (.getfield 34, 3) := by decide +kernel
theorem dX9_renumber_4 : decode cX9_renumber 4 = .ok (.aload_n 0, 1) := by decide +kernel
theorem dX9_renumber_5 : decode cX9_renumber 5 = .ok (.getfield 10, 3) := by decide +kernel
theorem dX9_renumber_8 : decode cX9_renumber 8 = .ok (.getfield 62, 3) := by decide +kernel
theorem dX9_renumber_11 : decode cX9_renumber 11 = .ok (.aload_n 0, 1) := by decide +kernel
theorem dX9_renumber_12 : decode cX9_renumber 12 = .ok (.getfield 10, 3) := by decide +kernel
theorem dX9_renumber_15 : decode cX9_renumber 15 = .ok (.invokevirtual 94, 3) := by decide +kernel
theorem dX9_renumber_18 : decode cX9_renumber 18 = .ok (.invokevirtual 257, 3) := by decide +kernel
theorem dX9_renumber_21 : decode cX9_renumber 21 = .ok (.aload_n 0, 1) := by decide +kernel
theorem dX9_renumber_22 : decode cX9_renumber 22 = .ok (.getfield 41, 3) := by decide +kernel
theorem dX9_renumber_25 : decode cX9_renumber 25 = .ok (.aload_n 0, 1) := by decide +kernel
theorem dX9_renumber_26 : decode cX9_renumber 26 = .ok (.getfield 34, 3) := by decide +kernel
theorem dX9_renumber_29 : decode cX9_renumber 29 = .ok (.aload_n 0, 1) := by decide +kernel
theorem dX9_renumber_30 : decode cX9_renumber 30 = .ok (.getfield 10, 3) := by decide +kernel
theorem dX9_renumber_33 : decode cX9_renumber 33 = .ok (.getfield 58, 3) := by decide +kernel
theorem dX9_renumber_36 : decode cX9_renumber 36 = .ok (.invokevirtual 149, 3) := by decide +kernel
theorem dX9_renumber_39 : decode cX9_renumber 39 = .ok (.return_, 1) := by decide +kernel
set_option maxRecDepth 20000 in
theorem ggX9_redivide_X1_fill : GoodIn wsX9_redivide wsX1_fill := goodIn_r _ [10, 11, 12, 13, 14, 15, 16, 9, 17, 18, 19, 20, 21, 22, 23, 24, 25, 26, 27, 28, 29, 30, 31, 32, 33, 34, 35, 36, 37, 38, 53, 54, 55, 56, 57, 58, 59, 60] (by decide +kernel) (by decide +kernel)
set_option maxRecDepth 20000 in
theorem gX9_redivide_X1_fill : GoodIn wsX9_redivide (wsV RX9 260 RX1 yX1_fill wsX1_fill) := goodIn_app (goodIn_of _ (by decide +kernel)) ggX9_redivide_X1_fill
theorem dX9_redivide_0 : decode cX9_redivide 0 = .ok (.aload_n 0, 1) := by decide +kernel
theorem dX9_redivide_1 : decode cX9_redivide 1 = .ok (.getfield 10, 3) := by decide +kernel
theorem dX9_redivide_4 : decode cX9_redivide 4 = .ok (.getfield 47, 3) := by decide +kernel
theorem dX9_redivide_7 : decode cX9_redivide 7 = .ok (.aload_n 0, 1) := by decide +kernel
theorem dX9_redivide_8 : decode cX9_redivide 8 = .ok (.getfield 34, 3) := by decide +kernel
theorem dX9_redivide_11 : decode cX9_redivide 11 = .ok (.aload_n 0, 1) := by decide +kernel
theorem dX9_redivide_12 : decode cX9_redivide 12 = .ok (.getfield 10, 3) := by decide +kernel
theorem dX9_redivide_15 : decode cX9_redivide 15 = .ok (.getfield 78, 3) := by decide +kernel
theorem dX9_redivide_18 : decode cX9_redivide 18 = .ok (.aload_n 0, 1) := by decide +kernel
theorem dX9_redivide_19 : decode cX9_redivide 19 = .ok (.getfield 10, 3) := by decide +kernel
theorem dX9_redivide_22 : decode cX9_redivide 22 = .ok (.getfield 192, 3) := by decide +kernel
theorem dX9_redivide_25 : decode cX9_redivide 25 = .ok (.invokevirtual 260, 3) := by decide +kernel
theorem dX9_redivide_28 : decode cX9_redivide 28 = .ok (.return_, 1) := by decide +kernel
theorem dX9_isLeaf_0 : decode cX9_isLeaf 0 = .ok (.iload_n 1, 1) := by decide +kernel
theorem dX9_isLeaf_1 : decode cX9_isLeaf 1 = .ok (.ifCond .lt 21, 3) := by decide +kernel
theorem dX9_isLeaf_4 : decode cX9_isLeaf 4 = .ok (.iload_n 1, 1) := by decide +kernel
theorem dX9_isLeaf_5 : decode cX9_isLeaf 5 = .ok (.aload_n 0, 1) := by decide +kernel
theorem dX9_isLeaf_6 : decode cX9_isLeaf 6 = .ok (.getfield 10, 3) := by decide +kernel
theorem dX9_isLeaf_9 : decode cX9_isLeaf 9 = .ok (.getfield 47, 3) := by decide +kernel
theorem dX9_isLeaf_12 : decode cX9_isLeaf 12 = .ok (.getfield 195, 3) := by decide +kernel
theorem dX9_isLeaf_15 : decode cX9_isLeaf 15 = .ok (.if_icmp .ge 7, 3) := by decide +kernel
theorem dX9_isLeaf_18 : decode cX9_isLeaf 18 = .ok (.iconst 1, 1) := by decide +kernel
theorem dX9_isLeaf_19 : decode cX9_isLeaf 19 = .ok (.goto 4, 3) := by decide +kernel
theorem dX9_isLeaf_22 : decode cX9_isLeaf 22 = .ok (.iconst 0, 1) := by decide +kernel
theorem dX9_isLeaf_23 : decode cX9_isLeaf 23 = .ok (.ireturn, 1) := by decide +kernel
theorem dX9_isSide_0 : decode cX9_isSide 0 = .ok (.iload_n 0, 1) := by decide +kernel
theorem dX9_isSide_1 : decode cX9_isSide 1 = .ok (.ifCond .lt 12, 3) := by decide +kernel
theorem dX9_isSide_4 : decode cX9_isSide 4 = .ok (.iload_n 0, 1) := by decide +kernel
theorem dX9_isSide_5 : decode cX9_isSide 5 = .ok (.iconst 4, 1) := by decide +kernel
theorem dX9_isSide_6 : decode cX9_isSide 6 = .ok (.if_icmp .ge 7, 3) := by decide +kernel
theorem dX9_isSide_9 : decode cX9_isSide 9 = .ok (.iconst 1, 1) := by decide +kernel
theorem dX9_isSide_10 : decode cX9_isSide 10 = .ok (.goto 4, 3) := by decide +kernel
theorem dX9_isSide_13 : decode cX9_isSide 13 = .ok (.iconst 0, 1) := by decide +kernel
theorem dX9_isSide_14 : decode cX9_isSide 14 = .ok (.ireturn, 1) := by decide +kernel
set_option maxRecDepth 20000 in
theorem ggX9_sumCurve_X9_sumValue : GoodIn wsX9_sumCurve wsX9_sumValue := goodIn_r _ [6, 7] (by decide +kernel) (by decide +kernel)
set_option maxRecDepth 20000 in
theorem gX9_sumCurve_X9_sumValue : GoodIn wsX9_sumCurve (va_wsS RX9 263 yX9_sumValue wsX9_sumValue) := goodIn_app (goodIn_of _ (by decide +kernel)) ggX9_sumCurve_X9_sumValue
set_option maxRecDepth 20000 in
theorem ggX9_sumCurve_X9_states : GoodIn wsX9_sumCurve wsX9_states := goodIn_r _ [11, 1, 12, 13, 14, 15, 16, 17, 18, 19, 70, 71, 72, 73, 74, 75, 76, 77, 78, 79, 80, 81, 82, 83, 84, 85] (by decide +kernel) (by decide +kernel)
set_option maxRecDepth 20000 in
theorem gX9_sumCurve_X9_states : GoodIn wsX9_sumCurve (wsV RX9 267 RX9 yX9_states wsX9_states) := goodIn_app (goodIn_of _ (by decide +kernel)) ggX9_sumCurve_X9_states
set_option maxRecDepth 20000 in
theorem ggX9_sumCurve_X9_visit : GoodIn wsX9_sumCurve wsX9_visit := goodIn_r _ [23, 1, 12, 13, 14, 15, 16, 17, 18, 19, 24, 25, 26, 27, 28, 70, 71, 72, 73, 74, 75, 76, 77, 78, 79, 80, 81, 82, 83, 84, 85] (by decide +kernel) (by decide +kernel)
set_option maxRecDepth 20000 in
theorem gX9_sumCurve_X9_visit : GoodIn wsX9_sumCurve (wsV RX9 270 RX9 yX9_visit wsX9_visit) := goodIn_app (goodIn_of _ (by decide +kernel)) ggX9_sumCurve_X9_visit
set_option maxRecDepth 20000 in
theorem ggX9_sumCurve_X9_breaks : GoodIn wsX9_sumCurve wsX9_breaks := goodIn_r _ [32, 33, 34, 35, 36, 37, 38, 39, 40, 41, 42, 43, 44, 45, 46, 47, 48, 49, 50, 51, 52, 70, 71, 72, 73, 74, 75, 76, 86, 87, 88, 89] (by decide +kernel) (by decide +kernel)
set_option maxRecDepth 20000 in
theorem gX9_sumCurve_X9_breaks : GoodIn wsX9_sumCurve (wsV RX9 273 RX9 yX9_breaks wsX9_breaks) := goodIn_app (goodIn_of _ (by decide +kernel)) ggX9_sumCurve_X9_breaks
set_option maxRecDepth 20000 in
theorem ggX9_sumCurve_X9_stretch : GoodIn wsX9_sumCurve wsX9_stretch := goodIn_r _ [56, 33, 57, 58, 59, 37, 60, 61, 40, 41, 42, 43, 62, 63, 64, 65, 66, 67, 68, 69, 70, 71, 72, 73, 74, 75, 76, 86, 87, 88, 89] (by decide +kernel) (by decide +kernel)
set_option maxRecDepth 20000 in
theorem gX9_sumCurve_X9_stretch : GoodIn wsX9_sumCurve (wsV RX9 276 RX9 yX9_stretch wsX9_stretch) := goodIn_app (goodIn_of _ (by decide +kernel)) ggX9_sumCurve_X9_stretch
theorem dX9_sumCurve_0 : decode cX9_sumCurve 0 = .ok (.lload_n 1, 1) := by decide +kernel
theorem dX9_sumCurve_1 : decode cX9_sumCurve 1 = .ok (.aload_n 0, 1) := by decide +kernel
theorem dX9_sumCurve_2 : decode cX9_sumCurve 2 = .ok (.getfield 10, 3) := by decide +kernel
theorem dX9_sumCurve_5 : decode cX9_sumCurve 5 = .ok (.getfield 62, 3) := by decide +kernel
theorem dX9_sumCurve_8 : decode cX9_sumCurve 8 = .ok (.invokestatic 263, 3) := by decide +kernel
theorem dX9_sumCurve_11 : decode cX9_sumCurve 11 = .ok (.aload_n 0, 1) := by decide +kernel
theorem dX9_sumCurve_12 : decode cX9_sumCurve 12 = .ok (.invokevirtual 267, 3) := by decide +kernel
theorem dX9_sumCurve_15 : decode cX9_sumCurve 15 = .ok (.invokestatic 263, 3) := by decide +kernel
theorem dX9_sumCurve_18 : decode cX9_sumCurve 18 = .ok (.lstore_n 3, 1) := by decide +kernel
theorem dX9_sumCurve_19 : decode cX9_sumCurve 19 = .ok (.iconst 0, 1) := by decide +kernel
theorem dX9_sumCurve_20 : decode cX9_sumCurve 20 = .ok (.istore 5, 2) := by decide +kernel
theorem dX9_sumCurve_22 : decode cX9_sumCurve 22 = .ok (.iload 5, 2) := by decide +kernel
theorem dX9_sumCurve_24 : decode cX9_sumCurve 24 = .ok (.aload_n 0, 1) := by decide +kernel
theorem dX9_sumCurve_25 : decode cX9_sumCurve 25 = .ok (.invokevirtual 267, 3) := by decide +kernel
theorem dX9_sumCurve_28 : decode cX9_sumCurve 28 = .ok (.if_icmp .ge 37, 3) := by decide +kernel
theorem dX9_sumCurve_31 : decode cX9_sumCurve 31 = .ok (.iconst 0, 1) := by decide +kernel
theorem dX9_sumCurve_32 : decode cX9_sumCurve 32 = .ok (.istore 6, 2) := by decide +kernel
theorem dX9_sumCurve_34 : decode cX9_sumCurve 34 = .ok (.iload 6, 2) := by decide +kernel
theorem dX9_sumCurve_36 : decode cX9_sumCurve 36 = .ok (.iconst 4, 1) := by decide +kernel
theorem dX9_sumCurve_37 : decode cX9_sumCurve 37 = .ok (.if_icmp .ge 22, 3) := by decide +kernel
theorem dX9_sumCurve_40 : decode cX9_sumCurve 40 = .ok (.lload_n 3, 1) := by decide +kernel
theorem dX9_sumCurve_41 : decode cX9_sumCurve 41 = .ok (.aload_n 0, 1) := by decide +kernel
theorem dX9_sumCurve_42 : decode cX9_sumCurve 42 = .ok (.iload 5, 2) := by decide +kernel
theorem dX9_sumCurve_44 : decode cX9_sumCurve 44 = .ok (.iload 6, 2) := by decide +kernel
theorem dX9_sumCurve_46 : decode cX9_sumCurve 46 = .ok (.invokevirtual 270, 3) := by decide +kernel
theorem dX9_sumCurve_49 : decode cX9_sumCurve 49 = .ok (.invokestatic 263, 3) := by decide +kernel
theorem dX9_sumCurve_52 : decode cX9_sumCurve 52 = .ok (.lstore_n 3, 1) := by decide +kernel
theorem dX9_sumCurve_53 : decode cX9_sumCurve 53 = .ok (.iinc 6 1, 3) := by decide +kernel
theorem dX9_sumCurve_56 : decode cX9_sumCurve 56 = .ok (.goto (-22), 3) := by decide +kernel
theorem dX9_sumCurve_59 : decode cX9_sumCurve 59 = .ok (.iinc 5 1, 3) := by decide +kernel
theorem dX9_sumCurve_62 : decode cX9_sumCurve 62 = .ok (.goto (-40), 3) := by decide +kernel
theorem dX9_sumCurve_65 : decode cX9_sumCurve 65 = .ok (.lload_n 3, 1) := by decide +kernel
theorem dX9_sumCurve_66 : decode cX9_sumCurve 66 = .ok (.aload_n 0, 1) := by decide +kernel
theorem dX9_sumCurve_67 : decode cX9_sumCurve 67 = .ok (.invokevirtual 273, 3) := by decide +kernel
theorem dX9_sumCurve_70 : decode cX9_sumCurve 70 = .ok (.invokestatic 263, 3) := by decide +kernel
theorem dX9_sumCurve_73 : decode cX9_sumCurve 73 = .ok (.aload_n 0, 1) := by decide +kernel
theorem dX9_sumCurve_74 : decode cX9_sumCurve 74 = .ok (.invokevirtual 276, 3) := by decide +kernel
theorem dX9_sumCurve_77 : decode cX9_sumCurve 77 = .ok (.invokestatic 263, 3) := by decide +kernel
theorem dX9_sumCurve_80 : decode cX9_sumCurve 80 = .ok (.lreturn, 1) := by decide +kernel
set_option maxRecDepth 20000 in
theorem ggX9_sumIntervals_X9_intervals : GoodIn wsX9_sumIntervals wsX9_intervals := goodIn_r _ [5, 6, 7, 18, 19, 20, 21, 22, 23, 24, 25, 26, 27] (by decide +kernel) (by decide +kernel)
set_option maxRecDepth 20000 in
theorem gX9_sumIntervals_X9_intervals : GoodIn wsX9_sumIntervals (wsV RX9 279 RX9 yX9_intervals wsX9_intervals) := goodIn_app (goodIn_of _ (by decide +kernel)) ggX9_sumIntervals_X9_intervals
set_option maxRecDepth 20000 in
theorem ggX9_sumIntervals_X9_sumValue : GoodIn wsX9_sumIntervals wsX9_sumValue := goodIn_r _ [10, 11] (by decide +kernel) (by decide +kernel)
set_option maxRecDepth 20000 in
theorem gX9_sumIntervals_X9_sumValue : GoodIn wsX9_sumIntervals (va_wsS RX9 263 yX9_sumValue wsX9_sumValue) := goodIn_app (goodIn_of _ (by decide +kernel)) ggX9_sumIntervals_X9_sumValue
set_option maxRecDepth 20000 in
theorem ggX9_sumIntervals_X9_interval : GoodIn wsX9_sumIntervals wsX9_interval := goodIn_r _ [15, 6, 7, 16, 17, 18, 19, 20, 21, 22, 23, 24, 25, 26, 27] (by decide +kernel) (by decide +kernel)
set_option maxRecDepth 20000 in
theorem gX9_sumIntervals_X9_interval : GoodIn wsX9_sumIntervals (wsV RX9 282 RX9 yX9_interval wsX9_interval) := goodIn_app (goodIn_of _ (by decide +kernel)) ggX9_sumIntervals_X9_interval
theorem dX9_sumIntervals_0 : decode cX9_sumIntervals 0 = .ok (.lload_n 1, 1) := by decide +kernel
theorem dX9_sumIntervals_1 : decode cX9_sumIntervals 1 = .ok (.aload_n 0, 1) := by decide +kernel
theorem dX9_sumIntervals_2 : decode cX9_sumIntervals 2 = .ok (.invokevirtual 279, 3) := by decide +kernel
theorem dX9_sumIntervals_5 : decode cX9_sumIntervals 5 = .ok (.invokestatic 263, 3) := by decide +kernel
theorem dX9_sumIntervals_8 : decode cX9_sumIntervals 8 = .ok (.lstore_n 3, 1) := by decide +kernel
theorem dX9_sumIntervals_9 : decode cX9_sumIntervals 9 = .ok (.iconst 0, 1) := by decide +kernel
theorem dX9_sumIntervals_10 : decode cX9_sumIntervals 10 = .ok (.istore 5, 2) := by decide +kernel
theorem dX9_sumIntervals_12 : decode cX9_sumIntervals 12 = .ok (.iload 5, 2) := by decide +kernel
theorem dX9_sumIntervals_14 : decode cX9_sumIntervals 14 = .ok (.aload_n 0, 1) := by decide +kernel
theorem dX9_sumIntervals_15 : decode cX9_sumIntervals 15 = .ok (.invokevirtual 279, 3) := by decide +kernel
theorem dX9_sumIntervals_18 : decode cX9_sumIntervals 18 = .ok (.if_icmp .ge 31, 3) := by decide +kernel
theorem dX9_sumIntervals_21 : decode cX9_sumIntervals 21 = .ok (.lload_n 3, 1) := by decide +kernel
theorem dX9_sumIntervals_22 : decode cX9_sumIntervals 22 = .ok (.aload_n 0, 1) := by decide +kernel
theorem dX9_sumIntervals_23 : decode cX9_sumIntervals 23 = .ok (.iload 5, 2) := by decide +kernel
theorem dX9_sumIntervals_25 : decode cX9_sumIntervals 25 = .ok (.iconst 0, 1) := by decide +kernel
theorem dX9_sumIntervals_26 : decode cX9_sumIntervals 26 = .ok (.invokevirtual 282, 3) := by decide +kernel
theorem dX9_sumIntervals_29 : decode cX9_sumIntervals 29 = .ok (.invokestatic 263, 3) := by decide +kernel
theorem dX9_sumIntervals_32 : decode cX9_sumIntervals 32 = .ok (.aload_n 0, 1) := by decide +kernel
theorem dX9_sumIntervals_33 : decode cX9_sumIntervals 33 = .ok (.iload 5, 2) := by decide +kernel
theorem dX9_sumIntervals_35 : decode cX9_sumIntervals 35 = .ok (.iconst 1, 1) := by decide +kernel
theorem dX9_sumIntervals_36 : decode cX9_sumIntervals 36 = .ok (.invokevirtual 282, 3) := by decide +kernel
theorem dX9_sumIntervals_39 : decode cX9_sumIntervals 39 = .ok (.invokestatic 263, 3) := by decide +kernel
theorem dX9_sumIntervals_42 : decode cX9_sumIntervals 42 = .ok (.lstore_n 3, 1) := by decide +kernel
theorem dX9_sumIntervals_43 : decode cX9_sumIntervals 43 = .ok (.iinc 5 1, 3) := by decide +kernel
theorem dX9_sumIntervals_46 : decode cX9_sumIntervals 46 = .ok (.goto (-34), 3) := by decide +kernel
theorem dX9_sumIntervals_49 : decode cX9_sumIntervals 49 = .ok (.lload_n 3, 1) := by decide +kernel
theorem dX9_sumIntervals_50 : decode cX9_sumIntervals 50 = .ok (.lreturn, 1) := by decide +kernel
set_option maxRecDepth 20000 in
theorem ggX9_sumLeaves_X9_points : GoodIn wsX9_sumLeaves wsX9_points := goodIn_r _ [7, 1, 8, 9, 80, 81, 82, 83, 84, 85, 86, 87, 88, 89, 90, 91, 92, 93, 94, 95] (by decide +kernel) (by decide +kernel)
set_option maxRecDepth 20000 in
theorem gX9_sumLeaves_X9_points : GoodIn wsX9_sumLeaves (wsV RX9 286 RX9 yX9_points wsX9_points) := goodIn_app (goodIn_of _ (by decide +kernel)) ggX9_sumLeaves_X9_points
set_option maxRecDepth 20000 in
theorem ggX9_sumLeaves_X9_sumValue : GoodIn wsX9_sumLeaves wsX9_sumValue := goodIn_r _ [12, 13] (by decide +kernel) (by decide +kernel)
set_option maxRecDepth 20000 in
theorem gX9_sumLeaves_X9_sumValue : GoodIn wsX9_sumLeaves (va_wsS RX9 263 yX9_sumValue wsX9_sumValue) := goodIn_app (goodIn_of _ (by decide +kernel)) ggX9_sumLeaves_X9_sumValue
set_option maxRecDepth 20000 in
theorem ggX9_sumLeaves_X9_leaves : GoodIn wsX9_sumLeaves wsX9_leaves := goodIn_r _ [17, 1, 18, 19, 80, 81, 82, 83, 84, 85, 86, 87, 88, 89, 90, 91, 92, 93, 96, 97] (by decide +kernel) (by decide +kernel)
set_option maxRecDepth 20000 in
theorem gX9_sumLeaves_X9_leaves : GoodIn wsX9_sumLeaves (wsV RX9 288 RX9 yX9_leaves wsX9_leaves) := goodIn_app (goodIn_of _ (by decide +kernel)) ggX9_sumLeaves_X9_leaves
set_option maxRecDepth 20000 in
theorem ggX9_sumLeaves_X9_leaf : GoodIn wsX9_sumLeaves wsX9_leaf := goodIn_r _ [23, 24, 1, 18, 25, 8, 26, 27, 28, 29, 6, 30, 19, 31, 32, 33, 34, 35, 36, 37, 38, 39, 40, 41, 42, 43, 44, 45, 46, 47, 48, 49, 50, 51, 52, 53, 54, 55, 56, 57, 58, 59, 60, 61, 62, 63, 64, 65, 66, 67, 68, 69, 70, 71, 72, 73, 74, 75, 76, 77, 78, 79, 80, 81, 82, 83, 84, 85, 86, 87, 88, 89, 90, 91, 92, 93, 96, 97, 98, 99, 100, 101, 102, 103, 104, 105, 94, 95] (by decide +kernel) (by decide +kernel)
set_option maxRecDepth 20000 in
theorem gX9_sumLeaves_X9_leaf : GoodIn wsX9_sumLeaves (wsV RX9 291 RX9 yX9_leaf wsX9_leaf) := goodIn_app (goodIn_of _ (by decide +kernel)) ggX9_sumLeaves_X9_leaf
theorem dX9_sumLeaves_0 : decode cX9_sumLeaves 0 = .ok (.lload_n 1, 1) := by decide +kernel
theorem dX9_sumLeaves_1 : decode cX9_sumLeaves 1 = .ok (.aload_n 0, 1) := by decide +kernel
theorem dX9_sumLeaves_2 : decode cX9_sumLeaves 2 = .ok (.invokevirtual 286, 3) := by decide +kernel
theorem dX9_sumLeaves_5 : decode cX9_sumLeaves 5 = .ok (.invokestatic 263, 3) := by decide +kernel
theorem dX9_sumLeaves_8 : decode cX9_sumLeaves 8 = .ok (.aload_n 0, 1) := by decide +kernel
theorem dX9_sumLeaves_9 : decode cX9_sumLeaves 9 = .ok (.getfield 10, 3) := by decide +kernel
theorem dX9_sumLeaves_12 : decode cX9_sumLeaves 12 = .ok (.getfield 192, 3) := by decide +kernel
theorem dX9_sumLeaves_15 : decode cX9_sumLeaves 15 = .ok (.invokestatic 263, 3) := by decide +kernel
theorem dX9_sumLeaves_18 : decode cX9_sumLeaves 18 = .ok (.aload_n 0, 1) := by decide +kernel
theorem dX9_sumLeaves_19 : decode cX9_sumLeaves 19 = .ok (.invokevirtual 288, 3) := by decide +kernel
theorem dX9_sumLeaves_22 : decode cX9_sumLeaves 22 = .ok (.invokestatic 263, 3) := by decide +kernel
theorem dX9_sumLeaves_25 : decode cX9_sumLeaves 25 = .ok (.lstore_n 3, 1) := by decide +kernel
theorem dX9_sumLeaves_26 : decode cX9_sumLeaves 26 = .ok (.iconst 0, 1) := by decide +kernel
theorem dX9_sumLeaves_27 : decode cX9_sumLeaves 27 = .ok (.istore 5, 2) := by decide +kernel
theorem dX9_sumLeaves_29 : decode cX9_sumLeaves 29 = .ok (.iload 5, 2) := by decide +kernel
theorem dX9_sumLeaves_31 : decode cX9_sumLeaves 31 = .ok (.aload_n 0, 1) := by decide +kernel
theorem dX9_sumLeaves_32 : decode cX9_sumLeaves 32 = .ok (.invokevirtual 288, 3) := by decide +kernel
theorem dX9_sumLeaves_35 : decode cX9_sumLeaves 35 = .ok (.if_icmp .ge 37, 3) := by decide +kernel
theorem dX9_sumLeaves_38 : decode cX9_sumLeaves 38 = .ok (.iconst 0, 1) := by decide +kernel
theorem dX9_sumLeaves_39 : decode cX9_sumLeaves 39 = .ok (.istore 6, 2) := by decide +kernel
theorem dX9_sumLeaves_41 : decode cX9_sumLeaves 41 = .ok (.iload 6, 2) := by decide +kernel
theorem dX9_sumLeaves_43 : decode cX9_sumLeaves 43 = .ok (.iconst 5, 1) := by decide +kernel
theorem dX9_sumLeaves_44 : decode cX9_sumLeaves 44 = .ok (.if_icmp .ge 22, 3) := by decide +kernel
theorem dX9_sumLeaves_47 : decode cX9_sumLeaves 47 = .ok (.lload_n 3, 1) := by decide +kernel
theorem dX9_sumLeaves_48 : decode cX9_sumLeaves 48 = .ok (.aload_n 0, 1) := by decide +kernel
theorem dX9_sumLeaves_49 : decode cX9_sumLeaves 49 = .ok (.iload 5, 2) := by decide +kernel
theorem dX9_sumLeaves_51 : decode cX9_sumLeaves 51 = .ok (.iload 6, 2) := by decide +kernel
theorem dX9_sumLeaves_53 : decode cX9_sumLeaves 53 = .ok (.invokevirtual 291, 3) := by decide +kernel
theorem dX9_sumLeaves_56 : decode cX9_sumLeaves 56 = .ok (.invokestatic 263, 3) := by decide +kernel
theorem dX9_sumLeaves_59 : decode cX9_sumLeaves 59 = .ok (.lstore_n 3, 1) := by decide +kernel
theorem dX9_sumLeaves_60 : decode cX9_sumLeaves 60 = .ok (.iinc 6 1, 3) := by decide +kernel
theorem dX9_sumLeaves_63 : decode cX9_sumLeaves 63 = .ok (.goto (-22), 3) := by decide +kernel
theorem dX9_sumLeaves_66 : decode cX9_sumLeaves 66 = .ok (.iinc 5 1, 3) := by decide +kernel
theorem dX9_sumLeaves_69 : decode cX9_sumLeaves 69 = .ok (.goto (-40), 3) := by decide +kernel
theorem dX9_sumLeaves_72 : decode cX9_sumLeaves 72 = .ok (.lload_n 3, 1) := by decide +kernel
theorem dX9_sumLeaves_73 : decode cX9_sumLeaves 73 = .ok (.lreturn, 1) := by decide +kernel
theorem dX9_sumValue_0 : decode cX9_sumValue 0 = .ok (.ldc2_w 294, 3) := by decide +kernel
theorem dX9_sumValue_3 : decode cX9_sumValue 3 = .ok (.lload_n 0, 1) := by decide +kernel
theorem dX9_sumValue_4 : decode cX9_sumValue 4 = .ok (.lmul, 1) := by decide +kernel
theorem dX9_sumValue_5 : decode cX9_sumValue 5 = .ok (.iload_n 2, 1) := by decide +kernel
theorem dX9_sumValue_6 : decode cX9_sumValue 6 = .ok (.i2l, 1) := by decide +kernel
theorem dX9_sumValue_7 : decode cX9_sumValue 7 = .ok (.ladd, 1) := by decide +kernel
theorem dX9_sumValue_8 : decode cX9_sumValue 8 = .ok (.lreturn, 1) := by decide +kernel
set_option maxRecDepth 20000 in
theorem ggX10_init_X10_hilbert : GoodIn wsX10_init wsX10_hilbert := goodIn_r _ [31, 7, 63, 64, 65, 66, 67, 68, 69, 70, 71, 72, 73, 74, 75, 76, 77, 78, 79, 80, 81, 82, 83, 84, 85, 86, 87, 88, 89, 90, 91] (by decide +kernel) (by decide +kernel)
set_option maxRecDepth 20000 in
theorem gX10_init_X10_hilbert : GoodIn wsX10_init (wsV RX10 75 RX10 yX10_hilbert wsX10_hilbert) := goodIn_app (goodIn_of _ (by decide +kernel)) ggX10_init_X10_hilbert
set_option maxRecDepth 20000 in
theorem ggX10_init_X10_numbers : GoodIn wsX10_init wsX10_numbers := goodIn_r _ [35, 4, 22, 21, 36, 37, 38, 30, 39, 40, 41, 42, 43, 7, 44, 45, 46, 47, 48, 49, 50, 51, 52, 53, 11, 12, 13, 54, 55, 56, 57, 58, 10, 59, 60, 61, 62, 25, 63, 64, 65, 66, 67, 68, 69, 70, 71, 72, 73, 74, 75, 76, 77, 78, 79, 80, 81, 82, 83, 84, 85, 86, 87, 88, 89, 90, 91] (by decide +kernel) (by decide +kernel)
set_option maxRecDepth 20000 in
theorem gX10_init_X10_numbers : GoodIn wsX10_init (wsV RX10 79 RX10 yX10_numbers wsX10_numbers) := goodIn_app (goodIn_of _ (by decide +kernel)) ggX10_init_X10_numbers
theorem dX10_init_0 : decode cX10_init 0 = .ok (.aload_n 0, 1) := by decide +kernel
theorem dX10_init_1 : decode cX10_init 1 = .ok (.invokespecial 1, 3) := by decide +kernel
theorem dX10_init_4 : decode cX10_init 4 = .ok (.aload_n 0, 1) := by decide +kernel
theorem dX10_init_5 : decode cX10_init 5 = .ok (.iconst 3, 1) := by decide +kernel
theorem dX10_init_6 : decode cX10_init 6 = .ok (.putfield 7, 3) := by decide +kernel
theorem dX10_init_9 : decode cX10_init 9 = .ok (.aload_n 0, 1) := by decide +kernel
theorem dX10_init_10 : decode cX10_init 10 = .ok (.iconst 3, 1) := by decide +kernel
theorem dX10_init_11 : decode cX10_init 11 = .ok (.newarray .int, 2) := by decide +kernel
theorem dX10_init_13 : decode cX10_init 13 = .ok (.putfield 13, 3) := by decide +kernel
theorem dX10_init_16 : decode cX10_init 16 = .ok (.aload_n 0, 1) := by decide +kernel
theorem dX10_init_17 : decode cX10_init 17 = .ok (.sipush 192, 3) := by decide +kernel
theorem dX10_init_20 : decode cX10_init 20 = .ok (.newarray .int, 2) := by decide +kernel
theorem dX10_init_22 : decode cX10_init 22 = .ok (.putfield 17, 3) := by decide +kernel
theorem dX10_init_25 : decode cX10_init 25 = .ok (.aload_n 0, 1) := by decide +kernel
theorem dX10_init_26 : decode cX10_init 26 = .ok (.bipush 7, 2) := by decide +kernel
theorem dX10_init_28 : decode cX10_init 28 = .ok (.putfield 20, 3) := by decide +kernel
theorem dX10_init_31 : decode cX10_init 31 = .ok (.aload_n 0, 1) := by decide +kernel
theorem dX10_init_32 : decode cX10_init 32 = .ok (.bipush 7, 2) := by decide +kernel
theorem dX10_init_34 : decode cX10_init 34 = .ok (.putfield 23, 3) := by decide +kernel
theorem dX10_init_37 : decode cX10_init 37 = .ok (.aload_n 0, 1) := by decide +kernel
theorem dX10_init_38 : decode cX10_init 38 = .ok (.bipush 40, 2) := by decide +kernel
theorem dX10_init_40 : decode cX10_init 40 = .ok (.newarray .int, 2) := by decide +kernel
theorem dX10_init_42 : decode cX10_init 42 = .ok (.putfield 26, 3) := by decide +kernel
theorem dX10_init_45 : decode cX10_init 45 = .ok (.aload_n 0, 1) := by decide +kernel
theorem dX10_init_46 : decode cX10_init 46 = .ok (.iconst 2, 1) := by decide +kernel
theorem dX10_init_47 : decode cX10_init 47 = .ok (.putfield 29, 3) := by decide +kernel
theorem dX10_init_50 : decode cX10_init 50 = .ok (.aload_n 0, 1) := by decide +kernel
theorem dX10_init_51 : decode cX10_init 51 = .ok (.sipush 4096, 3) := by decide +kernel
theorem dX10_init_54 : decode cX10_init 54 = .ok (.newarray .int, 2) := by decide +kernel
theorem dX10_init_56 : decode cX10_init 56 = .ok (.putfield 32, 3) := by decide +kernel
theorem dX10_init_59 : decode cX10_init 59 = .ok (.aload_n 0, 1) := by decide +kernel
theorem dX10_init_60 : decode cX10_init 60 = .ok (.sipush 4096, 3) := by decide +kernel
theorem dX10_init_63 : decode cX10_init 63 = .ok (.newarray .int, 2) := by decide +kernel
theorem dX10_init_65 : decode cX10_init 65 = .ok (.putfield 35, 3) := by decide +kernel
theorem dX10_init_68 : decode cX10_init 68 = .ok (.aload_n 0, 1) := by decide +kernel
theorem dX10_init_69 : decode cX10_init 69 = .ok (.bipush 80, 2) := by decide +kernel
theorem dX10_init_71 : decode cX10_init 71 = .ok (.newarray .int, 2) := by decide +kernel
theorem dX10_init_73 : decode cX10_init 73 = .ok (.putfield 38, 3) := by decide +kernel
theorem dX10_init_76 : decode cX10_init 76 = .ok (.aload_n 0, 1) := by decide +kernel
theorem dX10_init_77 : decode cX10_init 77 = .ok (.sipush 200, 3) := by decide +kernel
theorem dX10_init_80 : decode cX10_init 80 = .ok (.newarray .int, 2) := by decide +kernel
theorem dX10_init_82 : decode cX10_init 82 = .ok (.putfield 41, 3) := by decide +kernel
theorem dX10_init_85 : decode cX10_init 85 = .ok (.aload_n 0, 1) := by decide +kernel
theorem dX10_init_86 : decode cX10_init 86 = .ok (.sipush 128, 3) := by decide +kernel
theorem dX10_init_89 : decode cX10_init 89 = .ok (.newarray .int, 2) := by decide +kernel
theorem dX10_init_91 : decode cX10_init 91 = .ok (.putfield 44, 3) := by decide +kernel
theorem dX10_init_94 : decode cX10_init 94 = .ok (.aload_n 0, 1) := by decide +kernel
theorem dX10_init_95 : decode cX10_init 95 = .ok (.sipush 8192, 3) := by decide +kernel
theorem dX10_init_98 : decode cX10_init 98 = .ok (.newarray .int, 2) := by decide +kernel
theorem dX10_init_100 : decode cX10_init 100 = .ok (.putfield 47, 3) := by decide +kernel
theorem dX10_init_103 : decode cX10_init 103 = .ok (.aload_n 0, 1) := by decide +kernel
theorem dX10_init_104 : decode cX10_init 104 = .ok (.sipush 8192, 3) := by decide +kernel
theorem dX10_init_107 : decode cX10_init 107 = .ok (.newarray .int, 2) := by decide +kernel
theorem dX10_init_109 : decode cX10_init 109 = .ok (.putfield 50, 3) := by decide +kernel
theorem dX10_init_112 : decode cX10_init 112 = .ok (.aload_n 0, 1) := by decide +kernel
theorem dX10_init_113 : decode cX10_init 113 = .ok (.iconst 2, 1) := by decide +kernel
theorem dX10_init_114 : decode cX10_init 114 = .ok (.newarray .boolean, 2) := by decide +kernel
theorem dX10_init_116 : decode cX10_init 116 = .ok (.putfield 53, 3) := by decide +kernel
theorem dX10_init_119 : decode cX10_init 119 = .ok (.aload_n 0, 1) := by decide +kernel
theorem dX10_init_120 : decode cX10_init 120 = .ok (.sipush 4096, 3) := by decide +kernel
theorem dX10_init_123 : decode cX10_init 123 = .ok (.newarray .int, 2) := by decide +kernel
theorem dX10_init_125 : decode cX10_init 125 = .ok (.putfield 57, 3) := by decide +kernel
theorem dX10_init_128 : decode cX10_init 128 = .ok (.aload_n 0, 1) := by decide +kernel
theorem dX10_init_129 : decode cX10_init 129 = .ok (.sipush 4096, 3) := by decide +kernel
theorem dX10_init_132 : decode cX10_init 132 = .ok (.newarray .int, 2) := by decide +kernel
theorem dX10_init_134 : decode cX10_init 134 = .ok (.putfield 60, 3) := by decide +kernel
theorem dX10_init_137 : decode cX10_init 137 = .ok (.aload_n 0, 1) := by decide +kernel
theorem dX10_init_138 : decode cX10_init 138 = .ok (.sipush 4096, 3) := by decide +kernel
theorem dX10_init_141 : decode cX10_init 141 = .ok (.newarray .int, 2) := by decide +kernel
theorem dX10_init_143 : decode cX10_init 143 = .ok (.putfield 63, 3) := by decide +kernel
theorem dX10_init_146 : decode cX10_init 146 = .ok (.aload_n 0, 1) := by decide +kernel
theorem dX10_init_147 : decode cX10_init 147 = .ok (.sipush 4096, 3) := by decide +kernel
theorem dX10_init_150 : decode cX10_init 150 = .ok (.newarray .int, 2) := by decide +kernel
theorem dX10_init_152 : decode cX10_init 152 = .ok (.putfield 66, 3) := by decide +kernel
theorem dX10_init_155 : decode cX10_init 155 = .ok (.aload_n 0, 1) := by decide +kernel
theorem dX10_init_156 : decode cX10_init 156 = .ok (.sipush 4096, 3) := by decide +kernel
theorem dX10_init_159 : decode cX10_init 159 = .ok (.newarray .int, 2) := by decide +kernel
theorem dX10_init_161 : decode cX10_init 161 = .ok (.putfield 69, 3) := by decide +kernel
theorem dX10_init_164 : decode cX10_init 164 = .ok (.aload_n 0, 1) := by decide +kernel
theorem dX10_init_165 : decode cX10_init 165 = .ok (.bipush 64, 2) := by decide +kernel
theorem dX10_init_167 : decode cX10_init 167 = .ok (.newarray .int, 2) := by decide +kernel
theorem dX10_init_169 : decode cX10_init 169 = .ok (.putfield 72, 3) := by decide +kernel
theorem dX10_init_172 : decode cX10_init 172 = .ok (.aload_n 0, 1) := by decide +kernel
theorem dX10_init_173 : decode cX10_init 173 = .ok (.getfield 13, 3) := by decide +kernel
theorem dX10_init_176 : decode cX10_init 176 = .ok (.iconst 0, 1) := by decide +kernel
theorem dX10_init_177 : decode cX10_init 177 = .ok (.iconst 1, 1) := by decide +kernel
theorem dX10_init_178 : decode cX10_init 178 = .ok (.iastore, 1) := by decide +kernel
theorem dX10_init_179 : decode cX10_init 179 = .ok (.aload_n 0, 1) := by decide +kernel
theorem dX10_init_180 : decode cX10_init 180 = .ok (.getfield 13, 3) := by decide +kernel
theorem dX10_init_183 : decode cX10_init 183 = .ok (.iconst 1, 1) := by decide +kernel
theorem dX10_init_184 : decode cX10_init 184 = .ok (.iconst 4, 1) := by decide +kernel
theorem dX10_init_185 : decode cX10_init 185 = .ok (.iastore, 1) := by decide +kernel
theorem dX10_init_186 : decode cX10_init 186 = .ok (.aload_n 0, 1) := by decide +kernel
theorem dX10_init_187 : decode cX10_init 187 = .ok (.getfield 13, 3) := by decide +kernel
theorem dX10_init_190 : decode cX10_init 190 = .ok (.iconst 2, 1) := by decide +kernel
theorem dX10_init_191 : decode cX10_init 191 = .ok (.iconst 1, 1) := by decide +kernel
theorem dX10_init_192 : decode cX10_init 192 = .ok (.iastore, 1) := by decide +kernel
theorem dX10_init_193 : decode cX10_init 193 = .ok (.iconst 0, 1) := by decide +kernel
theorem dX10_init_194 : decode cX10_init 194 = .ok (.istore_n 1, 1) := by decide +kernel
theorem dX10_init_195 : decode cX10_init 195 = .ok (.iload_n 1, 1) := by decide +kernel
theorem dX10_init_196 : decode cX10_init 196 = .ok (.iconst 4, 1) := by decide +kernel
theorem dX10_init_197 : decode cX10_init 197 = .ok (.if_icmp .ge 27, 3) := by decide +kernel
theorem dX10_init_200 : decode cX10_init 200 = .ok (.aload_n 0, 1) := by decide +kernel
theorem dX10_init_201 : decode cX10_init 201 = .ok (.getfield 17, 3) := by decide +kernel
theorem dX10_init_204 : decode cX10_init 204 = .ok (.iload_n 1, 1) := by decide +kernel
theorem dX10_init_205 : decode cX10_init 205 = .ok (.iload_n 1, 1) := by decide +kernel
theorem dX10_init_206 : decode cX10_init 206 = .ok (.iastore, 1) := by decide +kernel
theorem dX10_init_207 : decode cX10_init 207 = .ok (.aload_n 0, 1) := by decide +kernel
theorem dX10_init_208 : decode cX10_init 208 = .ok (.getfield 17, 3) := by decide +kernel
theorem dX10_init_211 : decode cX10_init 211 = .ok (.sipush 128, 3) := by decide +kernel
theorem dX10_init_214 : decode cX10_init 214 = .ok (.iload_n 1, 1) := by decide +kernel
theorem dX10_init_215 : decode cX10_init 215 = .ok (.iadd, 1) := by decide +kernel
theorem dX10_init_216 : decode cX10_init 216 = .ok (.iload_n 1, 1) := by decide +kernel
theorem dX10_init_217 : decode cX10_init 217 = .ok (.iastore, 1) := by decide +kernel
theorem dX10_init_218 : decode cX10_init 218 = .ok (.iinc 1 1, 3) := by decide +kernel
theorem dX10_init_221 : decode cX10_init 221 = .ok (.goto (-26), 3) := by decide +kernel
theorem dX10_init_224 : decode cX10_init 224 = .ok (.aload_n 0, 1) := by decide +kernel
theorem dX10_init_225 : decode cX10_init 225 = .ok (.iconst 0, 1) := by decide +kernel
theorem dX10_init_226 : decode cX10_init 226 = .ok (.sipush 231, 3) := by decide +kernel
theorem dX10_init_229 : decode cX10_init 229 = .ok (.sipush 1002, 3) := by decide +kernel
theorem dX10_init_232 : decode cX10_init 232 = .ok (.invokevirtual 75, 3) := by decide +kernel
theorem dX10_init_235 : decode cX10_init 235 = .ok (.aload_n 0, 1) := by decide +kernel
theorem dX10_init_236 : decode cX10_init 236 = .ok (.iconst 1, 1) := by decide +kernel
theorem dX10_init_237 : decode cX10_init 237 = .ok (.sipush 132, 3) := by decide +kernel
theorem dX10_init_240 : decode cX10_init 240 = .ok (.bipush 113, 2) := by decide +kernel
theorem dX10_init_242 : decode cX10_init 242 = .ok (.invokevirtual 75, 3) := by decide +kernel
theorem dX10_init_245 : decode cX10_init 245 = .ok (.aload_n 0, 1) := by decide +kernel
theorem dX10_init_246 : decode cX10_init 246 = .ok (.iconst 2, 1) := by decide +kernel
theorem dX10_init_247 : decode cX10_init 247 = .ok (.sipush 3201, 3) := by decide +kernel
theorem dX10_init_250 : decode cX10_init 250 = .ok (.sipush 3220, 3) := by decide +kernel
theorem dX10_init_253 : decode cX10_init 253 = .ok (.invokevirtual 75, 3) := by decide +kernel
theorem dX10_init_256 : decode cX10_init 256 = .ok (.aload_n 0, 1) := by decide +kernel
theorem dX10_init_257 : decode cX10_init 257 = .ok (.iconst 3, 1) := by decide +kernel
theorem dX10_init_258 : decode cX10_init 258 = .ok (.sipush 3102, 3) := by decide +kernel
theorem dX10_init_261 : decode cX10_init 261 = .ok (.sipush 2331, 3) := by decide +kernel
theorem dX10_init_264 : decode cX10_init 264 = .ok (.invokevirtual 75, 3) := by decide +kernel
theorem dX10_init_267 : decode cX10_init 267 = .ok (.aload_n 0, 1) := by decide +kernel
theorem dX10_init_268 : decode cX10_init 268 = .ok (.invokevirtual 79, 3) := by decide +kernel
theorem dX10_init_271 : decode cX10_init 271 = .ok (.return_, 1) := by decide +kernel
theorem dX10_hilbert_0 : decode cX10_hilbert 0 = .ok (.iload_n 2, 1) := by decide +kernel
theorem dX10_hilbert_1 : decode cX10_hilbert 1 = .ok (.istore 4, 2) := by decide +kernel
theorem dX10_hilbert_3 : decode cX10_hilbert 3 = .ok (.iload_n 3, 1) := by decide +kernel
theorem dX10_hilbert_4 : decode cX10_hilbert 4 = .ok (.istore 5, 2) := by decide +kernel
theorem dX10_hilbert_6 : decode cX10_hilbert 6 = .ok (.iconst 3, 1) := by decide +kernel
theorem dX10_hilbert_7 : decode cX10_hilbert 7 = .ok (.istore 6, 2) := by decide +kernel
theorem dX10_hilbert_9 : decode cX10_hilbert 9 = .ok (.iload 6, 2) := by decide +kernel
theorem dX10_hilbert_11 : decode cX10_hilbert 11 = .ok (.ifCond .lt 65, 3) := by decide +kernel
theorem dX10_hilbert_14 : decode cX10_hilbert 14 = .ok (.aload_n 0, 1) := by decide +kernel
theorem dX10_hilbert_15 : decode cX10_hilbert 15 = .ok (.getfield 17, 3) := by decide +kernel
theorem dX10_hilbert_18 : decode cX10_hilbert 18 = .ok (.bipush 64, 2) := by decide +kernel
theorem dX10_hilbert_20 : decode cX10_hilbert 20 = .ok (.bipush 8, 2) := by decide +kernel
theorem dX10_hilbert_22 : decode cX10_hilbert 22 = .ok (.iload_n 1, 1) := by decide +kernel
theorem dX10_hilbert_23 : decode cX10_hilbert 23 = .ok (.imul, 1) := by decide +kernel
theorem dX10_hilbert_24 : decode cX10_hilbert 24 = .ok (.iadd, 1) := by decide +kernel
theorem dX10_hilbert_25 : decode cX10_hilbert 25 = .ok (.iload 6, 2) := by decide +kernel
theorem dX10_hilbert_27 : decode cX10_hilbert 27 = .ok (.iadd, 1) := by decide +kernel
theorem dX10_hilbert_28 : decode cX10_hilbert 28 = .ok (.iload 4, 2) := by decide +kernel
theorem dX10_hilbert_30 : decode cX10_hilbert 30 = .ok (.bipush 10, 2) := by decide +kernel
theorem dX10_hilbert_32 : decode cX10_hilbert 32 = .ok (.irem, 1) := by decide +kernel
theorem dX10_hilbert_33 : decode cX10_hilbert 33 = .ok (.iastore, 1) := by decide +kernel
theorem dX10_hilbert_34 : decode cX10_hilbert 34 = .ok (.aload_n 0, 1) := by decide +kernel
theorem dX10_hilbert_35 : decode cX10_hilbert 35 = .ok (.getfield 17, 3) := by decide +kernel
theorem dX10_hilbert_38 : decode cX10_hilbert 38 = .ok (.bipush 64, 2) := by decide +kernel
theorem dX10_hilbert_40 : decode cX10_hilbert 40 = .ok (.bipush 8, 2) := by decide +kernel
theorem dX10_hilbert_42 : decode cX10_hilbert 42 = .ok (.iload_n 1, 1) := by decide +kernel
theorem dX10_hilbert_43 : decode cX10_hilbert 43 = .ok (.imul, 1) := by decide +kernel
theorem dX10_hilbert_44 : decode cX10_hilbert 44 = .ok (.iadd, 1) := by decide +kernel
theorem dX10_hilbert_45 : decode cX10_hilbert 45 = .ok (.iconst 4, 1) := by decide +kernel
theorem dX10_hilbert_46 : decode cX10_hilbert 46 = .ok (.iadd, 1) := by decide +kernel
theorem dX10_hilbert_47 : decode cX10_hilbert 47 = .ok (.iload 6, 2) := by decide +kernel
theorem dX10_hilbert_49 : decode cX10_hilbert 49 = .ok (.iadd, 1) := by decide +kernel
theorem dX10_hilbert_50 : decode cX10_hilbert 50 = .ok (.iload 5, 2) := by decide +kernel
theorem dX10_hilbert_52 : decode cX10_hilbert 52 = .ok (.bipush 10, 2) := by decide +kernel
theorem dX10_hilbert_54 : decode cX10_hilbert 54 = .ok (.irem, 1) := by decide +kernel
theorem dX10_hilbert_55 : decode cX10_hilbert 55 = .ok (.iastore, 1) := by decide +kernel
theorem dX10_hilbert_56 : decode cX10_hilbert 56 = .ok (.iload 4, 2) := by decide +kernel
theorem dX10_hilbert_58 : decode cX10_hilbert 58 = .ok (.bipush 10, 2) := by decide +kernel
theorem dX10_hilbert_60 : decode cX10_hilbert 60 = .ok (.idiv, 1) := by decide +kernel
theorem dX10_hilbert_61 : decode cX10_hilbert 61 = .ok (.istore 4, 2) := by decide +kernel
theorem dX10_hilbert_63 : decode cX10_hilbert 63 = .ok (.iload 5, 2) := by decide +kernel
theorem dX10_hilbert_65 : decode cX10_hilbert 65 = .ok (.bipush 10, 2) := by decide +kernel
theorem dX10_hilbert_67 : decode cX10_hilbert 67 = .ok (.idiv, 1) := by decide +kernel
theorem dX10_hilbert_68 : decode cX10_hilbert 68 = .ok (.istore 5, 2) := by decide +kernel
theorem dX10_hilbert_70 : decode cX10_hilbert 70 = .ok (.iinc 6 (-1), 3) := by decide +kernel
theorem dX10_hilbert_73 : decode cX10_hilbert 73 = .ok (.goto (-64), 3) := by decide +kernel
theorem dX10_hilbert_76 : decode cX10_hilbert 76 = .ok (.return_, 1) := by decide +kernel
theorem dX10_in_0 : decode cX10_in 0 = .ok (.iload_n 0, 1) := by decide +kernel
theorem dX10_in_1 : decode cX10_in 1 = .ok (.iload_n 1, 1) := by decide +kernel
theorem dX10_in_2 : decode cX10_in 2 = .ok (.if_icmp .lt 12, 3) := by decide +kernel
theorem dX10_in_5 : decode cX10_in 5 = .ok (.iload_n 0, 1) := by decide +kernel
theorem dX10_in_6 : decode cX10_in 6 = .ok (.iload_n 2, 1) := by decide +kernel
theorem dX10_in_7 : decode cX10_in 7 = .ok (.if_icmp .gt 7, 3) := by decide +kernel
theorem dX10_in_10 : decode cX10_in 10 = .ok (.iconst 1, 1) := by decide +kernel
theorem dX10_in_11 : decode cX10_in 11 = .ok (.goto 4, 3) := by decide +kernel
theorem dX10_in_14 : decode cX10_in 14 = .ok (.iconst 0, 1) := by decide +kernel
theorem dX10_in_15 : decode cX10_in 15 = .ok (.ireturn, 1) := by decide +kernel
theorem dX10_side_0 : decode cX10_side 0 = .ok (.iconst 1, 1) := by decide +kernel
theorem dX10_side_1 : decode cX10_side 1 = .ok (.aload_n 0, 1) := by decide +kernel
theorem dX10_side_2 : decode cX10_side 2 = .ok (.getfield 7, 3) := by decide +kernel
theorem dX10_side_5 : decode cX10_side 5 = .ok (.ishl, 1) := by decide +kernel
theorem dX10_side_6 : decode cX10_side 6 = .ok (.ireturn, 1) := by decide +kernel
theorem dX10_all_0 : decode cX10_all 0 = .ok (.iconst 1, 1) := by decide +kernel
theorem dX10_all_1 : decode cX10_all 1 = .ok (.iconst 2, 1) := by decide +kernel
theorem dX10_all_2 : decode cX10_all 2 = .ok (.aload_n 0, 1) := by decide +kernel
theorem dX10_all_3 : decode cX10_all 3 = .ok (.getfield 7, 3) := by decide +kernel
theorem dX10_all_6 : decode cX10_all 6 = .ok (.imul, 1) := by decide +kernel
theorem dX10_all_7 : decode cX10_all 7 = .ok (.ishl, 1) := by decide +kernel
theorem dX10_all_8 : decode cX10_all 8 = .ok (.ireturn, 1) := by decide +kernel
theorem dX10_quarter_0 : decode cX10_quarter 0 = .ok (.aload_n 0, 1) := by decide +kernel
theorem dX10_quarter_1 : decode cX10_quarter 1 = .ok (.getfield 17, 3) := by decide +kernel
theorem dX10_quarter_4 : decode cX10_quarter 4 = .ok (.bipush 64, 2) := by decide +kernel
theorem dX10_quarter_6 : decode cX10_quarter 6 = .ok (.aload_n 0, 1) := by decide +kernel
theorem dX10_quarter_7 : decode cX10_quarter 7 = .ok (.getfield 82, 3) := by decide +kernel
theorem dX10_quarter_10 : decode cX10_quarter 10 = .ok (.imul, 1) := by decide +kernel
theorem dX10_quarter_11 : decode cX10_quarter 11 = .ok (.bipush 8, 2) := by decide +kernel
theorem dX10_quarter_13 : decode cX10_quarter 13 = .ok (.iload_n 1, 1) := by decide +kernel
theorem dX10_quarter_14 : decode cX10_quarter 14 = .ok (.imul, 1) := by decide +kernel
theorem dX10_quarter_15 : decode cX10_quarter 15 = .ok (.iadd, 1) := by decide +kernel
theorem dX10_quarter_16 : decode cX10_quarter 16 = .ok (.iload_n 2, 1) := by decide +kernel
theorem dX10_quarter_17 : decode cX10_quarter 17 = .ok (.iadd, 1) := by decide +kernel
theorem dX10_quarter_18 : decode cX10_quarter 18 = .ok (.iaload, 1) := by decide +kernel
theorem dX10_quarter_19 : decode cX10_quarter 19 = .ok (.ireturn, 1) := by decide +kernel
theorem dX10_stateFor_0 : decode cX10_stateFor 0 = .ok (.aload_n 0, 1) := by decide +kernel
theorem dX10_stateFor_1 : decode cX10_stateFor 1 = .ok (.getfield 17, 3) := by decide +kernel
theorem dX10_stateFor_4 : decode cX10_stateFor 4 = .ok (.bipush 64, 2) := by decide +kernel
theorem dX10_stateFor_6 : decode cX10_stateFor 6 = .ok (.aload_n 0, 1) := by decide +kernel
theorem dX10_stateFor_7 : decode cX10_stateFor 7 = .ok (.getfield 82, 3) := by decide +kernel
theorem dX10_stateFor_10 : decode cX10_stateFor 10 = .ok (.imul, 1) := by decide +kernel
theorem dX10_stateFor_11 : decode cX10_stateFor 11 = .ok (.bipush 8, 2) := by decide +kernel
theorem dX10_stateFor_13 : decode cX10_stateFor 13 = .ok (.iload_n 1, 1) := by decide +kernel
theorem dX10_stateFor_14 : decode cX10_stateFor 14 = .ok (.imul, 1) := by decide +kernel
theorem dX10_stateFor_15 : decode cX10_stateFor 15 = .ok (.iadd, 1) := by decide +kernel
theorem dX10_stateFor_16 : decode cX10_stateFor 16 = .ok (.iconst 4, 1) := by decide +kernel
theorem dX10_stateFor_17 : decode cX10_stateFor 17 = .ok (.iadd, 1) := by decide +kernel
theorem dX10_stateFor_18 : decode cX10_stateFor 18 = .ok (.iload_n 2, 1) := by decide +kernel
theorem dX10_stateFor_19 : decode cX10_stateFor 19 = .ok (.iadd, 1) := by decide +kernel
theorem dX10_stateFor_20 : decode cX10_stateFor 20 = .ok (.iaload, 1) := by decide +kernel
theorem dX10_stateFor_21 : decode cX10_stateFor 21 = .ok (.ireturn, 1) := by decide +kernel
set_option maxRecDepth 20000 in
theorem ggX10_numbers_X10_all : GoodIn wsX10_numbers wsX10_all := goodIn_r _ [8, 1, 38, 39, 40, 41, 42, 43, 44, 45, 46, 47, 48, 49, 50, 51, 52, 53, 54, 55, 56, 57, 58, 59, 60, 61, 62, 63, 64, 65, 66] (by decide +kernel) (by decide +kernel)
set_option maxRecDepth 20000 in
theorem gX10_numbers_X10_all : GoodIn wsX10_numbers (wsV RX10 85 RX10 yX10_all wsX10_all) := goodIn_app (goodIn_of _ (by decide +kernel)) ggX10_numbers_X10_all
set_option maxRecDepth 20000 in
theorem ggX10_numbers_X10_quarter : GoodIn wsX10_numbers wsX10_quarter := goodIn_r _ [12, 13, 14, 38, 39, 40, 41, 42, 43, 44, 45, 46, 47, 48, 49, 50, 51, 52, 53, 54, 55, 56, 57, 58, 59, 60, 61, 62, 63, 64, 65, 66] (by decide +kernel) (by decide +kernel)
set_option maxRecDepth 20000 in
theorem gX10_numbers_X10_quarter : GoodIn wsX10_numbers (wsV RX10 89 RX10 yX10_quarter wsX10_quarter) := goodIn_app (goodIn_of _ (by decide +kernel)) ggX10_numbers_X10_quarter
set_option maxRecDepth 20000 in
theorem ggX10_numbers_X10_stateFor : GoodIn wsX10_numbers wsX10_stateFor := goodIn_r _ [18, 13, 14, 38, 39, 40, 41, 42, 43, 44, 45, 46, 47, 48, 49, 50, 51, 52, 53, 54, 55, 56, 57, 58, 59, 60, 61, 62, 63, 64, 65, 66] (by decide +kernel) (by decide +kernel)
set_option maxRecDepth 20000 in
theorem gX10_numbers_X10_stateFor : GoodIn wsX10_numbers (wsV RX10 93 RX10 yX10_stateFor wsX10_stateFor) := goodIn_app (goodIn_of _ (by decide +kernel)) ggX10_numbers_X10_stateFor
