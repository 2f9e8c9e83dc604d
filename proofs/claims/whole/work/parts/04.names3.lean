theorem dX1_sideOf_27 : decode cX1_sideOf 27 = .ok (.iload_n 2, 1) := by decide +kernel
theorem dX1_sideOf_28 : decode cX1_sideOf 28 = .ok (.if_icmp .ge 10, 3) := by decide +kernel
theorem dX1_sideOf_31 : decode cX1_sideOf 31 = .ok (.iload_n 3, 1) := by decide +kernel
theorem dX1_sideOf_32 : decode cX1_sideOf 32 = .ok (.iconst 2, 1) := by decide +kernel
theorem dX1_sideOf_33 : decode cX1_sideOf 33 = .ok (.imul, 1) := by decide +kernel
theorem dX1_sideOf_34 : decode cX1_sideOf 34 = .ok (.istore_n 3, 1) := by decide +kernel
theorem dX1_sideOf_35 : decode cX1_sideOf 35 = .ok (.goto (-17), 3) := by decide +kernel
theorem dX1_sideOf_38 : decode cX1_sideOf 38 = .ok (.iload_n 3, 1) := by decide +kernel
theorem dX1_sideOf_39 : decode cX1_sideOf 39 = .ok (.ireturn, 1) := by decide +kernel
set_option maxRecDepth 20000 in
theorem ggX1_countPoints_X3_countBetween : GoodIn wsX1_countPoints wsX3_countBetween := goodIn_r _ [6, 7, 8, 9, 10, 5, 11, 12, 13, 14, 15, 16, 17, 18, 21, 22, 23, 24, 25, 26] (by decide +kernel) (by decide +kernel)
set_option maxRecDepth 20000 in
theorem gX1_countPoints_X3_countBetween : GoodIn wsX1_countPoints (wsV RX1 32 RX3 yX3_countBetween wsX3_countBetween) := goodIn_app (goodIn_of _ (by decide +kernel)) ggX1_countPoints_X3_countBetween
theorem dX1_countPoints_0 : decode cX1_countPoints 0 = .ok (.aload_n 3, 1) := by decide +kernel
theorem dX1_countPoints_1 : decode cX1_countPoints 1 = .ok (.aload_n 0, 1) := by decide +kernel
theorem dX1_countPoints_2 : decode cX1_countPoints 2 = .ok (.getfield 15, 3) := by decide +kernel
theorem dX1_countPoints_5 : decode cX1_countPoints 5 = .ok (.iload_n 1, 1) := by decide +kernel
theorem dX1_countPoints_6 : decode cX1_countPoints 6 = .ok (.iaload, 1) := by decide +kernel
theorem dX1_countPoints_7 : decode cX1_countPoints 7 = .ok (.aload_n 0, 1) := by decide +kernel
theorem dX1_countPoints_8 : decode cX1_countPoints 8 = .ok (.getfield 15, 3) := by decide +kernel
theorem dX1_countPoints_11 : decode cX1_countPoints 11 = .ok (.iload_n 1, 1) := by decide +kernel
theorem dX1_countPoints_12 : decode cX1_countPoints 12 = .ok (.iconst 1, 1) := by decide +kernel
theorem dX1_countPoints_13 : decode cX1_countPoints 13 = .ok (.iadd, 1) := by decide +kernel
theorem dX1_countPoints_14 : decode cX1_countPoints 14 = .ok (.iaload, 1) := by decide +kernel
theorem dX1_countPoints_15 : decode cX1_countPoints 15 = .ok (.aload_n 2, 1) := by decide +kernel
theorem dX1_countPoints_16 : decode cX1_countPoints 16 = .ok (.invokevirtual 32, 3) := by decide +kernel
theorem dX1_countPoints_19 : decode cX1_countPoints 19 = .ok (.ireturn, 1) := by decide +kernel
theorem dX1_leafOfIndex_0 : decode cX1_leafOfIndex 0 = .ok (.iconst 0, 1) := by decide +kernel
theorem dX1_leafOfIndex_1 : decode cX1_leafOfIndex 1 = .ok (.istore_n 2, 1) := by decide +kernel
theorem dX1_leafOfIndex_2 : decode cX1_leafOfIndex 2 = .ok (.aload_n 0, 1) := by decide +kernel
theorem dX1_leafOfIndex_3 : decode cX1_leafOfIndex 3 = .ok (.getfield 9, 3) := by decide +kernel
theorem dX1_leafOfIndex_6 : decode cX1_leafOfIndex 6 = .ok (.iconst 1, 1) := by decide +kernel
theorem dX1_leafOfIndex_7 : decode cX1_leafOfIndex 7 = .ok (.isub, 1) := by decide +kernel
theorem dX1_leafOfIndex_8 : decode cX1_leafOfIndex 8 = .ok (.istore_n 3, 1) := by decide +kernel
theorem dX1_leafOfIndex_9 : decode cX1_leafOfIndex 9 = .ok (.iconst 0, 1) := by decide +kernel
theorem dX1_leafOfIndex_10 : decode cX1_leafOfIndex 10 = .ok (.istore 4, 2) := by decide +kernel
theorem dX1_leafOfIndex_12 : decode cX1_leafOfIndex 12 = .ok (.iload 4, 2) := by decide +kernel
theorem dX1_leafOfIndex_14 : decode cX1_leafOfIndex 14 = .ok (.bipush 32, 2) := by decide +kernel
theorem dX1_leafOfIndex_16 : decode cX1_leafOfIndex 16 = .ok (.if_icmp .ge 45, 3) := by decide +kernel
theorem dX1_leafOfIndex_19 : decode cX1_leafOfIndex 19 = .ok (.iload_n 2, 1) := by decide +kernel
theorem dX1_leafOfIndex_20 : decode cX1_leafOfIndex 20 = .ok (.iload_n 3, 1) := by decide +kernel
theorem dX1_leafOfIndex_21 : decode cX1_leafOfIndex 21 = .ok (.if_icmp .ge 40, 3) := by decide +kernel
theorem dX1_leafOfIndex_24 : decode cX1_leafOfIndex 24 = .ok (.iload_n 2, 1) := by decide +kernel
theorem dX1_leafOfIndex_25 : decode cX1_leafOfIndex 25 = .ok (.iload_n 3, 1) := by decide +kernel
theorem dX1_leafOfIndex_26 : decode cX1_leafOfIndex 26 = .ok (.iadd, 1) := by decide +kernel
theorem dX1_leafOfIndex_27 : decode cX1_leafOfIndex 27 = .ok (.iconst 1, 1) := by decide +kernel
theorem dX1_leafOfIndex_28 : decode cX1_leafOfIndex 28 = .ok (.iadd, 1) := by decide +kernel
theorem dX1_leafOfIndex_29 : decode cX1_leafOfIndex 29 = .ok (.iconst 2, 1) := by decide +kernel
theorem dX1_leafOfIndex_30 : decode cX1_leafOfIndex 30 = .ok (.idiv, 1) := by decide +kernel
theorem dX1_leafOfIndex_31 : decode cX1_leafOfIndex 31 = .ok (.istore 5, 2) := by decide +kernel
theorem dX1_leafOfIndex_33 : decode cX1_leafOfIndex 33 = .ok (.aload_n 0, 1) := by decide +kernel
theorem dX1_leafOfIndex_34 : decode cX1_leafOfIndex 34 = .ok (.getfield 15, 3) := by decide +kernel
theorem dX1_leafOfIndex_37 : decode cX1_leafOfIndex 37 = .ok (.iload 5, 2) := by decide +kernel
theorem dX1_leafOfIndex_39 : decode cX1_leafOfIndex 39 = .ok (.iaload, 1) := by decide +kernel
theorem dX1_leafOfIndex_40 : decode cX1_leafOfIndex 40 = .ok (.iload_n 1, 1) := by decide +kernel
theorem dX1_leafOfIndex_41 : decode cX1_leafOfIndex 41 = .ok (.if_icmp .gt 9, 3) := by decide +kernel
theorem dX1_leafOfIndex_44 : decode cX1_leafOfIndex 44 = .ok (.iload 5, 2) := by decide +kernel
theorem dX1_leafOfIndex_46 : decode cX1_leafOfIndex 46 = .ok (.istore_n 2, 1) := by decide +kernel
theorem dX1_leafOfIndex_47 : decode cX1_leafOfIndex 47 = .ok (.goto 8, 3) := by decide +kernel
theorem dX1_leafOfIndex_50 : decode cX1_leafOfIndex 50 = .ok (.iload 5, 2) := by decide +kernel
theorem dX1_leafOfIndex_52 : decode cX1_leafOfIndex 52 = .ok (.iconst 1, 1) := by decide +kernel
theorem dX1_leafOfIndex_53 : decode cX1_leafOfIndex 53 = .ok (.isub, 1) := by decide +kernel
theorem dX1_leafOfIndex_54 : decode cX1_leafOfIndex 54 = .ok (.istore_n 3, 1) := by decide +kernel
theorem dX1_leafOfIndex_55 : decode cX1_leafOfIndex 55 = .ok (.iinc 4 1, 3) := by decide +kernel
theorem dX1_leafOfIndex_58 : decode cX1_leafOfIndex 58 = .ok (.goto (-46), 3) := by decide +kernel
theorem dX1_leafOfIndex_61 : decode cX1_leafOfIndex 61 = .ok (.iload_n 2, 1) := by decide +kernel
theorem dX1_leafOfIndex_62 : decode cX1_leafOfIndex 62 = .ok (.ireturn, 1) := by decide +kernel
theorem dX1_copyFrom_0 : decode cX1_copyFrom 0 = .ok (.aload_n 0, 1) := by decide +kernel
theorem dX1_copyFrom_1 : decode cX1_copyFrom 1 = .ok (.aload_n 1, 1) := by decide +kernel
theorem dX1_copyFrom_2 : decode cX1_copyFrom 2 = .ok (.getfield 9, 3) := by decide +kernel
theorem dX1_copyFrom_5 : decode cX1_copyFrom 5 = .ok (.putfield 9, 3) := by decide +kernel
theorem dX1_copyFrom_8 : decode cX1_copyFrom 8 = .ok (.aload_n 1, 1) := by decide +kernel
theorem dX1_copyFrom_9 : decode cX1_copyFrom 9 = .ok (.getfield 15, 3) := by decide +kernel
theorem dX1_copyFrom_12 : decode cX1_copyFrom 12 = .ok (.iconst 0, 1) := by decide +kernel
theorem dX1_copyFrom_13 : decode cX1_copyFrom 13 = .ok (.aload_n 0, 1) := by decide +kernel
theorem dX1_copyFrom_14 : decode cX1_copyFrom 14 = .ok (.getfield 15, 3) := by decide +kernel
theorem dX1_copyFrom_17 : decode cX1_copyFrom 17 = .ok (.iconst 0, 1) := by decide +kernel
theorem dX1_copyFrom_18 : decode cX1_copyFrom 18 = .ok (.aload_n 0, 1) := by decide +kernel
theorem dX1_copyFrom_19 : decode cX1_copyFrom 19 = .ok (.getfield 15, 3) := by decide +kernel
theorem dX1_copyFrom_22 : decode cX1_copyFrom 22 = .ok (.arraylength, 1) := by decide +kernel
theorem dX1_copyFrom_23 : decode cX1_copyFrom 23 = .ok (.invokestatic 38, 3) := by decide +kernel
theorem dX1_copyFrom_26 : decode cX1_copyFrom 26 = .ok (.return_, 1) := by decide +kernel
theorem dX2_init_0 : decode cX2_init 0 = .ok (.aload_n 0, 1) := by decide +kernel
theorem dX2_init_1 : decode cX2_init 1 = .ok (.invokespecial 3, 3) := by decide +kernel
theorem dX2_init_4 : decode cX2_init 4 = .ok (.aload_n 0, 1) := by decide +kernel
theorem dX2_init_5 : decode cX2_init 5 = .ok (.iconst 1, 1) := by decide +kernel
theorem dX2_init_6 : decode cX2_init 6 = .ok (.putfield 9, 3) := by decide +kernel
theorem dX2_init_9 : decode cX2_init 9 = .ok (.aload_n 0, 1) := by decide +kernel
theorem dX2_init_10 : decode cX2_init 10 = .ok (.iconst 1, 1) := by decide +kernel
theorem dX2_init_11 : decode cX2_init 11 = .ok (.putfield 15, 3) := by decide +kernel
theorem dX2_init_14 : decode cX2_init 14 = .ok (.aload_n 0, 1) := by decide +kernel
theorem dX2_init_15 : decode cX2_init 15 = .ok (.sipush 4096, 3) := by decide +kernel
theorem dX2_init_18 : decode cX2_init 18 = .ok (.newarray .int, 2) := by decide +kernel
theorem dX2_init_20 : decode cX2_init 20 = .ok (.putfield 18, 3) := by decide +kernel
theorem dX2_init_23 : decode cX2_init 23 = .ok (.aload_n 0, 1) := by decide +kernel
theorem dX2_init_24 : decode cX2_init 24 = .ok (.sipush 4096, 3) := by decide +kernel
theorem dX2_init_27 : decode cX2_init 27 = .ok (.newarray .int, 2) := by decide +kernel
theorem dX2_init_29 : decode cX2_init 29 = .ok (.putfield 22, 3) := by decide +kernel
theorem dX2_init_32 : decode cX2_init 32 = .ok (.return_, 1) := by decide +kernel
set_option maxRecDepth 20000 in
theorem ggX2_fill_X2_divideSquares : GoodIn wsX2_fill wsX2_divideSquares := goodIn_r _ [9, 3, 10, 11, 12, 13] (by decide +kernel) (by decide +kernel)
set_option maxRecDepth 20000 in
theorem gX2_fill_X2_divideSquares : GoodIn wsX2_fill (wsV RX2 25 RX2 yX2_divideSquares wsX2_divideSquares) := goodIn_app (goodIn_of _ (by decide +kernel)) ggX2_fill_X2_divideSquares
theorem dX2_fill_0 : decode cX2_fill 0 = .ok (.aload_n 0, 1) := by decide +kernel
theorem dX2_fill_1 : decode cX2_fill 1 = .ok (.iconst 1, 1) := by decide +kernel
theorem dX2_fill_2 : decode cX2_fill 2 = .ok (.iload_n 1, 1) := by decide +kernel
theorem dX2_fill_3 : decode cX2_fill 3 = .ok (.ishl, 1) := by decide +kernel
theorem dX2_fill_4 : decode cX2_fill 4 = .ok (.putfield 9, 3) := by decide +kernel
theorem dX2_fill_7 : decode cX2_fill 7 = .ok (.aload_n 0, 1) := by decide +kernel
theorem dX2_fill_8 : decode cX2_fill 8 = .ok (.aload_n 0, 1) := by decide +kernel
theorem dX2_fill_9 : decode cX2_fill 9 = .ok (.getfield 9, 3) := by decide +kernel
theorem dX2_fill_12 : decode cX2_fill 12 = .ok (.aload_n 0, 1) := by decide +kernel
theorem dX2_fill_13 : decode cX2_fill 13 = .ok (.getfield 9, 3) := by decide +kernel
theorem dX2_fill_16 : decode cX2_fill 16 = .ok (.imul, 1) := by decide +kernel
theorem dX2_fill_17 : decode cX2_fill 17 = .ok (.putfield 15, 3) := by decide +kernel
theorem dX2_fill_20 : decode cX2_fill 20 = .ok (.aload_n 0, 1) := by decide +kernel
theorem dX2_fill_21 : decode cX2_fill 21 = .ok (.getfield 18, 3) := by decide +kernel
theorem dX2_fill_24 : decode cX2_fill 24 = .ok (.iconst 0, 1) := by decide +kernel
theorem dX2_fill_25 : decode cX2_fill 25 = .ok (.iconst 0, 1) := by decide +kernel
theorem dX2_fill_26 : decode cX2_fill 26 = .ok (.iastore, 1) := by decide +kernel
theorem dX2_fill_27 : decode cX2_fill 27 = .ok (.iconst 0, 1) := by decide +kernel
theorem dX2_fill_28 : decode cX2_fill 28 = .ok (.istore_n 3, 1) := by decide +kernel
theorem dX2_fill_29 : decode cX2_fill 29 = .ok (.iload_n 3, 1) := by decide +kernel
theorem dX2_fill_30 : decode cX2_fill 30 = .ok (.iload_n 1, 1) := by decide +kernel
theorem dX2_fill_31 : decode cX2_fill 31 = .ok (.if_icmp .ge 27, 3) := by decide +kernel
theorem dX2_fill_34 : decode cX2_fill 34 = .ok (.aload_n 0, 1) := by decide +kernel
theorem dX2_fill_35 : decode cX2_fill 35 = .ok (.iconst 1, 1) := by decide +kernel
theorem dX2_fill_36 : decode cX2_fill 36 = .ok (.iconst 2, 1) := by decide +kernel
theorem dX2_fill_37 : decode cX2_fill 37 = .ok (.iload_n 3, 1) := by decide +kernel
theorem dX2_fill_38 : decode cX2_fill 38 = .ok (.imul, 1) := by decide +kernel
theorem dX2_fill_39 : decode cX2_fill 39 = .ok (.ishl, 1) := by decide +kernel
theorem dX2_fill_40 : decode cX2_fill 40 = .ok (.aload_n 0, 1) := by decide +kernel
theorem dX2_fill_41 : decode cX2_fill 41 = .ok (.getfield 9, 3) := by decide +kernel
theorem dX2_fill_44 : decode cX2_fill 44 = .ok (.iload_n 3, 1) := by decide +kernel
theorem dX2_fill_45 : decode cX2_fill 45 = .ok (.iconst 1, 1) := by decide +kernel
theorem dX2_fill_46 : decode cX2_fill 46 = .ok (.iadd, 1) := by decide +kernel
theorem dX2_fill_47 : decode cX2_fill 47 = .ok (.ishr, 1) := by decide +kernel
theorem dX2_fill_48 : decode cX2_fill 48 = .ok (.aload_n 2, 1) := by decide +kernel
theorem dX2_fill_49 : decode cX2_fill 49 = .ok (.invokevirtual 25, 3) := by decide +kernel
theorem dX2_fill_52 : decode cX2_fill 52 = .ok (.iinc 3 1, 3) := by decide +kernel
theorem dX2_fill_55 : decode cX2_fill 55 = .ok (.goto (-26), 3) := by decide +kernel
theorem dX2_fill_58 : decode cX2_fill 58 = .ok (.iconst 0, 1) := by decide +kernel
theorem dX2_fill_59 : decode cX2_fill 59 = .ok (.istore_n 3, 1) := by decide +kernel
theorem dX2_fill_60 : decode cX2_fill 60 = .ok (.iload_n 3, 1) := by decide +kernel
theorem dX2_fill_61 : decode cX2_fill 61 = .ok (.aload_n 0, 1) := by decide +kernel
theorem dX2_fill_62 : decode cX2_fill 62 = .ok (.getfield 15, 3) := by decide +kernel
theorem dX2_fill_65 : decode cX2_fill 65 = .ok (.if_icmp .ge 33, 3) := by decide +kernel
theorem dX2_fill_68 : decode cX2_fill 68 = .ok (.aload_n 0, 1) := by decide +kernel
theorem dX2_fill_69 : decode cX2_fill 69 = .ok (.getfield 18, 3) := by decide +kernel
theorem dX2_fill_72 : decode cX2_fill 72 = .ok (.iload_n 3, 1) := by decide +kernel
theorem dX2_fill_73 : decode cX2_fill 73 = .ok (.dup2, 1) := by decide +kernel
theorem dX2_fill_74 : decode cX2_fill 74 = .ok (.iaload, 1) := by decide +kernel
theorem dX2_fill_75 : decode cX2_fill 75 = .ok (.sipush 4096, 3) := by decide +kernel
theorem dX2_fill_78 : decode cX2_fill 78 = .ok (.irem, 1) := by decide +kernel
theorem dX2_fill_79 : decode cX2_fill 79 = .ok (.iastore, 1) := by decide +kernel
theorem dX2_fill_80 : decode cX2_fill 80 = .ok (.aload_n 0, 1) := by decide +kernel
theorem dX2_fill_81 : decode cX2_fill 81 = .ok (.getfield 22, 3) := by decide +kernel
theorem dX2_fill_84 : decode cX2_fill 84 = .ok (.aload_n 0, 1) := by decide +kernel
theorem dX2_fill_85 : decode cX2_fill 85 = .ok (.getfield 18, 3) := by decide +kernel
theorem dX2_fill_88 : decode cX2_fill 88 = .ok (.iload_n 3, 1) := by decide +kernel
theorem dX2_fill_89 : decode cX2_fill 89 = .ok (.iaload, 1) := by decide +kernel
theorem dX2_fill_90 : decode cX2_fill 90 = .ok (.iload_n 3, 1) := by decide +kernel
theorem dX2_fill_91 : decode cX2_fill 91 = .ok (.iastore, 1) := by decide +kernel
theorem dX2_fill_92 : decode cX2_fill 92 = .ok (.iinc 3 1, 3) := by decide +kernel
theorem dX2_fill_95 : decode cX2_fill 95 = .ok (.goto (-35), 3) := by decide +kernel
theorem dX2_fill_98 : decode cX2_fill 98 = .ok (.return_, 1) := by decide +kernel
theorem dX2_divideSquares_0 : decode cX2_divideSquares 0 = .ok (.iload_n 1, 1) := by decide +kernel
theorem dX2_divideSquares_1 : decode cX2_divideSquares 1 = .ok (.iconst 1, 1) := by decide +kernel
theorem dX2_divideSquares_2 : decode cX2_divideSquares 2 = .ok (.isub, 1) := by decide +kernel
theorem dX2_divideSquares_3 : decode cX2_divideSquares 3 = .ok (.istore 4, 2) := by decide +kernel
theorem dX2_divideSquares_5 : decode cX2_divideSquares 5 = .ok (.iload 4, 2) := by decide +kernel
theorem dX2_divideSquares_7 : decode cX2_divideSquares 7 = .ok (.ifCond .lt 111, 3) := by decide +kernel
theorem dX2_divideSquares_10 : decode cX2_divideSquares 10 = .ok (.aload_n 0, 1) := by decide +kernel
theorem dX2_divideSquares_11 : decode cX2_divideSquares 11 = .ok (.getfield 18, 3) := by decide +kernel
theorem dX2_divideSquares_14 : decode cX2_divideSquares 14 = .ok (.iload 4, 2) := by decide +kernel
theorem dX2_divideSquares_16 : decode cX2_divideSquares 16 = .ok (.iaload, 1) := by decide +kernel
theorem dX2_divideSquares_17 : decode cX2_divideSquares 17 = .ok (.sipush 4096, 3) := by decide +kernel
theorem dX2_divideSquares_20 : decode cX2_divideSquares 20 = .ok (.idiv, 1) := by decide +kernel
theorem dX2_divideSquares_21 : decode cX2_divideSquares 21 = .ok (.istore 5, 2) := by decide +kernel
theorem dX2_divideSquares_23 : decode cX2_divideSquares 23 = .ok (.aload_n 0, 1) := by decide +kernel
theorem dX2_divideSquares_24 : decode cX2_divideSquares 24 = .ok (.getfield 18, 3) := by decide +kernel
theorem dX2_divideSquares_27 : decode cX2_divideSquares 27 = .ok (.iload 4, 2) := by decide +kernel
theorem dX2_divideSquares_29 : decode cX2_divideSquares 29 = .ok (.iaload, 1) := by decide +kernel
theorem dX2_divideSquares_30 : decode cX2_divideSquares 30 = .ok (.sipush 4096, 3) := by decide +kernel
theorem dX2_divideSquares_33 : decode cX2_divideSquares 33 = .ok (.irem, 1) := by decide +kernel
theorem dX2_divideSquares_34 : decode cX2_divideSquares 34 = .ok (.istore 6, 2) := by decide +kernel
theorem dX2_divideSquares_36 : decode cX2_divideSquares 36 = .ok (.iconst 0, 1) := by decide +kernel
theorem dX2_divideSquares_37 : decode cX2_divideSquares 37 = .ok (.istore 7, 2) := by decide +kernel
theorem dX2_divideSquares_39 : decode cX2_divideSquares 39 = .ok (.iload 7, 2) := by decide +kernel
theorem dX2_divideSquares_41 : decode cX2_divideSquares 41 = .ok (.iconst 4, 1) := by decide +kernel
theorem dX2_divideSquares_42 : decode cX2_divideSquares 42 = .ok (.if_icmp .ge 70, 3) := by decide +kernel
theorem dX2_divideSquares_45 : decode cX2_divideSquares 45 = .ok (.aload_n 3, 1) := by decide +kernel
theorem dX2_divideSquares_46 : decode cX2_divideSquares 46 = .ok (.iconst 4, 1) := by decide +kernel
theorem dX2_divideSquares_47 : decode cX2_divideSquares 47 = .ok (.iload 5, 2) := by decide +kernel
theorem dX2_divideSquares_49 : decode cX2_divideSquares 49 = .ok (.imul, 1) := by decide +kernel
theorem dX2_divideSquares_50 : decode cX2_divideSquares 50 = .ok (.iload 7, 2) := by decide +kernel
theorem dX2_divideSquares_52 : decode cX2_divideSquares 52 = .ok (.iadd, 1) := by decide +kernel
theorem dX2_divideSquares_53 : decode cX2_divideSquares 53 = .ok (.iaload, 1) := by decide +kernel
theorem dX2_divideSquares_54 : decode cX2_divideSquares 54 = .ok (.istore 8, 2) := by decide +kernel
theorem dX2_divideSquares_56 : decode cX2_divideSquares 56 = .ok (.iload 8, 2) := by decide +kernel
theorem dX2_divideSquares_58 : decode cX2_divideSquares 58 = .ok (.bipush 10, 2) := by decide +kernel
theorem dX2_divideSquares_60 : decode cX2_divideSquares 60 = .ok (.idiv, 1) := by decide +kernel
theorem dX2_divideSquares_61 : decode cX2_divideSquares 61 = .ok (.istore 9, 2) := by decide +kernel
theorem dX2_divideSquares_63 : decode cX2_divideSquares 63 = .ok (.iload 6, 2) := by decide +kernel
theorem dX2_divideSquares_65 : decode cX2_divideSquares 65 = .ok (.iload_n 2, 1) := by decide +kernel
theorem dX2_divideSquares_66 : decode cX2_divideSquares 66 = .ok (.iload 9, 2) := by decide +kernel
theorem dX2_divideSquares_68 : decode cX2_divideSquares 68 = .ok (.iconst 2, 1) := by decide +kernel
theorem dX2_divideSquares_69 : decode cX2_divideSquares 69 = .ok (.irem, 1) := by decide +kernel
theorem dX2_divideSquares_70 : decode cX2_divideSquares 70 = .ok (.iload 9, 2) := by decide +kernel
theorem dX2_divideSquares_72 : decode cX2_divideSquares 72 = .ok (.iconst 2, 1) := by decide +kernel
theorem dX2_divideSquares_73 : decode cX2_divideSquares 73 = .ok (.idiv, 1) := by decide +kernel
theorem dX2_divideSquares_74 : decode cX2_divideSquares 74 = .ok (.bipush 64, 2) := by decide +kernel
theorem dX2_divideSquares_76 : decode cX2_divideSquares 76 = .ok (.imul, 1) := by decide +kernel
theorem dX2_divideSquares_77 : decode cX2_divideSquares 77 = .ok (.iadd, 1) := by decide +kernel
theorem dX2_divideSquares_78 : decode cX2_divideSquares 78 = .ok (.imul, 1) := by decide +kernel
theorem dX2_divideSquares_79 : decode cX2_divideSquares 79 = .ok (.iadd, 1) := by decide +kernel
theorem dX2_divideSquares_80 : decode cX2_divideSquares 80 = .ok (.istore 10, 2) := by decide +kernel
theorem dX2_divideSquares_82 : decode cX2_divideSquares 82 = .ok (.aload_n 0, 1) := by decide +kernel
theorem dX2_divideSquares_83 : decode cX2_divideSquares 83 = .ok (.getfield 18, 3) := by decide +kernel
theorem dX2_divideSquares_86 : decode cX2_divideSquares 86 = .ok (.iconst 4, 1) := by decide +kernel
theorem dX2_divideSquares_87 : decode cX2_divideSquares 87 = .ok (.iload 4, 2) := by decide +kernel
theorem dX2_divideSquares_89 : decode cX2_divideSquares 89 = .ok (.imul, 1) := by decide +kernel
theorem dX2_divideSquares_90 : decode cX2_divideSquares 90 = .ok (.iload 7, 2) := by decide +kernel
theorem dX2_divideSquares_92 : decode cX2_divideSquares 92 = .ok (.iadd, 1) := by decide +kernel
theorem dX2_divideSquares_93 : decode cX2_divideSquares 93 = .ok (.sipush 4096, 3) := by decide +kernel
theorem dX2_divideSquares_96 : decode cX2_divideSquares 96 = .ok (.iload 8, 2) := by decide +kernel
theorem dX2_divideSquares_98 : decode cX2_divideSquares 98 = .ok (.bipush 10, 2) := by decide +kernel
theorem dX2_divideSquares_100 : decode cX2_divideSquares 100 = .ok (.irem, 1) := by decide +kernel
theorem dX2_divideSquares_101 : decode cX2_divideSquares 101 = .ok (.imul, 1) := by decide +kernel
theorem dX2_divideSquares_102 : decode cX2_divideSquares 102 = .ok (.iload 10, 2) := by decide +kernel
theorem dX2_divideSquares_104 : decode cX2_divideSquares 104 = .ok (.iadd, 1) := by decide +kernel
theorem dX2_divideSquares_105 : decode cX2_divideSquares 105 = .ok (.iastore, 1) := by decide +kernel
theorem dX2_divideSquares_106 : decode cX2_divideSquares 106 = .ok (.iinc 7 1, 3) := by decide +kernel
theorem dX2_divideSquares_109 : decode cX2_divideSquares 109 = .ok (.goto (-70), 3) := by decide +kernel
theorem dX2_divideSquares_112 : decode cX2_divideSquares 112 = .ok (.iinc 4 (-1), 3) := by decide +kernel
theorem dX2_divideSquares_115 : decode cX2_divideSquares 115 = .ok (.goto (-110), 3) := by decide +kernel
theorem dX2_divideSquares_118 : decode cX2_divideSquares 118 = .ok (.return_, 1) := by decide +kernel
theorem dX2_holds_0 : decode cX2_holds 0 = .ok (.iload_n 1, 1) := by decide +kernel
theorem dX2_holds_1 : decode cX2_holds 1 = .ok (.ifCond .lt 27, 3) := by decide +kernel
theorem dX2_holds_4 : decode cX2_holds 4 = .ok (.iload_n 1, 1) := by decide +kernel
theorem dX2_holds_5 : decode cX2_holds 5 = .ok (.aload_n 0, 1) := by decide +kernel
theorem dX2_holds_6 : decode cX2_holds 6 = .ok (.getfield 9, 3) := by decide +kernel
theorem dX2_holds_9 : decode cX2_holds 9 = .ok (.if_icmp .ge 19, 3) := by decide +kernel
theorem dX2_holds_12 : decode cX2_holds 12 = .ok (.iload_n 2, 1) := by decide +kernel
theorem dX2_holds_13 : decode cX2_holds 13 = .ok (.ifCond .lt 15, 3) := by decide +kernel
theorem dX2_holds_16 : decode cX2_holds 16 = .ok (.iload_n 2, 1) := by decide +kernel
theorem dX2_holds_17 : decode cX2_holds 17 = .ok (.aload_n 0, 1) := by decide +kernel
theorem dX2_holds_18 : decode cX2_holds 18 = .ok (.getfield 9, 3) := by decide +kernel
theorem dX2_holds_21 : decode cX2_holds 21 = .ok (.if_icmp .ge 7, 3) := by decide +kernel
theorem dX2_holds_24 : decode cX2_holds 24 = .ok (.iconst 1, 1) := by decide +kernel
theorem dX2_holds_25 : decode cX2_holds 25 = .ok (.goto 4, 3) := by decide +kernel
theorem dX2_holds_28 : decode cX2_holds 28 = .ok (.iconst 0, 1) := by decide +kernel
theorem dX2_holds_29 : decode cX2_holds 29 = .ok (.ireturn, 1) := by decide +kernel
theorem dX2_indexOf_0 : decode cX2_indexOf 0 = .ok (.aload_n 0, 1) := by decide +kernel
theorem dX2_indexOf_1 : decode cX2_indexOf 1 = .ok (.getfield 22, 3) := by decide +kernel
theorem dX2_indexOf_4 : decode cX2_indexOf 4 = .ok (.iload_n 2, 1) := by decide +kernel
theorem dX2_indexOf_5 : decode cX2_indexOf 5 = .ok (.bipush 64, 2) := by decide +kernel
theorem dX2_indexOf_7 : decode cX2_indexOf 7 = .ok (.imul, 1) := by decide +kernel
theorem dX2_indexOf_8 : decode cX2_indexOf 8 = .ok (.iload_n 1, 1) := by decide +kernel
theorem dX2_indexOf_9 : decode cX2_indexOf 9 = .ok (.iadd, 1) := by decide +kernel
theorem dX2_indexOf_10 : decode cX2_indexOf 10 = .ok (.iaload, 1) := by decide +kernel
theorem dX2_indexOf_11 : decode cX2_indexOf 11 = .ok (.ireturn, 1) := by decide +kernel
theorem dX2_xAt_0 : decode cX2_xAt 0 = .ok (.aload_n 0, 1) := by decide +kernel
theorem dX2_xAt_1 : decode cX2_xAt 1 = .ok (.getfield 18, 3) := by decide +kernel
theorem dX2_xAt_4 : decode cX2_xAt 4 = .ok (.iload_n 1, 1) := by decide +kernel
theorem dX2_xAt_5 : decode cX2_xAt 5 = .ok (.iaload, 1) := by decide +kernel
theorem dX2_xAt_6 : decode cX2_xAt 6 = .ok (.bipush 64, 2) := by decide +kernel
theorem dX2_xAt_8 : decode cX2_xAt 8 = .ok (.irem, 1) := by decide +kernel
theorem dX2_xAt_9 : decode cX2_xAt 9 = .ok (.ireturn, 1) := by decide +kernel
theorem dX2_yAt_0 : decode cX2_yAt 0 = .ok (.aload_n 0, 1) := by decide +kernel
theorem dX2_yAt_1 : decode cX2_yAt 1 = .ok (.getfield 18, 3) := by decide +kernel
theorem dX2_yAt_4 : decode cX2_yAt 4 = .ok (.iload_n 1, 1) := by decide +kernel
theorem dX2_yAt_5 : decode cX2_yAt 5 = .ok (.iaload, 1) := by decide +kernel
theorem dX2_yAt_6 : decode cX2_yAt 6 = .ok (.bipush 64, 2) := by decide +kernel
theorem dX2_yAt_8 : decode cX2_yAt 8 = .ok (.idiv, 1) := by decide +kernel
theorem dX2_yAt_9 : decode cX2_yAt 9 = .ok (.ireturn, 1) := by decide +kernel
set_option maxRecDepth 20000 in
theorem ggX2_countBreaks_X2_xAt : GoodIn wsX2_countBreaks wsX2_xAt := goodIn_r _ [10, 11, 16, 17, 18, 19] (by decide +kernel) (by decide +kernel)
set_option maxRecDepth 20000 in
theorem gX2_countBreaks_X2_xAt : GoodIn wsX2_countBreaks (wsV RX2 29 RX2 yX2_xAt wsX2_xAt) := goodIn_app (goodIn_of _ (by decide +kernel)) ggX2_countBreaks_X2_xAt
set_option maxRecDepth 20000 in
theorem ggX2_countBreaks_X2_yAt : GoodIn wsX2_countBreaks wsX2_yAt := goodIn_r _ [15, 11, 16, 17, 18, 19] (by decide +kernel) (by decide +kernel)
set_option maxRecDepth 20000 in
theorem gX2_countBreaks_X2_yAt : GoodIn wsX2_countBreaks (wsV RX2 38 RX2 yX2_yAt wsX2_yAt) := goodIn_app (goodIn_of _ (by decide +kernel)) ggX2_countBreaks_X2_yAt
theorem dX2_countBreaks_0 : decode cX2_countBreaks 0 = .ok (.iconst 0, 1) := by decide +kernel
theorem dX2_countBreaks_1 : decode cX2_countBreaks 1 = .ok (.istore_n 1, 1) := by decide +kernel
theorem dX2_countBreaks_2 : decode cX2_countBreaks 2 = .ok (.iconst 1, 1) := by decide +kernel
theorem dX2_countBreaks_3 : decode cX2_countBreaks 3 = .ok (.istore_n 2, 1) := by decide +kernel
theorem dX2_countBreaks_4 : decode cX2_countBreaks 4 = .ok (.iload_n 2, 1) := by decide +kernel
theorem dX2_countBreaks_5 : decode cX2_countBreaks 5 = .ok (.aload_n 0, 1) := by decide +kernel
theorem dX2_countBreaks_6 : decode cX2_countBreaks 6 = .ok (.getfield 15, 3) := by decide +kernel
theorem dX2_countBreaks_9 : decode cX2_countBreaks 9 = .ok (.if_icmp .ge 49, 3) := by decide +kernel
theorem dX2_countBreaks_12 : decode cX2_countBreaks 12 = .ok (.aload_n 0, 1) := by decide +kernel
theorem dX2_countBreaks_13 : decode cX2_countBreaks 13 = .ok (.iload_n 2, 1) := by decide +kernel
theorem dX2_countBreaks_14 : decode cX2_countBreaks 14 = .ok (.invokevirtual 29, 3) := by decide +kernel
theorem dX2_countBreaks_17 : decode cX2_countBreaks 17 = .ok (.aload_n 0, 1) := by decide +kernel
theorem dX2_countBreaks_18 : decode cX2_countBreaks 18 = .ok (.iload_n 2, 1) := by decide +kernel
theorem dX2_countBreaks_19 : decode cX2_countBreaks 19 = .ok (.iconst 1, 1) := by decide +kernel
theorem dX2_countBreaks_20 : decode cX2_countBreaks 20 = .ok (.isub, 1) := by decide +kernel
theorem dX2_countBreaks_21 : decode cX2_countBreaks 21 = .ok (.invokevirtual 29, 3) := by decide +kernel
theorem dX2_countBreaks_24 : decode cX2_countBreaks 24 = .ok (.isub, 1) := by decide +kernel
theorem dX2_countBreaks_25 : decode cX2_countBreaks 25 = .ok (.invokestatic 33, 3) := by decide +kernel
theorem dX2_countBreaks_28 : decode cX2_countBreaks 28 = .ok (.aload_n 0, 1) := by decide +kernel
theorem dX2_countBreaks_29 : decode cX2_countBreaks 29 = .ok (.iload_n 2, 1) := by decide +kernel
theorem dX2_countBreaks_30 : decode cX2_countBreaks 30 = .ok (.invokevirtual 38, 3) := by decide +kernel
theorem dX2_countBreaks_33 : decode cX2_countBreaks 33 = .ok (.aload_n 0, 1) := by decide +kernel
theorem dX2_countBreaks_34 : decode cX2_countBreaks 34 = .ok (.iload_n 2, 1) := by decide +kernel
theorem dX2_countBreaks_35 : decode cX2_countBreaks 35 = .ok (.iconst 1, 1) := by decide +kernel
theorem dX2_countBreaks_36 : decode cX2_countBreaks 36 = .ok (.isub, 1) := by decide +kernel
theorem dX2_countBreaks_37 : decode cX2_countBreaks 37 = .ok (.invokevirtual 38, 3) := by decide +kernel
theorem dX2_countBreaks_40 : decode cX2_countBreaks 40 = .ok (.isub, 1) := by decide +kernel
theorem dX2_countBreaks_41 : decode cX2_countBreaks 41 = .ok (.invokestatic 33, 3) := by decide +kernel
theorem dX2_countBreaks_44 : decode cX2_countBreaks 44 = .ok (.iadd, 1) := by decide +kernel
theorem dX2_countBreaks_45 : decode cX2_countBreaks 45 = .ok (.iconst 1, 1) := by decide +kernel
theorem dX2_countBreaks_46 : decode cX2_countBreaks 46 = .ok (.if_icmp .eq 6, 3) := by decide +kernel
theorem dX2_countBreaks_49 : decode cX2_countBreaks 49 = .ok (.iinc 1 1, 3) := by decide +kernel
theorem dX2_countBreaks_52 : decode cX2_countBreaks 52 = .ok (.iinc 2 1, 3) := by decide +kernel
theorem dX2_countBreaks_55 : decode cX2_countBreaks 55 = .ok (.goto (-51), 3) := by decide +kernel
theorem dX2_countBreaks_58 : decode cX2_countBreaks 58 = .ok (.iload_n 1, 1) := by decide +kernel
theorem dX2_countBreaks_59 : decode cX2_countBreaks 59 = .ok (.ireturn, 1) := by decide +kernel
set_option maxRecDepth 20000 in
theorem ggX2_greatestDifference_X2_indexOf : GoodIn wsX2_greatestDifference wsX2_indexOf := goodIn_r _ [13, 14, 15, 16, 17, 18] (by decide +kernel) (by decide +kernel)
set_option maxRecDepth 20000 in
theorem gX2_greatestDifference_X2_indexOf : GoodIn wsX2_greatestDifference (wsV RX2 41 RX2 yX2_indexOf wsX2_indexOf) := goodIn_app (goodIn_of _ (by decide +kernel)) ggX2_greatestDifference_X2_indexOf
theorem dX2_greatestDifference_0 : decode cX2_greatestDifference 0 = .ok (.iconst 0, 1) := by decide +kernel
theorem dX2_greatestDifference_1 : decode cX2_greatestDifference 1 = .ok (.istore_n 1, 1) := by decide +kernel
theorem dX2_greatestDifference_2 : decode cX2_greatestDifference 2 = .ok (.iconst 0, 1) := by decide +kernel
theorem dX2_greatestDifference_3 : decode cX2_greatestDifference 3 = .ok (.istore_n 2, 1) := by decide +kernel
theorem dX2_greatestDifference_4 : decode cX2_greatestDifference 4 = .ok (.iload_n 2, 1) := by decide +kernel
theorem dX2_greatestDifference_5 : decode cX2_greatestDifference 5 = .ok (.iconst 1, 1) := by decide +kernel
theorem dX2_greatestDifference_6 : decode cX2_greatestDifference 6 = .ok (.iadd, 1) := by decide +kernel
theorem dX2_greatestDifference_7 : decode cX2_greatestDifference 7 = .ok (.aload_n 0, 1) := by decide +kernel
theorem dX2_greatestDifference_8 : decode cX2_greatestDifference 8 = .ok (.getfield 9, 3) := by decide +kernel
theorem dX2_greatestDifference_11 : decode cX2_greatestDifference 11 = .ok (.if_icmp .ge 77, 3) := by decide +kernel
theorem dX2_greatestDifference_14 : decode cX2_greatestDifference 14 = .ok (.iconst 0, 1) := by decide +kernel
theorem dX2_greatestDifference_15 : decode cX2_greatestDifference 15 = .ok (.istore_n 3, 1) := by decide +kernel
theorem dX2_greatestDifference_16 : decode cX2_greatestDifference 16 = .ok (.iload_n 3, 1) := by decide +kernel
theorem dX2_greatestDifference_17 : decode cX2_greatestDifference 17 = .ok (.aload_n 0, 1) := by decide +kernel
theorem dX2_greatestDifference_18 : decode cX2_greatestDifference 18 = .ok (.getfield 9, 3) := by decide +kernel
theorem dX2_greatestDifference_21 : decode cX2_greatestDifference 21 = .ok (.if_icmp .ge 61, 3) := by decide +kernel
theorem dX2_greatestDifference_24 : decode cX2_greatestDifference 24 = .ok (.aload_n 0, 1) := by decide +kernel
theorem dX2_greatestDifference_25 : decode cX2_greatestDifference 25 = .ok (.iload_n 2, 1) := by decide +kernel
theorem dX2_greatestDifference_26 : decode cX2_greatestDifference 26 = .ok (.iconst 1, 1) := by decide +kernel
theorem dX2_greatestDifference_27 : decode cX2_greatestDifference 27 = .ok (.iadd, 1) := by decide +kernel
theorem dX2_greatestDifference_28 : decode cX2_greatestDifference 28 = .ok (.iload_n 3, 1) := by decide +kernel
theorem dX2_greatestDifference_29 : decode cX2_greatestDifference 29 = .ok (.invokevirtual 41, 3) := by decide +kernel
theorem dX2_greatestDifference_32 : decode cX2_greatestDifference 32 = .ok (.aload_n 0, 1) := by decide +kernel
theorem dX2_greatestDifference_33 : decode cX2_greatestDifference 33 = .ok (.iload_n 2, 1) := by decide +kernel
theorem dX2_greatestDifference_34 : decode cX2_greatestDifference 34 = .ok (.iload_n 3, 1) := by decide +kernel
theorem dX2_greatestDifference_35 : decode cX2_greatestDifference 35 = .ok (.invokevirtual 41, 3) := by decide +kernel
theorem dX2_greatestDifference_38 : decode cX2_greatestDifference 38 = .ok (.isub, 1) := by decide +kernel
theorem dX2_greatestDifference_39 : decode cX2_greatestDifference 39 = .ok (.invokestatic 33, 3) := by decide +kernel
theorem dX2_greatestDifference_42 : decode cX2_greatestDifference 42 = .ok (.istore 4, 2) := by decide +kernel
theorem dX2_greatestDifference_44 : decode cX2_greatestDifference 44 = .ok (.aload_n 0, 1) := by decide +kernel
theorem dX2_greatestDifference_45 : decode cX2_greatestDifference 45 = .ok (.iload_n 3, 1) := by decide +kernel
theorem dX2_greatestDifference_46 : decode cX2_greatestDifference 46 = .ok (.iload_n 2, 1) := by decide +kernel
theorem dX2_greatestDifference_47 : decode cX2_greatestDifference 47 = .ok (.iconst 1, 1) := by decide +kernel
theorem dX2_greatestDifference_48 : decode cX2_greatestDifference 48 = .ok (.iadd, 1) := by decide +kernel
theorem dX2_greatestDifference_49 : decode cX2_greatestDifference 49 = .ok (.invokevirtual 41, 3) := by decide +kernel
theorem dX2_greatestDifference_52 : decode cX2_greatestDifference 52 = .ok (.aload_n 0, 1) := by decide +kernel
theorem dX2_greatestDifference_53 : decode cX2_greatestDifference 53 = .ok (.iload_n 3, 1) := by decide +kernel
theorem dX2_greatestDifference_54 : decode cX2_greatestDifference 54 = .ok (.iload_n 2, 1) := by decide +kernel
theorem dX2_greatestDifference_55 : decode cX2_greatestDifference 55 = .ok (.invokevirtual 41, 3) := by decide +kernel
theorem dX2_greatestDifference_58 : decode cX2_greatestDifference 58 = .ok (.isub, 1) := by decide +kernel
theorem dX2_greatestDifference_59 : decode cX2_greatestDifference 59 = .ok (.invokestatic 33, 3) := by decide +kernel
theorem dX2_greatestDifference_62 : decode cX2_greatestDifference 62 = .ok (.istore 5, 2) := by decide +kernel
theorem dX2_greatestDifference_64 : decode cX2_greatestDifference 64 = .ok (.iload_n 1, 1) := by decide +kernel
theorem dX2_greatestDifference_65 : decode cX2_greatestDifference 65 = .ok (.iload 4, 2) := by decide +kernel
theorem dX2_greatestDifference_67 : decode cX2_greatestDifference 67 = .ok (.iload 5, 2) := by decide +kernel
theorem dX2_greatestDifference_69 : decode cX2_greatestDifference 69 = .ok (.invokestatic 45, 3) := by decide +kernel
theorem dX2_greatestDifference_72 : decode cX2_greatestDifference 72 = .ok (.invokestatic 45, 3) := by decide +kernel
theorem dX2_greatestDifference_75 : decode cX2_greatestDifference 75 = .ok (.istore_n 1, 1) := by decide +kernel
theorem dX2_greatestDifference_76 : decode cX2_greatestDifference 76 = .ok (.iinc 3 1, 3) := by decide +kernel
theorem dX2_greatestDifference_79 : decode cX2_greatestDifference 79 = .ok (.goto (-63), 3) := by decide +kernel
theorem dX2_greatestDifference_82 : decode cX2_greatestDifference 82 = .ok (.iinc 2 1, 3) := by decide +kernel
theorem dX2_greatestDifference_85 : decode cX2_greatestDifference 85 = .ok (.goto (-81), 3) := by decide +kernel
theorem dX2_greatestDifference_88 : decode cX2_greatestDifference 88 = .ok (.iload_n 1, 1) := by decide +kernel
theorem dX2_greatestDifference_89 : decode cX2_greatestDifference 89 = .ok (.ireturn, 1) := by decide +kernel
set_option maxRecDepth 20000 in
theorem ggX2_countIntervalsOfAll_X2_countRectangles : GoodIn wsX2_countIntervalsOfAll wsX2_countRectangles := goodIn_r _ [6, 7, 8, 9, 5, 10, 11, 12, 13, 14, 15, 16, 17, 18, 19, 20, 21, 22, 23, 24, 25, 26, 27, 28, 29, 30, 31] (by decide +kernel) (by decide +kernel)
set_option maxRecDepth 20000 in
theorem gX2_countIntervalsOfAll_X2_countRectangles : GoodIn wsX2_countIntervalsOfAll (wsV RX2 48 RX2 yX2_countRectangles wsX2_countRectangles) := goodIn_app (goodIn_of _ (by decide +kernel)) ggX2_countIntervalsOfAll_X2_countRectangles
theorem dX2_countIntervalsOfAll_0 : decode cX2_countIntervalsOfAll 0 = .ok (.iconst 0, 1) := by decide +kernel
theorem dX2_countIntervalsOfAll_1 : decode cX2_countIntervalsOfAll 1 = .ok (.istore_n 3, 1) := by decide +kernel
theorem dX2_countIntervalsOfAll_2 : decode cX2_countIntervalsOfAll 2 = .ok (.iconst 0, 1) := by decide +kernel
theorem dX2_countIntervalsOfAll_3 : decode cX2_countIntervalsOfAll 3 = .ok (.istore 4, 2) := by decide +kernel
theorem dX2_countIntervalsOfAll_5 : decode cX2_countIntervalsOfAll 5 = .ok (.iload 4, 2) := by decide +kernel
theorem dX2_countIntervalsOfAll_7 : decode cX2_countIntervalsOfAll 7 = .ok (.aload_n 0, 1) := by decide +kernel
theorem dX2_countIntervalsOfAll_8 : decode cX2_countIntervalsOfAll 8 = .ok (.getfield 15, 3) := by decide +kernel
theorem dX2_countIntervalsOfAll_11 : decode cX2_countIntervalsOfAll 11 = .ok (.if_icmp .ge 42, 3) := by decide +kernel
theorem dX2_countIntervalsOfAll_14 : decode cX2_countIntervalsOfAll 14 = .ok (.iload_n 3, 1) := by decide +kernel
theorem dX2_countIntervalsOfAll_15 : decode cX2_countIntervalsOfAll 15 = .ok (.aload_n 0, 1) := by decide +kernel
theorem dX2_countIntervalsOfAll_16 : decode cX2_countIntervalsOfAll 16 = .ok (.iload 4, 2) := by decide +kernel
theorem dX2_countIntervalsOfAll_18 : decode cX2_countIntervalsOfAll 18 = .ok (.iload 4, 2) := by decide +kernel
theorem dX2_countIntervalsOfAll_20 : decode cX2_countIntervalsOfAll 20 = .ok (.iload_n 1, 1) := by decide +kernel
theorem dX2_countIntervalsOfAll_21 : decode cX2_countIntervalsOfAll 21 = .ok (.iload_n 2, 1) := by decide +kernel
theorem dX2_countIntervalsOfAll_22 : decode cX2_countIntervalsOfAll 22 = .ok (.invokevirtual 48, 3) := by decide +kernel
theorem dX2_countIntervalsOfAll_25 : decode cX2_countIntervalsOfAll 25 = .ok (.iadd, 1) := by decide +kernel
theorem dX2_countIntervalsOfAll_26 : decode cX2_countIntervalsOfAll 26 = .ok (.istore_n 3, 1) := by decide +kernel
theorem dX2_countIntervalsOfAll_27 : decode cX2_countIntervalsOfAll 27 = .ok (.iload 4, 2) := by decide +kernel
theorem dX2_countIntervalsOfAll_29 : decode cX2_countIntervalsOfAll 29 = .ok (.ifCond .le 18, 3) := by decide +kernel
theorem dX2_countIntervalsOfAll_32 : decode cX2_countIntervalsOfAll 32 = .ok (.iload_n 3, 1) := by decide +kernel
theorem dX2_countIntervalsOfAll_33 : decode cX2_countIntervalsOfAll 33 = .ok (.aload_n 0, 1) := by decide +kernel
theorem dX2_countIntervalsOfAll_34 : decode cX2_countIntervalsOfAll 34 = .ok (.iload 4, 2) := by decide +kernel
theorem dX2_countIntervalsOfAll_36 : decode cX2_countIntervalsOfAll 36 = .ok (.iconst 1, 1) := by decide +kernel
theorem dX2_countIntervalsOfAll_37 : decode cX2_countIntervalsOfAll 37 = .ok (.isub, 1) := by decide +kernel
theorem dX2_countIntervalsOfAll_38 : decode cX2_countIntervalsOfAll 38 = .ok (.iload 4, 2) := by decide +kernel
theorem dX2_countIntervalsOfAll_40 : decode cX2_countIntervalsOfAll 40 = .ok (.iload_n 1, 1) := by decide +kernel
theorem dX2_countIntervalsOfAll_41 : decode cX2_countIntervalsOfAll 41 = .ok (.iload_n 2, 1) := by decide +kernel
theorem dX2_countIntervalsOfAll_42 : decode cX2_countIntervalsOfAll 42 = .ok (.invokevirtual 48, 3) := by decide +kernel
theorem dX2_countIntervalsOfAll_45 : decode cX2_countIntervalsOfAll 45 = .ok (.isub, 1) := by decide +kernel
theorem dX2_countIntervalsOfAll_46 : decode cX2_countIntervalsOfAll 46 = .ok (.istore_n 3, 1) := by decide +kernel
theorem dX2_countIntervalsOfAll_47 : decode cX2_countIntervalsOfAll 47 = .ok (.iinc 4 1, 3) := by decide +kernel
theorem dX2_countIntervalsOfAll_50 : decode cX2_countIntervalsOfAll 50 = .ok (.goto (-45), 3) := by decide +kernel
theorem dX2_countIntervalsOfAll_53 : decode cX2_countIntervalsOfAll 53 = .ok (.iload_n 3, 1) := by decide +kernel
theorem dX2_countIntervalsOfAll_54 : decode cX2_countIntervalsOfAll 54 = .ok (.ireturn, 1) := by decide +kernel
set_option maxRecDepth 20000 in
theorem ggX2_countRectangles_X2_xAt : GoodIn wsX2_countRectangles wsX2_xAt := goodIn_r _ [5, 6, 23, 24, 25, 26] (by decide +kernel) (by decide +kernel)
set_option maxRecDepth 20000 in
theorem gX2_countRectangles_X2_xAt : GoodIn wsX2_countRectangles (wsV RX2 29 RX2 yX2_xAt wsX2_xAt) := goodIn_app (goodIn_of _ (by decide +kernel)) ggX2_countRectangles_X2_xAt
set_option maxRecDepth 20000 in
theorem ggX2_countRectangles_X2_countPlaces : GoodIn wsX2_countRectangles wsX2_countPlaces := goodIn_r _ [10, 11, 12, 13, 14, 15, 16, 17, 18, 23, 24, 25, 26] (by decide +kernel) (by decide +kernel)
set_option maxRecDepth 20000 in
theorem gX2_countRectangles_X2_countPlaces : GoodIn wsX2_countRectangles (wsV RX2 52 RX2 yX2_countPlaces wsX2_countPlaces) := goodIn_app (goodIn_of _ (by decide +kernel)) ggX2_countRectangles_X2_countPlaces
set_option maxRecDepth 20000 in
theorem ggX2_countRectangles_X2_yAt : GoodIn wsX2_countRectangles wsX2_yAt := goodIn_r _ [22, 6, 23, 24, 25, 26] (by decide +kernel) (by decide +kernel)
set_option maxRecDepth 20000 in
theorem gX2_countRectangles_X2_yAt : GoodIn wsX2_countRectangles (wsV RX2 38 RX2 yX2_yAt wsX2_yAt) := goodIn_app (goodIn_of _ (by decide +kernel)) ggX2_countRectangles_X2_yAt
theorem dX2_countRectangles_0 : decode cX2_countRectangles 0 = .ok (.aload_n 0, 1) := by decide +kernel
theorem dX2_countRectangles_1 : decode cX2_countRectangles 1 = .ok (.aload_n 0, 1) := by decide +kernel
theorem dX2_countRectangles_2 : decode cX2_countRectangles 2 = .ok (.iload_n 1, 1) := by decide +kernel
theorem dX2_countRectangles_3 : decode cX2_countRectangles 3 = .ok (.invokevirtual 29, 3) := by decide +kernel
theorem dX2_countRectangles_6 : decode cX2_countRectangles 6 = .ok (.aload_n 0, 1) := by decide +kernel
theorem dX2_countRectangles_7 : decode cX2_countRectangles 7 = .ok (.iload_n 2, 1) := by decide +kernel
theorem dX2_countRectangles_8 : decode cX2_countRectangles 8 = .ok (.invokevirtual 29, 3) := by decide +kernel
theorem dX2_countRectangles_11 : decode cX2_countRectangles 11 = .ok (.iload_n 3, 1) := by decide +kernel
theorem dX2_countRectangles_12 : decode cX2_countRectangles 12 = .ok (.invokevirtual 52, 3) := by decide +kernel
theorem dX2_countRectangles_15 : decode cX2_countRectangles 15 = .ok (.aload_n 0, 1) := by decide +kernel
theorem dX2_countRectangles_16 : decode cX2_countRectangles 16 = .ok (.aload_n 0, 1) := by decide +kernel
theorem dX2_countRectangles_17 : decode cX2_countRectangles 17 = .ok (.iload_n 1, 1) := by decide +kernel
theorem dX2_countRectangles_18 : decode cX2_countRectangles 18 = .ok (.invokevirtual 38, 3) := by decide +kernel
theorem dX2_countRectangles_21 : decode cX2_countRectangles 21 = .ok (.aload_n 0, 1) := by decide +kernel
theorem dX2_countRectangles_22 : decode cX2_countRectangles 22 = .ok (.iload_n 2, 1) := by decide +kernel
theorem dX2_countRectangles_23 : decode cX2_countRectangles 23 = .ok (.invokevirtual 38, 3) := by decide +kernel
theorem dX2_countRectangles_26 : decode cX2_countRectangles 26 = .ok (.iload 4, 2) := by decide +kernel
theorem dX2_countRectangles_28 : decode cX2_countRectangles 28 = .ok (.invokevirtual 52, 3) := by decide +kernel
theorem dX2_countRectangles_31 : decode cX2_countRectangles 31 = .ok (.imul, 1) := by decide +kernel
theorem dX2_countRectangles_32 : decode cX2_countRectangles 32 = .ok (.ireturn, 1) := by decide +kernel
theorem dX2_countPlaces_0 : decode cX2_countPlaces 0 = .ok (.iconst 0, 1) := by decide +kernel
theorem dX2_countPlaces_1 : decode cX2_countPlaces 1 = .ok (.iload_n 1, 1) := by decide +kernel
theorem dX2_countPlaces_2 : decode cX2_countPlaces 2 = .ok (.iload_n 2, 1) := by decide +kernel
theorem dX2_countPlaces_3 : decode cX2_countPlaces 3 = .ok (.invokestatic 45, 3) := by decide +kernel
theorem dX2_countPlaces_6 : decode cX2_countPlaces 6 = .ok (.iload_n 3, 1) := by decide +kernel
theorem dX2_countPlaces_7 : decode cX2_countPlaces 7 = .ok (.isub, 1) := by decide +kernel
theorem dX2_countPlaces_8 : decode cX2_countPlaces 8 = .ok (.iconst 1, 1) := by decide +kernel
theorem dX2_countPlaces_9 : decode cX2_countPlaces 9 = .ok (.iadd, 1) := by decide +kernel
theorem dX2_countPlaces_10 : decode cX2_countPlaces 10 = .ok (.invokestatic 45, 3) := by decide +kernel
theorem dX2_countPlaces_13 : decode cX2_countPlaces 13 = .ok (.istore 4, 2) := by decide +kernel
theorem dX2_countPlaces_15 : decode cX2_countPlaces 15 = .ok (.aload_n 0, 1) := by decide +kernel
theorem dX2_countPlaces_16 : decode cX2_countPlaces 16 = .ok (.getfield 9, 3) := by decide +kernel
theorem dX2_countPlaces_19 : decode cX2_countPlaces 19 = .ok (.iload_n 3, 1) := by decide +kernel
theorem dX2_countPlaces_20 : decode cX2_countPlaces 20 = .ok (.isub, 1) := by decide +kernel
theorem dX2_countPlaces_21 : decode cX2_countPlaces 21 = .ok (.iload_n 1, 1) := by decide +kernel
theorem dX2_countPlaces_22 : decode cX2_countPlaces 22 = .ok (.iload_n 2, 1) := by decide +kernel
theorem dX2_countPlaces_23 : decode cX2_countPlaces 23 = .ok (.invokestatic 56, 3) := by decide +kernel
theorem dX2_countPlaces_26 : decode cX2_countPlaces 26 = .ok (.invokestatic 56, 3) := by decide +kernel
theorem dX2_countPlaces_29 : decode cX2_countPlaces 29 = .ok (.istore 5, 2) := by decide +kernel
theorem dX2_countPlaces_31 : decode cX2_countPlaces 31 = .ok (.iconst 0, 1) := by decide +kernel
theorem dX2_countPlaces_32 : decode cX2_countPlaces 32 = .ok (.iload 5, 2) := by decide +kernel
theorem dX2_countPlaces_34 : decode cX2_countPlaces 34 = .ok (.iload 4, 2) := by decide +kernel
theorem dX2_countPlaces_36 : decode cX2_countPlaces 36 = .ok (.isub, 1) := by decide +kernel
theorem dX2_countPlaces_37 : decode cX2_countPlaces 37 = .ok (.iconst 1, 1) := by decide +kernel
theorem dX2_countPlaces_38 : decode cX2_countPlaces 38 = .ok (.iadd, 1) := by decide +kernel
theorem dX2_countPlaces_39 : decode cX2_countPlaces 39 = .ok (.invokestatic 45, 3) := by decide +kernel
theorem dX2_countPlaces_42 : decode cX2_countPlaces 42 = .ok (.ireturn, 1) := by decide +kernel
theorem dX3_init_0 : decode cX3_init 0 = .ok (.aload_n 0, 1) := by decide +kernel
theorem dX3_init_1 : decode cX3_init 1 = .ok (.invokespecial 3, 3) := by decide +kernel
theorem dX3_init_4 : decode cX3_init 4 = .ok (.aload_n 0, 1) := by decide +kernel
theorem dX3_init_5 : decode cX3_init 5 = .ok (.iconst 0, 1) := by decide +kernel
theorem dX3_init_6 : decode cX3_init 6 = .ok (.putfield 9, 3) := by decide +kernel
theorem dX3_init_9 : decode cX3_init 9 = .ok (.aload_n 0, 1) := by decide +kernel
theorem dX3_init_10 : decode cX3_init 10 = .ok (.bipush 40, 2) := by decide +kernel
theorem dX3_init_12 : decode cX3_init 12 = .ok (.newarray .int, 2) := by decide +kernel
theorem dX3_init_14 : decode cX3_init 14 = .ok (.putfield 15, 3) := by decide +kernel
theorem dX3_init_17 : decode cX3_init 17 = .ok (.return_, 1) := by decide +kernel
theorem dX3_find_0 : decode cX3_find 0 = .ok (.iconst 0, 1) := by decide +kernel
theorem dX3_find_1 : decode cX3_find 1 = .ok (.istore_n 3, 1) := by decide +kernel
theorem dX3_find_2 : decode cX3_find 2 = .ok (.iload_n 3, 1) := by decide +kernel
theorem dX3_find_3 : decode cX3_find 3 = .ok (.aload_n 0, 1) := by decide +kernel
theorem dX3_find_4 : decode cX3_find 4 = .ok (.getfield 9, 3) := by decide +kernel
theorem dX3_find_7 : decode cX3_find 7 = .ok (.if_icmp .ge 26, 3) := by decide +kernel
theorem dX3_find_10 : decode cX3_find 10 = .ok (.aload_n 0, 1) := by decide +kernel
theorem dX3_find_11 : decode cX3_find 11 = .ok (.getfield 15, 3) := by decide +kernel
theorem dX3_find_14 : decode cX3_find 14 = .ok (.iload_n 3, 1) := by decide +kernel
theorem dX3_find_15 : decode cX3_find 15 = .ok (.iaload, 1) := by decide +kernel
theorem dX3_find_16 : decode cX3_find 16 = .ok (.iload_n 2, 1) := by decide +kernel
theorem dX3_find_17 : decode cX3_find 17 = .ok (.bipush 64, 2) := by decide +kernel
theorem dX3_find_19 : decode cX3_find 19 = .ok (.imul, 1) := by decide +kernel
theorem dX3_find_20 : decode cX3_find 20 = .ok (.iload_n 1, 1) := by decide +kernel
theorem dX3_find_21 : decode cX3_find 21 = .ok (.iadd, 1) := by decide +kernel
theorem dX3_find_22 : decode cX3_find 22 = .ok (.if_icmp .ne 5, 3) := by decide +kernel
theorem dX3_find_25 : decode cX3_find 25 = .ok (.iload_n 3, 1) := by decide +kernel
theorem dX3_find_26 : decode cX3_find 26 = .ok (.ireturn, 1) := by decide +kernel
theorem dX3_find_27 : decode cX3_find 27 = .ok (.iinc 3 1, 3) := by decide +kernel
theorem dX3_find_30 : decode cX3_find 30 = .ok (.goto (-28), 3) := by decide +kernel
theorem dX3_find_33 : decode cX3_find 33 = .ok (.iconst (-1), 1) := by decide +kernel
theorem dX3_find_34 : decode cX3_find 34 = .ok (.ireturn, 1) := by decide +kernel
theorem dX3_add_0 : decode cX3_add 0 = .ok (.aload_n 0, 1) := by decide +kernel
theorem dX3_add_1 : decode cX3_add 1 = .ok (.getfield 9, 3) := by decide +kernel
theorem dX3_add_4 : decode cX3_add 4 = .ok (.bipush 40, 2) := by decide +kernel
theorem dX3_add_6 : decode cX3_add 6 = .ok (.if_icmp .lt 5, 3) := by decide +kernel
theorem dX3_add_9 : decode cX3_add 9 = .ok (.iconst 0, 1) := by decide +kernel
theorem dX3_add_10 : decode cX3_add 10 = .ok (.ireturn, 1) := by decide +kernel
theorem dX3_add_11 : decode cX3_add 11 = .ok (.aload_n 0, 1) := by decide +kernel
theorem dX3_add_12 : decode cX3_add 12 = .ok (.getfield 15, 3) := by decide +kernel
theorem dX3_add_15 : decode cX3_add 15 = .ok (.aload_n 0, 1) := by decide +kernel
theorem dX3_add_16 : decode cX3_add 16 = .ok (.getfield 9, 3) := by decide +kernel
theorem dX3_add_19 : decode cX3_add 19 = .ok (.iload_n 2, 1) := by decide +kernel
theorem dX3_add_20 : decode cX3_add 20 = .ok (.bipush 64, 2) := by decide +kernel
theorem dX3_add_22 : decode cX3_add 22 = .ok (.imul, 1) := by decide +kernel
theorem dX3_add_23 : decode cX3_add 23 = .ok (.iload_n 1, 1) := by decide +kernel
theorem dX3_add_24 : decode cX3_add 24 = .ok (.iadd, 1) := by decide +kernel
theorem dX3_add_25 : decode cX3_add 25 = .ok (.iastore, 1) := by decide +kernel
theorem dX3_add_26 : decode cX3_add 26 = .ok (.aload_n 0, 1) := by decide +kernel
theorem dX3_add_27 : decode cX3_add 27 = .ok (.dup, 1) := by decide +kernel
theorem dX3_add_28 : decode cX3_add 28 = .ok (.getfield 9, 3) := by decide +kernel
theorem dX3_add_31 : decode cX3_add 31 = .ok (.iconst 1, 1) := by decide +kernel
theorem dX3_add_32 : decode cX3_add 32 = .ok (.iadd, 1) := by decide +kernel
theorem dX3_add_33 : decode cX3_add 33 = .ok (.putfield 9, 3) := by decide +kernel
theorem dX3_add_36 : decode cX3_add 36 = .ok (.iconst 1, 1) := by decide +kernel
theorem dX3_add_37 : decode cX3_add 37 = .ok (.ireturn, 1) := by decide +kernel
set_option maxRecDepth 20000 in
theorem ggX3_remove_X3_find : GoodIn wsX3_remove wsX3_find := goodIn_r _ [7, 1, 2, 8, 9] (by decide +kernel) (by decide +kernel)
set_option maxRecDepth 20000 in
theorem gX3_remove_X3_find : GoodIn wsX3_remove (wsV RX3 19 RX3 yX3_find wsX3_find) := goodIn_app (goodIn_of _ (by decide +kernel)) ggX3_remove_X3_find
theorem dX3_remove_0 : decode cX3_remove 0 = .ok (.aload_n 0, 1) := by decide +kernel
theorem dX3_remove_1 : decode cX3_remove 1 = .ok (.iload_n 1, 1) := by decide +kernel
theorem dX3_remove_2 : decode cX3_remove 2 = .ok (.iload_n 2, 1) := by decide +kernel
theorem dX3_remove_3 : decode cX3_remove 3 = .ok (.invokevirtual 19, 3) := by decide +kernel
theorem dX3_remove_6 : decode cX3_remove 6 = .ok (.istore_n 3, 1) := by decide +kernel
theorem dX3_remove_7 : decode cX3_remove 7 = .ok (.iload_n 3, 1) := by decide +kernel
theorem dX3_remove_8 : decode cX3_remove 8 = .ok (.iconst (-1), 1) := by decide +kernel
theorem dX3_remove_9 : decode cX3_remove 9 = .ok (.if_icmp .ne 5, 3) := by decide +kernel
theorem dX3_remove_12 : decode cX3_remove 12 = .ok (.iconst 0, 1) := by decide +kernel
theorem dX3_remove_13 : decode cX3_remove 13 = .ok (.ireturn, 1) := by decide +kernel
theorem dX3_remove_14 : decode cX3_remove 14 = .ok (.aload_n 0, 1) := by decide +kernel
theorem dX3_remove_15 : decode cX3_remove 15 = .ok (.dup, 1) := by decide +kernel
theorem dX3_remove_16 : decode cX3_remove 16 = .ok (.getfield 9, 3) := by decide +kernel
theorem dX3_remove_19 : decode cX3_remove 19 = .ok (.iconst 1, 1) := by decide +kernel
theorem dX3_remove_20 : decode cX3_remove 20 = .ok (.isub, 1) := by decide +kernel
theorem dX3_remove_21 : decode cX3_remove 21 = .ok (.putfield 9, 3) := by decide +kernel
theorem dX3_remove_24 : decode cX3_remove 24 = .ok (.aload_n 0, 1) := by decide +kernel
theorem dX3_remove_25 : decode cX3_remove 25 = .ok (.getfield 15, 3) := by decide +kernel
theorem dX3_remove_28 : decode cX3_remove 28 = .ok (.iload_n 3, 1) := by decide +kernel
theorem dX3_remove_29 : decode cX3_remove 29 = .ok (.aload_n 0, 1) := by decide +kernel
theorem dX3_remove_30 : decode cX3_remove 30 = .ok (.getfield 15, 3) := by decide +kernel
theorem dX3_remove_33 : decode cX3_remove 33 = .ok (.aload_n 0, 1) := by decide +kernel
theorem dX3_remove_34 : decode cX3_remove 34 = .ok (.getfield 9, 3) := by decide +kernel
theorem dX3_remove_37 : decode cX3_remove 37 = .ok (.iaload, 1) := by decide +kernel
theorem dX3_remove_38 : decode cX3_remove 38 = .ok (.iastore, 1) := by decide +kernel
theorem dX3_remove_39 : decode cX3_remove 39 = .ok (.iconst 1, 1) := by decide +kernel
theorem dX3_remove_40 : decode cX3_remove 40 = .ok (.ireturn, 1) := by decide +kernel
theorem dX3_removeAll_0 : decode cX3_removeAll 0 = .ok (.aload_n 0, 1) := by decide +kernel
theorem dX3_removeAll_1 : decode cX3_removeAll 1 = .ok (.iconst 0, 1) := by decide +kernel
theorem dX3_removeAll_2 : decode cX3_removeAll 2 = .ok (.putfield 9, 3) := by decide +kernel
theorem dX3_removeAll_5 : decode cX3_removeAll 5 = .ok (.return_, 1) := by decide +kernel
theorem dX3_copyFrom_0 : decode cX3_copyFrom 0 = .ok (.aload_n 0, 1) := by decide +kernel
theorem dX3_copyFrom_1 : decode cX3_copyFrom 1 = .ok (.aload_n 1, 1) := by decide +kernel
theorem dX3_copyFrom_2 : decode cX3_copyFrom 2 = .ok (.getfield 9, 3) := by decide +kernel
theorem dX3_copyFrom_5 : decode cX3_copyFrom 5 = .ok (.putfield 9, 3) := by decide +kernel
theorem dX3_copyFrom_8 : decode cX3_copyFrom 8 = .ok (.aload_n 1, 1) := by decide +kernel
theorem dX3_copyFrom_9 : decode cX3_copyFrom 9 = .ok (.getfield 15, 3) := by decide +kernel
theorem dX3_copyFrom_12 : decode cX3_copyFrom 12 = .ok (.iconst 0, 1) := by decide +kernel
theorem dX3_copyFrom_13 : decode cX3_copyFrom 13 = .ok (.aload_n 0, 1) := by decide +kernel
theorem dX3_copyFrom_14 : decode cX3_copyFrom 14 = .ok (.getfield 15, 3) := by decide +kernel
theorem dX3_copyFrom_17 : decode cX3_copyFrom 17 = .ok (.iconst 0, 1) := by decide +kernel
theorem dX3_copyFrom_18 : decode cX3_copyFrom 18 = .ok (.aload_n 0, 1) := by decide +kernel
theorem dX3_copyFrom_19 : decode cX3_copyFrom 19 = .ok (.getfield 15, 3) := by decide +kernel
theorem dX3_copyFrom_22 : decode cX3_copyFrom 22 = .ok (.arraylength, 1) := by decide +kernel
theorem dX3_copyFrom_23 : decode cX3_copyFrom 23 = .ok (.invokestatic 23, 3) := by decide +kernel
theorem dX3_copyFrom_26 : decode cX3_copyFrom 26 = .ok (.return_, 1) := by decide +kernel
set_option maxRecDepth 20000 in
theorem ggX3_indexOfPoint_X2_indexOf : GoodIn wsX3_indexOfPoint wsX2_indexOf := goodIn_r _ [6, 7, 10, 11, 12, 13] (by decide +kernel) (by decide +kernel)
set_option maxRecDepth 20000 in
theorem gX3_indexOfPoint_X2_indexOf : GoodIn wsX3_indexOfPoint (wsV RX3 29 RX2 yX2_indexOf wsX2_indexOf) := goodIn_app (goodIn_of _ (by decide +kernel)) ggX3_indexOfPoint_X2_indexOf
theorem dX3_indexOfPoint_0 : decode cX3_indexOfPoint 0 = .ok (.aload_n 2, 1) := by decide +kernel
theorem dX3_indexOfPoint_1 : decode cX3_indexOfPoint 1 = .ok (.aload_n 0, 1) := by decide +kernel
theorem dX3_indexOfPoint_2 : decode cX3_indexOfPoint 2 = .ok (.getfield 15, 3) := by decide +kernel
theorem dX3_indexOfPoint_5 : decode cX3_indexOfPoint 5 = .ok (.iload_n 1, 1) := by decide +kernel
theorem dX3_indexOfPoint_6 : decode cX3_indexOfPoint 6 = .ok (.iaload, 1) := by decide +kernel
theorem dX3_indexOfPoint_7 : decode cX3_indexOfPoint 7 = .ok (.bipush 64, 2) := by decide +kernel
theorem dX3_indexOfPoint_9 : decode cX3_indexOfPoint 9 = .ok (.irem, 1) := by decide +kernel
theorem dX3_indexOfPoint_10 : decode cX3_indexOfPoint 10 = .ok (.aload_n 0, 1) := by decide +kernel
theorem dX3_indexOfPoint_11 : decode cX3_indexOfPoint 11 = .ok (.getfield 15, 3) := by decide +kernel
theorem dX3_indexOfPoint_14 : decode cX3_indexOfPoint 14 = .ok (.iload_n 1, 1) := by decide +kernel
theorem dX3_indexOfPoint_15 : decode cX3_indexOfPoint 15 = .ok (.iaload, 1) := by decide +kernel
theorem dX3_indexOfPoint_16 : decode cX3_indexOfPoint 16 = .ok (.bipush 64, 2) := by decide +kernel
theorem dX3_indexOfPoint_18 : decode cX3_indexOfPoint 18 = .ok (.idiv, 1) := by decide +kernel
theorem dX3_indexOfPoint_19 : decode cX3_indexOfPoint 19 = .ok (.invokevirtual 29, 3) := by decide +kernel
theorem dX3_indexOfPoint_22 : decode cX3_indexOfPoint 22 = .ok (.ireturn, 1) := by decide +kernel
set_option maxRecDepth 20000 in
theorem ggX3_countBetween_X3_indexOfPoint : GoodIn wsX3_countBetween wsX3_indexOfPoint := goodIn_r _ [6, 7, 8, 9, 10, 11, 12, 13, 14, 15, 16, 17, 18, 19] (by decide +kernel) (by decide +kernel)
set_option maxRecDepth 20000 in
theorem gX3_countBetween_X3_indexOfPoint : GoodIn wsX3_countBetween (wsV RX3 34 RX3 yX3_indexOfPoint wsX3_indexOfPoint) := goodIn_app (goodIn_of _ (by decide +kernel)) ggX3_countBetween_X3_indexOfPoint
theorem dX3_countBetween_0 : decode cX3_countBetween 0 = .ok (.iconst 0, 1) := by decide +kernel
theorem dX3_countBetween_1 : decode cX3_countBetween 1 = .ok (.istore 4, 2) := by decide +kernel
theorem dX3_countBetween_3 : decode cX3_countBetween 3 = .ok (.iconst 0, 1) := by decide +kernel
theorem dX3_countBetween_4 : decode cX3_countBetween 4 = .ok (.istore 5, 2) := by decide +kernel
theorem dX3_countBetween_6 : decode cX3_countBetween 6 = .ok (.iload 5, 2) := by decide +kernel
theorem dX3_countBetween_8 : decode cX3_countBetween 8 = .ok (.aload_n 0, 1) := by decide +kernel
theorem dX3_countBetween_9 : decode cX3_countBetween 9 = .ok (.getfield 9, 3) := by decide +kernel
theorem dX3_countBetween_12 : decode cX3_countBetween 12 = .ok (.if_icmp .ge 33, 3) := by decide +kernel
theorem dX3_countBetween_15 : decode cX3_countBetween 15 = .ok (.aload_n 0, 1) := by decide +kernel
theorem dX3_countBetween_16 : decode cX3_countBetween 16 = .ok (.iload 5, 2) := by decide +kernel
theorem dX3_countBetween_18 : decode cX3_countBetween 18 = .ok (.aload_n 3, 1) := by decide +kernel
theorem dX3_countBetween_19 : decode cX3_countBetween 19 = .ok (.invokevirtual 34, 3) := by decide +kernel
theorem dX3_countBetween_22 : decode cX3_countBetween 22 = .ok (.istore 6, 2) := by decide +kernel
theorem dX3_countBetween_24 : decode cX3_countBetween 24 = .ok (.iload 6, 2) := by decide +kernel
theorem dX3_countBetween_26 : decode cX3_countBetween 26 = .ok (.iload_n 1, 1) := by decide +kernel
theorem dX3_countBetween_27 : decode cX3_countBetween 27 = .ok (.if_icmp .lt 12, 3) := by decide +kernel
theorem dX3_countBetween_30 : decode cX3_countBetween 30 = .ok (.iload 6, 2) := by decide +kernel
theorem dX3_countBetween_32 : decode cX3_countBetween 32 = .ok (.iload_n 2, 1) := by decide +kernel
theorem dX3_countBetween_33 : decode cX3_countBetween 33 = .ok (.if_icmp .ge 6, 3) := by decide +kernel
theorem dX3_countBetween_36 : decode cX3_countBetween 36 = .ok (.iinc 4 1, 3) := by decide +kernel
theorem dX3_countBetween_39 : decode cX3_countBetween 39 = .ok (.iinc 5 1, 3) := by decide +kernel
theorem dX3_countBetween_42 : decode cX3_countBetween 42 = .ok (.goto (-36), 3) := by decide +kernel
theorem dX3_countBetween_45 : decode cX3_countBetween 45 = .ok (.iload 4, 2) := by decide +kernel
theorem dX3_countBetween_47 : decode cX3_countBetween 47 = .ok (.ireturn, 1) := by decide +kernel
set_option maxRecDepth 20000 in
theorem ggX3_findNearest_X3_indexOfPoint : GoodIn wsX3_findNearest wsX3_indexOfPoint := goodIn_r _ [10, 11, 12, 13, 14, 15, 16, 17, 18, 19, 20, 21, 22, 23] (by decide +kernel) (by decide +kernel)
set_option maxRecDepth 20000 in
theorem gX3_findNearest_X3_indexOfPoint : GoodIn wsX3_findNearest (wsV RX3 34 RX3 yX3_indexOfPoint wsX3_indexOfPoint) := goodIn_app (goodIn_of _ (by decide +kernel)) ggX3_findNearest_X3_indexOfPoint
theorem dX3_findNearest_0 : decode cX3_findNearest 0 = .ok (.iconst (-1), 1) := by decide +kernel
theorem dX3_findNearest_1 : decode cX3_findNearest 1 = .ok (.istore_n 3, 1) := by decide +kernel
theorem dX3_findNearest_2 : decode cX3_findNearest 2 = .ok (.iconst 0, 1) := by decide +kernel
theorem dX3_findNearest_3 : decode cX3_findNearest 3 = .ok (.istore 4, 2) := by decide +kernel
theorem dX3_findNearest_5 : decode cX3_findNearest 5 = .ok (.iload 4, 2) := by decide +kernel
theorem dX3_findNearest_7 : decode cX3_findNearest 7 = .ok (.aload_n 0, 1) := by decide +kernel
theorem dX3_findNearest_8 : decode cX3_findNearest 8 = .ok (.getfield 9, 3) := by decide +kernel
theorem dX3_findNearest_11 : decode cX3_findNearest 11 = .ok (.if_icmp .ge 58, 3) := by decide +kernel
theorem dX3_findNearest_14 : decode cX3_findNearest 14 = .ok (.aload_n 0, 1) := by decide +kernel
theorem dX3_findNearest_15 : decode cX3_findNearest 15 = .ok (.iload 4, 2) := by decide +kernel
theorem dX3_findNearest_17 : decode cX3_findNearest 17 = .ok (.aload_n 1, 1) := by decide +kernel
theorem dX3_findNearest_18 : decode cX3_findNearest 18 = .ok (.invokevirtual 34, 3) := by decide +kernel
theorem dX3_findNearest_21 : decode cX3_findNearest 21 = .ok (.istore 5, 2) := by decide +kernel
theorem dX3_findNearest_23 : decode cX3_findNearest 23 = .ok (.iload 5, 2) := by decide +kernel
theorem dX3_findNearest_25 : decode cX3_findNearest 25 = .ok (.iload_n 2, 1) := by decide +kernel
theorem dX3_findNearest_26 : decode cX3_findNearest 26 = .ok (.isub, 1) := by decide +kernel
theorem dX3_findNearest_27 : decode cX3_findNearest 27 = .ok (.invokestatic 38, 3) := by decide +kernel
theorem dX3_findNearest_30 : decode cX3_findNearest 30 = .ok (.iload_n 3, 1) := by decide +kernel
theorem dX3_findNearest_31 : decode cX3_findNearest 31 = .ok (.iload_n 2, 1) := by decide +kernel
theorem dX3_findNearest_32 : decode cX3_findNearest 32 = .ok (.isub, 1) := by decide +kernel
theorem dX3_findNearest_33 : decode cX3_findNearest 33 = .ok (.invokestatic 38, 3) := by decide +kernel
theorem dX3_findNearest_36 : decode cX3_findNearest 36 = .ok (.isub, 1) := by decide +kernel
theorem dX3_findNearest_37 : decode cX3_findNearest 37 = .ok (.istore 6, 2) := by decide +kernel
theorem dX3_findNearest_39 : decode cX3_findNearest 39 = .ok (.iload_n 3, 1) := by decide +kernel
theorem dX3_findNearest_40 : decode cX3_findNearest 40 = .ok (.iconst (-1), 1) := by decide +kernel
theorem dX3_findNearest_41 : decode cX3_findNearest 41 = .ok (.if_icmp .eq 19, 3) := by decide +kernel
theorem dX3_findNearest_44 : decode cX3_findNearest 44 = .ok (.iload 6, 2) := by decide +kernel
theorem dX3_findNearest_46 : decode cX3_findNearest 46 = .ok (.ifCond .lt 14, 3) := by decide +kernel
theorem dX3_findNearest_49 : decode cX3_findNearest 49 = .ok (.iload 6, 2) := by decide +kernel
theorem dX3_findNearest_51 : decode cX3_findNearest 51 = .ok (.ifCond .ne 12, 3) := by decide +kernel
theorem dX3_findNearest_54 : decode cX3_findNearest 54 = .ok (.iload 5, 2) := by decide +kernel
theorem dX3_findNearest_56 : decode cX3_findNearest 56 = .ok (.iload_n 3, 1) := by decide +kernel
theorem dX3_findNearest_57 : decode cX3_findNearest 57 = .ok (.if_icmp .ge 6, 3) := by decide +kernel
theorem dX3_findNearest_60 : decode cX3_findNearest 60 = .ok (.iload 5, 2) := by decide +kernel
theorem dX3_findNearest_62 : decode cX3_findNearest 62 = .ok (.istore_n 3, 1) := by decide +kernel
theorem dX3_findNearest_63 : decode cX3_findNearest 63 = .ok (.iinc 4 1, 3) := by decide +kernel
theorem dX3_findNearest_66 : decode cX3_findNearest 66 = .ok (.goto (-61), 3) := by decide +kernel
theorem dX3_findNearest_69 : decode cX3_findNearest 69 = .ok (.iload_n 3, 1) := by decide +kernel
theorem dX3_findNearest_70 : decode cX3_findNearest 70 = .ok (.ireturn, 1) := by decide +kernel
theorem dX4_init_0 : decode cX4_init 0 = .ok (.aload_n 0, 1) := by decide +kernel
theorem dX4_init_1 : decode cX4_init 1 = .ok (.invokespecial 1, 3) := by decide +kernel
theorem dX4_init_4 : decode cX4_init 4 = .ok (.aload_n 0, 1) := by decide +kernel
theorem dX4_init_5 : decode cX4_init 5 = .ok (.iconst 0, 1) := by decide +kernel
theorem dX4_init_6 : decode cX4_init 6 = .ok (.putfield 7, 3) := by decide +kernel
theorem dX4_init_9 : decode cX4_init 9 = .ok (.aload_n 0, 1) := by decide +kernel
theorem dX4_init_10 : decode cX4_init 10 = .ok (.iconst 0, 1) := by decide +kernel
theorem dX4_init_11 : decode cX4_init 11 = .ok (.putfield 13, 3) := by decide +kernel
theorem dX4_init_14 : decode cX4_init 14 = .ok (.aload_n 0, 1) := by decide +kernel
theorem dX4_init_15 : decode cX4_init 15 = .ok (.iconst 0, 1) := by decide +kernel
theorem dX4_init_16 : decode cX4_init 16 = .ok (.putfield 16, 3) := by decide +kernel
theorem dX4_init_19 : decode cX4_init 19 = .ok (.aload_n 0, 1) := by decide +kernel
theorem dX4_init_20 : decode cX4_init 20 = .ok (.iconst 0, 1) := by decide +kernel
theorem dX4_init_21 : decode cX4_init 21 = .ok (.putfield 19, 3) := by decide +kernel
theorem dX4_init_24 : decode cX4_init 24 = .ok (.return_, 1) := by decide +kernel
theorem dX4_setEdges_0 : decode cX4_setEdges 0 = .ok (.aload_n 0, 1) := by decide +kernel
theorem dX4_setEdges_1 : decode cX4_setEdges 1 = .ok (.iload_n 1, 1) := by decide +kernel
theorem dX4_setEdges_2 : decode cX4_setEdges 2 = .ok (.putfield 7, 3) := by decide +kernel
theorem dX4_setEdges_5 : decode cX4_setEdges 5 = .ok (.aload_n 0, 1) := by decide +kernel
theorem dX4_setEdges_6 : decode cX4_setEdges 6 = .ok (.iload_n 2, 1) := by decide +kernel
theorem dX4_setEdges_7 : decode cX4_setEdges 7 = .ok (.putfield 13, 3) := by decide +kernel
theorem dX4_setEdges_10 : decode cX4_setEdges 10 = .ok (.aload_n 0, 1) := by decide +kernel
theorem dX4_setEdges_11 : decode cX4_setEdges 11 = .ok (.iload_n 3, 1) := by decide +kernel
theorem dX4_setEdges_12 : decode cX4_setEdges 12 = .ok (.putfield 16, 3) := by decide +kernel
theorem dX4_setEdges_15 : decode cX4_setEdges 15 = .ok (.aload_n 0, 1) := by decide +kernel
theorem dX4_setEdges_16 : decode cX4_setEdges 16 = .ok (.iload 4, 2) := by decide +kernel
theorem dX4_setEdges_18 : decode cX4_setEdges 18 = .ok (.putfield 19, 3) := by decide +kernel
theorem dX4_setEdges_21 : decode cX4_setEdges 21 = .ok (.return_, 1) := by decide +kernel
set_option maxRecDepth 20000 in
theorem ggX4_setWhole_X4_setEdges : GoodIn wsX4_setWhole wsX4_setEdges := goodIn_r _ [5, 6, 7, 8, 9, 10, 11, 12, 13] (by decide +kernel) (by decide +kernel)
set_option maxRecDepth 20000 in
theorem gX4_setWhole_X4_setEdges : GoodIn wsX4_setWhole (wsV RX4 22 RX4 yX4_setEdges wsX4_setEdges) := goodIn_app (goodIn_of _ (by decide +kernel)) ggX4_setWhole_X4_setEdges
theorem dX4_setWhole_0 : decode cX4_setWhole 0 = .ok (.aload_n 0, 1) := by decide +kernel
theorem dX4_setWhole_1 : decode cX4_setWhole 1 = .ok (.iconst 0, 1) := by decide +kernel
theorem dX4_setWhole_2 : decode cX4_setWhole 2 = .ok (.iconst 0, 1) := by decide +kernel
theorem dX4_setWhole_3 : decode cX4_setWhole 3 = .ok (.iload_n 1, 1) := by decide +kernel
theorem dX4_setWhole_4 : decode cX4_setWhole 4 = .ok (.iconst 1, 1) := by decide +kernel
theorem dX4_setWhole_5 : decode cX4_setWhole 5 = .ok (.isub, 1) := by decide +kernel
theorem dX4_setWhole_6 : decode cX4_setWhole 6 = .ok (.iload_n 1, 1) := by decide +kernel
theorem dX4_setWhole_7 : decode cX4_setWhole 7 = .ok (.iconst 1, 1) := by decide +kernel
theorem dX4_setWhole_8 : decode cX4_setWhole 8 = .ok (.isub, 1) := by decide +kernel
theorem dX4_setWhole_9 : decode cX4_setWhole 9 = .ok (.invokevirtual 22, 3) := by decide +kernel
theorem dX4_setWhole_12 : decode cX4_setWhole 12 = .ok (.return_, 1) := by decide +kernel
theorem dX4_holds_0 : decode cX4_holds 0 = .ok (.iload_n 1, 1) := by decide +kernel
theorem dX4_holds_1 : decode cX4_holds 1 = .ok (.aload_n 0, 1) := by decide +kernel
theorem dX4_holds_2 : decode cX4_holds 2 = .ok (.getfield 7, 3) := by decide +kernel
theorem dX4_holds_5 : decode cX4_holds 5 = .ok (.if_icmp .lt 31, 3) := by decide +kernel
theorem dX4_holds_8 : decode cX4_holds 8 = .ok (.iload_n 1, 1) := by decide +kernel
theorem dX4_holds_9 : decode cX4_holds 9 = .ok (.aload_n 0, 1) := by decide +kernel
theorem dX4_holds_10 : decode cX4_holds 10 = .ok (.getfield 16, 3) := by decide +kernel
theorem dX4_holds_13 : decode cX4_holds 13 = .ok (.if_icmp .gt 23, 3) := by decide +kernel
theorem dX4_holds_16 : decode cX4_holds 16 = .ok (.iload_n 2, 1) := by decide +kernel
theorem dX4_holds_17 : decode cX4_holds 17 = .ok (.aload_n 0, 1) := by decide +kernel
theorem dX4_holds_18 : decode cX4_holds 18 = .ok (.getfield 13, 3) := by decide +kernel
theorem dX4_holds_21 : decode cX4_holds 21 = .ok (.if_icmp .lt 15, 3) := by decide +kernel
theorem dX4_holds_24 : decode cX4_holds 24 = .ok (.iload_n 2, 1) := by decide +kernel
theorem dX4_holds_25 : decode cX4_holds 25 = .ok (.aload_n 0, 1) := by decide +kernel
theorem dX4_holds_26 : decode cX4_holds 26 = .ok (.getfield 19, 3) := by decide +kernel
theorem dX4_holds_29 : decode cX4_holds 29 = .ok (.if_icmp .gt 7, 3) := by decide +kernel
theorem dX4_holds_32 : decode cX4_holds 32 = .ok (.iconst 1, 1) := by decide +kernel
theorem dX4_holds_33 : decode cX4_holds 33 = .ok (.goto 4, 3) := by decide +kernel
theorem dX4_holds_36 : decode cX4_holds 36 = .ok (.iconst 0, 1) := by decide +kernel
theorem dX4_holds_37 : decode cX4_holds 37 = .ok (.ireturn, 1) := by decide +kernel
set_option maxRecDepth 20000 in
theorem ggX5_init_X6_init : GoodIn wsX5_init wsX6_init := goodIn_r _ [25, 26, 2, 3, 27, 28, 29, 30, 31, 32, 33, 58, 59] (by decide +kernel) (by decide +kernel)
set_option maxRecDepth 20000 in
theorem gX5_init_X6_init : GoodIn wsX5_init (wsX6_init) := ggX5_init_X6_init
set_option maxRecDepth 20000 in
theorem ggX5_init_X4_init : GoodIn wsX5_init wsX4_init := goodIn_r _ [35, 36, 2, 3, 37, 38, 39, 40, 60, 61, 62, 63] (by decide +kernel) (by decide +kernel)
set_option maxRecDepth 20000 in
theorem gX5_init_X4_init_n27 : GoodIn wsX5_init (wsX4_init) := ggX5_init_X4_init
set_option maxRecDepth 20000 in
theorem ggX5_init_X3_init : GoodIn wsX5_init wsX3_init := goodIn_r _ [42, 43, 2, 3, 44, 28, 45, 64, 65] (by decide +kernel) (by decide +kernel)
set_option maxRecDepth 20000 in
theorem gX5_init_X3_init_n34 : GoodIn wsX5_init (wsX3_init) := ggX5_init_X3_init
set_option maxRecDepth 20000 in
theorem ggX5_init_X1_init : GoodIn wsX5_init wsX1_init := goodIn_r _ [47, 48, 2, 3, 49, 28, 50, 66, 67] (by decide +kernel) (by decide +kernel)
set_option maxRecDepth 20000 in
theorem gX5_init_X1_init_n44 : GoodIn wsX5_init (wsX1_init) := ggX5_init_X1_init
theorem dX5_init_0 : decode cX5_init 0 = .ok (.aload_n 0, 1) := by decide +kernel
theorem dX5_init_1 : decode cX5_init 1 = .ok (.invokespecial 3, 3) := by decide +kernel
theorem dX5_init_4 : decode cX5_init 4 = .ok (.aload_n 0, 1) := by decide +kernel
theorem dX5_init_5 : decode cX5_init 5 = .ok (.iconst 3, 1) := by decide +kernel
theorem dX5_init_6 : decode cX5_init 6 = .ok (.putfield 9, 3) := by decide +kernel
theorem dX5_init_9 : decode cX5_init 9 = .ok (.aload_n 0, 1) := by decide +kernel
theorem dX5_init_10 : decode cX5_init 10 = .ok (.iconst 0, 1) := by decide +kernel
theorem dX5_init_11 : decode cX5_init 11 = .ok (.putfield 15, 3) := by decide +kernel
theorem dX5_init_14 : decode cX5_init 14 = .ok (.aload_n 0, 1) := by decide +kernel
theorem dX5_init_15 : decode cX5_init 15 = .ok (.new 18, 3) := by decide +kernel
theorem dX5_init_18 : decode cX5_init 18 = .ok (.dup, 1) := by decide +kernel
theorem dX5_init_19 : decode cX5_init 19 = .ok (.invokespecial 20, 3) := by decide +kernel
theorem dX5_init_22 : decode cX5_init 22 = .ok (.putfield 21, 3) := by decide +kernel
theorem dX5_init_25 : decode cX5_init 25 = .ok (.aload_n 0, 1) := by decide +kernel
theorem dX5_init_26 : decode cX5_init 26 = .ok (.new 25, 3) := by decide +kernel
theorem dX5_init_29 : decode cX5_init 29 = .ok (.dup, 1) := by decide +kernel
theorem dX5_init_30 : decode cX5_init 30 = .ok (.invokespecial 27, 3) := by decide +kernel
theorem dX5_init_33 : decode cX5_init 33 = .ok (.putfield 28, 3) := by decide +kernel
theorem dX5_init_36 : decode cX5_init 36 = .ok (.aload_n 0, 1) := by decide +kernel
theorem dX5_init_37 : decode cX5_init 37 = .ok (.new 32, 3) := by decide +kernel
theorem dX5_init_40 : decode cX5_init 40 = .ok (.dup, 1) := by decide +kernel
theorem dX5_init_41 : decode cX5_init 41 = .ok (.invokespecial 34, 3) := by decide +kernel
theorem dX5_init_44 : decode cX5_init 44 = .ok (.putfield 35, 3) := by decide +kernel
theorem dX5_init_47 : decode cX5_init 47 = .ok (.aload_n 0, 1) := by decide +kernel
theorem dX5_init_48 : decode cX5_init 48 = .ok (.iconst 2, 1) := by decide +kernel
theorem dX5_init_49 : decode cX5_init 49 = .ok (.putfield 39, 3) := by decide +kernel
theorem dX5_init_52 : decode cX5_init 52 = .ok (.aload_n 0, 1) := by decide +kernel
theorem dX5_init_53 : decode cX5_init 53 = .ok (.new 42, 3) := by decide +kernel
theorem dX5_init_56 : decode cX5_init 56 = .ok (.dup, 1) := by decide +kernel
theorem dX5_init_57 : decode cX5_init 57 = .ok (.invokespecial 44, 3) := by decide +kernel
theorem dX5_init_60 : decode cX5_init 60 = .ok (.putfield 45, 3) := by decide +kernel
theorem dX5_init_63 : decode cX5_init 63 = .ok (.return_, 1) := by decide +kernel
theorem dX5_stateCount_0 : decode cX5_stateCount 0 = .ok (.aload_n 0, 1) := by decide +kernel
theorem dX5_stateCount_1 : decode cX5_stateCount 1 = .ok (.getfield 15, 3) := by decide +kernel
theorem dX5_stateCount_4 : decode cX5_stateCount 4 = .ok (.lookupswitch 38 #[(1, 28), (2, 30)], 28) := by decide +kernel
theorem dX5_stateCount_32 : decode cX5_stateCount 32 = .ok (.iconst 4, 1) := by decide +kernel
theorem dX5_stateCount_33 : decode cX5_stateCount 33 = .ok (.ireturn, 1) := by decide +kernel
theorem dX5_stateCount_34 : decode cX5_stateCount 34 = .ok (.aload_n 0, 1) := by decide +kernel
theorem dX5_stateCount_35 : decode cX5_stateCount 35 = .ok (.getfield 21, 3) := by decide +kernel
theorem dX5_stateCount_38 : decode cX5_stateCount 38 = .ok (.getfield 49, 3) := by decide +kernel
theorem dX5_stateCount_41 : decode cX5_stateCount 41 = .ok (.ireturn, 1) := by decide +kernel
theorem dX5_stateCount_42 : decode cX5_stateCount 42 = .ok (.iconst 1, 1) := by decide +kernel
theorem dX5_stateCount_43 : decode cX5_stateCount 43 = .ok (.ireturn, 1) := by decide +kernel
theorem dX5_visitsOfCurve_0 : decode cX5_visitsOfCurve 0 = .ok (.aload_n 0, 1) := by decide +kernel
theorem dX5_visitsOfCurve_1 : decode cX5_visitsOfCurve 1 = .ok (.getfield 15, 3) := by decide +kernel
theorem dX5_visitsOfCurve_4 : decode cX5_visitsOfCurve 4 = .ok (.lookupswitch 40 #[(1, 28), (2, 32)], 28) := by decide +kernel
theorem dX5_visitsOfCurve_32 : decode cX5_visitsOfCurve 32 = .ok (.getstatic 52, 3) := by decide +kernel
theorem dX5_visitsOfCurve_35 : decode cX5_visitsOfCurve 35 = .ok (.areturn, 1) := by decide +kernel
theorem dX5_visitsOfCurve_36 : decode cX5_visitsOfCurve 36 = .ok (.aload_n 0, 1) := by decide +kernel
theorem dX5_visitsOfCurve_37 : decode cX5_visitsOfCurve 37 = .ok (.getfield 21, 3) := by decide +kernel
theorem dX5_visitsOfCurve_40 : decode cX5_visitsOfCurve 40 = .ok (.getfield 56, 3) := by decide +kernel
theorem dX5_visitsOfCurve_43 : decode cX5_visitsOfCurve 43 = .ok (.areturn, 1) := by decide +kernel
theorem dX5_visitsOfCurve_44 : decode cX5_visitsOfCurve 44 = .ok (.getstatic 59, 3) := by decide +kernel
theorem dX5_visitsOfCurve_47 : decode cX5_visitsOfCurve 47 = .ok (.areturn, 1) := by decide +kernel
set_option maxRecDepth 20000 in
theorem ggX5_copyFrom_X6_copyFrom : GoodIn wsX5_copyFrom wsX6_copyFrom := goodIn_r _ [16, 17, 18, 19, 20, 21, 22, 59, 60] (by decide +kernel) (by decide +kernel)
set_option maxRecDepth 20000 in
theorem gX5_copyFrom_X6_copyFrom : GoodIn wsX5_copyFrom (wsV RX5 62 RX6 yX6_copyFrom wsX6_copyFrom) := goodIn_app (goodIn_of _ (by decide +kernel)) ggX5_copyFrom_X6_copyFrom
set_option maxRecDepth 20000 in
theorem ggX5_copyFrom_X4_setEdges : GoodIn wsX5_copyFrom wsX4_setEdges := goodIn_r _ [27, 28, 29, 30, 31, 55, 56, 57, 58] (by decide +kernel) (by decide +kernel)
set_option maxRecDepth 20000 in
theorem gX5_copyFrom_X4_setEdges : GoodIn wsX5_copyFrom (wsV RX5 78 RX4 yX4_setEdges wsX4_setEdges) := goodIn_app (goodIn_of _ (by decide +kernel)) ggX5_copyFrom_X4_setEdges
set_option maxRecDepth 20000 in
theorem ggX5_copyFrom_X3_copyFrom : GoodIn wsX5_copyFrom wsX3_copyFrom := goodIn_r _ [36, 37, 38, 39, 20, 21, 22, 61, 62] (by decide +kernel) (by decide +kernel)
set_option maxRecDepth 20000 in
theorem gX5_copyFrom_X3_copyFrom : GoodIn wsX5_copyFrom (wsV RX5 82 RX3 yX3_copyFrom wsX3_copyFrom) := goodIn_app (goodIn_of _ (by decide +kernel)) ggX5_copyFrom_X3_copyFrom
set_option maxRecDepth 20000 in
theorem ggX5_copyFrom_X1_copyFrom : GoodIn wsX5_copyFrom wsX1_copyFrom := goodIn_r _ [44, 45, 46, 47, 20, 21, 22, 63, 64] (by decide +kernel) (by decide +kernel)
set_option maxRecDepth 20000 in
theorem gX5_copyFrom_X1_copyFrom : GoodIn wsX5_copyFrom (wsV RX5 85 RX1 yX1_copyFrom wsX1_copyFrom) := goodIn_app (goodIn_of _ (by decide +kernel)) ggX5_copyFrom_X1_copyFrom
theorem dX5_copyFrom_0 : decode cX5_copyFrom 0 = .ok (.aload_n 0, 1) := by decide +kernel
theorem dX5_copyFrom_1 : decode cX5_copyFrom 1 = .ok (.aload_n 1, 1) := by decide +kernel
theorem dX5_copyFrom_2 : decode cX5_copyFrom 2 = .ok (.getfield 9, 3) := by decide +kernel
theorem dX5_copyFrom_5 : decode cX5_copyFrom 5 = .ok (.putfield 9, 3) := by decide +kernel
theorem dX5_copyFrom_8 : decode cX5_copyFrom 8 = .ok (.aload_n 0, 1) := by decide +kernel
theorem dX5_copyFrom_9 : decode cX5_copyFrom 9 = .ok (.aload_n 1, 1) := by decide +kernel
theorem dX5_copyFrom_10 : decode cX5_copyFrom 10 = .ok (.getfield 15, 3) := by decide +kernel
theorem dX5_copyFrom_13 : decode cX5_copyFrom 13 = .ok (.putfield 15, 3) := by decide +kernel
theorem dX5_copyFrom_16 : decode cX5_copyFrom 16 = .ok (.aload_n 0, 1) := by decide +kernel
theorem dX5_copyFrom_17 : decode cX5_copyFrom 17 = .ok (.getfield 21, 3) := by decide +kernel
theorem dX5_copyFrom_20 : decode cX5_copyFrom 20 = .ok (.aload_n 1, 1) := by decide +kernel
theorem dX5_copyFrom_21 : decode cX5_copyFrom 21 = .ok (.getfield 21, 3) := by decide +kernel
theorem dX5_copyFrom_24 : decode cX5_copyFrom 24 = .ok (.invokevirtual 62, 3) := by decide +kernel
theorem dX5_copyFrom_27 : decode cX5_copyFrom 27 = .ok (.aload_n 0, 1) := by decide +kernel
theorem dX5_copyFrom_28 : decode cX5_copyFrom 28 = .ok (.getfield 28, 3) := by decide +kernel
theorem dX5_copyFrom_31 : decode cX5_copyFrom 31 = .ok (.aload_n 1, 1) := by decide +kernel
theorem dX5_copyFrom_32 : decode cX5_copyFrom 32 = .ok (.getfield 28, 3) := by decide +kernel
theorem dX5_copyFrom_35 : decode cX5_copyFrom 35 = .ok (.getfield 66, 3) := by decide +kernel
theorem dX5_copyFrom_38 : decode cX5_copyFrom 38 = .ok (.aload_n 1, 1) := by decide +kernel
theorem dX5_copyFrom_39 : decode cX5_copyFrom 39 = .ok (.getfield 28, 3) := by decide +kernel
theorem dX5_copyFrom_42 : decode cX5_copyFrom 42 = .ok (.getfield 69, 3) := by decide +kernel
theorem dX5_copyFrom_45 : decode cX5_copyFrom 45 = .ok (.aload_n 1, 1) := by decide +kernel
theorem dX5_copyFrom_46 : decode cX5_copyFrom 46 = .ok (.getfield 28, 3) := by decide +kernel
theorem dX5_copyFrom_49 : decode cX5_copyFrom 49 = .ok (.getfield 72, 3) := by decide +kernel
theorem dX5_copyFrom_52 : decode cX5_copyFrom 52 = .ok (.aload_n 1, 1) := by decide +kernel
theorem dX5_copyFrom_53 : decode cX5_copyFrom 53 = .ok (.getfield 28, 3) := by decide +kernel
theorem dX5_copyFrom_56 : decode cX5_copyFrom 56 = .ok (.getfield 75, 3) := by decide +kernel
theorem dX5_copyFrom_59 : decode cX5_copyFrom 59 = .ok (.invokevirtual 78, 3) := by decide +kernel
theorem dX5_copyFrom_62 : decode cX5_copyFrom 62 = .ok (.aload_n 0, 1) := by decide +kernel
theorem dX5_copyFrom_63 : decode cX5_copyFrom 63 = .ok (.getfield 35, 3) := by decide +kernel
theorem dX5_copyFrom_66 : decode cX5_copyFrom 66 = .ok (.aload_n 1, 1) := by decide +kernel
theorem dX5_copyFrom_67 : decode cX5_copyFrom 67 = .ok (.getfield 35, 3) := by decide +kernel
theorem dX5_copyFrom_70 : decode cX5_copyFrom 70 = .ok (.invokevirtual 82, 3) := by decide +kernel
theorem dX5_copyFrom_73 : decode cX5_copyFrom 73 = .ok (.aload_n 0, 1) := by decide +kernel
theorem dX5_copyFrom_74 : decode cX5_copyFrom 74 = .ok (.aload_n 1, 1) := by decide +kernel
theorem dX5_copyFrom_75 : decode cX5_copyFrom 75 = .ok (.getfield 39, 3) := by decide +kernel
theorem dX5_copyFrom_78 : decode cX5_copyFrom 78 = .ok (.putfield 39, 3) := by decide +kernel
theorem dX5_copyFrom_81 : decode cX5_copyFrom 81 = .ok (.aload_n 0, 1) := by decide +kernel
theorem dX5_copyFrom_82 : decode cX5_copyFrom 82 = .ok (.getfield 45, 3) := by decide +kernel
theorem dX5_copyFrom_85 : decode cX5_copyFrom 85 = .ok (.aload_n 1, 1) := by decide +kernel
theorem dX5_copyFrom_86 : decode cX5_copyFrom 86 = .ok (.getfield 45, 3) := by decide +kernel
theorem dX5_copyFrom_89 : decode cX5_copyFrom 89 = .ok (.invokevirtual 85, 3) := by decide +kernel
theorem dX5_copyFrom_92 : decode cX5_copyFrom 92 = .ok (.return_, 1) := by decide +kernel
theorem dX6_init_0 : decode cX6_init 0 = .ok (.aload_n 0, 1) := by decide +kernel
theorem dX6_init_1 : decode cX6_init 1 = .ok (.invokespecial 3, 3) := by decide +kernel
theorem dX6_init_4 : decode cX6_init 4 = .ok (.aload_n 0, 1) := by decide +kernel
theorem dX6_init_5 : decode cX6_init 5 = .ok (.iconst 1, 1) := by decide +kernel
theorem dX6_init_6 : decode cX6_init 6 = .ok (.putfield 9, 3) := by decide +kernel
theorem dX6_init_9 : decode cX6_init 9 = .ok (.aload_n 0, 1) := by decide +kernel
theorem dX6_init_10 : decode cX6_init 10 = .ok (.bipush 32, 2) := by decide +kernel
theorem dX6_init_12 : decode cX6_init 12 = .ok (.newarray .int, 2) := by decide +kernel
theorem dX6_init_14 : decode cX6_init 14 = .ok (.putfield 15, 3) := by decide +kernel
theorem dX6_init_17 : decode cX6_init 17 = .ok (.getstatic 19, 3) := by decide +kernel
theorem dX6_init_20 : decode cX6_init 20 = .ok (.iconst 0, 1) := by decide +kernel
theorem dX6_init_21 : decode cX6_init 21 = .ok (.aload_n 0, 1) := by decide +kernel
theorem dX6_init_22 : decode cX6_init 22 = .ok (.getfield 15, 3) := by decide +kernel
theorem dX6_init_25 : decode cX6_init 25 = .ok (.iconst 0, 1) := by decide +kernel
theorem dX6_init_26 : decode cX6_init 26 = .ok (.iconst 4, 1) := by decide +kernel
theorem dX6_init_27 : decode cX6_init 27 = .ok (.invokestatic 22, 3) := by decide +kernel
theorem dX6_init_30 : decode cX6_init 30 = .ok (.return_, 1) := by decide +kernel
set_option maxRecDepth 20000 in
theorem ggX6_takeFrom_X8_countStates : GoodIn wsX6_takeFrom wsX8_countStates := goodIn_r _ [7, 8, 16, 17] (by decide +kernel) (by decide +kernel)
set_option maxRecDepth 20000 in
theorem gX6_takeFrom_X8_countStates : GoodIn wsX6_takeFrom (wsV RX6 28 RX8 yX8_countStates wsX8_countStates) := goodIn_app (goodIn_of _ (by decide +kernel)) ggX6_takeFrom_X8_countStates
set_option maxRecDepth 20000 in
theorem ggX6_takeFrom_X8_digitAt : GoodIn wsX6_takeFrom wsX8_digitAt := goodIn_r _ [12, 13, 16, 17] (by decide +kernel) (by decide +kernel)
set_option maxRecDepth 20000 in
theorem gX6_takeFrom_X8_digitAt : GoodIn wsX6_takeFrom (wsV RX6 34 RX8 yX8_digitAt wsX8_digitAt) := goodIn_app (goodIn_of _ (by decide +kernel)) ggX6_takeFrom_X8_digitAt
theorem dX6_takeFrom_0 : decode cX6_takeFrom 0 = .ok (.aload_n 0, 1) := by decide +kernel
theorem dX6_takeFrom_1 : decode cX6_takeFrom 1 = .ok (.aload_n 1, 1) := by decide +kernel
theorem dX6_takeFrom_2 : decode cX6_takeFrom 2 = .ok (.invokevirtual 28, 3) := by decide +kernel
theorem dX6_takeFrom_5 : decode cX6_takeFrom 5 = .ok (.putfield 9, 3) := by decide +kernel
theorem dX6_takeFrom_8 : decode cX6_takeFrom 8 = .ok (.iconst 0, 1) := by decide +kernel
theorem dX6_takeFrom_9 : decode cX6_takeFrom 9 = .ok (.istore_n 2, 1) := by decide +kernel
theorem dX6_takeFrom_10 : decode cX6_takeFrom 10 = .ok (.iload_n 2, 1) := by decide +kernel
theorem dX6_takeFrom_11 : decode cX6_takeFrom 11 = .ok (.aload_n 0, 1) := by decide +kernel
theorem dX6_takeFrom_12 : decode cX6_takeFrom 12 = .ok (.getfield 9, 3) := by decide +kernel
theorem dX6_takeFrom_15 : decode cX6_takeFrom 15 = .ok (.if_icmp .ge 54, 3) := by decide +kernel
theorem dX6_takeFrom_18 : decode cX6_takeFrom 18 = .ok (.iconst 0, 1) := by decide +kernel
theorem dX6_takeFrom_19 : decode cX6_takeFrom 19 = .ok (.istore_n 3, 1) := by decide +kernel
theorem dX6_takeFrom_20 : decode cX6_takeFrom 20 = .ok (.iload_n 3, 1) := by decide +kernel
theorem dX6_takeFrom_21 : decode cX6_takeFrom 21 = .ok (.iconst 4, 1) := by decide +kernel
theorem dX6_takeFrom_22 : decode cX6_takeFrom 22 = .ok (.if_icmp .ge 41, 3) := by decide +kernel
theorem dX6_takeFrom_25 : decode cX6_takeFrom 25 = .ok (.aload_n 1, 1) := by decide +kernel
theorem dX6_takeFrom_26 : decode cX6_takeFrom 26 = .ok (.iload_n 2, 1) := by decide +kernel
theorem dX6_takeFrom_27 : decode cX6_takeFrom 27 = .ok (.iload_n 3, 1) := by decide +kernel
theorem dX6_takeFrom_28 : decode cX6_takeFrom 28 = .ok (.invokevirtual 34, 3) := by decide +kernel
theorem dX6_takeFrom_31 : decode cX6_takeFrom 31 = .ok (.istore 4, 2) := by decide +kernel
theorem dX6_takeFrom_33 : decode cX6_takeFrom 33 = .ok (.aload_n 0, 1) := by decide +kernel
theorem dX6_takeFrom_34 : decode cX6_takeFrom 34 = .ok (.getfield 15, 3) := by decide +kernel
theorem dX6_takeFrom_37 : decode cX6_takeFrom 37 = .ok (.iconst 4, 1) := by decide +kernel
theorem dX6_takeFrom_38 : decode cX6_takeFrom 38 = .ok (.iload_n 2, 1) := by decide +kernel
theorem dX6_takeFrom_39 : decode cX6_takeFrom 39 = .ok (.imul, 1) := by decide +kernel
theorem dX6_takeFrom_40 : decode cX6_takeFrom 40 = .ok (.iload_n 3, 1) := by decide +kernel
theorem dX6_takeFrom_41 : decode cX6_takeFrom 41 = .ok (.iadd, 1) := by decide +kernel
theorem dX6_takeFrom_42 : decode cX6_takeFrom 42 = .ok (.bipush 10, 2) := by decide +kernel
theorem dX6_takeFrom_44 : decode cX6_takeFrom 44 = .ok (.iload 4, 2) := by decide +kernel
theorem dX6_takeFrom_46 : decode cX6_takeFrom 46 = .ok (.imul, 1) := by decide +kernel
theorem dX6_takeFrom_47 : decode cX6_takeFrom 47 = .ok (.aload_n 1, 1) := by decide +kernel
theorem dX6_takeFrom_48 : decode cX6_takeFrom 48 = .ok (.iload_n 2, 1) := by decide +kernel
theorem dX6_takeFrom_49 : decode cX6_takeFrom 49 = .ok (.iconst 4, 1) := by decide +kernel
theorem dX6_takeFrom_50 : decode cX6_takeFrom 50 = .ok (.iload_n 3, 1) := by decide +kernel
theorem dX6_takeFrom_51 : decode cX6_takeFrom 51 = .ok (.iadd, 1) := by decide +kernel
theorem dX6_takeFrom_52 : decode cX6_takeFrom 52 = .ok (.invokevirtual 34, 3) := by decide +kernel
theorem dX6_takeFrom_55 : decode cX6_takeFrom 55 = .ok (.iadd, 1) := by decide +kernel
theorem dX6_takeFrom_56 : decode cX6_takeFrom 56 = .ok (.iastore, 1) := by decide +kernel
theorem dX6_takeFrom_57 : decode cX6_takeFrom 57 = .ok (.iinc 3 1, 3) := by decide +kernel
theorem dX6_takeFrom_60 : decode cX6_takeFrom 60 = .ok (.goto (-40), 3) := by decide +kernel
theorem dX6_takeFrom_63 : decode cX6_takeFrom 63 = .ok (.iinc 2 1, 3) := by decide +kernel
theorem dX6_takeFrom_66 : decode cX6_takeFrom 66 = .ok (.goto (-56), 3) := by decide +kernel
theorem dX6_takeFrom_69 : decode cX6_takeFrom 69 = .ok (.return_, 1) := by decide +kernel
theorem dX6_copyFrom_0 : decode cX6_copyFrom 0 = .ok (.aload_n 0, 1) := by decide +kernel
theorem dX6_copyFrom_1 : decode cX6_copyFrom 1 = .ok (.aload_n 1, 1) := by decide +kernel
theorem dX6_copyFrom_2 : decode cX6_copyFrom 2 = .ok (.getfield 9, 3) := by decide +kernel
theorem dX6_copyFrom_5 : decode cX6_copyFrom 5 = .ok (.putfield 9, 3) := by decide +kernel
theorem dX6_copyFrom_8 : decode cX6_copyFrom 8 = .ok (.aload_n 1, 1) := by decide +kernel
theorem dX6_copyFrom_9 : decode cX6_copyFrom 9 = .ok (.getfield 15, 3) := by decide +kernel
theorem dX6_copyFrom_12 : decode cX6_copyFrom 12 = .ok (.iconst 0, 1) := by decide +kernel
theorem dX6_copyFrom_13 : decode cX6_copyFrom 13 = .ok (.aload_n 0, 1) := by decide +kernel
theorem dX6_copyFrom_14 : decode cX6_copyFrom 14 = .ok (.getfield 15, 3) := by decide +kernel
theorem dX6_copyFrom_17 : decode cX6_copyFrom 17 = .ok (.iconst 0, 1) := by decide +kernel
theorem dX6_copyFrom_18 : decode cX6_copyFrom 18 = .ok (.aload_n 0, 1) := by decide +kernel
theorem dX6_copyFrom_19 : decode cX6_copyFrom 19 = .ok (.getfield 15, 3) := by decide +kernel
theorem dX6_copyFrom_22 : decode cX6_copyFrom 22 = .ok (.arraylength, 1) := by decide +kernel
theorem dX6_copyFrom_23 : decode cX6_copyFrom 23 = .ok (.invokestatic 22, 3) := by decide +kernel
theorem dX6_copyFrom_26 : decode cX6_copyFrom 26 = .ok (.return_, 1) := by decide +kernel
theorem dX7_init_0 : decode cX7_init 0 = .ok (.aload_n 0, 1) := by decide +kernel
theorem dX7_init_1 : decode cX7_init 1 = .ok (.invokespecial 3, 3) := by decide +kernel
theorem dX7_init_4 : decode cX7_init 4 = .ok (.aload_n 0, 1) := by decide +kernel
theorem dX7_init_5 : decode cX7_init 5 = .ok (.iconst 0, 1) := by decide +kernel
theorem dX7_init_6 : decode cX7_init 6 = .ok (.putfield 9, 3) := by decide +kernel
theorem dX7_init_9 : decode cX7_init 9 = .ok (.aload_n 0, 1) := by decide +kernel
theorem dX7_init_10 : decode cX7_init 10 = .ok (.bipush 64, 2) := by decide +kernel
theorem dX7_init_12 : decode cX7_init 12 = .ok (.newarray .int, 2) := by decide +kernel
theorem dX7_init_14 : decode cX7_init 14 = .ok (.putfield 15, 3) := by decide +kernel
theorem dX7_init_17 : decode cX7_init 17 = .ok (.aload_n 0, 1) := by decide +kernel
theorem dX7_init_18 : decode cX7_init 18 = .ok (.aload_n 1, 1) := by decide +kernel
theorem dX7_init_19 : decode cX7_init 19 = .ok (.putfield 19, 3) := by decide +kernel
theorem dX7_init_22 : decode cX7_init 22 = .ok (.aload_n 0, 1) := by decide +kernel
theorem dX7_init_23 : decode cX7_init 23 = .ok (.aload_n 2, 1) := by decide +kernel
theorem dX7_init_24 : decode cX7_init 24 = .ok (.putfield 23, 3) := by decide +kernel
theorem dX7_init_27 : decode cX7_init 27 = .ok (.return_, 1) := by decide +kernel
set_option maxRecDepth 20000 in
theorem ggX7_leftOf_X2_xAt : GoodIn wsX7_leftOf wsX2_xAt := goodIn_r _ [8, 9, 22, 23, 24, 25] (by decide +kernel) (by decide +kernel)
set_option maxRecDepth 20000 in
theorem gX7_leftOf_X2_xAt : GoodIn wsX7_leftOf (wsV RX7 32 RX2 yX2_xAt wsX2_xAt) := goodIn_app (goodIn_of _ (by decide +kernel)) ggX7_leftOf_X2_xAt
set_option maxRecDepth 20000 in
theorem ggX7_leftOf_X1_sideOf : GoodIn wsX7_leftOf wsX1_sideOf := goodIn_r _ [14, 15, 20, 21] (by decide +kernel) (by decide +kernel)
set_option maxRecDepth 20000 in
theorem gX7_leftOf_X1_sideOf : GoodIn wsX7_leftOf (wsV RX7 38 RX1 yX1_sideOf wsX1_sideOf) := goodIn_app (goodIn_of _ (by decide +kernel)) ggX7_leftOf_X1_sideOf
theorem dX7_leftOf_0 : decode cX7_leftOf 0 = .ok (.aload_n 0, 1) := by decide +kernel
theorem dX7_leftOf_1 : decode cX7_leftOf 1 = .ok (.getfield 19, 3) := by decide +kernel
theorem dX7_leftOf_4 : decode cX7_leftOf 4 = .ok (.aload_n 0, 1) := by decide +kernel
theorem dX7_leftOf_5 : decode cX7_leftOf 5 = .ok (.getfield 23, 3) := by decide +kernel
theorem dX7_leftOf_8 : decode cX7_leftOf 8 = .ok (.getfield 27, 3) := by decide +kernel
theorem dX7_leftOf_11 : decode cX7_leftOf 11 = .ok (.iload_n 1, 1) := by decide +kernel
theorem dX7_leftOf_12 : decode cX7_leftOf 12 = .ok (.iaload, 1) := by decide +kernel
theorem dX7_leftOf_13 : decode cX7_leftOf 13 = .ok (.invokevirtual 32, 3) := by decide +kernel
theorem dX7_leftOf_16 : decode cX7_leftOf 16 = .ok (.aload_n 0, 1) := by decide +kernel
theorem dX7_leftOf_17 : decode cX7_leftOf 17 = .ok (.getfield 23, 3) := by decide +kernel
theorem dX7_leftOf_20 : decode cX7_leftOf 20 = .ok (.iload_n 1, 1) := by decide +kernel
theorem dX7_leftOf_21 : decode cX7_leftOf 21 = .ok (.invokevirtual 38, 3) := by decide +kernel
theorem dX7_leftOf_24 : decode cX7_leftOf 24 = .ok (.ineg, 1) := by decide +kernel
theorem dX7_leftOf_25 : decode cX7_leftOf 25 = .ok (.iand, 1) := by decide +kernel
theorem dX7_leftOf_26 : decode cX7_leftOf 26 = .ok (.ireturn, 1) := by decide +kernel
set_option maxRecDepth 20000 in
theorem ggX7_belowOf_X2_yAt : GoodIn wsX7_belowOf wsX2_yAt := goodIn_r _ [8, 9, 22, 23, 24, 25] (by decide +kernel) (by decide +kernel)
set_option maxRecDepth 20000 in
theorem gX7_belowOf_X2_yAt : GoodIn wsX7_belowOf (wsV RX7 41 RX2 yX2_yAt wsX2_yAt) := goodIn_app (goodIn_of _ (by decide +kernel)) ggX7_belowOf_X2_yAt
set_option maxRecDepth 20000 in
theorem ggX7_belowOf_X1_sideOf : GoodIn wsX7_belowOf wsX1_sideOf := goodIn_r _ [14, 15, 20, 21] (by decide +kernel) (by decide +kernel)
set_option maxRecDepth 20000 in
theorem gX7_belowOf_X1_sideOf : GoodIn wsX7_belowOf (wsV RX7 38 RX1 yX1_sideOf wsX1_sideOf) := goodIn_app (goodIn_of _ (by decide +kernel)) ggX7_belowOf_X1_sideOf
theorem dX7_belowOf_0 : decode cX7_belowOf 0 = .ok (.aload_n 0, 1) := by decide +kernel
theorem dX7_belowOf_1 : decode cX7_belowOf 1 = .ok (.getfield 19, 3) := by decide +kernel
theorem dX7_belowOf_4 : decode cX7_belowOf 4 = .ok (.aload_n 0, 1) := by decide +kernel
theorem dX7_belowOf_5 : decode cX7_belowOf 5 = .ok (.getfield 23, 3) := by decide +kernel
theorem dX7_belowOf_8 : decode cX7_belowOf 8 = .ok (.getfield 27, 3) := by decide +kernel
theorem dX7_belowOf_11 : decode cX7_belowOf 11 = .ok (.iload_n 1, 1) := by decide +kernel
theorem dX7_belowOf_12 : decode cX7_belowOf 12 = .ok (.iaload, 1) := by decide +kernel
theorem dX7_belowOf_13 : decode cX7_belowOf 13 = .ok (.invokevirtual 41, 3) := by decide +kernel
theorem dX7_belowOf_16 : decode cX7_belowOf 16 = .ok (.aload_n 0, 1) := by decide +kernel
theorem dX7_belowOf_17 : decode cX7_belowOf 17 = .ok (.getfield 23, 3) := by decide +kernel
theorem dX7_belowOf_20 : decode cX7_belowOf 20 = .ok (.iload_n 1, 1) := by decide +kernel
theorem dX7_belowOf_21 : decode cX7_belowOf 21 = .ok (.invokevirtual 38, 3) := by decide +kernel
theorem dX7_belowOf_24 : decode cX7_belowOf 24 = .ok (.ineg, 1) := by decide +kernel
theorem dX7_belowOf_25 : decode cX7_belowOf 25 = .ok (.iand, 1) := by decide +kernel
theorem dX7_belowOf_26 : decode cX7_belowOf 26 = .ok (.ireturn, 1) := by decide +kernel
set_option maxRecDepth 20000 in
theorem ggX7_findBeyond_X1_sideOf : GoodIn wsX7_findBeyond wsX1_sideOf := goodIn_r _ [12, 13, 61, 62] (by decide +kernel) (by decide +kernel)
set_option maxRecDepth 20000 in
theorem gX7_findBeyond_X1_sideOf : GoodIn wsX7_findBeyond (wsV RX7 38 RX1 yX1_sideOf wsX1_sideOf) := goodIn_app (goodIn_of _ (by decide +kernel)) ggX7_findBeyond_X1_sideOf
set_option maxRecDepth 20000 in
theorem ggX7_findBeyond_X7_leftOf : GoodIn wsX7_findBeyond wsX7_leftOf := goodIn_r _ [18, 3, 1, 19, 20, 21, 22, 23, 24, 25, 8, 9, 10, 11, 12, 13, 57, 58, 59, 60, 61, 62, 63, 64, 65, 66] (by decide +kernel) (by decide +kernel)
set_option maxRecDepth 20000 in
theorem gX7_findBeyond_X7_leftOf : GoodIn wsX7_findBeyond (wsV RX7 44 RX7 yX7_leftOf wsX7_leftOf) := goodIn_app (goodIn_of _ (by decide +kernel)) ggX7_findBeyond_X7_leftOf
set_option maxRecDepth 20000 in
theorem ggX7_findBeyond_X7_stepAcross : GoodIn wsX7_findBeyond wsX7_stepAcross := goodIn_r _ [28] (by decide +kernel) (by decide +kernel)
set_option maxRecDepth 20000 in
theorem gX7_findBeyond_X7_stepAcross : GoodIn wsX7_findBeyond (va_wsS RX7 47 yX7_stepAcross wsX7_stepAcross) := goodIn_app (goodIn_of _ (by decide +kernel)) ggX7_findBeyond_X7_stepAcross
set_option maxRecDepth 20000 in
theorem ggX7_findBeyond_X7_belowOf : GoodIn wsX7_findBeyond wsX7_belowOf := goodIn_r _ [32, 3, 1, 19, 33, 34, 35, 23, 36, 25, 8, 9, 10, 11, 12, 13, 57, 58, 59, 60, 61, 62, 63, 64, 65, 66] (by decide +kernel) (by decide +kernel)
set_option maxRecDepth 20000 in
theorem gX7_findBeyond_X7_belowOf : GoodIn wsX7_findBeyond (wsV RX7 51 RX7 yX7_belowOf wsX7_belowOf) := goodIn_app (goodIn_of _ (by decide +kernel)) ggX7_findBeyond_X7_belowOf
set_option maxRecDepth 20000 in
theorem ggX7_findBeyond_X2_holds : GoodIn wsX7_findBeyond wsX2_holds := goodIn_r _ [40, 41, 63, 64, 65, 66] (by decide +kernel) (by decide +kernel)
set_option maxRecDepth 20000 in
theorem gX7_findBeyond_X2_holds : GoodIn wsX7_findBeyond (wsV RX7 54 RX2 yX2_holds wsX2_holds) := goodIn_app (goodIn_of _ (by decide +kernel)) ggX7_findBeyond_X2_holds
set_option maxRecDepth 20000 in
theorem ggX7_findBeyond_X2_indexOf : GoodIn wsX7_findBeyond wsX2_indexOf := goodIn_r _ [45, 46, 63, 64, 65, 66] (by decide +kernel) (by decide +kernel)
set_option maxRecDepth 20000 in
theorem gX7_findBeyond_X2_indexOf : GoodIn wsX7_findBeyond (wsV RX7 58 RX2 yX2_indexOf wsX2_indexOf) := goodIn_app (goodIn_of _ (by decide +kernel)) ggX7_findBeyond_X2_indexOf
set_option maxRecDepth 20000 in
theorem ggX7_findBeyond_X1_leafOfIndex : GoodIn wsX7_findBeyond wsX1_leafOfIndex := goodIn_r _ [50, 51, 13, 61, 62] (by decide +kernel) (by decide +kernel)
set_option maxRecDepth 20000 in
theorem gX7_findBeyond_X1_leafOfIndex : GoodIn wsX7_findBeyond (wsV RX7 62 RX1 yX1_leafOfIndex wsX1_leafOfIndex) := goodIn_app (goodIn_of _ (by decide +kernel)) ggX7_findBeyond_X1_leafOfIndex
set_option maxRecDepth 20000 in
theorem ggX7_findBeyond_X7_insert : GoodIn wsX7_findBeyond wsX7_insert := goodIn_r _ [55, 2, 56, 57, 58, 59, 60] (by decide +kernel) (by decide +kernel)
set_option maxRecDepth 20000 in
theorem gX7_findBeyond_X7_insert : GoodIn wsX7_findBeyond (wsV RX7 65 RX7 yX7_insert wsX7_insert) := goodIn_app (goodIn_of _ (by decide +kernel)) ggX7_findBeyond_X7_insert
theorem dX7_findBeyond_0 : decode cX7_findBeyond 0 = .ok (.aload_n 0, 1) := by decide +kernel
theorem dX7_findBeyond_1 : decode cX7_findBeyond 1 = .ok (.getfield 23, 3) := by decide +kernel
theorem dX7_findBeyond_4 : decode cX7_findBeyond 4 = .ok (.iload_n 1, 1) := by decide +kernel
theorem dX7_findBeyond_5 : decode cX7_findBeyond 5 = .ok (.invokevirtual 38, 3) := by decide +kernel
theorem dX7_findBeyond_8 : decode cX7_findBeyond 8 = .ok (.istore_n 3, 1) := by decide +kernel
theorem dX7_findBeyond_9 : decode cX7_findBeyond 9 = .ok (.aload_n 0, 1) := by decide +kernel
theorem dX7_findBeyond_10 : decode cX7_findBeyond 10 = .ok (.iload_n 1, 1) := by decide +kernel
theorem dX7_findBeyond_11 : decode cX7_findBeyond 11 = .ok (.invokevirtual 44, 3) := by decide +kernel
theorem dX7_findBeyond_14 : decode cX7_findBeyond 14 = .ok (.iload_n 2, 1) := by decide +kernel
theorem dX7_findBeyond_15 : decode cX7_findBeyond 15 = .ok (.ifCond .ne 7, 3) := by decide +kernel
theorem dX7_findBeyond_18 : decode cX7_findBeyond 18 = .ok (.iconst 1, 1) := by decide +kernel
theorem dX7_findBeyond_19 : decode cX7_findBeyond 19 = .ok (.goto 4, 3) := by decide +kernel
theorem dX7_findBeyond_22 : decode cX7_findBeyond 22 = .ok (.iconst 0, 1) := by decide +kernel
theorem dX7_findBeyond_23 : decode cX7_findBeyond 23 = .ok (.iload_n 2, 1) := by decide +kernel
theorem dX7_findBeyond_24 : decode cX7_findBeyond 24 = .ok (.iconst 1, 1) := by decide +kernel
theorem dX7_findBeyond_25 : decode cX7_findBeyond 25 = .ok (.if_icmp .ne 7, 3) := by decide +kernel
theorem dX7_findBeyond_28 : decode cX7_findBeyond 28 = .ok (.iconst 1, 1) := by decide +kernel
theorem dX7_findBeyond_29 : decode cX7_findBeyond 29 = .ok (.goto 4, 3) := by decide +kernel
theorem dX7_findBeyond_32 : decode cX7_findBeyond 32 = .ok (.iconst 0, 1) := by decide +kernel
theorem dX7_findBeyond_33 : decode cX7_findBeyond 33 = .ok (.iload_n 3, 1) := by decide +kernel
theorem dX7_findBeyond_34 : decode cX7_findBeyond 34 = .ok (.invokestatic 47, 3) := by decide +kernel
theorem dX7_findBeyond_37 : decode cX7_findBeyond 37 = .ok (.iadd, 1) := by decide +kernel
theorem dX7_findBeyond_38 : decode cX7_findBeyond 38 = .ok (.istore 4, 2) := by decide +kernel
theorem dX7_findBeyond_40 : decode cX7_findBeyond 40 = .ok (.aload_n 0, 1) := by decide +kernel
theorem dX7_findBeyond_41 : decode cX7_findBeyond 41 = .ok (.iload_n 1, 1) := by decide +kernel
theorem dX7_findBeyond_42 : decode cX7_findBeyond 42 = .ok (.invokevirtual 51, 3) := by decide +kernel
theorem dX7_findBeyond_45 : decode cX7_findBeyond 45 = .ok (.iload_n 2, 1) := by decide +kernel
theorem dX7_findBeyond_46 : decode cX7_findBeyond 46 = .ok (.iconst 2, 1) := by decide +kernel
theorem dX7_findBeyond_47 : decode cX7_findBeyond 47 = .ok (.if_icmp .ne 7, 3) := by decide +kernel
theorem dX7_findBeyond_50 : decode cX7_findBeyond 50 = .ok (.iconst 1, 1) := by decide +kernel
theorem dX7_findBeyond_51 : decode cX7_findBeyond 51 = .ok (.goto 4, 3) := by decide +kernel
theorem dX7_findBeyond_54 : decode cX7_findBeyond 54 = .ok (.iconst 0, 1) := by decide +kernel
theorem dX7_findBeyond_55 : decode cX7_findBeyond 55 = .ok (.iload_n 2, 1) := by decide +kernel
theorem dX7_findBeyond_56 : decode cX7_findBeyond 56 = .ok (.iconst 3, 1) := by decide +kernel
theorem dX7_findBeyond_57 : decode cX7_findBeyond 57 = .ok (.if_icmp .ne 7, 3) := by decide +kernel
theorem dX7_findBeyond_60 : decode cX7_findBeyond 60 = .ok (.iconst 1, 1) := by decide +kernel
theorem dX7_findBeyond_61 : decode cX7_findBeyond 61 = .ok (.goto 4, 3) := by decide +kernel
theorem dX7_findBeyond_64 : decode cX7_findBeyond 64 = .ok (.iconst 0, 1) := by decide +kernel
theorem dX7_findBeyond_65 : decode cX7_findBeyond 65 = .ok (.iload_n 3, 1) := by decide +kernel
theorem dX7_findBeyond_66 : decode cX7_findBeyond 66 = .ok (.invokestatic 47, 3) := by decide +kernel
theorem dX7_findBeyond_69 : decode cX7_findBeyond 69 = .ok (.iadd, 1) := by decide +kernel
theorem dX7_findBeyond_70 : decode cX7_findBeyond 70 = .ok (.istore 5, 2) := by decide +kernel
theorem dX7_findBeyond_72 : decode cX7_findBeyond 72 = .ok (.iconst 0, 1) := by decide +kernel
theorem dX7_findBeyond_73 : decode cX7_findBeyond 73 = .ok (.istore 6, 2) := by decide +kernel
theorem dX7_findBeyond_75 : decode cX7_findBeyond 75 = .ok (.aload_n 0, 1) := by decide +kernel
theorem dX7_findBeyond_76 : decode cX7_findBeyond 76 = .ok (.iconst 0, 1) := by decide +kernel
theorem dX7_findBeyond_77 : decode cX7_findBeyond 77 = .ok (.putfield 9, 3) := by decide +kernel
theorem dX7_findBeyond_80 : decode cX7_findBeyond 80 = .ok (.iload 6, 2) := by decide +kernel
theorem dX7_findBeyond_82 : decode cX7_findBeyond 82 = .ok (.iload_n 3, 1) := by decide +kernel
theorem dX7_findBeyond_83 : decode cX7_findBeyond 83 = .ok (.if_icmp .ge 103, 3) := by decide +kernel
theorem dX7_findBeyond_86 : decode cX7_findBeyond 86 = .ok (.aload_n 0, 1) := by decide +kernel
theorem dX7_findBeyond_87 : decode cX7_findBeyond 87 = .ok (.getfield 9, 3) := by decide +kernel
theorem dX7_findBeyond_90 : decode cX7_findBeyond 90 = .ok (.bipush 64, 2) := by decide +kernel
theorem dX7_findBeyond_92 : decode cX7_findBeyond 92 = .ok (.if_icmp .ge 94, 3) := by decide +kernel
theorem dX7_findBeyond_95 : decode cX7_findBeyond 95 = .ok (.aload_n 0, 1) := by decide +kernel
theorem dX7_findBeyond_96 : decode cX7_findBeyond 96 = .ok (.getfield 19, 3) := by decide +kernel
theorem dX7_findBeyond_99 : decode cX7_findBeyond 99 = .ok (.iload 4, 2) := by decide +kernel
theorem dX7_findBeyond_101 : decode cX7_findBeyond 101 = .ok (.iload 5, 2) := by decide +kernel
theorem dX7_findBeyond_103 : decode cX7_findBeyond 103 = .ok (.invokevirtual 54, 3) := by decide +kernel
theorem dX7_findBeyond_106 : decode cX7_findBeyond 106 = .ok (.ifCond .eq 80, 3) := by decide +kernel
theorem dX7_findBeyond_109 : decode cX7_findBeyond 109 = .ok (.aload_n 0, 1) := by decide +kernel
theorem dX7_findBeyond_110 : decode cX7_findBeyond 110 = .ok (.getfield 23, 3) := by decide +kernel
theorem dX7_findBeyond_113 : decode cX7_findBeyond 113 = .ok (.aload_n 0, 1) := by decide +kernel
theorem dX7_findBeyond_114 : decode cX7_findBeyond 114 = .ok (.getfield 19, 3) := by decide +kernel
theorem dX7_findBeyond_117 : decode cX7_findBeyond 117 = .ok (.iload 4, 2) := by decide +kernel
theorem dX7_findBeyond_119 : decode cX7_findBeyond 119 = .ok (.iload 5, 2) := by decide +kernel
theorem dX7_findBeyond_121 : decode cX7_findBeyond 121 = .ok (.invokevirtual 58, 3) := by decide +kernel
theorem dX7_findBeyond_124 : decode cX7_findBeyond 124 = .ok (.invokevirtual 62, 3) := by decide +kernel
theorem dX7_findBeyond_127 : decode cX7_findBeyond 127 = .ok (.istore 7, 2) := by decide +kernel
theorem dX7_findBeyond_129 : decode cX7_findBeyond 129 = .ok (.aload_n 0, 1) := by decide +kernel
theorem dX7_findBeyond_130 : decode cX7_findBeyond 130 = .ok (.iload 7, 2) := by decide +kernel
theorem dX7_findBeyond_132 : decode cX7_findBeyond 132 = .ok (.invokevirtual 65, 3) := by decide +kernel
theorem dX7_findBeyond_135 : decode cX7_findBeyond 135 = .ok (.iconst 1, 1) := by decide +kernel
theorem dX7_findBeyond_136 : decode cX7_findBeyond 136 = .ok (.aload_n 0, 1) := by decide +kernel
theorem dX7_findBeyond_137 : decode cX7_findBeyond 137 = .ok (.getfield 23, 3) := by decide +kernel
theorem dX7_findBeyond_140 : decode cX7_findBeyond 140 = .ok (.iload 7, 2) := by decide +kernel
theorem dX7_findBeyond_142 : decode cX7_findBeyond 142 = .ok (.invokevirtual 38, 3) := by decide +kernel
theorem dX7_findBeyond_145 : decode cX7_findBeyond 145 = .ok (.invokestatic 69, 3) := by decide +kernel
theorem dX7_findBeyond_148 : decode cX7_findBeyond 148 = .ok (.istore 8, 2) := by decide +kernel
theorem dX7_findBeyond_150 : decode cX7_findBeyond 150 = .ok (.iload 6, 2) := by decide +kernel
theorem dX7_findBeyond_152 : decode cX7_findBeyond 152 = .ok (.iload 8, 2) := by decide +kernel
theorem dX7_findBeyond_154 : decode cX7_findBeyond 154 = .ok (.iadd, 1) := by decide +kernel
theorem dX7_findBeyond_155 : decode cX7_findBeyond 155 = .ok (.istore 6, 2) := by decide +kernel
theorem dX7_findBeyond_157 : decode cX7_findBeyond 157 = .ok (.iload_n 2, 1) := by decide +kernel
theorem dX7_findBeyond_158 : decode cX7_findBeyond 158 = .ok (.ifCond .eq 8, 3) := by decide +kernel
theorem dX7_findBeyond_161 : decode cX7_findBeyond 161 = .ok (.iload_n 2, 1) := by decide +kernel
theorem dX7_findBeyond_162 : decode cX7_findBeyond 162 = .ok (.iconst 1, 1) := by decide +kernel
theorem dX7_findBeyond_163 : decode cX7_findBeyond 163 = .ok (.if_icmp .ne 13, 3) := by decide +kernel
theorem dX7_findBeyond_166 : decode cX7_findBeyond 166 = .ok (.iload 5, 2) := by decide +kernel
theorem dX7_findBeyond_168 : decode cX7_findBeyond 168 = .ok (.iload 8, 2) := by decide +kernel
theorem dX7_findBeyond_170 : decode cX7_findBeyond 170 = .ok (.iadd, 1) := by decide +kernel
theorem dX7_findBeyond_171 : decode cX7_findBeyond 171 = .ok (.istore 5, 2) := by decide +kernel
theorem dX7_findBeyond_173 : decode cX7_findBeyond 173 = .ok (.goto 10, 3) := by decide +kernel
theorem dX7_findBeyond_176 : decode cX7_findBeyond 176 = .ok (.iload 4, 2) := by decide +kernel
theorem dX7_findBeyond_178 : decode cX7_findBeyond 178 = .ok (.iload 8, 2) := by decide +kernel
theorem dX7_findBeyond_180 : decode cX7_findBeyond 180 = .ok (.iadd, 1) := by decide +kernel
theorem dX7_findBeyond_181 : decode cX7_findBeyond 181 = .ok (.istore 4, 2) := by decide +kernel
theorem dX7_findBeyond_183 : decode cX7_findBeyond 183 = .ok (.goto (-103), 3) := by decide +kernel
theorem dX7_findBeyond_186 : decode cX7_findBeyond 186 = .ok (.return_, 1) := by decide +kernel
theorem dX7_stepAcross_0 : decode cX7_stepAcross 0 = .ok (.iload_n 0, 1) := by decide +kernel
theorem dX7_stepAcross_1 : decode cX7_stepAcross 1 = .ok (.ifCond .eq 5, 3) := by decide +kernel
theorem dX7_stepAcross_4 : decode cX7_stepAcross 4 = .ok (.iconst (-1), 1) := by decide +kernel
theorem dX7_stepAcross_5 : decode cX7_stepAcross 5 = .ok (.ireturn, 1) := by decide +kernel
theorem dX7_stepAcross_6 : decode cX7_stepAcross 6 = .ok (.iload_n 1, 1) := by decide +kernel
theorem dX7_stepAcross_7 : decode cX7_stepAcross 7 = .ok (.ifCond .eq 7, 3) := by decide +kernel
theorem dX7_stepAcross_10 : decode cX7_stepAcross 10 = .ok (.iload_n 2, 1) := by decide +kernel
theorem dX7_stepAcross_11 : decode cX7_stepAcross 11 = .ok (.goto 4, 3) := by decide +kernel
theorem dX7_stepAcross_14 : decode cX7_stepAcross 14 = .ok (.iconst 0, 1) := by decide +kernel
theorem dX7_stepAcross_15 : decode cX7_stepAcross 15 = .ok (.ireturn, 1) := by decide +kernel
theorem dX7_insert_0 : decode cX7_insert 0 = .ok (.aload_n 0, 1) := by decide +kernel
theorem dX7_insert_1 : decode cX7_insert 1 = .ok (.getfield 9, 3) := by decide +kernel
theorem dX7_insert_4 : decode cX7_insert 4 = .ok (.istore_n 2, 1) := by decide +kernel
theorem dX7_insert_5 : decode cX7_insert 5 = .ok (.iload_n 2, 1) := by decide +kernel
theorem dX7_insert_6 : decode cX7_insert 6 = .ok (.ifCond .le 35, 3) := by decide +kernel
theorem dX7_insert_9 : decode cX7_insert 9 = .ok (.aload_n 0, 1) := by decide +kernel
theorem dX7_insert_10 : decode cX7_insert 10 = .ok (.getfield 15, 3) := by decide +kernel
theorem dX7_insert_13 : decode cX7_insert 13 = .ok (.iload_n 2, 1) := by decide +kernel
theorem dX7_insert_14 : decode cX7_insert 14 = .ok (.iconst 1, 1) := by decide +kernel
theorem dX7_insert_15 : decode cX7_insert 15 = .ok (.isub, 1) := by decide +kernel
theorem dX7_insert_16 : decode cX7_insert 16 = .ok (.iaload, 1) := by decide +kernel
theorem dX7_insert_17 : decode cX7_insert 17 = .ok (.iload_n 1, 1) := by decide +kernel
theorem dX7_insert_18 : decode cX7_insert 18 = .ok (.if_icmp .le 23, 3) := by decide +kernel
theorem dX7_insert_21 : decode cX7_insert 21 = .ok (.aload_n 0, 1) := by decide +kernel
theorem dX7_insert_22 : decode cX7_insert 22 = .ok (.getfield 15, 3) := by decide +kernel
theorem dX7_insert_25 : decode cX7_insert 25 = .ok (.iload_n 2, 1) := by decide +kernel
theorem dX7_insert_26 : decode cX7_insert 26 = .ok (.aload_n 0, 1) := by decide +kernel
theorem dX7_insert_27 : decode cX7_insert 27 = .ok (.getfield 15, 3) := by decide +kernel
theorem dX7_insert_30 : decode cX7_insert 30 = .ok (.iload_n 2, 1) := by decide +kernel
theorem dX7_insert_31 : decode cX7_insert 31 = .ok (.iconst 1, 1) := by decide +kernel
theorem dX7_insert_32 : decode cX7_insert 32 = .ok (.isub, 1) := by decide +kernel
theorem dX7_insert_33 : decode cX7_insert 33 = .ok (.iaload, 1) := by decide +kernel
theorem dX7_insert_34 : decode cX7_insert 34 = .ok (.iastore, 1) := by decide +kernel
theorem dX7_insert_35 : decode cX7_insert 35 = .ok (.iinc 2 (-1), 3) := by decide +kernel
theorem dX7_insert_38 : decode cX7_insert 38 = .ok (.goto (-33), 3) := by decide +kernel
theorem dX7_insert_41 : decode cX7_insert 41 = .ok (.aload_n 0, 1) := by decide +kernel
theorem dX7_insert_42 : decode cX7_insert 42 = .ok (.getfield 15, 3) := by decide +kernel
theorem dX7_insert_45 : decode cX7_insert 45 = .ok (.iload_n 2, 1) := by decide +kernel
theorem dX7_insert_46 : decode cX7_insert 46 = .ok (.iload_n 1, 1) := by decide +kernel
theorem dX7_insert_47 : decode cX7_insert 47 = .ok (.iastore, 1) := by decide +kernel
theorem dX7_insert_48 : decode cX7_insert 48 = .ok (.aload_n 0, 1) := by decide +kernel
theorem dX7_insert_49 : decode cX7_insert 49 = .ok (.dup, 1) := by decide +kernel
theorem dX7_insert_50 : decode cX7_insert 50 = .ok (.getfield 9, 3) := by decide +kernel
theorem dX7_insert_53 : decode cX7_insert 53 = .ok (.iconst 1, 1) := by decide +kernel
theorem dX7_insert_54 : decode cX7_insert 54 = .ok (.iadd, 1) := by decide +kernel
theorem dX7_insert_55 : decode cX7_insert 55 = .ok (.putfield 9, 3) := by decide +kernel
theorem dX7_insert_58 : decode cX7_insert 58 = .ok (.return_, 1) := by decide +kernel
set_option maxRecDepth 20000 in
theorem ggX7_findLowest_X7_findBeyond : GoodIn wsX7_findLowest wsX7_findBeyond := goodIn_r _ [7, 8, 1, 9, 10, 11, 12, 13, 14, 15, 16, 17, 18, 19, 20, 21, 22, 6, 23, 24, 25, 26, 27, 28, 29, 30, 31, 32, 33, 34, 35, 36, 37, 38, 39, 40, 41, 42, 43, 44, 45, 46, 47, 48, 49, 50, 51, 52, 53, 54, 55, 56, 57, 58, 59, 60, 2, 61, 62, 63, 64, 65, 66, 67, 68, 69, 70] (by decide +kernel) (by decide +kernel)
set_option maxRecDepth 20000 in
theorem gX7_findLowest_X7_findBeyond : GoodIn wsX7_findLowest (wsV RX7 74 RX7 yX7_findBeyond wsX7_findBeyond) := goodIn_app (goodIn_of _ (by decide +kernel)) ggX7_findLowest_X7_findBeyond
theorem dX7_findLowest_0 : decode cX7_findLowest 0 = .ok (.aload_n 0, 1) := by decide +kernel
theorem dX7_findLowest_1 : decode cX7_findLowest 1 = .ok (.iload_n 1, 1) := by decide +kernel
theorem dX7_findLowest_2 : decode cX7_findLowest 2 = .ok (.iload_n 2, 1) := by decide +kernel
theorem dX7_findLowest_3 : decode cX7_findLowest 3 = .ok (.invokevirtual 74, 3) := by decide +kernel
theorem dX7_findLowest_6 : decode cX7_findLowest 6 = .ok (.aload_n 0, 1) := by decide +kernel
theorem dX7_findLowest_7 : decode cX7_findLowest 7 = .ok (.getfield 9, 3) := by decide +kernel
theorem dX7_findLowest_10 : decode cX7_findLowest 10 = .ok (.ifCond .le 12, 3) := by decide +kernel
theorem dX7_findLowest_13 : decode cX7_findLowest 13 = .ok (.aload_n 0, 1) := by decide +kernel
theorem dX7_findLowest_14 : decode cX7_findLowest 14 = .ok (.getfield 15, 3) := by decide +kernel
theorem dX7_findLowest_17 : decode cX7_findLowest 17 = .ok (.iconst 0, 1) := by decide +kernel
theorem dX7_findLowest_18 : decode cX7_findLowest 18 = .ok (.iaload, 1) := by decide +kernel
theorem dX7_findLowest_19 : decode cX7_findLowest 19 = .ok (.goto 4, 3) := by decide +kernel
theorem dX7_findLowest_22 : decode cX7_findLowest 22 = .ok (.iconst (-1), 1) := by decide +kernel
theorem dX7_findLowest_23 : decode cX7_findLowest 23 = .ok (.ireturn, 1) := by decide +kernel
set_option maxRecDepth 20000 in
theorem ggX7_countSteps_X7_findLowest : GoodIn wsX7_countSteps wsX7_findLowest := goodIn_r _ [5, 6, 7, 8, 9, 10, 4, 11, 12, 13, 14, 15, 16, 17, 18, 19, 20, 21, 22, 23, 24, 25, 26, 27, 28, 29, 30, 31, 32, 33, 34, 35, 36, 37, 38, 39, 40, 41, 42, 43, 44, 45, 46, 47, 48, 49, 50, 51, 52, 53, 54, 55, 56, 57, 58, 59, 60, 61, 62, 63, 64, 65, 66, 67, 68, 69, 70, 71, 72, 73, 74] (by decide +kernel) (by decide +kernel)
set_option maxRecDepth 20000 in
theorem gX7_countSteps_X7_findLowest : GoodIn wsX7_countSteps (wsV RX7 78 RX7 yX7_findLowest wsX7_findLowest) := goodIn_app (goodIn_of _ (by decide +kernel)) ggX7_countSteps_X7_findLowest
theorem dX7_countSteps_0 : decode cX7_countSteps 0 = .ok (.iconst 0, 1) := by decide +kernel
theorem dX7_countSteps_1 : decode cX7_countSteps 1 = .ok (.istore_n 3, 1) := by decide +kernel
theorem dX7_countSteps_2 : decode cX7_countSteps 2 = .ok (.aload_n 0, 1) := by decide +kernel
theorem dX7_countSteps_3 : decode cX7_countSteps 3 = .ok (.iload_n 1, 1) := by decide +kernel
theorem dX7_countSteps_4 : decode cX7_countSteps 4 = .ok (.iload_n 2, 1) := by decide +kernel
theorem dX7_countSteps_5 : decode cX7_countSteps 5 = .ok (.invokevirtual 78, 3) := by decide +kernel
theorem dX7_countSteps_8 : decode cX7_countSteps 8 = .ok (.istore 4, 2) := by decide +kernel
theorem dX7_countSteps_10 : decode cX7_countSteps 10 = .ok (.iload 4, 2) := by decide +kernel
theorem dX7_countSteps_12 : decode cX7_countSteps 12 = .ok (.iconst (-1), 1) := by decide +kernel
theorem dX7_countSteps_13 : decode cX7_countSteps 13 = .ok (.if_icmp .eq 24, 3) := by decide +kernel
theorem dX7_countSteps_16 : decode cX7_countSteps 16 = .ok (.iload_n 3, 1) := by decide +kernel
theorem dX7_countSteps_17 : decode cX7_countSteps 17 = .ok (.bipush 64, 2) := by decide +kernel
theorem dX7_countSteps_19 : decode cX7_countSteps 19 = .ok (.if_icmp .ge 18, 3) := by decide +kernel
theorem dX7_countSteps_22 : decode cX7_countSteps 22 = .ok (.iinc 3 1, 3) := by decide +kernel
theorem dX7_countSteps_25 : decode cX7_countSteps 25 = .ok (.aload_n 0, 1) := by decide +kernel
theorem dX7_countSteps_26 : decode cX7_countSteps 26 = .ok (.iload 4, 2) := by decide +kernel
theorem dX7_countSteps_28 : decode cX7_countSteps 28 = .ok (.iload_n 2, 1) := by decide +kernel
theorem dX7_countSteps_29 : decode cX7_countSteps 29 = .ok (.invokevirtual 78, 3) := by decide +kernel
theorem dX7_countSteps_32 : decode cX7_countSteps 32 = .ok (.istore 4, 2) := by decide +kernel
theorem dX7_countSteps_34 : decode cX7_countSteps 34 = .ok (.goto (-24), 3) := by decide +kernel
theorem dX7_countSteps_37 : decode cX7_countSteps 37 = .ok (.iload_n 3, 1) := by decide +kernel
theorem dX7_countSteps_38 : decode cX7_countSteps 38 = .ok (.ireturn, 1) := by decide +kernel
set_option maxRecDepth 20000 in
theorem ggX7_leafAfter_X7_findLowest : GoodIn wsX7_leafAfter wsX7_findLowest := goodIn_r _ [9, 10, 11, 12, 13, 14, 8, 15, 16, 17, 18, 19, 3, 20, 21, 22, 23, 24, 25, 26, 27, 28, 29, 30, 31, 32, 33, 34, 35, 36, 37, 38, 39, 40, 41, 42, 43, 44, 45, 46, 47, 48, 49, 50, 51, 52, 53, 54, 55, 56, 57, 58, 59, 60, 61, 62, 63, 64, 65, 66, 67, 68, 69, 70, 71, 72, 73, 74, 75, 76, 77] (by decide +kernel) (by decide +kernel)
set_option maxRecDepth 20000 in
theorem gX7_leafAfter_X7_findLowest : GoodIn wsX7_leafAfter (wsV RX7 78 RX7 yX7_findLowest wsX7_findLowest) := goodIn_app (goodIn_of _ (by decide +kernel)) ggX7_leafAfter_X7_findLowest
theorem dX7_leafAfter_0 : decode cX7_leafAfter 0 = .ok (.iload_n 1, 1) := by decide +kernel
theorem dX7_leafAfter_1 : decode cX7_leafAfter 1 = .ok (.istore 4, 2) := by decide +kernel
theorem dX7_leafAfter_3 : decode cX7_leafAfter 3 = .ok (.iload_n 3, 1) := by decide +kernel
theorem dX7_leafAfter_4 : decode cX7_leafAfter 4 = .ok (.bipush 64, 2) := by decide +kernel
theorem dX7_leafAfter_6 : decode cX7_leafAfter 6 = .ok (.invokestatic 81, 3) := by decide +kernel
theorem dX7_leafAfter_9 : decode cX7_leafAfter 9 = .ok (.istore 5, 2) := by decide +kernel
theorem dX7_leafAfter_11 : decode cX7_leafAfter 11 = .ok (.iconst 0, 1) := by decide +kernel
theorem dX7_leafAfter_12 : decode cX7_leafAfter 12 = .ok (.istore 6, 2) := by decide +kernel
theorem dX7_leafAfter_14 : decode cX7_leafAfter 14 = .ok (.iload 6, 2) := by decide +kernel
theorem dX7_leafAfter_16 : decode cX7_leafAfter 16 = .ok (.iload 5, 2) := by decide +kernel
theorem dX7_leafAfter_18 : decode cX7_leafAfter 18 = .ok (.if_icmp .ge 24, 3) := by decide +kernel
theorem dX7_leafAfter_21 : decode cX7_leafAfter 21 = .ok (.iload 4, 2) := by decide +kernel
theorem dX7_leafAfter_23 : decode cX7_leafAfter 23 = .ok (.iconst (-1), 1) := by decide +kernel
theorem dX7_leafAfter_24 : decode cX7_leafAfter 24 = .ok (.if_icmp .eq 18, 3) := by decide +kernel
theorem dX7_leafAfter_27 : decode cX7_leafAfter 27 = .ok (.aload_n 0, 1) := by decide +kernel
theorem dX7_leafAfter_28 : decode cX7_leafAfter 28 = .ok (.iload 4, 2) := by decide +kernel
theorem dX7_leafAfter_30 : decode cX7_leafAfter 30 = .ok (.iload_n 2, 1) := by decide +kernel
theorem dX7_leafAfter_31 : decode cX7_leafAfter 31 = .ok (.invokevirtual 78, 3) := by decide +kernel
theorem dX7_leafAfter_34 : decode cX7_leafAfter 34 = .ok (.istore 4, 2) := by decide +kernel
theorem dX7_leafAfter_36 : decode cX7_leafAfter 36 = .ok (.iinc 6 1, 3) := by decide +kernel
theorem dX7_leafAfter_39 : decode cX7_leafAfter 39 = .ok (.goto (-25), 3) := by decide +kernel
theorem dX7_leafAfter_42 : decode cX7_leafAfter 42 = .ok (.iload 4, 2) := by decide +kernel
theorem dX7_leafAfter_44 : decode cX7_leafAfter 44 = .ok (.ireturn, 1) := by decide +kernel
set_option maxRecDepth 20000 in
theorem ggX7_divideAllTooLarge_X7_isTooLarge : GoodIn wsX7_divideAllTooLarge wsX7_isTooLarge := goodIn_r _ [8, 9, 2, 10, 11, 12, 13, 7, 14, 15, 16, 17, 18, 19, 20, 21, 22, 23, 24, 25, 26, 27, 28, 29, 30, 31, 32, 33, 34, 35, 36, 37, 38, 39, 40, 41, 42, 43, 44, 45, 46, 47, 48, 49, 50, 51, 52, 53, 54, 55, 56, 57, 58, 59, 60, 61, 62, 63, 64, 65, 66, 82, 83, 84, 85, 86, 87, 88, 89, 90, 91] (by decide +kernel) (by decide +kernel)
set_option maxRecDepth 20000 in
theorem gX7_divideAllTooLarge_X7_isTooLarge : GoodIn wsX7_divideAllTooLarge (wsV RX7 86 RX7 yX7_isTooLarge wsX7_isTooLarge) := goodIn_app (goodIn_of _ (by decide +kernel)) ggX7_divideAllTooLarge_X7_isTooLarge
set_option maxRecDepth 20000 in
theorem ggX7_divideAllTooLarge_X7_findLowestAround : GoodIn wsX7_divideAllTooLarge wsX7_findLowestAround := goodIn_r _ [70, 71, 72, 18, 73, 74, 75, 76, 7, 77, 9, 10, 11, 12, 13, 14, 2, 15, 16, 17, 19, 20, 21, 22, 23, 24, 25, 26, 27, 28, 29, 30, 31, 32, 33, 34, 35, 36, 37, 38, 39, 40, 41, 42, 43, 44, 45, 46, 47, 48, 49, 50, 51, 52, 53, 54, 55, 56, 57, 58, 59, 60, 61, 62, 63, 64, 65, 66, 82, 83, 84, 85, 86, 87, 88, 89, 90, 91] (by decide +kernel) (by decide +kernel)
set_option maxRecDepth 20000 in
theorem gX7_divideAllTooLarge_X7_findLowestAround : GoodIn wsX7_divideAllTooLarge (wsV RX7 90 RX7 yX7_findLowestAround wsX7_findLowestAround) := goodIn_app (goodIn_of _ (by decide +kernel)) ggX7_divideAllTooLarge_X7_findLowestAround
set_option maxRecDepth 20000 in
theorem ggX7_divideAllTooLarge_X1_divide : GoodIn wsX7_divideAllTooLarge wsX1_divide := goodIn_r _ [81, 25, 62, 86, 87] (by decide +kernel) (by decide +kernel)
set_option maxRecDepth 20000 in
theorem gX7_divideAllTooLarge_X1_divide : GoodIn wsX7_divideAllTooLarge (wsV RX7 93 RX1 yX1_divide wsX1_divide) := goodIn_app (goodIn_of _ (by decide +kernel)) ggX7_divideAllTooLarge_X1_divide
theorem dX7_divideAllTooLarge_0 : decode cX7_divideAllTooLarge 0 = .ok (.iconst 0, 1) := by decide +kernel
theorem dX7_divideAllTooLarge_1 : decode cX7_divideAllTooLarge 1 = .ok (.istore_n 1, 1) := by decide +kernel
theorem dX7_divideAllTooLarge_2 : decode cX7_divideAllTooLarge 2 = .ok (.iconst 0, 1) := by decide +kernel
theorem dX7_divideAllTooLarge_3 : decode cX7_divideAllTooLarge 3 = .ok (.istore_n 2, 1) := by decide +kernel
theorem dX7_divideAllTooLarge_4 : decode cX7_divideAllTooLarge 4 = .ok (.iconst 0, 1) := by decide +kernel
theorem dX7_divideAllTooLarge_5 : decode cX7_divideAllTooLarge 5 = .ok (.istore_n 3, 1) := by decide +kernel
theorem dX7_divideAllTooLarge_6 : decode cX7_divideAllTooLarge 6 = .ok (.iload_n 3, 1) := by decide +kernel
theorem dX7_divideAllTooLarge_7 : decode cX7_divideAllTooLarge 7 = .ok (.ldc 84, 2) := by decide +kernel
theorem dX7_divideAllTooLarge_9 : decode cX7_divideAllTooLarge 9 = .ok (.if_icmp .ge 61, 3) := by decide +kernel
theorem dX7_divideAllTooLarge_12 : decode cX7_divideAllTooLarge 12 = .ok (.iload_n 2, 1) := by decide +kernel
theorem dX7_divideAllTooLarge_13 : decode cX7_divideAllTooLarge 13 = .ok (.aload_n 0, 1) := by decide +kernel
theorem dX7_divideAllTooLarge_14 : decode cX7_divideAllTooLarge 14 = .ok (.getfield 23, 3) := by decide +kernel
theorem dX7_divideAllTooLarge_17 : decode cX7_divideAllTooLarge 17 = .ok (.getfield 85, 3) := by decide +kernel
theorem dX7_divideAllTooLarge_20 : decode cX7_divideAllTooLarge 20 = .ok (.if_icmp .ge 50, 3) := by decide +kernel
theorem dX7_divideAllTooLarge_23 : decode cX7_divideAllTooLarge 23 = .ok (.aload_n 0, 1) := by decide +kernel
theorem dX7_divideAllTooLarge_24 : decode cX7_divideAllTooLarge 24 = .ok (.iload_n 2, 1) := by decide +kernel
theorem dX7_divideAllTooLarge_25 : decode cX7_divideAllTooLarge 25 = .ok (.invokevirtual 86, 3) := by decide +kernel
theorem dX7_divideAllTooLarge_28 : decode cX7_divideAllTooLarge 28 = .ok (.ifCond .ne 9, 3) := by decide +kernel
theorem dX7_divideAllTooLarge_31 : decode cX7_divideAllTooLarge 31 = .ok (.iinc 2 1, 3) := by decide +kernel
theorem dX7_divideAllTooLarge_34 : decode cX7_divideAllTooLarge 34 = .ok (.goto 30, 3) := by decide +kernel
theorem dX7_divideAllTooLarge_37 : decode cX7_divideAllTooLarge 37 = .ok (.aload_n 0, 1) := by decide +kernel
theorem dX7_divideAllTooLarge_38 : decode cX7_divideAllTooLarge 38 = .ok (.iload_n 2, 1) := by decide +kernel
theorem dX7_divideAllTooLarge_39 : decode cX7_divideAllTooLarge 39 = .ok (.invokevirtual 90, 3) := by decide +kernel
theorem dX7_divideAllTooLarge_42 : decode cX7_divideAllTooLarge 42 = .ok (.istore 4, 2) := by decide +kernel
theorem dX7_divideAllTooLarge_44 : decode cX7_divideAllTooLarge 44 = .ok (.aload_n 0, 1) := by decide +kernel
theorem dX7_divideAllTooLarge_45 : decode cX7_divideAllTooLarge 45 = .ok (.getfield 23, 3) := by decide +kernel
theorem dX7_divideAllTooLarge_48 : decode cX7_divideAllTooLarge 48 = .ok (.iload_n 2, 1) := by decide +kernel
theorem dX7_divideAllTooLarge_49 : decode cX7_divideAllTooLarge 49 = .ok (.invokevirtual 93, 3) := by decide +kernel
theorem dX7_divideAllTooLarge_52 : decode cX7_divideAllTooLarge 52 = .ok (.ifCond .ne 6, 3) := by decide +kernel
theorem dX7_divideAllTooLarge_55 : decode cX7_divideAllTooLarge 55 = .ok (.goto 15, 3) := by decide +kernel
theorem dX7_divideAllTooLarge_58 : decode cX7_divideAllTooLarge 58 = .ok (.iinc 1 1, 3) := by decide +kernel
theorem dX7_divideAllTooLarge_61 : decode cX7_divideAllTooLarge 61 = .ok (.iload 4, 2) := by decide +kernel
theorem dX7_divideAllTooLarge_63 : decode cX7_divideAllTooLarge 63 = .ok (.istore_n 2, 1) := by decide +kernel
theorem dX7_divideAllTooLarge_64 : decode cX7_divideAllTooLarge 64 = .ok (.iinc 3 1, 3) := by decide +kernel
theorem dX7_divideAllTooLarge_67 : decode cX7_divideAllTooLarge 67 = .ok (.goto (-61), 3) := by decide +kernel
theorem dX7_divideAllTooLarge_70 : decode cX7_divideAllTooLarge 70 = .ok (.iload_n 1, 1) := by decide +kernel
theorem dX7_divideAllTooLarge_71 : decode cX7_divideAllTooLarge 71 = .ok (.ireturn, 1) := by decide +kernel
set_option maxRecDepth 20000 in
theorem ggX7_findLowestAround_X7_findLowest : GoodIn wsX7_findLowestAround wsX7_findLowest := goodIn_r _ [9, 10, 11, 12, 13, 14, 8, 15, 16, 17, 18, 19, 3, 20, 21, 22, 23, 24, 25, 26, 27, 28, 29, 30, 31, 32, 33, 34, 35, 36, 37, 38, 39, 40, 41, 42, 43, 44, 45, 46, 47, 48, 49, 50, 51, 52, 53, 54, 55, 56, 57, 58, 59, 60, 61, 62, 63, 64, 65, 66, 67, 68, 69, 70, 71, 72, 73, 74, 75, 76, 77] (by decide +kernel) (by decide +kernel)
set_option maxRecDepth 20000 in
theorem gX7_findLowestAround_X7_findLowest : GoodIn wsX7_findLowestAround (wsV RX7 78 RX7 yX7_findLowest wsX7_findLowest) := goodIn_app (goodIn_of _ (by decide +kernel)) ggX7_findLowestAround_X7_findLowest
theorem dX7_findLowestAround_0 : decode cX7_findLowestAround 0 = .ok (.iload_n 1, 1) := by decide +kernel
theorem dX7_findLowestAround_1 : decode cX7_findLowestAround 1 = .ok (.istore_n 2, 1) := by decide +kernel
theorem dX7_findLowestAround_2 : decode cX7_findLowestAround 2 = .ok (.iconst 0, 1) := by decide +kernel
theorem dX7_findLowestAround_3 : decode cX7_findLowestAround 3 = .ok (.istore_n 3, 1) := by decide +kernel
theorem dX7_findLowestAround_4 : decode cX7_findLowestAround 4 = .ok (.iload_n 3, 1) := by decide +kernel
theorem dX7_findLowestAround_5 : decode cX7_findLowestAround 5 = .ok (.iconst 4, 1) := by decide +kernel
theorem dX7_findLowestAround_6 : decode cX7_findLowestAround 6 = .ok (.if_icmp .ge 30, 3) := by decide +kernel
theorem dX7_findLowestAround_9 : decode cX7_findLowestAround 9 = .ok (.aload_n 0, 1) := by decide +kernel
theorem dX7_findLowestAround_10 : decode cX7_findLowestAround 10 = .ok (.iload_n 1, 1) := by decide +kernel
theorem dX7_findLowestAround_11 : decode cX7_findLowestAround 11 = .ok (.iload_n 3, 1) := by decide +kernel
theorem dX7_findLowestAround_12 : decode cX7_findLowestAround 12 = .ok (.invokevirtual 78, 3) := by decide +kernel
theorem dX7_findLowestAround_15 : decode cX7_findLowestAround 15 = .ok (.istore 4, 2) := by decide +kernel
theorem dX7_findLowestAround_17 : decode cX7_findLowestAround 17 = .ok (.iload 4, 2) := by decide +kernel
theorem dX7_findLowestAround_19 : decode cX7_findLowestAround 19 = .ok (.iconst (-1), 1) := by decide +kernel
theorem dX7_findLowestAround_20 : decode cX7_findLowestAround 20 = .ok (.if_icmp .eq 10, 3) := by decide +kernel
theorem dX7_findLowestAround_23 : decode cX7_findLowestAround 23 = .ok (.iload_n 2, 1) := by decide +kernel
theorem dX7_findLowestAround_24 : decode cX7_findLowestAround 24 = .ok (.iload 4, 2) := by decide +kernel
theorem dX7_findLowestAround_26 : decode cX7_findLowestAround 26 = .ok (.invokestatic 81, 3) := by decide +kernel
theorem dX7_findLowestAround_29 : decode cX7_findLowestAround 29 = .ok (.istore_n 2, 1) := by decide +kernel
theorem dX7_findLowestAround_30 : decode cX7_findLowestAround 30 = .ok (.iinc 3 1, 3) := by decide +kernel
theorem dX7_findLowestAround_33 : decode cX7_findLowestAround 33 = .ok (.goto (-29), 3) := by decide +kernel
theorem dX7_findLowestAround_36 : decode cX7_findLowestAround 36 = .ok (.iload_n 2, 1) := by decide +kernel
theorem dX7_findLowestAround_37 : decode cX7_findLowestAround 37 = .ok (.ireturn, 1) := by decide +kernel
set_option maxRecDepth 20000 in
theorem ggX7_isTooLarge_X7_findBeyond : GoodIn wsX7_isTooLarge wsX7_findBeyond := goodIn_r _ [8, 2, 1, 9, 10, 11, 12, 13, 14, 15, 16, 17, 18, 19, 20, 21, 22, 7, 23, 24, 25, 26, 27, 28, 29, 30, 31, 32, 33, 34, 35, 36, 37, 38, 39, 40, 41, 42, 43, 44, 45, 46, 47, 48, 49, 50, 51, 52, 53, 54, 55, 56, 57, 58, 59, 60, 3, 61, 62, 63, 64, 65, 66, 67, 68, 69, 70] (by decide +kernel) (by decide +kernel)
set_option maxRecDepth 20000 in
theorem gX7_isTooLarge_X7_findBeyond : GoodIn wsX7_isTooLarge (wsV RX7 74 RX7 yX7_findBeyond wsX7_findBeyond) := goodIn_app (goodIn_of _ (by decide +kernel)) ggX7_isTooLarge_X7_findBeyond
set_option maxRecDepth 20000 in
theorem ggX7_isTooLarge_X1_sideOf : GoodIn wsX7_isTooLarge wsX1_sideOf := goodIn_r _ [18, 19, 65, 66] (by decide +kernel) (by decide +kernel)
set_option maxRecDepth 20000 in
theorem gX7_isTooLarge_X1_sideOf : GoodIn wsX7_isTooLarge (wsV RX7 38 RX1 yX1_sideOf wsX1_sideOf) := goodIn_app (goodIn_of _ (by decide +kernel)) ggX7_isTooLarge_X1_sideOf
theorem dX7_isTooLarge_0 : decode cX7_isTooLarge 0 = .ok (.iconst 0, 1) := by decide +kernel
theorem dX7_isTooLarge_1 : decode cX7_isTooLarge 1 = .ok (.istore_n 2, 1) := by decide +kernel
theorem dX7_isTooLarge_2 : decode cX7_isTooLarge 2 = .ok (.iload_n 2, 1) := by decide +kernel
theorem dX7_isTooLarge_3 : decode cX7_isTooLarge 3 = .ok (.iconst 4, 1) := by decide +kernel
theorem dX7_isTooLarge_4 : decode cX7_isTooLarge 4 = .ok (.if_icmp .ge 59, 3) := by decide +kernel
theorem dX7_isTooLarge_7 : decode cX7_isTooLarge 7 = .ok (.aload_n 0, 1) := by decide +kernel
theorem dX7_isTooLarge_8 : decode cX7_isTooLarge 8 = .ok (.iload_n 1, 1) := by decide +kernel
theorem dX7_isTooLarge_9 : decode cX7_isTooLarge 9 = .ok (.iload_n 2, 1) := by decide +kernel
theorem dX7_isTooLarge_10 : decode cX7_isTooLarge 10 = .ok (.invokevirtual 74, 3) := by decide +kernel
theorem dX7_isTooLarge_13 : decode cX7_isTooLarge 13 = .ok (.iconst 0, 1) := by decide +kernel
theorem dX7_isTooLarge_14 : decode cX7_isTooLarge 14 = .ok (.istore_n 3, 1) := by decide +kernel
theorem dX7_isTooLarge_15 : decode cX7_isTooLarge 15 = .ok (.iload_n 3, 1) := by decide +kernel
theorem dX7_isTooLarge_16 : decode cX7_isTooLarge 16 = .ok (.aload_n 0, 1) := by decide +kernel
theorem dX7_isTooLarge_17 : decode cX7_isTooLarge 17 = .ok (.getfield 9, 3) := by decide +kernel
theorem dX7_isTooLarge_20 : decode cX7_isTooLarge 20 = .ok (.if_icmp .ge 37, 3) := by decide +kernel
theorem dX7_isTooLarge_23 : decode cX7_isTooLarge 23 = .ok (.iconst 2, 1) := by decide +kernel
theorem dX7_isTooLarge_24 : decode cX7_isTooLarge 24 = .ok (.aload_n 0, 1) := by decide +kernel
theorem dX7_isTooLarge_25 : decode cX7_isTooLarge 25 = .ok (.getfield 23, 3) := by decide +kernel
theorem dX7_isTooLarge_28 : decode cX7_isTooLarge 28 = .ok (.aload_n 0, 1) := by decide +kernel
theorem dX7_isTooLarge_29 : decode cX7_isTooLarge 29 = .ok (.getfield 15, 3) := by decide +kernel
theorem dX7_isTooLarge_32 : decode cX7_isTooLarge 32 = .ok (.iload_n 3, 1) := by decide +kernel
theorem dX7_isTooLarge_33 : decode cX7_isTooLarge 33 = .ok (.iaload, 1) := by decide +kernel
theorem dX7_isTooLarge_34 : decode cX7_isTooLarge 34 = .ok (.invokevirtual 38, 3) := by decide +kernel
theorem dX7_isTooLarge_37 : decode cX7_isTooLarge 37 = .ok (.imul, 1) := by decide +kernel
theorem dX7_isTooLarge_38 : decode cX7_isTooLarge 38 = .ok (.aload_n 0, 1) := by decide +kernel
theorem dX7_isTooLarge_39 : decode cX7_isTooLarge 39 = .ok (.getfield 23, 3) := by decide +kernel
theorem dX7_isTooLarge_42 : decode cX7_isTooLarge 42 = .ok (.iload_n 1, 1) := by decide +kernel
theorem dX7_isTooLarge_43 : decode cX7_isTooLarge 43 = .ok (.invokevirtual 38, 3) := by decide +kernel
theorem dX7_isTooLarge_46 : decode cX7_isTooLarge 46 = .ok (.if_icmp .ge 5, 3) := by decide +kernel
theorem dX7_isTooLarge_49 : decode cX7_isTooLarge 49 = .ok (.iconst 1, 1) := by decide +kernel
theorem dX7_isTooLarge_50 : decode cX7_isTooLarge 50 = .ok (.ireturn, 1) := by decide +kernel
theorem dX7_isTooLarge_51 : decode cX7_isTooLarge 51 = .ok (.iinc 3 1, 3) := by decide +kernel
theorem dX7_isTooLarge_54 : decode cX7_isTooLarge 54 = .ok (.goto (-39), 3) := by decide +kernel
theorem dX7_isTooLarge_57 : decode cX7_isTooLarge 57 = .ok (.iinc 2 1, 3) := by decide +kernel
theorem dX7_isTooLarge_60 : decode cX7_isTooLarge 60 = .ok (.goto (-58), 3) := by decide +kernel
theorem dX7_isTooLarge_63 : decode cX7_isTooLarge 63 = .ok (.iconst 0, 1) := by decide +kernel
theorem dX7_isTooLarge_64 : decode cX7_isTooLarge 64 = .ok (.ireturn, 1) := by decide +kernel
theorem dX8_init_0 : decode cX8_init 0 = .ok (.aload_n 0, 1) := by decide +kernel
theorem dX8_init_1 : decode cX8_init 1 = .ok (.invokespecial 3, 3) := by decide +kernel
theorem dX8_init_4 : decode cX8_init 4 = .ok (.aload_n 0, 1) := by decide +kernel
theorem dX8_init_5 : decode cX8_init 5 = .ok (.iconst 0, 1) := by decide +kernel
theorem dX8_init_6 : decode cX8_init 6 = .ok (.putfield 9, 3) := by decide +kernel
theorem dX8_init_9 : decode cX8_init 9 = .ok (.aload_n 0, 1) := by decide +kernel
theorem dX8_init_10 : decode cX8_init 10 = .ok (.bipush 80, 2) := by decide +kernel
theorem dX8_init_12 : decode cX8_init 12 = .ok (.newarray .int, 2) := by decide +kernel
theorem dX8_init_14 : decode cX8_init 14 = .ok (.putfield 15, 3) := by decide +kernel
theorem dX8_init_17 : decode cX8_init 17 = .ok (.return_, 1) := by decide +kernel
theorem dX8_add_0 : decode cX8_add 0 = .ok (.aload_n 0, 1) := by decide +kernel
theorem dX8_add_1 : decode cX8_add 1 = .ok (.getfield 9, 3) := by decide +kernel
theorem dX8_add_4 : decode cX8_add 4 = .ok (.bipush 80, 2) := by decide +kernel
theorem dX8_add_6 : decode cX8_add 6 = .ok (.if_icmp .lt 5, 3) := by decide +kernel
theorem dX8_add_9 : decode cX8_add 9 = .ok (.iconst 0, 1) := by decide +kernel
theorem dX8_add_10 : decode cX8_add 10 = .ok (.ireturn, 1) := by decide +kernel
theorem dX8_add_11 : decode cX8_add 11 = .ok (.aload_n 0, 1) := by decide +kernel
theorem dX8_add_12 : decode cX8_add 12 = .ok (.getfield 15, 3) := by decide +kernel
theorem dX8_add_15 : decode cX8_add 15 = .ok (.aload_n 0, 1) := by decide +kernel
theorem dX8_add_16 : decode cX8_add 16 = .ok (.getfield 9, 3) := by decide +kernel
theorem dX8_add_19 : decode cX8_add 19 = .ok (.iload_n 1, 1) := by decide +kernel
theorem dX8_add_20 : decode cX8_add 20 = .ok (.iastore, 1) := by decide +kernel
theorem dX8_add_21 : decode cX8_add 21 = .ok (.aload_n 0, 1) := by decide +kernel
theorem dX8_add_22 : decode cX8_add 22 = .ok (.dup, 1) := by decide +kernel
theorem dX8_add_23 : decode cX8_add 23 = .ok (.getfield 9, 3) := by decide +kernel
theorem dX8_add_26 : decode cX8_add 26 = .ok (.iconst 1, 1) := by decide +kernel
theorem dX8_add_27 : decode cX8_add 27 = .ok (.iadd, 1) := by decide +kernel
theorem dX8_add_28 : decode cX8_add 28 = .ok (.putfield 9, 3) := by decide +kernel
theorem dX8_add_31 : decode cX8_add 31 = .ok (.iconst 1, 1) := by decide +kernel
theorem dX8_add_32 : decode cX8_add 32 = .ok (.ireturn, 1) := by decide +kernel
theorem dX8_digitAt_0 : decode cX8_digitAt 0 = .ok (.aload_n 0, 1) := by decide +kernel
theorem dX8_digitAt_1 : decode cX8_digitAt 1 = .ok (.getfield 15, 3) := by decide +kernel
theorem dX8_digitAt_4 : decode cX8_digitAt 4 = .ok (.bipush 9, 2) := by decide +kernel
theorem dX8_digitAt_6 : decode cX8_digitAt 6 = .ok (.iload_n 1, 1) := by decide +kernel
theorem dX8_digitAt_7 : decode cX8_digitAt 7 = .ok (.imul, 1) := by decide +kernel
theorem dX8_digitAt_8 : decode cX8_digitAt 8 = .ok (.iload_n 2, 1) := by decide +kernel
theorem dX8_digitAt_9 : decode cX8_digitAt 9 = .ok (.iadd, 1) := by decide +kernel
theorem dX8_digitAt_10 : decode cX8_digitAt 10 = .ok (.iaload, 1) := by decide +kernel
theorem dX8_digitAt_11 : decode cX8_digitAt 11 = .ok (.bipush 48, 2) := by decide +kernel
theorem dX8_digitAt_13 : decode cX8_digitAt 13 = .ok (.isub, 1) := by decide +kernel
theorem dX8_digitAt_14 : decode cX8_digitAt 14 = .ok (.ireturn, 1) := by decide +kernel
theorem dX8_countStates_0 : decode cX8_countStates 0 = .ok (.aload_n 0, 1) := by decide +kernel
theorem dX8_countStates_1 : decode cX8_countStates 1 = .ok (.getfield 9, 3) := by decide +kernel
theorem dX8_countStates_4 : decode cX8_countStates 4 = .ok (.bipush 9, 2) := by decide +kernel
theorem dX8_countStates_6 : decode cX8_countStates 6 = .ok (.idiv, 1) := by decide +kernel
theorem dX8_countStates_7 : decode cX8_countStates 7 = .ok (.ireturn, 1) := by decide +kernel
set_option maxRecDepth 20000 in
theorem ggX8_findFault_X8_findFaultOfForm : GoodIn wsX8_findFault wsX8_findFaultOfForm := goodIn_r _ [5, 6, 7, 8, 9, 4, 10, 11, 12, 13, 14, 15, 28, 29] (by decide +kernel) (by decide +kernel)
set_option maxRecDepth 20000 in
theorem gX8_findFault_X8_findFaultOfForm : GoodIn wsX8_findFault (wsV RX8 19 RX8 yX8_findFaultOfForm wsX8_findFaultOfForm) := goodIn_app (goodIn_of _ (by decide +kernel)) ggX8_findFault_X8_findFaultOfForm
set_option maxRecDepth 20000 in
theorem ggX8_findFault_X8_findUnknownState : GoodIn wsX8_findFault wsX8_findUnknownState := goodIn_r _ [19, 20, 21, 22, 4, 23, 6, 24, 25, 26, 27, 11, 28, 29] (by decide +kernel) (by decide +kernel)
set_option maxRecDepth 20000 in
theorem gX8_findFault_X8_findUnknownState : GoodIn wsX8_findFault (wsV RX8 23 RX8 yX8_findUnknownState wsX8_findUnknownState) := goodIn_app (goodIn_of _ (by decide +kernel)) ggX8_findFault_X8_findUnknownState
theorem dX8_findFault_0 : decode cX8_findFault 0 = .ok (.aload_n 0, 1) := by decide +kernel
theorem dX8_findFault_1 : decode cX8_findFault 1 = .ok (.invokevirtual 19, 3) := by decide +kernel
theorem dX8_findFault_4 : decode cX8_findFault 4 = .ok (.istore_n 1, 1) := by decide +kernel
theorem dX8_findFault_5 : decode cX8_findFault 5 = .ok (.iload_n 1, 1) := by decide +kernel
theorem dX8_findFault_6 : decode cX8_findFault 6 = .ok (.iconst (-1), 1) := by decide +kernel
theorem dX8_findFault_7 : decode cX8_findFault 7 = .ok (.if_icmp .ne 10, 3) := by decide +kernel
theorem dX8_findFault_10 : decode cX8_findFault 10 = .ok (.aload_n 0, 1) := by decide +kernel
theorem dX8_findFault_11 : decode cX8_findFault 11 = .ok (.invokevirtual 23, 3) := by decide +kernel
theorem dX8_findFault_14 : decode cX8_findFault 14 = .ok (.goto 4, 3) := by decide +kernel
theorem dX8_findFault_17 : decode cX8_findFault 17 = .ok (.iload_n 1, 1) := by decide +kernel
theorem dX8_findFault_18 : decode cX8_findFault 18 = .ok (.ireturn, 1) := by decide +kernel
set_option maxRecDepth 20000 in
theorem ggX8_findFaultOfForm_X8_fitsForm : GoodIn wsX8_findFaultOfForm wsX8_fitsForm := goodIn_r _ [6, 7, 8, 9, 10, 5, 11, 12, 13] (by decide +kernel) (by decide +kernel)
set_option maxRecDepth 20000 in
theorem gX8_findFaultOfForm_X8_fitsForm : GoodIn wsX8_findFaultOfForm (wsV RX8 26 RX8 yX8_fitsForm wsX8_fitsForm) := goodIn_app (goodIn_of _ (by decide +kernel)) ggX8_findFaultOfForm_X8_fitsForm
theorem dX8_findFaultOfForm_0 : decode cX8_findFaultOfForm 0 = .ok (.iconst 0, 1) := by decide +kernel
theorem dX8_findFaultOfForm_1 : decode cX8_findFaultOfForm 1 = .ok (.istore_n 1, 1) := by decide +kernel
theorem dX8_findFaultOfForm_2 : decode cX8_findFaultOfForm 2 = .ok (.iload_n 1, 1) := by decide +kernel
theorem dX8_findFaultOfForm_3 : decode cX8_findFaultOfForm 3 = .ok (.aload_n 0, 1) := by decide +kernel
theorem dX8_findFaultOfForm_4 : decode cX8_findFaultOfForm 4 = .ok (.getfield 9, 3) := by decide +kernel
theorem dX8_findFaultOfForm_7 : decode cX8_findFaultOfForm 7 = .ok (.if_icmp .ge 25, 3) := by decide +kernel
theorem dX8_findFaultOfForm_10 : decode cX8_findFaultOfForm 10 = .ok (.iload_n 1, 1) := by decide +kernel
theorem dX8_findFaultOfForm_11 : decode cX8_findFaultOfForm 11 = .ok (.bipush 72, 2) := by decide +kernel
theorem dX8_findFaultOfForm_13 : decode cX8_findFaultOfForm 13 = .ok (.if_icmp .ge 11, 3) := by decide +kernel
theorem dX8_findFaultOfForm_16 : decode cX8_findFaultOfForm 16 = .ok (.aload_n 0, 1) := by decide +kernel
theorem dX8_findFaultOfForm_17 : decode cX8_findFaultOfForm 17 = .ok (.iload_n 1, 1) := by decide +kernel
theorem dX8_findFaultOfForm_18 : decode cX8_findFaultOfForm 18 = .ok (.invokevirtual 26, 3) := by decide +kernel
theorem dX8_findFaultOfForm_21 : decode cX8_findFaultOfForm 21 = .ok (.ifCond .ne 5, 3) := by decide +kernel
theorem dX8_findFaultOfForm_24 : decode cX8_findFaultOfForm 24 = .ok (.iload_n 1, 1) := by decide +kernel
theorem dX8_findFaultOfForm_25 : decode cX8_findFaultOfForm 25 = .ok (.ireturn, 1) := by decide +kernel
theorem dX8_findFaultOfForm_26 : decode cX8_findFaultOfForm 26 = .ok (.iinc 1 1, 3) := by decide +kernel
theorem dX8_findFaultOfForm_29 : decode cX8_findFaultOfForm 29 = .ok (.goto (-27), 3) := by decide +kernel
theorem dX8_findFaultOfForm_32 : decode cX8_findFaultOfForm 32 = .ok (.aload_n 0, 1) := by decide +kernel
theorem dX8_findFaultOfForm_33 : decode cX8_findFaultOfForm 33 = .ok (.getfield 9, 3) := by decide +kernel
theorem dX8_findFaultOfForm_36 : decode cX8_findFaultOfForm 36 = .ok (.ifCond .eq 13, 3) := by decide +kernel
theorem dX8_findFaultOfForm_39 : decode cX8_findFaultOfForm 39 = .ok (.aload_n 0, 1) := by decide +kernel
theorem dX8_findFaultOfForm_40 : decode cX8_findFaultOfForm 40 = .ok (.getfield 9, 3) := by decide +kernel
theorem dX8_findFaultOfForm_43 : decode cX8_findFaultOfForm 43 = .ok (.bipush 9, 2) := by decide +kernel
theorem dX8_findFaultOfForm_45 : decode cX8_findFaultOfForm 45 = .ok (.irem, 1) := by decide +kernel
theorem dX8_findFaultOfForm_46 : decode cX8_findFaultOfForm 46 = .ok (.ifCond .eq 10, 3) := by decide +kernel
theorem dX8_findFaultOfForm_49 : decode cX8_findFaultOfForm 49 = .ok (.aload_n 0, 1) := by decide +kernel
theorem dX8_findFaultOfForm_50 : decode cX8_findFaultOfForm 50 = .ok (.getfield 9, 3) := by decide +kernel
theorem dX8_findFaultOfForm_53 : decode cX8_findFaultOfForm 53 = .ok (.goto 4, 3) := by decide +kernel
theorem dX8_findFaultOfForm_56 : decode cX8_findFaultOfForm 56 = .ok (.iconst (-1), 1) := by decide +kernel
theorem dX8_findFaultOfForm_57 : decode cX8_findFaultOfForm 57 = .ok (.ireturn, 1) := by decide +kernel
set_option maxRecDepth 20000 in
theorem ggX8_fitsForm_X8_isToldBefore : GoodIn wsX8_fitsForm wsX8_isToldBefore := goodIn_r _ [6, 1, 7, 8] (by decide +kernel) (by decide +kernel)
set_option maxRecDepth 20000 in
theorem gX8_fitsForm_X8_isToldBefore : GoodIn wsX8_fitsForm (wsV RX8 30 RX8 yX8_isToldBefore wsX8_isToldBefore) := goodIn_app (goodIn_of _ (by decide +kernel)) ggX8_fitsForm_X8_isToldBefore
theorem dX8_fitsForm_0 : decode cX8_fitsForm 0 = .ok (.iload_n 1, 1) := by decide +kernel
theorem dX8_fitsForm_1 : decode cX8_fitsForm 1 = .ok (.bipush 9, 2) := by decide +kernel
theorem dX8_fitsForm_3 : decode cX8_fitsForm 3 = .ok (.irem, 1) := by decide +kernel
theorem dX8_fitsForm_4 : decode cX8_fitsForm 4 = .ok (.istore_n 2, 1) := by decide +kernel
theorem dX8_fitsForm_5 : decode cX8_fitsForm 5 = .ok (.aload_n 0, 1) := by decide +kernel
theorem dX8_fitsForm_6 : decode cX8_fitsForm 6 = .ok (.getfield 15, 3) := by decide +kernel
theorem dX8_fitsForm_9 : decode cX8_fitsForm 9 = .ok (.iload_n 1, 1) := by decide +kernel
theorem dX8_fitsForm_10 : decode cX8_fitsForm 10 = .ok (.iaload, 1) := by decide +kernel
theorem dX8_fitsForm_11 : decode cX8_fitsForm 11 = .ok (.istore_n 3, 1) := by decide +kernel
theorem dX8_fitsForm_12 : decode cX8_fitsForm 12 = .ok (.iload_n 2, 1) := by decide +kernel
theorem dX8_fitsForm_13 : decode cX8_fitsForm 13 = .ok (.iconst 4, 1) := by decide +kernel
theorem dX8_fitsForm_14 : decode cX8_fitsForm 14 = .ok (.if_icmp .ge 30, 3) := by decide +kernel
theorem dX8_fitsForm_17 : decode cX8_fitsForm 17 = .ok (.iload_n 3, 1) := by decide +kernel
theorem dX8_fitsForm_18 : decode cX8_fitsForm 18 = .ok (.bipush 48, 2) := by decide +kernel
theorem dX8_fitsForm_20 : decode cX8_fitsForm 20 = .ok (.if_icmp .lt 22, 3) := by decide +kernel
theorem dX8_fitsForm_23 : decode cX8_fitsForm 23 = .ok (.iload_n 3, 1) := by decide +kernel
theorem dX8_fitsForm_24 : decode cX8_fitsForm 24 = .ok (.bipush 51, 2) := by decide +kernel
theorem dX8_fitsForm_26 : decode cX8_fitsForm 26 = .ok (.if_icmp .gt 16, 3) := by decide +kernel
theorem dX8_fitsForm_29 : decode cX8_fitsForm 29 = .ok (.aload_n 0, 1) := by decide +kernel
theorem dX8_fitsForm_30 : decode cX8_fitsForm 30 = .ok (.iload_n 1, 1) := by decide +kernel
theorem dX8_fitsForm_31 : decode cX8_fitsForm 31 = .ok (.iload_n 2, 1) := by decide +kernel
theorem dX8_fitsForm_32 : decode cX8_fitsForm 32 = .ok (.invokevirtual 30, 3) := by decide +kernel
theorem dX8_fitsForm_35 : decode cX8_fitsForm 35 = .ok (.ifCond .ne 7, 3) := by decide +kernel
theorem dX8_fitsForm_38 : decode cX8_fitsForm 38 = .ok (.iconst 1, 1) := by decide +kernel
theorem dX8_fitsForm_39 : decode cX8_fitsForm 39 = .ok (.goto 4, 3) := by decide +kernel
theorem dX8_fitsForm_42 : decode cX8_fitsForm 42 = .ok (.iconst 0, 1) := by decide +kernel
theorem dX8_fitsForm_43 : decode cX8_fitsForm 43 = .ok (.ireturn, 1) := by decide +kernel
theorem dX8_fitsForm_44 : decode cX8_fitsForm 44 = .ok (.iload_n 2, 1) := by decide +kernel
theorem dX8_fitsForm_45 : decode cX8_fitsForm 45 = .ok (.bipush 8, 2) := by decide +kernel
theorem dX8_fitsForm_47 : decode cX8_fitsForm 47 = .ok (.if_icmp .ge 21, 3) := by decide +kernel
theorem dX8_fitsForm_50 : decode cX8_fitsForm 50 = .ok (.iload_n 3, 1) := by decide +kernel
theorem dX8_fitsForm_51 : decode cX8_fitsForm 51 = .ok (.bipush 48, 2) := by decide +kernel
theorem dX8_fitsForm_53 : decode cX8_fitsForm 53 = .ok (.if_icmp .lt 13, 3) := by decide +kernel
theorem dX8_fitsForm_56 : decode cX8_fitsForm 56 = .ok (.iload_n 3, 1) := by decide +kernel
theorem dX8_fitsForm_57 : decode cX8_fitsForm 57 = .ok (.bipush 57, 2) := by decide +kernel
theorem dX8_fitsForm_59 : decode cX8_fitsForm 59 = .ok (.if_icmp .gt 7, 3) := by decide +kernel
theorem dX8_fitsForm_62 : decode cX8_fitsForm 62 = .ok (.iconst 1, 1) := by decide +kernel
theorem dX8_fitsForm_63 : decode cX8_fitsForm 63 = .ok (.goto 4, 3) := by decide +kernel
theorem dX8_fitsForm_66 : decode cX8_fitsForm 66 = .ok (.iconst 0, 1) := by decide +kernel
theorem dX8_fitsForm_67 : decode cX8_fitsForm 67 = .ok (.ireturn, 1) := by decide +kernel
theorem dX8_fitsForm_68 : decode cX8_fitsForm 68 = .ok (.iload_n 3, 1) := by decide +kernel
theorem dX8_fitsForm_69 : decode cX8_fitsForm 69 = .ok (.bipush 59, 2) := by decide +kernel
theorem dX8_fitsForm_71 : decode cX8_fitsForm 71 = .ok (.if_icmp .ne 7, 3) := by decide +kernel
theorem dX8_fitsForm_74 : decode cX8_fitsForm 74 = .ok (.iconst 1, 1) := by decide +kernel
theorem dX8_fitsForm_75 : decode cX8_fitsForm 75 = .ok (.goto 4, 3) := by decide +kernel
theorem dX8_fitsForm_78 : decode cX8_fitsForm 78 = .ok (.iconst 0, 1) := by decide +kernel
theorem dX8_fitsForm_79 : decode cX8_fitsForm 79 = .ok (.ireturn, 1) := by decide +kernel
theorem dX8_isToldBefore_0 : decode cX8_isToldBefore 0 = .ok (.iload_n 1, 1) := by decide +kernel
theorem dX8_isToldBefore_1 : decode cX8_isToldBefore 1 = .ok (.iload_n 2, 1) := by decide +kernel
theorem dX8_isToldBefore_2 : decode cX8_isToldBefore 2 = .ok (.isub, 1) := by decide +kernel
theorem dX8_isToldBefore_3 : decode cX8_isToldBefore 3 = .ok (.istore_n 3, 1) := by decide +kernel
theorem dX8_isToldBefore_4 : decode cX8_isToldBefore 4 = .ok (.iload_n 3, 1) := by decide +kernel
theorem dX8_isToldBefore_5 : decode cX8_isToldBefore 5 = .ok (.iload_n 1, 1) := by decide +kernel
theorem dX8_isToldBefore_6 : decode cX8_isToldBefore 6 = .ok (.if_icmp .ge 26, 3) := by decide +kernel
theorem dX8_isToldBefore_9 : decode cX8_isToldBefore 9 = .ok (.aload_n 0, 1) := by decide +kernel
theorem dX8_isToldBefore_10 : decode cX8_isToldBefore 10 = .ok (.getfield 15, 3) := by decide +kernel
theorem dX8_isToldBefore_13 : decode cX8_isToldBefore 13 = .ok (.iload_n 3, 1) := by decide +kernel
theorem dX8_isToldBefore_14 : decode cX8_isToldBefore 14 = .ok (.iaload, 1) := by decide +kernel
theorem dX8_isToldBefore_15 : decode cX8_isToldBefore 15 = .ok (.aload_n 0, 1) := by decide +kernel
theorem dX8_isToldBefore_16 : decode cX8_isToldBefore 16 = .ok (.getfield 15, 3) := by decide +kernel
theorem dX8_isToldBefore_19 : decode cX8_isToldBefore 19 = .ok (.iload_n 1, 1) := by decide +kernel
theorem dX8_isToldBefore_20 : decode cX8_isToldBefore 20 = .ok (.iaload, 1) := by decide +kernel
theorem dX8_isToldBefore_21 : decode cX8_isToldBefore 21 = .ok (.if_icmp .ne 5, 3) := by decide +kernel
theorem dX8_isToldBefore_24 : decode cX8_isToldBefore 24 = .ok (.iconst 1, 1) := by decide +kernel
theorem dX8_isToldBefore_25 : decode cX8_isToldBefore 25 = .ok (.ireturn, 1) := by decide +kernel
theorem dX8_isToldBefore_26 : decode cX8_isToldBefore 26 = .ok (.iinc 3 1, 3) := by decide +kernel
theorem dX8_isToldBefore_29 : decode cX8_isToldBefore 29 = .ok (.goto (-25), 3) := by decide +kernel
theorem dX8_isToldBefore_32 : decode cX8_isToldBefore 32 = .ok (.iconst 0, 1) := by decide +kernel
theorem dX8_isToldBefore_33 : decode cX8_isToldBefore 33 = .ok (.ireturn, 1) := by decide +kernel
set_option maxRecDepth 20000 in
theorem ggX8_findUnknownState_X8_countStates : GoodIn wsX8_findUnknownState wsX8_countStates := goodIn_r _ [5, 6, 12, 13] (by decide +kernel) (by decide +kernel)
