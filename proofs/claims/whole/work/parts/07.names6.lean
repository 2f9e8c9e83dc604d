theorem dX10_maps_17 : decode cX10_maps 17 = .ok (.iload_n 2, 1) := by decide +kernel
theorem dX10_maps_18 : decode cX10_maps 18 = .ok (.aload_n 0, 1) := by decide +kernel
theorem dX10_maps_19 : decode cX10_maps 19 = .ok (.getfield 32, 3) := by decide +kernel
theorem dX10_maps_22 : decode cX10_maps 22 = .ok (.iload_n 1, 1) := by decide +kernel
theorem dX10_maps_23 : decode cX10_maps 23 = .ok (.iaload, 1) := by decide +kernel
theorem dX10_maps_24 : decode cX10_maps 24 = .ok (.iconst 1, 1) := by decide +kernel
theorem dX10_maps_25 : decode cX10_maps 25 = .ok (.iconst 2, 1) := by decide +kernel
theorem dX10_maps_26 : decode cX10_maps 26 = .ok (.aload_n 0, 1) := by decide +kernel
theorem dX10_maps_27 : decode cX10_maps 27 = .ok (.getfield 35, 3) := by decide +kernel
theorem dX10_maps_30 : decode cX10_maps 30 = .ok (.iload_n 1, 1) := by decide +kernel
theorem dX10_maps_31 : decode cX10_maps 31 = .ok (.iaload, 1) := by decide +kernel
theorem dX10_maps_32 : decode cX10_maps 32 = .ok (.imul, 1) := by decide +kernel
theorem dX10_maps_33 : decode cX10_maps 33 = .ok (.ishl, 1) := by decide +kernel
theorem dX10_maps_34 : decode cX10_maps 34 = .ok (.iadd, 1) := by decide +kernel
theorem dX10_maps_35 : decode cX10_maps 35 = .ok (.if_icmp .ge 16, 3) := by decide +kernel
theorem dX10_maps_38 : decode cX10_maps 38 = .ok (.aload_n 0, 1) := by decide +kernel
theorem dX10_maps_39 : decode cX10_maps 39 = .ok (.getfield 69, 3) := by decide +kernel
theorem dX10_maps_42 : decode cX10_maps 42 = .ok (.iload_n 2, 1) := by decide +kernel
theorem dX10_maps_43 : decode cX10_maps 43 = .ok (.iload_n 1, 1) := by decide +kernel
theorem dX10_maps_44 : decode cX10_maps 44 = .ok (.iastore, 1) := by decide +kernel
theorem dX10_maps_45 : decode cX10_maps 45 = .ok (.iinc 2 1, 3) := by decide +kernel
theorem dX10_maps_48 : decode cX10_maps 48 = .ok (.goto (-31), 3) := by decide +kernel
theorem dX10_maps_51 : decode cX10_maps 51 = .ok (.iinc 1 1, 3) := by decide +kernel
theorem dX10_maps_54 : decode cX10_maps 54 = .ok (.goto (-52), 3) := by decide +kernel
theorem dX10_maps_57 : decode cX10_maps 57 = .ok (.return_, 1) := by decide +kernel
theorem dX10_leaves_0 : decode cX10_leaves 0 = .ok (.aload_n 0, 1) := by decide +kernel
theorem dX10_leaves_1 : decode cX10_leaves 1 = .ok (.getfield 161, 3) := by decide +kernel
theorem dX10_leaves_4 : decode cX10_leaves 4 = .ok (.ireturn, 1) := by decide +kernel
set_option maxRecDepth 20000 in
theorem ggX10_isLeaf_X10_in : GoodIn wsX10_isLeaf wsX10_in := goodIn_r _ [5] (by decide +kernel) (by decide +kernel)
set_option maxRecDepth 20000 in
theorem gX10_isLeaf_X10_in : GoodIn wsX10_isLeaf (va_wsS RX10 99 yX10_in wsX10_in) := goodIn_app (goodIn_of _ (by decide +kernel)) ggX10_isLeaf_X10_in
theorem dX10_isLeaf_0 : decode cX10_isLeaf 0 = .ok (.iload_n 1, 1) := by decide +kernel
theorem dX10_isLeaf_1 : decode cX10_isLeaf 1 = .ok (.iconst 0, 1) := by decide +kernel
theorem dX10_isLeaf_2 : decode cX10_isLeaf 2 = .ok (.aload_n 0, 1) := by decide +kernel
theorem dX10_isLeaf_3 : decode cX10_isLeaf 3 = .ok (.getfield 161, 3) := by decide +kernel
theorem dX10_isLeaf_6 : decode cX10_isLeaf 6 = .ok (.iconst 1, 1) := by decide +kernel
theorem dX10_isLeaf_7 : decode cX10_isLeaf 7 = .ok (.isub, 1) := by decide +kernel
theorem dX10_isLeaf_8 : decode cX10_isLeaf 8 = .ok (.invokestatic 99, 3) := by decide +kernel
theorem dX10_isLeaf_11 : decode cX10_isLeaf 11 = .ok (.ireturn, 1) := by decide +kernel
theorem dX10_leftOf_0 : decode cX10_leftOf 0 = .ok (.aload_n 0, 1) := by decide +kernel
theorem dX10_leftOf_1 : decode cX10_leftOf 1 = .ok (.getfield 60, 3) := by decide +kernel
theorem dX10_leftOf_4 : decode cX10_leftOf 4 = .ok (.aload_n 0, 1) := by decide +kernel
theorem dX10_leftOf_5 : decode cX10_leftOf 5 = .ok (.getfield 32, 3) := by decide +kernel
theorem dX10_leftOf_8 : decode cX10_leftOf 8 = .ok (.iload_n 1, 1) := by decide +kernel
theorem dX10_leftOf_9 : decode cX10_leftOf 9 = .ok (.iaload, 1) := by decide +kernel
theorem dX10_leftOf_10 : decode cX10_leftOf 10 = .ok (.iaload, 1) := by decide +kernel
theorem dX10_leftOf_11 : decode cX10_leftOf 11 = .ok (.bipush 64, 2) := by decide +kernel
theorem dX10_leftOf_13 : decode cX10_leftOf 13 = .ok (.irem, 1) := by decide +kernel
theorem dX10_leftOf_14 : decode cX10_leftOf 14 = .ok (.aload_n 0, 1) := by decide +kernel
theorem dX10_leftOf_15 : decode cX10_leftOf 15 = .ok (.getfield 35, 3) := by decide +kernel
theorem dX10_leftOf_18 : decode cX10_leftOf 18 = .ok (.iload_n 1, 1) := by decide +kernel
theorem dX10_leftOf_19 : decode cX10_leftOf 19 = .ok (.iaload, 1) := by decide +kernel
theorem dX10_leftOf_20 : decode cX10_leftOf 20 = .ok (.ishr, 1) := by decide +kernel
theorem dX10_leftOf_21 : decode cX10_leftOf 21 = .ok (.aload_n 0, 1) := by decide +kernel
theorem dX10_leftOf_22 : decode cX10_leftOf 22 = .ok (.getfield 35, 3) := by decide +kernel
theorem dX10_leftOf_25 : decode cX10_leftOf 25 = .ok (.iload_n 1, 1) := by decide +kernel
theorem dX10_leftOf_26 : decode cX10_leftOf 26 = .ok (.iaload, 1) := by decide +kernel
theorem dX10_leftOf_27 : decode cX10_leftOf 27 = .ok (.ishl, 1) := by decide +kernel
theorem dX10_leftOf_28 : decode cX10_leftOf 28 = .ok (.ireturn, 1) := by decide +kernel
theorem dX10_belowOf_0 : decode cX10_belowOf 0 = .ok (.aload_n 0, 1) := by decide +kernel
theorem dX10_belowOf_1 : decode cX10_belowOf 1 = .ok (.getfield 60, 3) := by decide +kernel
theorem dX10_belowOf_4 : decode cX10_belowOf 4 = .ok (.aload_n 0, 1) := by decide +kernel
theorem dX10_belowOf_5 : decode cX10_belowOf 5 = .ok (.getfield 32, 3) := by decide +kernel
theorem dX10_belowOf_8 : decode cX10_belowOf 8 = .ok (.iload_n 1, 1) := by decide +kernel
theorem dX10_belowOf_9 : decode cX10_belowOf 9 = .ok (.iaload, 1) := by decide +kernel
theorem dX10_belowOf_10 : decode cX10_belowOf 10 = .ok (.iaload, 1) := by decide +kernel
theorem dX10_belowOf_11 : decode cX10_belowOf 11 = .ok (.bipush 64, 2) := by decide +kernel
theorem dX10_belowOf_13 : decode cX10_belowOf 13 = .ok (.idiv, 1) := by decide +kernel
theorem dX10_belowOf_14 : decode cX10_belowOf 14 = .ok (.aload_n 0, 1) := by decide +kernel
theorem dX10_belowOf_15 : decode cX10_belowOf 15 = .ok (.getfield 35, 3) := by decide +kernel
theorem dX10_belowOf_18 : decode cX10_belowOf 18 = .ok (.iload_n 1, 1) := by decide +kernel
theorem dX10_belowOf_19 : decode cX10_belowOf 19 = .ok (.iaload, 1) := by decide +kernel
theorem dX10_belowOf_20 : decode cX10_belowOf 20 = .ok (.ishr, 1) := by decide +kernel
theorem dX10_belowOf_21 : decode cX10_belowOf 21 = .ok (.aload_n 0, 1) := by decide +kernel
theorem dX10_belowOf_22 : decode cX10_belowOf 22 = .ok (.getfield 35, 3) := by decide +kernel
theorem dX10_belowOf_25 : decode cX10_belowOf 25 = .ok (.iload_n 1, 1) := by decide +kernel
theorem dX10_belowOf_26 : decode cX10_belowOf 26 = .ok (.iaload, 1) := by decide +kernel
theorem dX10_belowOf_27 : decode cX10_belowOf 27 = .ok (.ishl, 1) := by decide +kernel
theorem dX10_belowOf_28 : decode cX10_belowOf 28 = .ok (.ireturn, 1) := by decide +kernel
set_option maxRecDepth 20000 in
theorem ggX10_tells_X10_leftOf : GoodIn wsX10_tells wsX10_leftOf := goodIn_r _ [7, 8, 2, 1, 20, 21, 22, 23, 24, 25, 26, 27, 28, 29, 30, 31, 32, 33, 34, 35, 36, 37, 38, 39, 40, 41, 42, 43, 44, 45, 46, 47, 48] (by decide +kernel) (by decide +kernel)
set_option maxRecDepth 20000 in
theorem gX10_tells_X10_leftOf : GoodIn wsX10_tells (wsV RX10 170 RX10 yX10_leftOf wsX10_leftOf) := goodIn_app (goodIn_of _ (by decide +kernel)) ggX10_tells_X10_leftOf
set_option maxRecDepth 20000 in
theorem ggX10_tells_X10_belowOf : GoodIn wsX10_tells wsX10_belowOf := goodIn_r _ [12, 8, 2, 1, 20, 21, 22, 23, 24, 25, 26, 27, 28, 29, 30, 31, 32, 33, 34, 35, 36, 37, 38, 39, 40, 41, 42, 43, 44, 45, 46, 47, 48] (by decide +kernel) (by decide +kernel)
set_option maxRecDepth 20000 in
theorem gX10_tells_X10_belowOf : GoodIn wsX10_tells (wsV RX10 173 RX10 yX10_belowOf wsX10_belowOf) := goodIn_app (goodIn_of _ (by decide +kernel)) ggX10_tells_X10_belowOf
set_option maxRecDepth 20000 in
theorem ggX10_tells_X10_pointsIn : GoodIn wsX10_tells wsX10_pointsIn := goodIn_r _ [16, 17, 18, 19, 20, 21, 22, 23, 24, 25, 26, 27, 28, 29, 30, 31, 32, 33, 34, 35, 36, 37, 38, 39, 40, 41, 42, 43, 44, 45, 46, 47, 48] (by decide +kernel) (by decide +kernel)
set_option maxRecDepth 20000 in
theorem gX10_tells_X10_pointsIn : GoodIn wsX10_tells (wsV RX10 164 RX10 yX10_pointsIn wsX10_pointsIn) := goodIn_app (goodIn_of _ (by decide +kernel)) ggX10_tells_X10_pointsIn
theorem dX10_tells_0 : decode cX10_tells 0 = .ok (.iload_n 2, 1) := by decide +kernel
theorem dX10_tells_1 : decode cX10_tells 1 = .ok (.tableswitch 69 0 3 #[31, 37, 43, 52], 31) := by decide +kernel
theorem dX10_tells_32 : decode cX10_tells 32 = .ok (.aload_n 0, 1) := by decide +kernel
theorem dX10_tells_33 : decode cX10_tells 33 = .ok (.iload_n 1, 1) := by decide +kernel
theorem dX10_tells_34 : decode cX10_tells 34 = .ok (.invokevirtual 170, 3) := by decide +kernel
theorem dX10_tells_37 : decode cX10_tells 37 = .ok (.ireturn, 1) := by decide +kernel
theorem dX10_tells_38 : decode cX10_tells 38 = .ok (.aload_n 0, 1) := by decide +kernel
theorem dX10_tells_39 : decode cX10_tells 39 = .ok (.iload_n 1, 1) := by decide +kernel
theorem dX10_tells_40 : decode cX10_tells 40 = .ok (.invokevirtual 173, 3) := by decide +kernel
theorem dX10_tells_43 : decode cX10_tells 43 = .ok (.ireturn, 1) := by decide +kernel
theorem dX10_tells_44 : decode cX10_tells 44 = .ok (.iconst 1, 1) := by decide +kernel
theorem dX10_tells_45 : decode cX10_tells 45 = .ok (.aload_n 0, 1) := by decide +kernel
theorem dX10_tells_46 : decode cX10_tells 46 = .ok (.getfield 35, 3) := by decide +kernel
theorem dX10_tells_49 : decode cX10_tells 49 = .ok (.iload_n 1, 1) := by decide +kernel
theorem dX10_tells_50 : decode cX10_tells 50 = .ok (.iaload, 1) := by decide +kernel
theorem dX10_tells_51 : decode cX10_tells 51 = .ok (.ishl, 1) := by decide +kernel
theorem dX10_tells_52 : decode cX10_tells 52 = .ok (.ireturn, 1) := by decide +kernel
theorem dX10_tells_53 : decode cX10_tells 53 = .ok (.aload_n 0, 1) := by decide +kernel
theorem dX10_tells_54 : decode cX10_tells 54 = .ok (.aload_n 0, 1) := by decide +kernel
theorem dX10_tells_55 : decode cX10_tells 55 = .ok (.getfield 32, 3) := by decide +kernel
theorem dX10_tells_58 : decode cX10_tells 58 = .ok (.iload_n 1, 1) := by decide +kernel
theorem dX10_tells_59 : decode cX10_tells 59 = .ok (.iaload, 1) := by decide +kernel
theorem dX10_tells_60 : decode cX10_tells 60 = .ok (.aload_n 0, 1) := by decide +kernel
theorem dX10_tells_61 : decode cX10_tells 61 = .ok (.getfield 35, 3) := by decide +kernel
theorem dX10_tells_64 : decode cX10_tells 64 = .ok (.iload_n 1, 1) := by decide +kernel
theorem dX10_tells_65 : decode cX10_tells 65 = .ok (.iaload, 1) := by decide +kernel
theorem dX10_tells_66 : decode cX10_tells 66 = .ok (.invokevirtual 164, 3) := by decide +kernel
theorem dX10_tells_69 : decode cX10_tells 69 = .ok (.ireturn, 1) := by decide +kernel
theorem dX10_tells_70 : decode cX10_tells 70 = .ok (.aload_n 0, 1) := by decide +kernel
theorem dX10_tells_71 : decode cX10_tells 71 = .ok (.getfield 32, 3) := by decide +kernel
theorem dX10_tells_74 : decode cX10_tells 74 = .ok (.iload_n 1, 1) := by decide +kernel
theorem dX10_tells_75 : decode cX10_tells 75 = .ok (.iaload, 1) := by decide +kernel
theorem dX10_tells_76 : decode cX10_tells 76 = .ok (.ireturn, 1) := by decide +kernel
set_option maxRecDepth 20000 in
theorem ggX10_leaf_X10_isLeaf : GoodIn wsX10_leaf wsX10_isLeaf := goodIn_r _ [5, 6, 7, 8, 4, 9, 32, 33, 34, 35, 36, 37, 38, 39, 40, 41, 42, 43, 44, 45, 46, 47, 48, 49, 50, 51, 52, 53, 54, 55, 56, 57, 58, 59, 60] (by decide +kernel) (by decide +kernel)
set_option maxRecDepth 20000 in
theorem gX10_leaf_X10_isLeaf : GoodIn wsX10_leaf (wsV RX10 176 RX10 yX10_isLeaf wsX10_isLeaf) := goodIn_app (goodIn_of _ (by decide +kernel)) ggX10_leaf_X10_isLeaf
set_option maxRecDepth 20000 in
theorem ggX10_leaf_X10_in : GoodIn wsX10_leaf wsX10_in := goodIn_r _ [9] (by decide +kernel) (by decide +kernel)
set_option maxRecDepth 20000 in
theorem gX10_leaf_X10_in : GoodIn wsX10_leaf (va_wsS RX10 99 yX10_in wsX10_in) := goodIn_app (goodIn_of _ (by decide +kernel)) ggX10_leaf_X10_in
set_option maxRecDepth 20000 in
theorem ggX10_leaf_X10_tells : GoodIn wsX10_leaf wsX10_tells := goodIn_r _ [13, 14, 15, 16, 17, 18, 4, 19, 20, 21, 22, 23, 24, 25, 26, 27, 28, 29, 30, 31, 32, 33, 34, 35, 36, 37, 38, 39, 40, 41, 42, 43, 44, 45, 46, 47, 48, 49, 50, 51, 52, 53, 54, 55, 56, 57, 58, 59, 60] (by decide +kernel) (by decide +kernel)
set_option maxRecDepth 20000 in
theorem gX10_leaf_X10_tells : GoodIn wsX10_leaf (wsV RX10 179 RX10 yX10_tells wsX10_tells) := goodIn_app (goodIn_of _ (by decide +kernel)) ggX10_leaf_X10_tells
theorem dX10_leaf_0 : decode cX10_leaf 0 = .ok (.aload_n 0, 1) := by decide +kernel
theorem dX10_leaf_1 : decode cX10_leaf 1 = .ok (.iload_n 1, 1) := by decide +kernel
theorem dX10_leaf_2 : decode cX10_leaf 2 = .ok (.invokevirtual 176, 3) := by decide +kernel
theorem dX10_leaf_5 : decode cX10_leaf 5 = .ok (.ifCond .ne 5, 3) := by decide +kernel
theorem dX10_leaf_8 : decode cX10_leaf 8 = .ok (.iconst (-1), 1) := by decide +kernel
theorem dX10_leaf_9 : decode cX10_leaf 9 = .ok (.ireturn, 1) := by decide +kernel
theorem dX10_leaf_10 : decode cX10_leaf 10 = .ok (.iload_n 2, 1) := by decide +kernel
theorem dX10_leaf_11 : decode cX10_leaf 11 = .ok (.iconst 0, 1) := by decide +kernel
theorem dX10_leaf_12 : decode cX10_leaf 12 = .ok (.iconst 4, 1) := by decide +kernel
theorem dX10_leaf_13 : decode cX10_leaf 13 = .ok (.invokestatic 99, 3) := by decide +kernel
theorem dX10_leaf_16 : decode cX10_leaf 16 = .ok (.ifCond .eq 12, 3) := by decide +kernel
theorem dX10_leaf_19 : decode cX10_leaf 19 = .ok (.aload_n 0, 1) := by decide +kernel
theorem dX10_leaf_20 : decode cX10_leaf 20 = .ok (.iload_n 1, 1) := by decide +kernel
theorem dX10_leaf_21 : decode cX10_leaf 21 = .ok (.iload_n 2, 1) := by decide +kernel
theorem dX10_leaf_22 : decode cX10_leaf 22 = .ok (.invokevirtual 179, 3) := by decide +kernel
theorem dX10_leaf_25 : decode cX10_leaf 25 = .ok (.goto 5, 3) := by decide +kernel
theorem dX10_leaf_28 : decode cX10_leaf 28 = .ok (.bipush (-2), 2) := by decide +kernel
theorem dX10_leaf_30 : decode cX10_leaf 30 = .ok (.ireturn, 1) := by decide +kernel
set_option maxRecDepth 20000 in
theorem ggX10_leafAt_X10_isCell : GoodIn wsX10_leafAt wsX10_isCell := goodIn_r _ [7, 8, 9, 10, 6, 11, 12, 13, 14, 15, 16, 17, 18, 19, 20, 21, 22, 23, 24, 25, 26, 27, 28, 29, 30, 31, 32, 33, 34, 35, 36, 37, 38, 39, 40, 41, 42, 43, 44] (by decide +kernel) (by decide +kernel)
set_option maxRecDepth 20000 in
theorem gX10_leafAt_X10_isCell : GoodIn wsX10_leafAt (wsV RX10 115 RX10 yX10_isCell wsX10_isCell) := goodIn_app (goodIn_of _ (by decide +kernel)) ggX10_leafAt_X10_isCell
theorem dX10_leafAt_0 : decode cX10_leafAt 0 = .ok (.aload_n 0, 1) := by decide +kernel
theorem dX10_leafAt_1 : decode cX10_leafAt 1 = .ok (.iload_n 1, 1) := by decide +kernel
theorem dX10_leafAt_2 : decode cX10_leafAt 2 = .ok (.iload_n 2, 1) := by decide +kernel
theorem dX10_leafAt_3 : decode cX10_leafAt 3 = .ok (.invokevirtual 115, 3) := by decide +kernel
theorem dX10_leafAt_6 : decode cX10_leafAt 6 = .ok (.ifCond .eq 22, 3) := by decide +kernel
theorem dX10_leafAt_9 : decode cX10_leafAt 9 = .ok (.aload_n 0, 1) := by decide +kernel
theorem dX10_leafAt_10 : decode cX10_leafAt 10 = .ok (.getfield 69, 3) := by decide +kernel
theorem dX10_leafAt_13 : decode cX10_leafAt 13 = .ok (.aload_n 0, 1) := by decide +kernel
theorem dX10_leafAt_14 : decode cX10_leafAt 14 = .ok (.getfield 57, 3) := by decide +kernel
theorem dX10_leafAt_17 : decode cX10_leafAt 17 = .ok (.bipush 64, 2) := by decide +kernel
theorem dX10_leafAt_19 : decode cX10_leafAt 19 = .ok (.iload_n 2, 1) := by decide +kernel
theorem dX10_leafAt_20 : decode cX10_leafAt 20 = .ok (.imul, 1) := by decide +kernel
theorem dX10_leafAt_21 : decode cX10_leafAt 21 = .ok (.iload_n 1, 1) := by decide +kernel
theorem dX10_leafAt_22 : decode cX10_leafAt 22 = .ok (.iadd, 1) := by decide +kernel
theorem dX10_leafAt_23 : decode cX10_leafAt 23 = .ok (.iaload, 1) := by decide +kernel
theorem dX10_leafAt_24 : decode cX10_leafAt 24 = .ok (.iaload, 1) := by decide +kernel
theorem dX10_leafAt_25 : decode cX10_leafAt 25 = .ok (.goto 4, 3) := by decide +kernel
theorem dX10_leafAt_28 : decode cX10_leafAt 28 = .ok (.iconst (-1), 1) := by decide +kernel
theorem dX10_leafAt_29 : decode cX10_leafAt 29 = .ok (.ireturn, 1) := by decide +kernel
theorem dX10_comesBeside_0 : decode cX10_comesBeside 0 = .ok (.aload_n 0, 1) := by decide +kernel
theorem dX10_comesBeside_1 : decode cX10_comesBeside 1 = .ok (.getfield 182, 3) := by decide +kernel
theorem dX10_comesBeside_4 : decode cX10_comesBeside 4 = .ok (.istore_n 2, 1) := by decide +kernel
theorem dX10_comesBeside_5 : decode cX10_comesBeside 5 = .ok (.iconst 0, 1) := by decide +kernel
theorem dX10_comesBeside_6 : decode cX10_comesBeside 6 = .ok (.istore_n 3, 1) := by decide +kernel
theorem dX10_comesBeside_7 : decode cX10_comesBeside 7 = .ok (.iconst 0, 1) := by decide +kernel
theorem dX10_comesBeside_8 : decode cX10_comesBeside 8 = .ok (.istore 4, 2) := by decide +kernel
theorem dX10_comesBeside_10 : decode cX10_comesBeside 10 = .ok (.iload 4, 2) := by decide +kernel
theorem dX10_comesBeside_12 : decode cX10_comesBeside 12 = .ok (.aload_n 0, 1) := by decide +kernel
theorem dX10_comesBeside_13 : decode cX10_comesBeside 13 = .ok (.getfield 182, 3) := by decide +kernel
theorem dX10_comesBeside_16 : decode cX10_comesBeside 16 = .ok (.if_icmp .ge 30, 3) := by decide +kernel
theorem dX10_comesBeside_19 : decode cX10_comesBeside 19 = .ok (.iload_n 3, 1) := by decide +kernel
theorem dX10_comesBeside_20 : decode cX10_comesBeside 20 = .ok (.ifCond .ne 14, 3) := by decide +kernel
theorem dX10_comesBeside_23 : decode cX10_comesBeside 23 = .ok (.aload_n 0, 1) := by decide +kernel
theorem dX10_comesBeside_24 : decode cX10_comesBeside 24 = .ok (.getfield 72, 3) := by decide +kernel
theorem dX10_comesBeside_27 : decode cX10_comesBeside 27 = .ok (.iload 4, 2) := by decide +kernel
theorem dX10_comesBeside_29 : decode cX10_comesBeside 29 = .ok (.iaload, 1) := by decide +kernel
theorem dX10_comesBeside_30 : decode cX10_comesBeside 30 = .ok (.iload_n 1, 1) := by decide +kernel
theorem dX10_comesBeside_31 : decode cX10_comesBeside 31 = .ok (.if_icmp .ne 7, 3) := by decide +kernel
theorem dX10_comesBeside_34 : decode cX10_comesBeside 34 = .ok (.iconst 1, 1) := by decide +kernel
theorem dX10_comesBeside_35 : decode cX10_comesBeside 35 = .ok (.goto 4, 3) := by decide +kernel
theorem dX10_comesBeside_38 : decode cX10_comesBeside 38 = .ok (.iconst 0, 1) := by decide +kernel
theorem dX10_comesBeside_39 : decode cX10_comesBeside 39 = .ok (.istore_n 3, 1) := by decide +kernel
theorem dX10_comesBeside_40 : decode cX10_comesBeside 40 = .ok (.iinc 4 1, 3) := by decide +kernel
theorem dX10_comesBeside_43 : decode cX10_comesBeside 43 = .ok (.goto (-33), 3) := by decide +kernel
theorem dX10_comesBeside_46 : decode cX10_comesBeside 46 = .ok (.iload_n 3, 1) := by decide +kernel
theorem dX10_comesBeside_47 : decode cX10_comesBeside 47 = .ok (.ifCond .ne 39, 3) := by decide +kernel
theorem dX10_comesBeside_50 : decode cX10_comesBeside 50 = .ok (.iload_n 2, 1) := by decide +kernel
theorem dX10_comesBeside_51 : decode cX10_comesBeside 51 = .ok (.ifCond .le 35, 3) := by decide +kernel
theorem dX10_comesBeside_54 : decode cX10_comesBeside 54 = .ok (.aload_n 0, 1) := by decide +kernel
theorem dX10_comesBeside_55 : decode cX10_comesBeside 55 = .ok (.getfield 72, 3) := by decide +kernel
theorem dX10_comesBeside_58 : decode cX10_comesBeside 58 = .ok (.iload_n 2, 1) := by decide +kernel
theorem dX10_comesBeside_59 : decode cX10_comesBeside 59 = .ok (.iconst 1, 1) := by decide +kernel
theorem dX10_comesBeside_60 : decode cX10_comesBeside 60 = .ok (.isub, 1) := by decide +kernel
theorem dX10_comesBeside_61 : decode cX10_comesBeside 61 = .ok (.iaload, 1) := by decide +kernel
theorem dX10_comesBeside_62 : decode cX10_comesBeside 62 = .ok (.iload_n 1, 1) := by decide +kernel
theorem dX10_comesBeside_63 : decode cX10_comesBeside 63 = .ok (.if_icmp .le 23, 3) := by decide +kernel
theorem dX10_comesBeside_66 : decode cX10_comesBeside 66 = .ok (.aload_n 0, 1) := by decide +kernel
theorem dX10_comesBeside_67 : decode cX10_comesBeside 67 = .ok (.getfield 72, 3) := by decide +kernel
theorem dX10_comesBeside_70 : decode cX10_comesBeside 70 = .ok (.iload_n 2, 1) := by decide +kernel
theorem dX10_comesBeside_71 : decode cX10_comesBeside 71 = .ok (.aload_n 0, 1) := by decide +kernel
theorem dX10_comesBeside_72 : decode cX10_comesBeside 72 = .ok (.getfield 72, 3) := by decide +kernel
theorem dX10_comesBeside_75 : decode cX10_comesBeside 75 = .ok (.iload_n 2, 1) := by decide +kernel
theorem dX10_comesBeside_76 : decode cX10_comesBeside 76 = .ok (.iconst 1, 1) := by decide +kernel
theorem dX10_comesBeside_77 : decode cX10_comesBeside 77 = .ok (.isub, 1) := by decide +kernel
theorem dX10_comesBeside_78 : decode cX10_comesBeside 78 = .ok (.iaload, 1) := by decide +kernel
theorem dX10_comesBeside_79 : decode cX10_comesBeside 79 = .ok (.iastore, 1) := by decide +kernel
theorem dX10_comesBeside_80 : decode cX10_comesBeside 80 = .ok (.iinc 2 (-1), 3) := by decide +kernel
theorem dX10_comesBeside_83 : decode cX10_comesBeside 83 = .ok (.goto (-37), 3) := by decide +kernel
theorem dX10_comesBeside_86 : decode cX10_comesBeside 86 = .ok (.iload_n 3, 1) := by decide +kernel
theorem dX10_comesBeside_87 : decode cX10_comesBeside 87 = .ok (.ifCond .ne 20, 3) := by decide +kernel
theorem dX10_comesBeside_90 : decode cX10_comesBeside 90 = .ok (.aload_n 0, 1) := by decide +kernel
theorem dX10_comesBeside_91 : decode cX10_comesBeside 91 = .ok (.getfield 72, 3) := by decide +kernel
theorem dX10_comesBeside_94 : decode cX10_comesBeside 94 = .ok (.iload_n 2, 1) := by decide +kernel
theorem dX10_comesBeside_95 : decode cX10_comesBeside 95 = .ok (.iload_n 1, 1) := by decide +kernel
theorem dX10_comesBeside_96 : decode cX10_comesBeside 96 = .ok (.iastore, 1) := by decide +kernel
theorem dX10_comesBeside_97 : decode cX10_comesBeside 97 = .ok (.aload_n 0, 1) := by decide +kernel
theorem dX10_comesBeside_98 : decode cX10_comesBeside 98 = .ok (.dup, 1) := by decide +kernel
theorem dX10_comesBeside_99 : decode cX10_comesBeside 99 = .ok (.getfield 182, 3) := by decide +kernel
theorem dX10_comesBeside_102 : decode cX10_comesBeside 102 = .ok (.iconst 1, 1) := by decide +kernel
theorem dX10_comesBeside_103 : decode cX10_comesBeside 103 = .ok (.iadd, 1) := by decide +kernel
theorem dX10_comesBeside_104 : decode cX10_comesBeside 104 = .ok (.putfield 182, 3) := by decide +kernel
theorem dX10_comesBeside_107 : decode cX10_comesBeside 107 = .ok (.return_, 1) := by decide +kernel
set_option maxRecDepth 20000 in
theorem ggX10_findBeside_X10_leftOf : GoodIn wsX10_findBeside wsX10_leftOf := goodIn_r _ [9, 10, 11, 2, 33, 34, 35, 36, 37, 38, 39, 40, 41, 42, 43, 44, 45, 46, 47, 48, 49, 50, 51, 52, 53, 54, 55, 56, 57, 58, 59, 60, 61] (by decide +kernel) (by decide +kernel)
set_option maxRecDepth 20000 in
theorem gX10_findBeside_X10_leftOf : GoodIn wsX10_findBeside (wsV RX10 170 RX10 yX10_leftOf wsX10_leftOf) := goodIn_app (goodIn_of _ (by decide +kernel)) ggX10_findBeside_X10_leftOf
set_option maxRecDepth 20000 in
theorem ggX10_findBeside_X10_belowOf : GoodIn wsX10_findBeside wsX10_belowOf := goodIn_r _ [15, 10, 11, 2, 33, 34, 35, 36, 37, 38, 39, 40, 41, 42, 43, 44, 45, 46, 47, 48, 49, 50, 51, 52, 53, 54, 55, 56, 57, 58, 59, 60, 61] (by decide +kernel) (by decide +kernel)
set_option maxRecDepth 20000 in
theorem gX10_findBeside_X10_belowOf : GoodIn wsX10_findBeside (wsV RX10 173 RX10 yX10_belowOf wsX10_belowOf) := goodIn_app (goodIn_of _ (by decide +kernel)) ggX10_findBeside_X10_belowOf
set_option maxRecDepth 20000 in
theorem ggX10_findBeside_X10_isCell : GoodIn wsX10_findBeside wsX10_isCell := goodIn_r _ [19, 20, 21, 22, 8, 23, 24, 25, 26, 27, 33, 34, 35, 36, 37, 38, 39, 40, 41, 42, 43, 44, 45, 46, 47, 48, 49, 50, 51, 52, 53, 54, 55, 56, 57, 58, 59, 60, 61] (by decide +kernel) (by decide +kernel)
set_option maxRecDepth 20000 in
theorem gX10_findBeside_X10_isCell : GoodIn wsX10_findBeside (wsV RX10 115 RX10 yX10_isCell wsX10_isCell) := goodIn_app (goodIn_of _ (by decide +kernel)) ggX10_findBeside_X10_isCell
set_option maxRecDepth 20000 in
theorem ggX10_findBeside_X10_comesBeside : GoodIn wsX10_findBeside wsX10_comesBeside := goodIn_r _ [31, 1, 32, 33, 34, 35, 36, 37, 38, 39, 40, 41, 42, 43, 44, 45, 46, 47, 48, 49, 50, 51, 52, 53, 54, 55, 56, 57, 58, 59, 60, 61] (by decide +kernel) (by decide +kernel)
set_option maxRecDepth 20000 in
theorem gX10_findBeside_X10_comesBeside : GoodIn wsX10_findBeside (wsV RX10 185 RX10 yX10_comesBeside wsX10_comesBeside) := goodIn_app (goodIn_of _ (by decide +kernel)) ggX10_findBeside_X10_comesBeside
theorem dX10_findBeside_0 : decode cX10_findBeside 0 = .ok (.aload_n 0, 1) := by decide +kernel
theorem dX10_findBeside_1 : decode cX10_findBeside 1 = .ok (.iconst 0, 1) := by decide +kernel
theorem dX10_findBeside_2 : decode cX10_findBeside 2 = .ok (.putfield 182, 3) := by decide +kernel
theorem dX10_findBeside_5 : decode cX10_findBeside 5 = .ok (.iconst 1, 1) := by decide +kernel
theorem dX10_findBeside_6 : decode cX10_findBeside 6 = .ok (.aload_n 0, 1) := by decide +kernel
theorem dX10_findBeside_7 : decode cX10_findBeside 7 = .ok (.getfield 35, 3) := by decide +kernel
theorem dX10_findBeside_10 : decode cX10_findBeside 10 = .ok (.iload_n 1, 1) := by decide +kernel
theorem dX10_findBeside_11 : decode cX10_findBeside 11 = .ok (.iaload, 1) := by decide +kernel
theorem dX10_findBeside_12 : decode cX10_findBeside 12 = .ok (.ishl, 1) := by decide +kernel
theorem dX10_findBeside_13 : decode cX10_findBeside 13 = .ok (.istore_n 3, 1) := by decide +kernel
theorem dX10_findBeside_14 : decode cX10_findBeside 14 = .ok (.iload_n 2, 1) := by decide +kernel
theorem dX10_findBeside_15 : decode cX10_findBeside 15 = .ok (.ifCond .ne 13, 3) := by decide +kernel
theorem dX10_findBeside_18 : decode cX10_findBeside 18 = .ok (.aload_n 0, 1) := by decide +kernel
theorem dX10_findBeside_19 : decode cX10_findBeside 19 = .ok (.iload_n 1, 1) := by decide +kernel
theorem dX10_findBeside_20 : decode cX10_findBeside 20 = .ok (.invokevirtual 170, 3) := by decide +kernel
theorem dX10_findBeside_23 : decode cX10_findBeside 23 = .ok (.iconst 1, 1) := by decide +kernel
theorem dX10_findBeside_24 : decode cX10_findBeside 24 = .ok (.isub, 1) := by decide +kernel
theorem dX10_findBeside_25 : decode cX10_findBeside 25 = .ok (.goto 23, 3) := by decide +kernel
theorem dX10_findBeside_28 : decode cX10_findBeside 28 = .ok (.iload_n 2, 1) := by decide +kernel
theorem dX10_findBeside_29 : decode cX10_findBeside 29 = .ok (.iconst 1, 1) := by decide +kernel
theorem dX10_findBeside_30 : decode cX10_findBeside 30 = .ok (.if_icmp .ne 13, 3) := by decide +kernel
theorem dX10_findBeside_33 : decode cX10_findBeside 33 = .ok (.aload_n 0, 1) := by decide +kernel
theorem dX10_findBeside_34 : decode cX10_findBeside 34 = .ok (.iload_n 1, 1) := by decide +kernel
theorem dX10_findBeside_35 : decode cX10_findBeside 35 = .ok (.invokevirtual 170, 3) := by decide +kernel
theorem dX10_findBeside_38 : decode cX10_findBeside 38 = .ok (.iload_n 3, 1) := by decide +kernel
theorem dX10_findBeside_39 : decode cX10_findBeside 39 = .ok (.iadd, 1) := by decide +kernel
theorem dX10_findBeside_40 : decode cX10_findBeside 40 = .ok (.goto 8, 3) := by decide +kernel
theorem dX10_findBeside_43 : decode cX10_findBeside 43 = .ok (.aload_n 0, 1) := by decide +kernel
theorem dX10_findBeside_44 : decode cX10_findBeside 44 = .ok (.iload_n 1, 1) := by decide +kernel
theorem dX10_findBeside_45 : decode cX10_findBeside 45 = .ok (.invokevirtual 170, 3) := by decide +kernel
theorem dX10_findBeside_48 : decode cX10_findBeside 48 = .ok (.istore 4, 2) := by decide +kernel
theorem dX10_findBeside_50 : decode cX10_findBeside 50 = .ok (.iload_n 2, 1) := by decide +kernel
theorem dX10_findBeside_51 : decode cX10_findBeside 51 = .ok (.iconst 2, 1) := by decide +kernel
theorem dX10_findBeside_52 : decode cX10_findBeside 52 = .ok (.if_icmp .ne 13, 3) := by decide +kernel
theorem dX10_findBeside_55 : decode cX10_findBeside 55 = .ok (.aload_n 0, 1) := by decide +kernel
theorem dX10_findBeside_56 : decode cX10_findBeside 56 = .ok (.iload_n 1, 1) := by decide +kernel
theorem dX10_findBeside_57 : decode cX10_findBeside 57 = .ok (.invokevirtual 173, 3) := by decide +kernel
theorem dX10_findBeside_60 : decode cX10_findBeside 60 = .ok (.iconst 1, 1) := by decide +kernel
theorem dX10_findBeside_61 : decode cX10_findBeside 61 = .ok (.isub, 1) := by decide +kernel
theorem dX10_findBeside_62 : decode cX10_findBeside 62 = .ok (.goto 23, 3) := by decide +kernel
theorem dX10_findBeside_65 : decode cX10_findBeside 65 = .ok (.iload_n 2, 1) := by decide +kernel
theorem dX10_findBeside_66 : decode cX10_findBeside 66 = .ok (.iconst 3, 1) := by decide +kernel
theorem dX10_findBeside_67 : decode cX10_findBeside 67 = .ok (.if_icmp .ne 13, 3) := by decide +kernel
theorem dX10_findBeside_70 : decode cX10_findBeside 70 = .ok (.aload_n 0, 1) := by decide +kernel
theorem dX10_findBeside_71 : decode cX10_findBeside 71 = .ok (.iload_n 1, 1) := by decide +kernel
theorem dX10_findBeside_72 : decode cX10_findBeside 72 = .ok (.invokevirtual 173, 3) := by decide +kernel
theorem dX10_findBeside_75 : decode cX10_findBeside 75 = .ok (.iload_n 3, 1) := by decide +kernel
theorem dX10_findBeside_76 : decode cX10_findBeside 76 = .ok (.iadd, 1) := by decide +kernel
theorem dX10_findBeside_77 : decode cX10_findBeside 77 = .ok (.goto 8, 3) := by decide +kernel
theorem dX10_findBeside_80 : decode cX10_findBeside 80 = .ok (.aload_n 0, 1) := by decide +kernel
theorem dX10_findBeside_81 : decode cX10_findBeside 81 = .ok (.iload_n 1, 1) := by decide +kernel
theorem dX10_findBeside_82 : decode cX10_findBeside 82 = .ok (.invokevirtual 173, 3) := by decide +kernel
theorem dX10_findBeside_85 : decode cX10_findBeside 85 = .ok (.istore 5, 2) := by decide +kernel
theorem dX10_findBeside_87 : decode cX10_findBeside 87 = .ok (.iconst 0, 1) := by decide +kernel
theorem dX10_findBeside_88 : decode cX10_findBeside 88 = .ok (.istore 6, 2) := by decide +kernel
theorem dX10_findBeside_90 : decode cX10_findBeside 90 = .ok (.iload 6, 2) := by decide +kernel
theorem dX10_findBeside_92 : decode cX10_findBeside 92 = .ok (.iload_n 3, 1) := by decide +kernel
theorem dX10_findBeside_93 : decode cX10_findBeside 93 = .ok (.if_icmp .ge 76, 3) := by decide +kernel
theorem dX10_findBeside_96 : decode cX10_findBeside 96 = .ok (.iload_n 2, 1) := by decide +kernel
theorem dX10_findBeside_97 : decode cX10_findBeside 97 = .ok (.iconst 2, 1) := by decide +kernel
theorem dX10_findBeside_98 : decode cX10_findBeside 98 = .ok (.if_icmp .ge 8, 3) := by decide +kernel
theorem dX10_findBeside_101 : decode cX10_findBeside 101 = .ok (.iload 4, 2) := by decide +kernel
theorem dX10_findBeside_103 : decode cX10_findBeside 103 = .ok (.goto 8, 3) := by decide +kernel
theorem dX10_findBeside_106 : decode cX10_findBeside 106 = .ok (.iload 4, 2) := by decide +kernel
theorem dX10_findBeside_108 : decode cX10_findBeside 108 = .ok (.iload 6, 2) := by decide +kernel
theorem dX10_findBeside_110 : decode cX10_findBeside 110 = .ok (.iadd, 1) := by decide +kernel
theorem dX10_findBeside_111 : decode cX10_findBeside 111 = .ok (.istore 7, 2) := by decide +kernel
theorem dX10_findBeside_113 : decode cX10_findBeside 113 = .ok (.iload_n 2, 1) := by decide +kernel
theorem dX10_findBeside_114 : decode cX10_findBeside 114 = .ok (.iconst 2, 1) := by decide +kernel
theorem dX10_findBeside_115 : decode cX10_findBeside 115 = .ok (.if_icmp .ge 11, 3) := by decide +kernel
theorem dX10_findBeside_118 : decode cX10_findBeside 118 = .ok (.iload 5, 2) := by decide +kernel
theorem dX10_findBeside_120 : decode cX10_findBeside 120 = .ok (.iload 6, 2) := by decide +kernel
theorem dX10_findBeside_122 : decode cX10_findBeside 122 = .ok (.iadd, 1) := by decide +kernel
theorem dX10_findBeside_123 : decode cX10_findBeside 123 = .ok (.goto 5, 3) := by decide +kernel
theorem dX10_findBeside_126 : decode cX10_findBeside 126 = .ok (.iload 5, 2) := by decide +kernel
theorem dX10_findBeside_128 : decode cX10_findBeside 128 = .ok (.istore 8, 2) := by decide +kernel
theorem dX10_findBeside_130 : decode cX10_findBeside 130 = .ok (.aload_n 0, 1) := by decide +kernel
theorem dX10_findBeside_131 : decode cX10_findBeside 131 = .ok (.iload 7, 2) := by decide +kernel
theorem dX10_findBeside_133 : decode cX10_findBeside 133 = .ok (.iload 8, 2) := by decide +kernel
theorem dX10_findBeside_135 : decode cX10_findBeside 135 = .ok (.invokevirtual 115, 3) := by decide +kernel
theorem dX10_findBeside_138 : decode cX10_findBeside 138 = .ok (.ifCond .eq 25, 3) := by decide +kernel
theorem dX10_findBeside_141 : decode cX10_findBeside 141 = .ok (.aload_n 0, 1) := by decide +kernel
theorem dX10_findBeside_142 : decode cX10_findBeside 142 = .ok (.aload_n 0, 1) := by decide +kernel
theorem dX10_findBeside_143 : decode cX10_findBeside 143 = .ok (.getfield 69, 3) := by decide +kernel
theorem dX10_findBeside_146 : decode cX10_findBeside 146 = .ok (.aload_n 0, 1) := by decide +kernel
theorem dX10_findBeside_147 : decode cX10_findBeside 147 = .ok (.getfield 57, 3) := by decide +kernel
theorem dX10_findBeside_150 : decode cX10_findBeside 150 = .ok (.bipush 64, 2) := by decide +kernel
theorem dX10_findBeside_152 : decode cX10_findBeside 152 = .ok (.iload 8, 2) := by decide +kernel
theorem dX10_findBeside_154 : decode cX10_findBeside 154 = .ok (.imul, 1) := by decide +kernel
theorem dX10_findBeside_155 : decode cX10_findBeside 155 = .ok (.iload 7, 2) := by decide +kernel
theorem dX10_findBeside_157 : decode cX10_findBeside 157 = .ok (.iadd, 1) := by decide +kernel
theorem dX10_findBeside_158 : decode cX10_findBeside 158 = .ok (.iaload, 1) := by decide +kernel
theorem dX10_findBeside_159 : decode cX10_findBeside 159 = .ok (.iaload, 1) := by decide +kernel
theorem dX10_findBeside_160 : decode cX10_findBeside 160 = .ok (.invokevirtual 185, 3) := by decide +kernel
theorem dX10_findBeside_163 : decode cX10_findBeside 163 = .ok (.iinc 6 1, 3) := by decide +kernel
theorem dX10_findBeside_166 : decode cX10_findBeside 166 = .ok (.goto (-76), 3) := by decide +kernel
theorem dX10_findBeside_169 : decode cX10_findBeside 169 = .ok (.return_, 1) := by decide +kernel
set_option maxRecDepth 20000 in
theorem ggX10_neighbours_X10_isLeaf : GoodIn wsX10_neighbours wsX10_isLeaf := goodIn_r _ [6, 7, 8, 9, 5, 10, 42, 43, 44, 45, 46, 47, 48, 49, 50, 51, 52, 53, 54, 55, 56, 57, 58, 59, 60, 61, 62, 63, 64, 65, 66, 67, 68, 69, 70] (by decide +kernel) (by decide +kernel)
set_option maxRecDepth 20000 in
theorem gX10_neighbours_X10_isLeaf : GoodIn wsX10_neighbours (wsV RX10 176 RX10 yX10_isLeaf wsX10_isLeaf) := goodIn_app (goodIn_of _ (by decide +kernel)) ggX10_neighbours_X10_isLeaf
set_option maxRecDepth 20000 in
theorem ggX10_neighbours_X10_in : GoodIn wsX10_neighbours wsX10_in := goodIn_r _ [10] (by decide +kernel) (by decide +kernel)
set_option maxRecDepth 20000 in
theorem gX10_neighbours_X10_in : GoodIn wsX10_neighbours (va_wsS RX10 99 yX10_in wsX10_in) := goodIn_app (goodIn_of _ (by decide +kernel)) ggX10_neighbours_X10_in
set_option maxRecDepth 20000 in
theorem ggX10_neighbours_X10_findBeside : GoodIn wsX10_neighbours wsX10_findBeside := goodIn_r _ [14, 1, 15, 16, 17, 18, 19, 20, 5, 21, 22, 23, 24, 25, 26, 27, 28, 29, 30, 31, 32, 33, 34, 35, 36, 8, 9, 10, 37, 38, 39, 40, 41, 42, 43, 44, 45, 46, 47, 48, 49, 50, 51, 52, 53, 54, 55, 56, 57, 58, 59, 60, 61, 62, 63, 64, 65, 66, 67, 68, 69, 70] (by decide +kernel) (by decide +kernel)
set_option maxRecDepth 20000 in
theorem gX10_neighbours_X10_findBeside : GoodIn wsX10_neighbours (wsV RX10 189 RX10 yX10_findBeside wsX10_findBeside) := goodIn_app (goodIn_of _ (by decide +kernel)) ggX10_neighbours_X10_findBeside
theorem dX10_neighbours_0 : decode cX10_neighbours 0 = .ok (.aload_n 0, 1) := by decide +kernel
theorem dX10_neighbours_1 : decode cX10_neighbours 1 = .ok (.iload_n 1, 1) := by decide +kernel
theorem dX10_neighbours_2 : decode cX10_neighbours 2 = .ok (.invokevirtual 176, 3) := by decide +kernel
theorem dX10_neighbours_5 : decode cX10_neighbours 5 = .ok (.ifCond .eq 12, 3) := by decide +kernel
theorem dX10_neighbours_8 : decode cX10_neighbours 8 = .ok (.iload_n 2, 1) := by decide +kernel
theorem dX10_neighbours_9 : decode cX10_neighbours 9 = .ok (.iconst 0, 1) := by decide +kernel
theorem dX10_neighbours_10 : decode cX10_neighbours 10 = .ok (.iconst 3, 1) := by decide +kernel
theorem dX10_neighbours_11 : decode cX10_neighbours 11 = .ok (.invokestatic 99, 3) := by decide +kernel
theorem dX10_neighbours_14 : decode cX10_neighbours 14 = .ok (.ifCond .ne 5, 3) := by decide +kernel
theorem dX10_neighbours_17 : decode cX10_neighbours 17 = .ok (.iconst (-1), 1) := by decide +kernel
theorem dX10_neighbours_18 : decode cX10_neighbours 18 = .ok (.ireturn, 1) := by decide +kernel
theorem dX10_neighbours_19 : decode cX10_neighbours 19 = .ok (.aload_n 0, 1) := by decide +kernel
theorem dX10_neighbours_20 : decode cX10_neighbours 20 = .ok (.iload_n 1, 1) := by decide +kernel
theorem dX10_neighbours_21 : decode cX10_neighbours 21 = .ok (.iload_n 2, 1) := by decide +kernel
theorem dX10_neighbours_22 : decode cX10_neighbours 22 = .ok (.invokevirtual 189, 3) := by decide +kernel
theorem dX10_neighbours_25 : decode cX10_neighbours 25 = .ok (.aload_n 0, 1) := by decide +kernel
theorem dX10_neighbours_26 : decode cX10_neighbours 26 = .ok (.getfield 182, 3) := by decide +kernel
theorem dX10_neighbours_29 : decode cX10_neighbours 29 = .ok (.ireturn, 1) := by decide +kernel
set_option maxRecDepth 20000 in
theorem ggX10_neighbour_X10_isLeaf : GoodIn wsX10_neighbour wsX10_isLeaf := goodIn_r _ [7, 8, 9, 10, 6, 11, 42, 43, 44, 45, 46, 47, 48, 49, 50, 51, 52, 53, 54, 55, 56, 57, 58, 59, 60, 61, 62, 63, 64, 65, 66, 67, 68, 69, 70] (by decide +kernel) (by decide +kernel)
set_option maxRecDepth 20000 in
theorem gX10_neighbour_X10_isLeaf : GoodIn wsX10_neighbour (wsV RX10 176 RX10 yX10_isLeaf wsX10_isLeaf) := goodIn_app (goodIn_of _ (by decide +kernel)) ggX10_neighbour_X10_isLeaf
set_option maxRecDepth 20000 in
theorem ggX10_neighbour_X10_in : GoodIn wsX10_neighbour wsX10_in := goodIn_r _ [11] (by decide +kernel) (by decide +kernel)
set_option maxRecDepth 20000 in
theorem gX10_neighbour_X10_in : GoodIn wsX10_neighbour (va_wsS RX10 99 yX10_in wsX10_in) := goodIn_app (goodIn_of _ (by decide +kernel)) ggX10_neighbour_X10_in
set_option maxRecDepth 20000 in
theorem ggX10_neighbour_X10_findBeside : GoodIn wsX10_neighbour wsX10_findBeside := goodIn_r _ [15, 1, 16, 17, 18, 19, 20, 21, 6, 22, 23, 24, 25, 26, 27, 28, 29, 30, 31, 32, 33, 34, 35, 36, 37, 9, 10, 11, 38, 39, 40, 41, 2, 42, 43, 44, 45, 46, 47, 48, 49, 50, 51, 52, 53, 54, 55, 56, 57, 58, 59, 60, 61, 62, 63, 64, 65, 66, 67, 68, 69, 70] (by decide +kernel) (by decide +kernel)
set_option maxRecDepth 20000 in
theorem gX10_neighbour_X10_findBeside : GoodIn wsX10_neighbour (wsV RX10 189 RX10 yX10_findBeside wsX10_findBeside) := goodIn_app (goodIn_of _ (by decide +kernel)) ggX10_neighbour_X10_findBeside
theorem dX10_neighbour_0 : decode cX10_neighbour 0 = .ok (.aload_n 0, 1) := by decide +kernel
theorem dX10_neighbour_1 : decode cX10_neighbour 1 = .ok (.iload_n 1, 1) := by decide +kernel
theorem dX10_neighbour_2 : decode cX10_neighbour 2 = .ok (.invokevirtual 176, 3) := by decide +kernel
theorem dX10_neighbour_5 : decode cX10_neighbour 5 = .ok (.ifCond .eq 16, 3) := by decide +kernel
theorem dX10_neighbour_8 : decode cX10_neighbour 8 = .ok (.iload_n 2, 1) := by decide +kernel
theorem dX10_neighbour_9 : decode cX10_neighbour 9 = .ok (.iconst 0, 1) := by decide +kernel
theorem dX10_neighbour_10 : decode cX10_neighbour 10 = .ok (.iconst 3, 1) := by decide +kernel
theorem dX10_neighbour_11 : decode cX10_neighbour 11 = .ok (.invokestatic 99, 3) := by decide +kernel
theorem dX10_neighbour_14 : decode cX10_neighbour 14 = .ok (.ifCond .eq 7, 3) := by decide +kernel
theorem dX10_neighbour_17 : decode cX10_neighbour 17 = .ok (.iload_n 3, 1) := by decide +kernel
theorem dX10_neighbour_18 : decode cX10_neighbour 18 = .ok (.ifCond .ge 5, 3) := by decide +kernel
theorem dX10_neighbour_21 : decode cX10_neighbour 21 = .ok (.iconst (-1), 1) := by decide +kernel
theorem dX10_neighbour_22 : decode cX10_neighbour 22 = .ok (.ireturn, 1) := by decide +kernel
theorem dX10_neighbour_23 : decode cX10_neighbour 23 = .ok (.aload_n 0, 1) := by decide +kernel
theorem dX10_neighbour_24 : decode cX10_neighbour 24 = .ok (.iload_n 1, 1) := by decide +kernel
theorem dX10_neighbour_25 : decode cX10_neighbour 25 = .ok (.iload_n 2, 1) := by decide +kernel
theorem dX10_neighbour_26 : decode cX10_neighbour 26 = .ok (.invokevirtual 189, 3) := by decide +kernel
theorem dX10_neighbour_29 : decode cX10_neighbour 29 = .ok (.iload_n 3, 1) := by decide +kernel
theorem dX10_neighbour_30 : decode cX10_neighbour 30 = .ok (.aload_n 0, 1) := by decide +kernel
theorem dX10_neighbour_31 : decode cX10_neighbour 31 = .ok (.getfield 182, 3) := by decide +kernel
theorem dX10_neighbour_34 : decode cX10_neighbour 34 = .ok (.if_icmp .ge 12, 3) := by decide +kernel
theorem dX10_neighbour_37 : decode cX10_neighbour 37 = .ok (.aload_n 0, 1) := by decide +kernel
theorem dX10_neighbour_38 : decode cX10_neighbour 38 = .ok (.getfield 72, 3) := by decide +kernel
theorem dX10_neighbour_41 : decode cX10_neighbour 41 = .ok (.iload_n 3, 1) := by decide +kernel
theorem dX10_neighbour_42 : decode cX10_neighbour 42 = .ok (.iaload, 1) := by decide +kernel
theorem dX10_neighbour_43 : decode cX10_neighbour 43 = .ok (.goto 5, 3) := by decide +kernel
theorem dX10_neighbour_46 : decode cX10_neighbour 46 = .ok (.bipush (-5), 2) := by decide +kernel
theorem dX10_neighbour_48 : decode cX10_neighbour 48 = .ok (.ireturn, 1) := by decide +kernel
set_option maxRecDepth 20000 in
theorem ggX10_isUnlike_X10_findBeside : GoodIn wsX10_isUnlike wsX10_findBeside := goodIn_r _ [8, 2, 1, 9, 10, 11, 12, 13, 7, 14, 15, 16, 17, 18, 19, 20, 21, 22, 23, 24, 25, 26, 27, 28, 29, 30, 31, 32, 33, 34, 35, 36, 3, 37, 38, 39, 40, 41, 42, 43, 44, 45, 46, 47, 48, 49, 50, 51, 52, 53, 54, 55, 56, 57, 58, 59, 60, 61, 62, 63, 64, 65] (by decide +kernel) (by decide +kernel)
set_option maxRecDepth 20000 in
theorem gX10_isUnlike_X10_findBeside : GoodIn wsX10_isUnlike (wsV RX10 189 RX10 yX10_findBeside wsX10_findBeside) := goodIn_app (goodIn_of _ (by decide +kernel)) ggX10_isUnlike_X10_findBeside
theorem dX10_isUnlike_0 : decode cX10_isUnlike 0 = .ok (.iconst 0, 1) := by decide +kernel
theorem dX10_isUnlike_1 : decode cX10_isUnlike 1 = .ok (.istore_n 2, 1) := by decide +kernel
theorem dX10_isUnlike_2 : decode cX10_isUnlike 2 = .ok (.iconst 0, 1) := by decide +kernel
theorem dX10_isUnlike_3 : decode cX10_isUnlike 3 = .ok (.istore_n 3, 1) := by decide +kernel
theorem dX10_isUnlike_4 : decode cX10_isUnlike 4 = .ok (.iload_n 3, 1) := by decide +kernel
theorem dX10_isUnlike_5 : decode cX10_isUnlike 5 = .ok (.iconst 4, 1) := by decide +kernel
theorem dX10_isUnlike_6 : decode cX10_isUnlike 6 = .ok (.if_icmp .ge 76, 3) := by decide +kernel
theorem dX10_isUnlike_9 : decode cX10_isUnlike 9 = .ok (.aload_n 0, 1) := by decide +kernel
theorem dX10_isUnlike_10 : decode cX10_isUnlike 10 = .ok (.getfield 35, 3) := by decide +kernel
theorem dX10_isUnlike_13 : decode cX10_isUnlike 13 = .ok (.iload_n 1, 1) := by decide +kernel
theorem dX10_isUnlike_14 : decode cX10_isUnlike 14 = .ok (.iaload, 1) := by decide +kernel
theorem dX10_isUnlike_15 : decode cX10_isUnlike 15 = .ok (.iconst 1, 1) := by decide +kernel
theorem dX10_isUnlike_16 : decode cX10_isUnlike 16 = .ok (.if_icmp .le 66, 3) := by decide +kernel
theorem dX10_isUnlike_19 : decode cX10_isUnlike 19 = .ok (.aload_n 0, 1) := by decide +kernel
theorem dX10_isUnlike_20 : decode cX10_isUnlike 20 = .ok (.iload_n 1, 1) := by decide +kernel
theorem dX10_isUnlike_21 : decode cX10_isUnlike 21 = .ok (.iload_n 3, 1) := by decide +kernel
theorem dX10_isUnlike_22 : decode cX10_isUnlike 22 = .ok (.invokevirtual 189, 3) := by decide +kernel
theorem dX10_isUnlike_25 : decode cX10_isUnlike 25 = .ok (.iconst 0, 1) := by decide +kernel
theorem dX10_isUnlike_26 : decode cX10_isUnlike 26 = .ok (.istore 4, 2) := by decide +kernel
theorem dX10_isUnlike_28 : decode cX10_isUnlike 28 = .ok (.iload 4, 2) := by decide +kernel
theorem dX10_isUnlike_30 : decode cX10_isUnlike 30 = .ok (.aload_n 0, 1) := by decide +kernel
theorem dX10_isUnlike_31 : decode cX10_isUnlike 31 = .ok (.getfield 182, 3) := by decide +kernel
theorem dX10_isUnlike_34 : decode cX10_isUnlike 34 = .ok (.if_icmp .ge 42, 3) := by decide +kernel
theorem dX10_isUnlike_37 : decode cX10_isUnlike 37 = .ok (.iload_n 2, 1) := by decide +kernel
theorem dX10_isUnlike_38 : decode cX10_isUnlike 38 = .ok (.ifCond .ne 26, 3) := by decide +kernel
theorem dX10_isUnlike_41 : decode cX10_isUnlike 41 = .ok (.aload_n 0, 1) := by decide +kernel
theorem dX10_isUnlike_42 : decode cX10_isUnlike 42 = .ok (.getfield 35, 3) := by decide +kernel
theorem dX10_isUnlike_45 : decode cX10_isUnlike 45 = .ok (.aload_n 0, 1) := by decide +kernel
theorem dX10_isUnlike_46 : decode cX10_isUnlike 46 = .ok (.getfield 72, 3) := by decide +kernel
theorem dX10_isUnlike_49 : decode cX10_isUnlike 49 = .ok (.iload 4, 2) := by decide +kernel
theorem dX10_isUnlike_51 : decode cX10_isUnlike 51 = .ok (.iaload, 1) := by decide +kernel
theorem dX10_isUnlike_52 : decode cX10_isUnlike 52 = .ok (.iaload, 1) := by decide +kernel
theorem dX10_isUnlike_53 : decode cX10_isUnlike 53 = .ok (.aload_n 0, 1) := by decide +kernel
theorem dX10_isUnlike_54 : decode cX10_isUnlike 54 = .ok (.getfield 35, 3) := by decide +kernel
theorem dX10_isUnlike_57 : decode cX10_isUnlike 57 = .ok (.iload_n 1, 1) := by decide +kernel
theorem dX10_isUnlike_58 : decode cX10_isUnlike 58 = .ok (.iaload, 1) := by decide +kernel
theorem dX10_isUnlike_59 : decode cX10_isUnlike 59 = .ok (.iconst 1, 1) := by decide +kernel
theorem dX10_isUnlike_60 : decode cX10_isUnlike 60 = .ok (.isub, 1) := by decide +kernel
theorem dX10_isUnlike_61 : decode cX10_isUnlike 61 = .ok (.if_icmp .ge 7, 3) := by decide +kernel
theorem dX10_isUnlike_64 : decode cX10_isUnlike 64 = .ok (.iconst 1, 1) := by decide +kernel
theorem dX10_isUnlike_65 : decode cX10_isUnlike 65 = .ok (.goto 4, 3) := by decide +kernel
theorem dX10_isUnlike_68 : decode cX10_isUnlike 68 = .ok (.iconst 0, 1) := by decide +kernel
theorem dX10_isUnlike_69 : decode cX10_isUnlike 69 = .ok (.istore_n 2, 1) := by decide +kernel
theorem dX10_isUnlike_70 : decode cX10_isUnlike 70 = .ok (.iinc 4 1, 3) := by decide +kernel
theorem dX10_isUnlike_73 : decode cX10_isUnlike 73 = .ok (.goto (-45), 3) := by decide +kernel
theorem dX10_isUnlike_76 : decode cX10_isUnlike 76 = .ok (.iinc 3 1, 3) := by decide +kernel
theorem dX10_isUnlike_79 : decode cX10_isUnlike 79 = .ok (.goto (-75), 3) := by decide +kernel
theorem dX10_isUnlike_82 : decode cX10_isUnlike 82 = .ok (.iload_n 2, 1) := by decide +kernel
theorem dX10_isUnlike_83 : decode cX10_isUnlike 83 = .ok (.ireturn, 1) := by decide +kernel
set_option maxRecDepth 20000 in
theorem ggX10_quarters_X10_maps : GoodIn wsX10_quarters wsX10_maps := goodIn_r _ [8, 1, 2, 3, 9, 10, 11, 12, 13, 14, 15, 16, 17, 18, 19, 20, 21, 22, 23, 24, 25, 26, 27, 28, 29, 30, 31, 32, 33, 34, 35, 36, 37, 38] (by decide +kernel) (by decide +kernel)
set_option maxRecDepth 20000 in
theorem gX10_quarters_X10_maps : GoodIn wsX10_quarters (wsV RX10 167 RX10 yX10_maps wsX10_maps) := goodIn_app (goodIn_of _ (by decide +kernel)) ggX10_quarters_X10_maps
theorem dX10_quarters_0 : decode cX10_quarters 0 = .ok (.aload_n 0, 1) := by decide +kernel
theorem dX10_quarters_1 : decode cX10_quarters 1 = .ok (.getfield 161, 3) := by decide +kernel
theorem dX10_quarters_4 : decode cX10_quarters 4 = .ok (.iconst 1, 1) := by decide +kernel
theorem dX10_quarters_5 : decode cX10_quarters 5 = .ok (.isub, 1) := by decide +kernel
theorem dX10_quarters_6 : decode cX10_quarters 6 = .ok (.istore_n 2, 1) := by decide +kernel
theorem dX10_quarters_7 : decode cX10_quarters 7 = .ok (.iload_n 2, 1) := by decide +kernel
theorem dX10_quarters_8 : decode cX10_quarters 8 = .ok (.iload_n 1, 1) := by decide +kernel
theorem dX10_quarters_9 : decode cX10_quarters 9 = .ok (.if_icmp .le 37, 3) := by decide +kernel
theorem dX10_quarters_12 : decode cX10_quarters 12 = .ok (.aload_n 0, 1) := by decide +kernel
theorem dX10_quarters_13 : decode cX10_quarters 13 = .ok (.getfield 32, 3) := by decide +kernel
theorem dX10_quarters_16 : decode cX10_quarters 16 = .ok (.iload_n 2, 1) := by decide +kernel
theorem dX10_quarters_17 : decode cX10_quarters 17 = .ok (.iconst 3, 1) := by decide +kernel
theorem dX10_quarters_18 : decode cX10_quarters 18 = .ok (.iadd, 1) := by decide +kernel
theorem dX10_quarters_19 : decode cX10_quarters 19 = .ok (.aload_n 0, 1) := by decide +kernel
theorem dX10_quarters_20 : decode cX10_quarters 20 = .ok (.getfield 32, 3) := by decide +kernel
theorem dX10_quarters_23 : decode cX10_quarters 23 = .ok (.iload_n 2, 1) := by decide +kernel
theorem dX10_quarters_24 : decode cX10_quarters 24 = .ok (.iaload, 1) := by decide +kernel
theorem dX10_quarters_25 : decode cX10_quarters 25 = .ok (.iastore, 1) := by decide +kernel
theorem dX10_quarters_26 : decode cX10_quarters 26 = .ok (.aload_n 0, 1) := by decide +kernel
theorem dX10_quarters_27 : decode cX10_quarters 27 = .ok (.getfield 35, 3) := by decide +kernel
theorem dX10_quarters_30 : decode cX10_quarters 30 = .ok (.iload_n 2, 1) := by decide +kernel
theorem dX10_quarters_31 : decode cX10_quarters 31 = .ok (.iconst 3, 1) := by decide +kernel
theorem dX10_quarters_32 : decode cX10_quarters 32 = .ok (.iadd, 1) := by decide +kernel
theorem dX10_quarters_33 : decode cX10_quarters 33 = .ok (.aload_n 0, 1) := by decide +kernel
theorem dX10_quarters_34 : decode cX10_quarters 34 = .ok (.getfield 35, 3) := by decide +kernel
theorem dX10_quarters_37 : decode cX10_quarters 37 = .ok (.iload_n 2, 1) := by decide +kernel
theorem dX10_quarters_38 : decode cX10_quarters 38 = .ok (.iaload, 1) := by decide +kernel
theorem dX10_quarters_39 : decode cX10_quarters 39 = .ok (.iastore, 1) := by decide +kernel
theorem dX10_quarters_40 : decode cX10_quarters 40 = .ok (.iinc 2 (-1), 3) := by decide +kernel
theorem dX10_quarters_43 : decode cX10_quarters 43 = .ok (.goto (-36), 3) := by decide +kernel
theorem dX10_quarters_46 : decode cX10_quarters 46 = .ok (.aload_n 0, 1) := by decide +kernel
theorem dX10_quarters_47 : decode cX10_quarters 47 = .ok (.getfield 35, 3) := by decide +kernel
theorem dX10_quarters_50 : decode cX10_quarters 50 = .ok (.iload_n 1, 1) := by decide +kernel
theorem dX10_quarters_51 : decode cX10_quarters 51 = .ok (.iaload, 1) := by decide +kernel
theorem dX10_quarters_52 : decode cX10_quarters 52 = .ok (.iconst 1, 1) := by decide +kernel
theorem dX10_quarters_53 : decode cX10_quarters 53 = .ok (.isub, 1) := by decide +kernel
theorem dX10_quarters_54 : decode cX10_quarters 54 = .ok (.istore_n 2, 1) := by decide +kernel
theorem dX10_quarters_55 : decode cX10_quarters 55 = .ok (.iconst 3, 1) := by decide +kernel
theorem dX10_quarters_56 : decode cX10_quarters 56 = .ok (.istore_n 3, 1) := by decide +kernel
theorem dX10_quarters_57 : decode cX10_quarters 57 = .ok (.iload_n 3, 1) := by decide +kernel
theorem dX10_quarters_58 : decode cX10_quarters 58 = .ok (.ifCond .lt 38, 3) := by decide +kernel
theorem dX10_quarters_61 : decode cX10_quarters 61 = .ok (.aload_n 0, 1) := by decide +kernel
theorem dX10_quarters_62 : decode cX10_quarters 62 = .ok (.getfield 32, 3) := by decide +kernel
theorem dX10_quarters_65 : decode cX10_quarters 65 = .ok (.iload_n 1, 1) := by decide +kernel
theorem dX10_quarters_66 : decode cX10_quarters 66 = .ok (.iload_n 3, 1) := by decide +kernel
theorem dX10_quarters_67 : decode cX10_quarters 67 = .ok (.iadd, 1) := by decide +kernel
theorem dX10_quarters_68 : decode cX10_quarters 68 = .ok (.aload_n 0, 1) := by decide +kernel
theorem dX10_quarters_69 : decode cX10_quarters 69 = .ok (.getfield 32, 3) := by decide +kernel
theorem dX10_quarters_72 : decode cX10_quarters 72 = .ok (.iload_n 1, 1) := by decide +kernel
theorem dX10_quarters_73 : decode cX10_quarters 73 = .ok (.iaload, 1) := by decide +kernel
theorem dX10_quarters_74 : decode cX10_quarters 74 = .ok (.iload_n 3, 1) := by decide +kernel
theorem dX10_quarters_75 : decode cX10_quarters 75 = .ok (.iconst 2, 1) := by decide +kernel
theorem dX10_quarters_76 : decode cX10_quarters 76 = .ok (.iload_n 2, 1) := by decide +kernel
theorem dX10_quarters_77 : decode cX10_quarters 77 = .ok (.imul, 1) := by decide +kernel
theorem dX10_quarters_78 : decode cX10_quarters 78 = .ok (.ishl, 1) := by decide +kernel
theorem dX10_quarters_79 : decode cX10_quarters 79 = .ok (.iadd, 1) := by decide +kernel
theorem dX10_quarters_80 : decode cX10_quarters 80 = .ok (.iastore, 1) := by decide +kernel
theorem dX10_quarters_81 : decode cX10_quarters 81 = .ok (.aload_n 0, 1) := by decide +kernel
theorem dX10_quarters_82 : decode cX10_quarters 82 = .ok (.getfield 35, 3) := by decide +kernel
theorem dX10_quarters_85 : decode cX10_quarters 85 = .ok (.iload_n 1, 1) := by decide +kernel
theorem dX10_quarters_86 : decode cX10_quarters 86 = .ok (.iload_n 3, 1) := by decide +kernel
theorem dX10_quarters_87 : decode cX10_quarters 87 = .ok (.iadd, 1) := by decide +kernel
theorem dX10_quarters_88 : decode cX10_quarters 88 = .ok (.iload_n 2, 1) := by decide +kernel
theorem dX10_quarters_89 : decode cX10_quarters 89 = .ok (.iastore, 1) := by decide +kernel
theorem dX10_quarters_90 : decode cX10_quarters 90 = .ok (.iinc 3 (-1), 3) := by decide +kernel
theorem dX10_quarters_93 : decode cX10_quarters 93 = .ok (.goto (-36), 3) := by decide +kernel
theorem dX10_quarters_96 : decode cX10_quarters 96 = .ok (.aload_n 0, 1) := by decide +kernel
theorem dX10_quarters_97 : decode cX10_quarters 97 = .ok (.dup, 1) := by decide +kernel
theorem dX10_quarters_98 : decode cX10_quarters 98 = .ok (.getfield 161, 3) := by decide +kernel
theorem dX10_quarters_101 : decode cX10_quarters 101 = .ok (.iconst 3, 1) := by decide +kernel
theorem dX10_quarters_102 : decode cX10_quarters 102 = .ok (.iadd, 1) := by decide +kernel
theorem dX10_quarters_103 : decode cX10_quarters 103 = .ok (.putfield 161, 3) := by decide +kernel
theorem dX10_quarters_106 : decode cX10_quarters 106 = .ok (.aload_n 0, 1) := by decide +kernel
theorem dX10_quarters_107 : decode cX10_quarters 107 = .ok (.invokevirtual 167, 3) := by decide +kernel
theorem dX10_quarters_110 : decode cX10_quarters 110 = .ok (.return_, 1) := by decide +kernel
set_option maxRecDepth 20000 in
theorem ggX10_balance_X10_isUnlike : GoodIn wsX10_balance wsX10_isUnlike := goodIn_r _ [6, 7, 8, 9, 10, 11, 12, 5, 13, 14, 15, 16, 17, 18, 19, 20, 21, 22, 23, 24, 25, 26, 27, 28, 29, 30, 31, 32, 33, 34, 35, 36, 37, 38, 39, 40, 41, 50, 51, 52, 53, 54, 55, 56, 57, 58, 59, 60, 61, 62, 63, 64, 65, 66, 67, 68, 69, 70, 71, 72, 73, 74, 75, 76, 77, 78] (by decide +kernel) (by decide +kernel)
set_option maxRecDepth 20000 in
theorem gX10_balance_X10_isUnlike : GoodIn wsX10_balance (wsV RX10 193 RX10 yX10_isUnlike wsX10_isUnlike) := goodIn_app (goodIn_of _ (by decide +kernel)) ggX10_balance_X10_isUnlike
set_option maxRecDepth 20000 in
theorem ggX10_balance_X10_quarters : GoodIn wsX10_balance wsX10_quarters := goodIn_r _ [45, 1, 21, 7, 46, 47, 48, 5, 49, 14, 50, 51, 52, 53, 54, 55, 56, 57, 58, 59, 60, 61, 62, 63, 64, 65, 66, 67, 68, 69, 70, 71, 72, 73, 74, 75, 76, 77, 78] (by decide +kernel) (by decide +kernel)
set_option maxRecDepth 20000 in
theorem gX10_balance_X10_quarters : GoodIn wsX10_balance (wsV RX10 196 RX10 yX10_quarters wsX10_quarters) := goodIn_app (goodIn_of _ (by decide +kernel)) ggX10_balance_X10_quarters
theorem dX10_balance_0 : decode cX10_balance 0 = .ok (.iconst 0, 1) := by decide +kernel
theorem dX10_balance_1 : decode cX10_balance 1 = .ok (.istore_n 1, 1) := by decide +kernel
theorem dX10_balance_2 : decode cX10_balance 2 = .ok (.iconst 0, 1) := by decide +kernel
theorem dX10_balance_3 : decode cX10_balance 3 = .ok (.istore_n 2, 1) := by decide +kernel
theorem dX10_balance_4 : decode cX10_balance 4 = .ok (.iload_n 2, 1) := by decide +kernel
theorem dX10_balance_5 : decode cX10_balance 5 = .ok (.aload_n 0, 1) := by decide +kernel
theorem dX10_balance_6 : decode cX10_balance 6 = .ok (.getfield 161, 3) := by decide +kernel
theorem dX10_balance_9 : decode cX10_balance 9 = .ok (.if_icmp .ge 30, 3) := by decide +kernel
theorem dX10_balance_12 : decode cX10_balance 12 = .ok (.aload_n 0, 1) := by decide +kernel
theorem dX10_balance_13 : decode cX10_balance 13 = .ok (.iload_n 2, 1) := by decide +kernel
theorem dX10_balance_14 : decode cX10_balance 14 = .ok (.invokevirtual 193, 3) := by decide +kernel
theorem dX10_balance_17 : decode cX10_balance 17 = .ok (.ifCond .eq 16, 3) := by decide +kernel
theorem dX10_balance_20 : decode cX10_balance 20 = .ok (.aload_n 0, 1) := by decide +kernel
theorem dX10_balance_21 : decode cX10_balance 21 = .ok (.iload_n 2, 1) := by decide +kernel
theorem dX10_balance_22 : decode cX10_balance 22 = .ok (.invokevirtual 196, 3) := by decide +kernel
theorem dX10_balance_25 : decode cX10_balance 25 = .ok (.iinc 1 1, 3) := by decide +kernel
theorem dX10_balance_28 : decode cX10_balance 28 = .ok (.iconst 0, 1) := by decide +kernel
theorem dX10_balance_29 : decode cX10_balance 29 = .ok (.istore_n 2, 1) := by decide +kernel
theorem dX10_balance_30 : decode cX10_balance 30 = .ok (.goto (-26), 3) := by decide +kernel
theorem dX10_balance_33 : decode cX10_balance 33 = .ok (.iinc 2 1, 3) := by decide +kernel
theorem dX10_balance_36 : decode cX10_balance 36 = .ok (.goto (-32), 3) := by decide +kernel
theorem dX10_balance_39 : decode cX10_balance 39 = .ok (.iload_n 1, 1) := by decide +kernel
theorem dX10_balance_40 : decode cX10_balance 40 = .ok (.ireturn, 1) := by decide +kernel
set_option maxRecDepth 20000 in
theorem ggX10_walk_X10_isLeaf : GoodIn wsX10_walk wsX10_isLeaf := goodIn_r _ [7, 8, 9, 10, 6, 11, 42, 43, 44, 45, 46, 47, 48, 49, 50, 51, 52, 53, 54, 55, 56, 57, 58, 59, 60, 61, 62, 63, 64, 65, 66, 67, 68, 69, 70] (by decide +kernel) (by decide +kernel)
set_option maxRecDepth 20000 in
theorem gX10_walk_X10_isLeaf : GoodIn wsX10_walk (wsV RX10 176 RX10 yX10_isLeaf wsX10_isLeaf) := goodIn_app (goodIn_of _ (by decide +kernel)) ggX10_walk_X10_isLeaf
set_option maxRecDepth 20000 in
theorem ggX10_walk_X10_in : GoodIn wsX10_walk wsX10_in := goodIn_r _ [11] (by decide +kernel) (by decide +kernel)
set_option maxRecDepth 20000 in
theorem gX10_walk_X10_in : GoodIn wsX10_walk (va_wsS RX10 99 yX10_in wsX10_in) := goodIn_app (goodIn_of _ (by decide +kernel)) ggX10_walk_X10_in
set_option maxRecDepth 20000 in
theorem ggX10_walk_X10_findBeside : GoodIn wsX10_walk wsX10_findBeside := goodIn_r _ [15, 1, 16, 17, 18, 19, 20, 21, 6, 22, 23, 24, 25, 26, 27, 28, 29, 30, 31, 32, 33, 34, 35, 36, 37, 9, 10, 11, 38, 39, 40, 41, 2, 42, 43, 44, 45, 46, 47, 48, 49, 50, 51, 52, 53, 54, 55, 56, 57, 58, 59, 60, 61, 62, 63, 64, 65, 66, 67, 68, 69, 70] (by decide +kernel) (by decide +kernel)
set_option maxRecDepth 20000 in
theorem gX10_walk_X10_findBeside : GoodIn wsX10_walk (wsV RX10 189 RX10 yX10_findBeside wsX10_findBeside) := goodIn_app (goodIn_of _ (by decide +kernel)) ggX10_walk_X10_findBeside
theorem dX10_walk_0 : decode cX10_walk 0 = .ok (.aload_n 0, 1) := by decide +kernel
theorem dX10_walk_1 : decode cX10_walk 1 = .ok (.iload_n 1, 1) := by decide +kernel
theorem dX10_walk_2 : decode cX10_walk 2 = .ok (.invokevirtual 176, 3) := by decide +kernel
theorem dX10_walk_5 : decode cX10_walk 5 = .ok (.ifCond .eq 12, 3) := by decide +kernel
theorem dX10_walk_8 : decode cX10_walk 8 = .ok (.iload_n 2, 1) := by decide +kernel
theorem dX10_walk_9 : decode cX10_walk 9 = .ok (.iconst 0, 1) := by decide +kernel
theorem dX10_walk_10 : decode cX10_walk 10 = .ok (.iconst 3, 1) := by decide +kernel
theorem dX10_walk_11 : decode cX10_walk 11 = .ok (.invokestatic 99, 3) := by decide +kernel
theorem dX10_walk_14 : decode cX10_walk 14 = .ok (.ifCond .ne 5, 3) := by decide +kernel
theorem dX10_walk_17 : decode cX10_walk 17 = .ok (.iconst (-1), 1) := by decide +kernel
theorem dX10_walk_18 : decode cX10_walk 18 = .ok (.ireturn, 1) := by decide +kernel
theorem dX10_walk_19 : decode cX10_walk 19 = .ok (.iconst 0, 1) := by decide +kernel
theorem dX10_walk_20 : decode cX10_walk 20 = .ok (.istore_n 3, 1) := by decide +kernel
theorem dX10_walk_21 : decode cX10_walk 21 = .ok (.aload_n 0, 1) := by decide +kernel
theorem dX10_walk_22 : decode cX10_walk 22 = .ok (.iload_n 1, 1) := by decide +kernel
theorem dX10_walk_23 : decode cX10_walk 23 = .ok (.iload_n 2, 1) := by decide +kernel
theorem dX10_walk_24 : decode cX10_walk 24 = .ok (.invokevirtual 189, 3) := by decide +kernel
theorem dX10_walk_27 : decode cX10_walk 27 = .ok (.aload_n 0, 1) := by decide +kernel
theorem dX10_walk_28 : decode cX10_walk 28 = .ok (.getfield 182, 3) := by decide +kernel
theorem dX10_walk_31 : decode cX10_walk 31 = .ok (.ifCond .le 20, 3) := by decide +kernel
theorem dX10_walk_34 : decode cX10_walk 34 = .ok (.iinc 3 1, 3) := by decide +kernel
theorem dX10_walk_37 : decode cX10_walk 37 = .ok (.aload_n 0, 1) := by decide +kernel
theorem dX10_walk_38 : decode cX10_walk 38 = .ok (.aload_n 0, 1) := by decide +kernel
theorem dX10_walk_39 : decode cX10_walk 39 = .ok (.getfield 72, 3) := by decide +kernel
theorem dX10_walk_42 : decode cX10_walk 42 = .ok (.iconst 0, 1) := by decide +kernel
theorem dX10_walk_43 : decode cX10_walk 43 = .ok (.iaload, 1) := by decide +kernel
theorem dX10_walk_44 : decode cX10_walk 44 = .ok (.iload_n 2, 1) := by decide +kernel
theorem dX10_walk_45 : decode cX10_walk 45 = .ok (.invokevirtual 189, 3) := by decide +kernel
theorem dX10_walk_48 : decode cX10_walk 48 = .ok (.goto (-21), 3) := by decide +kernel
theorem dX10_walk_51 : decode cX10_walk 51 = .ok (.iload_n 3, 1) := by decide +kernel
theorem dX10_walk_52 : decode cX10_walk 52 = .ok (.ireturn, 1) := by decide +kernel
set_option maxRecDepth 20000 in
theorem ggX10_walked_X10_isLeaf : GoodIn wsX10_walked wsX10_isLeaf := goodIn_r _ [7, 8, 9, 10, 6, 11, 42, 43, 44, 45, 46, 47, 48, 49, 50, 51, 52, 53, 54, 55, 56, 57, 58, 59, 60, 61, 62, 63, 64, 65, 66, 67, 68, 69, 70] (by decide +kernel) (by decide +kernel)
set_option maxRecDepth 20000 in
theorem gX10_walked_X10_isLeaf : GoodIn wsX10_walked (wsV RX10 176 RX10 yX10_isLeaf wsX10_isLeaf) := goodIn_app (goodIn_of _ (by decide +kernel)) ggX10_walked_X10_isLeaf
set_option maxRecDepth 20000 in
theorem ggX10_walked_X10_in : GoodIn wsX10_walked wsX10_in := goodIn_r _ [11] (by decide +kernel) (by decide +kernel)
set_option maxRecDepth 20000 in
theorem gX10_walked_X10_in : GoodIn wsX10_walked (va_wsS RX10 99 yX10_in wsX10_in) := goodIn_app (goodIn_of _ (by decide +kernel)) ggX10_walked_X10_in
set_option maxRecDepth 20000 in
theorem ggX10_walked_X10_findBeside : GoodIn wsX10_walked wsX10_findBeside := goodIn_r _ [15, 1, 16, 17, 18, 19, 20, 21, 6, 22, 23, 24, 25, 26, 27, 28, 29, 30, 31, 32, 33, 34, 35, 36, 37, 9, 10, 11, 38, 39, 40, 41, 2, 42, 43, 44, 45, 46, 47, 48, 49, 50, 51, 52, 53, 54, 55, 56, 57, 58, 59, 60, 61, 62, 63, 64, 65, 66, 67, 68, 69, 70] (by decide +kernel) (by decide +kernel)
set_option maxRecDepth 20000 in
theorem gX10_walked_X10_findBeside : GoodIn wsX10_walked (wsV RX10 189 RX10 yX10_findBeside wsX10_findBeside) := goodIn_app (goodIn_of _ (by decide +kernel)) ggX10_walked_X10_findBeside
theorem dX10_walked_0 : decode cX10_walked 0 = .ok (.aload_n 0, 1) := by decide +kernel
theorem dX10_walked_1 : decode cX10_walked 1 = .ok (.iload_n 1, 1) := by decide +kernel
theorem dX10_walked_2 : decode cX10_walked 2 = .ok (.invokevirtual 176, 3) := by decide +kernel
theorem dX10_walked_5 : decode cX10_walked 5 = .ok (.ifCond .eq 16, 3) := by decide +kernel
theorem dX10_walked_8 : decode cX10_walked 8 = .ok (.iload_n 2, 1) := by decide +kernel
theorem dX10_walked_9 : decode cX10_walked 9 = .ok (.iconst 0, 1) := by decide +kernel
theorem dX10_walked_10 : decode cX10_walked 10 = .ok (.iconst 3, 1) := by decide +kernel
theorem dX10_walked_11 : decode cX10_walked 11 = .ok (.invokestatic 99, 3) := by decide +kernel
theorem dX10_walked_14 : decode cX10_walked 14 = .ok (.ifCond .eq 7, 3) := by decide +kernel
theorem dX10_walked_17 : decode cX10_walked 17 = .ok (.iload_n 3, 1) := by decide +kernel
theorem dX10_walked_18 : decode cX10_walked 18 = .ok (.ifCond .ge 5, 3) := by decide +kernel
theorem dX10_walked_21 : decode cX10_walked 21 = .ok (.iconst (-1), 1) := by decide +kernel
theorem dX10_walked_22 : decode cX10_walked 22 = .ok (.ireturn, 1) := by decide +kernel
theorem dX10_walked_23 : decode cX10_walked 23 = .ok (.iload_n 1, 1) := by decide +kernel
theorem dX10_walked_24 : decode cX10_walked 24 = .ok (.istore 4, 2) := by decide +kernel
theorem dX10_walked_26 : decode cX10_walked 26 = .ok (.iconst 0, 1) := by decide +kernel
theorem dX10_walked_27 : decode cX10_walked 27 = .ok (.istore 5, 2) := by decide +kernel
theorem dX10_walked_29 : decode cX10_walked 29 = .ok (.iload 5, 2) := by decide +kernel
theorem dX10_walked_31 : decode cX10_walked 31 = .ok (.iload_n 3, 1) := by decide +kernel
theorem dX10_walked_32 : decode cX10_walked 32 = .ok (.if_icmp .ge 34, 3) := by decide +kernel
theorem dX10_walked_35 : decode cX10_walked 35 = .ok (.aload_n 0, 1) := by decide +kernel
theorem dX10_walked_36 : decode cX10_walked 36 = .ok (.iload 4, 2) := by decide +kernel
theorem dX10_walked_38 : decode cX10_walked 38 = .ok (.iload_n 2, 1) := by decide +kernel
theorem dX10_walked_39 : decode cX10_walked 39 = .ok (.invokevirtual 189, 3) := by decide +kernel
theorem dX10_walked_42 : decode cX10_walked 42 = .ok (.aload_n 0, 1) := by decide +kernel
theorem dX10_walked_43 : decode cX10_walked 43 = .ok (.getfield 182, 3) := by decide +kernel
theorem dX10_walked_46 : decode cX10_walked 46 = .ok (.ifCond .ne 6, 3) := by decide +kernel
theorem dX10_walked_49 : decode cX10_walked 49 = .ok (.bipush (-5), 2) := by decide +kernel
theorem dX10_walked_51 : decode cX10_walked 51 = .ok (.ireturn, 1) := by decide +kernel
theorem dX10_walked_52 : decode cX10_walked 52 = .ok (.aload_n 0, 1) := by decide +kernel
theorem dX10_walked_53 : decode cX10_walked 53 = .ok (.getfield 72, 3) := by decide +kernel
theorem dX10_walked_56 : decode cX10_walked 56 = .ok (.iconst 0, 1) := by decide +kernel
theorem dX10_walked_57 : decode cX10_walked 57 = .ok (.iaload, 1) := by decide +kernel
theorem dX10_walked_58 : decode cX10_walked 58 = .ok (.istore 4, 2) := by decide +kernel
theorem dX10_walked_60 : decode cX10_walked 60 = .ok (.iinc 5 1, 3) := by decide +kernel
theorem dX10_walked_63 : decode cX10_walked 63 = .ok (.goto (-34), 3) := by decide +kernel
theorem dX10_walked_66 : decode cX10_walked 66 = .ok (.iload 4, 2) := by decide +kernel
theorem dX10_walked_68 : decode cX10_walked 68 = .ok (.ireturn, 1) := by decide +kernel
set_option maxRecDepth 20000 in
theorem ggX10_save_X10_in : GoodIn wsX10_save wsX10_in := goodIn_r _ [23] (by decide +kernel) (by decide +kernel)
set_option maxRecDepth 20000 in
theorem gX10_save_X10_in : GoodIn wsX10_save (va_wsS RX10 99 yX10_in wsX10_in) := goodIn_app (goodIn_of _ (by decide +kernel)) ggX10_save_X10_in
theorem dX10_save_0 : decode cX10_save 0 = .ok (.iload_n 1, 1) := by decide +kernel
theorem dX10_save_1 : decode cX10_save 1 = .ok (.iconst 0, 1) := by decide +kernel
theorem dX10_save_2 : decode cX10_save 2 = .ok (.iconst 1, 1) := by decide +kernel
theorem dX10_save_3 : decode cX10_save 3 = .ok (.invokestatic 99, 3) := by decide +kernel
theorem dX10_save_6 : decode cX10_save 6 = .ok (.ifCond .ne 5, 3) := by decide +kernel
theorem dX10_save_9 : decode cX10_save 9 = .ok (.iconst (-1), 1) := by decide +kernel
theorem dX10_save_10 : decode cX10_save 10 = .ok (.ireturn, 1) := by decide +kernel
theorem dX10_save_11 : decode cX10_save 11 = .ok (.bipush 100, 2) := by decide +kernel
theorem dX10_save_13 : decode cX10_save 13 = .ok (.iload_n 1, 1) := by decide +kernel
theorem dX10_save_14 : decode cX10_save 14 = .ok (.imul, 1) := by decide +kernel
theorem dX10_save_15 : decode cX10_save 15 = .ok (.istore_n 2, 1) := by decide +kernel
theorem dX10_save_16 : decode cX10_save 16 = .ok (.aload_n 0, 1) := by decide +kernel
theorem dX10_save_17 : decode cX10_save 17 = .ok (.getfield 41, 3) := by decide +kernel
theorem dX10_save_20 : decode cX10_save 20 = .ok (.iload_n 2, 1) := by decide +kernel
theorem dX10_save_21 : decode cX10_save 21 = .ok (.aload_n 0, 1) := by decide +kernel
theorem dX10_save_22 : decode cX10_save 22 = .ok (.getfield 7, 3) := by decide +kernel
theorem dX10_save_25 : decode cX10_save 25 = .ok (.iastore, 1) := by decide +kernel
theorem dX10_save_26 : decode cX10_save 26 = .ok (.aload_n 0, 1) := by decide +kernel
theorem dX10_save_27 : decode cX10_save 27 = .ok (.getfield 41, 3) := by decide +kernel
theorem dX10_save_30 : decode cX10_save 30 = .ok (.iload_n 2, 1) := by decide +kernel
theorem dX10_save_31 : decode cX10_save 31 = .ok (.iconst 1, 1) := by decide +kernel
theorem dX10_save_32 : decode cX10_save 32 = .ok (.iadd, 1) := by decide +kernel
theorem dX10_save_33 : decode cX10_save 33 = .ok (.aload_n 0, 1) := by decide +kernel
theorem dX10_save_34 : decode cX10_save 34 = .ok (.getfield 82, 3) := by decide +kernel
theorem dX10_save_37 : decode cX10_save 37 = .ok (.iastore, 1) := by decide +kernel
theorem dX10_save_38 : decode cX10_save 38 = .ok (.aload_n 0, 1) := by decide +kernel
theorem dX10_save_39 : decode cX10_save 39 = .ok (.getfield 41, 3) := by decide +kernel
theorem dX10_save_42 : decode cX10_save 42 = .ok (.iload_n 2, 1) := by decide +kernel
theorem dX10_save_43 : decode cX10_save 43 = .ok (.iconst 2, 1) := by decide +kernel
theorem dX10_save_44 : decode cX10_save 44 = .ok (.iadd, 1) := by decide +kernel
theorem dX10_save_45 : decode cX10_save 45 = .ok (.aload_n 0, 1) := by decide +kernel
theorem dX10_save_46 : decode cX10_save 46 = .ok (.getfield 13, 3) := by decide +kernel
theorem dX10_save_49 : decode cX10_save 49 = .ok (.iconst 2, 1) := by decide +kernel
theorem dX10_save_50 : decode cX10_save 50 = .ok (.iaload, 1) := by decide +kernel
theorem dX10_save_51 : decode cX10_save 51 = .ok (.iastore, 1) := by decide +kernel
theorem dX10_save_52 : decode cX10_save 52 = .ok (.aload_n 0, 1) := by decide +kernel
theorem dX10_save_53 : decode cX10_save 53 = .ok (.getfield 41, 3) := by decide +kernel
theorem dX10_save_56 : decode cX10_save 56 = .ok (.iload_n 2, 1) := by decide +kernel
theorem dX10_save_57 : decode cX10_save 57 = .ok (.iconst 3, 1) := by decide +kernel
theorem dX10_save_58 : decode cX10_save 58 = .ok (.iadd, 1) := by decide +kernel
theorem dX10_save_59 : decode cX10_save 59 = .ok (.aload_n 0, 1) := by decide +kernel
theorem dX10_save_60 : decode cX10_save 60 = .ok (.getfield 103, 3) := by decide +kernel
theorem dX10_save_63 : decode cX10_save 63 = .ok (.iastore, 1) := by decide +kernel
theorem dX10_save_64 : decode cX10_save 64 = .ok (.aload_n 0, 1) := by decide +kernel
theorem dX10_save_65 : decode cX10_save 65 = .ok (.getfield 41, 3) := by decide +kernel
theorem dX10_save_68 : decode cX10_save 68 = .ok (.iload_n 2, 1) := by decide +kernel
theorem dX10_save_69 : decode cX10_save 69 = .ok (.iconst 4, 1) := by decide +kernel
theorem dX10_save_70 : decode cX10_save 70 = .ok (.iadd, 1) := by decide +kernel
theorem dX10_save_71 : decode cX10_save 71 = .ok (.aload_n 0, 1) := by decide +kernel
theorem dX10_save_72 : decode cX10_save 72 = .ok (.getfield 106, 3) := by decide +kernel
theorem dX10_save_75 : decode cX10_save 75 = .ok (.iastore, 1) := by decide +kernel
theorem dX10_save_76 : decode cX10_save 76 = .ok (.aload_n 0, 1) := by decide +kernel
theorem dX10_save_77 : decode cX10_save 77 = .ok (.getfield 41, 3) := by decide +kernel
theorem dX10_save_80 : decode cX10_save 80 = .ok (.iload_n 2, 1) := by decide +kernel
theorem dX10_save_81 : decode cX10_save 81 = .ok (.iconst 5, 1) := by decide +kernel
theorem dX10_save_82 : decode cX10_save 82 = .ok (.iadd, 1) := by decide +kernel
theorem dX10_save_83 : decode cX10_save 83 = .ok (.aload_n 0, 1) := by decide +kernel
theorem dX10_save_84 : decode cX10_save 84 = .ok (.getfield 20, 3) := by decide +kernel
theorem dX10_save_87 : decode cX10_save 87 = .ok (.iastore, 1) := by decide +kernel
theorem dX10_save_88 : decode cX10_save 88 = .ok (.aload_n 0, 1) := by decide +kernel
theorem dX10_save_89 : decode cX10_save 89 = .ok (.getfield 41, 3) := by decide +kernel
theorem dX10_save_92 : decode cX10_save 92 = .ok (.iload_n 2, 1) := by decide +kernel
theorem dX10_save_93 : decode cX10_save 93 = .ok (.bipush 6, 2) := by decide +kernel
theorem dX10_save_95 : decode cX10_save 95 = .ok (.iadd, 1) := by decide +kernel
theorem dX10_save_96 : decode cX10_save 96 = .ok (.aload_n 0, 1) := by decide +kernel
theorem dX10_save_97 : decode cX10_save 97 = .ok (.getfield 23, 3) := by decide +kernel
theorem dX10_save_100 : decode cX10_save 100 = .ok (.iastore, 1) := by decide +kernel
theorem dX10_save_101 : decode cX10_save 101 = .ok (.aload_n 0, 1) := by decide +kernel
theorem dX10_save_102 : decode cX10_save 102 = .ok (.getfield 41, 3) := by decide +kernel
theorem dX10_save_105 : decode cX10_save 105 = .ok (.iload_n 2, 1) := by decide +kernel
theorem dX10_save_106 : decode cX10_save 106 = .ok (.bipush 7, 2) := by decide +kernel
theorem dX10_save_108 : decode cX10_save 108 = .ok (.iadd, 1) := by decide +kernel
theorem dX10_save_109 : decode cX10_save 109 = .ok (.aload_n 0, 1) := by decide +kernel
theorem dX10_save_110 : decode cX10_save 110 = .ok (.getfield 112, 3) := by decide +kernel
theorem dX10_save_113 : decode cX10_save 113 = .ok (.iastore, 1) := by decide +kernel
theorem dX10_save_114 : decode cX10_save 114 = .ok (.aload_n 0, 1) := by decide +kernel
theorem dX10_save_115 : decode cX10_save 115 = .ok (.getfield 41, 3) := by decide +kernel
theorem dX10_save_118 : decode cX10_save 118 = .ok (.iload_n 2, 1) := by decide +kernel
theorem dX10_save_119 : decode cX10_save 119 = .ok (.bipush 8, 2) := by decide +kernel
theorem dX10_save_121 : decode cX10_save 121 = .ok (.iadd, 1) := by decide +kernel
theorem dX10_save_122 : decode cX10_save 122 = .ok (.aload_n 0, 1) := by decide +kernel
theorem dX10_save_123 : decode cX10_save 123 = .ok (.getfield 29, 3) := by decide +kernel
theorem dX10_save_126 : decode cX10_save 126 = .ok (.iastore, 1) := by decide +kernel
theorem dX10_save_127 : decode cX10_save 127 = .ok (.aload_n 0, 1) := by decide +kernel
theorem dX10_save_128 : decode cX10_save 128 = .ok (.getfield 41, 3) := by decide +kernel
theorem dX10_save_131 : decode cX10_save 131 = .ok (.iload_n 2, 1) := by decide +kernel
theorem dX10_save_132 : decode cX10_save 132 = .ok (.bipush 9, 2) := by decide +kernel
theorem dX10_save_134 : decode cX10_save 134 = .ok (.iadd, 1) := by decide +kernel
theorem dX10_save_135 : decode cX10_save 135 = .ok (.aload_n 0, 1) := by decide +kernel
theorem dX10_save_136 : decode cX10_save 136 = .ok (.getfield 161, 3) := by decide +kernel
theorem dX10_save_139 : decode cX10_save 139 = .ok (.iastore, 1) := by decide +kernel
theorem dX10_save_140 : decode cX10_save 140 = .ok (.iconst 0, 1) := by decide +kernel
theorem dX10_save_141 : decode cX10_save 141 = .ok (.istore_n 3, 1) := by decide +kernel
theorem dX10_save_142 : decode cX10_save 142 = .ok (.iload_n 3, 1) := by decide +kernel
theorem dX10_save_143 : decode cX10_save 143 = .ok (.bipush 40, 2) := by decide +kernel
theorem dX10_save_145 : decode cX10_save 145 = .ok (.if_icmp .ge 26, 3) := by decide +kernel
theorem dX10_save_148 : decode cX10_save 148 = .ok (.aload_n 0, 1) := by decide +kernel
theorem dX10_save_149 : decode cX10_save 149 = .ok (.getfield 41, 3) := by decide +kernel
theorem dX10_save_152 : decode cX10_save 152 = .ok (.iload_n 2, 1) := by decide +kernel
theorem dX10_save_153 : decode cX10_save 153 = .ok (.bipush 10, 2) := by decide +kernel
theorem dX10_save_155 : decode cX10_save 155 = .ok (.iadd, 1) := by decide +kernel
theorem dX10_save_156 : decode cX10_save 156 = .ok (.iload_n 3, 1) := by decide +kernel
theorem dX10_save_157 : decode cX10_save 157 = .ok (.iadd, 1) := by decide +kernel
theorem dX10_save_158 : decode cX10_save 158 = .ok (.aload_n 0, 1) := by decide +kernel
theorem dX10_save_159 : decode cX10_save 159 = .ok (.getfield 26, 3) := by decide +kernel
theorem dX10_save_162 : decode cX10_save 162 = .ok (.iload_n 3, 1) := by decide +kernel
theorem dX10_save_163 : decode cX10_save 163 = .ok (.iaload, 1) := by decide +kernel
theorem dX10_save_164 : decode cX10_save 164 = .ok (.iastore, 1) := by decide +kernel
theorem dX10_save_165 : decode cX10_save 165 = .ok (.iinc 3 1, 3) := by decide +kernel
theorem dX10_save_168 : decode cX10_save 168 = .ok (.goto (-26), 3) := by decide +kernel
theorem dX10_save_171 : decode cX10_save 171 = .ok (.iconst 0, 1) := by decide +kernel
theorem dX10_save_172 : decode cX10_save 172 = .ok (.istore_n 3, 1) := by decide +kernel
theorem dX10_save_173 : decode cX10_save 173 = .ok (.iload_n 3, 1) := by decide +kernel
theorem dX10_save_174 : decode cX10_save 174 = .ok (.bipush 64, 2) := by decide +kernel
theorem dX10_save_176 : decode cX10_save 176 = .ok (.if_icmp .ge 30, 3) := by decide +kernel
theorem dX10_save_179 : decode cX10_save 179 = .ok (.aload_n 0, 1) := by decide +kernel
theorem dX10_save_180 : decode cX10_save 180 = .ok (.getfield 44, 3) := by decide +kernel
theorem dX10_save_183 : decode cX10_save 183 = .ok (.bipush 64, 2) := by decide +kernel
theorem dX10_save_185 : decode cX10_save 185 = .ok (.iload_n 1, 1) := by decide +kernel
theorem dX10_save_186 : decode cX10_save 186 = .ok (.imul, 1) := by decide +kernel
theorem dX10_save_187 : decode cX10_save 187 = .ok (.iload_n 3, 1) := by decide +kernel
theorem dX10_save_188 : decode cX10_save 188 = .ok (.iadd, 1) := by decide +kernel
theorem dX10_save_189 : decode cX10_save 189 = .ok (.aload_n 0, 1) := by decide +kernel
theorem dX10_save_190 : decode cX10_save 190 = .ok (.getfield 17, 3) := by decide +kernel
theorem dX10_save_193 : decode cX10_save 193 = .ok (.sipush 128, 3) := by decide +kernel
theorem dX10_save_196 : decode cX10_save 196 = .ok (.iload_n 3, 1) := by decide +kernel
theorem dX10_save_197 : decode cX10_save 197 = .ok (.iadd, 1) := by decide +kernel
theorem dX10_save_198 : decode cX10_save 198 = .ok (.iaload, 1) := by decide +kernel
theorem dX10_save_199 : decode cX10_save 199 = .ok (.iastore, 1) := by decide +kernel
theorem dX10_save_200 : decode cX10_save 200 = .ok (.iinc 3 1, 3) := by decide +kernel
theorem dX10_save_203 : decode cX10_save 203 = .ok (.goto (-30), 3) := by decide +kernel
theorem dX10_save_206 : decode cX10_save 206 = .ok (.iconst 0, 1) := by decide +kernel
theorem dX10_save_207 : decode cX10_save 207 = .ok (.istore_n 3, 1) := by decide +kernel
theorem dX10_save_208 : decode cX10_save 208 = .ok (.iload_n 3, 1) := by decide +kernel
theorem dX10_save_209 : decode cX10_save 209 = .ok (.sipush 4096, 3) := by decide +kernel
theorem dX10_save_212 : decode cX10_save 212 = .ok (.if_icmp .ge 45, 3) := by decide +kernel
theorem dX10_save_215 : decode cX10_save 215 = .ok (.aload_n 0, 1) := by decide +kernel
theorem dX10_save_216 : decode cX10_save 216 = .ok (.getfield 47, 3) := by decide +kernel
theorem dX10_save_219 : decode cX10_save 219 = .ok (.sipush 4096, 3) := by decide +kernel
theorem dX10_save_222 : decode cX10_save 222 = .ok (.iload_n 1, 1) := by decide +kernel
theorem dX10_save_223 : decode cX10_save 223 = .ok (.imul, 1) := by decide +kernel
theorem dX10_save_224 : decode cX10_save 224 = .ok (.iload_n 3, 1) := by decide +kernel
theorem dX10_save_225 : decode cX10_save 225 = .ok (.iadd, 1) := by decide +kernel
theorem dX10_save_226 : decode cX10_save 226 = .ok (.aload_n 0, 1) := by decide +kernel
theorem dX10_save_227 : decode cX10_save 227 = .ok (.getfield 32, 3) := by decide +kernel
theorem dX10_save_230 : decode cX10_save 230 = .ok (.iload_n 3, 1) := by decide +kernel
theorem dX10_save_231 : decode cX10_save 231 = .ok (.iaload, 1) := by decide +kernel
theorem dX10_save_232 : decode cX10_save 232 = .ok (.iastore, 1) := by decide +kernel
theorem dX10_save_233 : decode cX10_save 233 = .ok (.aload_n 0, 1) := by decide +kernel
theorem dX10_save_234 : decode cX10_save 234 = .ok (.getfield 50, 3) := by decide +kernel
theorem dX10_save_237 : decode cX10_save 237 = .ok (.sipush 4096, 3) := by decide +kernel
theorem dX10_save_240 : decode cX10_save 240 = .ok (.iload_n 1, 1) := by decide +kernel
theorem dX10_save_241 : decode cX10_save 241 = .ok (.imul, 1) := by decide +kernel
theorem dX10_save_242 : decode cX10_save 242 = .ok (.iload_n 3, 1) := by decide +kernel
theorem dX10_save_243 : decode cX10_save 243 = .ok (.iadd, 1) := by decide +kernel
theorem dX10_save_244 : decode cX10_save 244 = .ok (.aload_n 0, 1) := by decide +kernel
theorem dX10_save_245 : decode cX10_save 245 = .ok (.getfield 35, 3) := by decide +kernel
theorem dX10_save_248 : decode cX10_save 248 = .ok (.iload_n 3, 1) := by decide +kernel
theorem dX10_save_249 : decode cX10_save 249 = .ok (.iaload, 1) := by decide +kernel
theorem dX10_save_250 : decode cX10_save 250 = .ok (.iastore, 1) := by decide +kernel
theorem dX10_save_251 : decode cX10_save 251 = .ok (.iinc 3 1, 3) := by decide +kernel
theorem dX10_save_254 : decode cX10_save 254 = .ok (.goto (-46), 3) := by decide +kernel
theorem dX10_save_257 : decode cX10_save 257 = .ok (.aload_n 0, 1) := by decide +kernel
theorem dX10_save_258 : decode cX10_save 258 = .ok (.getfield 53, 3) := by decide +kernel
theorem dX10_save_261 : decode cX10_save 261 = .ok (.iload_n 1, 1) := by decide +kernel
theorem dX10_save_262 : decode cX10_save 262 = .ok (.iconst 1, 1) := by decide +kernel
theorem dX10_save_263 : decode cX10_save 263 = .ok (.bastore, 1) := by decide +kernel
theorem dX10_save_264 : decode cX10_save 264 = .ok (.aload_n 0, 1) := by decide +kernel
theorem dX10_save_265 : decode cX10_save 265 = .ok (.getfield 161, 3) := by decide +kernel
theorem dX10_save_268 : decode cX10_save 268 = .ok (.ireturn, 1) := by decide +kernel
set_option maxRecDepth 20000 in
theorem ggX10_restore_X10_in : GoodIn wsX10_restore wsX10_in := goodIn_r _ [23] (by decide +kernel) (by decide +kernel)
set_option maxRecDepth 20000 in
theorem gX10_restore_X10_in : GoodIn wsX10_restore (va_wsS RX10 99 yX10_in wsX10_in) := goodIn_app (goodIn_of _ (by decide +kernel)) ggX10_restore_X10_in
set_option maxRecDepth 20000 in
theorem ggX10_restore_X10_numbers : GoodIn wsX10_restore wsX10_numbers := goodIn_r _ [27, 3, 28, 29, 30, 31, 32, 22, 33, 34, 35, 36, 37, 13, 4, 38, 39, 40, 41, 42, 43, 44, 45, 15, 11, 16, 18, 46, 47, 48, 49, 10, 12, 50, 51, 52, 53, 54, 55, 56, 57, 58, 59, 60, 61, 62, 63, 64, 65, 66, 67, 68, 69, 70, 71, 72, 73, 74, 75, 76, 77, 78, 79, 80, 81, 82, 83] (by decide +kernel) (by decide +kernel)
set_option maxRecDepth 20000 in
theorem gX10_restore_X10_numbers : GoodIn wsX10_restore (wsV RX10 79 RX10 yX10_numbers wsX10_numbers) := goodIn_app (goodIn_of _ (by decide +kernel)) ggX10_restore_X10_numbers
set_option maxRecDepth 20000 in
theorem ggX10_restore_X10_maps : GoodIn wsX10_restore wsX10_maps := goodIn_r _ [53, 15, 16, 18, 54, 55, 56, 57, 58, 59, 60, 61, 62, 63, 64, 65, 66, 67, 68, 69, 70, 71, 72, 73, 74, 75, 76, 77, 78, 79, 80, 81, 82, 83] (by decide +kernel) (by decide +kernel)
set_option maxRecDepth 20000 in
theorem gX10_restore_X10_maps : GoodIn wsX10_restore (wsV RX10 167 RX10 yX10_maps wsX10_maps) := goodIn_app (goodIn_of _ (by decide +kernel)) ggX10_restore_X10_maps
theorem dX10_restore_0 : decode cX10_restore 0 = .ok (.iload_n 1, 1) := by decide +kernel
theorem dX10_restore_1 : decode cX10_restore 1 = .ok (.iconst 0, 1) := by decide +kernel
theorem dX10_restore_2 : decode cX10_restore 2 = .ok (.iconst 1, 1) := by decide +kernel
theorem dX10_restore_3 : decode cX10_restore 3 = .ok (.invokestatic 99, 3) := by decide +kernel
theorem dX10_restore_6 : decode cX10_restore 6 = .ok (.ifCond .ne 5, 3) := by decide +kernel
theorem dX10_restore_9 : decode cX10_restore 9 = .ok (.iconst (-1), 1) := by decide +kernel
theorem dX10_restore_10 : decode cX10_restore 10 = .ok (.ireturn, 1) := by decide +kernel
theorem dX10_restore_11 : decode cX10_restore 11 = .ok (.aload_n 0, 1) := by decide +kernel
theorem dX10_restore_12 : decode cX10_restore 12 = .ok (.getfield 53, 3) := by decide +kernel
theorem dX10_restore_15 : decode cX10_restore 15 = .ok (.iload_n 1, 1) := by decide +kernel
theorem dX10_restore_16 : decode cX10_restore 16 = .ok (.baload, 1) := by decide +kernel
theorem dX10_restore_17 : decode cX10_restore 17 = .ok (.ifCond .ne 6, 3) := by decide +kernel
theorem dX10_restore_20 : decode cX10_restore 20 = .ok (.bipush (-3), 2) := by decide +kernel
theorem dX10_restore_22 : decode cX10_restore 22 = .ok (.ireturn, 1) := by decide +kernel
theorem dX10_restore_23 : decode cX10_restore 23 = .ok (.bipush 100, 2) := by decide +kernel
theorem dX10_restore_25 : decode cX10_restore 25 = .ok (.iload_n 1, 1) := by decide +kernel
theorem dX10_restore_26 : decode cX10_restore 26 = .ok (.imul, 1) := by decide +kernel
theorem dX10_restore_27 : decode cX10_restore 27 = .ok (.istore_n 2, 1) := by decide +kernel
theorem dX10_restore_28 : decode cX10_restore 28 = .ok (.aload_n 0, 1) := by decide +kernel
theorem dX10_restore_29 : decode cX10_restore 29 = .ok (.aload_n 0, 1) := by decide +kernel
theorem dX10_restore_30 : decode cX10_restore 30 = .ok (.getfield 41, 3) := by decide +kernel
theorem dX10_restore_33 : decode cX10_restore 33 = .ok (.iload_n 2, 1) := by decide +kernel
theorem dX10_restore_34 : decode cX10_restore 34 = .ok (.iaload, 1) := by decide +kernel
theorem dX10_restore_35 : decode cX10_restore 35 = .ok (.putfield 7, 3) := by decide +kernel
theorem dX10_restore_38 : decode cX10_restore 38 = .ok (.aload_n 0, 1) := by decide +kernel
theorem dX10_restore_39 : decode cX10_restore 39 = .ok (.aload_n 0, 1) := by decide +kernel
theorem dX10_restore_40 : decode cX10_restore 40 = .ok (.getfield 41, 3) := by decide +kernel
theorem dX10_restore_43 : decode cX10_restore 43 = .ok (.iload_n 2, 1) := by decide +kernel
theorem dX10_restore_44 : decode cX10_restore 44 = .ok (.iconst 1, 1) := by decide +kernel
theorem dX10_restore_45 : decode cX10_restore 45 = .ok (.iadd, 1) := by decide +kernel
theorem dX10_restore_46 : decode cX10_restore 46 = .ok (.iaload, 1) := by decide +kernel
theorem dX10_restore_47 : decode cX10_restore 47 = .ok (.putfield 82, 3) := by decide +kernel
theorem dX10_restore_50 : decode cX10_restore 50 = .ok (.aload_n 0, 1) := by decide +kernel
theorem dX10_restore_51 : decode cX10_restore 51 = .ok (.getfield 13, 3) := by decide +kernel
theorem dX10_restore_54 : decode cX10_restore 54 = .ok (.iconst 2, 1) := by decide +kernel
theorem dX10_restore_55 : decode cX10_restore 55 = .ok (.aload_n 0, 1) := by decide +kernel
theorem dX10_restore_56 : decode cX10_restore 56 = .ok (.getfield 41, 3) := by decide +kernel
theorem dX10_restore_59 : decode cX10_restore 59 = .ok (.iload_n 2, 1) := by decide +kernel
theorem dX10_restore_60 : decode cX10_restore 60 = .ok (.iconst 2, 1) := by decide +kernel
theorem dX10_restore_61 : decode cX10_restore 61 = .ok (.iadd, 1) := by decide +kernel
theorem dX10_restore_62 : decode cX10_restore 62 = .ok (.iaload, 1) := by decide +kernel
theorem dX10_restore_63 : decode cX10_restore 63 = .ok (.iastore, 1) := by decide +kernel
theorem dX10_restore_64 : decode cX10_restore 64 = .ok (.aload_n 0, 1) := by decide +kernel
theorem dX10_restore_65 : decode cX10_restore 65 = .ok (.aload_n 0, 1) := by decide +kernel
theorem dX10_restore_66 : decode cX10_restore 66 = .ok (.getfield 41, 3) := by decide +kernel
theorem dX10_restore_69 : decode cX10_restore 69 = .ok (.iload_n 2, 1) := by decide +kernel
theorem dX10_restore_70 : decode cX10_restore 70 = .ok (.iconst 3, 1) := by decide +kernel
theorem dX10_restore_71 : decode cX10_restore 71 = .ok (.iadd, 1) := by decide +kernel
theorem dX10_restore_72 : decode cX10_restore 72 = .ok (.iaload, 1) := by decide +kernel
theorem dX10_restore_73 : decode cX10_restore 73 = .ok (.putfield 103, 3) := by decide +kernel
theorem dX10_restore_76 : decode cX10_restore 76 = .ok (.aload_n 0, 1) := by decide +kernel
theorem dX10_restore_77 : decode cX10_restore 77 = .ok (.aload_n 0, 1) := by decide +kernel
theorem dX10_restore_78 : decode cX10_restore 78 = .ok (.getfield 41, 3) := by decide +kernel
theorem dX10_restore_81 : decode cX10_restore 81 = .ok (.iload_n 2, 1) := by decide +kernel
theorem dX10_restore_82 : decode cX10_restore 82 = .ok (.iconst 4, 1) := by decide +kernel
theorem dX10_restore_83 : decode cX10_restore 83 = .ok (.iadd, 1) := by decide +kernel
theorem dX10_restore_84 : decode cX10_restore 84 = .ok (.iaload, 1) := by decide +kernel
theorem dX10_restore_85 : decode cX10_restore 85 = .ok (.putfield 106, 3) := by decide +kernel
theorem dX10_restore_88 : decode cX10_restore 88 = .ok (.aload_n 0, 1) := by decide +kernel
theorem dX10_restore_89 : decode cX10_restore 89 = .ok (.aload_n 0, 1) := by decide +kernel
theorem dX10_restore_90 : decode cX10_restore 90 = .ok (.getfield 41, 3) := by decide +kernel
theorem dX10_restore_93 : decode cX10_restore 93 = .ok (.iload_n 2, 1) := by decide +kernel
theorem dX10_restore_94 : decode cX10_restore 94 = .ok (.iconst 5, 1) := by decide +kernel
theorem dX10_restore_95 : decode cX10_restore 95 = .ok (.iadd, 1) := by decide +kernel
theorem dX10_restore_96 : decode cX10_restore 96 = .ok (.iaload, 1) := by decide +kernel
theorem dX10_restore_97 : decode cX10_restore 97 = .ok (.putfield 20, 3) := by decide +kernel
theorem dX10_restore_100 : decode cX10_restore 100 = .ok (.aload_n 0, 1) := by decide +kernel
theorem dX10_restore_101 : decode cX10_restore 101 = .ok (.aload_n 0, 1) := by decide +kernel
theorem dX10_restore_102 : decode cX10_restore 102 = .ok (.getfield 41, 3) := by decide +kernel
theorem dX10_restore_105 : decode cX10_restore 105 = .ok (.iload_n 2, 1) := by decide +kernel
theorem dX10_restore_106 : decode cX10_restore 106 = .ok (.bipush 6, 2) := by decide +kernel
theorem dX10_restore_108 : decode cX10_restore 108 = .ok (.iadd, 1) := by decide +kernel
theorem dX10_restore_109 : decode cX10_restore 109 = .ok (.iaload, 1) := by decide +kernel
theorem dX10_restore_110 : decode cX10_restore 110 = .ok (.putfield 23, 3) := by decide +kernel
theorem dX10_restore_113 : decode cX10_restore 113 = .ok (.aload_n 0, 1) := by decide +kernel
theorem dX10_restore_114 : decode cX10_restore 114 = .ok (.aload_n 0, 1) := by decide +kernel
theorem dX10_restore_115 : decode cX10_restore 115 = .ok (.getfield 41, 3) := by decide +kernel
theorem dX10_restore_118 : decode cX10_restore 118 = .ok (.iload_n 2, 1) := by decide +kernel
theorem dX10_restore_119 : decode cX10_restore 119 = .ok (.bipush 7, 2) := by decide +kernel
theorem dX10_restore_121 : decode cX10_restore 121 = .ok (.iadd, 1) := by decide +kernel
theorem dX10_restore_122 : decode cX10_restore 122 = .ok (.iaload, 1) := by decide +kernel
theorem dX10_restore_123 : decode cX10_restore 123 = .ok (.putfield 112, 3) := by decide +kernel
theorem dX10_restore_126 : decode cX10_restore 126 = .ok (.aload_n 0, 1) := by decide +kernel
theorem dX10_restore_127 : decode cX10_restore 127 = .ok (.aload_n 0, 1) := by decide +kernel
theorem dX10_restore_128 : decode cX10_restore 128 = .ok (.getfield 41, 3) := by decide +kernel
theorem dX10_restore_131 : decode cX10_restore 131 = .ok (.iload_n 2, 1) := by decide +kernel
theorem dX10_restore_132 : decode cX10_restore 132 = .ok (.bipush 8, 2) := by decide +kernel
theorem dX10_restore_134 : decode cX10_restore 134 = .ok (.iadd, 1) := by decide +kernel
theorem dX10_restore_135 : decode cX10_restore 135 = .ok (.iaload, 1) := by decide +kernel
theorem dX10_restore_136 : decode cX10_restore 136 = .ok (.putfield 29, 3) := by decide +kernel
theorem dX10_restore_139 : decode cX10_restore 139 = .ok (.iconst 0, 1) := by decide +kernel
theorem dX10_restore_140 : decode cX10_restore 140 = .ok (.istore_n 3, 1) := by decide +kernel
theorem dX10_restore_141 : decode cX10_restore 141 = .ok (.iload_n 3, 1) := by decide +kernel
theorem dX10_restore_142 : decode cX10_restore 142 = .ok (.bipush 40, 2) := by decide +kernel
theorem dX10_restore_144 : decode cX10_restore 144 = .ok (.if_icmp .ge 26, 3) := by decide +kernel
theorem dX10_restore_147 : decode cX10_restore 147 = .ok (.aload_n 0, 1) := by decide +kernel
theorem dX10_restore_148 : decode cX10_restore 148 = .ok (.getfield 26, 3) := by decide +kernel
theorem dX10_restore_151 : decode cX10_restore 151 = .ok (.iload_n 3, 1) := by decide +kernel
theorem dX10_restore_152 : decode cX10_restore 152 = .ok (.aload_n 0, 1) := by decide +kernel
theorem dX10_restore_153 : decode cX10_restore 153 = .ok (.getfield 41, 3) := by decide +kernel
theorem dX10_restore_156 : decode cX10_restore 156 = .ok (.iload_n 2, 1) := by decide +kernel
theorem dX10_restore_157 : decode cX10_restore 157 = .ok (.bipush 10, 2) := by decide +kernel
theorem dX10_restore_159 : decode cX10_restore 159 = .ok (.iadd, 1) := by decide +kernel
theorem dX10_restore_160 : decode cX10_restore 160 = .ok (.iload_n 3, 1) := by decide +kernel
theorem dX10_restore_161 : decode cX10_restore 161 = .ok (.iadd, 1) := by decide +kernel
theorem dX10_restore_162 : decode cX10_restore 162 = .ok (.iaload, 1) := by decide +kernel
theorem dX10_restore_163 : decode cX10_restore 163 = .ok (.iastore, 1) := by decide +kernel
theorem dX10_restore_164 : decode cX10_restore 164 = .ok (.iinc 3 1, 3) := by decide +kernel
theorem dX10_restore_167 : decode cX10_restore 167 = .ok (.goto (-26), 3) := by decide +kernel
theorem dX10_restore_170 : decode cX10_restore 170 = .ok (.iconst 0, 1) := by decide +kernel
theorem dX10_restore_171 : decode cX10_restore 171 = .ok (.istore_n 3, 1) := by decide +kernel
theorem dX10_restore_172 : decode cX10_restore 172 = .ok (.iload_n 3, 1) := by decide +kernel
theorem dX10_restore_173 : decode cX10_restore 173 = .ok (.bipush 64, 2) := by decide +kernel
theorem dX10_restore_175 : decode cX10_restore 175 = .ok (.if_icmp .ge 30, 3) := by decide +kernel
theorem dX10_restore_178 : decode cX10_restore 178 = .ok (.aload_n 0, 1) := by decide +kernel
theorem dX10_restore_179 : decode cX10_restore 179 = .ok (.getfield 17, 3) := by decide +kernel
theorem dX10_restore_182 : decode cX10_restore 182 = .ok (.sipush 128, 3) := by decide +kernel
theorem dX10_restore_185 : decode cX10_restore 185 = .ok (.iload_n 3, 1) := by decide +kernel
theorem dX10_restore_186 : decode cX10_restore 186 = .ok (.iadd, 1) := by decide +kernel
theorem dX10_restore_187 : decode cX10_restore 187 = .ok (.aload_n 0, 1) := by decide +kernel
theorem dX10_restore_188 : decode cX10_restore 188 = .ok (.getfield 44, 3) := by decide +kernel
theorem dX10_restore_191 : decode cX10_restore 191 = .ok (.bipush 64, 2) := by decide +kernel
theorem dX10_restore_193 : decode cX10_restore 193 = .ok (.iload_n 1, 1) := by decide +kernel
theorem dX10_restore_194 : decode cX10_restore 194 = .ok (.imul, 1) := by decide +kernel
theorem dX10_restore_195 : decode cX10_restore 195 = .ok (.iload_n 3, 1) := by decide +kernel
theorem dX10_restore_196 : decode cX10_restore 196 = .ok (.iadd, 1) := by decide +kernel
theorem dX10_restore_197 : decode cX10_restore 197 = .ok (.iaload, 1) := by decide +kernel
theorem dX10_restore_198 : decode cX10_restore 198 = .ok (.iastore, 1) := by decide +kernel
theorem dX10_restore_199 : decode cX10_restore 199 = .ok (.iinc 3 1, 3) := by decide +kernel
theorem dX10_restore_202 : decode cX10_restore 202 = .ok (.goto (-30), 3) := by decide +kernel
theorem dX10_restore_205 : decode cX10_restore 205 = .ok (.aload_n 0, 1) := by decide +kernel
theorem dX10_restore_206 : decode cX10_restore 206 = .ok (.invokevirtual 79, 3) := by decide +kernel
theorem dX10_restore_209 : decode cX10_restore 209 = .ok (.aload_n 0, 1) := by decide +kernel
theorem dX10_restore_210 : decode cX10_restore 210 = .ok (.aload_n 0, 1) := by decide +kernel
theorem dX10_restore_211 : decode cX10_restore 211 = .ok (.getfield 41, 3) := by decide +kernel
theorem dX10_restore_214 : decode cX10_restore 214 = .ok (.iload_n 2, 1) := by decide +kernel
theorem dX10_restore_215 : decode cX10_restore 215 = .ok (.bipush 9, 2) := by decide +kernel
theorem dX10_restore_217 : decode cX10_restore 217 = .ok (.iadd, 1) := by decide +kernel
theorem dX10_restore_218 : decode cX10_restore 218 = .ok (.iaload, 1) := by decide +kernel
theorem dX10_restore_219 : decode cX10_restore 219 = .ok (.putfield 161, 3) := by decide +kernel
theorem dX10_restore_222 : decode cX10_restore 222 = .ok (.iconst 0, 1) := by decide +kernel
theorem dX10_restore_223 : decode cX10_restore 223 = .ok (.istore_n 3, 1) := by decide +kernel
theorem dX10_restore_224 : decode cX10_restore 224 = .ok (.iload_n 3, 1) := by decide +kernel
theorem dX10_restore_225 : decode cX10_restore 225 = .ok (.sipush 4096, 3) := by decide +kernel
theorem dX10_restore_228 : decode cX10_restore 228 = .ok (.if_icmp .ge 45, 3) := by decide +kernel
theorem dX10_restore_231 : decode cX10_restore 231 = .ok (.aload_n 0, 1) := by decide +kernel
theorem dX10_restore_232 : decode cX10_restore 232 = .ok (.getfield 32, 3) := by decide +kernel
theorem dX10_restore_235 : decode cX10_restore 235 = .ok (.iload_n 3, 1) := by decide +kernel
theorem dX10_restore_236 : decode cX10_restore 236 = .ok (.aload_n 0, 1) := by decide +kernel
theorem dX10_restore_237 : decode cX10_restore 237 = .ok (.getfield 47, 3) := by decide +kernel
theorem dX10_restore_240 : decode cX10_restore 240 = .ok (.sipush 4096, 3) := by decide +kernel
theorem dX10_restore_243 : decode cX10_restore 243 = .ok (.iload_n 1, 1) := by decide +kernel
theorem dX10_restore_244 : decode cX10_restore 244 = .ok (.imul, 1) := by decide +kernel
theorem dX10_restore_245 : decode cX10_restore 245 = .ok (.iload_n 3, 1) := by decide +kernel
theorem dX10_restore_246 : decode cX10_restore 246 = .ok (.iadd, 1) := by decide +kernel
theorem dX10_restore_247 : decode cX10_restore 247 = .ok (.iaload, 1) := by decide +kernel
theorem dX10_restore_248 : decode cX10_restore 248 = .ok (.iastore, 1) := by decide +kernel
theorem dX10_restore_249 : decode cX10_restore 249 = .ok (.aload_n 0, 1) := by decide +kernel
theorem dX10_restore_250 : decode cX10_restore 250 = .ok (.getfield 35, 3) := by decide +kernel
theorem dX10_restore_253 : decode cX10_restore 253 = .ok (.iload_n 3, 1) := by decide +kernel
theorem dX10_restore_254 : decode cX10_restore 254 = .ok (.aload_n 0, 1) := by decide +kernel
theorem dX10_restore_255 : decode cX10_restore 255 = .ok (.getfield 50, 3) := by decide +kernel
theorem dX10_restore_258 : decode cX10_restore 258 = .ok (.sipush 4096, 3) := by decide +kernel
theorem dX10_restore_261 : decode cX10_restore 261 = .ok (.iload_n 1, 1) := by decide +kernel
theorem dX10_restore_262 : decode cX10_restore 262 = .ok (.imul, 1) := by decide +kernel
theorem dX10_restore_263 : decode cX10_restore 263 = .ok (.iload_n 3, 1) := by decide +kernel
theorem dX10_restore_264 : decode cX10_restore 264 = .ok (.iadd, 1) := by decide +kernel
theorem dX10_restore_265 : decode cX10_restore 265 = .ok (.iaload, 1) := by decide +kernel
theorem dX10_restore_266 : decode cX10_restore 266 = .ok (.iastore, 1) := by decide +kernel
theorem dX10_restore_267 : decode cX10_restore 267 = .ok (.iinc 3 1, 3) := by decide +kernel
theorem dX10_restore_270 : decode cX10_restore 270 = .ok (.goto (-46), 3) := by decide +kernel
theorem dX10_restore_273 : decode cX10_restore 273 = .ok (.aload_n 0, 1) := by decide +kernel
theorem dX10_restore_274 : decode cX10_restore 274 = .ok (.invokevirtual 167, 3) := by decide +kernel
theorem dX10_restore_277 : decode cX10_restore 277 = .ok (.aload_n 0, 1) := by decide +kernel
theorem dX10_restore_278 : decode cX10_restore 278 = .ok (.getfield 161, 3) := by decide +kernel
theorem dX10_restore_281 : decode cX10_restore 281 = .ok (.ireturn, 1) := by decide +kernel
theorem dX10_more_0 : decode cX10_more 0 = .ok (.ldc2_w 199, 3) := by decide +kernel
theorem dX10_more_3 : decode cX10_more 3 = .ok (.lload_n 0, 1) := by decide +kernel
theorem dX10_more_4 : decode cX10_more 4 = .ok (.lmul, 1) := by decide +kernel
theorem dX10_more_5 : decode cX10_more 5 = .ok (.iload_n 2, 1) := by decide +kernel
theorem dX10_more_6 : decode cX10_more 6 = .ok (.i2l, 1) := by decide +kernel
theorem dX10_more_7 : decode cX10_more 7 = .ok (.ladd, 1) := by decide +kernel
theorem dX10_more_8 : decode cX10_more 8 = .ok (.lreturn, 1) := by decide +kernel
set_option maxRecDepth 20000 in
theorem ggX10_checksum_X10_more : GoodIn wsX10_checksum wsX10_more := goodIn_r _ [14, 15] (by decide +kernel) (by decide +kernel)
set_option maxRecDepth 20000 in
theorem gX10_checksum_X10_more : GoodIn wsX10_checksum (va_wsS RX10 203 yX10_more wsX10_more) := goodIn_app (goodIn_of _ (by decide +kernel)) ggX10_checksum_X10_more
set_option maxRecDepth 20000 in
theorem ggX10_checksum_X10_quarter : GoodIn wsX10_checksum wsX10_quarter := goodIn_r _ [19, 20, 4, 83, 84, 85, 86, 87, 88, 89, 90, 91, 92, 93, 94, 95, 96, 97, 98, 99, 100, 101, 102, 103, 104, 105, 106, 107, 108, 109, 110, 111] (by decide +kernel) (by decide +kernel)
set_option maxRecDepth 20000 in
theorem gX10_checksum_X10_quarter : GoodIn wsX10_checksum (wsV RX10 89 RX10 yX10_quarter wsX10_quarter) := goodIn_app (goodIn_of _ (by decide +kernel)) ggX10_checksum_X10_quarter
set_option maxRecDepth 20000 in
theorem ggX10_checksum_X10_stateFor : GoodIn wsX10_checksum wsX10_stateFor := goodIn_r _ [24, 20, 4, 83, 84, 85, 86, 87, 88, 89, 90, 91, 92, 93, 94, 95, 96, 97, 98, 99, 100, 101, 102, 103, 104, 105, 106, 107, 108, 109, 110, 111] (by decide +kernel) (by decide +kernel)
set_option maxRecDepth 20000 in
theorem gX10_checksum_X10_stateFor : GoodIn wsX10_checksum (wsV RX10 93 RX10 yX10_stateFor wsX10_stateFor) := goodIn_app (goodIn_of _ (by decide +kernel)) ggX10_checksum_X10_stateFor
set_option maxRecDepth 20000 in
theorem ggX10_checksum_X10_breaksNow : GoodIn wsX10_checksum wsX10_breaksNow := goodIn_r _ [28, 29, 30, 31, 32, 13, 33, 2, 34, 35, 36, 37, 38, 39, 83, 84, 85, 86, 87, 88, 89, 90, 91, 92, 93, 94, 95, 96, 97, 98, 99, 100, 101, 102, 103, 104, 105, 106, 107, 108, 109, 110, 111] (by decide +kernel) (by decide +kernel)
set_option maxRecDepth 20000 in
theorem gX10_checksum_X10_breaksNow : GoodIn wsX10_checksum (wsV RX10 126 RX10 yX10_breaksNow wsX10_breaksNow) := goodIn_app (goodIn_of _ (by decide +kernel)) ggX10_checksum_X10_breaksNow
set_option maxRecDepth 20000 in
theorem ggX10_checksum_X10_stretchNow : GoodIn wsX10_checksum wsX10_stretchNow := goodIn_r _ [43, 29, 44, 30, 31, 32, 13, 33, 2, 45, 46, 47, 48, 37, 38, 39, 83, 84, 85, 86, 87, 88, 89, 90, 91, 92, 93, 94, 95, 96, 97, 98, 99, 100, 101, 102, 103, 104, 105, 106, 107, 108, 109, 110, 111] (by decide +kernel) (by decide +kernel)
set_option maxRecDepth 20000 in
theorem gX10_checksum_X10_stretchNow : GoodIn wsX10_checksum (wsV RX10 129 RX10 yX10_stretchNow wsX10_stretchNow) := goodIn_app (goodIn_of _ (by decide +kernel)) ggX10_checksum_X10_stretchNow
set_option maxRecDepth 20000 in
theorem ggX10_checksum_X10_findIntervals : GoodIn wsX10_checksum wsX10_findIntervals := goodIn_r _ [52, 5, 6, 7, 30, 31, 32, 13, 33, 2, 53, 54, 55, 56, 29, 57, 58, 59, 60, 61, 62, 63, 83, 84, 85, 86, 87, 88, 89, 90, 91, 92, 93, 94, 95, 96, 97, 98, 99, 100, 101, 102, 103, 104, 105, 106, 107, 108, 109, 110, 111] (by decide +kernel) (by decide +kernel)
set_option maxRecDepth 20000 in
theorem gX10_checksum_X10_findIntervals : GoodIn wsX10_checksum (wsV RX10 148 RX10 yX10_findIntervals wsX10_findIntervals) := goodIn_app (goodIn_of _ (by decide +kernel)) ggX10_checksum_X10_findIntervals
set_option maxRecDepth 20000 in
theorem ggX10_checksum_X10_tells : GoodIn wsX10_checksum wsX10_tells := goodIn_r _ [67, 68, 69, 70, 71, 72, 13, 73, 29, 74, 75, 76, 77, 78, 79, 80, 81, 8, 44, 82, 83, 84, 85, 86, 87, 88, 89, 90, 91, 92, 93, 94, 95, 96, 97, 98, 99, 100, 101, 102, 103, 104, 105, 106, 107, 108, 109, 110, 111] (by decide +kernel) (by decide +kernel)
set_option maxRecDepth 20000 in
theorem gX10_checksum_X10_tells : GoodIn wsX10_checksum (wsV RX10 179 RX10 yX10_tells wsX10_tells) := goodIn_app (goodIn_of _ (by decide +kernel)) ggX10_checksum_X10_tells
theorem dX10_checksum_0 : decode cX10_checksum 0 = .ok (.ldc2_w 201, 3) := by decide +kernel
theorem dX10_checksum_3 : decode cX10_checksum 3 = .ok (.aload_n 0, 1) := by decide +kernel
theorem dX10_checksum_4 : decode cX10_checksum 4 = .ok (.getfield 7, 3) := by decide +kernel
theorem dX10_checksum_7 : decode cX10_checksum 7 = .ok (.invokestatic 203, 3) := by decide +kernel
theorem dX10_checksum_10 : decode cX10_checksum 10 = .ok (.aload_n 0, 1) := by decide +kernel
theorem dX10_checksum_11 : decode cX10_checksum 11 = .ok (.getfield 13, 3) := by decide +kernel
theorem dX10_checksum_14 : decode cX10_checksum 14 = .ok (.aload_n 0, 1) := by decide +kernel
theorem dX10_checksum_15 : decode cX10_checksum 15 = .ok (.getfield 82, 3) := by decide +kernel
theorem dX10_checksum_18 : decode cX10_checksum 18 = .ok (.iaload, 1) := by decide +kernel
theorem dX10_checksum_19 : decode cX10_checksum 19 = .ok (.invokestatic 203, 3) := by decide +kernel
theorem dX10_checksum_22 : decode cX10_checksum 22 = .ok (.lstore_n 1, 1) := by decide +kernel
theorem dX10_checksum_23 : decode cX10_checksum 23 = .ok (.iconst 0, 1) := by decide +kernel
theorem dX10_checksum_24 : decode cX10_checksum 24 = .ok (.istore_n 3, 1) := by decide +kernel
theorem dX10_checksum_25 : decode cX10_checksum 25 = .ok (.iload_n 3, 1) := by decide +kernel
theorem dX10_checksum_26 : decode cX10_checksum 26 = .ok (.iconst 4, 1) := by decide +kernel
theorem dX10_checksum_27 : decode cX10_checksum 27 = .ok (.aload_n 0, 1) := by decide +kernel
theorem dX10_checksum_28 : decode cX10_checksum 28 = .ok (.getfield 13, 3) := by decide +kernel
theorem dX10_checksum_31 : decode cX10_checksum 31 = .ok (.aload_n 0, 1) := by decide +kernel
theorem dX10_checksum_32 : decode cX10_checksum 32 = .ok (.getfield 82, 3) := by decide +kernel
theorem dX10_checksum_35 : decode cX10_checksum 35 = .ok (.iaload, 1) := by decide +kernel
theorem dX10_checksum_36 : decode cX10_checksum 36 = .ok (.imul, 1) := by decide +kernel
theorem dX10_checksum_37 : decode cX10_checksum 37 = .ok (.if_icmp .ge 38, 3) := by decide +kernel
theorem dX10_checksum_40 : decode cX10_checksum 40 = .ok (.lload_n 1, 1) := by decide +kernel
theorem dX10_checksum_41 : decode cX10_checksum 41 = .ok (.bipush 10, 2) := by decide +kernel
theorem dX10_checksum_43 : decode cX10_checksum 43 = .ok (.aload_n 0, 1) := by decide +kernel
theorem dX10_checksum_44 : decode cX10_checksum 44 = .ok (.iload_n 3, 1) := by decide +kernel
theorem dX10_checksum_45 : decode cX10_checksum 45 = .ok (.iconst 4, 1) := by decide +kernel
theorem dX10_checksum_46 : decode cX10_checksum 46 = .ok (.idiv, 1) := by decide +kernel
theorem dX10_checksum_47 : decode cX10_checksum 47 = .ok (.iload_n 3, 1) := by decide +kernel
theorem dX10_checksum_48 : decode cX10_checksum 48 = .ok (.iconst 4, 1) := by decide +kernel
theorem dX10_checksum_49 : decode cX10_checksum 49 = .ok (.irem, 1) := by decide +kernel
theorem dX10_checksum_50 : decode cX10_checksum 50 = .ok (.invokevirtual 89, 3) := by decide +kernel
theorem dX10_checksum_53 : decode cX10_checksum 53 = .ok (.imul, 1) := by decide +kernel
theorem dX10_checksum_54 : decode cX10_checksum 54 = .ok (.aload_n 0, 1) := by decide +kernel
theorem dX10_checksum_55 : decode cX10_checksum 55 = .ok (.iload_n 3, 1) := by decide +kernel
theorem dX10_checksum_56 : decode cX10_checksum 56 = .ok (.iconst 4, 1) := by decide +kernel
theorem dX10_checksum_57 : decode cX10_checksum 57 = .ok (.idiv, 1) := by decide +kernel
theorem dX10_checksum_58 : decode cX10_checksum 58 = .ok (.iload_n 3, 1) := by decide +kernel
theorem dX10_checksum_59 : decode cX10_checksum 59 = .ok (.iconst 4, 1) := by decide +kernel
theorem dX10_checksum_60 : decode cX10_checksum 60 = .ok (.irem, 1) := by decide +kernel
theorem dX10_checksum_61 : decode cX10_checksum 61 = .ok (.invokevirtual 93, 3) := by decide +kernel
theorem dX10_checksum_64 : decode cX10_checksum 64 = .ok (.iadd, 1) := by decide +kernel
theorem dX10_checksum_65 : decode cX10_checksum 65 = .ok (.invokestatic 203, 3) := by decide +kernel
theorem dX10_checksum_68 : decode cX10_checksum 68 = .ok (.lstore_n 1, 1) := by decide +kernel
theorem dX10_checksum_69 : decode cX10_checksum 69 = .ok (.iinc 3 1, 3) := by decide +kernel
theorem dX10_checksum_72 : decode cX10_checksum 72 = .ok (.goto (-47), 3) := by decide +kernel
theorem dX10_checksum_75 : decode cX10_checksum 75 = .ok (.lload_n 1, 1) := by decide +kernel
theorem dX10_checksum_76 : decode cX10_checksum 76 = .ok (.aload_n 0, 1) := by decide +kernel
theorem dX10_checksum_77 : decode cX10_checksum 77 = .ok (.invokevirtual 126, 3) := by decide +kernel
theorem dX10_checksum_80 : decode cX10_checksum 80 = .ok (.invokestatic 203, 3) := by decide +kernel
theorem dX10_checksum_83 : decode cX10_checksum 83 = .ok (.aload_n 0, 1) := by decide +kernel
theorem dX10_checksum_84 : decode cX10_checksum 84 = .ok (.invokevirtual 129, 3) := by decide +kernel
theorem dX10_checksum_87 : decode cX10_checksum 87 = .ok (.invokestatic 203, 3) := by decide +kernel
theorem dX10_checksum_90 : decode cX10_checksum 90 = .ok (.lstore_n 1, 1) := by decide +kernel
theorem dX10_checksum_91 : decode cX10_checksum 91 = .ok (.aload_n 0, 1) := by decide +kernel
theorem dX10_checksum_92 : decode cX10_checksum 92 = .ok (.invokevirtual 148, 3) := by decide +kernel
theorem dX10_checksum_95 : decode cX10_checksum 95 = .ok (.lload_n 1, 1) := by decide +kernel
theorem dX10_checksum_96 : decode cX10_checksum 96 = .ok (.aload_n 0, 1) := by decide +kernel
theorem dX10_checksum_97 : decode cX10_checksum 97 = .ok (.getfield 142, 3) := by decide +kernel
theorem dX10_checksum_100 : decode cX10_checksum 100 = .ok (.invokestatic 203, 3) := by decide +kernel
theorem dX10_checksum_103 : decode cX10_checksum 103 = .ok (.lstore_n 1, 1) := by decide +kernel
theorem dX10_checksum_104 : decode cX10_checksum 104 = .ok (.iconst 0, 1) := by decide +kernel
theorem dX10_checksum_105 : decode cX10_checksum 105 = .ok (.istore_n 3, 1) := by decide +kernel
theorem dX10_checksum_106 : decode cX10_checksum 106 = .ok (.iload_n 3, 1) := by decide +kernel
theorem dX10_checksum_107 : decode cX10_checksum 107 = .ok (.aload_n 0, 1) := by decide +kernel
theorem dX10_checksum_108 : decode cX10_checksum 108 = .ok (.getfield 142, 3) := by decide +kernel
theorem dX10_checksum_111 : decode cX10_checksum 111 = .ok (.if_icmp .ge 29, 3) := by decide +kernel
theorem dX10_checksum_114 : decode cX10_checksum 114 = .ok (.lload_n 1, 1) := by decide +kernel
theorem dX10_checksum_115 : decode cX10_checksum 115 = .ok (.aload_n 0, 1) := by decide +kernel
theorem dX10_checksum_116 : decode cX10_checksum 116 = .ok (.getfield 63, 3) := by decide +kernel
theorem dX10_checksum_119 : decode cX10_checksum 119 = .ok (.iload_n 3, 1) := by decide +kernel
theorem dX10_checksum_120 : decode cX10_checksum 120 = .ok (.iaload, 1) := by decide +kernel
theorem dX10_checksum_121 : decode cX10_checksum 121 = .ok (.invokestatic 203, 3) := by decide +kernel
theorem dX10_checksum_124 : decode cX10_checksum 124 = .ok (.aload_n 0, 1) := by decide +kernel
theorem dX10_checksum_125 : decode cX10_checksum 125 = .ok (.getfield 66, 3) := by decide +kernel
theorem dX10_checksum_128 : decode cX10_checksum 128 = .ok (.iload_n 3, 1) := by decide +kernel
theorem dX10_checksum_129 : decode cX10_checksum 129 = .ok (.iaload, 1) := by decide +kernel
theorem dX10_checksum_130 : decode cX10_checksum 130 = .ok (.invokestatic 203, 3) := by decide +kernel
theorem dX10_checksum_133 : decode cX10_checksum 133 = .ok (.lstore_n 1, 1) := by decide +kernel
theorem dX10_checksum_134 : decode cX10_checksum 134 = .ok (.iinc 3 1, 3) := by decide +kernel
theorem dX10_checksum_137 : decode cX10_checksum 137 = .ok (.goto (-31), 3) := by decide +kernel
theorem dX10_checksum_140 : decode cX10_checksum 140 = .ok (.lload_n 1, 1) := by decide +kernel
theorem dX10_checksum_141 : decode cX10_checksum 141 = .ok (.aload_n 0, 1) := by decide +kernel
theorem dX10_checksum_142 : decode cX10_checksum 142 = .ok (.getfield 112, 3) := by decide +kernel
theorem dX10_checksum_145 : decode cX10_checksum 145 = .ok (.invokestatic 203, 3) := by decide +kernel
theorem dX10_checksum_148 : decode cX10_checksum 148 = .ok (.aload_n 0, 1) := by decide +kernel
theorem dX10_checksum_149 : decode cX10_checksum 149 = .ok (.getfield 29, 3) := by decide +kernel
theorem dX10_checksum_152 : decode cX10_checksum 152 = .ok (.invokestatic 203, 3) := by decide +kernel
theorem dX10_checksum_155 : decode cX10_checksum 155 = .ok (.aload_n 0, 1) := by decide +kernel
theorem dX10_checksum_156 : decode cX10_checksum 156 = .ok (.getfield 161, 3) := by decide +kernel
theorem dX10_checksum_159 : decode cX10_checksum 159 = .ok (.invokestatic 203, 3) := by decide +kernel
theorem dX10_checksum_162 : decode cX10_checksum 162 = .ok (.lstore_n 1, 1) := by decide +kernel
theorem dX10_checksum_163 : decode cX10_checksum 163 = .ok (.iconst 0, 1) := by decide +kernel
theorem dX10_checksum_164 : decode cX10_checksum 164 = .ok (.istore_n 3, 1) := by decide +kernel
theorem dX10_checksum_165 : decode cX10_checksum 165 = .ok (.iload_n 3, 1) := by decide +kernel
theorem dX10_checksum_166 : decode cX10_checksum 166 = .ok (.aload_n 0, 1) := by decide +kernel
theorem dX10_checksum_167 : decode cX10_checksum 167 = .ok (.getfield 161, 3) := by decide +kernel
theorem dX10_checksum_170 : decode cX10_checksum 170 = .ok (.if_icmp .ge 36, 3) := by decide +kernel
theorem dX10_checksum_173 : decode cX10_checksum 173 = .ok (.iconst 0, 1) := by decide +kernel
theorem dX10_checksum_174 : decode cX10_checksum 174 = .ok (.istore 4, 2) := by decide +kernel
theorem dX10_checksum_176 : decode cX10_checksum 176 = .ok (.iload 4, 2) := by decide +kernel
theorem dX10_checksum_178 : decode cX10_checksum 178 = .ok (.iconst 5, 1) := by decide +kernel
theorem dX10_checksum_179 : decode cX10_checksum 179 = .ok (.if_icmp .ge 21, 3) := by decide +kernel
theorem dX10_checksum_182 : decode cX10_checksum 182 = .ok (.lload_n 1, 1) := by decide +kernel
theorem dX10_checksum_183 : decode cX10_checksum 183 = .ok (.aload_n 0, 1) := by decide +kernel
theorem dX10_checksum_184 : decode cX10_checksum 184 = .ok (.iload_n 3, 1) := by decide +kernel
theorem dX10_checksum_185 : decode cX10_checksum 185 = .ok (.iload 4, 2) := by decide +kernel
theorem dX10_checksum_187 : decode cX10_checksum 187 = .ok (.invokevirtual 179, 3) := by decide +kernel
theorem dX10_checksum_190 : decode cX10_checksum 190 = .ok (.invokestatic 203, 3) := by decide +kernel
theorem dX10_checksum_193 : decode cX10_checksum 193 = .ok (.lstore_n 1, 1) := by decide +kernel
theorem dX10_checksum_194 : decode cX10_checksum 194 = .ok (.iinc 4 1, 3) := by decide +kernel
theorem dX10_checksum_197 : decode cX10_checksum 197 = .ok (.goto (-21), 3) := by decide +kernel
theorem dX10_checksum_200 : decode cX10_checksum 200 = .ok (.iinc 3 1, 3) := by decide +kernel
theorem dX10_checksum_203 : decode cX10_checksum 203 = .ok (.goto (-38), 3) := by decide +kernel
theorem dX10_checksum_206 : decode cX10_checksum 206 = .ok (.lload_n 1, 1) := by decide +kernel
theorem dX10_checksum_207 : decode cX10_checksum 207 = .ok (.lreturn, 1) := by decide +kernel
theorem dJ9_abs_0f7a4_0 : decode cJ9_abs_0f7a4 0 = .ok (.iload_n 0, 1) := by decide +kernel
theorem dJ9_abs_0f7a4_1 : decode cJ9_abs_0f7a4 1 = .ok (.ifCond .ge 8, 3) := by decide +kernel
theorem dJ9_abs_0f7a4_4 : decode cJ9_abs_0f7a4 4 = .ok (.iload_n 0, 1) := by decide +kernel
theorem dJ9_abs_0f7a4_5 : decode cJ9_abs_0f7a4 5 = .ok (.ineg, 1) := by decide +kernel
theorem dJ9_abs_0f7a4_6 : decode cJ9_abs_0f7a4 6 = .ok (.goto 4, 3) := by decide +kernel
theorem dJ9_abs_0f7a4_9 : decode cJ9_abs_0f7a4 9 = .ok (.iload_n 0, 1) := by decide +kernel
theorem dJ9_abs_0f7a4_10 : decode cJ9_abs_0f7a4 10 = .ok (.ireturn, 1) := by decide +kernel
theorem dJ9_max_7cf53_0 : decode cJ9_max_7cf53 0 = .ok (.iload_n 0, 1) := by decide +kernel
theorem dJ9_max_7cf53_1 : decode cJ9_max_7cf53 1 = .ok (.iload_n 1, 1) := by decide +kernel
theorem dJ9_max_7cf53_2 : decode cJ9_max_7cf53 2 = .ok (.if_icmp .lt 7, 3) := by decide +kernel
theorem dJ9_max_7cf53_5 : decode cJ9_max_7cf53 5 = .ok (.iload_n 0, 1) := by decide +kernel
theorem dJ9_max_7cf53_6 : decode cJ9_max_7cf53 6 = .ok (.goto 4, 3) := by decide +kernel
theorem dJ9_max_7cf53_9 : decode cJ9_max_7cf53 9 = .ok (.iload_n 1, 1) := by decide +kernel
theorem dJ9_max_7cf53_10 : decode cJ9_max_7cf53 10 = .ok (.ireturn, 1) := by decide +kernel
theorem dJ9_min_7cf53_0 : decode cJ9_min_7cf53 0 = .ok (.iload_n 0, 1) := by decide +kernel
theorem dJ9_min_7cf53_1 : decode cJ9_min_7cf53 1 = .ok (.iload_n 1, 1) := by decide +kernel
theorem dJ9_min_7cf53_2 : decode cJ9_min_7cf53 2 = .ok (.if_icmp .gt 7, 3) := by decide +kernel
theorem dJ9_min_7cf53_5 : decode cJ9_min_7cf53 5 = .ok (.iload_n 0, 1) := by decide +kernel
theorem dJ9_min_7cf53_6 : decode cJ9_min_7cf53 6 = .ok (.goto 4, 3) := by decide +kernel
theorem dJ9_min_7cf53_9 : decode cJ9_min_7cf53 9 = .ok (.iload_n 1, 1) := by decide +kernel
theorem dJ9_min_7cf53_10 : decode cJ9_min_7cf53 10 = .ok (.ireturn, 1) := by decide +kernel
abbrev vwCl : List vw_C := [(RX0, TX0, 3), (RX1, TX1, 2), (RX2, TX2, 4), (RX3, TX3, 2), (RX4, TX4, 4), (RX5, TX5, 7), (RX6, TX6, 2), (RX7, TX7, 4), (RX8, TX8, 2), (RX9, TX9, 7), (RX10, TX10, 29)]
