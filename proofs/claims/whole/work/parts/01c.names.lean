theorem dX5_addBlocksOf_24 : decode cX5_addBlocksOf 24 = .ok (.aload_n 2, 1) := by decide +kernel
theorem dX5_addBlocksOf_25 : decode cX5_addBlocksOf 25 = .ok (.iload_n 3, 1) := by decide +kernel
theorem dX5_addBlocksOf_26 : decode cX5_addBlocksOf 26 = .ok (.invokevirtual 57, 3) := by decide +kernel
theorem dX5_addBlocksOf_29 : decode cX5_addBlocksOf 29 = .ok (.iconst 0, 1) := by decide +kernel
theorem dX5_addBlocksOf_30 : decode cX5_addBlocksOf 30 = .ok (.istore 5, 2) := by decide +kernel
theorem dX5_addBlocksOf_32 : decode cX5_addBlocksOf 32 = .ok (.iload 5, 2) := by decide +kernel
theorem dX5_addBlocksOf_34 : decode cX5_addBlocksOf 34 = .ok (.iconst 4, 1) := by decide +kernel
theorem dX5_addBlocksOf_35 : decode cX5_addBlocksOf 35 = .ok (.if_icmp .ge 26, 3) := by decide +kernel
theorem dX5_addBlocksOf_38 : decode cX5_addBlocksOf 38 = .ok (.aload_n 0, 1) := by decide +kernel
theorem dX5_addBlocksOf_39 : decode cX5_addBlocksOf 39 = .ok (.aload_n 0, 1) := by decide +kernel
theorem dX5_addBlocksOf_40 : decode cX5_addBlocksOf 40 = .ok (.getfield 12, 3) := by decide +kernel
theorem dX5_addBlocksOf_43 : decode cX5_addBlocksOf 43 = .ok (.iload 4, 2) := by decide +kernel
theorem dX5_addBlocksOf_45 : decode cX5_addBlocksOf 45 = .ok (.iload_n 3, 1) := by decide +kernel
theorem dX5_addBlocksOf_46 : decode cX5_addBlocksOf 46 = .ok (.iload 5, 2) := by decide +kernel
theorem dX5_addBlocksOf_48 : decode cX5_addBlocksOf 48 = .ok (.invokevirtual 82, 3) := by decide +kernel
theorem dX5_addBlocksOf_51 : decode cX5_addBlocksOf 51 = .ok (.aload_n 2, 1) := by decide +kernel
theorem dX5_addBlocksOf_52 : decode cX5_addBlocksOf 52 = .ok (.invokevirtual 138, 3) := by decide +kernel
theorem dX5_addBlocksOf_55 : decode cX5_addBlocksOf 55 = .ok (.iinc 5 1, 3) := by decide +kernel
theorem dX5_addBlocksOf_58 : decode cX5_addBlocksOf 58 = .ok (.goto (-26), 3) := by decide +kernel
theorem dX5_addBlocksOf_61 : decode cX5_addBlocksOf 61 = .ok (.return_, 1) := by decide +kernel
set_option maxRecDepth 20000 in
theorem ggX5_addParent_X8_below : GoodIn wsX5_addParent wsX8_below := goodIn_r _ [4] (by decide +kernel) (by decide +kernel)
set_option maxRecDepth 20000 in
theorem gX5_addParent_X8_below_n142 : GoodIn wsX5_addParent (wsX8_below) := ggX5_addParent_X8_below
set_option maxRecDepth 20000 in
theorem ggX5_addParent_X5_copyToFollow : GoodIn wsX5_addParent wsX5_copyToFollow := goodIn_r _ [9, 1, 10, 11, 12, 13, 14, 2, 3, 4, 15, 16, 17, 18, 19, 20, 21, 22, 23, 24, 25, 36, 37, 38, 39, 40, 41] (by decide +kernel) (by decide +kernel)
set_option maxRecDepth 20000 in
theorem gX5_addParent_X5_copyToFollow : GoodIn wsX5_addParent (wsV RX5 135 RX5 yX5_copyToFollow wsX5_copyToFollow) := goodIn_app (goodIn_of _ (by decide +kernel)) ggX5_addParent_X5_copyToFollow
set_option maxRecDepth 20000 in
theorem ggX5_addParent_X0_add : GoodIn wsX5_addParent wsX0_add := goodIn_r _ [30, 31, 2, 3, 4, 42] (by decide +kernel) (by decide +kernel)
set_option maxRecDepth 20000 in
theorem gX5_addParent_X0_add : GoodIn wsX5_addParent (wsV RX5 57 RX0 yX0_add wsX0_add) := goodIn_app (goodIn_of _ (by decide +kernel)) ggX5_addParent_X0_add
set_option maxRecDepth 20000 in
theorem ggX5_addParent_X1_numberAt : GoodIn wsX5_addParent wsX1_numberAt := goodIn_r _ [35, 19, 20, 21, 22, 13, 23, 2, 3, 4, 41] (by decide +kernel) (by decide +kernel)
set_option maxRecDepth 20000 in
theorem gX5_addParent_X1_numberAt : GoodIn wsX5_addParent (wsV RX5 82 RX1 yX1_numberAt wsX1_numberAt) := goodIn_app (goodIn_of _ (by decide +kernel)) ggX5_addParent_X1_numberAt
theorem dX5_addParent_0 : decode cX5_addParent 0 = .ok (.iload_n 1, 1) := by decide +kernel
theorem dX5_addParent_1 : decode cX5_addParent 1 = .ok (.sipush 256, 3) := by decide +kernel
theorem dX5_addParent_4 : decode cX5_addParent 4 = .ok (.idiv, 1) := by decide +kernel
theorem dX5_addParent_5 : decode cX5_addParent 5 = .ok (.istore_n 3, 1) := by decide +kernel
theorem dX5_addParent_6 : decode cX5_addParent 6 = .ok (.iload_n 3, 1) := by decide +kernel
theorem dX5_addParent_7 : decode cX5_addParent 7 = .ok (.bipush 96, 2) := by decide +kernel
theorem dX5_addParent_9 : decode cX5_addParent 9 = .ok (.invokestatic 142, 3) := by decide +kernel
theorem dX5_addParent_12 : decode cX5_addParent 12 = .ok (.ifCond .ne 4, 3) := by decide +kernel
theorem dX5_addParent_15 : decode cX5_addParent 15 = .ok (.return_, 1) := by decide +kernel
theorem dX5_addParent_16 : decode cX5_addParent 16 = .ok (.aload_n 0, 1) := by decide +kernel
theorem dX5_addParent_17 : decode cX5_addParent 17 = .ok (.iload_n 3, 1) := by decide +kernel
theorem dX5_addParent_18 : decode cX5_addParent 18 = .ok (.iload_n 1, 1) := by decide +kernel
theorem dX5_addParent_19 : decode cX5_addParent 19 = .ok (.sipush 256, 3) := by decide +kernel
theorem dX5_addParent_22 : decode cX5_addParent 22 = .ok (.irem, 1) := by decide +kernel
theorem dX5_addParent_23 : decode cX5_addParent 23 = .ok (.invokevirtual 135, 3) := by decide +kernel
theorem dX5_addParent_26 : decode cX5_addParent 26 = .ok (.istore 4, 2) := by decide +kernel
theorem dX5_addParent_28 : decode cX5_addParent 28 = .ok (.aload_n 2, 1) := by decide +kernel
theorem dX5_addParent_29 : decode cX5_addParent 29 = .ok (.iload_n 3, 1) := by decide +kernel
theorem dX5_addParent_30 : decode cX5_addParent 30 = .ok (.invokevirtual 57, 3) := by decide +kernel
theorem dX5_addParent_33 : decode cX5_addParent 33 = .ok (.iconst 0, 1) := by decide +kernel
theorem dX5_addParent_34 : decode cX5_addParent 34 = .ok (.istore 5, 2) := by decide +kernel
theorem dX5_addParent_36 : decode cX5_addParent 36 = .ok (.iload 5, 2) := by decide +kernel
theorem dX5_addParent_38 : decode cX5_addParent 38 = .ok (.iconst 4, 1) := by decide +kernel
theorem dX5_addParent_39 : decode cX5_addParent 39 = .ok (.if_icmp .ge 29, 3) := by decide +kernel
theorem dX5_addParent_42 : decode cX5_addParent 42 = .ok (.aload_n 2, 1) := by decide +kernel
theorem dX5_addParent_43 : decode cX5_addParent 43 = .ok (.aload_n 0, 1) := by decide +kernel
theorem dX5_addParent_44 : decode cX5_addParent 44 = .ok (.getfield 12, 3) := by decide +kernel
theorem dX5_addParent_47 : decode cX5_addParent 47 = .ok (.iload 4, 2) := by decide +kernel
theorem dX5_addParent_49 : decode cX5_addParent 49 = .ok (.iload_n 3, 1) := by decide +kernel
theorem dX5_addParent_50 : decode cX5_addParent 50 = .ok (.iload 5, 2) := by decide +kernel
theorem dX5_addParent_52 : decode cX5_addParent 52 = .ok (.invokevirtual 82, 3) := by decide +kernel
theorem dX5_addParent_55 : decode cX5_addParent 55 = .ok (.sipush 256, 3) := by decide +kernel
theorem dX5_addParent_58 : decode cX5_addParent 58 = .ok (.idiv, 1) := by decide +kernel
theorem dX5_addParent_59 : decode cX5_addParent 59 = .ok (.invokevirtual 57, 3) := by decide +kernel
theorem dX5_addParent_62 : decode cX5_addParent 62 = .ok (.iinc 5 1, 3) := by decide +kernel
theorem dX5_addParent_65 : decode cX5_addParent 65 = .ok (.goto (-29), 3) := by decide +kernel
theorem dX5_addParent_68 : decode cX5_addParent 68 = .ok (.return_, 1) := by decide +kernel
set_option maxRecDepth 20000 in
theorem ggX5_copyToFollow_X1_copyWithSum : GoodIn wsX5_copyToFollow wsX1_copyWithSum := goodIn_r _ [6, 7, 8, 9, 10, 11, 12, 5, 13, 14, 15, 16, 17, 18, 19, 20, 26] (by decide +kernel) (by decide +kernel)
set_option maxRecDepth 20000 in
theorem gX5_copyToFollow_X1_copyWithSum : GoodIn wsX5_copyToFollow (wsV RX5 77 RX1 yX1_copyWithSum wsX1_copyWithSum) := goodIn_app (goodIn_of _ (by decide +kernel)) ggX5_copyToFollow_X1_copyWithSum
theorem dX5_copyToFollow_0 : decode cX5_copyToFollow 0 = .ok (.aload_n 0, 1) := by decide +kernel
theorem dX5_copyToFollow_1 : decode cX5_copyToFollow 1 = .ok (.getfield 12, 3) := by decide +kernel
theorem dX5_copyToFollow_4 : decode cX5_copyToFollow 4 = .ok (.iload_n 1, 1) := by decide +kernel
theorem dX5_copyToFollow_5 : decode cX5_copyToFollow 5 = .ok (.iload_n 2, 1) := by decide +kernel
theorem dX5_copyToFollow_6 : decode cX5_copyToFollow 6 = .ok (.invokevirtual 77, 3) := by decide +kernel
theorem dX5_copyToFollow_9 : decode cX5_copyToFollow 9 = .ok (.istore_n 3, 1) := by decide +kernel
theorem dX5_copyToFollow_10 : decode cX5_copyToFollow 10 = .ok (.iload_n 3, 1) := by decide +kernel
theorem dX5_copyToFollow_11 : decode cX5_copyToFollow 11 = .ok (.iconst 2, 1) := by decide +kernel
theorem dX5_copyToFollow_12 : decode cX5_copyToFollow 12 = .ok (.if_icmp .ne 7, 3) := by decide +kernel
theorem dX5_copyToFollow_15 : decode cX5_copyToFollow 15 = .ok (.iconst 0, 1) := by decide +kernel
theorem dX5_copyToFollow_16 : decode cX5_copyToFollow 16 = .ok (.goto 4, 3) := by decide +kernel
theorem dX5_copyToFollow_19 : decode cX5_copyToFollow 19 = .ok (.iload_n 3, 1) := by decide +kernel
theorem dX5_copyToFollow_20 : decode cX5_copyToFollow 20 = .ok (.ireturn, 1) := by decide +kernel
set_option maxRecDepth 20000 in
theorem ggX5_settleUse_X0_copyFrom : GoodIn wsX5_settleUse wsX0_copyFrom := goodIn_r _ [7, 8, 79] (by decide +kernel) (by decide +kernel)
set_option maxRecDepth 20000 in
theorem gX5_settleUse_X0_copyFrom : GoodIn wsX5_settleUse (wsV RX5 40 RX0 yX0_copyFrom wsX0_copyFrom) := goodIn_app (goodIn_of _ (by decide +kernel)) ggX5_settleUse_X0_copyFrom
set_option maxRecDepth 20000 in
theorem ggX5_settleUse_X0_clear : GoodIn wsX5_settleUse wsX0_clear := goodIn_r _ [12, 8, 79] (by decide +kernel) (by decide +kernel)
set_option maxRecDepth 20000 in
theorem gX5_settleUse_X0_clear : GoodIn wsX5_settleUse (wsV RX5 146 RX0 yX0_clear wsX0_clear) := goodIn_app (goodIn_of _ (by decide +kernel)) ggX5_settleUse_X0_clear
set_option maxRecDepth 20000 in
theorem ggX5_settleUse_X3_size : GoodIn wsX5_settleUse wsX3_size := goodIn_r _ [17, 18, 80, 81, 82, 83] (by decide +kernel) (by decide +kernel)
set_option maxRecDepth 20000 in
theorem gX5_settleUse_X3_size : GoodIn wsX5_settleUse (wsV RX5 93 RX3 yX3_size wsX3_size) := goodIn_app (goodIn_of _ (by decide +kernel)) ggX5_settleUse_X3_size
set_option maxRecDepth 20000 in
theorem ggX5_settleUse_X5_addBlocksOf : GoodIn wsX5_settleUse wsX5_addBlocksOf := goodIn_r _ [23, 2, 24, 25, 26, 27, 16, 28, 29, 30, 31, 32, 33, 34, 35, 36, 37, 38, 39, 40, 22, 41, 42, 43, 44, 45, 46, 47, 48, 49, 50, 51, 52, 53, 54, 55, 56, 57, 58, 59, 60, 6, 61, 8, 62, 63, 64, 65, 66, 67, 68, 69, 74, 75, 76, 77, 78, 80, 81, 82, 83, 84, 79] (by decide +kernel) (by decide +kernel)
set_option maxRecDepth 20000 in
theorem gX5_settleUse_X5_addBlocksOf : GoodIn wsX5_settleUse (wsV RX5 147 RX5 yX5_addBlocksOf wsX5_addBlocksOf) := goodIn_app (goodIn_of _ (by decide +kernel)) ggX5_settleUse_X5_addBlocksOf
set_option maxRecDepth 20000 in
theorem ggX5_settleUse_X0_sizeWithout : GoodIn wsX5_settleUse wsX0_sizeWithout := goodIn_r _ [73, 8, 79] (by decide +kernel) (by decide +kernel)
set_option maxRecDepth 20000 in
theorem gX5_settleUse_X0_sizeWithout : GoodIn wsX5_settleUse (wsV RX5 150 RX0 yX0_sizeWithout wsX0_sizeWithout) := goodIn_app (goodIn_of _ (by decide +kernel)) ggX5_settleUse_X0_sizeWithout
theorem dX5_settleUse_0 : decode cX5_settleUse 0 = .ok (.aload_n 1, 1) := by decide +kernel
theorem dX5_settleUse_1 : decode cX5_settleUse 1 = .ok (.aload_n 0, 1) := by decide +kernel
theorem dX5_settleUse_2 : decode cX5_settleUse 2 = .ok (.getfield 21, 3) := by decide +kernel
theorem dX5_settleUse_5 : decode cX5_settleUse 5 = .ok (.invokevirtual 40, 3) := by decide +kernel
theorem dX5_settleUse_8 : decode cX5_settleUse 8 = .ok (.aload_n 0, 1) := by decide +kernel
theorem dX5_settleUse_9 : decode cX5_settleUse 9 = .ok (.getfield 21, 3) := by decide +kernel
theorem dX5_settleUse_12 : decode cX5_settleUse 12 = .ok (.invokevirtual 146, 3) := by decide +kernel
theorem dX5_settleUse_15 : decode cX5_settleUse 15 = .ok (.iconst 0, 1) := by decide +kernel
theorem dX5_settleUse_16 : decode cX5_settleUse 16 = .ok (.istore_n 2, 1) := by decide +kernel
theorem dX5_settleUse_17 : decode cX5_settleUse 17 = .ok (.iload_n 2, 1) := by decide +kernel
theorem dX5_settleUse_18 : decode cX5_settleUse 18 = .ok (.aload_n 0, 1) := by decide +kernel
theorem dX5_settleUse_19 : decode cX5_settleUse 19 = .ok (.getfield 28, 3) := by decide +kernel
theorem dX5_settleUse_22 : decode cX5_settleUse 22 = .ok (.invokevirtual 93, 3) := by decide +kernel
theorem dX5_settleUse_25 : decode cX5_settleUse 25 = .ok (.if_icmp .ge 18, 3) := by decide +kernel
theorem dX5_settleUse_28 : decode cX5_settleUse 28 = .ok (.aload_n 0, 1) := by decide +kernel
theorem dX5_settleUse_29 : decode cX5_settleUse 29 = .ok (.iload_n 2, 1) := by decide +kernel
theorem dX5_settleUse_30 : decode cX5_settleUse 30 = .ok (.aload_n 0, 1) := by decide +kernel
theorem dX5_settleUse_31 : decode cX5_settleUse 31 = .ok (.getfield 21, 3) := by decide +kernel
theorem dX5_settleUse_34 : decode cX5_settleUse 34 = .ok (.invokevirtual 147, 3) := by decide +kernel
theorem dX5_settleUse_37 : decode cX5_settleUse 37 = .ok (.iinc 2 1, 3) := by decide +kernel
theorem dX5_settleUse_40 : decode cX5_settleUse 40 = .ok (.goto (-23), 3) := by decide +kernel
theorem dX5_settleUse_43 : decode cX5_settleUse 43 = .ok (.aload_n 1, 1) := by decide +kernel
theorem dX5_settleUse_44 : decode cX5_settleUse 44 = .ok (.aload_n 0, 1) := by decide +kernel
theorem dX5_settleUse_45 : decode cX5_settleUse 45 = .ok (.getfield 21, 3) := by decide +kernel
theorem dX5_settleUse_48 : decode cX5_settleUse 48 = .ok (.invokevirtual 150, 3) := by decide +kernel
theorem dX5_settleUse_51 : decode cX5_settleUse 51 = .ok (.ireturn, 1) := by decide +kernel
set_option maxRecDepth 20000 in
theorem ggX5_unlikeLeaves_X3_blockAt : GoodIn wsX5_unlikeLeaves wsX3_blockAt := goodIn_r _ [8, 9, 10, 11, 12, 48, 49, 50, 51] (by decide +kernel) (by decide +kernel)
set_option maxRecDepth 20000 in
theorem gX5_unlikeLeaves_X3_blockAt : GoodIn wsX5_unlikeLeaves (wsV RX5 70 RX3 yX3_blockAt wsX3_blockAt) := goodIn_app (goodIn_of _ (by decide +kernel)) ggX5_unlikeLeaves_X3_blockAt
set_option maxRecDepth 20000 in
theorem ggX5_unlikeLeaves_X3_sumAt : GoodIn wsX5_unlikeLeaves wsX3_sumAt := goodIn_r _ [16, 17, 10, 11, 12, 48, 49, 50, 51] (by decide +kernel) (by decide +kernel)
set_option maxRecDepth 20000 in
theorem gX5_unlikeLeaves_X3_sumAt : GoodIn wsX5_unlikeLeaves (wsV RX5 74 RX3 yX3_sumAt wsX3_sumAt) := goodIn_app (goodIn_of _ (by decide +kernel)) ggX5_unlikeLeaves_X3_sumAt
set_option maxRecDepth 20000 in
theorem ggX5_unlikeLeaves_X1_copyWithSum : GoodIn wsX5_unlikeLeaves wsX1_copyWithSum := goodIn_r _ [22, 10, 11, 12, 23, 24, 25, 21, 26, 27, 28, 29, 30, 31, 32, 33, 52] (by decide +kernel) (by decide +kernel)
set_option maxRecDepth 20000 in
theorem gX5_unlikeLeaves_X1_copyWithSum : GoodIn wsX5_unlikeLeaves (wsV RX5 77 RX1 yX1_copyWithSum wsX1_copyWithSum) := goodIn_app (goodIn_of _ (by decide +kernel)) ggX5_unlikeLeaves_X1_copyWithSum
set_option maxRecDepth 20000 in
theorem ggX5_unlikeLeaves_X1_numberAt : GoodIn wsX5_unlikeLeaves wsX1_numberAt := goodIn_r _ [37, 27, 28, 29, 30, 21, 31, 10, 11, 12, 52] (by decide +kernel) (by decide +kernel)
set_option maxRecDepth 20000 in
theorem gX5_unlikeLeaves_X1_numberAt : GoodIn wsX5_unlikeLeaves (wsV RX5 82 RX1 yX1_numberAt wsX1_numberAt) := goodIn_app (goodIn_of _ (by decide +kernel)) ggX5_unlikeLeaves_X1_numberAt
set_option maxRecDepth 20000 in
theorem ggX5_unlikeLeaves_X5_unlikeChildren : GoodIn wsX5_unlikeLeaves wsX5_unlikeChildren := goodIn_r _ [42, 2, 3, 18, 19, 20, 21, 22, 10, 11, 12, 23, 24, 25, 26, 27, 28, 29, 30, 31, 32, 33, 34, 35, 36, 37, 43, 44, 45, 46, 47, 52] (by decide +kernel) (by decide +kernel)
set_option maxRecDepth 20000 in
theorem gX5_unlikeLeaves_X5_unlikeChildren : GoodIn wsX5_unlikeLeaves (wsV RX5 154 RX5 yX5_unlikeChildren wsX5_unlikeChildren) := goodIn_app (goodIn_of _ (by decide +kernel)) ggX5_unlikeLeaves_X5_unlikeChildren
theorem dX5_unlikeLeaves_0 : decode cX5_unlikeLeaves 0 = .ok (.aload_n 0, 1) := by decide +kernel
theorem dX5_unlikeLeaves_1 : decode cX5_unlikeLeaves 1 = .ok (.getfield 28, 3) := by decide +kernel
theorem dX5_unlikeLeaves_4 : decode cX5_unlikeLeaves 4 = .ok (.iload_n 1, 1) := by decide +kernel
theorem dX5_unlikeLeaves_5 : decode cX5_unlikeLeaves 5 = .ok (.invokevirtual 70, 3) := by decide +kernel
theorem dX5_unlikeLeaves_8 : decode cX5_unlikeLeaves 8 = .ok (.istore_n 3, 1) := by decide +kernel
theorem dX5_unlikeLeaves_9 : decode cX5_unlikeLeaves 9 = .ok (.aload_n 0, 1) := by decide +kernel
theorem dX5_unlikeLeaves_10 : decode cX5_unlikeLeaves 10 = .ok (.getfield 28, 3) := by decide +kernel
theorem dX5_unlikeLeaves_13 : decode cX5_unlikeLeaves 13 = .ok (.iload_n 2, 1) := by decide +kernel
theorem dX5_unlikeLeaves_14 : decode cX5_unlikeLeaves 14 = .ok (.invokevirtual 70, 3) := by decide +kernel
theorem dX5_unlikeLeaves_17 : decode cX5_unlikeLeaves 17 = .ok (.istore 4, 2) := by decide +kernel
theorem dX5_unlikeLeaves_19 : decode cX5_unlikeLeaves 19 = .ok (.iload_n 3, 1) := by decide +kernel
theorem dX5_unlikeLeaves_20 : decode cX5_unlikeLeaves 20 = .ok (.iload 4, 2) := by decide +kernel
theorem dX5_unlikeLeaves_22 : decode cX5_unlikeLeaves 22 = .ok (.if_icmp .ne 5, 3) := by decide +kernel
theorem dX5_unlikeLeaves_25 : decode cX5_unlikeLeaves 25 = .ok (.iconst 0, 1) := by decide +kernel
theorem dX5_unlikeLeaves_26 : decode cX5_unlikeLeaves 26 = .ok (.ireturn, 1) := by decide +kernel
theorem dX5_unlikeLeaves_27 : decode cX5_unlikeLeaves 27 = .ok (.aload_n 0, 1) := by decide +kernel
theorem dX5_unlikeLeaves_28 : decode cX5_unlikeLeaves 28 = .ok (.getfield 12, 3) := by decide +kernel
theorem dX5_unlikeLeaves_31 : decode cX5_unlikeLeaves 31 = .ok (.iload_n 3, 1) := by decide +kernel
theorem dX5_unlikeLeaves_32 : decode cX5_unlikeLeaves 32 = .ok (.aload_n 0, 1) := by decide +kernel
theorem dX5_unlikeLeaves_33 : decode cX5_unlikeLeaves 33 = .ok (.getfield 28, 3) := by decide +kernel
theorem dX5_unlikeLeaves_36 : decode cX5_unlikeLeaves 36 = .ok (.iload_n 1, 1) := by decide +kernel
theorem dX5_unlikeLeaves_37 : decode cX5_unlikeLeaves 37 = .ok (.invokevirtual 74, 3) := by decide +kernel
theorem dX5_unlikeLeaves_40 : decode cX5_unlikeLeaves 40 = .ok (.invokevirtual 77, 3) := by decide +kernel
theorem dX5_unlikeLeaves_43 : decode cX5_unlikeLeaves 43 = .ok (.istore 5, 2) := by decide +kernel
theorem dX5_unlikeLeaves_45 : decode cX5_unlikeLeaves 45 = .ok (.aload_n 0, 1) := by decide +kernel
theorem dX5_unlikeLeaves_46 : decode cX5_unlikeLeaves 46 = .ok (.getfield 12, 3) := by decide +kernel
theorem dX5_unlikeLeaves_49 : decode cX5_unlikeLeaves 49 = .ok (.iload 4, 2) := by decide +kernel
theorem dX5_unlikeLeaves_51 : decode cX5_unlikeLeaves 51 = .ok (.aload_n 0, 1) := by decide +kernel
theorem dX5_unlikeLeaves_52 : decode cX5_unlikeLeaves 52 = .ok (.getfield 28, 3) := by decide +kernel
theorem dX5_unlikeLeaves_55 : decode cX5_unlikeLeaves 55 = .ok (.iload_n 2, 1) := by decide +kernel
theorem dX5_unlikeLeaves_56 : decode cX5_unlikeLeaves 56 = .ok (.invokevirtual 74, 3) := by decide +kernel
theorem dX5_unlikeLeaves_59 : decode cX5_unlikeLeaves 59 = .ok (.invokevirtual 77, 3) := by decide +kernel
theorem dX5_unlikeLeaves_62 : decode cX5_unlikeLeaves 62 = .ok (.istore 6, 2) := by decide +kernel
theorem dX5_unlikeLeaves_64 : decode cX5_unlikeLeaves 64 = .ok (.iload 5, 2) := by decide +kernel
theorem dX5_unlikeLeaves_66 : decode cX5_unlikeLeaves 66 = .ok (.iconst 2, 1) := by decide +kernel
theorem dX5_unlikeLeaves_67 : decode cX5_unlikeLeaves 67 = .ok (.if_icmp .eq 9, 3) := by decide +kernel
theorem dX5_unlikeLeaves_70 : decode cX5_unlikeLeaves 70 = .ok (.iload 6, 2) := by decide +kernel
theorem dX5_unlikeLeaves_72 : decode cX5_unlikeLeaves 72 = .ok (.iconst 2, 1) := by decide +kernel
theorem dX5_unlikeLeaves_73 : decode cX5_unlikeLeaves 73 = .ok (.if_icmp .ne 6, 3) := by decide +kernel
theorem dX5_unlikeLeaves_76 : decode cX5_unlikeLeaves 76 = .ok (.ldc 107, 2) := by decide +kernel
theorem dX5_unlikeLeaves_78 : decode cX5_unlikeLeaves 78 = .ok (.ireturn, 1) := by decide +kernel
theorem dX5_unlikeLeaves_79 : decode cX5_unlikeLeaves 79 = .ok (.iconst 0, 1) := by decide +kernel
theorem dX5_unlikeLeaves_80 : decode cX5_unlikeLeaves 80 = .ok (.istore 7, 2) := by decide +kernel
theorem dX5_unlikeLeaves_82 : decode cX5_unlikeLeaves 82 = .ok (.iconst 0, 1) := by decide +kernel
theorem dX5_unlikeLeaves_83 : decode cX5_unlikeLeaves 83 = .ok (.istore 8, 2) := by decide +kernel
theorem dX5_unlikeLeaves_85 : decode cX5_unlikeLeaves 85 = .ok (.iload 8, 2) := by decide +kernel
theorem dX5_unlikeLeaves_87 : decode cX5_unlikeLeaves 87 = .ok (.iconst 4, 1) := by decide +kernel
theorem dX5_unlikeLeaves_88 : decode cX5_unlikeLeaves 88 = .ok (.if_icmp .ge 60, 3) := by decide +kernel
theorem dX5_unlikeLeaves_91 : decode cX5_unlikeLeaves 91 = .ok (.aload_n 0, 1) := by decide +kernel
theorem dX5_unlikeLeaves_92 : decode cX5_unlikeLeaves 92 = .ok (.aload_n 0, 1) := by decide +kernel
theorem dX5_unlikeLeaves_93 : decode cX5_unlikeLeaves 93 = .ok (.getfield 12, 3) := by decide +kernel
theorem dX5_unlikeLeaves_96 : decode cX5_unlikeLeaves 96 = .ok (.iload 5, 2) := by decide +kernel
theorem dX5_unlikeLeaves_98 : decode cX5_unlikeLeaves 98 = .ok (.iload_n 3, 1) := by decide +kernel
theorem dX5_unlikeLeaves_99 : decode cX5_unlikeLeaves 99 = .ok (.iload 8, 2) := by decide +kernel
theorem dX5_unlikeLeaves_101 : decode cX5_unlikeLeaves 101 = .ok (.invokevirtual 82, 3) := by decide +kernel
theorem dX5_unlikeLeaves_104 : decode cX5_unlikeLeaves 104 = .ok (.aload_n 0, 1) := by decide +kernel
theorem dX5_unlikeLeaves_105 : decode cX5_unlikeLeaves 105 = .ok (.getfield 12, 3) := by decide +kernel
theorem dX5_unlikeLeaves_108 : decode cX5_unlikeLeaves 108 = .ok (.iload 6, 2) := by decide +kernel
theorem dX5_unlikeLeaves_110 : decode cX5_unlikeLeaves 110 = .ok (.iload 4, 2) := by decide +kernel
theorem dX5_unlikeLeaves_112 : decode cX5_unlikeLeaves 112 = .ok (.iload 8, 2) := by decide +kernel
theorem dX5_unlikeLeaves_114 : decode cX5_unlikeLeaves 114 = .ok (.invokevirtual 82, 3) := by decide +kernel
theorem dX5_unlikeLeaves_117 : decode cX5_unlikeLeaves 117 = .ok (.invokevirtual 154, 3) := by decide +kernel
theorem dX5_unlikeLeaves_120 : decode cX5_unlikeLeaves 120 = .ok (.istore 9, 2) := by decide +kernel
theorem dX5_unlikeLeaves_122 : decode cX5_unlikeLeaves 122 = .ok (.iload 9, 2) := by decide +kernel
theorem dX5_unlikeLeaves_124 : decode cX5_unlikeLeaves 124 = .ok (.ifCond .ge 6, 3) := by decide +kernel
theorem dX5_unlikeLeaves_127 : decode cX5_unlikeLeaves 127 = .ok (.iload 9, 2) := by decide +kernel
theorem dX5_unlikeLeaves_129 : decode cX5_unlikeLeaves 129 = .ok (.ireturn, 1) := by decide +kernel
theorem dX5_unlikeLeaves_130 : decode cX5_unlikeLeaves 130 = .ok (.iload 7, 2) := by decide +kernel
theorem dX5_unlikeLeaves_132 : decode cX5_unlikeLeaves 132 = .ok (.iload 9, 2) := by decide +kernel
theorem dX5_unlikeLeaves_134 : decode cX5_unlikeLeaves 134 = .ok (.iconst 4, 1) := by decide +kernel
theorem dX5_unlikeLeaves_135 : decode cX5_unlikeLeaves 135 = .ok (.iload 8, 2) := by decide +kernel
theorem dX5_unlikeLeaves_137 : decode cX5_unlikeLeaves 137 = .ok (.imul, 1) := by decide +kernel
theorem dX5_unlikeLeaves_138 : decode cX5_unlikeLeaves 138 = .ok (.ishl, 1) := by decide +kernel
theorem dX5_unlikeLeaves_139 : decode cX5_unlikeLeaves 139 = .ok (.ior, 1) := by decide +kernel
theorem dX5_unlikeLeaves_140 : decode cX5_unlikeLeaves 140 = .ok (.istore 7, 2) := by decide +kernel
theorem dX5_unlikeLeaves_142 : decode cX5_unlikeLeaves 142 = .ok (.iinc 8 1, 3) := by decide +kernel
theorem dX5_unlikeLeaves_145 : decode cX5_unlikeLeaves 145 = .ok (.goto (-60), 3) := by decide +kernel
theorem dX5_unlikeLeaves_148 : decode cX5_unlikeLeaves 148 = .ok (.iload 7, 2) := by decide +kernel
theorem dX5_unlikeLeaves_150 : decode cX5_unlikeLeaves 150 = .ok (.ireturn, 1) := by decide +kernel
set_option maxRecDepth 20000 in
theorem ggX5_unlikeChildren_X1_copyWithSum : GoodIn wsX5_unlikeChildren wsX1_copyWithSum := goodIn_r _ [7, 8, 9, 10, 11, 12, 13, 6, 14, 15, 16, 17, 18, 19, 20, 21, 31] (by decide +kernel) (by decide +kernel)
set_option maxRecDepth 20000 in
theorem gX5_unlikeChildren_X1_copyWithSum : GoodIn wsX5_unlikeChildren (wsV RX5 77 RX1 yX1_copyWithSum wsX1_copyWithSum) := goodIn_app (goodIn_of _ (by decide +kernel)) ggX5_unlikeChildren_X1_copyWithSum
set_option maxRecDepth 20000 in
theorem ggX5_unlikeChildren_X1_numberAt : GoodIn wsX5_unlikeChildren wsX1_numberAt := goodIn_r _ [25, 15, 16, 17, 18, 6, 19, 8, 9, 10, 31] (by decide +kernel) (by decide +kernel)
set_option maxRecDepth 20000 in
theorem gX5_unlikeChildren_X1_numberAt : GoodIn wsX5_unlikeChildren (wsV RX5 82 RX1 yX1_numberAt wsX1_numberAt) := goodIn_app (goodIn_of _ (by decide +kernel)) ggX5_unlikeChildren_X1_numberAt
theorem dX5_unlikeChildren_0 : decode cX5_unlikeChildren 0 = .ok (.iload_n 1, 1) := by decide +kernel
theorem dX5_unlikeChildren_1 : decode cX5_unlikeChildren 1 = .ok (.sipush 256, 3) := by decide +kernel
theorem dX5_unlikeChildren_4 : decode cX5_unlikeChildren 4 = .ok (.idiv, 1) := by decide +kernel
theorem dX5_unlikeChildren_5 : decode cX5_unlikeChildren 5 = .ok (.istore_n 3, 1) := by decide +kernel
theorem dX5_unlikeChildren_6 : decode cX5_unlikeChildren 6 = .ok (.iload_n 2, 1) := by decide +kernel
theorem dX5_unlikeChildren_7 : decode cX5_unlikeChildren 7 = .ok (.sipush 256, 3) := by decide +kernel
theorem dX5_unlikeChildren_10 : decode cX5_unlikeChildren 10 = .ok (.idiv, 1) := by decide +kernel
theorem dX5_unlikeChildren_11 : decode cX5_unlikeChildren 11 = .ok (.istore 4, 2) := by decide +kernel
theorem dX5_unlikeChildren_13 : decode cX5_unlikeChildren 13 = .ok (.iload_n 3, 1) := by decide +kernel
theorem dX5_unlikeChildren_14 : decode cX5_unlikeChildren 14 = .ok (.iload 4, 2) := by decide +kernel
theorem dX5_unlikeChildren_16 : decode cX5_unlikeChildren 16 = .ok (.if_icmp .ne 5, 3) := by decide +kernel
theorem dX5_unlikeChildren_19 : decode cX5_unlikeChildren 19 = .ok (.iconst 0, 1) := by decide +kernel
theorem dX5_unlikeChildren_20 : decode cX5_unlikeChildren 20 = .ok (.ireturn, 1) := by decide +kernel
theorem dX5_unlikeChildren_21 : decode cX5_unlikeChildren 21 = .ok (.aload_n 0, 1) := by decide +kernel
theorem dX5_unlikeChildren_22 : decode cX5_unlikeChildren 22 = .ok (.getfield 12, 3) := by decide +kernel
theorem dX5_unlikeChildren_25 : decode cX5_unlikeChildren 25 = .ok (.iload_n 3, 1) := by decide +kernel
theorem dX5_unlikeChildren_26 : decode cX5_unlikeChildren 26 = .ok (.iload_n 1, 1) := by decide +kernel
theorem dX5_unlikeChildren_27 : decode cX5_unlikeChildren 27 = .ok (.sipush 256, 3) := by decide +kernel
theorem dX5_unlikeChildren_30 : decode cX5_unlikeChildren 30 = .ok (.irem, 1) := by decide +kernel
theorem dX5_unlikeChildren_31 : decode cX5_unlikeChildren 31 = .ok (.invokevirtual 77, 3) := by decide +kernel
theorem dX5_unlikeChildren_34 : decode cX5_unlikeChildren 34 = .ok (.istore 5, 2) := by decide +kernel
theorem dX5_unlikeChildren_36 : decode cX5_unlikeChildren 36 = .ok (.aload_n 0, 1) := by decide +kernel
theorem dX5_unlikeChildren_37 : decode cX5_unlikeChildren 37 = .ok (.getfield 12, 3) := by decide +kernel
theorem dX5_unlikeChildren_40 : decode cX5_unlikeChildren 40 = .ok (.iload 4, 2) := by decide +kernel
theorem dX5_unlikeChildren_42 : decode cX5_unlikeChildren 42 = .ok (.iload_n 2, 1) := by decide +kernel
theorem dX5_unlikeChildren_43 : decode cX5_unlikeChildren 43 = .ok (.sipush 256, 3) := by decide +kernel
theorem dX5_unlikeChildren_46 : decode cX5_unlikeChildren 46 = .ok (.irem, 1) := by decide +kernel
theorem dX5_unlikeChildren_47 : decode cX5_unlikeChildren 47 = .ok (.invokevirtual 77, 3) := by decide +kernel
theorem dX5_unlikeChildren_50 : decode cX5_unlikeChildren 50 = .ok (.istore 6, 2) := by decide +kernel
theorem dX5_unlikeChildren_52 : decode cX5_unlikeChildren 52 = .ok (.iload 5, 2) := by decide +kernel
theorem dX5_unlikeChildren_54 : decode cX5_unlikeChildren 54 = .ok (.iconst 2, 1) := by decide +kernel
theorem dX5_unlikeChildren_55 : decode cX5_unlikeChildren 55 = .ok (.if_icmp .eq 9, 3) := by decide +kernel
theorem dX5_unlikeChildren_58 : decode cX5_unlikeChildren 58 = .ok (.iload 6, 2) := by decide +kernel
theorem dX5_unlikeChildren_60 : decode cX5_unlikeChildren 60 = .ok (.iconst 2, 1) := by decide +kernel
theorem dX5_unlikeChildren_61 : decode cX5_unlikeChildren 61 = .ok (.if_icmp .ne 6, 3) := by decide +kernel
theorem dX5_unlikeChildren_64 : decode cX5_unlikeChildren 64 = .ok (.ldc 107, 2) := by decide +kernel
theorem dX5_unlikeChildren_66 : decode cX5_unlikeChildren 66 = .ok (.ireturn, 1) := by decide +kernel
theorem dX5_unlikeChildren_67 : decode cX5_unlikeChildren 67 = .ok (.iconst 0, 1) := by decide +kernel
theorem dX5_unlikeChildren_68 : decode cX5_unlikeChildren 68 = .ok (.istore 7, 2) := by decide +kernel
theorem dX5_unlikeChildren_70 : decode cX5_unlikeChildren 70 = .ok (.iconst 0, 1) := by decide +kernel
theorem dX5_unlikeChildren_71 : decode cX5_unlikeChildren 71 = .ok (.istore 8, 2) := by decide +kernel
theorem dX5_unlikeChildren_73 : decode cX5_unlikeChildren 73 = .ok (.iload 8, 2) := by decide +kernel
theorem dX5_unlikeChildren_75 : decode cX5_unlikeChildren 75 = .ok (.iconst 4, 1) := by decide +kernel
theorem dX5_unlikeChildren_76 : decode cX5_unlikeChildren 76 = .ok (.if_icmp .ge 62, 3) := by decide +kernel
theorem dX5_unlikeChildren_79 : decode cX5_unlikeChildren 79 = .ok (.aload_n 0, 1) := by decide +kernel
theorem dX5_unlikeChildren_80 : decode cX5_unlikeChildren 80 = .ok (.getfield 12, 3) := by decide +kernel
theorem dX5_unlikeChildren_83 : decode cX5_unlikeChildren 83 = .ok (.iload 5, 2) := by decide +kernel
theorem dX5_unlikeChildren_85 : decode cX5_unlikeChildren 85 = .ok (.iload_n 3, 1) := by decide +kernel
theorem dX5_unlikeChildren_86 : decode cX5_unlikeChildren 86 = .ok (.iload 8, 2) := by decide +kernel
theorem dX5_unlikeChildren_88 : decode cX5_unlikeChildren 88 = .ok (.invokevirtual 82, 3) := by decide +kernel
theorem dX5_unlikeChildren_91 : decode cX5_unlikeChildren 91 = .ok (.sipush 256, 3) := by decide +kernel
theorem dX5_unlikeChildren_94 : decode cX5_unlikeChildren 94 = .ok (.idiv, 1) := by decide +kernel
theorem dX5_unlikeChildren_95 : decode cX5_unlikeChildren 95 = .ok (.istore 9, 2) := by decide +kernel
theorem dX5_unlikeChildren_97 : decode cX5_unlikeChildren 97 = .ok (.aload_n 0, 1) := by decide +kernel
theorem dX5_unlikeChildren_98 : decode cX5_unlikeChildren 98 = .ok (.getfield 12, 3) := by decide +kernel
theorem dX5_unlikeChildren_101 : decode cX5_unlikeChildren 101 = .ok (.iload 6, 2) := by decide +kernel
theorem dX5_unlikeChildren_103 : decode cX5_unlikeChildren 103 = .ok (.iload 4, 2) := by decide +kernel
theorem dX5_unlikeChildren_105 : decode cX5_unlikeChildren 105 = .ok (.iload 8, 2) := by decide +kernel
theorem dX5_unlikeChildren_107 : decode cX5_unlikeChildren 107 = .ok (.invokevirtual 82, 3) := by decide +kernel
theorem dX5_unlikeChildren_110 : decode cX5_unlikeChildren 110 = .ok (.sipush 256, 3) := by decide +kernel
theorem dX5_unlikeChildren_113 : decode cX5_unlikeChildren 113 = .ok (.idiv, 1) := by decide +kernel
theorem dX5_unlikeChildren_114 : decode cX5_unlikeChildren 114 = .ok (.istore 10, 2) := by decide +kernel
theorem dX5_unlikeChildren_116 : decode cX5_unlikeChildren 116 = .ok (.iload 9, 2) := by decide +kernel
theorem dX5_unlikeChildren_118 : decode cX5_unlikeChildren 118 = .ok (.iload 10, 2) := by decide +kernel
theorem dX5_unlikeChildren_120 : decode cX5_unlikeChildren 120 = .ok (.if_icmp .eq 12, 3) := by decide +kernel
theorem dX5_unlikeChildren_123 : decode cX5_unlikeChildren 123 = .ok (.iload 7, 2) := by decide +kernel
theorem dX5_unlikeChildren_125 : decode cX5_unlikeChildren 125 = .ok (.iconst 1, 1) := by decide +kernel
theorem dX5_unlikeChildren_126 : decode cX5_unlikeChildren 126 = .ok (.iload 8, 2) := by decide +kernel
theorem dX5_unlikeChildren_128 : decode cX5_unlikeChildren 128 = .ok (.ishl, 1) := by decide +kernel
theorem dX5_unlikeChildren_129 : decode cX5_unlikeChildren 129 = .ok (.ior, 1) := by decide +kernel
theorem dX5_unlikeChildren_130 : decode cX5_unlikeChildren 130 = .ok (.istore 7, 2) := by decide +kernel
theorem dX5_unlikeChildren_132 : decode cX5_unlikeChildren 132 = .ok (.iinc 8 1, 3) := by decide +kernel
theorem dX5_unlikeChildren_135 : decode cX5_unlikeChildren 135 = .ok (.goto (-62), 3) := by decide +kernel
theorem dX5_unlikeChildren_138 : decode cX5_unlikeChildren 138 = .ok (.iload 7, 2) := by decide +kernel
theorem dX5_unlikeChildren_140 : decode cX5_unlikeChildren 140 = .ok (.ireturn, 1) := by decide +kernel
theorem dX6_init_0 : decode cX6_init 0 = .ok (.aload_n 0, 1) := by decide +kernel
theorem dX6_init_1 : decode cX6_init 1 = .ok (.invokespecial 3, 3) := by decide +kernel
theorem dX6_init_4 : decode cX6_init 4 = .ok (.return_, 1) := by decide +kernel
theorem dX6_clear_0 : decode cX6_clear 0 = .ok (.aload_n 0, 1) := by decide +kernel
theorem dX6_clear_1 : decode cX6_clear 1 = .ok (.iconst 0, 1) := by decide +kernel
theorem dX6_clear_2 : decode cX6_clear 2 = .ok (.putfield 9, 3) := by decide +kernel
theorem dX6_clear_5 : decode cX6_clear 5 = .ok (.aload_n 0, 1) := by decide +kernel
theorem dX6_clear_6 : decode cX6_clear 6 = .ok (.iconst 0, 1) := by decide +kernel
theorem dX6_clear_7 : decode cX6_clear 7 = .ok (.putfield 15, 3) := by decide +kernel
theorem dX6_clear_10 : decode cX6_clear 10 = .ok (.aload_n 0, 1) := by decide +kernel
theorem dX6_clear_11 : decode cX6_clear 11 = .ok (.iconst 0, 1) := by decide +kernel
theorem dX6_clear_12 : decode cX6_clear 12 = .ok (.putfield 18, 3) := by decide +kernel
theorem dX6_clear_15 : decode cX6_clear 15 = .ok (.aload_n 0, 1) := by decide +kernel
theorem dX6_clear_16 : decode cX6_clear 16 = .ok (.iconst 0, 1) := by decide +kernel
theorem dX6_clear_17 : decode cX6_clear 17 = .ok (.putfield 21, 3) := by decide +kernel
theorem dX6_clear_20 : decode cX6_clear 20 = .ok (.return_, 1) := by decide +kernel
theorem dX6_blame_0 : decode cX6_blame 0 = .ok (.aload_n 0, 1) := by decide +kernel
theorem dX6_blame_1 : decode cX6_blame 1 = .ok (.iload_n 1, 1) := by decide +kernel
theorem dX6_blame_2 : decode cX6_blame 2 = .ok (.putfield 9, 3) := by decide +kernel
theorem dX6_blame_5 : decode cX6_blame 5 = .ok (.aload_n 0, 1) := by decide +kernel
theorem dX6_blame_6 : decode cX6_blame 6 = .ok (.iload_n 2, 1) := by decide +kernel
theorem dX6_blame_7 : decode cX6_blame 7 = .ok (.putfield 15, 3) := by decide +kernel
theorem dX6_blame_10 : decode cX6_blame 10 = .ok (.aload_n 0, 1) := by decide +kernel
theorem dX6_blame_11 : decode cX6_blame 11 = .ok (.iload_n 3, 1) := by decide +kernel
theorem dX6_blame_12 : decode cX6_blame 12 = .ok (.putfield 18, 3) := by decide +kernel
theorem dX6_blame_15 : decode cX6_blame 15 = .ok (.return_, 1) := by decide +kernel
theorem dX7_init_0 : decode cX7_init 0 = .ok (.aload_n 0, 1) := by decide +kernel
theorem dX7_init_1 : decode cX7_init 1 = .ok (.invokespecial 3, 3) := by decide +kernel
theorem dX7_init_4 : decode cX7_init 4 = .ok (.aload_n 0, 1) := by decide +kernel
theorem dX7_init_5 : decode cX7_init 5 = .ok (.iconst 3, 1) := by decide +kernel
theorem dX7_init_6 : decode cX7_init 6 = .ok (.newarray .int, 2) := by decide +kernel
theorem dX7_init_8 : decode cX7_init 8 = .ok (.putfield 9, 3) := by decide +kernel
theorem dX7_init_11 : decode cX7_init 11 = .ok (.aload_n 0, 1) := by decide +kernel
theorem dX7_init_12 : decode cX7_init 12 = .ok (.iconst 3, 1) := by decide +kernel
theorem dX7_init_13 : decode cX7_init 13 = .ok (.newarray .int, 2) := by decide +kernel
theorem dX7_init_15 : decode cX7_init 15 = .ok (.putfield 15, 3) := by decide +kernel
theorem dX7_init_18 : decode cX7_init 18 = .ok (.aload_n 0, 1) := by decide +kernel
theorem dX7_init_19 : decode cX7_init 19 = .ok (.iconst 3, 1) := by decide +kernel
theorem dX7_init_20 : decode cX7_init 20 = .ok (.newarray .int, 2) := by decide +kernel
theorem dX7_init_22 : decode cX7_init 22 = .ok (.putfield 18, 3) := by decide +kernel
theorem dX7_init_25 : decode cX7_init 25 = .ok (.aload_n 0, 1) := by decide +kernel
theorem dX7_init_26 : decode cX7_init 26 = .ok (.bipush 12, 2) := by decide +kernel
theorem dX7_init_28 : decode cX7_init 28 = .ok (.newarray .int, 2) := by decide +kernel
theorem dX7_init_30 : decode cX7_init 30 = .ok (.putfield 21, 3) := by decide +kernel
theorem dX7_init_33 : decode cX7_init 33 = .ok (.return_, 1) := by decide +kernel
theorem dX7_clear_0 : decode cX7_clear 0 = .ok (.aload_n 0, 1) := by decide +kernel
theorem dX7_clear_1 : decode cX7_clear 1 = .ok (.iconst 0, 1) := by decide +kernel
theorem dX7_clear_2 : decode cX7_clear 2 = .ok (.putfield 24, 3) := by decide +kernel
theorem dX7_clear_5 : decode cX7_clear 5 = .ok (.return_, 1) := by decide +kernel
theorem dX7_add_0 : decode cX7_add 0 = .ok (.aload_n 0, 1) := by decide +kernel
theorem dX7_add_1 : decode cX7_add 1 = .ok (.getfield 24, 3) := by decide +kernel
theorem dX7_add_4 : decode cX7_add 4 = .ok (.iconst 3, 1) := by decide +kernel
theorem dX7_add_5 : decode cX7_add 5 = .ok (.if_icmp .ge 43, 3) := by decide +kernel
theorem dX7_add_8 : decode cX7_add 8 = .ok (.aload_n 0, 1) := by decide +kernel
theorem dX7_add_9 : decode cX7_add 9 = .ok (.getfield 9, 3) := by decide +kernel
theorem dX7_add_12 : decode cX7_add 12 = .ok (.aload_n 0, 1) := by decide +kernel
theorem dX7_add_13 : decode cX7_add 13 = .ok (.getfield 24, 3) := by decide +kernel
theorem dX7_add_16 : decode cX7_add 16 = .ok (.iload_n 1, 1) := by decide +kernel
theorem dX7_add_17 : decode cX7_add 17 = .ok (.iastore, 1) := by decide +kernel
theorem dX7_add_18 : decode cX7_add 18 = .ok (.aload_n 0, 1) := by decide +kernel
theorem dX7_add_19 : decode cX7_add 19 = .ok (.getfield 15, 3) := by decide +kernel
theorem dX7_add_22 : decode cX7_add 22 = .ok (.aload_n 0, 1) := by decide +kernel
theorem dX7_add_23 : decode cX7_add 23 = .ok (.getfield 24, 3) := by decide +kernel
theorem dX7_add_26 : decode cX7_add 26 = .ok (.iload_n 2, 1) := by decide +kernel
theorem dX7_add_27 : decode cX7_add 27 = .ok (.iastore, 1) := by decide +kernel
theorem dX7_add_28 : decode cX7_add 28 = .ok (.aload_n 0, 1) := by decide +kernel
theorem dX7_add_29 : decode cX7_add 29 = .ok (.getfield 18, 3) := by decide +kernel
theorem dX7_add_32 : decode cX7_add 32 = .ok (.aload_n 0, 1) := by decide +kernel
theorem dX7_add_33 : decode cX7_add 33 = .ok (.getfield 24, 3) := by decide +kernel
theorem dX7_add_36 : decode cX7_add 36 = .ok (.iload_n 3, 1) := by decide +kernel
theorem dX7_add_37 : decode cX7_add 37 = .ok (.iastore, 1) := by decide +kernel
theorem dX7_add_38 : decode cX7_add 38 = .ok (.aload_n 0, 1) := by decide +kernel
theorem dX7_add_39 : decode cX7_add 39 = .ok (.dup, 1) := by decide +kernel
theorem dX7_add_40 : decode cX7_add 40 = .ok (.getfield 24, 3) := by decide +kernel
theorem dX7_add_43 : decode cX7_add 43 = .ok (.iconst 1, 1) := by decide +kernel
theorem dX7_add_44 : decode cX7_add 44 = .ok (.iadd, 1) := by decide +kernel
theorem dX7_add_45 : decode cX7_add 45 = .ok (.putfield 24, 3) := by decide +kernel
theorem dX7_add_48 : decode cX7_add 48 = .ok (.return_, 1) := by decide +kernel
set_option maxRecDepth 20000 in
theorem ggX7_tells_X8_below : GoodIn wsX7_tells wsX8_below := goodIn_r _ [4] (by decide +kernel) (by decide +kernel)
set_option maxRecDepth 20000 in
theorem gX7_tells_X8_below_n28 : GoodIn wsX7_tells (wsX8_below) := ggX7_tells_X8_below
theorem dX7_tells_0 : decode cX7_tells 0 = .ok (.iload_n 1, 1) := by decide +kernel
theorem dX7_tells_1 : decode cX7_tells 1 = .ok (.aload_n 0, 1) := by decide +kernel
theorem dX7_tells_2 : decode cX7_tells 2 = .ok (.getfield 24, 3) := by decide +kernel
theorem dX7_tells_5 : decode cX7_tells 5 = .ok (.invokestatic 28, 3) := by decide +kernel
theorem dX7_tells_8 : decode cX7_tells 8 = .ok (.ifCond .eq 15, 3) := by decide +kernel
theorem dX7_tells_11 : decode cX7_tells 11 = .ok (.aload_n 0, 1) := by decide +kernel
theorem dX7_tells_12 : decode cX7_tells 12 = .ok (.getfield 24, 3) := by decide +kernel
theorem dX7_tells_15 : decode cX7_tells 15 = .ok (.iconst 3, 1) := by decide +kernel
theorem dX7_tells_16 : decode cX7_tells 16 = .ok (.if_icmp .gt 7, 3) := by decide +kernel
theorem dX7_tells_19 : decode cX7_tells 19 = .ok (.iconst 1, 1) := by decide +kernel
theorem dX7_tells_20 : decode cX7_tells 20 = .ok (.goto 4, 3) := by decide +kernel
theorem dX7_tells_23 : decode cX7_tells 23 = .ok (.iconst 0, 1) := by decide +kernel
theorem dX7_tells_24 : decode cX7_tells 24 = .ok (.ireturn, 1) := by decide +kernel
set_option maxRecDepth 20000 in
theorem ggX7_isSpoiled_X7_copyAt : GoodIn wsX7_isSpoiled wsX7_copyAt := goodIn_r _ [5, 6, 7, 8, 9, 4, 10, 11, 12, 13, 14, 15, 16, 17, 18, 19] (by decide +kernel) (by decide +kernel)
set_option maxRecDepth 20000 in
theorem gX7_isSpoiled_X7_copyAt : GoodIn wsX7_isSpoiled (wsV RX7 32 RX7 yX7_copyAt wsX7_copyAt) := goodIn_app (goodIn_of _ (by decide +kernel)) ggX7_isSpoiled_X7_copyAt
theorem dX7_isSpoiled_0 : decode cX7_isSpoiled 0 = .ok (.aload_n 0, 1) := by decide +kernel
theorem dX7_isSpoiled_1 : decode cX7_isSpoiled 1 = .ok (.iconst 2, 1) := by decide +kernel
theorem dX7_isSpoiled_2 : decode cX7_isSpoiled 2 = .ok (.invokevirtual 32, 3) := by decide +kernel
theorem dX7_isSpoiled_5 : decode cX7_isSpoiled 5 = .ok (.iconst 2, 1) := by decide +kernel
theorem dX7_isSpoiled_6 : decode cX7_isSpoiled 6 = .ok (.if_icmp .ne 7, 3) := by decide +kernel
theorem dX7_isSpoiled_9 : decode cX7_isSpoiled 9 = .ok (.iconst 1, 1) := by decide +kernel
theorem dX7_isSpoiled_10 : decode cX7_isSpoiled 10 = .ok (.goto 4, 3) := by decide +kernel
theorem dX7_isSpoiled_13 : decode cX7_isSpoiled 13 = .ok (.iconst 0, 1) := by decide +kernel
theorem dX7_isSpoiled_14 : decode cX7_isSpoiled 14 = .ok (.ireturn, 1) := by decide +kernel
set_option maxRecDepth 20000 in
theorem ggX7_blockAt_X7_tells : GoodIn wsX7_blockAt wsX7_tells := goodIn_r _ [6, 7, 8, 9, 10, 11, 12, 13, 14, 15] (by decide +kernel) (by decide +kernel)
set_option maxRecDepth 20000 in
theorem gX7_blockAt_X7_tells : GoodIn wsX7_blockAt (wsV RX7 36 RX7 yX7_tells wsX7_tells) := goodIn_app (goodIn_of _ (by decide +kernel)) ggX7_blockAt_X7_tells
theorem dX7_blockAt_0 : decode cX7_blockAt 0 = .ok (.aload_n 0, 1) := by decide +kernel
theorem dX7_blockAt_1 : decode cX7_blockAt 1 = .ok (.iload_n 1, 1) := by decide +kernel
theorem dX7_blockAt_2 : decode cX7_blockAt 2 = .ok (.invokevirtual 36, 3) := by decide +kernel
theorem dX7_blockAt_5 : decode cX7_blockAt 5 = .ok (.ifCond .eq 12, 3) := by decide +kernel
theorem dX7_blockAt_8 : decode cX7_blockAt 8 = .ok (.aload_n 0, 1) := by decide +kernel
theorem dX7_blockAt_9 : decode cX7_blockAt 9 = .ok (.getfield 9, 3) := by decide +kernel
theorem dX7_blockAt_12 : decode cX7_blockAt 12 = .ok (.iload_n 1, 1) := by decide +kernel
theorem dX7_blockAt_13 : decode cX7_blockAt 13 = .ok (.iaload, 1) := by decide +kernel
theorem dX7_blockAt_14 : decode cX7_blockAt 14 = .ok (.goto 5, 3) := by decide +kernel
theorem dX7_blockAt_17 : decode cX7_blockAt 17 = .ok (.bipush 96, 2) := by decide +kernel
theorem dX7_blockAt_19 : decode cX7_blockAt 19 = .ok (.ireturn, 1) := by decide +kernel
set_option maxRecDepth 20000 in
theorem ggX7_sumAt_X7_tells : GoodIn wsX7_sumAt wsX7_tells := goodIn_r _ [6, 7, 8, 9, 10, 11, 12, 13, 14, 15] (by decide +kernel) (by decide +kernel)
set_option maxRecDepth 20000 in
theorem gX7_sumAt_X7_tells : GoodIn wsX7_sumAt (wsV RX7 36 RX7 yX7_tells wsX7_tells) := goodIn_app (goodIn_of _ (by decide +kernel)) ggX7_sumAt_X7_tells
theorem dX7_sumAt_0 : decode cX7_sumAt 0 = .ok (.aload_n 0, 1) := by decide +kernel
theorem dX7_sumAt_1 : decode cX7_sumAt 1 = .ok (.iload_n 1, 1) := by decide +kernel
theorem dX7_sumAt_2 : decode cX7_sumAt 2 = .ok (.invokevirtual 36, 3) := by decide +kernel
theorem dX7_sumAt_5 : decode cX7_sumAt 5 = .ok (.ifCond .eq 12, 3) := by decide +kernel
theorem dX7_sumAt_8 : decode cX7_sumAt 8 = .ok (.aload_n 0, 1) := by decide +kernel
theorem dX7_sumAt_9 : decode cX7_sumAt 9 = .ok (.getfield 15, 3) := by decide +kernel
theorem dX7_sumAt_12 : decode cX7_sumAt 12 = .ok (.iload_n 1, 1) := by decide +kernel
theorem dX7_sumAt_13 : decode cX7_sumAt 13 = .ok (.iaload, 1) := by decide +kernel
theorem dX7_sumAt_14 : decode cX7_sumAt 14 = .ok (.goto 4, 3) := by decide +kernel
theorem dX7_sumAt_17 : decode cX7_sumAt 17 = .ok (.iconst (-1), 1) := by decide +kernel
theorem dX7_sumAt_18 : decode cX7_sumAt 18 = .ok (.ireturn, 1) := by decide +kernel
set_option maxRecDepth 20000 in
theorem ggX7_copyAt_X7_tells : GoodIn wsX7_copyAt wsX7_tells := goodIn_r _ [6, 7, 8, 9, 10, 11, 12, 13, 14, 15] (by decide +kernel) (by decide +kernel)
set_option maxRecDepth 20000 in
theorem gX7_copyAt_X7_tells : GoodIn wsX7_copyAt (wsV RX7 36 RX7 yX7_tells wsX7_tells) := goodIn_app (goodIn_of _ (by decide +kernel)) ggX7_copyAt_X7_tells
theorem dX7_copyAt_0 : decode cX7_copyAt 0 = .ok (.aload_n 0, 1) := by decide +kernel
theorem dX7_copyAt_1 : decode cX7_copyAt 1 = .ok (.iload_n 1, 1) := by decide +kernel
theorem dX7_copyAt_2 : decode cX7_copyAt 2 = .ok (.invokevirtual 36, 3) := by decide +kernel
theorem dX7_copyAt_5 : decode cX7_copyAt 5 = .ok (.ifCond .eq 12, 3) := by decide +kernel
theorem dX7_copyAt_8 : decode cX7_copyAt 8 = .ok (.aload_n 0, 1) := by decide +kernel
theorem dX7_copyAt_9 : decode cX7_copyAt 9 = .ok (.getfield 18, 3) := by decide +kernel
theorem dX7_copyAt_12 : decode cX7_copyAt 12 = .ok (.iload_n 1, 1) := by decide +kernel
theorem dX7_copyAt_13 : decode cX7_copyAt 13 = .ok (.iaload, 1) := by decide +kernel
theorem dX7_copyAt_14 : decode cX7_copyAt 14 = .ok (.goto 4, 3) := by decide +kernel
theorem dX7_copyAt_17 : decode cX7_copyAt 17 = .ok (.iconst 2, 1) := by decide +kernel
theorem dX7_copyAt_18 : decode cX7_copyAt 18 = .ok (.ireturn, 1) := by decide +kernel
set_option maxRecDepth 20000 in
theorem ggX7_takesFrom_X7_copyAt : GoodIn wsX7_takesFrom wsX7_copyAt := goodIn_r _ [5, 6, 7, 8, 9, 4, 10, 11, 12, 13, 14, 15, 16, 17, 18, 19] (by decide +kernel) (by decide +kernel)
set_option maxRecDepth 20000 in
theorem gX7_takesFrom_X7_copyAt : GoodIn wsX7_takesFrom (wsV RX7 32 RX7 yX7_copyAt wsX7_copyAt) := goodIn_app (goodIn_of _ (by decide +kernel)) ggX7_takesFrom_X7_copyAt
theorem dX7_takesFrom_0 : decode cX7_takesFrom 0 = .ok (.iconst 0, 1) := by decide +kernel
theorem dX7_takesFrom_1 : decode cX7_takesFrom 1 = .ok (.istore_n 2, 1) := by decide +kernel
theorem dX7_takesFrom_2 : decode cX7_takesFrom 2 = .ok (.iload_n 2, 1) := by decide +kernel
theorem dX7_takesFrom_3 : decode cX7_takesFrom 3 = .ok (.iconst 3, 1) := by decide +kernel
theorem dX7_takesFrom_4 : decode cX7_takesFrom 4 = .ok (.if_icmp .ge 20, 3) := by decide +kernel
theorem dX7_takesFrom_7 : decode cX7_takesFrom 7 = .ok (.aload_n 0, 1) := by decide +kernel
theorem dX7_takesFrom_8 : decode cX7_takesFrom 8 = .ok (.iload_n 2, 1) := by decide +kernel
theorem dX7_takesFrom_9 : decode cX7_takesFrom 9 = .ok (.invokevirtual 32, 3) := by decide +kernel
theorem dX7_takesFrom_12 : decode cX7_takesFrom 12 = .ok (.iload_n 1, 1) := by decide +kernel
theorem dX7_takesFrom_13 : decode cX7_takesFrom 13 = .ok (.if_icmp .ne 5, 3) := by decide +kernel
theorem dX7_takesFrom_16 : decode cX7_takesFrom 16 = .ok (.iconst 1, 1) := by decide +kernel
theorem dX7_takesFrom_17 : decode cX7_takesFrom 17 = .ok (.ireturn, 1) := by decide +kernel
theorem dX7_takesFrom_18 : decode cX7_takesFrom 18 = .ok (.iinc 2 1, 3) := by decide +kernel
theorem dX7_takesFrom_21 : decode cX7_takesFrom 21 = .ok (.goto (-19), 3) := by decide +kernel
theorem dX7_takesFrom_24 : decode cX7_takesFrom 24 = .ok (.iconst 0, 1) := by decide +kernel
theorem dX7_takesFrom_25 : decode cX7_takesFrom 25 = .ok (.ireturn, 1) := by decide +kernel
set_option maxRecDepth 20000 in
theorem ggX7_numberAt_X8_below : GoodIn wsX7_numberAt wsX8_below := goodIn_r _ [4] (by decide +kernel) (by decide +kernel)
set_option maxRecDepth 20000 in
theorem gX7_numberAt_X8_below_n28 : GoodIn wsX7_numberAt (wsX8_below) := ggX7_numberAt_X8_below
theorem dX7_numberAt_0 : decode cX7_numberAt 0 = .ok (.iload_n 1, 1) := by decide +kernel
theorem dX7_numberAt_1 : decode cX7_numberAt 1 = .ok (.iconst 3, 1) := by decide +kernel
theorem dX7_numberAt_2 : decode cX7_numberAt 2 = .ok (.invokestatic 28, 3) := by decide +kernel
theorem dX7_numberAt_5 : decode cX7_numberAt 5 = .ok (.ifCond .eq 24, 3) := by decide +kernel
theorem dX7_numberAt_8 : decode cX7_numberAt 8 = .ok (.iload_n 2, 1) := by decide +kernel
theorem dX7_numberAt_9 : decode cX7_numberAt 9 = .ok (.iconst 4, 1) := by decide +kernel
theorem dX7_numberAt_10 : decode cX7_numberAt 10 = .ok (.invokestatic 28, 3) := by decide +kernel
theorem dX7_numberAt_13 : decode cX7_numberAt 13 = .ok (.ifCond .eq 16, 3) := by decide +kernel
theorem dX7_numberAt_16 : decode cX7_numberAt 16 = .ok (.aload_n 0, 1) := by decide +kernel
theorem dX7_numberAt_17 : decode cX7_numberAt 17 = .ok (.getfield 21, 3) := by decide +kernel
theorem dX7_numberAt_20 : decode cX7_numberAt 20 = .ok (.iload_n 1, 1) := by decide +kernel
theorem dX7_numberAt_21 : decode cX7_numberAt 21 = .ok (.iconst 4, 1) := by decide +kernel
theorem dX7_numberAt_22 : decode cX7_numberAt 22 = .ok (.imul, 1) := by decide +kernel
theorem dX7_numberAt_23 : decode cX7_numberAt 23 = .ok (.iload_n 2, 1) := by decide +kernel
theorem dX7_numberAt_24 : decode cX7_numberAt 24 = .ok (.iadd, 1) := by decide +kernel
theorem dX7_numberAt_25 : decode cX7_numberAt 25 = .ok (.iaload, 1) := by decide +kernel
theorem dX7_numberAt_26 : decode cX7_numberAt 26 = .ok (.goto 4, 3) := by decide +kernel
theorem dX7_numberAt_29 : decode cX7_numberAt 29 = .ok (.iconst 0, 1) := by decide +kernel
theorem dX7_numberAt_30 : decode cX7_numberAt 30 = .ok (.ireturn, 1) := by decide +kernel
set_option maxRecDepth 20000 in
theorem ggX7_put_X8_below : GoodIn wsX7_put wsX8_below := goodIn_r _ [4] (by decide +kernel) (by decide +kernel)
set_option maxRecDepth 20000 in
theorem gX7_put_X8_below_n28 : GoodIn wsX7_put (wsX8_below) := ggX7_put_X8_below
theorem dX7_put_0 : decode cX7_put 0 = .ok (.iload_n 1, 1) := by decide +kernel
theorem dX7_put_1 : decode cX7_put 1 = .ok (.iconst 3, 1) := by decide +kernel
theorem dX7_put_2 : decode cX7_put 2 = .ok (.invokestatic 28, 3) := by decide +kernel
theorem dX7_put_5 : decode cX7_put 5 = .ok (.ifCond .eq 22, 3) := by decide +kernel
theorem dX7_put_8 : decode cX7_put 8 = .ok (.iload_n 2, 1) := by decide +kernel
theorem dX7_put_9 : decode cX7_put 9 = .ok (.iconst 4, 1) := by decide +kernel
theorem dX7_put_10 : decode cX7_put 10 = .ok (.invokestatic 28, 3) := by decide +kernel
theorem dX7_put_13 : decode cX7_put 13 = .ok (.ifCond .eq 14, 3) := by decide +kernel
theorem dX7_put_16 : decode cX7_put 16 = .ok (.aload_n 0, 1) := by decide +kernel
theorem dX7_put_17 : decode cX7_put 17 = .ok (.getfield 21, 3) := by decide +kernel
theorem dX7_put_20 : decode cX7_put 20 = .ok (.iload_n 1, 1) := by decide +kernel
theorem dX7_put_21 : decode cX7_put 21 = .ok (.iconst 4, 1) := by decide +kernel
theorem dX7_put_22 : decode cX7_put 22 = .ok (.imul, 1) := by decide +kernel
theorem dX7_put_23 : decode cX7_put 23 = .ok (.iload_n 2, 1) := by decide +kernel
theorem dX7_put_24 : decode cX7_put 24 = .ok (.iadd, 1) := by decide +kernel
theorem dX7_put_25 : decode cX7_put 25 = .ok (.iload_n 3, 1) := by decide +kernel
theorem dX7_put_26 : decode cX7_put 26 = .ok (.iastore, 1) := by decide +kernel
theorem dX7_put_27 : decode cX7_put 27 = .ok (.return_, 1) := by decide +kernel
set_option maxRecDepth 20000 in
theorem ggX7_takenSum_X8_below : GoodIn wsX7_takenSum wsX8_below := goodIn_r _ [4] (by decide +kernel) (by decide +kernel)
set_option maxRecDepth 20000 in
theorem gX7_takenSum_X8_below_n28 : GoodIn wsX7_takenSum (wsX8_below) := ggX7_takenSum_X8_below
set_option maxRecDepth 20000 in
theorem ggX7_takenSum_X8_sumFrom : GoodIn wsX7_takenSum wsX8_sumFrom := goodIn_r _ [6] (by decide +kernel) (by decide +kernel)
set_option maxRecDepth 20000 in
theorem gX7_takenSum_X8_sumFrom_n40 : GoodIn wsX7_takenSum (wsX8_sumFrom) := ggX7_takenSum_X8_sumFrom
theorem dX7_takenSum_0 : decode cX7_takenSum 0 = .ok (.iload_n 1, 1) := by decide +kernel
theorem dX7_takenSum_1 : decode cX7_takenSum 1 = .ok (.iconst 3, 1) := by decide +kernel
theorem dX7_takenSum_2 : decode cX7_takenSum 2 = .ok (.invokestatic 28, 3) := by decide +kernel
theorem dX7_takenSum_5 : decode cX7_takenSum 5 = .ok (.ifCond .eq 16, 3) := by decide +kernel
theorem dX7_takenSum_8 : decode cX7_takenSum 8 = .ok (.aload_n 0, 1) := by decide +kernel
theorem dX7_takenSum_9 : decode cX7_takenSum 9 = .ok (.getfield 21, 3) := by decide +kernel
theorem dX7_takenSum_12 : decode cX7_takenSum 12 = .ok (.iload_n 1, 1) := by decide +kernel
theorem dX7_takenSum_13 : decode cX7_takenSum 13 = .ok (.iconst 4, 1) := by decide +kernel
theorem dX7_takenSum_14 : decode cX7_takenSum 14 = .ok (.imul, 1) := by decide +kernel
theorem dX7_takenSum_15 : decode cX7_takenSum 15 = .ok (.invokestatic 40, 3) := by decide +kernel
theorem dX7_takenSum_18 : decode cX7_takenSum 18 = .ok (.goto 4, 3) := by decide +kernel
theorem dX7_takenSum_21 : decode cX7_takenSum 21 = .ok (.iconst (-1), 1) := by decide +kernel
theorem dX7_takenSum_22 : decode cX7_takenSum 22 = .ok (.ireturn, 1) := by decide +kernel
set_option maxRecDepth 20000 in
theorem ggX8_init_X5_init : GoodIn wsX8_init wsX5_init := goodIn_r _ [31, 32, 2, 3, 33, 34, 35, 36, 37, 26, 27, 38, 39, 40, 41, 42, 43, 44, 45, 46, 47, 48, 49, 50, 51, 52, 53, 54, 55, 56, 57, 58, 59, 147, 115, 116, 117, 118, 119, 146, 148, 149, 150, 151] (by decide +kernel) (by decide +kernel)
set_option maxRecDepth 20000 in
theorem gX8_init_X5_init_n9 : GoodIn wsX8_init (wsX5_init) := ggX8_init_X5_init
set_option maxRecDepth 20000 in
theorem ggX8_init_X5_plant : GoodIn wsX8_init wsX5_plant := goodIn_r _ [63, 36, 38, 42, 64, 65, 66, 35, 67, 48, 68, 69, 70, 71, 72, 73, 74, 75, 76, 77, 78, 79, 80, 81, 82, 83, 27, 84, 53, 85, 86, 87, 41, 88, 89, 57, 58, 59, 90, 91, 92, 93, 115, 116, 117, 118, 119, 147, 146, 148, 149, 150, 151] (by decide +kernel) (by decide +kernel)
set_option maxRecDepth 20000 in
theorem gX8_init_X5_plant : GoodIn wsX8_init (wsV RX8 16 RX5 yX5_plant wsX5_plant) := goodIn_app (goodIn_of _ (by decide +kernel)) ggX8_init_X5_plant
set_option maxRecDepth 20000 in
theorem ggX8_init_X2_init : GoodIn wsX8_init wsX2_init := goodIn_r _ [96, 97, 2, 3, 98, 99, 5, 6, 30, 31, 32, 33, 34, 35, 36, 37, 26, 27, 38, 39, 40, 41, 42, 43, 44, 45, 46, 47, 48, 49, 50, 51, 52, 53, 54, 55, 56, 57, 58, 59, 128, 129, 115, 116, 117, 118, 119, 147, 146, 148, 149, 150, 151] (by decide +kernel) (by decide +kernel)
set_option maxRecDepth 20000 in
theorem gX8_init_X2_init : GoodIn wsX8_init (wsX2_init) := ggX8_init_X2_init
set_option maxRecDepth 20000 in
theorem ggX8_init_X4_init : GoodIn wsX8_init wsX4_init := goodIn_r _ [101, 102, 2, 3, 103, 104, 130, 131, 132, 133, 134, 135, 136] (by decide +kernel) (by decide +kernel)
set_option maxRecDepth 20000 in
theorem gX8_init_X4_init_n31 : GoodIn wsX8_init (wsX4_init) := ggX8_init_X4_init
set_option maxRecDepth 20000 in
theorem ggX8_init_X6_init : GoodIn wsX8_init wsX6_init := goodIn_r _ [106, 107, 2, 3] (by decide +kernel) (by decide +kernel)
set_option maxRecDepth 20000 in
theorem gX8_init_X6_init_n38 : GoodIn wsX8_init (wsX6_init) := ggX8_init_X6_init
set_option maxRecDepth 20000 in
theorem ggX8_init_X7_init : GoodIn wsX8_init wsX7_init := goodIn_r _ [109, 110, 2, 3, 47, 111, 112, 113, 114, 141, 142, 143, 144, 145] (by decide +kernel) (by decide +kernel)
set_option maxRecDepth 20000 in
theorem gX8_init_X7_init_n45 : GoodIn wsX8_init (wsX7_init) := ggX8_init_X7_init
set_option maxRecDepth 20000 in
theorem ggX8_init_X0_init : GoodIn wsX8_init wsX0_init := goodIn_r _ [50, 51, 2, 3, 52, 53, 146] (by decide +kernel) (by decide +kernel)
set_option maxRecDepth 20000 in
theorem gX8_init_X0_init_n52 : GoodIn wsX8_init (wsX0_init) := ggX8_init_X0_init
theorem dX8_init_0 : decode cX8_init 0 = .ok (.aload_n 0, 1) := by decide +kernel
theorem dX8_init_1 : decode cX8_init 1 = .ok (.invokespecial 1, 3) := by decide +kernel
theorem dX8_init_4 : decode cX8_init 4 = .ok (.aload_n 0, 1) := by decide +kernel
theorem dX8_init_5 : decode cX8_init 5 = .ok (.new 7, 3) := by decide +kernel
theorem dX8_init_8 : decode cX8_init 8 = .ok (.dup, 1) := by decide +kernel
theorem dX8_init_9 : decode cX8_init 9 = .ok (.invokespecial 9, 3) := by decide +kernel
theorem dX8_init_12 : decode cX8_init 12 = .ok (.putfield 10, 3) := by decide +kernel
theorem dX8_init_15 : decode cX8_init 15 = .ok (.aload_n 0, 1) := by decide +kernel
theorem dX8_init_16 : decode cX8_init 16 = .ok (.getfield 10, 3) := by decide +kernel
theorem dX8_init_19 : decode cX8_init 19 = .ok (.invokevirtual 16, 3) := by decide +kernel
theorem dX8_init_22 : decode cX8_init 22 = .ok (.aload_n 0, 1) := by decide +kernel
theorem dX8_init_23 : decode cX8_init 23 = .ok (.new 7, 3) := by decide +kernel
theorem dX8_init_26 : decode cX8_init 26 = .ok (.dup, 1) := by decide +kernel
theorem dX8_init_27 : decode cX8_init 27 = .ok (.invokespecial 9, 3) := by decide +kernel
theorem dX8_init_30 : decode cX8_init 30 = .ok (.putfield 19, 3) := by decide +kernel
theorem dX8_init_33 : decode cX8_init 33 = .ok (.aload_n 0, 1) := by decide +kernel
theorem dX8_init_34 : decode cX8_init 34 = .ok (.new 22, 3) := by decide +kernel
theorem dX8_init_37 : decode cX8_init 37 = .ok (.dup, 1) := by decide +kernel
theorem dX8_init_38 : decode cX8_init 38 = .ok (.invokespecial 24, 3) := by decide +kernel
theorem dX8_init_41 : decode cX8_init 41 = .ok (.putfield 25, 3) := by decide +kernel
theorem dX8_init_44 : decode cX8_init 44 = .ok (.aload_n 0, 1) := by decide +kernel
theorem dX8_init_45 : decode cX8_init 45 = .ok (.new 29, 3) := by decide +kernel
theorem dX8_init_48 : decode cX8_init 48 = .ok (.dup, 1) := by decide +kernel
theorem dX8_init_49 : decode cX8_init 49 = .ok (.invokespecial 31, 3) := by decide +kernel
theorem dX8_init_52 : decode cX8_init 52 = .ok (.putfield 32, 3) := by decide +kernel
theorem dX8_init_55 : decode cX8_init 55 = .ok (.aload_n 0, 1) := by decide +kernel
theorem dX8_init_56 : decode cX8_init 56 = .ok (.new 36, 3) := by decide +kernel
theorem dX8_init_59 : decode cX8_init 59 = .ok (.dup, 1) := by decide +kernel
theorem dX8_init_60 : decode cX8_init 60 = .ok (.invokespecial 38, 3) := by decide +kernel
theorem dX8_init_63 : decode cX8_init 63 = .ok (.putfield 39, 3) := by decide +kernel
theorem dX8_init_66 : decode cX8_init 66 = .ok (.aload_n 0, 1) := by decide +kernel
theorem dX8_init_67 : decode cX8_init 67 = .ok (.new 43, 3) := by decide +kernel
theorem dX8_init_70 : decode cX8_init 70 = .ok (.dup, 1) := by decide +kernel
theorem dX8_init_71 : decode cX8_init 71 = .ok (.invokespecial 45, 3) := by decide +kernel
theorem dX8_init_74 : decode cX8_init 74 = .ok (.putfield 46, 3) := by decide +kernel
theorem dX8_init_77 : decode cX8_init 77 = .ok (.aload_n 0, 1) := by decide +kernel
theorem dX8_init_78 : decode cX8_init 78 = .ok (.new 50, 3) := by decide +kernel
theorem dX8_init_81 : decode cX8_init 81 = .ok (.dup, 1) := by decide +kernel
theorem dX8_init_82 : decode cX8_init 82 = .ok (.invokespecial 52, 3) := by decide +kernel
theorem dX8_init_85 : decode cX8_init 85 = .ok (.putfield 53, 3) := by decide +kernel
theorem dX8_init_88 : decode cX8_init 88 = .ok (.aload_n 0, 1) := by decide +kernel
theorem dX8_init_89 : decode cX8_init 89 = .ok (.new 50, 3) := by decide +kernel
theorem dX8_init_92 : decode cX8_init 92 = .ok (.dup, 1) := by decide +kernel
theorem dX8_init_93 : decode cX8_init 93 = .ok (.invokespecial 52, 3) := by decide +kernel
theorem dX8_init_96 : decode cX8_init 96 = .ok (.putfield 57, 3) := by decide +kernel
theorem dX8_init_99 : decode cX8_init 99 = .ok (.return_, 1) := by decide +kernel
set_option maxRecDepth 20000 in
theorem ggX8_write_X8_below : GoodIn wsX8_write wsX8_below := goodIn_r _ [8] (by decide +kernel) (by decide +kernel)
set_option maxRecDepth 20000 in
theorem gX8_write_X8_below : GoodIn wsX8_write (va_wsS RX8 60 yX8_below wsX8_below) := goodIn_app (goodIn_of _ (by decide +kernel)) ggX8_write_X8_below
set_option maxRecDepth 20000 in
theorem ggX8_write_X5_prepareWrite : GoodIn wsX8_write wsX5_prepareWrite := goodIn_r _ [13, 14, 15, 16, 17, 18, 19, 20, 21, 22, 23, 24, 25, 26, 27, 28, 29, 30, 31, 32, 12, 33, 34, 35, 36, 37, 38, 39, 40, 41, 42, 43, 44, 45, 6, 7, 8, 46, 47, 48, 49, 50, 51, 52, 53, 54, 55, 56, 57, 58, 59, 60, 61, 62, 63, 64, 65, 66, 67, 68, 69, 70, 71, 72, 73, 74, 75, 76, 77, 78, 79, 80, 81, 82, 83, 84, 85, 86, 87, 88, 89, 90, 91, 92, 93, 94, 95, 96, 97, 98, 99, 100, 184, 185, 186, 187, 188, 189, 190, 191, 192, 193, 194, 195, 196, 197, 198, 199] (by decide +kernel) (by decide +kernel)
set_option maxRecDepth 20000 in
theorem gX8_write_X5_prepareWrite : GoodIn wsX8_write (wsV RX8 65 RX5 yX5_prepareWrite wsX5_prepareWrite) := goodIn_app (goodIn_of _ (by decide +kernel)) ggX8_write_X5_prepareWrite
set_option maxRecDepth 20000 in
theorem ggX8_write_X2_keep : GoodIn wsX8_write wsX2_keep := goodIn_r _ [105, 106, 107, 108, 109, 110, 104, 111, 6, 7, 8, 112, 113, 114, 12, 115, 34, 15, 14, 116, 117, 118, 119, 120, 54, 121, 60, 122, 123, 124, 125, 126, 127, 128, 27, 129, 29, 130, 131, 132, 21, 133, 134, 45, 50, 23, 200, 201, 184, 185, 186, 187, 188, 199, 193, 189, 190, 191, 192] (by decide +kernel) (by decide +kernel)
set_option maxRecDepth 20000 in
theorem gX8_write_X2_keep : GoodIn wsX8_write (wsV RX8 69 RX2 yX2_keep wsX2_keep) := goodIn_app (goodIn_of _ (by decide +kernel)) ggX8_write_X2_keep
set_option maxRecDepth 20000 in
theorem ggX8_write_X5_carryOut : GoodIn wsX8_write wsX5_carryOut := goodIn_r _ [138, 34, 116, 117, 14, 85, 86, 87, 38, 88, 82, 6, 7, 8, 139, 140, 141, 12, 142, 15, 143, 144, 145, 27, 146, 29, 147, 148, 149, 150, 78, 79, 80, 81, 83, 84, 151, 152, 153, 154, 65, 66, 155, 156, 157, 158, 159, 160, 161, 54, 162, 163, 164, 165, 166, 167, 60, 61, 62, 63, 64, 168, 169, 170, 21, 171, 23, 134, 45, 50, 172, 173, 174, 175, 184, 185, 186, 187, 188, 194, 195, 196, 197, 198, 193, 199, 189, 190, 191, 192] (by decide +kernel) (by decide +kernel)
set_option maxRecDepth 20000 in
theorem gX8_write_X5_carryOut : GoodIn wsX8_write (wsV RX8 73 RX5 yX5_carryOut wsX5_carryOut) := goodIn_app (goodIn_of _ (by decide +kernel)) ggX8_write_X5_carryOut
theorem dX8_write_0 : decode cX8_write 0 = .ok (.iload_n 1, 1) := by decide +kernel
theorem dX8_write_1 : decode cX8_write 1 = .ok (.bipush 16, 2) := by decide +kernel
theorem dX8_write_3 : decode cX8_write 3 = .ok (.invokestatic 60, 3) := by decide +kernel
theorem dX8_write_6 : decode cX8_write 6 = .ok (.ifCond .eq 21, 3) := by decide +kernel
theorem dX8_write_9 : decode cX8_write 9 = .ok (.iload_n 2, 1) := by decide +kernel
theorem dX8_write_10 : decode cX8_write 10 = .ok (.iconst 4, 1) := by decide +kernel
theorem dX8_write_11 : decode cX8_write 11 = .ok (.invokestatic 60, 3) := by decide +kernel
theorem dX8_write_14 : decode cX8_write 14 = .ok (.ifCond .eq 13, 3) := by decide +kernel
theorem dX8_write_17 : decode cX8_write 17 = .ok (.iload_n 3, 1) := by decide +kernel
theorem dX8_write_18 : decode cX8_write 18 = .ok (.sipush 1000, 3) := by decide +kernel
theorem dX8_write_21 : decode cX8_write 21 = .ok (.invokestatic 60, 3) := by decide +kernel
theorem dX8_write_24 : decode cX8_write 24 = .ok (.ifCond .ne 6, 3) := by decide +kernel
theorem dX8_write_27 : decode cX8_write 27 = .ok (.ldc 64, 2) := by decide +kernel
theorem dX8_write_29 : decode cX8_write 29 = .ok (.ireturn, 1) := by decide +kernel
theorem dX8_write_30 : decode cX8_write 30 = .ok (.aload_n 0, 1) := by decide +kernel
theorem dX8_write_31 : decode cX8_write 31 = .ok (.getfield 10, 3) := by decide +kernel
theorem dX8_write_34 : decode cX8_write 34 = .ok (.aload_n 0, 1) := by decide +kernel
theorem dX8_write_35 : decode cX8_write 35 = .ok (.getfield 46, 3) := by decide +kernel
theorem dX8_write_38 : decode cX8_write 38 = .ok (.iload_n 1, 1) := by decide +kernel
theorem dX8_write_39 : decode cX8_write 39 = .ok (.invokevirtual 65, 3) := by decide +kernel
theorem dX8_write_42 : decode cX8_write 42 = .ok (.istore 4, 2) := by decide +kernel
theorem dX8_write_44 : decode cX8_write 44 = .ok (.iload 4, 2) := by decide +kernel
theorem dX8_write_46 : decode cX8_write 46 = .ok (.ifCond .eq 6, 3) := by decide +kernel
theorem dX8_write_49 : decode cX8_write 49 = .ok (.iload 4, 2) := by decide +kernel
theorem dX8_write_51 : decode cX8_write 51 = .ok (.ireturn, 1) := by decide +kernel
theorem dX8_write_52 : decode cX8_write 52 = .ok (.aload_n 0, 1) := by decide +kernel
theorem dX8_write_53 : decode cX8_write 53 = .ok (.getfield 25, 3) := by decide +kernel
theorem dX8_write_56 : decode cX8_write 56 = .ok (.aload_n 0, 1) := by decide +kernel
theorem dX8_write_57 : decode cX8_write 57 = .ok (.getfield 10, 3) := by decide +kernel
theorem dX8_write_60 : decode cX8_write 60 = .ok (.invokevirtual 69, 3) := by decide +kernel
theorem dX8_write_63 : decode cX8_write 63 = .ok (.aload_n 0, 1) := by decide +kernel
theorem dX8_write_64 : decode cX8_write 64 = .ok (.getfield 10, 3) := by decide +kernel
theorem dX8_write_67 : decode cX8_write 67 = .ok (.aload_n 0, 1) := by decide +kernel
theorem dX8_write_68 : decode cX8_write 68 = .ok (.getfield 46, 3) := by decide +kernel
theorem dX8_write_71 : decode cX8_write 71 = .ok (.iload_n 1, 1) := by decide +kernel
theorem dX8_write_72 : decode cX8_write 72 = .ok (.iload_n 2, 1) := by decide +kernel
theorem dX8_write_73 : decode cX8_write 73 = .ok (.iload_n 3, 1) := by decide +kernel
theorem dX8_write_74 : decode cX8_write 74 = .ok (.invokevirtual 73, 3) := by decide +kernel
theorem dX8_write_77 : decode cX8_write 77 = .ok (.ireturn, 1) := by decide +kernel
set_option maxRecDepth 20000 in
theorem ggX8_mishap_X8_below : GoodIn wsX8_mishap wsX8_below := goodIn_r _ [7] (by decide +kernel) (by decide +kernel)
set_option maxRecDepth 20000 in
theorem gX8_mishap_X8_below : GoodIn wsX8_mishap (va_wsS RX8 60 yX8_below wsX8_below) := goodIn_app (goodIn_of _ (by decide +kernel)) ggX8_mishap_X8_below
set_option maxRecDepth 20000 in
theorem ggX8_mishap_X2_keep : GoodIn wsX8_mishap wsX2_keep := goodIn_r _ [12, 13, 14, 15, 16, 17, 11, 18, 5, 6, 7, 19, 20, 21, 22, 23, 24, 25, 26, 27, 28, 29, 30, 31, 32, 33, 34, 35, 36, 37, 38, 39, 40, 41, 42, 43, 44, 45, 46, 47, 48, 49, 50, 51, 52, 53, 67, 68, 62, 63, 64, 65, 66, 69, 70, 71, 72, 73, 74] (by decide +kernel) (by decide +kernel)
set_option maxRecDepth 20000 in
theorem gX8_mishap_X2_keep : GoodIn wsX8_mishap (wsV RX8 69 RX2 yX2_keep wsX2_keep) := goodIn_app (goodIn_of _ (by decide +kernel)) ggX8_mishap_X2_keep
theorem dX8_mishap_0 : decode cX8_mishap 0 = .ok (.iload_n 1, 1) := by decide +kernel
theorem dX8_mishap_1 : decode cX8_mishap 1 = .ok (.iconst 4, 1) := by decide +kernel
theorem dX8_mishap_2 : decode cX8_mishap 2 = .ok (.invokestatic 60, 3) := by decide +kernel
theorem dX8_mishap_5 : decode cX8_mishap 5 = .ok (.ifCond .ne 6, 3) := by decide +kernel
theorem dX8_mishap_8 : decode cX8_mishap 8 = .ok (.ldc 64, 2) := by decide +kernel
theorem dX8_mishap_10 : decode cX8_mishap 10 = .ok (.ireturn, 1) := by decide +kernel
theorem dX8_mishap_11 : decode cX8_mishap 11 = .ok (.aload_n 0, 1) := by decide +kernel
theorem dX8_mishap_12 : decode cX8_mishap 12 = .ok (.getfield 25, 3) := by decide +kernel
theorem dX8_mishap_15 : decode cX8_mishap 15 = .ok (.aload_n 0, 1) := by decide +kernel
theorem dX8_mishap_16 : decode cX8_mishap 16 = .ok (.getfield 10, 3) := by decide +kernel
theorem dX8_mishap_19 : decode cX8_mishap 19 = .ok (.invokevirtual 69, 3) := by decide +kernel
theorem dX8_mishap_22 : decode cX8_mishap 22 = .ok (.aload_n 0, 1) := by decide +kernel
theorem dX8_mishap_23 : decode cX8_mishap 23 = .ok (.getfield 10, 3) := by decide +kernel
theorem dX8_mishap_26 : decode cX8_mishap 26 = .ok (.getfield 77, 3) := by decide +kernel
theorem dX8_mishap_29 : decode cX8_mishap 29 = .ok (.istore_n 2, 1) := by decide +kernel
theorem dX8_mishap_30 : decode cX8_mishap 30 = .ok (.aload_n 0, 1) := by decide +kernel
theorem dX8_mishap_31 : decode cX8_mishap 31 = .ok (.getfield 10, 3) := by decide +kernel
theorem dX8_mishap_34 : decode cX8_mishap 34 = .ok (.iload_n 1, 1) := by decide +kernel
theorem dX8_mishap_35 : decode cX8_mishap 35 = .ok (.putfield 77, 3) := by decide +kernel
theorem dX8_mishap_38 : decode cX8_mishap 38 = .ok (.iload_n 2, 1) := by decide +kernel
theorem dX8_mishap_39 : decode cX8_mishap 39 = .ok (.ireturn, 1) := by decide +kernel
set_option maxRecDepth 20000 in
theorem ggX8_rot_X8_below : GoodIn wsX8_rot wsX8_below := goodIn_r _ [8] (by decide +kernel) (by decide +kernel)
set_option maxRecDepth 20000 in
theorem gX8_rot_X8_below : GoodIn wsX8_rot (va_wsS RX8 60 yX8_below wsX8_below) := goodIn_app (goodIn_of _ (by decide +kernel)) ggX8_rot_X8_below
set_option maxRecDepth 20000 in
theorem ggX8_rot_X2_keep : GoodIn wsX8_rot wsX2_keep := goodIn_r _ [13, 14, 15, 16, 17, 18, 12, 19, 6, 7, 8, 20, 21, 22, 23, 24, 25, 26, 27, 28, 29, 30, 31, 32, 33, 34, 35, 36, 37, 38, 39, 40, 41, 42, 43, 44, 45, 46, 47, 48, 49, 50, 51, 52, 53, 54, 80, 81, 75, 76, 77, 78, 79, 82, 83, 84, 85, 86, 87] (by decide +kernel) (by decide +kernel)
set_option maxRecDepth 20000 in
theorem gX8_rot_X2_keep : GoodIn wsX8_rot (wsV RX8 69 RX2 yX2_keep wsX2_keep) := goodIn_app (goodIn_of _ (by decide +kernel)) ggX8_rot_X2_keep
set_option maxRecDepth 20000 in
theorem ggX8_rot_X1_numberAt : GoodIn wsX8_rot wsX1_numberAt := goodIn_r _ [58, 35, 59, 60, 61, 33, 62, 6, 7, 8, 82] (by decide +kernel) (by decide +kernel)
set_option maxRecDepth 20000 in
theorem gX8_rot_X1_numberAt : GoodIn wsX8_rot (wsV RX8 86 RX1 yX1_numberAt wsX1_numberAt) := goodIn_app (goodIn_of _ (by decide +kernel)) ggX8_rot_X1_numberAt
set_option maxRecDepth 20000 in
theorem ggX8_rot_X1_put : GoodIn wsX8_rot wsX1_put := goodIn_r _ [66, 35, 59, 60, 61, 33, 62, 6, 7, 8, 82] (by decide +kernel) (by decide +kernel)
set_option maxRecDepth 20000 in
theorem gX8_rot_X1_put : GoodIn wsX8_rot (wsV RX8 92 RX1 yX1_put wsX1_put) := goodIn_app (goodIn_of _ (by decide +kernel)) ggX8_rot_X1_put
theorem dX8_rot_0 : decode cX8_rot 0 = .ok (.iload_n 1, 1) := by decide +kernel
theorem dX8_rot_1 : decode cX8_rot 1 = .ok (.bipush 96, 2) := by decide +kernel
theorem dX8_rot_3 : decode cX8_rot 3 = .ok (.invokestatic 60, 3) := by decide +kernel
theorem dX8_rot_6 : decode cX8_rot 6 = .ok (.ifCond .eq 29, 3) := by decide +kernel
theorem dX8_rot_9 : decode cX8_rot 9 = .ok (.iload_n 2, 1) := by decide +kernel
theorem dX8_rot_10 : decode cX8_rot 10 = .ok (.iconst 2, 1) := by decide +kernel
theorem dX8_rot_11 : decode cX8_rot 11 = .ok (.invokestatic 60, 3) := by decide +kernel
theorem dX8_rot_14 : decode cX8_rot 14 = .ok (.ifCond .eq 21, 3) := by decide +kernel
theorem dX8_rot_17 : decode cX8_rot 17 = .ok (.iload_n 3, 1) := by decide +kernel
theorem dX8_rot_18 : decode cX8_rot 18 = .ok (.iconst 4, 1) := by decide +kernel
theorem dX8_rot_19 : decode cX8_rot 19 = .ok (.invokestatic 60, 3) := by decide +kernel
theorem dX8_rot_22 : decode cX8_rot 22 = .ok (.ifCond .eq 13, 3) := by decide +kernel
theorem dX8_rot_25 : decode cX8_rot 25 = .ok (.iload 4, 2) := by decide +kernel
theorem dX8_rot_27 : decode cX8_rot 27 = .ok (.ldc 81, 2) := by decide +kernel
theorem dX8_rot_29 : decode cX8_rot 29 = .ok (.invokestatic 60, 3) := by decide +kernel
theorem dX8_rot_32 : decode cX8_rot 32 = .ok (.ifCond .ne 6, 3) := by decide +kernel
theorem dX8_rot_35 : decode cX8_rot 35 = .ok (.ldc 64, 2) := by decide +kernel
theorem dX8_rot_37 : decode cX8_rot 37 = .ok (.ireturn, 1) := by decide +kernel
theorem dX8_rot_38 : decode cX8_rot 38 = .ok (.aload_n 0, 1) := by decide +kernel
theorem dX8_rot_39 : decode cX8_rot 39 = .ok (.getfield 25, 3) := by decide +kernel
theorem dX8_rot_42 : decode cX8_rot 42 = .ok (.aload_n 0, 1) := by decide +kernel
theorem dX8_rot_43 : decode cX8_rot 43 = .ok (.getfield 10, 3) := by decide +kernel
theorem dX8_rot_46 : decode cX8_rot 46 = .ok (.invokevirtual 69, 3) := by decide +kernel
theorem dX8_rot_49 : decode cX8_rot 49 = .ok (.aload_n 0, 1) := by decide +kernel
theorem dX8_rot_50 : decode cX8_rot 50 = .ok (.getfield 10, 3) := by decide +kernel
theorem dX8_rot_53 : decode cX8_rot 53 = .ok (.getfield 82, 3) := by decide +kernel
theorem dX8_rot_56 : decode cX8_rot 56 = .ok (.iload_n 2, 1) := by decide +kernel
theorem dX8_rot_57 : decode cX8_rot 57 = .ok (.iload_n 1, 1) := by decide +kernel
theorem dX8_rot_58 : decode cX8_rot 58 = .ok (.iload_n 3, 1) := by decide +kernel
theorem dX8_rot_59 : decode cX8_rot 59 = .ok (.invokevirtual 86, 3) := by decide +kernel
theorem dX8_rot_62 : decode cX8_rot 62 = .ok (.istore 5, 2) := by decide +kernel
theorem dX8_rot_64 : decode cX8_rot 64 = .ok (.aload_n 0, 1) := by decide +kernel
theorem dX8_rot_65 : decode cX8_rot 65 = .ok (.getfield 10, 3) := by decide +kernel
theorem dX8_rot_68 : decode cX8_rot 68 = .ok (.getfield 82, 3) := by decide +kernel
theorem dX8_rot_71 : decode cX8_rot 71 = .ok (.iload_n 2, 1) := by decide +kernel
theorem dX8_rot_72 : decode cX8_rot 72 = .ok (.iload_n 1, 1) := by decide +kernel
theorem dX8_rot_73 : decode cX8_rot 73 = .ok (.iload_n 3, 1) := by decide +kernel
theorem dX8_rot_74 : decode cX8_rot 74 = .ok (.iload 4, 2) := by decide +kernel
theorem dX8_rot_76 : decode cX8_rot 76 = .ok (.invokevirtual 92, 3) := by decide +kernel
theorem dX8_rot_79 : decode cX8_rot 79 = .ok (.iload 5, 2) := by decide +kernel
theorem dX8_rot_81 : decode cX8_rot 81 = .ok (.ireturn, 1) := by decide +kernel
set_option maxRecDepth 20000 in
theorem ggX8_read_X8_isRoot : GoodIn wsX8_read wsX8_isRoot := goodIn_r _ [9, 2, 10, 11, 12, 13, 14, 15, 16, 17, 8, 18, 93, 94, 95, 96, 97, 98, 99, 100, 101, 102, 103, 104, 105, 106, 107, 108, 109] (by decide +kernel) (by decide +kernel)
set_option maxRecDepth 20000 in
theorem gX8_read_X8_isRoot : GoodIn wsX8_read (wsV RX8 96 RX8 yX8_isRoot wsX8_isRoot) := goodIn_app (goodIn_of _ (by decide +kernel)) ggX8_read_X8_isRoot
set_option maxRecDepth 20000 in
theorem ggX8_read_X8_below : GoodIn wsX8_read wsX8_below := goodIn_r _ [18] (by decide +kernel) (by decide +kernel)
set_option maxRecDepth 20000 in
theorem gX8_read_X8_below : GoodIn wsX8_read (va_wsS RX8 60 yX8_below wsX8_below) := goodIn_app (goodIn_of _ (by decide +kernel)) ggX8_read_X8_below
set_option maxRecDepth 20000 in
theorem ggX8_read_X5_findWay : GoodIn wsX8_read wsX5_findWay := goodIn_r _ [23, 24, 25, 26, 27, 28, 29, 30, 31, 32, 33, 34, 13, 35, 36, 17, 8, 18, 37, 38, 39, 40, 41, 42, 43, 44, 45, 46, 47, 48, 49, 50, 51, 52, 53, 54, 55, 56, 57, 58, 59, 60, 61, 62, 63, 64, 65, 66, 67, 68, 69, 70, 71, 72, 73, 74, 75, 76, 77, 78, 79, 101, 102, 103, 104, 105, 110, 111, 112, 113, 114, 106, 107, 108, 109, 115] (by decide +kernel) (by decide +kernel)
set_option maxRecDepth 20000 in
theorem gX8_read_X5_findWay : GoodIn wsX8_read (wsV RX8 100 RX5 yX5_findWay wsX5_findWay) := goodIn_app (goodIn_of _ (by decide +kernel)) ggX8_read_X5_findWay
set_option maxRecDepth 20000 in
theorem ggX8_read_X7_isSpoiled : GoodIn wsX8_read wsX7_isSpoiled := goodIn_r _ [83, 84, 85, 86, 29, 87, 64, 88, 89, 90, 91, 31, 17, 8, 18, 110, 111, 112, 113, 114] (by decide +kernel) (by decide +kernel)
set_option maxRecDepth 20000 in
theorem gX8_read_X7_isSpoiled : GoodIn wsX8_read (wsV RX8 104 RX7 yX7_isSpoiled wsX7_isSpoiled) := goodIn_app (goodIn_of _ (by decide +kernel)) ggX8_read_X7_isSpoiled
set_option maxRecDepth 20000 in
theorem ggX8_read_X7_numberAt : GoodIn wsX8_read wsX7_numberAt := goodIn_r _ [79, 73, 17, 8, 18, 110, 111, 112, 113, 114] (by decide +kernel) (by decide +kernel)
set_option maxRecDepth 20000 in
theorem gX8_read_X7_numberAt : GoodIn wsX8_read (wsV RX8 109 RX7 yX7_numberAt wsX7_numberAt) := goodIn_app (goodIn_of _ (by decide +kernel)) ggX8_read_X7_numberAt
theorem dX8_read_0 : decode cX8_read 0 = .ok (.aload_n 0, 1) := by decide +kernel
theorem dX8_read_1 : decode cX8_read 1 = .ok (.iload_n 1, 1) := by decide +kernel
theorem dX8_read_2 : decode cX8_read 2 = .ok (.invokevirtual 96, 3) := by decide +kernel
theorem dX8_read_5 : decode cX8_read 5 = .ok (.ifCond .eq 20, 3) := by decide +kernel
theorem dX8_read_8 : decode cX8_read 8 = .ok (.iload_n 2, 1) := by decide +kernel
theorem dX8_read_9 : decode cX8_read 9 = .ok (.bipush 16, 2) := by decide +kernel
theorem dX8_read_11 : decode cX8_read 11 = .ok (.invokestatic 60, 3) := by decide +kernel
theorem dX8_read_14 : decode cX8_read 14 = .ok (.ifCond .eq 11, 3) := by decide +kernel
theorem dX8_read_17 : decode cX8_read 17 = .ok (.iload_n 3, 1) := by decide +kernel
theorem dX8_read_18 : decode cX8_read 18 = .ok (.iconst 4, 1) := by decide +kernel
theorem dX8_read_19 : decode cX8_read 19 = .ok (.invokestatic 60, 3) := by decide +kernel
theorem dX8_read_22 : decode cX8_read 22 = .ok (.ifCond .ne 6, 3) := by decide +kernel
theorem dX8_read_25 : decode cX8_read 25 = .ok (.ldc 64, 2) := by decide +kernel
theorem dX8_read_27 : decode cX8_read 27 = .ok (.ireturn, 1) := by decide +kernel
theorem dX8_read_28 : decode cX8_read 28 = .ok (.aload_n 0, 1) := by decide +kernel
theorem dX8_read_29 : decode cX8_read 29 = .ok (.getfield 10, 3) := by decide +kernel
theorem dX8_read_32 : decode cX8_read 32 = .ok (.aload_n 0, 1) := by decide +kernel
theorem dX8_read_33 : decode cX8_read 33 = .ok (.getfield 46, 3) := by decide +kernel
theorem dX8_read_36 : decode cX8_read 36 = .ok (.iload_n 1, 1) := by decide +kernel
theorem dX8_read_37 : decode cX8_read 37 = .ok (.iload_n 2, 1) := by decide +kernel
theorem dX8_read_38 : decode cX8_read 38 = .ok (.invokevirtual 100, 3) := by decide +kernel
theorem dX8_read_41 : decode cX8_read 41 = .ok (.aload_n 0, 1) := by decide +kernel
theorem dX8_read_42 : decode cX8_read 42 = .ok (.getfield 46, 3) := by decide +kernel
theorem dX8_read_45 : decode cX8_read 45 = .ok (.invokevirtual 104, 3) := by decide +kernel
theorem dX8_read_48 : decode cX8_read 48 = .ok (.ifCond .eq 8, 3) := by decide +kernel
theorem dX8_read_51 : decode cX8_read 51 = .ok (.ldc 108, 2) := by decide +kernel
theorem dX8_read_53 : decode cX8_read 53 = .ok (.goto 12, 3) := by decide +kernel
theorem dX8_read_56 : decode cX8_read 56 = .ok (.aload_n 0, 1) := by decide +kernel
theorem dX8_read_57 : decode cX8_read 57 = .ok (.getfield 46, 3) := by decide +kernel
theorem dX8_read_60 : decode cX8_read 60 = .ok (.iconst 2, 1) := by decide +kernel
theorem dX8_read_61 : decode cX8_read 61 = .ok (.iload_n 3, 1) := by decide +kernel
theorem dX8_read_62 : decode cX8_read 62 = .ok (.invokevirtual 109, 3) := by decide +kernel
theorem dX8_read_65 : decode cX8_read 65 = .ok (.ireturn, 1) := by decide +kernel
set_option maxRecDepth 20000 in
theorem ggX8_from_X8_isRoot : GoodIn wsX8_from wsX8_isRoot := goodIn_r _ [9, 2, 10, 11, 12, 13, 14, 15, 16, 17, 8, 18, 89, 90, 91, 92, 93, 94, 95, 96, 97, 98, 99, 100, 101, 102, 103, 104, 105] (by decide +kernel) (by decide +kernel)
set_option maxRecDepth 20000 in
theorem gX8_from_X8_isRoot : GoodIn wsX8_from (wsV RX8 96 RX8 yX8_isRoot wsX8_isRoot) := goodIn_app (goodIn_of _ (by decide +kernel)) ggX8_from_X8_isRoot
set_option maxRecDepth 20000 in
theorem ggX8_from_X8_below : GoodIn wsX8_from wsX8_below := goodIn_r _ [18] (by decide +kernel) (by decide +kernel)
set_option maxRecDepth 20000 in
theorem gX8_from_X8_below : GoodIn wsX8_from (va_wsS RX8 60 yX8_below wsX8_below) := goodIn_app (goodIn_of _ (by decide +kernel)) ggX8_from_X8_below
set_option maxRecDepth 20000 in
theorem ggX8_from_X5_findWay : GoodIn wsX8_from wsX5_findWay := goodIn_r _ [23, 24, 25, 26, 27, 28, 29, 30, 31, 32, 33, 34, 13, 35, 36, 17, 8, 18, 37, 38, 39, 40, 41, 42, 43, 44, 45, 46, 47, 48, 49, 50, 51, 52, 53, 54, 55, 56, 57, 58, 59, 60, 61, 62, 63, 64, 65, 66, 67, 68, 69, 70, 71, 72, 73, 74, 75, 76, 77, 78, 79, 97, 98, 99, 100, 101, 106, 107, 108, 109, 110, 102, 103, 104, 105, 111] (by decide +kernel) (by decide +kernel)
set_option maxRecDepth 20000 in
theorem gX8_from_X5_findWay : GoodIn wsX8_from (wsV RX8 100 RX5 yX5_findWay wsX5_findWay) := goodIn_app (goodIn_of _ (by decide +kernel)) ggX8_from_X5_findWay
set_option maxRecDepth 20000 in
theorem ggX8_from_X7_tells : GoodIn wsX8_from wsX7_tells := goodIn_r _ [83, 31, 17, 8, 18, 106, 107, 108, 109, 110] (by decide +kernel) (by decide +kernel)
set_option maxRecDepth 20000 in
theorem gX8_from_X7_tells : GoodIn wsX8_from (wsV RX8 112 RX7 yX7_tells wsX7_tells) := goodIn_app (goodIn_of _ (by decide +kernel)) ggX8_from_X7_tells
set_option maxRecDepth 20000 in
theorem ggX8_from_X7_copyAt : GoodIn wsX8_from wsX7_copyAt := goodIn_r _ [87, 64, 88, 81, 82, 29, 83, 31, 17, 8, 18, 106, 107, 108, 109, 110] (by decide +kernel) (by decide +kernel)
set_option maxRecDepth 20000 in
theorem gX8_from_X7_copyAt : GoodIn wsX8_from (wsV RX8 115 RX7 yX7_copyAt wsX7_copyAt) := goodIn_app (goodIn_of _ (by decide +kernel)) ggX8_from_X7_copyAt
theorem dX8_from_0 : decode cX8_from 0 = .ok (.aload_n 0, 1) := by decide +kernel
theorem dX8_from_1 : decode cX8_from 1 = .ok (.iload_n 1, 1) := by decide +kernel
theorem dX8_from_2 : decode cX8_from 2 = .ok (.invokevirtual 96, 3) := by decide +kernel
theorem dX8_from_5 : decode cX8_from 5 = .ok (.ifCond .eq 20, 3) := by decide +kernel
theorem dX8_from_8 : decode cX8_from 8 = .ok (.iload_n 2, 1) := by decide +kernel
theorem dX8_from_9 : decode cX8_from 9 = .ok (.bipush 16, 2) := by decide +kernel
theorem dX8_from_11 : decode cX8_from 11 = .ok (.invokestatic 60, 3) := by decide +kernel
theorem dX8_from_14 : decode cX8_from 14 = .ok (.ifCond .eq 11, 3) := by decide +kernel
theorem dX8_from_17 : decode cX8_from 17 = .ok (.iload_n 3, 1) := by decide +kernel
theorem dX8_from_18 : decode cX8_from 18 = .ok (.iconst 3, 1) := by decide +kernel
theorem dX8_from_19 : decode cX8_from 19 = .ok (.invokestatic 60, 3) := by decide +kernel
theorem dX8_from_22 : decode cX8_from 22 = .ok (.ifCond .ne 6, 3) := by decide +kernel
theorem dX8_from_25 : decode cX8_from 25 = .ok (.ldc 64, 2) := by decide +kernel
theorem dX8_from_27 : decode cX8_from 27 = .ok (.ireturn, 1) := by decide +kernel
theorem dX8_from_28 : decode cX8_from 28 = .ok (.aload_n 0, 1) := by decide +kernel
theorem dX8_from_29 : decode cX8_from 29 = .ok (.getfield 10, 3) := by decide +kernel
theorem dX8_from_32 : decode cX8_from 32 = .ok (.aload_n 0, 1) := by decide +kernel
theorem dX8_from_33 : decode cX8_from 33 = .ok (.getfield 46, 3) := by decide +kernel
theorem dX8_from_36 : decode cX8_from 36 = .ok (.iload_n 1, 1) := by decide +kernel
theorem dX8_from_37 : decode cX8_from 37 = .ok (.iload_n 2, 1) := by decide +kernel
theorem dX8_from_38 : decode cX8_from 38 = .ok (.invokevirtual 100, 3) := by decide +kernel
theorem dX8_from_41 : decode cX8_from 41 = .ok (.aload_n 0, 1) := by decide +kernel
theorem dX8_from_42 : decode cX8_from 42 = .ok (.getfield 46, 3) := by decide +kernel
theorem dX8_from_45 : decode cX8_from 45 = .ok (.iload_n 3, 1) := by decide +kernel
theorem dX8_from_46 : decode cX8_from 46 = .ok (.invokevirtual 112, 3) := by decide +kernel
theorem dX8_from_49 : decode cX8_from 49 = .ok (.ifCond .eq 14, 3) := by decide +kernel
theorem dX8_from_52 : decode cX8_from 52 = .ok (.aload_n 0, 1) := by decide +kernel
theorem dX8_from_53 : decode cX8_from 53 = .ok (.getfield 46, 3) := by decide +kernel
theorem dX8_from_56 : decode cX8_from 56 = .ok (.iload_n 3, 1) := by decide +kernel
theorem dX8_from_57 : decode cX8_from 57 = .ok (.invokevirtual 115, 3) := by decide +kernel
theorem dX8_from_60 : decode cX8_from 60 = .ok (.goto 5, 3) := by decide +kernel
theorem dX8_from_63 : decode cX8_from 63 = .ok (.ldc 119, 2) := by decide +kernel
theorem dX8_from_65 : decode cX8_from 65 = .ok (.ireturn, 1) := by decide +kernel
set_option maxRecDepth 20000 in
theorem ggX8_way_X8_isRoot : GoodIn wsX8_way wsX8_isRoot := goodIn_r _ [9, 2, 10, 11, 12, 13, 14, 15, 16, 17, 8, 18, 93, 94, 95, 96, 97, 98, 99, 100, 101, 102, 103, 104, 105, 106, 107, 108, 109] (by decide +kernel) (by decide +kernel)
set_option maxRecDepth 20000 in
theorem gX8_way_X8_isRoot : GoodIn wsX8_way (wsV RX8 96 RX8 yX8_isRoot wsX8_isRoot) := goodIn_app (goodIn_of _ (by decide +kernel)) ggX8_way_X8_isRoot
set_option maxRecDepth 20000 in
theorem ggX8_way_X8_below : GoodIn wsX8_way wsX8_below := goodIn_r _ [18] (by decide +kernel) (by decide +kernel)
set_option maxRecDepth 20000 in
theorem gX8_way_X8_below : GoodIn wsX8_way (va_wsS RX8 60 yX8_below wsX8_below) := goodIn_app (goodIn_of _ (by decide +kernel)) ggX8_way_X8_below
set_option maxRecDepth 20000 in
theorem ggX8_way_X5_findWay : GoodIn wsX8_way wsX5_findWay := goodIn_r _ [23, 24, 25, 26, 27, 28, 29, 30, 31, 32, 33, 34, 13, 35, 36, 17, 8, 18, 37, 38, 39, 40, 41, 42, 43, 44, 45, 46, 47, 48, 49, 50, 51, 52, 53, 54, 55, 56, 57, 58, 59, 60, 61, 62, 63, 64, 65, 66, 67, 68, 69, 70, 71, 72, 73, 74, 75, 76, 77, 78, 79, 101, 102, 103, 104, 105, 110, 111, 112, 113, 114, 106, 107, 108, 109, 115] (by decide +kernel) (by decide +kernel)
set_option maxRecDepth 20000 in
theorem gX8_way_X5_findWay : GoodIn wsX8_way (wsV RX8 100 RX5 yX5_findWay wsX5_findWay) := goodIn_app (goodIn_of _ (by decide +kernel)) ggX8_way_X5_findWay
set_option maxRecDepth 20000 in
theorem ggX8_way_X7_tells : GoodIn wsX8_way wsX7_tells := goodIn_r _ [83, 31, 17, 8, 18, 110, 111, 112, 113, 114] (by decide +kernel) (by decide +kernel)
set_option maxRecDepth 20000 in
theorem gX8_way_X7_tells : GoodIn wsX8_way (wsV RX8 112 RX7 yX7_tells wsX7_tells) := goodIn_app (goodIn_of _ (by decide +kernel)) ggX8_way_X7_tells
set_option maxRecDepth 20000 in
theorem ggX8_way_X7_blockAt : GoodIn wsX8_way wsX7_blockAt := goodIn_r _ [87, 62, 88, 81, 82, 29, 83, 31, 17, 8, 18, 110, 111, 112, 113, 114] (by decide +kernel) (by decide +kernel)
set_option maxRecDepth 20000 in
theorem gX8_way_X7_blockAt : GoodIn wsX8_way (wsV RX8 120 RX7 yX7_blockAt wsX7_blockAt) := goodIn_app (goodIn_of _ (by decide +kernel)) ggX8_way_X7_blockAt
set_option maxRecDepth 20000 in
theorem ggX8_way_X7_sumAt : GoodIn wsX8_way wsX7_sumAt := goodIn_r _ [92, 63, 88, 81, 82, 29, 83, 31, 17, 8, 18, 110, 111, 112, 113, 114] (by decide +kernel) (by decide +kernel)
set_option maxRecDepth 20000 in
theorem gX8_way_X7_sumAt : GoodIn wsX8_way (wsV RX8 123 RX7 yX7_sumAt wsX7_sumAt) := goodIn_app (goodIn_of _ (by decide +kernel)) ggX8_way_X7_sumAt
theorem dX8_way_0 : decode cX8_way 0 = .ok (.aload_n 0, 1) := by decide +kernel
theorem dX8_way_1 : decode cX8_way 1 = .ok (.iload_n 1, 1) := by decide +kernel
theorem dX8_way_2 : decode cX8_way 2 = .ok (.invokevirtual 96, 3) := by decide +kernel
theorem dX8_way_5 : decode cX8_way 5 = .ok (.ifCond .eq 29, 3) := by decide +kernel
theorem dX8_way_8 : decode cX8_way 8 = .ok (.iload_n 2, 1) := by decide +kernel
theorem dX8_way_9 : decode cX8_way 9 = .ok (.bipush 16, 2) := by decide +kernel
theorem dX8_way_11 : decode cX8_way 11 = .ok (.invokestatic 60, 3) := by decide +kernel
theorem dX8_way_14 : decode cX8_way 14 = .ok (.ifCond .eq 20, 3) := by decide +kernel
theorem dX8_way_17 : decode cX8_way 17 = .ok (.iload_n 3, 1) := by decide +kernel
theorem dX8_way_18 : decode cX8_way 18 = .ok (.iconst 3, 1) := by decide +kernel
theorem dX8_way_19 : decode cX8_way 19 = .ok (.invokestatic 60, 3) := by decide +kernel
theorem dX8_way_22 : decode cX8_way 22 = .ok (.ifCond .eq 12, 3) := by decide +kernel
theorem dX8_way_25 : decode cX8_way 25 = .ok (.iload 4, 2) := by decide +kernel
theorem dX8_way_27 : decode cX8_way 27 = .ok (.iconst 2, 1) := by decide +kernel
theorem dX8_way_28 : decode cX8_way 28 = .ok (.invokestatic 60, 3) := by decide +kernel
theorem dX8_way_31 : decode cX8_way 31 = .ok (.ifCond .ne 6, 3) := by decide +kernel
theorem dX8_way_34 : decode cX8_way 34 = .ok (.ldc 64, 2) := by decide +kernel
theorem dX8_way_36 : decode cX8_way 36 = .ok (.ireturn, 1) := by decide +kernel
theorem dX8_way_37 : decode cX8_way 37 = .ok (.aload_n 0, 1) := by decide +kernel
theorem dX8_way_38 : decode cX8_way 38 = .ok (.getfield 10, 3) := by decide +kernel
theorem dX8_way_41 : decode cX8_way 41 = .ok (.aload_n 0, 1) := by decide +kernel
theorem dX8_way_42 : decode cX8_way 42 = .ok (.getfield 46, 3) := by decide +kernel
theorem dX8_way_45 : decode cX8_way 45 = .ok (.iload_n 1, 1) := by decide +kernel
theorem dX8_way_46 : decode cX8_way 46 = .ok (.iload_n 2, 1) := by decide +kernel
theorem dX8_way_47 : decode cX8_way 47 = .ok (.invokevirtual 100, 3) := by decide +kernel
theorem dX8_way_50 : decode cX8_way 50 = .ok (.aload_n 0, 1) := by decide +kernel
theorem dX8_way_51 : decode cX8_way 51 = .ok (.getfield 46, 3) := by decide +kernel
theorem dX8_way_54 : decode cX8_way 54 = .ok (.iload_n 3, 1) := by decide +kernel
theorem dX8_way_55 : decode cX8_way 55 = .ok (.invokevirtual 112, 3) := by decide +kernel
theorem dX8_way_58 : decode cX8_way 58 = .ok (.ifCond .ne 6, 3) := by decide +kernel
theorem dX8_way_61 : decode cX8_way 61 = .ok (.ldc 119, 2) := by decide +kernel
theorem dX8_way_63 : decode cX8_way 63 = .ok (.ireturn, 1) := by decide +kernel
theorem dX8_way_64 : decode cX8_way 64 = .ok (.iload 4, 2) := by decide +kernel
theorem dX8_way_66 : decode cX8_way 66 = .ok (.ifCond .ne 14, 3) := by decide +kernel
theorem dX8_way_69 : decode cX8_way 69 = .ok (.aload_n 0, 1) := by decide +kernel
theorem dX8_way_70 : decode cX8_way 70 = .ok (.getfield 46, 3) := by decide +kernel
theorem dX8_way_73 : decode cX8_way 73 = .ok (.iload_n 3, 1) := by decide +kernel
theorem dX8_way_74 : decode cX8_way 74 = .ok (.invokevirtual 120, 3) := by decide +kernel
theorem dX8_way_77 : decode cX8_way 77 = .ok (.goto 11, 3) := by decide +kernel
theorem dX8_way_80 : decode cX8_way 80 = .ok (.aload_n 0, 1) := by decide +kernel
theorem dX8_way_81 : decode cX8_way 81 = .ok (.getfield 46, 3) := by decide +kernel
theorem dX8_way_84 : decode cX8_way 84 = .ok (.iload_n 3, 1) := by decide +kernel
theorem dX8_way_85 : decode cX8_way 85 = .ok (.invokevirtual 123, 3) := by decide +kernel
theorem dX8_way_88 : decode cX8_way 88 = .ok (.ireturn, 1) := by decide +kernel
set_option maxRecDepth 20000 in
theorem ggX8_content_X8_below : GoodIn wsX8_content wsX8_below := goodIn_r _ [6] (by decide +kernel) (by decide +kernel)
set_option maxRecDepth 20000 in
theorem gX8_content_X8_below : GoodIn wsX8_content (va_wsS RX8 60 yX8_below wsX8_below) := goodIn_app (goodIn_of _ (by decide +kernel)) ggX8_content_X8_below
set_option maxRecDepth 20000 in
theorem ggX8_content_X1_sumOf : GoodIn wsX8_content wsX1_sumOf := goodIn_r _ [11, 12, 13, 14, 15, 10, 16, 17, 5, 18, 36] (by decide +kernel) (by decide +kernel)
set_option maxRecDepth 20000 in
theorem gX8_content_X1_sumOf : GoodIn wsX8_content (wsV RX8 126 RX1 yX1_sumOf wsX1_sumOf) := goodIn_app (goodIn_of _ (by decide +kernel)) ggX8_content_X1_sumOf
set_option maxRecDepth 20000 in
theorem ggX8_content_X1_numberAt : GoodIn wsX8_content wsX1_numberAt := goodIn_r _ [22, 12, 13, 14, 15, 10, 16, 4, 5, 6, 36] (by decide +kernel) (by decide +kernel)
set_option maxRecDepth 20000 in
theorem gX8_content_X1_numberAt : GoodIn wsX8_content (wsV RX8 86 RX1 yX1_numberAt wsX1_numberAt) := goodIn_app (goodIn_of _ (by decide +kernel)) ggX8_content_X1_numberAt
theorem dX8_content_0 : decode cX8_content 0 = .ok (.iload_n 1, 1) := by decide +kernel
theorem dX8_content_1 : decode cX8_content 1 = .ok (.bipush 96, 2) := by decide +kernel
theorem dX8_content_3 : decode cX8_content 3 = .ok (.invokestatic 60, 3) := by decide +kernel
theorem dX8_content_6 : decode cX8_content 6 = .ok (.ifCond .eq 19, 3) := by decide +kernel
theorem dX8_content_9 : decode cX8_content 9 = .ok (.iload_n 2, 1) := by decide +kernel
theorem dX8_content_10 : decode cX8_content 10 = .ok (.iconst 2, 1) := by decide +kernel
theorem dX8_content_11 : decode cX8_content 11 = .ok (.invokestatic 60, 3) := by decide +kernel
theorem dX8_content_14 : decode cX8_content 14 = .ok (.ifCond .eq 11, 3) := by decide +kernel
theorem dX8_content_17 : decode cX8_content 17 = .ok (.iload_n 3, 1) := by decide +kernel
theorem dX8_content_18 : decode cX8_content 18 = .ok (.iconst 5, 1) := by decide +kernel
theorem dX8_content_19 : decode cX8_content 19 = .ok (.invokestatic 60, 3) := by decide +kernel
theorem dX8_content_22 : decode cX8_content 22 = .ok (.ifCond .ne 6, 3) := by decide +kernel
theorem dX8_content_25 : decode cX8_content 25 = .ok (.ldc 64, 2) := by decide +kernel
theorem dX8_content_27 : decode cX8_content 27 = .ok (.ireturn, 1) := by decide +kernel
theorem dX8_content_28 : decode cX8_content 28 = .ok (.iload_n 3, 1) := by decide +kernel
theorem dX8_content_29 : decode cX8_content 29 = .ok (.iconst 4, 1) := by decide +kernel
theorem dX8_content_30 : decode cX8_content 30 = .ok (.if_icmp .ne 16, 3) := by decide +kernel
theorem dX8_content_33 : decode cX8_content 33 = .ok (.aload_n 0, 1) := by decide +kernel
theorem dX8_content_34 : decode cX8_content 34 = .ok (.getfield 10, 3) := by decide +kernel
theorem dX8_content_37 : decode cX8_content 37 = .ok (.getfield 82, 3) := by decide +kernel
theorem dX8_content_40 : decode cX8_content 40 = .ok (.iload_n 2, 1) := by decide +kernel
theorem dX8_content_41 : decode cX8_content 41 = .ok (.iload_n 1, 1) := by decide +kernel
theorem dX8_content_42 : decode cX8_content 42 = .ok (.invokevirtual 126, 3) := by decide +kernel
theorem dX8_content_45 : decode cX8_content 45 = .ok (.ireturn, 1) := by decide +kernel
theorem dX8_content_46 : decode cX8_content 46 = .ok (.aload_n 0, 1) := by decide +kernel
theorem dX8_content_47 : decode cX8_content 47 = .ok (.getfield 10, 3) := by decide +kernel
theorem dX8_content_50 : decode cX8_content 50 = .ok (.getfield 82, 3) := by decide +kernel
theorem dX8_content_53 : decode cX8_content 53 = .ok (.iload_n 2, 1) := by decide +kernel
theorem dX8_content_54 : decode cX8_content 54 = .ok (.iload_n 1, 1) := by decide +kernel
theorem dX8_content_55 : decode cX8_content 55 = .ok (.iload_n 3, 1) := by decide +kernel
theorem dX8_content_56 : decode cX8_content 56 = .ok (.invokevirtual 86, 3) := by decide +kernel
theorem dX8_content_59 : decode cX8_content 59 = .ok (.ireturn, 1) := by decide +kernel
set_option maxRecDepth 20000 in
theorem ggX8_mend_X8_isRoot : GoodIn wsX8_mend wsX8_isRoot := goodIn_r _ [9, 3, 10, 11, 12, 13, 14, 15, 16, 17, 8, 18, 147, 148, 149, 150, 151, 152, 153, 154, 155, 156, 157, 158, 159, 160, 161, 162, 163] (by decide +kernel) (by decide +kernel)
set_option maxRecDepth 20000 in
theorem gX8_mend_X8_isRoot : GoodIn wsX8_mend (wsV RX8 96 RX8 yX8_isRoot wsX8_isRoot) := goodIn_app (goodIn_of _ (by decide +kernel)) ggX8_mend_X8_isRoot
set_option maxRecDepth 20000 in
theorem ggX8_mend_X8_below : GoodIn wsX8_mend wsX8_below := goodIn_r _ [18] (by decide +kernel) (by decide +kernel)
set_option maxRecDepth 20000 in
theorem gX8_mend_X8_below : GoodIn wsX8_mend (va_wsS RX8 60 yX8_below wsX8_below) := goodIn_app (goodIn_of _ (by decide +kernel)) ggX8_mend_X8_below
set_option maxRecDepth 20000 in
theorem ggX8_mend_X2_keep : GoodIn wsX8_mend wsX2_keep := goodIn_r _ [23, 24, 25, 26, 27, 28, 22, 29, 17, 8, 18, 30, 31, 32, 33, 34, 35, 36, 37, 38, 39, 40, 41, 42, 43, 44, 45, 46, 47, 48, 49, 50, 51, 52, 53, 54, 55, 56, 57, 58, 13, 59, 60, 61, 62, 15, 164, 165, 155, 156, 157, 158, 159, 166, 167, 160, 161, 162, 163] (by decide +kernel) (by decide +kernel)
set_option maxRecDepth 20000 in
theorem gX8_mend_X2_keep : GoodIn wsX8_mend (wsV RX8 69 RX2 yX2_keep wsX2_keep) := goodIn_app (goodIn_of _ (by decide +kernel)) ggX8_mend_X2_keep
set_option maxRecDepth 20000 in
theorem ggX8_mend_X5_mendWay : GoodIn wsX8_mend wsX5_mendWay := goodIn_r _ [66, 35, 67, 68, 69, 33, 70, 37, 71, 72, 73, 74, 75, 76, 77, 78, 79, 13, 80, 61, 17, 8, 18, 81, 82, 83, 84, 62, 85, 86, 87, 43, 88, 89, 90, 91, 92, 45, 93, 94, 95, 96, 97, 98, 99, 100, 101, 102, 103, 104, 105, 106, 107, 108, 109, 110, 111, 112, 113, 114, 115, 116, 117, 118, 119, 120, 121, 122, 123, 124, 125, 126, 127, 128, 129, 130, 131, 132, 133, 134, 135, 136, 137, 138, 139, 140, 141, 142, 143, 144, 145, 146, 155, 156, 157, 158, 159, 168, 169, 170, 171, 172, 160, 161, 162, 163, 166] (by decide +kernel) (by decide +kernel)
set_option maxRecDepth 20000 in
theorem gX8_mend_X5_mendWay : GoodIn wsX8_mend (wsV RX8 129 RX5 yX5_mendWay wsX5_mendWay) := goodIn_app (goodIn_of _ (by decide +kernel)) ggX8_mend_X5_mendWay
theorem dX8_mend_0 : decode cX8_mend 0 = .ok (.aload_n 0, 1) := by decide +kernel
theorem dX8_mend_1 : decode cX8_mend 1 = .ok (.iload_n 1, 1) := by decide +kernel
theorem dX8_mend_2 : decode cX8_mend 2 = .ok (.invokevirtual 96, 3) := by decide +kernel
theorem dX8_mend_5 : decode cX8_mend 5 = .ok (.ifCond .eq 12, 3) := by decide +kernel
theorem dX8_mend_8 : decode cX8_mend 8 = .ok (.iload_n 2, 1) := by decide +kernel
theorem dX8_mend_9 : decode cX8_mend 9 = .ok (.bipush 16, 2) := by decide +kernel
theorem dX8_mend_11 : decode cX8_mend 11 = .ok (.invokestatic 60, 3) := by decide +kernel
theorem dX8_mend_14 : decode cX8_mend 14 = .ok (.ifCond .ne 6, 3) := by decide +kernel
theorem dX8_mend_17 : decode cX8_mend 17 = .ok (.ldc 64, 2) := by decide +kernel
theorem dX8_mend_19 : decode cX8_mend 19 = .ok (.ireturn, 1) := by decide +kernel
theorem dX8_mend_20 : decode cX8_mend 20 = .ok (.aload_n 0, 1) := by decide +kernel
theorem dX8_mend_21 : decode cX8_mend 21 = .ok (.getfield 25, 3) := by decide +kernel
theorem dX8_mend_24 : decode cX8_mend 24 = .ok (.aload_n 0, 1) := by decide +kernel
theorem dX8_mend_25 : decode cX8_mend 25 = .ok (.getfield 10, 3) := by decide +kernel
theorem dX8_mend_28 : decode cX8_mend 28 = .ok (.invokevirtual 69, 3) := by decide +kernel
theorem dX8_mend_31 : decode cX8_mend 31 = .ok (.aload_n 0, 1) := by decide +kernel
theorem dX8_mend_32 : decode cX8_mend 32 = .ok (.getfield 10, 3) := by decide +kernel
theorem dX8_mend_35 : decode cX8_mend 35 = .ok (.aload_n 0, 1) := by decide +kernel
theorem dX8_mend_36 : decode cX8_mend 36 = .ok (.getfield 46, 3) := by decide +kernel
theorem dX8_mend_39 : decode cX8_mend 39 = .ok (.iload_n 1, 1) := by decide +kernel
theorem dX8_mend_40 : decode cX8_mend 40 = .ok (.iload_n 2, 1) := by decide +kernel
theorem dX8_mend_41 : decode cX8_mend 41 = .ok (.invokevirtual 129, 3) := by decide +kernel
theorem dX8_mend_44 : decode cX8_mend 44 = .ok (.ireturn, 1) := by decide +kernel
set_option maxRecDepth 20000 in
theorem ggX8_scrub_X2_keep : GoodIn wsX8_scrub wsX2_keep := goodIn_r _ [8, 9, 10, 11, 12, 13, 7, 14, 15, 16, 17, 18, 19, 20, 21, 22, 23, 24, 25, 26, 27, 28, 29, 30, 31, 32, 33, 34, 35, 36, 37, 38, 39, 40, 41, 42, 43, 44, 45, 46, 47, 48, 49, 50, 51, 52, 154, 155, 149, 150, 151, 152, 153, 156, 157, 158, 159, 160, 161] (by decide +kernel) (by decide +kernel)
set_option maxRecDepth 20000 in
theorem gX8_scrub_X2_keep : GoodIn wsX8_scrub (wsV RX8 69 RX2 yX2_keep wsX2_keep) := goodIn_app (goodIn_of _ (by decide +kernel)) ggX8_scrub_X2_keep
set_option maxRecDepth 20000 in
theorem ggX8_scrub_X3_size : GoodIn wsX8_scrub wsX3_size := goodIn_r _ [56, 52, 158, 159, 160, 161] (by decide +kernel) (by decide +kernel)
set_option maxRecDepth 20000 in
theorem gX8_scrub_X3_size : GoodIn wsX8_scrub (wsV RX8 137 RX3 yX3_size wsX3_size) := goodIn_app (goodIn_of _ (by decide +kernel)) ggX8_scrub_X3_size
set_option maxRecDepth 20000 in
theorem ggX8_scrub_X5_mendWay : GoodIn wsX8_scrub wsX5_mendWay := goodIn_r _ [60, 23, 61, 62, 63, 21, 64, 25, 65, 66, 67, 68, 69, 70, 71, 72, 73, 47, 74, 50, 15, 16, 17, 75, 76, 77, 78, 51, 79, 80, 81, 31, 82, 83, 84, 85, 86, 33, 87, 88, 89, 90, 91, 92, 93, 94, 95, 96, 97, 98, 99, 100, 101, 102, 103, 104, 105, 106, 107, 108, 109, 110, 111, 112, 113, 114, 115, 116, 117, 118, 119, 120, 121, 122, 123, 124, 125, 126, 127, 128, 129, 130, 131, 132, 133, 134, 135, 136, 137, 138, 139, 140, 149, 150, 151, 152, 153, 162, 163, 164, 165, 166, 158, 159, 160, 161, 156] (by decide +kernel) (by decide +kernel)
set_option maxRecDepth 20000 in
theorem gX8_scrub_X5_mendWay : GoodIn wsX8_scrub (wsV RX8 129 RX5 yX5_mendWay wsX5_mendWay) := goodIn_app (goodIn_of _ (by decide +kernel)) ggX8_scrub_X5_mendWay
theorem dX8_scrub_0 : decode cX8_scrub 0 = .ok (.aload_n 0, 1) := by decide +kernel
theorem dX8_scrub_1 : decode cX8_scrub 1 = .ok (.getfield 25, 3) := by decide +kernel
theorem dX8_scrub_4 : decode cX8_scrub 4 = .ok (.aload_n 0, 1) := by decide +kernel
theorem dX8_scrub_5 : decode cX8_scrub 5 = .ok (.getfield 10, 3) := by decide +kernel
theorem dX8_scrub_8 : decode cX8_scrub 8 = .ok (.invokevirtual 69, 3) := by decide +kernel
theorem dX8_scrub_11 : decode cX8_scrub 11 = .ok (.iconst 0, 1) := by decide +kernel
theorem dX8_scrub_12 : decode cX8_scrub 12 = .ok (.istore_n 1, 1) := by decide +kernel
theorem dX8_scrub_13 : decode cX8_scrub 13 = .ok (.iconst 0, 1) := by decide +kernel
theorem dX8_scrub_14 : decode cX8_scrub 14 = .ok (.istore_n 2, 1) := by decide +kernel
theorem dX8_scrub_15 : decode cX8_scrub 15 = .ok (.iload_n 2, 1) := by decide +kernel
theorem dX8_scrub_16 : decode cX8_scrub 16 = .ok (.aload_n 0, 1) := by decide +kernel
theorem dX8_scrub_17 : decode cX8_scrub 17 = .ok (.getfield 10, 3) := by decide +kernel
theorem dX8_scrub_20 : decode cX8_scrub 20 = .ok (.getfield 133, 3) := by decide +kernel
theorem dX8_scrub_23 : decode cX8_scrub 23 = .ok (.invokevirtual 137, 3) := by decide +kernel
theorem dX8_scrub_26 : decode cX8_scrub 26 = .ok (.if_icmp .ge 39, 3) := by decide +kernel
theorem dX8_scrub_29 : decode cX8_scrub 29 = .ok (.iconst 0, 1) := by decide +kernel
theorem dX8_scrub_30 : decode cX8_scrub 30 = .ok (.istore_n 3, 1) := by decide +kernel
theorem dX8_scrub_31 : decode cX8_scrub 31 = .ok (.iload_n 3, 1) := by decide +kernel
theorem dX8_scrub_32 : decode cX8_scrub 32 = .ok (.bipush 16, 2) := by decide +kernel
theorem dX8_scrub_34 : decode cX8_scrub 34 = .ok (.if_icmp .ge 25, 3) := by decide +kernel
theorem dX8_scrub_37 : decode cX8_scrub 37 = .ok (.iload_n 1, 1) := by decide +kernel
theorem dX8_scrub_38 : decode cX8_scrub 38 = .ok (.aload_n 0, 1) := by decide +kernel
theorem dX8_scrub_39 : decode cX8_scrub 39 = .ok (.getfield 10, 3) := by decide +kernel
theorem dX8_scrub_42 : decode cX8_scrub 42 = .ok (.aload_n 0, 1) := by decide +kernel
theorem dX8_scrub_43 : decode cX8_scrub 43 = .ok (.getfield 46, 3) := by decide +kernel
theorem dX8_scrub_46 : decode cX8_scrub 46 = .ok (.iload_n 2, 1) := by decide +kernel
theorem dX8_scrub_47 : decode cX8_scrub 47 = .ok (.iload_n 3, 1) := by decide +kernel
theorem dX8_scrub_48 : decode cX8_scrub 48 = .ok (.invokevirtual 129, 3) := by decide +kernel
theorem dX8_scrub_51 : decode cX8_scrub 51 = .ok (.iadd, 1) := by decide +kernel
theorem dX8_scrub_52 : decode cX8_scrub 52 = .ok (.istore_n 1, 1) := by decide +kernel
theorem dX8_scrub_53 : decode cX8_scrub 53 = .ok (.iinc 3 1, 3) := by decide +kernel
theorem dX8_scrub_56 : decode cX8_scrub 56 = .ok (.goto (-25), 3) := by decide +kernel
theorem dX8_scrub_59 : decode cX8_scrub 59 = .ok (.iinc 2 1, 3) := by decide +kernel
theorem dX8_scrub_62 : decode cX8_scrub 62 = .ok (.goto (-47), 3) := by decide +kernel
theorem dX8_scrub_65 : decode cX8_scrub 65 = .ok (.iload_n 1, 1) := by decide +kernel
theorem dX8_scrub_66 : decode cX8_scrub 66 = .ok (.ireturn, 1) := by decide +kernel
set_option maxRecDepth 20000 in
theorem ggX8_leaves_X8_isRoot : GoodIn wsX8_leaves wsX8_isRoot := goodIn_r _ [8, 2, 9, 10, 11, 12, 13, 14, 15, 16, 7, 17, 112, 113, 114, 115, 116, 117, 118, 119, 120, 121, 122, 123, 124, 125, 126, 127, 128] (by decide +kernel) (by decide +kernel)
set_option maxRecDepth 20000 in
theorem gX8_leaves_X8_isRoot : GoodIn wsX8_leaves (wsV RX8 96 RX8 yX8_isRoot wsX8_isRoot) := goodIn_app (goodIn_of _ (by decide +kernel)) ggX8_leaves_X8_isRoot
set_option maxRecDepth 20000 in
theorem ggX8_leaves_X8_below : GoodIn wsX8_leaves wsX8_below := goodIn_r _ [17] (by decide +kernel) (by decide +kernel)
set_option maxRecDepth 20000 in
theorem gX8_leaves_X8_below : GoodIn wsX8_leaves (va_wsS RX8 60 yX8_below wsX8_below) := goodIn_app (goodIn_of _ (by decide +kernel)) ggX8_leaves_X8_below
set_option maxRecDepth 20000 in
theorem ggX8_leaves_X5_findWay : GoodIn wsX8_leaves wsX5_findWay := goodIn_r _ [22, 23, 24, 25, 26, 27, 28, 29, 30, 31, 32, 33, 12, 34, 35, 16, 7, 17, 36, 37, 38, 39, 40, 41, 42, 43, 44, 45, 46, 47, 48, 49, 50, 51, 52, 53, 54, 55, 56, 57, 58, 59, 60, 61, 62, 63, 64, 65, 66, 67, 68, 69, 70, 71, 72, 73, 74, 75, 76, 77, 78, 120, 121, 122, 123, 124, 129, 130, 131, 132, 133, 125, 126, 127, 128, 134] (by decide +kernel) (by decide +kernel)
set_option maxRecDepth 20000 in
theorem gX8_leaves_X5_findWay : GoodIn wsX8_leaves (wsV RX8 100 RX5 yX5_findWay wsX5_findWay) := goodIn_app (goodIn_of _ (by decide +kernel)) ggX8_leaves_X5_findWay
set_option maxRecDepth 20000 in
theorem ggX8_leaves_X8_isWayOfKind : GoodIn wsX8_leaves wsX8_isWayOfKind := goodIn_r _ [82, 3, 2, 83, 84, 85, 28, 86, 87, 88, 89, 90, 63, 91, 92, 93, 94, 30, 16, 7, 17, 95, 96, 97, 21, 98, 24, 99, 100, 101, 102, 61, 103, 104, 105, 44, 106, 107, 65, 66, 67, 50, 51, 52, 53, 54, 108, 109, 110, 111, 112, 113, 114, 115, 116, 117, 118, 119, 129, 130, 131, 132, 133, 120, 121, 122, 123, 124, 134] (by decide +kernel) (by decide +kernel)
set_option maxRecDepth 20000 in
theorem gX8_leaves_X8_isWayOfKind : GoodIn wsX8_leaves (wsV RX8 143 RX8 yX8_isWayOfKind wsX8_isWayOfKind) := goodIn_app (goodIn_of _ (by decide +kernel)) ggX8_leaves_X8_isWayOfKind
theorem dX8_leaves_0 : decode cX8_leaves 0 = .ok (.aload_n 0, 1) := by decide +kernel
theorem dX8_leaves_1 : decode cX8_leaves 1 = .ok (.iload_n 1, 1) := by decide +kernel
theorem dX8_leaves_2 : decode cX8_leaves 2 = .ok (.invokevirtual 96, 3) := by decide +kernel
theorem dX8_leaves_5 : decode cX8_leaves 5 = .ok (.ifCond .eq 11, 3) := by decide +kernel
theorem dX8_leaves_8 : decode cX8_leaves 8 = .ok (.iload_n 2, 1) := by decide +kernel
theorem dX8_leaves_9 : decode cX8_leaves 9 = .ok (.iconst 3, 1) := by decide +kernel
theorem dX8_leaves_10 : decode cX8_leaves 10 = .ok (.invokestatic 60, 3) := by decide +kernel
theorem dX8_leaves_13 : decode cX8_leaves 13 = .ok (.ifCond .ne 6, 3) := by decide +kernel
theorem dX8_leaves_16 : decode cX8_leaves 16 = .ok (.ldc 64, 2) := by decide +kernel
theorem dX8_leaves_18 : decode cX8_leaves 18 = .ok (.ireturn, 1) := by decide +kernel
theorem dX8_leaves_19 : decode cX8_leaves 19 = .ok (.iconst 0, 1) := by decide +kernel
theorem dX8_leaves_20 : decode cX8_leaves 20 = .ok (.istore_n 3, 1) := by decide +kernel
theorem dX8_leaves_21 : decode cX8_leaves 21 = .ok (.iconst 0, 1) := by decide +kernel
theorem dX8_leaves_22 : decode cX8_leaves 22 = .ok (.istore 4, 2) := by decide +kernel
theorem dX8_leaves_24 : decode cX8_leaves 24 = .ok (.iload 4, 2) := by decide +kernel
theorem dX8_leaves_26 : decode cX8_leaves 26 = .ok (.bipush 16, 2) := by decide +kernel
theorem dX8_leaves_28 : decode cX8_leaves 28 = .ok (.if_icmp .ge 38, 3) := by decide +kernel
theorem dX8_leaves_31 : decode cX8_leaves 31 = .ok (.aload_n 0, 1) := by decide +kernel
theorem dX8_leaves_32 : decode cX8_leaves 32 = .ok (.getfield 10, 3) := by decide +kernel
theorem dX8_leaves_35 : decode cX8_leaves 35 = .ok (.aload_n 0, 1) := by decide +kernel
theorem dX8_leaves_36 : decode cX8_leaves 36 = .ok (.getfield 46, 3) := by decide +kernel
theorem dX8_leaves_39 : decode cX8_leaves 39 = .ok (.iload_n 1, 1) := by decide +kernel
theorem dX8_leaves_40 : decode cX8_leaves 40 = .ok (.iload 4, 2) := by decide +kernel
theorem dX8_leaves_42 : decode cX8_leaves 42 = .ok (.invokevirtual 100, 3) := by decide +kernel
theorem dX8_leaves_45 : decode cX8_leaves 45 = .ok (.aload_n 0, 1) := by decide +kernel
theorem dX8_leaves_46 : decode cX8_leaves 46 = .ok (.iload_n 2, 1) := by decide +kernel
theorem dX8_leaves_47 : decode cX8_leaves 47 = .ok (.invokevirtual 143, 3) := by decide +kernel
theorem dX8_leaves_50 : decode cX8_leaves 50 = .ok (.ifCond .eq 10, 3) := by decide +kernel
theorem dX8_leaves_53 : decode cX8_leaves 53 = .ok (.iload_n 3, 1) := by decide +kernel
theorem dX8_leaves_54 : decode cX8_leaves 54 = .ok (.iconst 1, 1) := by decide +kernel
theorem dX8_leaves_55 : decode cX8_leaves 55 = .ok (.iload 4, 2) := by decide +kernel
theorem dX8_leaves_57 : decode cX8_leaves 57 = .ok (.ishl, 1) := by decide +kernel
theorem dX8_leaves_58 : decode cX8_leaves 58 = .ok (.ior, 1) := by decide +kernel
theorem dX8_leaves_59 : decode cX8_leaves 59 = .ok (.istore_n 3, 1) := by decide +kernel
theorem dX8_leaves_60 : decode cX8_leaves 60 = .ok (.iinc 4 1, 3) := by decide +kernel
theorem dX8_leaves_63 : decode cX8_leaves 63 = .ok (.goto (-39), 3) := by decide +kernel
theorem dX8_leaves_66 : decode cX8_leaves 66 = .ok (.iload_n 3, 1) := by decide +kernel
theorem dX8_leaves_67 : decode cX8_leaves 67 = .ok (.ireturn, 1) := by decide +kernel
set_option maxRecDepth 20000 in
theorem ggX8_free_X8_isRoot : GoodIn wsX8_free wsX8_isRoot := goodIn_r _ [10, 4, 11, 12, 13, 14, 15, 16, 17, 18, 9, 19, 127, 128, 129, 130, 131, 132, 133, 134, 135, 136, 137, 138, 139, 140, 141, 142, 143] (by decide +kernel) (by decide +kernel)
set_option maxRecDepth 20000 in
theorem gX8_free_X8_isRoot : GoodIn wsX8_free (wsV RX8 96 RX8 yX8_isRoot wsX8_isRoot) := goodIn_app (goodIn_of _ (by decide +kernel)) ggX8_free_X8_isRoot
set_option maxRecDepth 20000 in
theorem ggX8_free_X2_keep : GoodIn wsX8_free wsX2_keep := goodIn_r _ [24, 25, 26, 27, 28, 29, 23, 30, 18, 9, 19, 31, 32, 33, 34, 35, 36, 37, 38, 39, 40, 41, 42, 43, 44, 45, 46, 47, 48, 49, 50, 51, 52, 53, 54, 55, 56, 57, 58, 59, 14, 60, 61, 62, 63, 16, 144, 145, 135, 136, 137, 138, 139, 146, 147, 140, 141, 142, 143] (by decide +kernel) (by decide +kernel)
set_option maxRecDepth 20000 in
theorem gX8_free_X2_keep : GoodIn wsX8_free (wsV RX8 69 RX2 yX2_keep wsX2_keep) := goodIn_app (goodIn_of _ (by decide +kernel)) ggX8_free_X2_keep
set_option maxRecDepth 20000 in
theorem ggX8_free_X3_remove : GoodIn wsX8_free wsX3_remove := goodIn_r _ [67, 16, 68, 69, 70, 14, 71, 61, 62, 63, 18, 9, 19, 140, 141, 142, 143] (by decide +kernel) (by decide +kernel)
set_option maxRecDepth 20000 in
theorem gX8_free_X3_remove : GoodIn wsX8_free (wsV RX8 146 RX3 yX3_remove wsX3_remove) := goodIn_app (goodIn_of _ (by decide +kernel)) ggX8_free_X3_remove
set_option maxRecDepth 20000 in
theorem ggX8_free_X5_settleUse : GoodIn wsX8_free wsX5_settleUse := goodIn_r _ [75, 37, 38, 51, 52, 53, 54, 55, 56, 76, 77, 78, 79, 80, 12, 13, 14, 15, 16, 81, 82, 83, 34, 84, 36, 85, 86, 87, 88, 62, 18, 9, 19, 89, 90, 91, 92, 63, 93, 94, 95, 96, 97, 98, 99, 44, 100, 101, 102, 103, 104, 46, 105, 106, 107, 108, 109, 110, 111, 112, 113, 114, 115, 116, 117, 118, 119, 120, 121, 122, 123, 124, 125, 126, 135, 136, 137, 138, 139, 147, 140, 141, 142, 143, 146] (by decide +kernel) (by decide +kernel)
set_option maxRecDepth 20000 in
theorem gX8_free_X5_settleUse : GoodIn wsX8_free (wsV RX8 150 RX5 yX5_settleUse wsX5_settleUse) := goodIn_app (goodIn_of _ (by decide +kernel)) ggX8_free_X5_settleUse
theorem dX8_free_0 : decode cX8_free 0 = .ok (.aload_n 0, 1) := by decide +kernel
theorem dX8_free_1 : decode cX8_free 1 = .ok (.iload_n 1, 1) := by decide +kernel
theorem dX8_free_2 : decode cX8_free 2 = .ok (.invokevirtual 96, 3) := by decide +kernel
theorem dX8_free_5 : decode cX8_free 5 = .ok (.ifCond .ne 6, 3) := by decide +kernel
theorem dX8_free_8 : decode cX8_free 8 = .ok (.ldc 64, 2) := by decide +kernel
theorem dX8_free_10 : decode cX8_free 10 = .ok (.ireturn, 1) := by decide +kernel
theorem dX8_free_11 : decode cX8_free 11 = .ok (.iload_n 1, 1) := by decide +kernel
theorem dX8_free_12 : decode cX8_free 12 = .ok (.ifCond .ne 6, 3) := by decide +kernel
theorem dX8_free_15 : decode cX8_free 15 = .ok (.ldc 108, 2) := by decide +kernel
theorem dX8_free_17 : decode cX8_free 17 = .ok (.ireturn, 1) := by decide +kernel
theorem dX8_free_18 : decode cX8_free 18 = .ok (.aload_n 0, 1) := by decide +kernel
theorem dX8_free_19 : decode cX8_free 19 = .ok (.getfield 25, 3) := by decide +kernel
theorem dX8_free_22 : decode cX8_free 22 = .ok (.aload_n 0, 1) := by decide +kernel
theorem dX8_free_23 : decode cX8_free 23 = .ok (.getfield 10, 3) := by decide +kernel
theorem dX8_free_26 : decode cX8_free 26 = .ok (.invokevirtual 69, 3) := by decide +kernel
theorem dX8_free_29 : decode cX8_free 29 = .ok (.aload_n 0, 1) := by decide +kernel
theorem dX8_free_30 : decode cX8_free 30 = .ok (.getfield 10, 3) := by decide +kernel
theorem dX8_free_33 : decode cX8_free 33 = .ok (.getfield 133, 3) := by decide +kernel
theorem dX8_free_36 : decode cX8_free 36 = .ok (.iload_n 1, 1) := by decide +kernel
theorem dX8_free_37 : decode cX8_free 37 = .ok (.iconst 1, 1) := by decide +kernel
theorem dX8_free_38 : decode cX8_free 38 = .ok (.invokevirtual 146, 3) := by decide +kernel
theorem dX8_free_41 : decode cX8_free 41 = .ok (.aload_n 0, 1) := by decide +kernel
theorem dX8_free_42 : decode cX8_free 42 = .ok (.getfield 10, 3) := by decide +kernel
theorem dX8_free_45 : decode cX8_free 45 = .ok (.aload_n 0, 1) := by decide +kernel
theorem dX8_free_46 : decode cX8_free 46 = .ok (.getfield 53, 3) := by decide +kernel
theorem dX8_free_49 : decode cX8_free 49 = .ok (.invokevirtual 150, 3) := by decide +kernel
theorem dX8_free_52 : decode cX8_free 52 = .ok (.ireturn, 1) := by decide +kernel
set_option maxRecDepth 20000 in
theorem ggX8_back_X8_isRoot : GoodIn wsX8_back wsX8_isRoot := goodIn_r _ [9, 3, 10, 11, 12, 13, 14, 15, 16, 17, 8, 18, 126, 127, 128, 129, 130, 131, 132, 133, 134, 135, 136, 137, 138, 139, 140, 141, 142] (by decide +kernel) (by decide +kernel)
set_option maxRecDepth 20000 in
theorem gX8_back_X8_isRoot : GoodIn wsX8_back (wsV RX8 96 RX8 yX8_isRoot wsX8_isRoot) := goodIn_app (goodIn_of _ (by decide +kernel)) ggX8_back_X8_isRoot
set_option maxRecDepth 20000 in
theorem ggX8_back_X2_keep : GoodIn wsX8_back wsX2_keep := goodIn_r _ [23, 24, 25, 26, 27, 28, 22, 29, 17, 8, 18, 30, 31, 32, 33, 34, 35, 36, 37, 38, 39, 40, 41, 42, 43, 44, 45, 46, 47, 48, 49, 50, 51, 52, 53, 54, 55, 56, 57, 58, 13, 59, 60, 61, 62, 15, 143, 144, 134, 135, 136, 137, 138, 145, 146, 139, 140, 141, 142] (by decide +kernel) (by decide +kernel)
set_option maxRecDepth 20000 in
theorem gX8_back_X2_keep : GoodIn wsX8_back (wsV RX8 69 RX2 yX2_keep wsX2_keep) := goodIn_app (goodIn_of _ (by decide +kernel)) ggX8_back_X2_keep
set_option maxRecDepth 20000 in
theorem ggX8_back_X3_remove : GoodIn wsX8_back wsX3_remove := goodIn_r _ [66, 15, 67, 68, 69, 13, 70, 60, 61, 62, 17, 8, 18, 139, 140, 141, 142] (by decide +kernel) (by decide +kernel)
set_option maxRecDepth 20000 in
theorem gX8_back_X3_remove : GoodIn wsX8_back (wsV RX8 146 RX3 yX3_remove wsX3_remove) := goodIn_app (goodIn_of _ (by decide +kernel)) ggX8_back_X3_remove
set_option maxRecDepth 20000 in
theorem ggX8_back_X5_settleUse : GoodIn wsX8_back wsX5_settleUse := goodIn_r _ [74, 36, 37, 50, 51, 52, 53, 54, 55, 75, 76, 77, 78, 79, 11, 12, 13, 14, 15, 80, 81, 82, 33, 83, 35, 84, 85, 86, 87, 61, 17, 8, 18, 88, 89, 90, 91, 62, 92, 93, 94, 95, 96, 97, 98, 43, 99, 100, 101, 102, 103, 45, 104, 105, 106, 107, 108, 109, 110, 111, 112, 113, 114, 115, 116, 117, 118, 119, 120, 121, 122, 123, 124, 125, 134, 135, 136, 137, 138, 146, 139, 140, 141, 142, 145] (by decide +kernel) (by decide +kernel)
set_option maxRecDepth 20000 in
theorem gX8_back_X5_settleUse : GoodIn wsX8_back (wsV RX8 150 RX5 yX5_settleUse wsX5_settleUse) := goodIn_app (goodIn_of _ (by decide +kernel)) ggX8_back_X5_settleUse
theorem dX8_back_0 : decode cX8_back 0 = .ok (.aload_n 0, 1) := by decide +kernel
theorem dX8_back_1 : decode cX8_back 1 = .ok (.iload_n 1, 1) := by decide +kernel
theorem dX8_back_2 : decode cX8_back 2 = .ok (.invokevirtual 96, 3) := by decide +kernel
theorem dX8_back_5 : decode cX8_back 5 = .ok (.ifCond .ne 6, 3) := by decide +kernel
theorem dX8_back_8 : decode cX8_back 8 = .ok (.ldc 64, 2) := by decide +kernel
theorem dX8_back_10 : decode cX8_back 10 = .ok (.ireturn, 1) := by decide +kernel
theorem dX8_back_11 : decode cX8_back 11 = .ok (.aload_n 0, 1) := by decide +kernel
theorem dX8_back_12 : decode cX8_back 12 = .ok (.getfield 25, 3) := by decide +kernel
theorem dX8_back_15 : decode cX8_back 15 = .ok (.aload_n 0, 1) := by decide +kernel
theorem dX8_back_16 : decode cX8_back 16 = .ok (.getfield 10, 3) := by decide +kernel
theorem dX8_back_19 : decode cX8_back 19 = .ok (.invokevirtual 69, 3) := by decide +kernel
theorem dX8_back_22 : decode cX8_back 22 = .ok (.iload_n 1, 1) := by decide +kernel
theorem dX8_back_23 : decode cX8_back 23 = .ok (.ifCond .ne 5, 3) := by decide +kernel
theorem dX8_back_26 : decode cX8_back 26 = .ok (.iconst 0, 1) := by decide +kernel
theorem dX8_back_27 : decode cX8_back 27 = .ok (.ireturn, 1) := by decide +kernel
theorem dX8_back_28 : decode cX8_back 28 = .ok (.aload_n 0, 1) := by decide +kernel
theorem dX8_back_29 : decode cX8_back 29 = .ok (.getfield 10, 3) := by decide +kernel
theorem dX8_back_32 : decode cX8_back 32 = .ok (.getfield 133, 3) := by decide +kernel
theorem dX8_back_35 : decode cX8_back 35 = .ok (.iconst 0, 1) := by decide +kernel
theorem dX8_back_36 : decode cX8_back 36 = .ok (.iload_n 1, 1) := by decide +kernel
theorem dX8_back_37 : decode cX8_back 37 = .ok (.invokevirtual 146, 3) := by decide +kernel
theorem dX8_back_40 : decode cX8_back 40 = .ok (.aload_n 0, 1) := by decide +kernel
theorem dX8_back_41 : decode cX8_back 41 = .ok (.getfield 10, 3) := by decide +kernel
theorem dX8_back_44 : decode cX8_back 44 = .ok (.aload_n 0, 1) := by decide +kernel
theorem dX8_back_45 : decode cX8_back 45 = .ok (.getfield 53, 3) := by decide +kernel
theorem dX8_back_48 : decode cX8_back 48 = .ok (.invokevirtual 150, 3) := by decide +kernel
theorem dX8_back_51 : decode cX8_back 51 = .ok (.ireturn, 1) := by decide +kernel
set_option maxRecDepth 20000 in
theorem ggX8_rootOf_X8_isRoot : GoodIn wsX8_rootOf wsX8_isRoot := goodIn_r _ [9, 2, 10, 11, 12, 13, 14, 15, 16, 17, 8, 18, 93, 94, 95, 96, 97, 98, 99, 100, 101, 102, 103, 104, 105, 106, 107, 108, 109] (by decide +kernel) (by decide +kernel)
set_option maxRecDepth 20000 in
theorem gX8_rootOf_X8_isRoot : GoodIn wsX8_rootOf (wsV RX8 96 RX8 yX8_isRoot wsX8_isRoot) := goodIn_app (goodIn_of _ (by decide +kernel)) ggX8_rootOf_X8_isRoot
set_option maxRecDepth 20000 in
theorem ggX8_rootOf_X8_below : GoodIn wsX8_rootOf wsX8_below := goodIn_r _ [18] (by decide +kernel) (by decide +kernel)
set_option maxRecDepth 20000 in
theorem gX8_rootOf_X8_below : GoodIn wsX8_rootOf (va_wsS RX8 60 yX8_below wsX8_below) := goodIn_app (goodIn_of _ (by decide +kernel)) ggX8_rootOf_X8_below
set_option maxRecDepth 20000 in
theorem ggX8_rootOf_X3_numberAt : GoodIn wsX8_rootOf wsX3_numberAt := goodIn_r _ [22, 23, 17, 8, 18, 106, 107, 108, 109] (by decide +kernel) (by decide +kernel)
set_option maxRecDepth 20000 in
theorem gX8_rootOf_X3_numberAt : GoodIn wsX8_rootOf (wsV RX8 154 RX3 yX3_numberAt wsX3_numberAt) := goodIn_app (goodIn_of _ (by decide +kernel)) ggX8_rootOf_X3_numberAt
set_option maxRecDepth 20000 in
theorem ggX8_rootOf_X3_blockAt : GoodIn wsX8_rootOf wsX3_blockAt := goodIn_r _ [27, 28, 17, 8, 18, 106, 107, 108, 109] (by decide +kernel) (by decide +kernel)
set_option maxRecDepth 20000 in
theorem gX8_rootOf_X3_blockAt : GoodIn wsX8_rootOf (wsV RX8 156 RX3 yX3_blockAt wsX3_blockAt) := goodIn_app (goodIn_of _ (by decide +kernel)) ggX8_rootOf_X3_blockAt
set_option maxRecDepth 20000 in
theorem ggX8_rootOf_X3_sumAt : GoodIn wsX8_rootOf wsX3_sumAt := goodIn_r _ [32, 33, 17, 8, 18, 106, 107, 108, 109] (by decide +kernel) (by decide +kernel)
set_option maxRecDepth 20000 in
theorem gX8_rootOf_X3_sumAt : GoodIn wsX8_rootOf (wsV RX8 157 RX3 yX3_sumAt wsX3_sumAt) := goodIn_app (goodIn_of _ (by decide +kernel)) ggX8_rootOf_X3_sumAt
set_option maxRecDepth 20000 in
theorem ggX8_rootOf_X8_gatherBlocks : GoodIn wsX8_rootOf wsX8_gatherBlocks := goodIn_r _ [37, 3, 4, 2, 38, 39, 40, 41, 42, 43, 10, 11, 12, 13, 14, 15, 44, 45, 46, 47, 48, 49, 50, 51, 25, 26, 27, 28, 17, 8, 18, 52, 30, 31, 32, 33, 53, 54, 55, 56, 57, 58, 59, 60, 61, 62, 63, 64, 65, 66, 67, 68, 69, 70, 71, 72, 73, 74, 75, 76, 77, 78, 79, 80, 81, 82, 83, 84, 93, 94, 95, 96, 97, 98, 99, 100, 101, 102, 103, 104, 105, 110, 106, 107, 108, 109, 111] (by decide +kernel) (by decide +kernel)
set_option maxRecDepth 20000 in
theorem gX8_rootOf_X8_gatherBlocks : GoodIn wsX8_rootOf (wsV RX8 158 RX8 yX8_gatherBlocks wsX8_gatherBlocks) := goodIn_app (goodIn_of _ (by decide +kernel)) ggX8_rootOf_X8_gatherBlocks
set_option maxRecDepth 20000 in
theorem ggX8_rootOf_X0_size : GoodIn wsX8_rootOf wsX0_size := goodIn_r _ [88, 43, 110] (by decide +kernel) (by decide +kernel)
set_option maxRecDepth 20000 in
theorem gX8_rootOf_X0_size : GoodIn wsX8_rootOf (wsV RX8 162 RX0 yX0_size wsX0_size) := goodIn_app (goodIn_of _ (by decide +kernel)) ggX8_rootOf_X0_size
set_option maxRecDepth 20000 in
theorem ggX8_rootOf_X0_sizeWithout : GoodIn wsX8_rootOf wsX0_sizeWithout := goodIn_r _ [92, 43, 110] (by decide +kernel) (by decide +kernel)
set_option maxRecDepth 20000 in
theorem gX8_rootOf_X0_sizeWithout : GoodIn wsX8_rootOf (wsV RX8 163 RX0 yX0_sizeWithout wsX0_sizeWithout) := goodIn_app (goodIn_of _ (by decide +kernel)) ggX8_rootOf_X0_sizeWithout
theorem dX8_rootOf_0 : decode cX8_rootOf 0 = .ok (.aload_n 0, 1) := by decide +kernel
theorem dX8_rootOf_1 : decode cX8_rootOf 1 = .ok (.iload_n 1, 1) := by decide +kernel
theorem dX8_rootOf_2 : decode cX8_rootOf 2 = .ok (.invokevirtual 96, 3) := by decide +kernel
theorem dX8_rootOf_5 : decode cX8_rootOf 5 = .ok (.ifCond .eq 11, 3) := by decide +kernel
theorem dX8_rootOf_8 : decode cX8_rootOf 8 = .ok (.iload_n 2, 1) := by decide +kernel
theorem dX8_rootOf_9 : decode cX8_rootOf 9 = .ok (.iconst 5, 1) := by decide +kernel
theorem dX8_rootOf_10 : decode cX8_rootOf 10 = .ok (.invokestatic 60, 3) := by decide +kernel
theorem dX8_rootOf_13 : decode cX8_rootOf 13 = .ok (.ifCond .ne 6, 3) := by decide +kernel
theorem dX8_rootOf_16 : decode cX8_rootOf 16 = .ok (.ldc 64, 2) := by decide +kernel
theorem dX8_rootOf_18 : decode cX8_rootOf 18 = .ok (.ireturn, 1) := by decide +kernel
theorem dX8_rootOf_19 : decode cX8_rootOf 19 = .ok (.iload_n 2, 1) := by decide +kernel
theorem dX8_rootOf_20 : decode cX8_rootOf 20 = .ok (.tableswitch 81 0 3 #[32, 44, 56, 68], 32) := by decide +kernel
theorem dX8_rootOf_52 : decode cX8_rootOf 52 = .ok (.aload_n 0, 1) := by decide +kernel
theorem dX8_rootOf_53 : decode cX8_rootOf 53 = .ok (.getfield 10, 3) := by decide +kernel
theorem dX8_rootOf_56 : decode cX8_rootOf 56 = .ok (.getfield 133, 3) := by decide +kernel
theorem dX8_rootOf_59 : decode cX8_rootOf 59 = .ok (.iload_n 1, 1) := by decide +kernel
theorem dX8_rootOf_60 : decode cX8_rootOf 60 = .ok (.invokevirtual 154, 3) := by decide +kernel
theorem dX8_rootOf_63 : decode cX8_rootOf 63 = .ok (.ireturn, 1) := by decide +kernel
theorem dX8_rootOf_64 : decode cX8_rootOf 64 = .ok (.aload_n 0, 1) := by decide +kernel
theorem dX8_rootOf_65 : decode cX8_rootOf 65 = .ok (.getfield 10, 3) := by decide +kernel
theorem dX8_rootOf_68 : decode cX8_rootOf 68 = .ok (.getfield 133, 3) := by decide +kernel
theorem dX8_rootOf_71 : decode cX8_rootOf 71 = .ok (.iload_n 1, 1) := by decide +kernel
theorem dX8_rootOf_72 : decode cX8_rootOf 72 = .ok (.invokevirtual 156, 3) := by decide +kernel
theorem dX8_rootOf_75 : decode cX8_rootOf 75 = .ok (.ireturn, 1) := by decide +kernel
theorem dX8_rootOf_76 : decode cX8_rootOf 76 = .ok (.aload_n 0, 1) := by decide +kernel
theorem dX8_rootOf_77 : decode cX8_rootOf 77 = .ok (.getfield 10, 3) := by decide +kernel
theorem dX8_rootOf_80 : decode cX8_rootOf 80 = .ok (.getfield 133, 3) := by decide +kernel
theorem dX8_rootOf_83 : decode cX8_rootOf 83 = .ok (.iload_n 1, 1) := by decide +kernel
theorem dX8_rootOf_84 : decode cX8_rootOf 84 = .ok (.invokevirtual 157, 3) := by decide +kernel
theorem dX8_rootOf_87 : decode cX8_rootOf 87 = .ok (.ireturn, 1) := by decide +kernel
theorem dX8_rootOf_88 : decode cX8_rootOf 88 = .ok (.aload_n 0, 1) := by decide +kernel
theorem dX8_rootOf_89 : decode cX8_rootOf 89 = .ok (.iload_n 1, 1) := by decide +kernel
theorem dX8_rootOf_90 : decode cX8_rootOf 90 = .ok (.invokevirtual 158, 3) := by decide +kernel
theorem dX8_rootOf_93 : decode cX8_rootOf 93 = .ok (.aload_n 0, 1) := by decide +kernel
theorem dX8_rootOf_94 : decode cX8_rootOf 94 = .ok (.getfield 53, 3) := by decide +kernel
theorem dX8_rootOf_97 : decode cX8_rootOf 97 = .ok (.invokevirtual 162, 3) := by decide +kernel
theorem dX8_rootOf_100 : decode cX8_rootOf 100 = .ok (.ireturn, 1) := by decide +kernel
theorem dX8_rootOf_101 : decode cX8_rootOf 101 = .ok (.aload_n 0, 1) := by decide +kernel
theorem dX8_rootOf_102 : decode cX8_rootOf 102 = .ok (.iload_n 1, 1) := by decide +kernel
theorem dX8_rootOf_103 : decode cX8_rootOf 103 = .ok (.invokevirtual 158, 3) := by decide +kernel
theorem dX8_rootOf_106 : decode cX8_rootOf 106 = .ok (.aload_n 0, 1) := by decide +kernel
theorem dX8_rootOf_107 : decode cX8_rootOf 107 = .ok (.getfield 53, 3) := by decide +kernel
theorem dX8_rootOf_110 : decode cX8_rootOf 110 = .ok (.aload_n 0, 1) := by decide +kernel
theorem dX8_rootOf_111 : decode cX8_rootOf 111 = .ok (.getfield 57, 3) := by decide +kernel
theorem dX8_rootOf_114 : decode cX8_rootOf 114 = .ok (.invokevirtual 163, 3) := by decide +kernel
theorem dX8_rootOf_117 : decode cX8_rootOf 117 = .ok (.ireturn, 1) := by decide +kernel
set_option maxRecDepth 20000 in
theorem ggX8_unlike_X8_isRoot : GoodIn wsX8_unlike wsX8_isRoot := goodIn_r _ [7, 2, 8, 9, 10, 11, 12, 13, 14, 15, 6, 16, 59, 60, 61, 62, 63, 64, 65, 66, 67, 68, 69, 70, 71, 72, 73, 74, 75] (by decide +kernel) (by decide +kernel)
set_option maxRecDepth 20000 in
theorem gX8_unlike_X8_isRoot : GoodIn wsX8_unlike (wsV RX8 96 RX8 yX8_isRoot wsX8_isRoot) := goodIn_app (goodIn_of _ (by decide +kernel)) ggX8_unlike_X8_isRoot
set_option maxRecDepth 20000 in
theorem ggX8_unlike_X5_unlikeLeaves : GoodIn wsX8_unlike wsX5_unlikeLeaves := goodIn_r _ [21, 22, 23, 24, 25, 26, 27, 11, 28, 29, 15, 6, 16, 30, 31, 32, 33, 34, 35, 36, 37, 38, 39, 40, 41, 42, 43, 44, 45, 46, 47, 48, 49, 50, 51, 52, 53, 54, 55, 56, 57, 20, 58, 67, 68, 69, 70, 71, 72, 73, 74, 75, 76] (by decide +kernel) (by decide +kernel)
set_option maxRecDepth 20000 in
theorem gX8_unlike_X5_unlikeLeaves : GoodIn wsX8_unlike (wsV RX8 166 RX5 yX5_unlikeLeaves wsX5_unlikeLeaves) := goodIn_app (goodIn_of _ (by decide +kernel)) ggX8_unlike_X5_unlikeLeaves
theorem dX8_unlike_0 : decode cX8_unlike 0 = .ok (.aload_n 0, 1) := by decide +kernel
theorem dX8_unlike_1 : decode cX8_unlike 1 = .ok (.iload_n 1, 1) := by decide +kernel
theorem dX8_unlike_2 : decode cX8_unlike 2 = .ok (.invokevirtual 96, 3) := by decide +kernel
theorem dX8_unlike_5 : decode cX8_unlike 5 = .ok (.ifCond .eq 11, 3) := by decide +kernel
theorem dX8_unlike_8 : decode cX8_unlike 8 = .ok (.aload_n 0, 1) := by decide +kernel
theorem dX8_unlike_9 : decode cX8_unlike 9 = .ok (.iload_n 2, 1) := by decide +kernel
theorem dX8_unlike_10 : decode cX8_unlike 10 = .ok (.invokevirtual 96, 3) := by decide +kernel
theorem dX8_unlike_13 : decode cX8_unlike 13 = .ok (.ifCond .ne 6, 3) := by decide +kernel
theorem dX8_unlike_16 : decode cX8_unlike 16 = .ok (.ldc 64, 2) := by decide +kernel
theorem dX8_unlike_18 : decode cX8_unlike 18 = .ok (.ireturn, 1) := by decide +kernel
theorem dX8_unlike_19 : decode cX8_unlike 19 = .ok (.aload_n 0, 1) := by decide +kernel
theorem dX8_unlike_20 : decode cX8_unlike 20 = .ok (.getfield 10, 3) := by decide +kernel
theorem dX8_unlike_23 : decode cX8_unlike 23 = .ok (.iload_n 1, 1) := by decide +kernel
theorem dX8_unlike_24 : decode cX8_unlike 24 = .ok (.iload_n 2, 1) := by decide +kernel
theorem dX8_unlike_25 : decode cX8_unlike 25 = .ok (.invokevirtual 166, 3) := by decide +kernel
theorem dX8_unlike_28 : decode cX8_unlike 28 = .ok (.ireturn, 1) := by decide +kernel
set_option maxRecDepth 20000 in
theorem ggX8_count_X3_size : GoodIn wsX8_count wsX3_size := goodIn_r _ [9, 10, 79, 80, 81, 82] (by decide +kernel) (by decide +kernel)
set_option maxRecDepth 20000 in
theorem gX8_count_X3_size : GoodIn wsX8_count (wsV RX8 137 RX3 yX3_size wsX3_size) := goodIn_app (goodIn_of _ (by decide +kernel)) ggX8_count_X3_size
set_option maxRecDepth 20000 in
theorem ggX8_count_X0_size : GoodIn wsX8_count wsX0_size := goodIn_r _ [15, 16, 83] (by decide +kernel) (by decide +kernel)
set_option maxRecDepth 20000 in
theorem gX8_count_X0_size : GoodIn wsX8_count (wsV RX8 162 RX0 yX0_size wsX0_size) := goodIn_app (goodIn_of _ (by decide +kernel)) ggX8_count_X0_size
set_option maxRecDepth 20000 in
theorem ggX8_count_X5_unlikeInUse : GoodIn wsX8_count wsX5_unlikeInUse := goodIn_r _ [21, 22, 23, 24, 25, 26, 14, 27, 16, 28, 29, 30, 31, 32, 33, 34, 35, 36, 37, 38, 39, 40, 41, 42, 43, 44, 74, 75, 76, 77, 78, 83, 84] (by decide +kernel) (by decide +kernel)
set_option maxRecDepth 20000 in
theorem gX8_count_X5_unlikeInUse : GoodIn wsX8_count (wsV RX8 175 RX5 yX5_unlikeInUse wsX5_unlikeInUse) := goodIn_app (goodIn_of _ (by decide +kernel)) ggX8_count_X5_unlikeInUse
set_option maxRecDepth 20000 in
theorem ggX8_count_X8_lowestFree : GoodIn wsX8_count wsX8_lowestFree := goodIn_r _ [48, 1, 49, 50, 51, 52, 14, 53, 16, 66, 67, 68, 69, 70, 71, 72, 73, 74, 75, 76, 77, 78, 83] (by decide +kernel) (by decide +kernel)
set_option maxRecDepth 20000 in
theorem gX8_count_X8_lowestFree : GoodIn wsX8_count (wsV RX8 178 RX8 yX8_lowestFree wsX8_lowestFree) := goodIn_app (goodIn_of _ (by decide +kernel)) ggX8_count_X8_lowestFree
set_option maxRecDepth 20000 in
theorem ggX8_count_X2_size : GoodIn wsX8_count wsX2_size := goodIn_r _ [58, 59, 85, 86] (by decide +kernel) (by decide +kernel)
set_option maxRecDepth 20000 in
theorem gX8_count_X2_size : GoodIn wsX8_count (wsV RX8 181 RX2 yX2_size wsX2_size) := goodIn_app (goodIn_of _ (by decide +kernel)) ggX8_count_X2_size
set_option maxRecDepth 20000 in
theorem ggX8_count_X4_length : GoodIn wsX8_count wsX4_length := goodIn_r _ [64, 65, 87, 88, 89, 90, 91, 92, 93] (by decide +kernel) (by decide +kernel)
set_option maxRecDepth 20000 in
theorem gX8_count_X4_length : GoodIn wsX8_count (wsV RX8 182 RX4 yX4_length wsX4_length) := goodIn_app (goodIn_of _ (by decide +kernel)) ggX8_count_X4_length
theorem dX8_count_0 : decode cX8_count 0 = .ok (.iload_n 1, 1) := by decide +kernel
theorem dX8_count_1 : decode cX8_count 1 = .ok (.tableswitch 117 0 7 #[47, 58, 72, 80, 88, 96, 101, 109], 47) := by decide +kernel
theorem dX8_count_48 : decode cX8_count 48 = .ok (.aload_n 0, 1) := by decide +kernel
theorem dX8_count_49 : decode cX8_count 49 = .ok (.getfield 10, 3) := by decide +kernel
theorem dX8_count_52 : decode cX8_count 52 = .ok (.getfield 133, 3) := by decide +kernel
theorem dX8_count_55 : decode cX8_count 55 = .ok (.invokevirtual 137, 3) := by decide +kernel
theorem dX8_count_58 : decode cX8_count 58 = .ok (.ireturn, 1) := by decide +kernel
theorem dX8_count_59 : decode cX8_count 59 = .ok (.bipush 96, 2) := by decide +kernel
theorem dX8_count_61 : decode cX8_count 61 = .ok (.aload_n 0, 1) := by decide +kernel
theorem dX8_count_62 : decode cX8_count 62 = .ok (.getfield 10, 3) := by decide +kernel
theorem dX8_count_65 : decode cX8_count 65 = .ok (.getfield 169, 3) := by decide +kernel
theorem dX8_count_68 : decode cX8_count 68 = .ok (.invokevirtual 162, 3) := by decide +kernel
theorem dX8_count_71 : decode cX8_count 71 = .ok (.isub, 1) := by decide +kernel
theorem dX8_count_72 : decode cX8_count 72 = .ok (.ireturn, 1) := by decide +kernel
theorem dX8_count_73 : decode cX8_count 73 = .ok (.aload_n 0, 1) := by decide +kernel
theorem dX8_count_74 : decode cX8_count 74 = .ok (.getfield 10, 3) := by decide +kernel
theorem dX8_count_77 : decode cX8_count 77 = .ok (.getfield 77, 3) := by decide +kernel
theorem dX8_count_80 : decode cX8_count 80 = .ok (.ireturn, 1) := by decide +kernel
theorem dX8_count_81 : decode cX8_count 81 = .ok (.aload_n 0, 1) := by decide +kernel
theorem dX8_count_82 : decode cX8_count 82 = .ok (.getfield 10, 3) := by decide +kernel
theorem dX8_count_85 : decode cX8_count 85 = .ok (.getfield 172, 3) := by decide +kernel
theorem dX8_count_88 : decode cX8_count 88 = .ok (.ireturn, 1) := by decide +kernel
theorem dX8_count_89 : decode cX8_count 89 = .ok (.aload_n 0, 1) := by decide +kernel
theorem dX8_count_90 : decode cX8_count 90 = .ok (.getfield 10, 3) := by decide +kernel
theorem dX8_count_93 : decode cX8_count 93 = .ok (.invokevirtual 175, 3) := by decide +kernel
theorem dX8_count_96 : decode cX8_count 96 = .ok (.ireturn, 1) := by decide +kernel
theorem dX8_count_97 : decode cX8_count 97 = .ok (.aload_n 0, 1) := by decide +kernel
theorem dX8_count_98 : decode cX8_count 98 = .ok (.invokevirtual 178, 3) := by decide +kernel
theorem dX8_count_101 : decode cX8_count 101 = .ok (.ireturn, 1) := by decide +kernel
theorem dX8_count_102 : decode cX8_count 102 = .ok (.aload_n 0, 1) := by decide +kernel
theorem dX8_count_103 : decode cX8_count 103 = .ok (.getfield 25, 3) := by decide +kernel
theorem dX8_count_106 : decode cX8_count 106 = .ok (.invokevirtual 181, 3) := by decide +kernel
theorem dX8_count_109 : decode cX8_count 109 = .ok (.ireturn, 1) := by decide +kernel
theorem dX8_count_110 : decode cX8_count 110 = .ok (.aload_n 0, 1) := by decide +kernel
theorem dX8_count_111 : decode cX8_count 111 = .ok (.getfield 32, 3) := by decide +kernel
theorem dX8_count_114 : decode cX8_count 114 = .ok (.invokevirtual 182, 3) := by decide +kernel
theorem dX8_count_117 : decode cX8_count 117 = .ok (.ireturn, 1) := by decide +kernel
theorem dX8_count_118 : decode cX8_count 118 = .ok (.ldc 64, 2) := by decide +kernel
theorem dX8_count_120 : decode cX8_count 120 = .ok (.ireturn, 1) := by decide +kernel
set_option maxRecDepth 20000 in
theorem ggX8_undo_X2_size : GoodIn wsX8_undo wsX2_size := goodIn_r _ [8, 9, 58, 59] (by decide +kernel) (by decide +kernel)
set_option maxRecDepth 20000 in
theorem gX8_undo_X2_size : GoodIn wsX8_undo (wsV RX8 181 RX2 yX2_size wsX2_size) := goodIn_app (goodIn_of _ (by decide +kernel)) ggX8_undo_X2_size
set_option maxRecDepth 20000 in
theorem ggX8_undo_X2_restoreLatest : GoodIn wsX8_undo wsX2_restoreLatest := goodIn_r _ [13, 9, 14, 15, 16, 17, 18, 19, 20, 21, 22, 23, 24, 25, 26, 27, 28, 29, 30, 31, 32, 33, 34, 35, 36, 37, 38, 39, 40, 41, 42, 43, 44, 45, 46, 47, 48, 49, 58, 59, 60, 61, 62, 63, 64, 65, 66, 67, 68, 69, 70] (by decide +kernel) (by decide +kernel)
set_option maxRecDepth 20000 in
theorem gX8_undo_X2_restoreLatest : GoodIn wsX8_undo (wsV RX8 185 RX2 yX2_restoreLatest wsX2_restoreLatest) := goodIn_app (goodIn_of _ (by decide +kernel)) ggX8_undo_X2_restoreLatest
theorem dX8_undo_0 : decode cX8_undo 0 = .ok (.aload_n 0, 1) := by decide +kernel
theorem dX8_undo_1 : decode cX8_undo 1 = .ok (.getfield 25, 3) := by decide +kernel
theorem dX8_undo_4 : decode cX8_undo 4 = .ok (.invokevirtual 181, 3) := by decide +kernel
theorem dX8_undo_7 : decode cX8_undo 7 = .ok (.ifCond .ne 6, 3) := by decide +kernel
theorem dX8_undo_10 : decode cX8_undo 10 = .ok (.ldc 108, 2) := by decide +kernel
theorem dX8_undo_12 : decode cX8_undo 12 = .ok (.ireturn, 1) := by decide +kernel
theorem dX8_undo_13 : decode cX8_undo 13 = .ok (.aload_n 0, 1) := by decide +kernel
theorem dX8_undo_14 : decode cX8_undo 14 = .ok (.getfield 25, 3) := by decide +kernel
theorem dX8_undo_17 : decode cX8_undo 17 = .ok (.aload_n 0, 1) := by decide +kernel
theorem dX8_undo_18 : decode cX8_undo 18 = .ok (.getfield 10, 3) := by decide +kernel
theorem dX8_undo_21 : decode cX8_undo 21 = .ok (.invokevirtual 185, 3) := by decide +kernel
theorem dX8_undo_24 : decode cX8_undo 24 = .ok (.aload_n 0, 1) := by decide +kernel
theorem dX8_undo_25 : decode cX8_undo 25 = .ok (.getfield 25, 3) := by decide +kernel
theorem dX8_undo_28 : decode cX8_undo 28 = .ok (.invokevirtual 181, 3) := by decide +kernel
theorem dX8_undo_31 : decode cX8_undo 31 = .ok (.ireturn, 1) := by decide +kernel
set_option maxRecDepth 20000 in
theorem ggX8_type_X4_length : GoodIn wsX8_type wsX4_length := goodIn_r _ [8, 9, 26, 27, 28, 29, 30, 31, 32] (by decide +kernel) (by decide +kernel)
set_option maxRecDepth 20000 in
theorem gX8_type_X4_length : GoodIn wsX8_type (wsV RX8 182 RX4 yX4_length wsX4_length) := goodIn_app (goodIn_of _ (by decide +kernel)) ggX8_type_X4_length
set_option maxRecDepth 20000 in
theorem ggX8_type_X4_append : GoodIn wsX8_type wsX4_append := goodIn_r _ [13, 9, 14, 15, 16, 17, 26, 27, 28, 29, 30, 31, 32] (by decide +kernel) (by decide +kernel)
set_option maxRecDepth 20000 in
theorem gX8_type_X4_append : GoodIn wsX8_type (wsV RX8 189 RX4 yX4_append wsX4_append) := goodIn_app (goodIn_of _ (by decide +kernel)) ggX8_type_X4_append
theorem dX8_type_0 : decode cX8_type 0 = .ok (.iload_n 1, 1) := by decide +kernel
theorem dX8_type_1 : decode cX8_type 1 = .ok (.bipush 32, 2) := by decide +kernel
theorem dX8_type_3 : decode cX8_type 3 = .ok (.if_icmp .lt 9, 3) := by decide +kernel
theorem dX8_type_6 : decode cX8_type 6 = .ok (.iload_n 1, 1) := by decide +kernel
theorem dX8_type_7 : decode cX8_type 7 = .ok (.bipush 126, 2) := by decide +kernel
theorem dX8_type_9 : decode cX8_type 9 = .ok (.if_icmp .le 6, 3) := by decide +kernel
theorem dX8_type_12 : decode cX8_type 12 = .ok (.ldc 64, 2) := by decide +kernel
theorem dX8_type_14 : decode cX8_type 14 = .ok (.ireturn, 1) := by decide +kernel
theorem dX8_type_15 : decode cX8_type 15 = .ok (.aload_n 0, 1) := by decide +kernel
theorem dX8_type_16 : decode cX8_type 16 = .ok (.getfield 32, 3) := by decide +kernel
theorem dX8_type_19 : decode cX8_type 19 = .ok (.invokevirtual 182, 3) := by decide +kernel
theorem dX8_type_22 : decode cX8_type 22 = .ok (.bipush 60, 2) := by decide +kernel
theorem dX8_type_24 : decode cX8_type 24 = .ok (.if_icmp .lt 6, 3) := by decide +kernel
theorem dX8_type_27 : decode cX8_type 27 = .ok (.ldc 188, 2) := by decide +kernel
theorem dX8_type_29 : decode cX8_type 29 = .ok (.ireturn, 1) := by decide +kernel
theorem dX8_type_30 : decode cX8_type 30 = .ok (.aload_n 0, 1) := by decide +kernel
theorem dX8_type_31 : decode cX8_type 31 = .ok (.getfield 32, 3) := by decide +kernel
theorem dX8_type_34 : decode cX8_type 34 = .ok (.iload_n 1, 1) := by decide +kernel
theorem dX8_type_35 : decode cX8_type 35 = .ok (.i2c, 1) := by decide +kernel
theorem dX8_type_36 : decode cX8_type 36 = .ok (.invokevirtual 189, 3) := by decide +kernel
theorem dX8_type_39 : decode cX8_type 39 = .ok (.aload_n 0, 1) := by decide +kernel
theorem dX8_type_40 : decode cX8_type 40 = .ok (.getfield 32, 3) := by decide +kernel
theorem dX8_type_43 : decode cX8_type 43 = .ok (.invokevirtual 182, 3) := by decide +kernel
theorem dX8_type_46 : decode cX8_type 46 = .ok (.ireturn, 1) := by decide +kernel
set_option maxRecDepth 20000 in
theorem ggX8_clearText_X4_length : GoodIn wsX8_clearText wsX4_length := goodIn_r _ [6, 7, 20, 21, 22, 23, 24, 25, 26] (by decide +kernel) (by decide +kernel)
set_option maxRecDepth 20000 in
theorem gX8_clearText_X4_length : GoodIn wsX8_clearText (wsV RX8 182 RX4 yX4_length wsX4_length) := goodIn_app (goodIn_of _ (by decide +kernel)) ggX8_clearText_X4_length
set_option maxRecDepth 20000 in
theorem ggX8_clearText_X4_clear : GoodIn wsX8_clearText wsX4_clear := goodIn_r _ [11, 7, 20, 21, 22, 23, 24, 25, 26] (by decide +kernel) (by decide +kernel)
set_option maxRecDepth 20000 in
theorem gX8_clearText_X4_clear : GoodIn wsX8_clearText (wsV RX8 193 RX4 yX4_clear wsX4_clear) := goodIn_app (goodIn_of _ (by decide +kernel)) ggX8_clearText_X4_clear
theorem dX8_clearText_0 : decode cX8_clearText 0 = .ok (.aload_n 0, 1) := by decide +kernel
theorem dX8_clearText_1 : decode cX8_clearText 1 = .ok (.getfield 32, 3) := by decide +kernel
theorem dX8_clearText_4 : decode cX8_clearText 4 = .ok (.invokevirtual 182, 3) := by decide +kernel
theorem dX8_clearText_7 : decode cX8_clearText 7 = .ok (.istore_n 1, 1) := by decide +kernel
theorem dX8_clearText_8 : decode cX8_clearText 8 = .ok (.aload_n 0, 1) := by decide +kernel
theorem dX8_clearText_9 : decode cX8_clearText 9 = .ok (.getfield 32, 3) := by decide +kernel
theorem dX8_clearText_12 : decode cX8_clearText 12 = .ok (.invokevirtual 193, 3) := by decide +kernel
theorem dX8_clearText_15 : decode cX8_clearText 15 = .ok (.iload_n 1, 1) := by decide +kernel
theorem dX8_clearText_16 : decode cX8_clearText 16 = .ok (.ireturn, 1) := by decide +kernel
set_option maxRecDepth 20000 in
theorem ggX8_fault_X8_below : GoodIn wsX8_fault wsX8_below := goodIn_r _ [7] (by decide +kernel) (by decide +kernel)
set_option maxRecDepth 20000 in
theorem gX8_fault_X8_below : GoodIn wsX8_fault (va_wsS RX8 60 yX8_below wsX8_below) := goodIn_app (goodIn_of _ (by decide +kernel)) ggX8_fault_X8_below
set_option maxRecDepth 20000 in
theorem ggX8_fault_X8_tryText : GoodIn wsX8_fault wsX8_tryText := goodIn_r _ [11, 12, 13, 2, 14, 15, 16, 17, 18, 19, 20, 21, 22, 23, 24, 25, 26, 27, 28, 29, 30, 31, 32, 33, 34, 35, 36, 37, 38, 39, 40, 41, 42, 43, 44, 45, 46, 47, 48, 49, 50, 51, 52, 53, 54, 55, 56, 57, 58, 59, 60, 61, 62, 63, 64, 65, 66, 67, 68, 69, 70, 71, 72, 73, 74, 75, 76, 77, 78, 79, 80, 81, 82, 83, 84, 85, 86, 87, 88, 89, 90, 91, 5, 6, 7, 92, 93, 94, 95, 96, 97, 98, 99, 100, 101, 102, 4, 103, 104, 105, 106, 107, 108, 109, 110, 111, 112, 113, 114, 115, 116, 117, 118, 119, 120, 121, 122, 123, 124, 125, 126, 127, 128, 129, 130, 131, 132, 133, 134, 135, 136, 137, 138, 139, 140, 141, 142, 143, 144, 145, 146, 147, 148, 149, 150, 151, 152, 153, 154, 155, 156, 157, 158, 159, 160, 161, 162, 163, 164, 165, 166, 167, 168, 169, 170, 171, 172, 173, 174, 175, 176, 177, 178, 179, 180, 181, 182, 183, 184, 185, 186, 187, 188, 189, 190, 191, 192, 193, 194, 195, 196, 197, 198, 199, 200, 201, 202, 203, 204, 205, 206, 207, 208, 209, 210, 211, 212, 213, 214, 215, 216, 217, 218, 219, 220, 221, 222, 223, 224, 225, 226, 227, 228, 229, 230, 231, 236, 237, 238, 239, 240, 241, 242, 232, 233, 234, 235, 243, 244, 245, 246, 247, 248, 249, 250, 251, 252, 253, 254, 255, 256, 257, 258] (by decide +kernel) (by decide +kernel)
set_option maxRecDepth 20000 in
theorem gX8_fault_X8_tryText : GoodIn wsX8_fault (wsV RX8 196 RX8 yX8_tryText wsX8_tryText) := goodIn_app (goodIn_of _ (by decide +kernel)) ggX8_fault_X8_tryText
theorem dX8_fault_0 : decode cX8_fault 0 = .ok (.iload_n 1, 1) := by decide +kernel
theorem dX8_fault_1 : decode cX8_fault 1 = .ok (.iconst 3, 1) := by decide +kernel
theorem dX8_fault_2 : decode cX8_fault 2 = .ok (.invokestatic 60, 3) := by decide +kernel
theorem dX8_fault_5 : decode cX8_fault 5 = .ok (.ifCond .ne 6, 3) := by decide +kernel
theorem dX8_fault_8 : decode cX8_fault 8 = .ok (.ldc 64, 2) := by decide +kernel
theorem dX8_fault_10 : decode cX8_fault 10 = .ok (.ireturn, 1) := by decide +kernel
theorem dX8_fault_11 : decode cX8_fault 11 = .ok (.aload_n 0, 1) := by decide +kernel
theorem dX8_fault_12 : decode cX8_fault 12 = .ok (.invokevirtual 196, 3) := by decide +kernel
theorem dX8_fault_15 : decode cX8_fault 15 = .ok (.aload_n 0, 1) := by decide +kernel
theorem dX8_fault_16 : decode cX8_fault 16 = .ok (.getfield 39, 3) := by decide +kernel
theorem dX8_fault_19 : decode cX8_fault 19 = .ok (.getfield 199, 3) := by decide +kernel
theorem dX8_fault_22 : decode cX8_fault 22 = .ok (.ifCond .ne 6, 3) := by decide +kernel
theorem dX8_fault_25 : decode cX8_fault 25 = .ok (.ldc 119, 2) := by decide +kernel
theorem dX8_fault_27 : decode cX8_fault 27 = .ok (.ireturn, 1) := by decide +kernel
theorem dX8_fault_28 : decode cX8_fault 28 = .ok (.iload_n 1, 1) := by decide +kernel
theorem dX8_fault_29 : decode cX8_fault 29 = .ok (.ifCond .ne 11, 3) := by decide +kernel
theorem dX8_fault_32 : decode cX8_fault 32 = .ok (.aload_n 0, 1) := by decide +kernel
theorem dX8_fault_33 : decode cX8_fault 33 = .ok (.getfield 39, 3) := by decide +kernel
theorem dX8_fault_36 : decode cX8_fault 36 = .ok (.getfield 202, 3) := by decide +kernel
theorem dX8_fault_39 : decode cX8_fault 39 = .ok (.ireturn, 1) := by decide +kernel
theorem dX8_fault_40 : decode cX8_fault 40 = .ok (.iload_n 1, 1) := by decide +kernel
theorem dX8_fault_41 : decode cX8_fault 41 = .ok (.iconst 1, 1) := by decide +kernel
theorem dX8_fault_42 : decode cX8_fault 42 = .ok (.if_icmp .ne 11, 3) := by decide +kernel
theorem dX8_fault_45 : decode cX8_fault 45 = .ok (.aload_n 0, 1) := by decide +kernel
theorem dX8_fault_46 : decode cX8_fault 46 = .ok (.getfield 39, 3) := by decide +kernel
theorem dX8_fault_49 : decode cX8_fault 49 = .ok (.getfield 199, 3) := by decide +kernel
theorem dX8_fault_52 : decode cX8_fault 52 = .ok (.ireturn, 1) := by decide +kernel
theorem dX8_fault_53 : decode cX8_fault 53 = .ok (.aload_n 0, 1) := by decide +kernel
theorem dX8_fault_54 : decode cX8_fault 54 = .ok (.getfield 39, 3) := by decide +kernel
theorem dX8_fault_57 : decode cX8_fault 57 = .ok (.getfield 199, 3) := by decide +kernel
theorem dX8_fault_60 : decode cX8_fault 60 = .ok (.iconst 2, 1) := by decide +kernel
theorem dX8_fault_61 : decode cX8_fault 61 = .ok (.if_icmp .ne 8, 3) := by decide +kernel
theorem dX8_fault_64 : decode cX8_fault 64 = .ok (.ldc 119, 2) := by decide +kernel
theorem dX8_fault_66 : decode cX8_fault 66 = .ok (.goto 10, 3) := by decide +kernel
theorem dX8_fault_69 : decode cX8_fault 69 = .ok (.aload_n 0, 1) := by decide +kernel
theorem dX8_fault_70 : decode cX8_fault 70 = .ok (.getfield 39, 3) := by decide +kernel
theorem dX8_fault_73 : decode cX8_fault 73 = .ok (.getfield 205, 3) := by decide +kernel
theorem dX8_fault_76 : decode cX8_fault 76 = .ok (.ireturn, 1) := by decide +kernel
set_option maxRecDepth 20000 in
theorem ggX8_play_X8_tryText : GoodIn wsX8_play wsX8_tryText := goodIn_r _ [10, 5, 4, 1, 11, 12, 13, 14, 15, 16, 17, 18, 19, 20, 21, 22, 23, 24, 25, 26, 27, 28, 29, 30, 31, 32, 33, 34, 35, 36, 37, 38, 39, 40, 41, 42, 43, 44, 45, 46, 47, 48, 49, 50, 51, 52, 53, 54, 55, 56, 57, 58, 59, 60, 61, 62, 63, 64, 65, 66, 67, 68, 69, 70, 71, 72, 73, 74, 75, 76, 77, 78, 79, 80, 81, 82, 83, 84, 85, 86, 87, 88, 89, 9, 90, 91, 92, 93, 94, 95, 96, 97, 98, 99, 100, 101, 102, 103, 104, 105, 106, 107, 108, 109, 110, 111, 112, 113, 114, 115, 116, 117, 118, 119, 120, 121, 122, 123, 124, 125, 126, 127, 128, 129, 130, 131, 132, 133, 134, 135, 136, 137, 138, 139, 140, 141, 142, 143, 144, 145, 146, 147, 148, 149, 150, 151, 152, 153, 154, 155, 156, 157, 158, 159, 160, 161, 162, 163, 164, 165, 166, 167, 168, 169, 170, 171, 172, 173, 174, 175, 176, 177, 178, 179, 180, 181, 182, 183, 184, 185, 186, 187, 188, 189, 190, 191, 192, 193, 194, 195, 196, 197, 198, 199, 200, 201, 202, 203, 204, 205, 206, 207, 208, 209, 210, 211, 212, 213, 214, 215, 216, 217, 218, 219, 220, 221, 222, 223, 236, 237, 238, 239, 240, 241, 242, 243, 248, 249, 250, 251, 252, 253, 254, 244, 245, 246, 247, 255, 256, 257, 258, 259, 260, 261, 262, 263, 264, 265, 266, 267, 268, 269, 270] (by decide +kernel) (by decide +kernel)
set_option maxRecDepth 20000 in
theorem gX8_play_X8_tryText : GoodIn wsX8_play (wsV RX8 196 RX8 yX8_tryText wsX8_tryText) := goodIn_app (goodIn_of _ (by decide +kernel)) ggX8_play_X8_tryText
set_option maxRecDepth 20000 in
theorem ggX8_play_X2_keep : GoodIn wsX8_play wsX2_keep := goodIn_r _ [228, 229, 230, 231, 232, 233, 227, 234, 89, 9, 90, 235, 14, 15, 16, 17, 18, 19, 20, 21, 22, 23, 24, 25, 26, 27, 28, 29, 30, 31, 32, 33, 34, 35, 36, 37, 38, 39, 40, 41, 42, 43, 44, 45, 46, 47, 271, 272, 255, 256, 257, 258, 259, 260, 261, 262, 263, 264, 265] (by decide +kernel) (by decide +kernel)
set_option maxRecDepth 20000 in
theorem gX8_play_X2_keep : GoodIn wsX8_play (wsV RX8 69 RX2 yX2_keep wsX2_keep) := goodIn_app (goodIn_of _ (by decide +kernel)) ggX8_play_X2_keep
set_option maxRecDepth 20000 in
theorem ggX8_play_X5_copyFrom : GoodIn wsX8_play wsX5_copyFrom := goodIn_r _ [17, 18, 19, 20, 21, 22, 23, 24, 25, 26, 27, 28, 29, 30, 31, 32, 33, 34, 35, 36, 37, 38, 39, 40, 41, 42, 43, 44, 45, 46, 47, 255, 256, 257, 258, 259, 260, 261, 262, 263, 264, 265] (by decide +kernel) (by decide +kernel)
set_option maxRecDepth 20000 in
theorem gX8_play_X5_copyFrom : GoodIn wsX8_play (wsV RX8 208 RX5 yX5_copyFrom wsX5_copyFrom) := goodIn_app (goodIn_of _ (by decide +kernel)) ggX8_play_X5_copyFrom
theorem dX8_play_0 : decode cX8_play 0 = .ok (.aload_n 0, 1) := by decide +kernel
theorem dX8_play_1 : decode cX8_play 1 = .ok (.invokevirtual 196, 3) := by decide +kernel
theorem dX8_play_4 : decode cX8_play 4 = .ok (.aload_n 0, 1) := by decide +kernel
theorem dX8_play_5 : decode cX8_play 5 = .ok (.getfield 39, 3) := by decide +kernel
theorem dX8_play_8 : decode cX8_play 8 = .ok (.getfield 199, 3) := by decide +kernel
theorem dX8_play_11 : decode cX8_play 11 = .ok (.ifCond .eq 6, 3) := by decide +kernel
theorem dX8_play_14 : decode cX8_play 14 = .ok (.ldc 108, 2) := by decide +kernel
theorem dX8_play_16 : decode cX8_play 16 = .ok (.ireturn, 1) := by decide +kernel
theorem dX8_play_17 : decode cX8_play 17 = .ok (.aload_n 0, 1) := by decide +kernel
theorem dX8_play_18 : decode cX8_play 18 = .ok (.getfield 25, 3) := by decide +kernel
theorem dX8_play_21 : decode cX8_play 21 = .ok (.aload_n 0, 1) := by decide +kernel
theorem dX8_play_22 : decode cX8_play 22 = .ok (.getfield 10, 3) := by decide +kernel
theorem dX8_play_25 : decode cX8_play 25 = .ok (.invokevirtual 69, 3) := by decide +kernel
theorem dX8_play_28 : decode cX8_play 28 = .ok (.aload_n 0, 1) := by decide +kernel
theorem dX8_play_29 : decode cX8_play 29 = .ok (.getfield 10, 3) := by decide +kernel
theorem dX8_play_32 : decode cX8_play 32 = .ok (.aload_n 0, 1) := by decide +kernel
theorem dX8_play_33 : decode cX8_play 33 = .ok (.getfield 19, 3) := by decide +kernel
theorem dX8_play_36 : decode cX8_play 36 = .ok (.invokevirtual 208, 3) := by decide +kernel
theorem dX8_play_39 : decode cX8_play 39 = .ok (.aload_n 0, 1) := by decide +kernel
theorem dX8_play_40 : decode cX8_play 40 = .ok (.getfield 39, 3) := by decide +kernel
theorem dX8_play_43 : decode cX8_play 43 = .ok (.getfield 211, 3) := by decide +kernel
theorem dX8_play_46 : decode cX8_play 46 = .ok (.ireturn, 1) := by decide +kernel
set_option maxRecDepth 20000 in
theorem ggX8_isRoot_X3_size : GoodIn wsX8_isRoot wsX3_size := goodIn_r _ [6, 7, 25, 26, 27, 28] (by decide +kernel) (by decide +kernel)
set_option maxRecDepth 20000 in
theorem gX8_isRoot_X3_size : GoodIn wsX8_isRoot (wsV RX8 137 RX3 yX3_size wsX3_size) := goodIn_app (goodIn_of _ (by decide +kernel)) ggX8_isRoot_X3_size
set_option maxRecDepth 20000 in
theorem ggX8_isRoot_X8_below : GoodIn wsX8_isRoot wsX8_below := goodIn_r _ [11] (by decide +kernel) (by decide +kernel)
set_option maxRecDepth 20000 in
theorem gX8_isRoot_X8_below : GoodIn wsX8_isRoot (va_wsS RX8 60 yX8_below wsX8_below) := goodIn_app (goodIn_of _ (by decide +kernel)) ggX8_isRoot_X8_below
theorem dX8_isRoot_0 : decode cX8_isRoot 0 = .ok (.iload_n 1, 1) := by decide +kernel
theorem dX8_isRoot_1 : decode cX8_isRoot 1 = .ok (.aload_n 0, 1) := by decide +kernel
theorem dX8_isRoot_2 : decode cX8_isRoot 2 = .ok (.getfield 10, 3) := by decide +kernel
theorem dX8_isRoot_5 : decode cX8_isRoot 5 = .ok (.getfield 133, 3) := by decide +kernel
theorem dX8_isRoot_8 : decode cX8_isRoot 8 = .ok (.invokevirtual 137, 3) := by decide +kernel
theorem dX8_isRoot_11 : decode cX8_isRoot 11 = .ok (.invokestatic 60, 3) := by decide +kernel
theorem dX8_isRoot_14 : decode cX8_isRoot 14 = .ok (.ireturn, 1) := by decide +kernel
set_option maxRecDepth 20000 in
theorem ggX8_lowestFree_X0_lowestOutside : GoodIn wsX8_lowestFree wsX0_lowestOutside := goodIn_r _ [7, 8, 22] (by decide +kernel) (by decide +kernel)
set_option maxRecDepth 20000 in
theorem gX8_lowestFree_X0_lowestOutside : GoodIn wsX8_lowestFree (wsV RX8 212 RX0 yX0_lowestOutside wsX0_lowestOutside) := goodIn_app (goodIn_of _ (by decide +kernel)) ggX8_lowestFree_X0_lowestOutside
theorem dX8_lowestFree_0 : decode cX8_lowestFree 0 = .ok (.aload_n 0, 1) := by decide +kernel
theorem dX8_lowestFree_1 : decode cX8_lowestFree 1 = .ok (.getfield 10, 3) := by decide +kernel
theorem dX8_lowestFree_4 : decode cX8_lowestFree 4 = .ok (.getfield 169, 3) := by decide +kernel
theorem dX8_lowestFree_7 : decode cX8_lowestFree 7 = .ok (.invokevirtual 212, 3) := by decide +kernel
theorem dX8_lowestFree_10 : decode cX8_lowestFree 10 = .ok (.istore_n 1, 1) := by decide +kernel
theorem dX8_lowestFree_11 : decode cX8_lowestFree 11 = .ok (.iload_n 1, 1) := by decide +kernel
theorem dX8_lowestFree_12 : decode cX8_lowestFree 12 = .ok (.ifCond .ge 8, 3) := by decide +kernel
theorem dX8_lowestFree_15 : decode cX8_lowestFree 15 = .ok (.ldc 119, 2) := by decide +kernel
theorem dX8_lowestFree_17 : decode cX8_lowestFree 17 = .ok (.goto 4, 3) := by decide +kernel
theorem dX8_lowestFree_20 : decode cX8_lowestFree 20 = .ok (.iload_n 1, 1) := by decide +kernel
theorem dX8_lowestFree_21 : decode cX8_lowestFree 21 = .ok (.ireturn, 1) := by decide +kernel
set_option maxRecDepth 20000 in
theorem ggX8_isWayOfKind_X7_isSpoiled : GoodIn wsX8_isWayOfKind wsX7_isSpoiled := goodIn_r _ [7, 8, 9, 10, 6, 11, 12, 13, 14, 15, 16, 17, 18, 19, 20, 58, 59, 60, 61, 62] (by decide +kernel) (by decide +kernel)
set_option maxRecDepth 20000 in
theorem gX8_isWayOfKind_X7_isSpoiled : GoodIn wsX8_isWayOfKind (wsV RX8 104 RX7 yX7_isSpoiled wsX7_isSpoiled) := goodIn_app (goodIn_of _ (by decide +kernel)) ggX8_isWayOfKind_X7_isSpoiled
set_option maxRecDepth 20000 in
theorem ggX8_isWayOfKind_X5_hasUnlikeCopies : GoodIn wsX8_isWayOfKind wsX5_hasUnlikeCopies := goodIn_r _ [25, 26, 27, 28, 29, 6, 30, 31, 13, 14, 15, 16, 17, 18, 19, 20, 32, 33, 34, 35, 36, 37, 38, 39, 40, 41, 42, 43, 44, 45, 63, 64, 65, 66, 67, 58, 59, 60, 61, 62, 68] (by decide +kernel) (by decide +kernel)
set_option maxRecDepth 20000 in
theorem gX8_isWayOfKind_X5_hasUnlikeCopies : GoodIn wsX8_isWayOfKind (wsV RX8 215 RX5 yX5_hasUnlikeCopies wsX5_hasUnlikeCopies) := goodIn_app (goodIn_of _ (by decide +kernel)) ggX8_isWayOfKind_X5_hasUnlikeCopies
set_option maxRecDepth 20000 in
theorem ggX8_isWayOfKind_X7_takesFrom : GoodIn wsX8_isWayOfKind wsX7_takesFrom := goodIn_r _ [49, 8, 9, 10, 6, 11, 12, 13, 14, 15, 16, 17, 18, 19, 20, 58, 59, 60, 61, 62] (by decide +kernel) (by decide +kernel)
set_option maxRecDepth 20000 in
theorem gX8_isWayOfKind_X7_takesFrom : GoodIn wsX8_isWayOfKind (wsV RX8 219 RX7 yX7_takesFrom wsX7_takesFrom) := goodIn_app (goodIn_of _ (by decide +kernel)) ggX8_isWayOfKind_X7_takesFrom
theorem dX8_isWayOfKind_0 : decode cX8_isWayOfKind 0 = .ok (.iload_n 1, 1) := by decide +kernel
theorem dX8_isWayOfKind_1 : decode cX8_isWayOfKind 1 = .ok (.ifCond .ne 11, 3) := by decide +kernel
theorem dX8_isWayOfKind_4 : decode cX8_isWayOfKind 4 = .ok (.aload_n 0, 1) := by decide +kernel
theorem dX8_isWayOfKind_5 : decode cX8_isWayOfKind 5 = .ok (.getfield 46, 3) := by decide +kernel
theorem dX8_isWayOfKind_8 : decode cX8_isWayOfKind 8 = .ok (.invokevirtual 104, 3) := by decide +kernel
theorem dX8_isWayOfKind_11 : decode cX8_isWayOfKind 11 = .ok (.ireturn, 1) := by decide +kernel
theorem dX8_isWayOfKind_12 : decode cX8_isWayOfKind 12 = .ok (.aload_n 0, 1) := by decide +kernel
theorem dX8_isWayOfKind_13 : decode cX8_isWayOfKind 13 = .ok (.getfield 46, 3) := by decide +kernel
theorem dX8_isWayOfKind_16 : decode cX8_isWayOfKind 16 = .ok (.invokevirtual 104, 3) := by decide +kernel
theorem dX8_isWayOfKind_19 : decode cX8_isWayOfKind 19 = .ok (.ifCond .eq 5, 3) := by decide +kernel
theorem dX8_isWayOfKind_22 : decode cX8_isWayOfKind 22 = .ok (.iconst 0, 1) := by decide +kernel
theorem dX8_isWayOfKind_23 : decode cX8_isWayOfKind 23 = .ok (.ireturn, 1) := by decide +kernel
theorem dX8_isWayOfKind_24 : decode cX8_isWayOfKind 24 = .ok (.iload_n 1, 1) := by decide +kernel
theorem dX8_isWayOfKind_25 : decode cX8_isWayOfKind 25 = .ok (.iconst 1, 1) := by decide +kernel
theorem dX8_isWayOfKind_26 : decode cX8_isWayOfKind 26 = .ok (.if_icmp .ne 17, 3) := by decide +kernel
theorem dX8_isWayOfKind_29 : decode cX8_isWayOfKind 29 = .ok (.aload_n 0, 1) := by decide +kernel
theorem dX8_isWayOfKind_30 : decode cX8_isWayOfKind 30 = .ok (.getfield 10, 3) := by decide +kernel
theorem dX8_isWayOfKind_33 : decode cX8_isWayOfKind 33 = .ok (.aload_n 0, 1) := by decide +kernel
theorem dX8_isWayOfKind_34 : decode cX8_isWayOfKind 34 = .ok (.getfield 46, 3) := by decide +kernel
theorem dX8_isWayOfKind_37 : decode cX8_isWayOfKind 37 = .ok (.invokevirtual 215, 3) := by decide +kernel
theorem dX8_isWayOfKind_40 : decode cX8_isWayOfKind 40 = .ok (.goto 11, 3) := by decide +kernel
theorem dX8_isWayOfKind_43 : decode cX8_isWayOfKind 43 = .ok (.aload_n 0, 1) := by decide +kernel
theorem dX8_isWayOfKind_44 : decode cX8_isWayOfKind 44 = .ok (.getfield 46, 3) := by decide +kernel
theorem dX8_isWayOfKind_47 : decode cX8_isWayOfKind 47 = .ok (.iconst 1, 1) := by decide +kernel
