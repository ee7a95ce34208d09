theorem dX8_rootOf_59 : decode cX8_rootOf 59 = .ok (.iload_n 1, 1) := by decide +kernel
theorem dX8_rootOf_60 : decode cX8_rootOf 60 = .ok (.invokevirtual 154, 3) := by decide +kernel
theorem dX8_rootOf_63 : decode cX8_rootOf 63 = .ok (.ireturn, 1) := by decide +kernel
theorem dX8_rootOf_64 : decode cX8_rootOf 64 = .ok (.aload_n 0, 1) := by decide +kernel
theorem dX8_rootOf_65 : decode cX8_rootOf 65 = .ok (.getfield 10, 3) := by decide +kernel
theorem dX8_rootOf_68 : decode cX8_rootOf 68 = .ok (.getfield 133, 3) := by decide +kernel
theorem dX8_rootOf_71 : decode cX8_rootOf 71 = .ok (.iload_n 1, 1) := by decide +kernel
theorem dX8_rootOf_72 : decode cX8_rootOf 72 = .ok (.invokevirtual 156, 3) := by decide +kernel
theorem dX8_rootOf_75 : decode cX8_rootOf 75 = .ok (.ireturn, 1) := by decide +kernel
theorem dX8_rootOf_76 : decode cX8_rootOf 76 = .ok (.aload_n 0, 1) := by decide +kernel
theorem dX8_rootOf_77 : decode cX8_rootOf 77 = .ok (.getfield 10, 3) := by decide +kernel
theorem dX8_rootOf_80 : decode cX8_rootOf 80 = .ok (.getfield 133, 3) := by decide +kernel
theorem dX8_rootOf_83 : decode cX8_rootOf 83 = .ok (.iload_n 1, 1) := by decide +kernel
theorem dX8_rootOf_84 : decode cX8_rootOf 84 = .ok (.invokevirtual 157, 3) := by decide +kernel
theorem dX8_rootOf_87 : decode cX8_rootOf 87 = .ok (.ireturn, 1) := by decide +kernel
theorem dX8_rootOf_88 : decode cX8_rootOf 88 = .ok (.aload_n 0, 1) := by decide +kernel
theorem dX8_rootOf_89 : decode cX8_rootOf 89 = .ok (.iload_n 1, 1) := by decide +kernel
theorem dX8_rootOf_90 : decode cX8_rootOf 90 = .ok (.invokevirtual 158, 3) := by decide +kernel
theorem dX8_rootOf_93 : decode cX8_rootOf 93 = .ok (.aload_n 0, 1) := by decide +kernel
theorem dX8_rootOf_94 : decode cX8_rootOf 94 = .ok (.getfield 53, 3) := by decide +kernel
theorem dX8_rootOf_97 : decode cX8_rootOf 97 = .ok (.invokevirtual 162, 3) := by decide +kernel
theorem dX8_rootOf_100 : decode cX8_rootOf 100 = .ok (.ireturn, 1) := by decide +kernel
theorem dX8_rootOf_101 : decode cX8_rootOf 101 = .ok (.aload_n 0, 1) := by decide +kernel
theorem dX8_rootOf_102 : decode cX8_rootOf 102 = .ok (.iload_n 1, 1) := by decide +kernel
theorem dX8_rootOf_103 : decode cX8_rootOf 103 = .ok (.invokevirtual 158, 3) := by decide +kernel
theorem dX8_rootOf_106 : decode cX8_rootOf 106 = .ok (.aload_n 0, 1) := by decide +kernel
theorem dX8_rootOf_107 : decode cX8_rootOf 107 = .ok (.getfield 53, 3) := by decide +kernel
theorem dX8_rootOf_110 : decode cX8_rootOf 110 = .ok (.aload_n 0, 1) := by decide +kernel
theorem dX8_rootOf_111 : decode cX8_rootOf 111 = .ok (.getfield 57, 3) := by decide +kernel
theorem dX8_rootOf_114 : decode cX8_rootOf 114 = .ok (.invokevirtual 163, 3) := by decide +kernel
theorem dX8_rootOf_117 : decode cX8_rootOf 117 = .ok (.ireturn, 1) := by decide +kernel
set_option maxRecDepth 20000 in
theorem ggX8_unlike_X8_isRoot : GoodIn wsX8_unlike wsX8_isRoot := goodIn_r _ [7, 2, 8, 9, 10, 11, 12, 13, 14, 15, 6, 16, 59, 60, 61, 62, 63, 64, 65, 66, 67, 68, 69, 70, 71, 72, 73, 74, 75] (by decide +kernel) (by decide +kernel)
set_option maxRecDepth 20000 in
theorem gX8_unlike_X8_isRoot : GoodIn wsX8_unlike (wsV RX8 96 RX8 yX8_isRoot wsX8_isRoot) := goodIn_app (goodIn_of _ (by decide +kernel)) ggX8_unlike_X8_isRoot
set_option maxRecDepth 20000 in
theorem ggX8_unlike_X5_unlikeLeaves : GoodIn wsX8_unlike wsX5_unlikeLeaves := goodIn_r _ [21, 22, 23, 24, 25, 26, 27, 11, 28, 29, 15, 6, 16, 30, 31, 32, 33, 34, 35, 36, 37, 38, 39, 40, 41, 42, 43, 44, 45, 46, 47, 48, 49, 50, 51, 52, 53, 54, 55, 56, 57, 20, 58, 67, 68, 69, 70, 71, 72, 73, 74, 75, 76] (by decide +kernel) (by decide +kernel)
set_option maxRecDepth 20000 in
theorem gX8_unlike_X5_unlikeLeaves : GoodIn wsX8_unlike (wsV RX8 166 RX5 yX5_unlikeLeaves wsX5_unlikeLeaves) := goodIn_app (goodIn_of _ (by decide +kernel)) ggX8_unlike_X5_unlikeLeaves
theorem dX8_unlike_0 : decode cX8_unlike 0 = .ok (.aload_n 0, 1) := by decide +kernel
theorem dX8_unlike_1 : decode cX8_unlike 1 = .ok (.iload_n 1, 1) := by decide +kernel
theorem dX8_unlike_2 : decode cX8_unlike 2 = .ok (.invokevirtual 96, 3) := by decide +kernel
theorem dX8_unlike_5 : decode cX8_unlike 5 = .ok (.ifCond .eq 11, 3) := by decide +kernel
theorem dX8_unlike_8 : decode cX8_unlike 8 = .ok (.aload_n 0, 1) := by decide +kernel
theorem dX8_unlike_9 : decode cX8_unlike 9 = .ok (.iload_n 2, 1) := by decide +kernel
theorem dX8_unlike_10 : decode cX8_unlike 10 = .ok (.invokevirtual 96, 3) := by decide +kernel
theorem dX8_unlike_13 : decode cX8_unlike 13 = .ok (.ifCond .ne 6, 3) := by decide +kernel
theorem dX8_unlike_16 : decode cX8_unlike 16 = .ok (.ldc 64, 2) := by decide +kernel
theorem dX8_unlike_18 : decode cX8_unlike 18 = .ok (.ireturn, 1) := by decide +kernel
theorem dX8_unlike_19 : decode cX8_unlike 19 = .ok (.aload_n 0, 1) := by decide +kernel
theorem dX8_unlike_20 : decode cX8_unlike 20 = .ok (.getfield 10, 3) := by decide +kernel
theorem dX8_unlike_23 : decode cX8_unlike 23 = .ok (.iload_n 1, 1) := by decide +kernel
theorem dX8_unlike_24 : decode cX8_unlike 24 = .ok (.iload_n 2, 1) := by decide +kernel
theorem dX8_unlike_25 : decode cX8_unlike 25 = .ok (.invokevirtual 166, 3) := by decide +kernel
theorem dX8_unlike_28 : decode cX8_unlike 28 = .ok (.ireturn, 1) := by decide +kernel
set_option maxRecDepth 20000 in
theorem ggX8_count_X3_size : GoodIn wsX8_count wsX3_size := goodIn_r _ [9, 10, 79, 80, 81, 82] (by decide +kernel) (by decide +kernel)
set_option maxRecDepth 20000 in
theorem gX8_count_X3_size : GoodIn wsX8_count (wsV RX8 137 RX3 yX3_size wsX3_size) := goodIn_app (goodIn_of _ (by decide +kernel)) ggX8_count_X3_size
set_option maxRecDepth 20000 in
theorem ggX8_count_X0_size : GoodIn wsX8_count wsX0_size := goodIn_r _ [15, 16, 83] (by decide +kernel) (by decide +kernel)
set_option maxRecDepth 20000 in
theorem gX8_count_X0_size : GoodIn wsX8_count (wsV RX8 162 RX0 yX0_size wsX0_size) := goodIn_app (goodIn_of _ (by decide +kernel)) ggX8_count_X0_size
set_option maxRecDepth 20000 in
theorem ggX8_count_X5_unlikeInUse : GoodIn wsX8_count wsX5_unlikeInUse := goodIn_r _ [21, 22, 23, 24, 25, 26, 14, 27, 16, 28, 29, 30, 31, 32, 33, 34, 35, 36, 37, 38, 39, 40, 41, 42, 43, 44, 74, 75, 76, 77, 78, 83, 84] (by decide +kernel) (by decide +kernel)
set_option maxRecDepth 20000 in
theorem gX8_count_X5_unlikeInUse : GoodIn wsX8_count (wsV RX8 175 RX5 yX5_unlikeInUse wsX5_unlikeInUse) := goodIn_app (goodIn_of _ (by decide +kernel)) ggX8_count_X5_unlikeInUse
set_option maxRecDepth 20000 in
theorem ggX8_count_X8_lowestFree : GoodIn wsX8_count wsX8_lowestFree := goodIn_r _ [48, 1, 49, 50, 51, 52, 14, 53, 16, 66, 67, 68, 69, 70, 71, 72, 73, 74, 75, 76, 77, 78, 83] (by decide +kernel) (by decide +kernel)
set_option maxRecDepth 20000 in
theorem gX8_count_X8_lowestFree : GoodIn wsX8_count (wsV RX8 178 RX8 yX8_lowestFree wsX8_lowestFree) := goodIn_app (goodIn_of _ (by decide +kernel)) ggX8_count_X8_lowestFree
set_option maxRecDepth 20000 in
theorem ggX8_count_X2_size : GoodIn wsX8_count wsX2_size := goodIn_r _ [58, 59, 85, 86] (by decide +kernel) (by decide +kernel)
set_option maxRecDepth 20000 in
theorem gX8_count_X2_size : GoodIn wsX8_count (wsV RX8 181 RX2 yX2_size wsX2_size) := goodIn_app (goodIn_of _ (by decide +kernel)) ggX8_count_X2_size
set_option maxRecDepth 20000 in
theorem ggX8_count_X4_length : GoodIn wsX8_count wsX4_length := goodIn_r _ [64, 65, 87, 88, 89, 90, 91, 92, 93] (by decide +kernel) (by decide +kernel)
set_option maxRecDepth 20000 in
theorem gX8_count_X4_length : GoodIn wsX8_count (wsV RX8 182 RX4 yX4_length wsX4_length) := goodIn_app (goodIn_of _ (by decide +kernel)) ggX8_count_X4_length
theorem dX8_count_0 : decode cX8_count 0 = .ok (.iload_n 1, 1) := by decide +kernel
theorem dX8_count_1 : decode cX8_count 1 = .ok (.tableswitch 117 0 7 #[47, 58, 72, 80, 88, 96, 101, 109], 47) := by decide +kernel
theorem dX8_count_48 : decode cX8_count 48 = .ok (.aload_n 0, 1) := by decide +kernel
theorem dX8_count_49 : decode cX8_count 49 = .ok (.getfield 10, 3) := by decide +kernel
theorem dX8_count_52 : decode cX8_count 52 = .ok (.getfield 133, 3) := by decide +kernel
theorem dX8_count_55 : decode cX8_count 55 = .ok (.invokevirtual 137, 3) := by decide +kernel
theorem dX8_count_58 : decode cX8_count 58 = .ok (.ireturn, 1) := by decide +kernel
theorem dX8_count_59 : decode cX8_count 59 = .ok (.bipush 96, 2) := by decide +kernel
theorem dX8_count_61 : decode cX8_count 61 = .ok (.aload_n 0, 1) := by decide +kernel
theorem dX8_count_62 : decode cX8_count 62 = .ok (.getfield 10, 3) := by decide +kernel
theorem dX8_count_65 : decode cX8_count 65 = .ok (.getfield 169, 3) := by decide +kernel
theorem dX8_count_68 : decode cX8_count 68 = .ok (.invokevirtual 162, 3) := by decide +kernel
theorem dX8_count_71 : decode cX8_count 71 = .ok (.isub, 1) := by decide +kernel
theorem dX8_count_72 : decode cX8_count 72 = .ok (.ireturn, 1) := by decide +kernel
theorem dX8_count_73 : decode cX8_count 73 = .ok (.aload_n 0, 1) := by decide +kernel
theorem dX8_count_74 : decode cX8_count 74 = .ok (.getfield 10, 3) := by decide +kernel
theorem dX8_count_77 : decode cX8_count 77 = .ok (.getfield 77, 3) := by decide +kernel
theorem dX8_count_80 : decode cX8_count 80 = .ok (.ireturn, 1) := by decide +kernel
theorem dX8_count_81 : decode cX8_count 81 = .ok (.aload_n 0, 1) := by decide +kernel
theorem dX8_count_82 : decode cX8_count 82 = .ok (.getfield 10, 3) := by decide +kernel
theorem dX8_count_85 : decode cX8_count 85 = .ok (.getfield 172, 3) := by decide +kernel
theorem dX8_count_88 : decode cX8_count 88 = .ok (.ireturn, 1) := by decide +kernel
theorem dX8_count_89 : decode cX8_count 89 = .ok (.aload_n 0, 1) := by decide +kernel
theorem dX8_count_90 : decode cX8_count 90 = .ok (.getfield 10, 3) := by decide +kernel
theorem dX8_count_93 : decode cX8_count 93 = .ok (.invokevirtual 175, 3) := by decide +kernel
theorem dX8_count_96 : decode cX8_count 96 = .ok (.ireturn, 1) := by decide +kernel
theorem dX8_count_97 : decode cX8_count 97 = .ok (.aload_n 0, 1) := by decide +kernel
theorem dX8_count_98 : decode cX8_count 98 = .ok (.invokevirtual 178, 3) := by decide +kernel
theorem dX8_count_101 : decode cX8_count 101 = .ok (.ireturn, 1) := by decide +kernel
theorem dX8_count_102 : decode cX8_count 102 = .ok (.aload_n 0, 1) := by decide +kernel
theorem dX8_count_103 : decode cX8_count 103 = .ok (.getfield 25, 3) := by decide +kernel
theorem dX8_count_106 : decode cX8_count 106 = .ok (.invokevirtual 181, 3) := by decide +kernel
theorem dX8_count_109 : decode cX8_count 109 = .ok (.ireturn, 1) := by decide +kernel
theorem dX8_count_110 : decode cX8_count 110 = .ok (.aload_n 0, 1) := by decide +kernel
theorem dX8_count_111 : decode cX8_count 111 = .ok (.getfield 32, 3) := by decide +kernel
theorem dX8_count_114 : decode cX8_count 114 = .ok (.invokevirtual 182, 3) := by decide +kernel
theorem dX8_count_117 : decode cX8_count 117 = .ok (.ireturn, 1) := by decide +kernel
theorem dX8_count_118 : decode cX8_count 118 = .ok (.ldc 64, 2) := by decide +kernel
theorem dX8_count_120 : decode cX8_count 120 = .ok (.ireturn, 1) := by decide +kernel
set_option maxRecDepth 20000 in
theorem ggX8_isRoot_X3_size : GoodIn wsX8_isRoot wsX3_size := goodIn_r _ [6, 7, 25, 26, 27, 28] (by decide +kernel) (by decide +kernel)
set_option maxRecDepth 20000 in
theorem gX8_isRoot_X3_size : GoodIn wsX8_isRoot (wsV RX8 137 RX3 yX3_size wsX3_size) := goodIn_app (goodIn_of _ (by decide +kernel)) ggX8_isRoot_X3_size
set_option maxRecDepth 20000 in
theorem ggX8_isRoot_X8_below : GoodIn wsX8_isRoot wsX8_below := goodIn_r _ [11] (by decide +kernel) (by decide +kernel)
set_option maxRecDepth 20000 in
theorem gX8_isRoot_X8_below : GoodIn wsX8_isRoot (va_wsS RX8 60 yX8_below wsX8_below) := goodIn_app (goodIn_of _ (by decide +kernel)) ggX8_isRoot_X8_below
theorem dX8_isRoot_0 : decode cX8_isRoot 0 = .ok (.iload_n 1, 1) := by decide +kernel
theorem dX8_isRoot_1 : decode cX8_isRoot 1 = .ok (.aload_n 0, 1) := by decide +kernel
theorem dX8_isRoot_2 : decode cX8_isRoot 2 = .ok (.getfield 10, 3) := by decide +kernel
theorem dX8_isRoot_5 : decode cX8_isRoot 5 = .ok (.getfield 133, 3) := by decide +kernel
theorem dX8_isRoot_8 : decode cX8_isRoot 8 = .ok (.invokevirtual 137, 3) := by decide +kernel
theorem dX8_isRoot_11 : decode cX8_isRoot 11 = .ok (.invokestatic 60, 3) := by decide +kernel
theorem dX8_isRoot_14 : decode cX8_isRoot 14 = .ok (.ireturn, 1) := by decide +kernel
set_option maxRecDepth 20000 in
theorem ggX8_lowestFree_X0_lowestOutside : GoodIn wsX8_lowestFree wsX0_lowestOutside := goodIn_r _ [7, 8, 22] (by decide +kernel) (by decide +kernel)
set_option maxRecDepth 20000 in
theorem gX8_lowestFree_X0_lowestOutside : GoodIn wsX8_lowestFree (wsV RX8 212 RX0 yX0_lowestOutside wsX0_lowestOutside) := goodIn_app (goodIn_of _ (by decide +kernel)) ggX8_lowestFree_X0_lowestOutside
theorem dX8_lowestFree_0 : decode cX8_lowestFree 0 = .ok (.aload_n 0, 1) := by decide +kernel
theorem dX8_lowestFree_1 : decode cX8_lowestFree 1 = .ok (.getfield 10, 3) := by decide +kernel
theorem dX8_lowestFree_4 : decode cX8_lowestFree 4 = .ok (.getfield 169, 3) := by decide +kernel
theorem dX8_lowestFree_7 : decode cX8_lowestFree 7 = .ok (.invokevirtual 212, 3) := by decide +kernel
theorem dX8_lowestFree_10 : decode cX8_lowestFree 10 = .ok (.istore_n 1, 1) := by decide +kernel
theorem dX8_lowestFree_11 : decode cX8_lowestFree 11 = .ok (.iload_n 1, 1) := by decide +kernel
theorem dX8_lowestFree_12 : decode cX8_lowestFree 12 = .ok (.ifCond .ge 8, 3) := by decide +kernel
theorem dX8_lowestFree_15 : decode cX8_lowestFree 15 = .ok (.ldc 119, 2) := by decide +kernel
theorem dX8_lowestFree_17 : decode cX8_lowestFree 17 = .ok (.goto 4, 3) := by decide +kernel
theorem dX8_lowestFree_20 : decode cX8_lowestFree 20 = .ok (.iload_n 1, 1) := by decide +kernel
theorem dX8_lowestFree_21 : decode cX8_lowestFree 21 = .ok (.ireturn, 1) := by decide +kernel
set_option maxRecDepth 20000 in
theorem ggX8_isWayOfKind_X7_isSpoiled : GoodIn wsX8_isWayOfKind wsX7_isSpoiled := goodIn_r _ [7, 8, 9, 10, 6, 11, 12, 13, 14, 15, 16, 17, 18, 19, 20, 58, 59, 60, 61, 62] (by decide +kernel) (by decide +kernel)
set_option maxRecDepth 20000 in
theorem gX8_isWayOfKind_X7_isSpoiled : GoodIn wsX8_isWayOfKind (wsV RX8 104 RX7 yX7_isSpoiled wsX7_isSpoiled) := goodIn_app (goodIn_of _ (by decide +kernel)) ggX8_isWayOfKind_X7_isSpoiled
set_option maxRecDepth 20000 in
theorem ggX8_isWayOfKind_X5_hasUnlikeCopies : GoodIn wsX8_isWayOfKind wsX5_hasUnlikeCopies := goodIn_r _ [25, 26, 27, 28, 29, 6, 30, 31, 13, 14, 15, 16, 17, 18, 19, 20, 32, 33, 34, 35, 36, 37, 38, 39, 40, 41, 42, 43, 44, 45, 63, 64, 65, 66, 67, 58, 59, 60, 61, 62, 68] (by decide +kernel) (by decide +kernel)
set_option maxRecDepth 20000 in
theorem gX8_isWayOfKind_X5_hasUnlikeCopies : GoodIn wsX8_isWayOfKind (wsV RX8 215 RX5 yX5_hasUnlikeCopies wsX5_hasUnlikeCopies) := goodIn_app (goodIn_of _ (by decide +kernel)) ggX8_isWayOfKind_X5_hasUnlikeCopies
set_option maxRecDepth 20000 in
theorem ggX8_isWayOfKind_X7_takesFrom : GoodIn wsX8_isWayOfKind wsX7_takesFrom := goodIn_r _ [49, 8, 9, 10, 6, 11, 12, 13, 14, 15, 16, 17, 18, 19, 20, 58, 59, 60, 61, 62] (by decide +kernel) (by decide +kernel)
set_option maxRecDepth 20000 in
theorem gX8_isWayOfKind_X7_takesFrom : GoodIn wsX8_isWayOfKind (wsV RX8 219 RX7 yX7_takesFrom wsX7_takesFrom) := goodIn_app (goodIn_of _ (by decide +kernel)) ggX8_isWayOfKind_X7_takesFrom
theorem dX8_isWayOfKind_0 : decode cX8_isWayOfKind 0 = .ok (.iload_n 1, 1) := by decide +kernel
theorem dX8_isWayOfKind_1 : decode cX8_isWayOfKind 1 = .ok (.ifCond .ne 11, 3) := by decide +kernel
theorem dX8_isWayOfKind_4 : decode cX8_isWayOfKind 4 = .ok (.aload_n 0, 1) := by decide +kernel
theorem dX8_isWayOfKind_5 : decode cX8_isWayOfKind 5 = .ok (.getfield 46, 3) := by decide +kernel
theorem dX8_isWayOfKind_8 : decode cX8_isWayOfKind 8 = .ok (.invokevirtual 104, 3) := by decide +kernel
theorem dX8_isWayOfKind_11 : decode cX8_isWayOfKind 11 = .ok (.ireturn, 1) := by decide +kernel
theorem dX8_isWayOfKind_12 : decode cX8_isWayOfKind 12 = .ok (.aload_n 0, 1) := by decide +kernel
theorem dX8_isWayOfKind_13 : decode cX8_isWayOfKind 13 = .ok (.getfield 46, 3) := by decide +kernel
theorem dX8_isWayOfKind_16 : decode cX8_isWayOfKind 16 = .ok (.invokevirtual 104, 3) := by decide +kernel
theorem dX8_isWayOfKind_19 : decode cX8_isWayOfKind 19 = .ok (.ifCond .eq 5, 3) := by decide +kernel
theorem dX8_isWayOfKind_22 : decode cX8_isWayOfKind 22 = .ok (.iconst 0, 1) := by decide +kernel
theorem dX8_isWayOfKind_23 : decode cX8_isWayOfKind 23 = .ok (.ireturn, 1) := by decide +kernel
theorem dX8_isWayOfKind_24 : decode cX8_isWayOfKind 24 = .ok (.iload_n 1, 1) := by decide +kernel
theorem dX8_isWayOfKind_25 : decode cX8_isWayOfKind 25 = .ok (.iconst 1, 1) := by decide +kernel
theorem dX8_isWayOfKind_26 : decode cX8_isWayOfKind 26 = .ok (.if_icmp .ne 17, 3) := by decide +kernel
theorem dX8_isWayOfKind_29 : decode cX8_isWayOfKind 29 = .ok (.aload_n 0, 1) := by decide +kernel
theorem dX8_isWayOfKind_30 : decode cX8_isWayOfKind 30 = .ok (.getfield 10, 3) := by decide +kernel
theorem dX8_isWayOfKind_33 : decode cX8_isWayOfKind 33 = .ok (.aload_n 0, 1) := by decide +kernel
theorem dX8_isWayOfKind_34 : decode cX8_isWayOfKind 34 = .ok (.getfield 46, 3) := by decide +kernel
theorem dX8_isWayOfKind_37 : decode cX8_isWayOfKind 37 = .ok (.invokevirtual 215, 3) := by decide +kernel
theorem dX8_isWayOfKind_40 : decode cX8_isWayOfKind 40 = .ok (.goto 11, 3) := by decide +kernel
theorem dX8_isWayOfKind_43 : decode cX8_isWayOfKind 43 = .ok (.aload_n 0, 1) := by decide +kernel
theorem dX8_isWayOfKind_44 : decode cX8_isWayOfKind 44 = .ok (.getfield 46, 3) := by decide +kernel
theorem dX8_isWayOfKind_47 : decode cX8_isWayOfKind 47 = .ok (.iconst 1, 1) := by decide +kernel
theorem dX8_isWayOfKind_48 : decode cX8_isWayOfKind 48 = .ok (.invokevirtual 219, 3) := by decide +kernel
theorem dX8_isWayOfKind_51 : decode cX8_isWayOfKind 51 = .ok (.ireturn, 1) := by decide +kernel
set_option maxRecDepth 20000 in
theorem ggX8_gatherBlocks_X0_clear : GoodIn wsX8_gatherBlocks wsX0_clear := goodIn_r _ [8, 9, 81] (by decide +kernel) (by decide +kernel)
set_option maxRecDepth 20000 in
theorem gX8_gatherBlocks_X0_clear : GoodIn wsX8_gatherBlocks (wsV RX8 222 RX0 yX0_clear wsX0_clear) := goodIn_app (goodIn_of _ (by decide +kernel)) ggX8_gatherBlocks_X0_clear
set_option maxRecDepth 20000 in
theorem ggX8_gatherBlocks_X3_size : GoodIn wsX8_gatherBlocks wsX3_size := goodIn_r _ [14, 15, 82, 83, 84, 85] (by decide +kernel) (by decide +kernel)
set_option maxRecDepth 20000 in
theorem gX8_gatherBlocks_X3_size : GoodIn wsX8_gatherBlocks (wsV RX8 137 RX3 yX3_size wsX3_size) := goodIn_app (goodIn_of _ (by decide +kernel)) ggX8_gatherBlocks_X3_size
set_option maxRecDepth 20000 in
theorem ggX8_gatherBlocks_X5_addBlocksOf : GoodIn wsX8_gatherBlocks wsX5_addBlocksOf := goodIn_r _ [20, 21, 22, 23, 24, 25, 13, 26, 27, 28, 29, 30, 31, 32, 33, 34, 35, 36, 37, 38, 19, 39, 40, 41, 42, 43, 44, 45, 46, 47, 48, 49, 50, 51, 52, 53, 54, 55, 56, 57, 58, 7, 59, 9, 60, 61, 62, 63, 64, 65, 66, 67, 76, 77, 78, 79, 80, 82, 83, 84, 85, 86, 81] (by decide +kernel) (by decide +kernel)
set_option maxRecDepth 20000 in
theorem gX8_gatherBlocks_X5_addBlocksOf : GoodIn wsX8_gatherBlocks (wsV RX8 223 RX5 yX5_addBlocksOf wsX5_addBlocksOf) := goodIn_app (goodIn_of _ (by decide +kernel)) ggX8_gatherBlocks_X5_addBlocksOf
theorem dX8_gatherBlocks_0 : decode cX8_gatherBlocks 0 = .ok (.aload_n 0, 1) := by decide +kernel
theorem dX8_gatherBlocks_1 : decode cX8_gatherBlocks 1 = .ok (.getfield 53, 3) := by decide +kernel
theorem dX8_gatherBlocks_4 : decode cX8_gatherBlocks 4 = .ok (.invokevirtual 222, 3) := by decide +kernel
theorem dX8_gatherBlocks_7 : decode cX8_gatherBlocks 7 = .ok (.aload_n 0, 1) := by decide +kernel
theorem dX8_gatherBlocks_8 : decode cX8_gatherBlocks 8 = .ok (.getfield 57, 3) := by decide +kernel
theorem dX8_gatherBlocks_11 : decode cX8_gatherBlocks 11 = .ok (.invokevirtual 222, 3) := by decide +kernel
theorem dX8_gatherBlocks_14 : decode cX8_gatherBlocks 14 = .ok (.iconst 0, 1) := by decide +kernel
theorem dX8_gatherBlocks_15 : decode cX8_gatherBlocks 15 = .ok (.istore_n 2, 1) := by decide +kernel
theorem dX8_gatherBlocks_16 : decode cX8_gatherBlocks 16 = .ok (.iload_n 2, 1) := by decide +kernel
theorem dX8_gatherBlocks_17 : decode cX8_gatherBlocks 17 = .ok (.aload_n 0, 1) := by decide +kernel
theorem dX8_gatherBlocks_18 : decode cX8_gatherBlocks 18 = .ok (.getfield 10, 3) := by decide +kernel
theorem dX8_gatherBlocks_21 : decode cX8_gatherBlocks 21 = .ok (.getfield 133, 3) := by decide +kernel
theorem dX8_gatherBlocks_24 : decode cX8_gatherBlocks 24 = .ok (.invokevirtual 137, 3) := by decide +kernel
theorem dX8_gatherBlocks_27 : decode cX8_gatherBlocks 27 = .ok (.if_icmp .ge 33, 3) := by decide +kernel
theorem dX8_gatherBlocks_30 : decode cX8_gatherBlocks 30 = .ok (.aload_n 0, 1) := by decide +kernel
theorem dX8_gatherBlocks_31 : decode cX8_gatherBlocks 31 = .ok (.getfield 10, 3) := by decide +kernel
theorem dX8_gatherBlocks_34 : decode cX8_gatherBlocks 34 = .ok (.iload_n 2, 1) := by decide +kernel
theorem dX8_gatherBlocks_35 : decode cX8_gatherBlocks 35 = .ok (.iload_n 2, 1) := by decide +kernel
theorem dX8_gatherBlocks_36 : decode cX8_gatherBlocks 36 = .ok (.iload_n 1, 1) := by decide +kernel
theorem dX8_gatherBlocks_37 : decode cX8_gatherBlocks 37 = .ok (.if_icmp .ne 10, 3) := by decide +kernel
theorem dX8_gatherBlocks_40 : decode cX8_gatherBlocks 40 = .ok (.aload_n 0, 1) := by decide +kernel
theorem dX8_gatherBlocks_41 : decode cX8_gatherBlocks 41 = .ok (.getfield 53, 3) := by decide +kernel
theorem dX8_gatherBlocks_44 : decode cX8_gatherBlocks 44 = .ok (.goto 7, 3) := by decide +kernel
theorem dX8_gatherBlocks_47 : decode cX8_gatherBlocks 47 = .ok (.aload_n 0, 1) := by decide +kernel
theorem dX8_gatherBlocks_48 : decode cX8_gatherBlocks 48 = .ok (.getfield 57, 3) := by decide +kernel
theorem dX8_gatherBlocks_51 : decode cX8_gatherBlocks 51 = .ok (.invokevirtual 223, 3) := by decide +kernel
theorem dX8_gatherBlocks_54 : decode cX8_gatherBlocks 54 = .ok (.iinc 2 1, 3) := by decide +kernel
theorem dX8_gatherBlocks_57 : decode cX8_gatherBlocks 57 = .ok (.goto (-41), 3) := by decide +kernel
theorem dX8_gatherBlocks_60 : decode cX8_gatherBlocks 60 = .ok (.return_, 1) := by decide +kernel
theorem dX8_below_0 : decode cX8_below 0 = .ok (.iload_n 0, 1) := by decide +kernel
theorem dX8_below_1 : decode cX8_below 1 = .ok (.ifCond .lt 12, 3) := by decide +kernel
theorem dX8_below_4 : decode cX8_below 4 = .ok (.iload_n 0, 1) := by decide +kernel
theorem dX8_below_5 : decode cX8_below 5 = .ok (.iload_n 1, 1) := by decide +kernel
theorem dX8_below_6 : decode cX8_below 6 = .ok (.if_icmp .ge 7, 3) := by decide +kernel
theorem dX8_below_9 : decode cX8_below 9 = .ok (.iconst 1, 1) := by decide +kernel
theorem dX8_below_10 : decode cX8_below 10 = .ok (.goto 4, 3) := by decide +kernel
theorem dX8_below_13 : decode cX8_below 13 = .ok (.iconst 0, 1) := by decide +kernel
theorem dX8_below_14 : decode cX8_below 14 = .ok (.ireturn, 1) := by decide +kernel
theorem dX8_sumFrom_0 : decode cX8_sumFrom 0 = .ok (.iload_n 1, 1) := by decide +kernel
theorem dX8_sumFrom_1 : decode cX8_sumFrom 1 = .ok (.ifCond .lt 11, 3) := by decide +kernel
theorem dX8_sumFrom_4 : decode cX8_sumFrom 4 = .ok (.iload_n 1, 1) := by decide +kernel
theorem dX8_sumFrom_5 : decode cX8_sumFrom 5 = .ok (.aload_n 0, 1) := by decide +kernel
theorem dX8_sumFrom_6 : decode cX8_sumFrom 6 = .ok (.arraylength, 1) := by decide +kernel
theorem dX8_sumFrom_7 : decode cX8_sumFrom 7 = .ok (.iconst 4, 1) := by decide +kernel
theorem dX8_sumFrom_8 : decode cX8_sumFrom 8 = .ok (.isub, 1) := by decide +kernel
theorem dX8_sumFrom_9 : decode cX8_sumFrom 9 = .ok (.if_icmp .le 5, 3) := by decide +kernel
theorem dX8_sumFrom_12 : decode cX8_sumFrom 12 = .ok (.iconst (-1), 1) := by decide +kernel
theorem dX8_sumFrom_13 : decode cX8_sumFrom 13 = .ok (.ireturn, 1) := by decide +kernel
theorem dX8_sumFrom_14 : decode cX8_sumFrom 14 = .ok (.iconst 4, 1) := by decide +kernel
theorem dX8_sumFrom_15 : decode cX8_sumFrom 15 = .ok (.aload_n 0, 1) := by decide +kernel
theorem dX8_sumFrom_16 : decode cX8_sumFrom 16 = .ok (.iload_n 1, 1) := by decide +kernel
theorem dX8_sumFrom_17 : decode cX8_sumFrom 17 = .ok (.iaload, 1) := by decide +kernel
theorem dX8_sumFrom_18 : decode cX8_sumFrom 18 = .ok (.imul, 1) := by decide +kernel
theorem dX8_sumFrom_19 : decode cX8_sumFrom 19 = .ok (.iconst 3, 1) := by decide +kernel
theorem dX8_sumFrom_20 : decode cX8_sumFrom 20 = .ok (.aload_n 0, 1) := by decide +kernel
theorem dX8_sumFrom_21 : decode cX8_sumFrom 21 = .ok (.iload_n 1, 1) := by decide +kernel
theorem dX8_sumFrom_22 : decode cX8_sumFrom 22 = .ok (.iconst 1, 1) := by decide +kernel
theorem dX8_sumFrom_23 : decode cX8_sumFrom 23 = .ok (.iadd, 1) := by decide +kernel
theorem dX8_sumFrom_24 : decode cX8_sumFrom 24 = .ok (.iaload, 1) := by decide +kernel
theorem dX8_sumFrom_25 : decode cX8_sumFrom 25 = .ok (.imul, 1) := by decide +kernel
theorem dX8_sumFrom_26 : decode cX8_sumFrom 26 = .ok (.iadd, 1) := by decide +kernel
theorem dX8_sumFrom_27 : decode cX8_sumFrom 27 = .ok (.iconst 2, 1) := by decide +kernel
theorem dX8_sumFrom_28 : decode cX8_sumFrom 28 = .ok (.aload_n 0, 1) := by decide +kernel
theorem dX8_sumFrom_29 : decode cX8_sumFrom 29 = .ok (.iload_n 1, 1) := by decide +kernel
theorem dX8_sumFrom_30 : decode cX8_sumFrom 30 = .ok (.iconst 2, 1) := by decide +kernel
theorem dX8_sumFrom_31 : decode cX8_sumFrom 31 = .ok (.iadd, 1) := by decide +kernel
theorem dX8_sumFrom_32 : decode cX8_sumFrom 32 = .ok (.iaload, 1) := by decide +kernel
theorem dX8_sumFrom_33 : decode cX8_sumFrom 33 = .ok (.imul, 1) := by decide +kernel
theorem dX8_sumFrom_34 : decode cX8_sumFrom 34 = .ok (.iadd, 1) := by decide +kernel
theorem dX8_sumFrom_35 : decode cX8_sumFrom 35 = .ok (.aload_n 0, 1) := by decide +kernel
theorem dX8_sumFrom_36 : decode cX8_sumFrom 36 = .ok (.iload_n 1, 1) := by decide +kernel
theorem dX8_sumFrom_37 : decode cX8_sumFrom 37 = .ok (.iconst 3, 1) := by decide +kernel
theorem dX8_sumFrom_38 : decode cX8_sumFrom 38 = .ok (.iadd, 1) := by decide +kernel
theorem dX8_sumFrom_39 : decode cX8_sumFrom 39 = .ok (.iaload, 1) := by decide +kernel
theorem dX8_sumFrom_40 : decode cX8_sumFrom 40 = .ok (.iadd, 1) := by decide +kernel
theorem dX8_sumFrom_41 : decode cX8_sumFrom 41 = .ok (.bipush 7, 2) := by decide +kernel
theorem dX8_sumFrom_43 : decode cX8_sumFrom 43 = .ok (.iadd, 1) := by decide +kernel
theorem dX8_sumFrom_44 : decode cX8_sumFrom 44 = .ok (.sipush 251, 3) := by decide +kernel
theorem dX8_sumFrom_47 : decode cX8_sumFrom 47 = .ok (.irem, 1) := by decide +kernel
theorem dX8_sumFrom_48 : decode cX8_sumFrom 48 = .ok (.ireturn, 1) := by decide +kernel
theorem dX8_childTowards_0 : decode cX8_childTowards 0 = .ok (.iload_n 1, 1) := by decide +kernel
theorem dX8_childTowards_1 : decode cX8_childTowards 1 = .ok (.ifCond .ne 9, 3) := by decide +kernel
theorem dX8_childTowards_4 : decode cX8_childTowards 4 = .ok (.iload_n 0, 1) := by decide +kernel
theorem dX8_childTowards_5 : decode cX8_childTowards 5 = .ok (.iconst 4, 1) := by decide +kernel
theorem dX8_childTowards_6 : decode cX8_childTowards 6 = .ok (.idiv, 1) := by decide +kernel
theorem dX8_childTowards_7 : decode cX8_childTowards 7 = .ok (.goto 6, 3) := by decide +kernel
theorem dX8_childTowards_10 : decode cX8_childTowards 10 = .ok (.iload_n 0, 1) := by decide +kernel
theorem dX8_childTowards_11 : decode cX8_childTowards 11 = .ok (.iconst 4, 1) := by decide +kernel
theorem dX8_childTowards_12 : decode cX8_childTowards 12 = .ok (.irem, 1) := by decide +kernel
theorem dX8_childTowards_13 : decode cX8_childTowards 13 = .ok (.ireturn, 1) := by decide +kernel
theorem dL_cell_0 : decode cL_cell 0 = .ok (.iload_n 1, 1) := by decide +kernel
theorem dL_cell_1 : decode cL_cell 1 = .ok (.aload_n 0, 1) := by decide +kernel
theorem dL_cell_2 : decode cL_cell 2 = .ok (.arraylength, 1) := by decide +kernel
theorem dL_cell_3 : decode cL_cell 3 = .ok (.if_icmp .ge 9, 3) := by decide +kernel
theorem dL_cell_6 : decode cL_cell 6 = .ok (.aload_n 0, 1) := by decide +kernel
theorem dL_cell_7 : decode cL_cell 7 = .ok (.iload_n 1, 1) := by decide +kernel
theorem dL_cell_8 : decode cL_cell 8 = .ok (.iaload, 1) := by decide +kernel
theorem dL_cell_9 : decode cL_cell 9 = .ok (.goto 12, 3) := by decide +kernel
theorem dL_cell_12 : decode cL_cell 12 = .ok (.ldc 7, 2) := by decide +kernel
theorem dL_cell_14 : decode cL_cell 14 = .ok (.iload_n 1, 1) := by decide +kernel
theorem dL_cell_15 : decode cL_cell 15 = .ok (.iconst 1, 1) := by decide +kernel
theorem dL_cell_16 : decode cL_cell 16 = .ok (.iadd, 1) := by decide +kernel
theorem dL_cell_17 : decode cL_cell 17 = .ok (.imul, 1) := by decide +kernel
theorem dL_cell_18 : decode cL_cell 18 = .ok (.ldc 8, 2) := by decide +kernel
theorem dL_cell_20 : decode cL_cell 20 = .ok (.iadd, 1) := by decide +kernel
theorem dL_cell_21 : decode cL_cell 21 = .ok (.ireturn, 1) := by decide +kernel
theorem dL_low_0 : decode cL_low 0 = .ok (.iload_n 0, 1) := by decide +kernel
theorem dL_low_1 : decode cL_low 1 = .ok (.ldc 9, 2) := by decide +kernel
theorem dL_low_3 : decode cL_low 3 = .ok (.iand, 1) := by decide +kernel
theorem dL_low_4 : decode cL_low 4 = .ok (.iload_n 1, 1) := by decide +kernel
theorem dL_low_5 : decode cL_low 5 = .ok (.irem, 1) := by decide +kernel
theorem dL_low_6 : decode cL_low 6 = .ok (.ireturn, 1) := by decide +kernel
theorem dL_content_0 : decode cL_content 0 = .ok (.iload_n 0, 1) := by decide +kernel
theorem dL_content_1 : decode cL_content 1 = .ok (.bipush 64, 2) := by decide +kernel
theorem dL_content_3 : decode cL_content 3 = .ok (.if_icmp .ge 9, 3) := by decide +kernel
theorem dL_content_6 : decode cL_content 6 = .ok (.aload_n 1, 1) := by decide +kernel
theorem dL_content_7 : decode cL_content 7 = .ok (.iload_n 0, 1) := by decide +kernel
theorem dL_content_8 : decode cL_content 8 = .ok (.laload, 1) := by decide +kernel
theorem dL_content_9 : decode cL_content 9 = .ok (.goto 4, 3) := by decide +kernel
theorem dL_content_12 : decode cL_content 12 = .ok (.lconst 0, 1) := by decide +kernel
theorem dL_content_13 : decode cL_content 13 = .ok (.lreturn, 1) := by decide +kernel
theorem dL_number_0 : decode cL_number 0 = .ok (.lload_n 0, 1) := by decide +kernel
theorem dL_number_1 : decode cL_number 1 = .ok (.bipush 16, 2) := by decide +kernel
theorem dL_number_3 : decode cL_number 3 = .ok (.iload_n 2, 1) := by decide +kernel
theorem dL_number_4 : decode cL_number 4 = .ok (.imul, 1) := by decide +kernel
theorem dL_number_5 : decode cL_number 5 = .ok (.lushr, 1) := by decide +kernel
theorem dL_number_6 : decode cL_number 6 = .ok (.ldc2_w 10, 3) := by decide +kernel
theorem dL_number_9 : decode cL_number 9 = .ok (.land, 1) := by decide +kernel
theorem dL_number_10 : decode cL_number 10 = .ok (.l2i, 1) := by decide +kernel
theorem dL_number_11 : decode cL_number 11 = .ok (.ireturn, 1) := by decide +kernel
set_option maxRecDepth 20000 in
theorem ggL_sum_L_number : GoodIn wsL_sum wsL_number := goodIn_r _ [4, 5] (by decide +kernel) (by decide +kernel)
set_option maxRecDepth 20000 in
theorem gL_sum_L_number : GoodIn wsL_sum (va_wsS RL 12 yL_number wsL_number) := goodIn_app (goodIn_of _ (by decide +kernel)) ggL_sum_L_number
theorem dL_sum_0 : decode cL_sum 0 = .ok (.iconst 4, 1) := by decide +kernel
theorem dL_sum_1 : decode cL_sum 1 = .ok (.lload_n 0, 1) := by decide +kernel
theorem dL_sum_2 : decode cL_sum 2 = .ok (.iconst 0, 1) := by decide +kernel
theorem dL_sum_3 : decode cL_sum 3 = .ok (.invokestatic 12, 3) := by decide +kernel
theorem dL_sum_6 : decode cL_sum 6 = .ok (.imul, 1) := by decide +kernel
theorem dL_sum_7 : decode cL_sum 7 = .ok (.iconst 3, 1) := by decide +kernel
theorem dL_sum_8 : decode cL_sum 8 = .ok (.lload_n 0, 1) := by decide +kernel
theorem dL_sum_9 : decode cL_sum 9 = .ok (.iconst 1, 1) := by decide +kernel
theorem dL_sum_10 : decode cL_sum 10 = .ok (.invokestatic 12, 3) := by decide +kernel
theorem dL_sum_13 : decode cL_sum 13 = .ok (.imul, 1) := by decide +kernel
theorem dL_sum_14 : decode cL_sum 14 = .ok (.iadd, 1) := by decide +kernel
theorem dL_sum_15 : decode cL_sum 15 = .ok (.iconst 2, 1) := by decide +kernel
theorem dL_sum_16 : decode cL_sum 16 = .ok (.lload_n 0, 1) := by decide +kernel
theorem dL_sum_17 : decode cL_sum 17 = .ok (.iconst 2, 1) := by decide +kernel
theorem dL_sum_18 : decode cL_sum 18 = .ok (.invokestatic 12, 3) := by decide +kernel
theorem dL_sum_21 : decode cL_sum 21 = .ok (.imul, 1) := by decide +kernel
theorem dL_sum_22 : decode cL_sum 22 = .ok (.iadd, 1) := by decide +kernel
theorem dL_sum_23 : decode cL_sum 23 = .ok (.lload_n 0, 1) := by decide +kernel
theorem dL_sum_24 : decode cL_sum 24 = .ok (.iconst 3, 1) := by decide +kernel
theorem dL_sum_25 : decode cL_sum 25 = .ok (.invokestatic 12, 3) := by decide +kernel
theorem dL_sum_28 : decode cL_sum 28 = .ok (.iadd, 1) := by decide +kernel
theorem dL_sum_29 : decode cL_sum 29 = .ok (.bipush 7, 2) := by decide +kernel
theorem dL_sum_31 : decode cL_sum 31 = .ok (.iadd, 1) := by decide +kernel
theorem dL_sum_32 : decode cL_sum 32 = .ok (.sipush 251, 3) := by decide +kernel
theorem dL_sum_35 : decode cL_sum 35 = .ok (.irem, 1) := by decide +kernel
theorem dL_sum_36 : decode cL_sum 36 = .ok (.ireturn, 1) := by decide +kernel
theorem dL_with_0 : decode cL_with 0 = .ok (.lload_n 0, 1) := by decide +kernel
theorem dL_with_1 : decode cL_with 1 = .ok (.ldc2_w 10, 3) := by decide +kernel
theorem dL_with_4 : decode cL_with 4 = .ok (.bipush 16, 2) := by decide +kernel
theorem dL_with_6 : decode cL_with 6 = .ok (.iload_n 2, 1) := by decide +kernel
theorem dL_with_7 : decode cL_with 7 = .ok (.imul, 1) := by decide +kernel
theorem dL_with_8 : decode cL_with 8 = .ok (.lshl, 1) := by decide +kernel
theorem dL_with_9 : decode cL_with 9 = .ok (.ldc2_w 18, 3) := by decide +kernel
theorem dL_with_12 : decode cL_with 12 = .ok (.lxor, 1) := by decide +kernel
theorem dL_with_13 : decode cL_with 13 = .ok (.land, 1) := by decide +kernel
theorem dL_with_14 : decode cL_with 14 = .ok (.iload_n 3, 1) := by decide +kernel
theorem dL_with_15 : decode cL_with 15 = .ok (.i2l, 1) := by decide +kernel
theorem dL_with_16 : decode cL_with 16 = .ok (.bipush 16, 2) := by decide +kernel
theorem dL_with_18 : decode cL_with 18 = .ok (.iload_n 2, 1) := by decide +kernel
theorem dL_with_19 : decode cL_with 19 = .ok (.imul, 1) := by decide +kernel
theorem dL_with_20 : decode cL_with 20 = .ok (.lshl, 1) := by decide +kernel
theorem dL_with_21 : decode cL_with 21 = .ok (.lor, 1) := by decide +kernel
theorem dL_with_22 : decode cL_with 22 = .ok (.lreturn, 1) := by decide +kernel
set_option maxRecDepth 20000 in
theorem ggL_from_L_content : GoodIn wsL_from wsL_content := goodIn_r _ [4] (by decide +kernel) (by decide +kernel)
set_option maxRecDepth 20000 in
theorem gL_from_L_content : GoodIn wsL_from (va_wsS RL 20 yL_content wsL_content) := goodIn_app (goodIn_of _ (by decide +kernel)) ggL_from_L_content
set_option maxRecDepth 20000 in
theorem ggL_from_L_sum : GoodIn wsL_from wsL_sum := goodIn_r _ [7, 8, 9, 3, 10, 11] (by decide +kernel) (by decide +kernel)
set_option maxRecDepth 20000 in
theorem gL_from_L_sum : GoodIn wsL_from (va_wsS RL 24 yL_sum wsL_sum) := goodIn_app (goodIn_of _ (by decide +kernel)) ggL_from_L_sum
theorem dL_from_0 : decode cL_from 0 = .ok (.iload_n 0, 1) := by decide +kernel
theorem dL_from_1 : decode cL_from 1 = .ok (.bipush 95, 2) := by decide +kernel
theorem dL_from_3 : decode cL_from 3 = .ok (.if_icmp .le 7, 3) := by decide +kernel
theorem dL_from_6 : decode cL_from 6 = .ok (.iconst 2, 1) := by decide +kernel
theorem dL_from_7 : decode cL_from 7 = .ok (.goto 36, 3) := by decide +kernel
theorem dL_from_10 : decode cL_from 10 = .ok (.iload_n 0, 1) := by decide +kernel
theorem dL_from_11 : decode cL_from 11 = .ok (.aload_n 2, 1) := by decide +kernel
theorem dL_from_12 : decode cL_from 12 = .ok (.invokestatic 20, 3) := by decide +kernel
theorem dL_from_15 : decode cL_from 15 = .ok (.invokestatic 24, 3) := by decide +kernel
theorem dL_from_18 : decode cL_from 18 = .ok (.iload_n 1, 1) := by decide +kernel
theorem dL_from_19 : decode cL_from 19 = .ok (.if_icmp .ne 7, 3) := by decide +kernel
theorem dL_from_22 : decode cL_from 22 = .ok (.iconst 0, 1) := by decide +kernel
theorem dL_from_23 : decode cL_from 23 = .ok (.goto 20, 3) := by decide +kernel
theorem dL_from_26 : decode cL_from 26 = .ok (.iload_n 0, 1) := by decide +kernel
theorem dL_from_27 : decode cL_from 27 = .ok (.aload_n 3, 1) := by decide +kernel
theorem dL_from_28 : decode cL_from 28 = .ok (.invokestatic 20, 3) := by decide +kernel
theorem dL_from_31 : decode cL_from 31 = .ok (.invokestatic 24, 3) := by decide +kernel
theorem dL_from_34 : decode cL_from 34 = .ok (.iload_n 1, 1) := by decide +kernel
theorem dL_from_35 : decode cL_from 35 = .ok (.if_icmp .ne 7, 3) := by decide +kernel
theorem dL_from_38 : decode cL_from 38 = .ok (.iconst 1, 1) := by decide +kernel
theorem dL_from_39 : decode cL_from 39 = .ok (.goto 4, 3) := by decide +kernel
theorem dL_from_42 : decode cL_from 42 = .ok (.iconst 2, 1) := by decide +kernel
theorem dL_from_43 : decode cL_from 43 = .ok (.ireturn, 1) := by decide +kernel
set_option maxRecDepth 20000 in
theorem ggL_way_L_from : GoodIn wsL_way wsL_from := goodIn_r _ [4, 5, 6, 3, 7, 8, 9, 10, 11, 12, 13, 14] (by decide +kernel) (by decide +kernel)
set_option maxRecDepth 20000 in
theorem gL_way_L_from : GoodIn wsL_way (va_wsS RL 28 yL_from wsL_from) := goodIn_app (goodIn_of _ (by decide +kernel)) ggL_way_L_from
set_option maxRecDepth 20000 in
theorem ggL_way_L_content : GoodIn wsL_way wsL_content := goodIn_r _ [7] (by decide +kernel) (by decide +kernel)
set_option maxRecDepth 20000 in
theorem gL_way_L_content : GoodIn wsL_way (va_wsS RL 20 yL_content wsL_content) := goodIn_app (goodIn_of _ (by decide +kernel)) ggL_way_L_content
set_option maxRecDepth 20000 in
theorem ggL_way_L_number : GoodIn wsL_way wsL_number := goodIn_r _ [13, 14] (by decide +kernel) (by decide +kernel)
set_option maxRecDepth 20000 in
theorem gL_way_L_number : GoodIn wsL_way (va_wsS RL 12 yL_number wsL_number) := goodIn_app (goodIn_of _ (by decide +kernel)) ggL_way_L_number
theorem dL_way_0 : decode cL_way 0 = .ok (.aload_n 2, 1) := by decide +kernel
theorem dL_way_1 : decode cL_way 1 = .ok (.iconst 3, 1) := by decide +kernel
theorem dL_way_2 : decode cL_way 2 = .ok (.iload_n 0, 1) := by decide +kernel
theorem dL_way_3 : decode cL_way 3 = .ok (.imul, 1) := by decide +kernel
theorem dL_way_4 : decode cL_way 4 = .ok (.iconst 1, 1) := by decide +kernel
theorem dL_way_5 : decode cL_way 5 = .ok (.iadd, 1) := by decide +kernel
theorem dL_way_6 : decode cL_way 6 = .ok (.iaload, 1) := by decide +kernel
theorem dL_way_7 : decode cL_way 7 = .ok (.istore 6, 2) := by decide +kernel
theorem dL_way_9 : decode cL_way 9 = .ok (.aload_n 2, 1) := by decide +kernel
theorem dL_way_10 : decode cL_way 10 = .ok (.iconst 3, 1) := by decide +kernel
theorem dL_way_11 : decode cL_way 11 = .ok (.iload_n 0, 1) := by decide +kernel
theorem dL_way_12 : decode cL_way 12 = .ok (.imul, 1) := by decide +kernel
theorem dL_way_13 : decode cL_way 13 = .ok (.iconst 2, 1) := by decide +kernel
theorem dL_way_14 : decode cL_way 14 = .ok (.iadd, 1) := by decide +kernel
theorem dL_way_15 : decode cL_way 15 = .ok (.iaload, 1) := by decide +kernel
theorem dL_way_16 : decode cL_way 16 = .ok (.istore 7, 2) := by decide +kernel
theorem dL_way_18 : decode cL_way 18 = .ok (.iconst 0, 1) := by decide +kernel
theorem dL_way_19 : decode cL_way 19 = .ok (.istore 8, 2) := by decide +kernel
theorem dL_way_21 : decode cL_way 21 = .ok (.iload 8, 2) := by decide +kernel
theorem dL_way_23 : decode cL_way 23 = .ok (.iconst 3, 1) := by decide +kernel
theorem dL_way_24 : decode cL_way 24 = .ok (.if_icmp .ge 115, 3) := by decide +kernel
theorem dL_way_27 : decode cL_way 27 = .ok (.aload 5, 2) := by decide +kernel
theorem dL_way_29 : decode cL_way 29 = .ok (.iload 8, 2) := by decide +kernel
theorem dL_way_31 : decode cL_way 31 = .ok (.iload 6, 2) := by decide +kernel
theorem dL_way_33 : decode cL_way 33 = .ok (.iastore, 1) := by decide +kernel
theorem dL_way_34 : decode cL_way 34 = .ok (.aload 5, 2) := by decide +kernel
theorem dL_way_36 : decode cL_way 36 = .ok (.iconst 3, 1) := by decide +kernel
theorem dL_way_37 : decode cL_way 37 = .ok (.iload 8, 2) := by decide +kernel
theorem dL_way_39 : decode cL_way 39 = .ok (.iadd, 1) := by decide +kernel
theorem dL_way_40 : decode cL_way 40 = .ok (.iload 7, 2) := by decide +kernel
theorem dL_way_42 : decode cL_way 42 = .ok (.iastore, 1) := by decide +kernel
theorem dL_way_43 : decode cL_way 43 = .ok (.aload 5, 2) := by decide +kernel
theorem dL_way_45 : decode cL_way 45 = .ok (.bipush 6, 2) := by decide +kernel
theorem dL_way_47 : decode cL_way 47 = .ok (.iload 8, 2) := by decide +kernel
theorem dL_way_49 : decode cL_way 49 = .ok (.iadd, 1) := by decide +kernel
theorem dL_way_50 : decode cL_way 50 = .ok (.iload 6, 2) := by decide +kernel
theorem dL_way_52 : decode cL_way 52 = .ok (.iload 7, 2) := by decide +kernel
theorem dL_way_54 : decode cL_way 54 = .ok (.aload_n 3, 1) := by decide +kernel
theorem dL_way_55 : decode cL_way 55 = .ok (.aload 4, 2) := by decide +kernel
theorem dL_way_57 : decode cL_way 57 = .ok (.invokestatic 28, 3) := by decide +kernel
theorem dL_way_60 : decode cL_way 60 = .ok (.iastore, 1) := by decide +kernel
theorem dL_way_61 : decode cL_way 61 = .ok (.aload 5, 2) := by decide +kernel
theorem dL_way_63 : decode cL_way 63 = .ok (.bipush 6, 2) := by decide +kernel
theorem dL_way_65 : decode cL_way 65 = .ok (.iload 8, 2) := by decide +kernel
theorem dL_way_67 : decode cL_way 67 = .ok (.iadd, 1) := by decide +kernel
theorem dL_way_68 : decode cL_way 68 = .ok (.iaload, 1) := by decide +kernel
theorem dL_way_69 : decode cL_way 69 = .ok (.iconst 2, 1) := by decide +kernel
theorem dL_way_70 : decode cL_way 70 = .ok (.if_icmp .ne 6, 3) := by decide +kernel
theorem dL_way_73 : decode cL_way 73 = .ok (.iload 8, 2) := by decide +kernel
theorem dL_way_75 : decode cL_way 75 = .ok (.ireturn, 1) := by decide +kernel
theorem dL_way_76 : decode cL_way 76 = .ok (.iload 6, 2) := by decide +kernel
theorem dL_way_78 : decode cL_way 78 = .ok (.aload 5, 2) := by decide +kernel
theorem dL_way_80 : decode cL_way 80 = .ok (.bipush 6, 2) := by decide +kernel
theorem dL_way_82 : decode cL_way 82 = .ok (.iload 8, 2) := by decide +kernel
theorem dL_way_84 : decode cL_way 84 = .ok (.iadd, 1) := by decide +kernel
theorem dL_way_85 : decode cL_way 85 = .ok (.iaload, 1) := by decide +kernel
theorem dL_way_86 : decode cL_way 86 = .ok (.ifCond .ne 7, 3) := by decide +kernel
theorem dL_way_89 : decode cL_way 89 = .ok (.aload_n 3, 1) := by decide +kernel
theorem dL_way_90 : decode cL_way 90 = .ok (.goto 5, 3) := by decide +kernel
theorem dL_way_93 : decode cL_way 93 = .ok (.aload 4, 2) := by decide +kernel
theorem dL_way_95 : decode cL_way 95 = .ok (.invokestatic 20, 3) := by decide +kernel
theorem dL_way_98 : decode cL_way 98 = .ok (.iload 8, 2) := by decide +kernel
theorem dL_way_100 : decode cL_way 100 = .ok (.ifCond .ne 9, 3) := by decide +kernel
theorem dL_way_103 : decode cL_way 103 = .ok (.iload_n 1, 1) := by decide +kernel
theorem dL_way_104 : decode cL_way 104 = .ok (.iconst 4, 1) := by decide +kernel
theorem dL_way_105 : decode cL_way 105 = .ok (.idiv, 1) := by decide +kernel
theorem dL_way_106 : decode cL_way 106 = .ok (.goto 6, 3) := by decide +kernel
theorem dL_way_109 : decode cL_way 109 = .ok (.iload_n 1, 1) := by decide +kernel
theorem dL_way_110 : decode cL_way 110 = .ok (.iconst 4, 1) := by decide +kernel
theorem dL_way_111 : decode cL_way 111 = .ok (.irem, 1) := by decide +kernel
theorem dL_way_112 : decode cL_way 112 = .ok (.invokestatic 12, 3) := by decide +kernel
theorem dL_way_115 : decode cL_way 115 = .ok (.istore 9, 2) := by decide +kernel
theorem dL_way_117 : decode cL_way 117 = .ok (.iload 9, 2) := by decide +kernel
theorem dL_way_119 : decode cL_way 119 = .ok (.sipush 256, 3) := by decide +kernel
theorem dL_way_122 : decode cL_way 122 = .ok (.idiv, 1) := by decide +kernel
theorem dL_way_123 : decode cL_way 123 = .ok (.istore 6, 2) := by decide +kernel
theorem dL_way_125 : decode cL_way 125 = .ok (.iload 9, 2) := by decide +kernel
theorem dL_way_127 : decode cL_way 127 = .ok (.sipush 256, 3) := by decide +kernel
theorem dL_way_130 : decode cL_way 130 = .ok (.irem, 1) := by decide +kernel
theorem dL_way_131 : decode cL_way 131 = .ok (.istore 7, 2) := by decide +kernel
theorem dL_way_133 : decode cL_way 133 = .ok (.iinc 8 1, 3) := by decide +kernel
theorem dL_way_136 : decode cL_way 136 = .ok (.goto (-115), 3) := by decide +kernel
theorem dL_way_139 : decode cL_way 139 = .ok (.iconst 3, 1) := by decide +kernel
theorem dL_way_140 : decode cL_way 140 = .ok (.ireturn, 1) := by decide +kernel
theorem dL_first_0 : decode cL_first 0 = .ok (.iconst 0, 1) := by decide +kernel
theorem dL_first_1 : decode cL_first 1 = .ok (.istore_n 1, 1) := by decide +kernel
theorem dL_first_2 : decode cL_first 2 = .ok (.iload_n 1, 1) := by decide +kernel
theorem dL_first_3 : decode cL_first 3 = .ok (.bipush 96, 2) := by decide +kernel
theorem dL_first_5 : decode cL_first 5 = .ok (.if_icmp .ge 29, 3) := by decide +kernel
theorem dL_first_8 : decode cL_first 8 = .ok (.aload_n 0, 1) := by decide +kernel
theorem dL_first_9 : decode cL_first 9 = .ok (.iload_n 1, 1) := by decide +kernel
theorem dL_first_10 : decode cL_first 10 = .ok (.bipush 64, 2) := by decide +kernel
theorem dL_first_12 : decode cL_first 12 = .ok (.idiv, 1) := by decide +kernel
theorem dL_first_13 : decode cL_first 13 = .ok (.laload, 1) := by decide +kernel
theorem dL_first_14 : decode cL_first 14 = .ok (.iload_n 1, 1) := by decide +kernel
theorem dL_first_15 : decode cL_first 15 = .ok (.bipush 64, 2) := by decide +kernel
theorem dL_first_17 : decode cL_first 17 = .ok (.irem, 1) := by decide +kernel
theorem dL_first_18 : decode cL_first 18 = .ok (.lushr, 1) := by decide +kernel
theorem dL_first_19 : decode cL_first 19 = .ok (.lconst 1, 1) := by decide +kernel
theorem dL_first_20 : decode cL_first 20 = .ok (.land, 1) := by decide +kernel
theorem dL_first_21 : decode cL_first 21 = .ok (.lconst 0, 1) := by decide +kernel
theorem dL_first_22 : decode cL_first 22 = .ok (.lcmp, 1) := by decide +kernel
theorem dL_first_23 : decode cL_first 23 = .ok (.ifCond .ne 5, 3) := by decide +kernel
theorem dL_first_26 : decode cL_first 26 = .ok (.iload_n 1, 1) := by decide +kernel
theorem dL_first_27 : decode cL_first 27 = .ok (.ireturn, 1) := by decide +kernel
theorem dL_first_28 : decode cL_first 28 = .ok (.iinc 1 1, 3) := by decide +kernel
theorem dL_first_31 : decode cL_first 31 = .ok (.goto (-29), 3) := by decide +kernel
theorem dL_first_34 : decode cL_first 34 = .ok (.ldc 32, 2) := by decide +kernel
theorem dL_first_36 : decode cL_first 36 = .ok (.ireturn, 1) := by decide +kernel
theorem dL_free_0 : decode cL_free 0 = .ok (.iconst 0, 1) := by decide +kernel
theorem dL_free_1 : decode cL_free 1 = .ok (.istore_n 1, 1) := by decide +kernel
theorem dL_free_2 : decode cL_free 2 = .ok (.iconst 0, 1) := by decide +kernel
theorem dL_free_3 : decode cL_free 3 = .ok (.istore_n 2, 1) := by decide +kernel
theorem dL_free_4 : decode cL_free 4 = .ok (.iload_n 2, 1) := by decide +kernel
theorem dL_free_5 : decode cL_free 5 = .ok (.bipush 96, 2) := by decide +kernel
theorem dL_free_7 : decode cL_free 7 = .ok (.if_icmp .ge 35, 3) := by decide +kernel
theorem dL_free_10 : decode cL_free 10 = .ok (.iload_n 1, 1) := by decide +kernel
theorem dL_free_11 : decode cL_free 11 = .ok (.aload_n 0, 1) := by decide +kernel
theorem dL_free_12 : decode cL_free 12 = .ok (.iload_n 2, 1) := by decide +kernel
theorem dL_free_13 : decode cL_free 13 = .ok (.bipush 64, 2) := by decide +kernel
theorem dL_free_15 : decode cL_free 15 = .ok (.idiv, 1) := by decide +kernel
theorem dL_free_16 : decode cL_free 16 = .ok (.laload, 1) := by decide +kernel
theorem dL_free_17 : decode cL_free 17 = .ok (.iload_n 2, 1) := by decide +kernel
theorem dL_free_18 : decode cL_free 18 = .ok (.bipush 64, 2) := by decide +kernel
theorem dL_free_20 : decode cL_free 20 = .ok (.irem, 1) := by decide +kernel
theorem dL_free_21 : decode cL_free 21 = .ok (.lushr, 1) := by decide +kernel
theorem dL_free_22 : decode cL_free 22 = .ok (.lconst 1, 1) := by decide +kernel
theorem dL_free_23 : decode cL_free 23 = .ok (.land, 1) := by decide +kernel
theorem dL_free_24 : decode cL_free 24 = .ok (.lconst 0, 1) := by decide +kernel
theorem dL_free_25 : decode cL_free 25 = .ok (.lcmp, 1) := by decide +kernel
theorem dL_free_26 : decode cL_free 26 = .ok (.ifCond .ne 7, 3) := by decide +kernel
theorem dL_free_29 : decode cL_free 29 = .ok (.iconst 1, 1) := by decide +kernel
theorem dL_free_30 : decode cL_free 30 = .ok (.goto 4, 3) := by decide +kernel
theorem dL_free_33 : decode cL_free 33 = .ok (.iconst 0, 1) := by decide +kernel
theorem dL_free_34 : decode cL_free 34 = .ok (.iadd, 1) := by decide +kernel
theorem dL_free_35 : decode cL_free 35 = .ok (.istore_n 1, 1) := by decide +kernel
theorem dL_free_36 : decode cL_free 36 = .ok (.iinc 2 1, 3) := by decide +kernel
theorem dL_free_39 : decode cL_free 39 = .ok (.goto (-35), 3) := by decide +kernel
theorem dL_free_42 : decode cL_free 42 = .ok (.iload_n 1, 1) := by decide +kernel
theorem dL_free_43 : decode cL_free 43 = .ok (.ireturn, 1) := by decide +kernel
set_option maxRecDepth 20000 in
theorem ggL_write_L_free : GoodIn wsL_write wsL_free := goodIn_r _ [8] (by decide +kernel) (by decide +kernel)
set_option maxRecDepth 20000 in
theorem gL_write_L_free : GoodIn wsL_write (va_wsS RL 33 yL_free wsL_free) := goodIn_app (goodIn_of _ (by decide +kernel)) ggL_write_L_free
set_option maxRecDepth 20000 in
theorem ggL_write_L_way : GoodIn wsL_write wsL_way := goodIn_r _ [11, 12, 13, 7, 14, 15, 16, 17, 18, 19, 20, 21, 22, 23, 24] (by decide +kernel) (by decide +kernel)
set_option maxRecDepth 20000 in
theorem gL_write_L_way : GoodIn wsL_write (va_wsS RL 38 yL_way wsL_way) := goodIn_app (goodIn_of _ (by decide +kernel)) ggL_write_L_way
set_option maxRecDepth 20000 in
theorem ggL_write_L_content : GoodIn wsL_write wsL_content := goodIn_r _ [17] (by decide +kernel) (by decide +kernel)
set_option maxRecDepth 20000 in
theorem gL_write_L_content : GoodIn wsL_write (va_wsS RL 20 yL_content wsL_content) := goodIn_app (goodIn_of _ (by decide +kernel)) ggL_write_L_content
set_option maxRecDepth 20000 in
theorem ggL_write_L_number : GoodIn wsL_write wsL_number := goodIn_r _ [23, 24] (by decide +kernel) (by decide +kernel)
set_option maxRecDepth 20000 in
theorem gL_write_L_number : GoodIn wsL_write (va_wsS RL 12 yL_number wsL_number) := goodIn_app (goodIn_of _ (by decide +kernel)) ggL_write_L_number
set_option maxRecDepth 20000 in
theorem ggL_write_L_with : GoodIn wsL_write wsL_with := goodIn_r _ [27, 24, 28] (by decide +kernel) (by decide +kernel)
set_option maxRecDepth 20000 in
theorem gL_write_L_with : GoodIn wsL_write (va_wsS RL 43 yL_with wsL_with) := goodIn_app (goodIn_of _ (by decide +kernel)) ggL_write_L_with
set_option maxRecDepth 20000 in
theorem ggL_write_L_first : GoodIn wsL_write wsL_first := goodIn_r _ [31, 32] (by decide +kernel) (by decide +kernel)
set_option maxRecDepth 20000 in
theorem gL_write_L_first : GoodIn wsL_write (va_wsS RL 47 yL_first wsL_first) := goodIn_app (goodIn_of _ (by decide +kernel)) ggL_write_L_first
set_option maxRecDepth 20000 in
theorem ggL_write_L_sum : GoodIn wsL_write wsL_sum := goodIn_r _ [20, 21, 22, 7, 23, 24] (by decide +kernel) (by decide +kernel)
set_option maxRecDepth 20000 in
theorem gL_write_L_sum : GoodIn wsL_write (va_wsS RL 24 yL_sum wsL_sum) := goodIn_app (goodIn_of _ (by decide +kernel)) ggL_write_L_sum
theorem dL_write_0 : decode cL_write 0 = .ok (.aload_n 3, 1) := by decide +kernel
theorem dL_write_1 : decode cL_write 1 = .ok (.iconst 0, 1) := by decide +kernel
theorem dL_write_2 : decode cL_write 2 = .ok (.iaload, 1) := by decide +kernel
theorem dL_write_3 : decode cL_write 3 = .ok (.bipush 8, 2) := by decide +kernel
theorem dL_write_5 : decode cL_write 5 = .ok (.if_icmp .eq 12, 3) := by decide +kernel
theorem dL_write_8 : decode cL_write 8 = .ok (.aload 5, 2) := by decide +kernel
theorem dL_write_10 : decode cL_write 10 = .ok (.invokestatic 33, 3) := by decide +kernel
theorem dL_write_13 : decode cL_write 13 = .ok (.iconst 3, 1) := by decide +kernel
theorem dL_write_14 : decode cL_write 14 = .ok (.if_icmp .ge 6, 3) := by decide +kernel
theorem dL_write_17 : decode cL_write 17 = .ok (.ldc 37, 2) := by decide +kernel
theorem dL_write_19 : decode cL_write 19 = .ok (.ireturn, 1) := by decide +kernel
theorem dL_write_20 : decode cL_write 20 = .ok (.iconst 0, 1) := by decide +kernel
theorem dL_write_21 : decode cL_write 21 = .ok (.iload_n 0, 1) := by decide +kernel
theorem dL_write_22 : decode cL_write 22 = .ok (.aload 4, 2) := by decide +kernel
theorem dL_write_24 : decode cL_write 24 = .ok (.aload 6, 2) := by decide +kernel
theorem dL_write_26 : decode cL_write 26 = .ok (.aload 7, 2) := by decide +kernel
theorem dL_write_28 : decode cL_write 28 = .ok (.aload 8, 2) := by decide +kernel
theorem dL_write_30 : decode cL_write 30 = .ok (.invokestatic 38, 3) := by decide +kernel
theorem dL_write_33 : decode cL_write 33 = .ok (.iconst 3, 1) := by decide +kernel
theorem dL_write_34 : decode cL_write 34 = .ok (.if_icmp .ge 6, 3) := by decide +kernel
theorem dL_write_37 : decode cL_write 37 = .ok (.ldc 42, 2) := by decide +kernel
theorem dL_write_39 : decode cL_write 39 = .ok (.ireturn, 1) := by decide +kernel
theorem dL_write_40 : decode cL_write 40 = .ok (.aload 8, 2) := by decide +kernel
theorem dL_write_42 : decode cL_write 42 = .ok (.iconst 0, 1) := by decide +kernel
theorem dL_write_43 : decode cL_write 43 = .ok (.iaload, 1) := by decide +kernel
theorem dL_write_44 : decode cL_write 44 = .ok (.aload 8, 2) := by decide +kernel
theorem dL_write_46 : decode cL_write 46 = .ok (.bipush 6, 2) := by decide +kernel
theorem dL_write_48 : decode cL_write 48 = .ok (.iaload, 1) := by decide +kernel
theorem dL_write_49 : decode cL_write 49 = .ok (.ifCond .ne 8, 3) := by decide +kernel
theorem dL_write_52 : decode cL_write 52 = .ok (.aload 6, 2) := by decide +kernel
theorem dL_write_54 : decode cL_write 54 = .ok (.goto 5, 3) := by decide +kernel
theorem dL_write_57 : decode cL_write 57 = .ok (.aload 7, 2) := by decide +kernel
theorem dL_write_59 : decode cL_write 59 = .ok (.invokestatic 20, 3) := by decide +kernel
theorem dL_write_62 : decode cL_write 62 = .ok (.lstore 9, 2) := by decide +kernel
theorem dL_write_64 : decode cL_write 64 = .ok (.aload 8, 2) := by decide +kernel
theorem dL_write_66 : decode cL_write 66 = .ok (.iconst 1, 1) := by decide +kernel
theorem dL_write_67 : decode cL_write 67 = .ok (.iaload, 1) := by decide +kernel
theorem dL_write_68 : decode cL_write 68 = .ok (.aload 8, 2) := by decide +kernel
theorem dL_write_70 : decode cL_write 70 = .ok (.bipush 7, 2) := by decide +kernel
theorem dL_write_72 : decode cL_write 72 = .ok (.iaload, 1) := by decide +kernel
theorem dL_write_73 : decode cL_write 73 = .ok (.ifCond .ne 8, 3) := by decide +kernel
theorem dL_write_76 : decode cL_write 76 = .ok (.aload 6, 2) := by decide +kernel
theorem dL_write_78 : decode cL_write 78 = .ok (.goto 5, 3) := by decide +kernel
theorem dL_write_81 : decode cL_write 81 = .ok (.aload 7, 2) := by decide +kernel
theorem dL_write_83 : decode cL_write 83 = .ok (.invokestatic 20, 3) := by decide +kernel
theorem dL_write_86 : decode cL_write 86 = .ok (.lstore 11, 2) := by decide +kernel
theorem dL_write_88 : decode cL_write 88 = .ok (.aload 8, 2) := by decide +kernel
theorem dL_write_90 : decode cL_write 90 = .ok (.iconst 2, 1) := by decide +kernel
theorem dL_write_91 : decode cL_write 91 = .ok (.iaload, 1) := by decide +kernel
theorem dL_write_92 : decode cL_write 92 = .ok (.aload 8, 2) := by decide +kernel
theorem dL_write_94 : decode cL_write 94 = .ok (.bipush 8, 2) := by decide +kernel
theorem dL_write_96 : decode cL_write 96 = .ok (.iaload, 1) := by decide +kernel
theorem dL_write_97 : decode cL_write 97 = .ok (.ifCond .ne 8, 3) := by decide +kernel
theorem dL_write_100 : decode cL_write 100 = .ok (.aload 6, 2) := by decide +kernel
theorem dL_write_102 : decode cL_write 102 = .ok (.goto 5, 3) := by decide +kernel
theorem dL_write_105 : decode cL_write 105 = .ok (.aload 7, 2) := by decide +kernel
theorem dL_write_107 : decode cL_write 107 = .ok (.invokestatic 20, 3) := by decide +kernel
theorem dL_write_110 : decode cL_write 110 = .ok (.lstore 13, 2) := by decide +kernel
theorem dL_write_112 : decode cL_write 112 = .ok (.lload 13, 2) := by decide +kernel
theorem dL_write_114 : decode cL_write 114 = .ok (.iload_n 1, 1) := by decide +kernel
theorem dL_write_115 : decode cL_write 115 = .ok (.invokestatic 12, 3) := by decide +kernel
theorem dL_write_118 : decode cL_write 118 = .ok (.istore 15, 2) := by decide +kernel
theorem dL_write_120 : decode cL_write 120 = .ok (.lload 13, 2) := by decide +kernel
theorem dL_write_122 : decode cL_write 122 = .ok (.iload_n 1, 1) := by decide +kernel
theorem dL_write_123 : decode cL_write 123 = .ok (.iload_n 2, 1) := by decide +kernel
theorem dL_write_124 : decode cL_write 124 = .ok (.invokestatic 43, 3) := by decide +kernel
theorem dL_write_127 : decode cL_write 127 = .ok (.lstore 16, 2) := by decide +kernel
theorem dL_write_129 : decode cL_write 129 = .ok (.aload 5, 2) := by decide +kernel
theorem dL_write_131 : decode cL_write 131 = .ok (.invokestatic 47, 3) := by decide +kernel
theorem dL_write_134 : decode cL_write 134 = .ok (.istore 18, 2) := by decide +kernel
theorem dL_write_136 : decode cL_write 136 = .ok (.aload 5, 2) := by decide +kernel
theorem dL_write_138 : decode cL_write 138 = .ok (.iload 18, 2) := by decide +kernel
theorem dL_write_140 : decode cL_write 140 = .ok (.bipush 64, 2) := by decide +kernel
theorem dL_write_142 : decode cL_write 142 = .ok (.idiv, 1) := by decide +kernel
theorem dL_write_143 : decode cL_write 143 = .ok (.dup2, 1) := by decide +kernel
theorem dL_write_144 : decode cL_write 144 = .ok (.laload, 1) := by decide +kernel
theorem dL_write_145 : decode cL_write 145 = .ok (.lconst 1, 1) := by decide +kernel
theorem dL_write_146 : decode cL_write 146 = .ok (.iload 18, 2) := by decide +kernel
theorem dL_write_148 : decode cL_write 148 = .ok (.bipush 64, 2) := by decide +kernel
theorem dL_write_150 : decode cL_write 150 = .ok (.irem, 1) := by decide +kernel
theorem dL_write_151 : decode cL_write 151 = .ok (.lshl, 1) := by decide +kernel
theorem dL_write_152 : decode cL_write 152 = .ok (.lor, 1) := by decide +kernel
theorem dL_write_153 : decode cL_write 153 = .ok (.lastore, 1) := by decide +kernel
theorem dL_write_154 : decode cL_write 154 = .ok (.aload 5, 2) := by decide +kernel
theorem dL_write_156 : decode cL_write 156 = .ok (.invokestatic 47, 3) := by decide +kernel
theorem dL_write_159 : decode cL_write 159 = .ok (.istore 19, 2) := by decide +kernel
theorem dL_write_161 : decode cL_write 161 = .ok (.aload 5, 2) := by decide +kernel
theorem dL_write_163 : decode cL_write 163 = .ok (.iload 19, 2) := by decide +kernel
theorem dL_write_165 : decode cL_write 165 = .ok (.bipush 64, 2) := by decide +kernel
theorem dL_write_167 : decode cL_write 167 = .ok (.idiv, 1) := by decide +kernel
theorem dL_write_168 : decode cL_write 168 = .ok (.dup2, 1) := by decide +kernel
theorem dL_write_169 : decode cL_write 169 = .ok (.laload, 1) := by decide +kernel
theorem dL_write_170 : decode cL_write 170 = .ok (.lconst 1, 1) := by decide +kernel
theorem dL_write_171 : decode cL_write 171 = .ok (.iload 19, 2) := by decide +kernel
theorem dL_write_173 : decode cL_write 173 = .ok (.bipush 64, 2) := by decide +kernel
theorem dL_write_175 : decode cL_write 175 = .ok (.irem, 1) := by decide +kernel
theorem dL_write_176 : decode cL_write 176 = .ok (.lshl, 1) := by decide +kernel
theorem dL_write_177 : decode cL_write 177 = .ok (.lor, 1) := by decide +kernel
theorem dL_write_178 : decode cL_write 178 = .ok (.lastore, 1) := by decide +kernel
theorem dL_write_179 : decode cL_write 179 = .ok (.aload 5, 2) := by decide +kernel
theorem dL_write_181 : decode cL_write 181 = .ok (.invokestatic 47, 3) := by decide +kernel
theorem dL_write_184 : decode cL_write 184 = .ok (.istore 20, 2) := by decide +kernel
theorem dL_write_186 : decode cL_write 186 = .ok (.aload 5, 2) := by decide +kernel
theorem dL_write_188 : decode cL_write 188 = .ok (.iload 20, 2) := by decide +kernel
theorem dL_write_190 : decode cL_write 190 = .ok (.bipush 64, 2) := by decide +kernel
theorem dL_write_192 : decode cL_write 192 = .ok (.idiv, 1) := by decide +kernel
theorem dL_write_193 : decode cL_write 193 = .ok (.dup2, 1) := by decide +kernel
theorem dL_write_194 : decode cL_write 194 = .ok (.laload, 1) := by decide +kernel
theorem dL_write_195 : decode cL_write 195 = .ok (.lconst 1, 1) := by decide +kernel
theorem dL_write_196 : decode cL_write 196 = .ok (.iload 20, 2) := by decide +kernel
theorem dL_write_198 : decode cL_write 198 = .ok (.bipush 64, 2) := by decide +kernel
theorem dL_write_200 : decode cL_write 200 = .ok (.irem, 1) := by decide +kernel
theorem dL_write_201 : decode cL_write 201 = .ok (.lshl, 1) := by decide +kernel
theorem dL_write_202 : decode cL_write 202 = .ok (.lor, 1) := by decide +kernel
theorem dL_write_203 : decode cL_write 203 = .ok (.lastore, 1) := by decide +kernel
theorem dL_write_204 : decode cL_write 204 = .ok (.lload 11, 2) := by decide +kernel
theorem dL_write_206 : decode cL_write 206 = .ok (.iload_n 0, 1) := by decide +kernel
theorem dL_write_207 : decode cL_write 207 = .ok (.iconst 4, 1) := by decide +kernel
theorem dL_write_208 : decode cL_write 208 = .ok (.irem, 1) := by decide +kernel
theorem dL_write_209 : decode cL_write 209 = .ok (.sipush 256, 3) := by decide +kernel
theorem dL_write_212 : decode cL_write 212 = .ok (.iload 18, 2) := by decide +kernel
theorem dL_write_214 : decode cL_write 214 = .ok (.imul, 1) := by decide +kernel
theorem dL_write_215 : decode cL_write 215 = .ok (.lload 16, 2) := by decide +kernel
theorem dL_write_217 : decode cL_write 217 = .ok (.invokestatic 24, 3) := by decide +kernel
theorem dL_write_220 : decode cL_write 220 = .ok (.iadd, 1) := by decide +kernel
theorem dL_write_221 : decode cL_write 221 = .ok (.invokestatic 43, 3) := by decide +kernel
theorem dL_write_224 : decode cL_write 224 = .ok (.lstore 21, 2) := by decide +kernel
theorem dL_write_226 : decode cL_write 226 = .ok (.lload 9, 2) := by decide +kernel
theorem dL_write_228 : decode cL_write 228 = .ok (.iload_n 0, 1) := by decide +kernel
theorem dL_write_229 : decode cL_write 229 = .ok (.iconst 4, 1) := by decide +kernel
theorem dL_write_230 : decode cL_write 230 = .ok (.idiv, 1) := by decide +kernel
theorem dL_write_231 : decode cL_write 231 = .ok (.sipush 256, 3) := by decide +kernel
theorem dL_write_234 : decode cL_write 234 = .ok (.iload 19, 2) := by decide +kernel
theorem dL_write_236 : decode cL_write 236 = .ok (.imul, 1) := by decide +kernel
theorem dL_write_237 : decode cL_write 237 = .ok (.lload 21, 2) := by decide +kernel
theorem dL_write_239 : decode cL_write 239 = .ok (.invokestatic 24, 3) := by decide +kernel
theorem dL_write_242 : decode cL_write 242 = .ok (.iadd, 1) := by decide +kernel
theorem dL_write_243 : decode cL_write 243 = .ok (.invokestatic 43, 3) := by decide +kernel
theorem dL_write_246 : decode cL_write 246 = .ok (.lstore 23, 2) := by decide +kernel
theorem dL_write_248 : decode cL_write 248 = .ok (.aload 6, 2) := by decide +kernel
theorem dL_write_250 : decode cL_write 250 = .ok (.iload 18, 2) := by decide +kernel
theorem dL_write_252 : decode cL_write 252 = .ok (.laload, 1) := by decide +kernel
theorem dL_write_253 : decode cL_write 253 = .ok (.lstore 25, 2) := by decide +kernel
theorem dL_write_255 : decode cL_write 255 = .ok (.aload 6, 2) := by decide +kernel
theorem dL_write_257 : decode cL_write 257 = .ok (.iload 19, 2) := by decide +kernel
theorem dL_write_259 : decode cL_write 259 = .ok (.laload, 1) := by decide +kernel
theorem dL_write_260 : decode cL_write 260 = .ok (.lstore 27, 2) := by decide +kernel
theorem dL_write_262 : decode cL_write 262 = .ok (.aload 6, 2) := by decide +kernel
theorem dL_write_264 : decode cL_write 264 = .ok (.iload 18, 2) := by decide +kernel
theorem dL_write_266 : decode cL_write 266 = .ok (.aload_n 3, 1) := by decide +kernel
theorem dL_write_267 : decode cL_write 267 = .ok (.iconst 2, 1) := by decide +kernel
theorem dL_write_268 : decode cL_write 268 = .ok (.iaload, 1) := by decide +kernel
theorem dL_write_269 : decode cL_write 269 = .ok (.iconst 1, 1) := by decide +kernel
theorem dL_write_270 : decode cL_write 270 = .ok (.if_icmp .ne 19, 3) := by decide +kernel
theorem dL_write_273 : decode cL_write 273 = .ok (.lload 16, 2) := by decide +kernel
theorem dL_write_275 : decode cL_write 275 = .ok (.ldc2_w 50, 3) := by decide +kernel
theorem dL_write_278 : decode cL_write 278 = .ok (.land, 1) := by decide +kernel
theorem dL_write_279 : decode cL_write 279 = .ok (.lload 25, 2) := by decide +kernel
theorem dL_write_281 : decode cL_write 281 = .ok (.ldc2_w 52, 3) := by decide +kernel
theorem dL_write_284 : decode cL_write 284 = .ok (.land, 1) := by decide +kernel
theorem dL_write_285 : decode cL_write 285 = .ok (.lor, 1) := by decide +kernel
theorem dL_write_286 : decode cL_write 286 = .ok (.goto 17, 3) := by decide +kernel
theorem dL_write_289 : decode cL_write 289 = .ok (.aload_n 3, 1) := by decide +kernel
theorem dL_write_290 : decode cL_write 290 = .ok (.iconst 2, 1) := by decide +kernel
theorem dL_write_291 : decode cL_write 291 = .ok (.iaload, 1) := by decide +kernel
theorem dL_write_292 : decode cL_write 292 = .ok (.iconst 3, 1) := by decide +kernel
theorem dL_write_293 : decode cL_write 293 = .ok (.if_icmp .ne 8, 3) := by decide +kernel
theorem dL_write_296 : decode cL_write 296 = .ok (.lload 21, 2) := by decide +kernel
theorem dL_write_298 : decode cL_write 298 = .ok (.goto 5, 3) := by decide +kernel
theorem dL_write_301 : decode cL_write 301 = .ok (.lload 16, 2) := by decide +kernel
theorem dL_write_303 : decode cL_write 303 = .ok (.lastore, 1) := by decide +kernel
theorem dL_write_304 : decode cL_write 304 = .ok (.aload 6, 2) := by decide +kernel
theorem dL_write_306 : decode cL_write 306 = .ok (.iload 19, 2) := by decide +kernel
theorem dL_write_308 : decode cL_write 308 = .ok (.aload_n 3, 1) := by decide +kernel
theorem dL_write_309 : decode cL_write 309 = .ok (.iconst 2, 1) := by decide +kernel
theorem dL_write_310 : decode cL_write 310 = .ok (.iaload, 1) := by decide +kernel
theorem dL_write_311 : decode cL_write 311 = .ok (.iconst 2, 1) := by decide +kernel
theorem dL_write_312 : decode cL_write 312 = .ok (.if_icmp .ne 8, 3) := by decide +kernel
theorem dL_write_315 : decode cL_write 315 = .ok (.lload 27, 2) := by decide +kernel
theorem dL_write_317 : decode cL_write 317 = .ok (.goto 17, 3) := by decide +kernel
theorem dL_write_320 : decode cL_write 320 = .ok (.aload_n 3, 1) := by decide +kernel
theorem dL_write_321 : decode cL_write 321 = .ok (.iconst 2, 1) := by decide +kernel
theorem dL_write_322 : decode cL_write 322 = .ok (.iaload, 1) := by decide +kernel
theorem dL_write_323 : decode cL_write 323 = .ok (.iconst 3, 1) := by decide +kernel
theorem dL_write_324 : decode cL_write 324 = .ok (.if_icmp .ne 8, 3) := by decide +kernel
theorem dL_write_327 : decode cL_write 327 = .ok (.lload 16, 2) := by decide +kernel
theorem dL_write_329 : decode cL_write 329 = .ok (.goto 5, 3) := by decide +kernel
theorem dL_write_332 : decode cL_write 332 = .ok (.lload 21, 2) := by decide +kernel
theorem dL_write_334 : decode cL_write 334 = .ok (.lastore, 1) := by decide +kernel
theorem dL_write_335 : decode cL_write 335 = .ok (.aload 6, 2) := by decide +kernel
theorem dL_write_337 : decode cL_write 337 = .ok (.iload 20, 2) := by decide +kernel
theorem dL_write_339 : decode cL_write 339 = .ok (.lload 23, 2) := by decide +kernel
theorem dL_write_341 : decode cL_write 341 = .ok (.lastore, 1) := by decide +kernel
theorem dL_write_342 : decode cL_write 342 = .ok (.aload 7, 2) := by decide +kernel
theorem dL_write_344 : decode cL_write 344 = .ok (.iload 18, 2) := by decide +kernel
theorem dL_write_346 : decode cL_write 346 = .ok (.lload 16, 2) := by decide +kernel
theorem dL_write_348 : decode cL_write 348 = .ok (.lastore, 1) := by decide +kernel
theorem dL_write_349 : decode cL_write 349 = .ok (.aload 7, 2) := by decide +kernel
theorem dL_write_351 : decode cL_write 351 = .ok (.iload 19, 2) := by decide +kernel
theorem dL_write_353 : decode cL_write 353 = .ok (.lload 21, 2) := by decide +kernel
theorem dL_write_355 : decode cL_write 355 = .ok (.lastore, 1) := by decide +kernel
theorem dL_write_356 : decode cL_write 356 = .ok (.aload 7, 2) := by decide +kernel
theorem dL_write_358 : decode cL_write 358 = .ok (.iload 20, 2) := by decide +kernel
theorem dL_write_360 : decode cL_write 360 = .ok (.lload 23, 2) := by decide +kernel
theorem dL_write_362 : decode cL_write 362 = .ok (.lastore, 1) := by decide +kernel
theorem dL_write_363 : decode cL_write 363 = .ok (.iconst 3, 1) := by decide +kernel
theorem dL_write_364 : decode cL_write 364 = .ok (.aload_n 3, 1) := by decide +kernel
theorem dL_write_365 : decode cL_write 365 = .ok (.iconst 0, 1) := by decide +kernel
theorem dL_write_366 : decode cL_write 366 = .ok (.iaload, 1) := by decide +kernel
theorem dL_write_367 : decode cL_write 367 = .ok (.imul, 1) := by decide +kernel
theorem dL_write_368 : decode cL_write 368 = .ok (.iconst 2, 1) := by decide +kernel
theorem dL_write_369 : decode cL_write 369 = .ok (.iadd, 1) := by decide +kernel
theorem dL_write_370 : decode cL_write 370 = .ok (.istore 29, 2) := by decide +kernel
theorem dL_write_372 : decode cL_write 372 = .ok (.iload 29, 2) := by decide +kernel
theorem dL_write_374 : decode cL_write 374 = .ok (.iconst 2, 1) := by decide +kernel
theorem dL_write_375 : decode cL_write 375 = .ok (.if_icmp .le 21, 3) := by decide +kernel
theorem dL_write_378 : decode cL_write 378 = .ok (.aload 4, 2) := by decide +kernel
theorem dL_write_380 : decode cL_write 380 = .ok (.iload 29, 2) := by decide +kernel
theorem dL_write_382 : decode cL_write 382 = .ok (.aload 4, 2) := by decide +kernel
theorem dL_write_384 : decode cL_write 384 = .ok (.iload 29, 2) := by decide +kernel
