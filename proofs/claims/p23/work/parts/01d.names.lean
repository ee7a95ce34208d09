set_option maxRecDepth 20000 in
theorem gX7_copyAt_X7_tells : GoodIn wsX7_copyAt (wsV RX7 36 RX7 yX7_tells wsX7_tells) := goodIn_app (goodIn_of _ (by decide +kernel)) ggX7_copyAt_X7_tells
theorem dX7_copyAt_0 : decode cX7_copyAt 0 = .ok (.aload_n 0, 1) := by decide +kernel
theorem dX7_copyAt_1 : decode cX7_copyAt 1 = .ok (.iload_n 1, 1) := by decide +kernel
theorem dX7_copyAt_2 : decode cX7_copyAt 2 = .ok (.invokevirtual 36, 3) := by decide +kernel
theorem dX7_copyAt_5 : decode cX7_copyAt 5 = .ok (.ifCond .eq 12, 3) := by decide +kernel
theorem dX7_copyAt_8 : decode cX7_copyAt 8 = .ok (.aload_n 0, 1) := by decide +kernel
theorem dX7_copyAt_9 : decode cX7_copyAt 9 = .ok (.getfield 18, 3) := by decide +kernel
theorem dX7_copyAt_12 : decode cX7_copyAt 12 = .ok (.iload_n 1, 1) := by decide +kernel
theorem dX7_copyAt_13 : decode cX7_copyAt 13 = .ok (.iaload, 1) := by decide +kernel
theorem dX7_copyAt_14 : decode cX7_copyAt 14 = .ok (.goto 4, 3) := by decide +kernel
theorem dX7_copyAt_17 : decode cX7_copyAt 17 = .ok (.iconst 2, 1) := by decide +kernel
theorem dX7_copyAt_18 : decode cX7_copyAt 18 = .ok (.ireturn, 1) := by decide +kernel
set_option maxRecDepth 20000 in
theorem ggX7_takesFrom_X7_copyAt : GoodIn wsX7_takesFrom wsX7_copyAt := goodIn_r _ [5, 6, 7, 8, 9, 4, 10, 11, 12, 13, 14, 15, 16, 17, 18, 19] (by decide +kernel) (by decide +kernel)
set_option maxRecDepth 20000 in
theorem gX7_takesFrom_X7_copyAt : GoodIn wsX7_takesFrom (wsV RX7 32 RX7 yX7_copyAt wsX7_copyAt) := goodIn_app (goodIn_of _ (by decide +kernel)) ggX7_takesFrom_X7_copyAt
theorem dX7_takesFrom_0 : decode cX7_takesFrom 0 = .ok (.iconst 0, 1) := by decide +kernel
theorem dX7_takesFrom_1 : decode cX7_takesFrom 1 = .ok (.istore_n 2, 1) := by decide +kernel
theorem dX7_takesFrom_2 : decode cX7_takesFrom 2 = .ok (.iload_n 2, 1) := by decide +kernel
theorem dX7_takesFrom_3 : decode cX7_takesFrom 3 = .ok (.iconst 3, 1) := by decide +kernel
theorem dX7_takesFrom_4 : decode cX7_takesFrom 4 = .ok (.if_icmp .ge 20, 3) := by decide +kernel
theorem dX7_takesFrom_7 : decode cX7_takesFrom 7 = .ok (.aload_n 0, 1) := by decide +kernel
theorem dX7_takesFrom_8 : decode cX7_takesFrom 8 = .ok (.iload_n 2, 1) := by decide +kernel
theorem dX7_takesFrom_9 : decode cX7_takesFrom 9 = .ok (.invokevirtual 32, 3) := by decide +kernel
theorem dX7_takesFrom_12 : decode cX7_takesFrom 12 = .ok (.iload_n 1, 1) := by decide +kernel
theorem dX7_takesFrom_13 : decode cX7_takesFrom 13 = .ok (.if_icmp .ne 5, 3) := by decide +kernel
theorem dX7_takesFrom_16 : decode cX7_takesFrom 16 = .ok (.iconst 1, 1) := by decide +kernel
theorem dX7_takesFrom_17 : decode cX7_takesFrom 17 = .ok (.ireturn, 1) := by decide +kernel
theorem dX7_takesFrom_18 : decode cX7_takesFrom 18 = .ok (.iinc 2 1, 3) := by decide +kernel
theorem dX7_takesFrom_21 : decode cX7_takesFrom 21 = .ok (.goto (-19), 3) := by decide +kernel
theorem dX7_takesFrom_24 : decode cX7_takesFrom 24 = .ok (.iconst 0, 1) := by decide +kernel
theorem dX7_takesFrom_25 : decode cX7_takesFrom 25 = .ok (.ireturn, 1) := by decide +kernel
set_option maxRecDepth 20000 in
theorem ggX7_numberAt_X8_below : GoodIn wsX7_numberAt wsX8_below := goodIn_r _ [4] (by decide +kernel) (by decide +kernel)
set_option maxRecDepth 20000 in
theorem gX7_numberAt_X8_below_n28 : GoodIn wsX7_numberAt (wsX8_below) := ggX7_numberAt_X8_below
theorem dX7_numberAt_0 : decode cX7_numberAt 0 = .ok (.iload_n 1, 1) := by decide +kernel
theorem dX7_numberAt_1 : decode cX7_numberAt 1 = .ok (.iconst 3, 1) := by decide +kernel
theorem dX7_numberAt_2 : decode cX7_numberAt 2 = .ok (.invokestatic 28, 3) := by decide +kernel
theorem dX7_numberAt_5 : decode cX7_numberAt 5 = .ok (.ifCond .eq 24, 3) := by decide +kernel
theorem dX7_numberAt_8 : decode cX7_numberAt 8 = .ok (.iload_n 2, 1) := by decide +kernel
theorem dX7_numberAt_9 : decode cX7_numberAt 9 = .ok (.iconst 4, 1) := by decide +kernel
theorem dX7_numberAt_10 : decode cX7_numberAt 10 = .ok (.invokestatic 28, 3) := by decide +kernel
theorem dX7_numberAt_13 : decode cX7_numberAt 13 = .ok (.ifCond .eq 16, 3) := by decide +kernel
theorem dX7_numberAt_16 : decode cX7_numberAt 16 = .ok (.aload_n 0, 1) := by decide +kernel
theorem dX7_numberAt_17 : decode cX7_numberAt 17 = .ok (.getfield 21, 3) := by decide +kernel
theorem dX7_numberAt_20 : decode cX7_numberAt 20 = .ok (.iload_n 1, 1) := by decide +kernel
theorem dX7_numberAt_21 : decode cX7_numberAt 21 = .ok (.iconst 4, 1) := by decide +kernel
theorem dX7_numberAt_22 : decode cX7_numberAt 22 = .ok (.imul, 1) := by decide +kernel
theorem dX7_numberAt_23 : decode cX7_numberAt 23 = .ok (.iload_n 2, 1) := by decide +kernel
theorem dX7_numberAt_24 : decode cX7_numberAt 24 = .ok (.iadd, 1) := by decide +kernel
theorem dX7_numberAt_25 : decode cX7_numberAt 25 = .ok (.iaload, 1) := by decide +kernel
theorem dX7_numberAt_26 : decode cX7_numberAt 26 = .ok (.goto 4, 3) := by decide +kernel
theorem dX7_numberAt_29 : decode cX7_numberAt 29 = .ok (.iconst 0, 1) := by decide +kernel
theorem dX7_numberAt_30 : decode cX7_numberAt 30 = .ok (.ireturn, 1) := by decide +kernel
set_option maxRecDepth 20000 in
theorem ggX7_put_X8_below : GoodIn wsX7_put wsX8_below := goodIn_r _ [4] (by decide +kernel) (by decide +kernel)
set_option maxRecDepth 20000 in
theorem gX7_put_X8_below_n28 : GoodIn wsX7_put (wsX8_below) := ggX7_put_X8_below
theorem dX7_put_0 : decode cX7_put 0 = .ok (.iload_n 1, 1) := by decide +kernel
theorem dX7_put_1 : decode cX7_put 1 = .ok (.iconst 3, 1) := by decide +kernel
theorem dX7_put_2 : decode cX7_put 2 = .ok (.invokestatic 28, 3) := by decide +kernel
theorem dX7_put_5 : decode cX7_put 5 = .ok (.ifCond .eq 22, 3) := by decide +kernel
theorem dX7_put_8 : decode cX7_put 8 = .ok (.iload_n 2, 1) := by decide +kernel
theorem dX7_put_9 : decode cX7_put 9 = .ok (.iconst 4, 1) := by decide +kernel
theorem dX7_put_10 : decode cX7_put 10 = .ok (.invokestatic 28, 3) := by decide +kernel
theorem dX7_put_13 : decode cX7_put 13 = .ok (.ifCond .eq 14, 3) := by decide +kernel
theorem dX7_put_16 : decode cX7_put 16 = .ok (.aload_n 0, 1) := by decide +kernel
theorem dX7_put_17 : decode cX7_put 17 = .ok (.getfield 21, 3) := by decide +kernel
theorem dX7_put_20 : decode cX7_put 20 = .ok (.iload_n 1, 1) := by decide +kernel
theorem dX7_put_21 : decode cX7_put 21 = .ok (.iconst 4, 1) := by decide +kernel
theorem dX7_put_22 : decode cX7_put 22 = .ok (.imul, 1) := by decide +kernel
theorem dX7_put_23 : decode cX7_put 23 = .ok (.iload_n 2, 1) := by decide +kernel
theorem dX7_put_24 : decode cX7_put 24 = .ok (.iadd, 1) := by decide +kernel
theorem dX7_put_25 : decode cX7_put 25 = .ok (.iload_n 3, 1) := by decide +kernel
theorem dX7_put_26 : decode cX7_put 26 = .ok (.iastore, 1) := by decide +kernel
theorem dX7_put_27 : decode cX7_put 27 = .ok (.return_, 1) := by decide +kernel
set_option maxRecDepth 20000 in
theorem ggX7_takenSum_X8_below : GoodIn wsX7_takenSum wsX8_below := goodIn_r _ [4] (by decide +kernel) (by decide +kernel)
set_option maxRecDepth 20000 in
theorem gX7_takenSum_X8_below_n28 : GoodIn wsX7_takenSum (wsX8_below) := ggX7_takenSum_X8_below
set_option maxRecDepth 20000 in
theorem ggX7_takenSum_X8_sumFrom : GoodIn wsX7_takenSum wsX8_sumFrom := goodIn_r _ [6] (by decide +kernel) (by decide +kernel)
set_option maxRecDepth 20000 in
theorem gX7_takenSum_X8_sumFrom_n40 : GoodIn wsX7_takenSum (wsX8_sumFrom) := ggX7_takenSum_X8_sumFrom
theorem dX7_takenSum_0 : decode cX7_takenSum 0 = .ok (.iload_n 1, 1) := by decide +kernel
theorem dX7_takenSum_1 : decode cX7_takenSum 1 = .ok (.iconst 3, 1) := by decide +kernel
theorem dX7_takenSum_2 : decode cX7_takenSum 2 = .ok (.invokestatic 28, 3) := by decide +kernel
theorem dX7_takenSum_5 : decode cX7_takenSum 5 = .ok (.ifCond .eq 16, 3) := by decide +kernel
theorem dX7_takenSum_8 : decode cX7_takenSum 8 = .ok (.aload_n 0, 1) := by decide +kernel
theorem dX7_takenSum_9 : decode cX7_takenSum 9 = .ok (.getfield 21, 3) := by decide +kernel
theorem dX7_takenSum_12 : decode cX7_takenSum 12 = .ok (.iload_n 1, 1) := by decide +kernel
theorem dX7_takenSum_13 : decode cX7_takenSum 13 = .ok (.iconst 4, 1) := by decide +kernel
theorem dX7_takenSum_14 : decode cX7_takenSum 14 = .ok (.imul, 1) := by decide +kernel
theorem dX7_takenSum_15 : decode cX7_takenSum 15 = .ok (.invokestatic 40, 3) := by decide +kernel
theorem dX7_takenSum_18 : decode cX7_takenSum 18 = .ok (.goto 4, 3) := by decide +kernel
theorem dX7_takenSum_21 : decode cX7_takenSum 21 = .ok (.iconst (-1), 1) := by decide +kernel
theorem dX7_takenSum_22 : decode cX7_takenSum 22 = .ok (.ireturn, 1) := by decide +kernel
set_option maxRecDepth 20000 in
theorem ggX8_init_X5_init : GoodIn wsX8_init wsX5_init := goodIn_r _ [31, 32, 2, 3, 33, 34, 35, 36, 37, 26, 27, 38, 39, 40, 41, 42, 43, 44, 45, 46, 47, 48, 49, 50, 51, 52, 53, 54, 55, 56, 57, 58, 59, 147, 115, 116, 117, 118, 119, 146, 148, 149, 150, 151] (by decide +kernel) (by decide +kernel)
set_option maxRecDepth 20000 in
theorem gX8_init_X5_init_n9 : GoodIn wsX8_init (wsX5_init) := ggX8_init_X5_init
set_option maxRecDepth 20000 in
theorem ggX8_init_X5_plant : GoodIn wsX8_init wsX5_plant := goodIn_r _ [63, 36, 38, 42, 64, 65, 66, 35, 67, 48, 68, 69, 70, 71, 72, 73, 74, 75, 76, 77, 78, 79, 80, 81, 82, 83, 27, 84, 53, 85, 86, 87, 41, 88, 89, 57, 58, 59, 90, 91, 92, 93, 115, 116, 117, 118, 119, 147, 146, 148, 149, 150, 151] (by decide +kernel) (by decide +kernel)
set_option maxRecDepth 20000 in
theorem gX8_init_X5_plant : GoodIn wsX8_init (wsV RX8 16 RX5 yX5_plant wsX5_plant) := goodIn_app (goodIn_of _ (by decide +kernel)) ggX8_init_X5_plant
set_option maxRecDepth 20000 in
theorem ggX8_init_X2_init : GoodIn wsX8_init wsX2_init := goodIn_r _ [96, 97, 2, 3, 98, 99, 5, 6, 30, 31, 32, 33, 34, 35, 36, 37, 26, 27, 38, 39, 40, 41, 42, 43, 44, 45, 46, 47, 48, 49, 50, 51, 52, 53, 54, 55, 56, 57, 58, 59, 128, 129, 115, 116, 117, 118, 119, 147, 146, 148, 149, 150, 151] (by decide +kernel) (by decide +kernel)
set_option maxRecDepth 20000 in
theorem gX8_init_X2_init : GoodIn wsX8_init (wsX2_init) := ggX8_init_X2_init
set_option maxRecDepth 20000 in
theorem ggX8_init_X4_init : GoodIn wsX8_init wsX4_init := goodIn_r _ [101, 102, 2, 3, 103, 104, 130, 131, 132, 133, 134, 135, 136] (by decide +kernel) (by decide +kernel)
set_option maxRecDepth 20000 in
theorem gX8_init_X4_init_n31 : GoodIn wsX8_init (wsX4_init) := ggX8_init_X4_init
set_option maxRecDepth 20000 in
theorem ggX8_init_X6_init : GoodIn wsX8_init wsX6_init := goodIn_r _ [106, 107, 2, 3] (by decide +kernel) (by decide +kernel)
set_option maxRecDepth 20000 in
theorem gX8_init_X6_init_n38 : GoodIn wsX8_init (wsX6_init) := ggX8_init_X6_init
set_option maxRecDepth 20000 in
theorem ggX8_init_X7_init : GoodIn wsX8_init wsX7_init := goodIn_r _ [109, 110, 2, 3, 47, 111, 112, 113, 114, 141, 142, 143, 144, 145] (by decide +kernel) (by decide +kernel)
set_option maxRecDepth 20000 in
theorem gX8_init_X7_init_n45 : GoodIn wsX8_init (wsX7_init) := ggX8_init_X7_init
set_option maxRecDepth 20000 in
theorem ggX8_init_X0_init : GoodIn wsX8_init wsX0_init := goodIn_r _ [50, 51, 2, 3, 52, 53, 146] (by decide +kernel) (by decide +kernel)
set_option maxRecDepth 20000 in
theorem gX8_init_X0_init_n52 : GoodIn wsX8_init (wsX0_init) := ggX8_init_X0_init
theorem dX8_init_0 : decode cX8_init 0 = .ok (.aload_n 0, 1) := by decide +kernel
theorem dX8_init_1 : decode cX8_init 1 = .ok (.invokespecial 1, 3) := by decide +kernel
theorem dX8_init_4 : decode cX8_init 4 = .ok (.aload_n 0, 1) := by decide +kernel
theorem dX8_init_5 : decode cX8_init 5 = .ok (.new 7, 3) := by decide +kernel
theorem dX8_init_8 : decode cX8_init 8 = .ok (.dup, 1) := by decide +kernel
theorem dX8_init_9 : decode cX8_init 9 = .ok (.invokespecial 9, 3) := by decide +kernel
theorem dX8_init_12 : decode cX8_init 12 = .ok (.putfield 10, 3) := by decide +kernel
theorem dX8_init_15 : decode cX8_init 15 = .ok (.aload_n 0, 1) := by decide +kernel
theorem dX8_init_16 : decode cX8_init 16 = .ok (.getfield 10, 3) := by decide +kernel
theorem dX8_init_19 : decode cX8_init 19 = .ok (.invokevirtual 16, 3) := by decide +kernel
theorem dX8_init_22 : decode cX8_init 22 = .ok (.aload_n 0, 1) := by decide +kernel
theorem dX8_init_23 : decode cX8_init 23 = .ok (.new 7, 3) := by decide +kernel
theorem dX8_init_26 : decode cX8_init 26 = .ok (.dup, 1) := by decide +kernel
theorem dX8_init_27 : decode cX8_init 27 = .ok (.invokespecial 9, 3) := by decide +kernel
theorem dX8_init_30 : decode cX8_init 30 = .ok (.putfield 19, 3) := by decide +kernel
theorem dX8_init_33 : decode cX8_init 33 = .ok (.aload_n 0, 1) := by decide +kernel
theorem dX8_init_34 : decode cX8_init 34 = .ok (.new 22, 3) := by decide +kernel
theorem dX8_init_37 : decode cX8_init 37 = .ok (.dup, 1) := by decide +kernel
theorem dX8_init_38 : decode cX8_init 38 = .ok (.invokespecial 24, 3) := by decide +kernel
theorem dX8_init_41 : decode cX8_init 41 = .ok (.putfield 25, 3) := by decide +kernel
theorem dX8_init_44 : decode cX8_init 44 = .ok (.aload_n 0, 1) := by decide +kernel
theorem dX8_init_45 : decode cX8_init 45 = .ok (.new 29, 3) := by decide +kernel
theorem dX8_init_48 : decode cX8_init 48 = .ok (.dup, 1) := by decide +kernel
theorem dX8_init_49 : decode cX8_init 49 = .ok (.invokespecial 31, 3) := by decide +kernel
theorem dX8_init_52 : decode cX8_init 52 = .ok (.putfield 32, 3) := by decide +kernel
theorem dX8_init_55 : decode cX8_init 55 = .ok (.aload_n 0, 1) := by decide +kernel
theorem dX8_init_56 : decode cX8_init 56 = .ok (.new 36, 3) := by decide +kernel
theorem dX8_init_59 : decode cX8_init 59 = .ok (.dup, 1) := by decide +kernel
theorem dX8_init_60 : decode cX8_init 60 = .ok (.invokespecial 38, 3) := by decide +kernel
theorem dX8_init_63 : decode cX8_init 63 = .ok (.putfield 39, 3) := by decide +kernel
theorem dX8_init_66 : decode cX8_init 66 = .ok (.aload_n 0, 1) := by decide +kernel
theorem dX8_init_67 : decode cX8_init 67 = .ok (.new 43, 3) := by decide +kernel
theorem dX8_init_70 : decode cX8_init 70 = .ok (.dup, 1) := by decide +kernel
theorem dX8_init_71 : decode cX8_init 71 = .ok (.invokespecial 45, 3) := by decide +kernel
theorem dX8_init_74 : decode cX8_init 74 = .ok (.putfield 46, 3) := by decide +kernel
theorem dX8_init_77 : decode cX8_init 77 = .ok (.aload_n 0, 1) := by decide +kernel
theorem dX8_init_78 : decode cX8_init 78 = .ok (.new 50, 3) := by decide +kernel
theorem dX8_init_81 : decode cX8_init 81 = .ok (.dup, 1) := by decide +kernel
theorem dX8_init_82 : decode cX8_init 82 = .ok (.invokespecial 52, 3) := by decide +kernel
theorem dX8_init_85 : decode cX8_init 85 = .ok (.putfield 53, 3) := by decide +kernel
theorem dX8_init_88 : decode cX8_init 88 = .ok (.aload_n 0, 1) := by decide +kernel
theorem dX8_init_89 : decode cX8_init 89 = .ok (.new 50, 3) := by decide +kernel
theorem dX8_init_92 : decode cX8_init 92 = .ok (.dup, 1) := by decide +kernel
theorem dX8_init_93 : decode cX8_init 93 = .ok (.invokespecial 52, 3) := by decide +kernel
theorem dX8_init_96 : decode cX8_init 96 = .ok (.putfield 57, 3) := by decide +kernel
theorem dX8_init_99 : decode cX8_init 99 = .ok (.return_, 1) := by decide +kernel
set_option maxRecDepth 20000 in
theorem ggX8_write_X8_below : GoodIn wsX8_write wsX8_below := goodIn_r _ [8] (by decide +kernel) (by decide +kernel)
set_option maxRecDepth 20000 in
theorem gX8_write_X8_below : GoodIn wsX8_write (va_wsS RX8 60 yX8_below wsX8_below) := goodIn_app (goodIn_of _ (by decide +kernel)) ggX8_write_X8_below
set_option maxRecDepth 20000 in
theorem ggX8_write_X5_prepareWrite : GoodIn wsX8_write wsX5_prepareWrite := goodIn_r _ [13, 14, 15, 16, 17, 18, 19, 20, 21, 22, 23, 24, 25, 26, 27, 28, 29, 30, 31, 32, 12, 33, 34, 35, 36, 37, 38, 39, 40, 41, 42, 43, 44, 45, 6, 7, 8, 46, 47, 48, 49, 50, 51, 52, 53, 54, 55, 56, 57, 58, 59, 60, 61, 62, 63, 64, 65, 66, 67, 68, 69, 70, 71, 72, 73, 74, 75, 76, 77, 78, 79, 80, 81, 82, 83, 84, 85, 86, 87, 88, 89, 90, 91, 92, 93, 94, 95, 96, 97, 98, 99, 100, 184, 185, 186, 187, 188, 189, 190, 191, 192, 193, 194, 195, 196, 197, 198, 199] (by decide +kernel) (by decide +kernel)
set_option maxRecDepth 20000 in
theorem gX8_write_X5_prepareWrite : GoodIn wsX8_write (wsV RX8 65 RX5 yX5_prepareWrite wsX5_prepareWrite) := goodIn_app (goodIn_of _ (by decide +kernel)) ggX8_write_X5_prepareWrite
set_option maxRecDepth 20000 in
theorem ggX8_write_X2_keep : GoodIn wsX8_write wsX2_keep := goodIn_r _ [105, 106, 107, 108, 109, 110, 104, 111, 6, 7, 8, 112, 113, 114, 12, 115, 34, 15, 14, 116, 117, 118, 119, 120, 54, 121, 60, 122, 123, 124, 125, 126, 127, 128, 27, 129, 29, 130, 131, 132, 21, 133, 134, 45, 50, 23, 200, 201, 184, 185, 186, 187, 188, 199, 193, 189, 190, 191, 192] (by decide +kernel) (by decide +kernel)
set_option maxRecDepth 20000 in
theorem gX8_write_X2_keep : GoodIn wsX8_write (wsV RX8 69 RX2 yX2_keep wsX2_keep) := goodIn_app (goodIn_of _ (by decide +kernel)) ggX8_write_X2_keep
set_option maxRecDepth 20000 in
theorem ggX8_write_X5_carryOut : GoodIn wsX8_write wsX5_carryOut := goodIn_r _ [138, 34, 116, 117, 14, 85, 86, 87, 38, 88, 82, 6, 7, 8, 139, 140, 141, 12, 142, 15, 143, 144, 145, 27, 146, 29, 147, 148, 149, 150, 78, 79, 80, 81, 83, 84, 151, 152, 153, 154, 65, 66, 155, 156, 157, 158, 159, 160, 161, 54, 162, 163, 164, 165, 166, 167, 60, 61, 62, 63, 64, 168, 169, 170, 21, 171, 23, 134, 45, 50, 172, 173, 174, 175, 184, 185, 186, 187, 188, 194, 195, 196, 197, 198, 193, 199, 189, 190, 191, 192] (by decide +kernel) (by decide +kernel)
set_option maxRecDepth 20000 in
theorem gX8_write_X5_carryOut : GoodIn wsX8_write (wsV RX8 73 RX5 yX5_carryOut wsX5_carryOut) := goodIn_app (goodIn_of _ (by decide +kernel)) ggX8_write_X5_carryOut
theorem dX8_write_0 : decode cX8_write 0 = .ok (.iload_n 1, 1) := by decide +kernel
theorem dX8_write_1 : decode cX8_write 1 = .ok (.bipush 16, 2) := by decide +kernel
theorem dX8_write_3 : decode cX8_write 3 = .ok (.invokestatic 60, 3) := by decide +kernel
theorem dX8_write_6 : decode cX8_write 6 = .ok (.ifCond .eq 21, 3) := by decide +kernel
theorem dX8_write_9 : decode cX8_write 9 = .ok (.iload_n 2, 1) := by decide +kernel
theorem dX8_write_10 : decode cX8_write 10 = .ok (.iconst 4, 1) := by decide +kernel
theorem dX8_write_11 : decode cX8_write 11 = .ok (.invokestatic 60, 3) := by decide +kernel
theorem dX8_write_14 : decode cX8_write 14 = .ok (.ifCond .eq 13, 3) := by decide +kernel
theorem dX8_write_17 : decode cX8_write 17 = .ok (.iload_n 3, 1) := by decide +kernel
theorem dX8_write_18 : decode cX8_write 18 = .ok (.sipush 1000, 3) := by decide +kernel
theorem dX8_write_21 : decode cX8_write 21 = .ok (.invokestatic 60, 3) := by decide +kernel
theorem dX8_write_24 : decode cX8_write 24 = .ok (.ifCond .ne 6, 3) := by decide +kernel
theorem dX8_write_27 : decode cX8_write 27 = .ok (.ldc 64, 2) := by decide +kernel
theorem dX8_write_29 : decode cX8_write 29 = .ok (.ireturn, 1) := by decide +kernel
theorem dX8_write_30 : decode cX8_write 30 = .ok (.aload_n 0, 1) := by decide +kernel
theorem dX8_write_31 : decode cX8_write 31 = .ok (.getfield 10, 3) := by decide +kernel
theorem dX8_write_34 : decode cX8_write 34 = .ok (.aload_n 0, 1) := by decide +kernel
theorem dX8_write_35 : decode cX8_write 35 = .ok (.getfield 46, 3) := by decide +kernel
theorem dX8_write_38 : decode cX8_write 38 = .ok (.iload_n 1, 1) := by decide +kernel
theorem dX8_write_39 : decode cX8_write 39 = .ok (.invokevirtual 65, 3) := by decide +kernel
theorem dX8_write_42 : decode cX8_write 42 = .ok (.istore 4, 2) := by decide +kernel
theorem dX8_write_44 : decode cX8_write 44 = .ok (.iload 4, 2) := by decide +kernel
theorem dX8_write_46 : decode cX8_write 46 = .ok (.ifCond .eq 6, 3) := by decide +kernel
theorem dX8_write_49 : decode cX8_write 49 = .ok (.iload 4, 2) := by decide +kernel
theorem dX8_write_51 : decode cX8_write 51 = .ok (.ireturn, 1) := by decide +kernel
theorem dX8_write_52 : decode cX8_write 52 = .ok (.aload_n 0, 1) := by decide +kernel
theorem dX8_write_53 : decode cX8_write 53 = .ok (.getfield 25, 3) := by decide +kernel
theorem dX8_write_56 : decode cX8_write 56 = .ok (.aload_n 0, 1) := by decide +kernel
theorem dX8_write_57 : decode cX8_write 57 = .ok (.getfield 10, 3) := by decide +kernel
theorem dX8_write_60 : decode cX8_write 60 = .ok (.invokevirtual 69, 3) := by decide +kernel
theorem dX8_write_63 : decode cX8_write 63 = .ok (.aload_n 0, 1) := by decide +kernel
theorem dX8_write_64 : decode cX8_write 64 = .ok (.getfield 10, 3) := by decide +kernel
theorem dX8_write_67 : decode cX8_write 67 = .ok (.aload_n 0, 1) := by decide +kernel
theorem dX8_write_68 : decode cX8_write 68 = .ok (.getfield 46, 3) := by decide +kernel
theorem dX8_write_71 : decode cX8_write 71 = .ok (.iload_n 1, 1) := by decide +kernel
theorem dX8_write_72 : decode cX8_write 72 = .ok (.iload_n 2, 1) := by decide +kernel
theorem dX8_write_73 : decode cX8_write 73 = .ok (.iload_n 3, 1) := by decide +kernel
theorem dX8_write_74 : decode cX8_write 74 = .ok (.invokevirtual 73, 3) := by decide +kernel
theorem dX8_write_77 : decode cX8_write 77 = .ok (.ireturn, 1) := by decide +kernel
set_option maxRecDepth 20000 in
theorem ggX8_mishap_X8_below : GoodIn wsX8_mishap wsX8_below := goodIn_r _ [7] (by decide +kernel) (by decide +kernel)
set_option maxRecDepth 20000 in
theorem gX8_mishap_X8_below : GoodIn wsX8_mishap (va_wsS RX8 60 yX8_below wsX8_below) := goodIn_app (goodIn_of _ (by decide +kernel)) ggX8_mishap_X8_below
set_option maxRecDepth 20000 in
theorem ggX8_mishap_X2_keep : GoodIn wsX8_mishap wsX2_keep := goodIn_r _ [12, 13, 14, 15, 16, 17, 11, 18, 5, 6, 7, 19, 20, 21, 22, 23, 24, 25, 26, 27, 28, 29, 30, 31, 32, 33, 34, 35, 36, 37, 38, 39, 40, 41, 42, 43, 44, 45, 46, 47, 48, 49, 50, 51, 52, 53, 67, 68, 62, 63, 64, 65, 66, 69, 70, 71, 72, 73, 74] (by decide +kernel) (by decide +kernel)
set_option maxRecDepth 20000 in
theorem gX8_mishap_X2_keep : GoodIn wsX8_mishap (wsV RX8 69 RX2 yX2_keep wsX2_keep) := goodIn_app (goodIn_of _ (by decide +kernel)) ggX8_mishap_X2_keep
theorem dX8_mishap_0 : decode cX8_mishap 0 = .ok (.iload_n 1, 1) := by decide +kernel
theorem dX8_mishap_1 : decode cX8_mishap 1 = .ok (.iconst 4, 1) := by decide +kernel
theorem dX8_mishap_2 : decode cX8_mishap 2 = .ok (.invokestatic 60, 3) := by decide +kernel
theorem dX8_mishap_5 : decode cX8_mishap 5 = .ok (.ifCond .ne 6, 3) := by decide +kernel
theorem dX8_mishap_8 : decode cX8_mishap 8 = .ok (.ldc 64, 2) := by decide +kernel
theorem dX8_mishap_10 : decode cX8_mishap 10 = .ok (.ireturn, 1) := by decide +kernel
theorem dX8_mishap_11 : decode cX8_mishap 11 = .ok (.aload_n 0, 1) := by decide +kernel
theorem dX8_mishap_12 : decode cX8_mishap 12 = .ok (.getfield 25, 3) := by decide +kernel
theorem dX8_mishap_15 : decode cX8_mishap 15 = .ok (.aload_n 0, 1) := by decide +kernel
theorem dX8_mishap_16 : decode cX8_mishap 16 = .ok (.getfield 10, 3) := by decide +kernel
theorem dX8_mishap_19 : decode cX8_mishap 19 = .ok (.invokevirtual 69, 3) := by decide +kernel
theorem dX8_mishap_22 : decode cX8_mishap 22 = .ok (.aload_n 0, 1) := by decide +kernel
theorem dX8_mishap_23 : decode cX8_mishap 23 = .ok (.getfield 10, 3) := by decide +kernel
theorem dX8_mishap_26 : decode cX8_mishap 26 = .ok (.getfield 77, 3) := by decide +kernel
theorem dX8_mishap_29 : decode cX8_mishap 29 = .ok (.istore_n 2, 1) := by decide +kernel
theorem dX8_mishap_30 : decode cX8_mishap 30 = .ok (.aload_n 0, 1) := by decide +kernel
theorem dX8_mishap_31 : decode cX8_mishap 31 = .ok (.getfield 10, 3) := by decide +kernel
theorem dX8_mishap_34 : decode cX8_mishap 34 = .ok (.iload_n 1, 1) := by decide +kernel
theorem dX8_mishap_35 : decode cX8_mishap 35 = .ok (.putfield 77, 3) := by decide +kernel
theorem dX8_mishap_38 : decode cX8_mishap 38 = .ok (.iload_n 2, 1) := by decide +kernel
theorem dX8_mishap_39 : decode cX8_mishap 39 = .ok (.ireturn, 1) := by decide +kernel
set_option maxRecDepth 20000 in
theorem ggX8_rot_X8_below : GoodIn wsX8_rot wsX8_below := goodIn_r _ [8] (by decide +kernel) (by decide +kernel)
set_option maxRecDepth 20000 in
theorem gX8_rot_X8_below : GoodIn wsX8_rot (va_wsS RX8 60 yX8_below wsX8_below) := goodIn_app (goodIn_of _ (by decide +kernel)) ggX8_rot_X8_below
set_option maxRecDepth 20000 in
theorem ggX8_rot_X2_keep : GoodIn wsX8_rot wsX2_keep := goodIn_r _ [13, 14, 15, 16, 17, 18, 12, 19, 6, 7, 8, 20, 21, 22, 23, 24, 25, 26, 27, 28, 29, 30, 31, 32, 33, 34, 35, 36, 37, 38, 39, 40, 41, 42, 43, 44, 45, 46, 47, 48, 49, 50, 51, 52, 53, 54, 80, 81, 75, 76, 77, 78, 79, 82, 83, 84, 85, 86, 87] (by decide +kernel) (by decide +kernel)
set_option maxRecDepth 20000 in
theorem gX8_rot_X2_keep : GoodIn wsX8_rot (wsV RX8 69 RX2 yX2_keep wsX2_keep) := goodIn_app (goodIn_of _ (by decide +kernel)) ggX8_rot_X2_keep
set_option maxRecDepth 20000 in
theorem ggX8_rot_X1_numberAt : GoodIn wsX8_rot wsX1_numberAt := goodIn_r _ [58, 35, 59, 60, 61, 33, 62, 6, 7, 8, 82] (by decide +kernel) (by decide +kernel)
set_option maxRecDepth 20000 in
theorem gX8_rot_X1_numberAt : GoodIn wsX8_rot (wsV RX8 86 RX1 yX1_numberAt wsX1_numberAt) := goodIn_app (goodIn_of _ (by decide +kernel)) ggX8_rot_X1_numberAt
set_option maxRecDepth 20000 in
theorem ggX8_rot_X1_put : GoodIn wsX8_rot wsX1_put := goodIn_r _ [66, 35, 59, 60, 61, 33, 62, 6, 7, 8, 82] (by decide +kernel) (by decide +kernel)
set_option maxRecDepth 20000 in
theorem gX8_rot_X1_put : GoodIn wsX8_rot (wsV RX8 92 RX1 yX1_put wsX1_put) := goodIn_app (goodIn_of _ (by decide +kernel)) ggX8_rot_X1_put
theorem dX8_rot_0 : decode cX8_rot 0 = .ok (.iload_n 1, 1) := by decide +kernel
theorem dX8_rot_1 : decode cX8_rot 1 = .ok (.bipush 96, 2) := by decide +kernel
theorem dX8_rot_3 : decode cX8_rot 3 = .ok (.invokestatic 60, 3) := by decide +kernel
theorem dX8_rot_6 : decode cX8_rot 6 = .ok (.ifCond .eq 29, 3) := by decide +kernel
theorem dX8_rot_9 : decode cX8_rot 9 = .ok (.iload_n 2, 1) := by decide +kernel
theorem dX8_rot_10 : decode cX8_rot 10 = .ok (.iconst 2, 1) := by decide +kernel
theorem dX8_rot_11 : decode cX8_rot 11 = .ok (.invokestatic 60, 3) := by decide +kernel
theorem dX8_rot_14 : decode cX8_rot 14 = .ok (.ifCond .eq 21, 3) := by decide +kernel
theorem dX8_rot_17 : decode cX8_rot 17 = .ok (.iload_n 3, 1) := by decide +kernel
theorem dX8_rot_18 : decode cX8_rot 18 = .ok (.iconst 4, 1) := by decide +kernel
theorem dX8_rot_19 : decode cX8_rot 19 = .ok (.invokestatic 60, 3) := by decide +kernel
theorem dX8_rot_22 : decode cX8_rot 22 = .ok (.ifCond .eq 13, 3) := by decide +kernel
theorem dX8_rot_25 : decode cX8_rot 25 = .ok (.iload 4, 2) := by decide +kernel
theorem dX8_rot_27 : decode cX8_rot 27 = .ok (.ldc 81, 2) := by decide +kernel
theorem dX8_rot_29 : decode cX8_rot 29 = .ok (.invokestatic 60, 3) := by decide +kernel
theorem dX8_rot_32 : decode cX8_rot 32 = .ok (.ifCond .ne 6, 3) := by decide +kernel
theorem dX8_rot_35 : decode cX8_rot 35 = .ok (.ldc 64, 2) := by decide +kernel
theorem dX8_rot_37 : decode cX8_rot 37 = .ok (.ireturn, 1) := by decide +kernel
theorem dX8_rot_38 : decode cX8_rot 38 = .ok (.aload_n 0, 1) := by decide +kernel
theorem dX8_rot_39 : decode cX8_rot 39 = .ok (.getfield 25, 3) := by decide +kernel
theorem dX8_rot_42 : decode cX8_rot 42 = .ok (.aload_n 0, 1) := by decide +kernel
theorem dX8_rot_43 : decode cX8_rot 43 = .ok (.getfield 10, 3) := by decide +kernel
theorem dX8_rot_46 : decode cX8_rot 46 = .ok (.invokevirtual 69, 3) := by decide +kernel
theorem dX8_rot_49 : decode cX8_rot 49 = .ok (.aload_n 0, 1) := by decide +kernel
theorem dX8_rot_50 : decode cX8_rot 50 = .ok (.getfield 10, 3) := by decide +kernel
theorem dX8_rot_53 : decode cX8_rot 53 = .ok (.getfield 82, 3) := by decide +kernel
theorem dX8_rot_56 : decode cX8_rot 56 = .ok (.iload_n 2, 1) := by decide +kernel
theorem dX8_rot_57 : decode cX8_rot 57 = .ok (.iload_n 1, 1) := by decide +kernel
theorem dX8_rot_58 : decode cX8_rot 58 = .ok (.iload_n 3, 1) := by decide +kernel
theorem dX8_rot_59 : decode cX8_rot 59 = .ok (.invokevirtual 86, 3) := by decide +kernel
theorem dX8_rot_62 : decode cX8_rot 62 = .ok (.istore 5, 2) := by decide +kernel
theorem dX8_rot_64 : decode cX8_rot 64 = .ok (.aload_n 0, 1) := by decide +kernel
theorem dX8_rot_65 : decode cX8_rot 65 = .ok (.getfield 10, 3) := by decide +kernel
theorem dX8_rot_68 : decode cX8_rot 68 = .ok (.getfield 82, 3) := by decide +kernel
theorem dX8_rot_71 : decode cX8_rot 71 = .ok (.iload_n 2, 1) := by decide +kernel
theorem dX8_rot_72 : decode cX8_rot 72 = .ok (.iload_n 1, 1) := by decide +kernel
theorem dX8_rot_73 : decode cX8_rot 73 = .ok (.iload_n 3, 1) := by decide +kernel
theorem dX8_rot_74 : decode cX8_rot 74 = .ok (.iload 4, 2) := by decide +kernel
theorem dX8_rot_76 : decode cX8_rot 76 = .ok (.invokevirtual 92, 3) := by decide +kernel
theorem dX8_rot_79 : decode cX8_rot 79 = .ok (.iload 5, 2) := by decide +kernel
theorem dX8_rot_81 : decode cX8_rot 81 = .ok (.ireturn, 1) := by decide +kernel
set_option maxRecDepth 20000 in
theorem ggX8_read_X8_isRoot : GoodIn wsX8_read wsX8_isRoot := goodIn_r _ [9, 2, 10, 11, 12, 13, 14, 15, 16, 17, 8, 18, 93, 94, 95, 96, 97, 98, 99, 100, 101, 102, 103, 104, 105, 106, 107, 108, 109] (by decide +kernel) (by decide +kernel)
set_option maxRecDepth 20000 in
theorem gX8_read_X8_isRoot : GoodIn wsX8_read (wsV RX8 96 RX8 yX8_isRoot wsX8_isRoot) := goodIn_app (goodIn_of _ (by decide +kernel)) ggX8_read_X8_isRoot
set_option maxRecDepth 20000 in
theorem ggX8_read_X8_below : GoodIn wsX8_read wsX8_below := goodIn_r _ [18] (by decide +kernel) (by decide +kernel)
set_option maxRecDepth 20000 in
theorem gX8_read_X8_below : GoodIn wsX8_read (va_wsS RX8 60 yX8_below wsX8_below) := goodIn_app (goodIn_of _ (by decide +kernel)) ggX8_read_X8_below
set_option maxRecDepth 20000 in
theorem ggX8_read_X5_findWay : GoodIn wsX8_read wsX5_findWay := goodIn_r _ [23, 24, 25, 26, 27, 28, 29, 30, 31, 32, 33, 34, 13, 35, 36, 17, 8, 18, 37, 38, 39, 40, 41, 42, 43, 44, 45, 46, 47, 48, 49, 50, 51, 52, 53, 54, 55, 56, 57, 58, 59, 60, 61, 62, 63, 64, 65, 66, 67, 68, 69, 70, 71, 72, 73, 74, 75, 76, 77, 78, 79, 101, 102, 103, 104, 105, 110, 111, 112, 113, 114, 106, 107, 108, 109, 115] (by decide +kernel) (by decide +kernel)
set_option maxRecDepth 20000 in
theorem gX8_read_X5_findWay : GoodIn wsX8_read (wsV RX8 100 RX5 yX5_findWay wsX5_findWay) := goodIn_app (goodIn_of _ (by decide +kernel)) ggX8_read_X5_findWay
set_option maxRecDepth 20000 in
theorem ggX8_read_X7_isSpoiled : GoodIn wsX8_read wsX7_isSpoiled := goodIn_r _ [83, 84, 85, 86, 29, 87, 64, 88, 89, 90, 91, 31, 17, 8, 18, 110, 111, 112, 113, 114] (by decide +kernel) (by decide +kernel)
set_option maxRecDepth 20000 in
theorem gX8_read_X7_isSpoiled : GoodIn wsX8_read (wsV RX8 104 RX7 yX7_isSpoiled wsX7_isSpoiled) := goodIn_app (goodIn_of _ (by decide +kernel)) ggX8_read_X7_isSpoiled
set_option maxRecDepth 20000 in
theorem ggX8_read_X7_numberAt : GoodIn wsX8_read wsX7_numberAt := goodIn_r _ [79, 73, 17, 8, 18, 110, 111, 112, 113, 114] (by decide +kernel) (by decide +kernel)
set_option maxRecDepth 20000 in
theorem gX8_read_X7_numberAt : GoodIn wsX8_read (wsV RX8 109 RX7 yX7_numberAt wsX7_numberAt) := goodIn_app (goodIn_of _ (by decide +kernel)) ggX8_read_X7_numberAt
theorem dX8_read_0 : decode cX8_read 0 = .ok (.aload_n 0, 1) := by decide +kernel
theorem dX8_read_1 : decode cX8_read 1 = .ok (.iload_n 1, 1) := by decide +kernel
theorem dX8_read_2 : decode cX8_read 2 = .ok (.invokevirtual 96, 3) := by decide +kernel
theorem dX8_read_5 : decode cX8_read 5 = .ok (.ifCond .eq 20, 3) := by decide +kernel
theorem dX8_read_8 : decode cX8_read 8 = .ok (.iload_n 2, 1) := by decide +kernel
theorem dX8_read_9 : decode cX8_read 9 = .ok (.bipush 16, 2) := by decide +kernel
theorem dX8_read_11 : decode cX8_read 11 = .ok (.invokestatic 60, 3) := by decide +kernel
theorem dX8_read_14 : decode cX8_read 14 = .ok (.ifCond .eq 11, 3) := by decide +kernel
theorem dX8_read_17 : decode cX8_read 17 = .ok (.iload_n 3, 1) := by decide +kernel
theorem dX8_read_18 : decode cX8_read 18 = .ok (.iconst 4, 1) := by decide +kernel
theorem dX8_read_19 : decode cX8_read 19 = .ok (.invokestatic 60, 3) := by decide +kernel
theorem dX8_read_22 : decode cX8_read 22 = .ok (.ifCond .ne 6, 3) := by decide +kernel
theorem dX8_read_25 : decode cX8_read 25 = .ok (.ldc 64, 2) := by decide +kernel
theorem dX8_read_27 : decode cX8_read 27 = .ok (.ireturn, 1) := by decide +kernel
theorem dX8_read_28 : decode cX8_read 28 = .ok (.aload_n 0, 1) := by decide +kernel
theorem dX8_read_29 : decode cX8_read 29 = .ok (.getfield 10, 3) := by decide +kernel
theorem dX8_read_32 : decode cX8_read 32 = .ok (.aload_n 0, 1) := by decide +kernel
theorem dX8_read_33 : decode cX8_read 33 = .ok (.getfield 46, 3) := by decide +kernel
theorem dX8_read_36 : decode cX8_read 36 = .ok (.iload_n 1, 1) := by decide +kernel
theorem dX8_read_37 : decode cX8_read 37 = .ok (.iload_n 2, 1) := by decide +kernel
theorem dX8_read_38 : decode cX8_read 38 = .ok (.invokevirtual 100, 3) := by decide +kernel
theorem dX8_read_41 : decode cX8_read 41 = .ok (.aload_n 0, 1) := by decide +kernel
theorem dX8_read_42 : decode cX8_read 42 = .ok (.getfield 46, 3) := by decide +kernel
theorem dX8_read_45 : decode cX8_read 45 = .ok (.invokevirtual 104, 3) := by decide +kernel
theorem dX8_read_48 : decode cX8_read 48 = .ok (.ifCond .eq 8, 3) := by decide +kernel
theorem dX8_read_51 : decode cX8_read 51 = .ok (.ldc 108, 2) := by decide +kernel
theorem dX8_read_53 : decode cX8_read 53 = .ok (.goto 12, 3) := by decide +kernel
theorem dX8_read_56 : decode cX8_read 56 = .ok (.aload_n 0, 1) := by decide +kernel
theorem dX8_read_57 : decode cX8_read 57 = .ok (.getfield 46, 3) := by decide +kernel
theorem dX8_read_60 : decode cX8_read 60 = .ok (.iconst 2, 1) := by decide +kernel
theorem dX8_read_61 : decode cX8_read 61 = .ok (.iload_n 3, 1) := by decide +kernel
theorem dX8_read_62 : decode cX8_read 62 = .ok (.invokevirtual 109, 3) := by decide +kernel
theorem dX8_read_65 : decode cX8_read 65 = .ok (.ireturn, 1) := by decide +kernel
set_option maxRecDepth 20000 in
theorem ggX8_from_X8_isRoot : GoodIn wsX8_from wsX8_isRoot := goodIn_r _ [9, 2, 10, 11, 12, 13, 14, 15, 16, 17, 8, 18, 89, 90, 91, 92, 93, 94, 95, 96, 97, 98, 99, 100, 101, 102, 103, 104, 105] (by decide +kernel) (by decide +kernel)
set_option maxRecDepth 20000 in
theorem gX8_from_X8_isRoot : GoodIn wsX8_from (wsV RX8 96 RX8 yX8_isRoot wsX8_isRoot) := goodIn_app (goodIn_of _ (by decide +kernel)) ggX8_from_X8_isRoot
set_option maxRecDepth 20000 in
theorem ggX8_from_X8_below : GoodIn wsX8_from wsX8_below := goodIn_r _ [18] (by decide +kernel) (by decide +kernel)
set_option maxRecDepth 20000 in
theorem gX8_from_X8_below : GoodIn wsX8_from (va_wsS RX8 60 yX8_below wsX8_below) := goodIn_app (goodIn_of _ (by decide +kernel)) ggX8_from_X8_below
set_option maxRecDepth 20000 in
theorem ggX8_from_X5_findWay : GoodIn wsX8_from wsX5_findWay := goodIn_r _ [23, 24, 25, 26, 27, 28, 29, 30, 31, 32, 33, 34, 13, 35, 36, 17, 8, 18, 37, 38, 39, 40, 41, 42, 43, 44, 45, 46, 47, 48, 49, 50, 51, 52, 53, 54, 55, 56, 57, 58, 59, 60, 61, 62, 63, 64, 65, 66, 67, 68, 69, 70, 71, 72, 73, 74, 75, 76, 77, 78, 79, 97, 98, 99, 100, 101, 106, 107, 108, 109, 110, 102, 103, 104, 105, 111] (by decide +kernel) (by decide +kernel)
set_option maxRecDepth 20000 in
theorem gX8_from_X5_findWay : GoodIn wsX8_from (wsV RX8 100 RX5 yX5_findWay wsX5_findWay) := goodIn_app (goodIn_of _ (by decide +kernel)) ggX8_from_X5_findWay
set_option maxRecDepth 20000 in
theorem ggX8_from_X7_tells : GoodIn wsX8_from wsX7_tells := goodIn_r _ [83, 31, 17, 8, 18, 106, 107, 108, 109, 110] (by decide +kernel) (by decide +kernel)
set_option maxRecDepth 20000 in
theorem gX8_from_X7_tells : GoodIn wsX8_from (wsV RX8 112 RX7 yX7_tells wsX7_tells) := goodIn_app (goodIn_of _ (by decide +kernel)) ggX8_from_X7_tells
set_option maxRecDepth 20000 in
theorem ggX8_from_X7_copyAt : GoodIn wsX8_from wsX7_copyAt := goodIn_r _ [87, 64, 88, 81, 82, 29, 83, 31, 17, 8, 18, 106, 107, 108, 109, 110] (by decide +kernel) (by decide +kernel)
set_option maxRecDepth 20000 in
theorem gX8_from_X7_copyAt : GoodIn wsX8_from (wsV RX8 115 RX7 yX7_copyAt wsX7_copyAt) := goodIn_app (goodIn_of _ (by decide +kernel)) ggX8_from_X7_copyAt
theorem dX8_from_0 : decode cX8_from 0 = .ok (.aload_n 0, 1) := by decide +kernel
theorem dX8_from_1 : decode cX8_from 1 = .ok (.iload_n 1, 1) := by decide +kernel
theorem dX8_from_2 : decode cX8_from 2 = .ok (.invokevirtual 96, 3) := by decide +kernel
theorem dX8_from_5 : decode cX8_from 5 = .ok (.ifCond .eq 20, 3) := by decide +kernel
theorem dX8_from_8 : decode cX8_from 8 = .ok (.iload_n 2, 1) := by decide +kernel
theorem dX8_from_9 : decode cX8_from 9 = .ok (.bipush 16, 2) := by decide +kernel
theorem dX8_from_11 : decode cX8_from 11 = .ok (.invokestatic 60, 3) := by decide +kernel
theorem dX8_from_14 : decode cX8_from 14 = .ok (.ifCond .eq 11, 3) := by decide +kernel
theorem dX8_from_17 : decode cX8_from 17 = .ok (.iload_n 3, 1) := by decide +kernel
theorem dX8_from_18 : decode cX8_from 18 = .ok (.iconst 3, 1) := by decide +kernel
theorem dX8_from_19 : decode cX8_from 19 = .ok (.invokestatic 60, 3) := by decide +kernel
theorem dX8_from_22 : decode cX8_from 22 = .ok (.ifCond .ne 6, 3) := by decide +kernel
theorem dX8_from_25 : decode cX8_from 25 = .ok (.ldc 64, 2) := by decide +kernel
theorem dX8_from_27 : decode cX8_from 27 = .ok (.ireturn, 1) := by decide +kernel
theorem dX8_from_28 : decode cX8_from 28 = .ok (.aload_n 0, 1) := by decide +kernel
theorem dX8_from_29 : decode cX8_from 29 = .ok (.getfield 10, 3) := by decide +kernel
theorem dX8_from_32 : decode cX8_from 32 = .ok (.aload_n 0, 1) := by decide +kernel
theorem dX8_from_33 : decode cX8_from 33 = .ok (.getfield 46, 3) := by decide +kernel
theorem dX8_from_36 : decode cX8_from 36 = .ok (.iload_n 1, 1) := by decide +kernel
theorem dX8_from_37 : decode cX8_from 37 = .ok (.iload_n 2, 1) := by decide +kernel
theorem dX8_from_38 : decode cX8_from 38 = .ok (.invokevirtual 100, 3) := by decide +kernel
theorem dX8_from_41 : decode cX8_from 41 = .ok (.aload_n 0, 1) := by decide +kernel
theorem dX8_from_42 : decode cX8_from 42 = .ok (.getfield 46, 3) := by decide +kernel
theorem dX8_from_45 : decode cX8_from 45 = .ok (.iload_n 3, 1) := by decide +kernel
theorem dX8_from_46 : decode cX8_from 46 = .ok (.invokevirtual 112, 3) := by decide +kernel
theorem dX8_from_49 : decode cX8_from 49 = .ok (.ifCond .eq 14, 3) := by decide +kernel
theorem dX8_from_52 : decode cX8_from 52 = .ok (.aload_n 0, 1) := by decide +kernel
theorem dX8_from_53 : decode cX8_from 53 = .ok (.getfield 46, 3) := by decide +kernel
theorem dX8_from_56 : decode cX8_from 56 = .ok (.iload_n 3, 1) := by decide +kernel
theorem dX8_from_57 : decode cX8_from 57 = .ok (.invokevirtual 115, 3) := by decide +kernel
theorem dX8_from_60 : decode cX8_from 60 = .ok (.goto 5, 3) := by decide +kernel
theorem dX8_from_63 : decode cX8_from 63 = .ok (.ldc 119, 2) := by decide +kernel
theorem dX8_from_65 : decode cX8_from 65 = .ok (.ireturn, 1) := by decide +kernel
set_option maxRecDepth 20000 in
theorem ggX8_way_X8_isRoot : GoodIn wsX8_way wsX8_isRoot := goodIn_r _ [9, 2, 10, 11, 12, 13, 14, 15, 16, 17, 8, 18, 93, 94, 95, 96, 97, 98, 99, 100, 101, 102, 103, 104, 105, 106, 107, 108, 109] (by decide +kernel) (by decide +kernel)
set_option maxRecDepth 20000 in
theorem gX8_way_X8_isRoot : GoodIn wsX8_way (wsV RX8 96 RX8 yX8_isRoot wsX8_isRoot) := goodIn_app (goodIn_of _ (by decide +kernel)) ggX8_way_X8_isRoot
set_option maxRecDepth 20000 in
theorem ggX8_way_X8_below : GoodIn wsX8_way wsX8_below := goodIn_r _ [18] (by decide +kernel) (by decide +kernel)
set_option maxRecDepth 20000 in
theorem gX8_way_X8_below : GoodIn wsX8_way (va_wsS RX8 60 yX8_below wsX8_below) := goodIn_app (goodIn_of _ (by decide +kernel)) ggX8_way_X8_below
set_option maxRecDepth 20000 in
theorem ggX8_way_X5_findWay : GoodIn wsX8_way wsX5_findWay := goodIn_r _ [23, 24, 25, 26, 27, 28, 29, 30, 31, 32, 33, 34, 13, 35, 36, 17, 8, 18, 37, 38, 39, 40, 41, 42, 43, 44, 45, 46, 47, 48, 49, 50, 51, 52, 53, 54, 55, 56, 57, 58, 59, 60, 61, 62, 63, 64, 65, 66, 67, 68, 69, 70, 71, 72, 73, 74, 75, 76, 77, 78, 79, 101, 102, 103, 104, 105, 110, 111, 112, 113, 114, 106, 107, 108, 109, 115] (by decide +kernel) (by decide +kernel)
set_option maxRecDepth 20000 in
theorem gX8_way_X5_findWay : GoodIn wsX8_way (wsV RX8 100 RX5 yX5_findWay wsX5_findWay) := goodIn_app (goodIn_of _ (by decide +kernel)) ggX8_way_X5_findWay
set_option maxRecDepth 20000 in
theorem ggX8_way_X7_tells : GoodIn wsX8_way wsX7_tells := goodIn_r _ [83, 31, 17, 8, 18, 110, 111, 112, 113, 114] (by decide +kernel) (by decide +kernel)
set_option maxRecDepth 20000 in
theorem gX8_way_X7_tells : GoodIn wsX8_way (wsV RX8 112 RX7 yX7_tells wsX7_tells) := goodIn_app (goodIn_of _ (by decide +kernel)) ggX8_way_X7_tells
set_option maxRecDepth 20000 in
theorem ggX8_way_X7_blockAt : GoodIn wsX8_way wsX7_blockAt := goodIn_r _ [87, 62, 88, 81, 82, 29, 83, 31, 17, 8, 18, 110, 111, 112, 113, 114] (by decide +kernel) (by decide +kernel)
set_option maxRecDepth 20000 in
theorem gX8_way_X7_blockAt : GoodIn wsX8_way (wsV RX8 120 RX7 yX7_blockAt wsX7_blockAt) := goodIn_app (goodIn_of _ (by decide +kernel)) ggX8_way_X7_blockAt
set_option maxRecDepth 20000 in
theorem ggX8_way_X7_sumAt : GoodIn wsX8_way wsX7_sumAt := goodIn_r _ [92, 63, 88, 81, 82, 29, 83, 31, 17, 8, 18, 110, 111, 112, 113, 114] (by decide +kernel) (by decide +kernel)
set_option maxRecDepth 20000 in
theorem gX8_way_X7_sumAt : GoodIn wsX8_way (wsV RX8 123 RX7 yX7_sumAt wsX7_sumAt) := goodIn_app (goodIn_of _ (by decide +kernel)) ggX8_way_X7_sumAt
theorem dX8_way_0 : decode cX8_way 0 = .ok (.aload_n 0, 1) := by decide +kernel
theorem dX8_way_1 : decode cX8_way 1 = .ok (.iload_n 1, 1) := by decide +kernel
theorem dX8_way_2 : decode cX8_way 2 = .ok (.invokevirtual 96, 3) := by decide +kernel
theorem dX8_way_5 : decode cX8_way 5 = .ok (.ifCond .eq 29, 3) := by decide +kernel
theorem dX8_way_8 : decode cX8_way 8 = .ok (.iload_n 2, 1) := by decide +kernel
theorem dX8_way_9 : decode cX8_way 9 = .ok (.bipush 16, 2) := by decide +kernel
theorem dX8_way_11 : decode cX8_way 11 = .ok (.invokestatic 60, 3) := by decide +kernel
theorem dX8_way_14 : decode cX8_way 14 = .ok (.ifCond .eq 20, 3) := by decide +kernel
theorem dX8_way_17 : decode cX8_way 17 = .ok (.iload_n 3, 1) := by decide +kernel
theorem dX8_way_18 : decode cX8_way 18 = .ok (.iconst 3, 1) := by decide +kernel
theorem dX8_way_19 : decode cX8_way 19 = .ok (.invokestatic 60, 3) := by decide +kernel
theorem dX8_way_22 : decode cX8_way 22 = .ok (.ifCond .eq 12, 3) := by decide +kernel
theorem dX8_way_25 : decode cX8_way 25 = .ok (.iload 4, 2) := by decide +kernel
theorem dX8_way_27 : decode cX8_way 27 = .ok (.iconst 2, 1) := by decide +kernel
theorem dX8_way_28 : decode cX8_way 28 = .ok (.invokestatic 60, 3) := by decide +kernel
theorem dX8_way_31 : decode cX8_way 31 = .ok (.ifCond .ne 6, 3) := by decide +kernel
theorem dX8_way_34 : decode cX8_way 34 = .ok (.ldc 64, 2) := by decide +kernel
theorem dX8_way_36 : decode cX8_way 36 = .ok (.ireturn, 1) := by decide +kernel
theorem dX8_way_37 : decode cX8_way 37 = .ok (.aload_n 0, 1) := by decide +kernel
theorem dX8_way_38 : decode cX8_way 38 = .ok (.getfield 10, 3) := by decide +kernel
theorem dX8_way_41 : decode cX8_way 41 = .ok (.aload_n 0, 1) := by decide +kernel
theorem dX8_way_42 : decode cX8_way 42 = .ok (.getfield 46, 3) := by decide +kernel
theorem dX8_way_45 : decode cX8_way 45 = .ok (.iload_n 1, 1) := by decide +kernel
theorem dX8_way_46 : decode cX8_way 46 = .ok (.iload_n 2, 1) := by decide +kernel
theorem dX8_way_47 : decode cX8_way 47 = .ok (.invokevirtual 100, 3) := by decide +kernel
theorem dX8_way_50 : decode cX8_way 50 = .ok (.aload_n 0, 1) := by decide +kernel
theorem dX8_way_51 : decode cX8_way 51 = .ok (.getfield 46, 3) := by decide +kernel
theorem dX8_way_54 : decode cX8_way 54 = .ok (.iload_n 3, 1) := by decide +kernel
theorem dX8_way_55 : decode cX8_way 55 = .ok (.invokevirtual 112, 3) := by decide +kernel
theorem dX8_way_58 : decode cX8_way 58 = .ok (.ifCond .ne 6, 3) := by decide +kernel
theorem dX8_way_61 : decode cX8_way 61 = .ok (.ldc 119, 2) := by decide +kernel
theorem dX8_way_63 : decode cX8_way 63 = .ok (.ireturn, 1) := by decide +kernel
theorem dX8_way_64 : decode cX8_way 64 = .ok (.iload 4, 2) := by decide +kernel
theorem dX8_way_66 : decode cX8_way 66 = .ok (.ifCond .ne 14, 3) := by decide +kernel
theorem dX8_way_69 : decode cX8_way 69 = .ok (.aload_n 0, 1) := by decide +kernel
theorem dX8_way_70 : decode cX8_way 70 = .ok (.getfield 46, 3) := by decide +kernel
theorem dX8_way_73 : decode cX8_way 73 = .ok (.iload_n 3, 1) := by decide +kernel
theorem dX8_way_74 : decode cX8_way 74 = .ok (.invokevirtual 120, 3) := by decide +kernel
theorem dX8_way_77 : decode cX8_way 77 = .ok (.goto 11, 3) := by decide +kernel
theorem dX8_way_80 : decode cX8_way 80 = .ok (.aload_n 0, 1) := by decide +kernel
theorem dX8_way_81 : decode cX8_way 81 = .ok (.getfield 46, 3) := by decide +kernel
theorem dX8_way_84 : decode cX8_way 84 = .ok (.iload_n 3, 1) := by decide +kernel
theorem dX8_way_85 : decode cX8_way 85 = .ok (.invokevirtual 123, 3) := by decide +kernel
theorem dX8_way_88 : decode cX8_way 88 = .ok (.ireturn, 1) := by decide +kernel
set_option maxRecDepth 20000 in
theorem ggX8_content_X8_below : GoodIn wsX8_content wsX8_below := goodIn_r _ [6] (by decide +kernel) (by decide +kernel)
set_option maxRecDepth 20000 in
theorem gX8_content_X8_below : GoodIn wsX8_content (va_wsS RX8 60 yX8_below wsX8_below) := goodIn_app (goodIn_of _ (by decide +kernel)) ggX8_content_X8_below
set_option maxRecDepth 20000 in
theorem ggX8_content_X1_sumOf : GoodIn wsX8_content wsX1_sumOf := goodIn_r _ [11, 12, 13, 14, 15, 10, 16, 17, 5, 18, 36] (by decide +kernel) (by decide +kernel)
set_option maxRecDepth 20000 in
theorem gX8_content_X1_sumOf : GoodIn wsX8_content (wsV RX8 126 RX1 yX1_sumOf wsX1_sumOf) := goodIn_app (goodIn_of _ (by decide +kernel)) ggX8_content_X1_sumOf
set_option maxRecDepth 20000 in
theorem ggX8_content_X1_numberAt : GoodIn wsX8_content wsX1_numberAt := goodIn_r _ [22, 12, 13, 14, 15, 10, 16, 4, 5, 6, 36] (by decide +kernel) (by decide +kernel)
set_option maxRecDepth 20000 in
theorem gX8_content_X1_numberAt : GoodIn wsX8_content (wsV RX8 86 RX1 yX1_numberAt wsX1_numberAt) := goodIn_app (goodIn_of _ (by decide +kernel)) ggX8_content_X1_numberAt
theorem dX8_content_0 : decode cX8_content 0 = .ok (.iload_n 1, 1) := by decide +kernel
theorem dX8_content_1 : decode cX8_content 1 = .ok (.bipush 96, 2) := by decide +kernel
theorem dX8_content_3 : decode cX8_content 3 = .ok (.invokestatic 60, 3) := by decide +kernel
theorem dX8_content_6 : decode cX8_content 6 = .ok (.ifCond .eq 19, 3) := by decide +kernel
theorem dX8_content_9 : decode cX8_content 9 = .ok (.iload_n 2, 1) := by decide +kernel
theorem dX8_content_10 : decode cX8_content 10 = .ok (.iconst 2, 1) := by decide +kernel
theorem dX8_content_11 : decode cX8_content 11 = .ok (.invokestatic 60, 3) := by decide +kernel
theorem dX8_content_14 : decode cX8_content 14 = .ok (.ifCond .eq 11, 3) := by decide +kernel
theorem dX8_content_17 : decode cX8_content 17 = .ok (.iload_n 3, 1) := by decide +kernel
theorem dX8_content_18 : decode cX8_content 18 = .ok (.iconst 5, 1) := by decide +kernel
theorem dX8_content_19 : decode cX8_content 19 = .ok (.invokestatic 60, 3) := by decide +kernel
theorem dX8_content_22 : decode cX8_content 22 = .ok (.ifCond .ne 6, 3) := by decide +kernel
theorem dX8_content_25 : decode cX8_content 25 = .ok (.ldc 64, 2) := by decide +kernel
theorem dX8_content_27 : decode cX8_content 27 = .ok (.ireturn, 1) := by decide +kernel
theorem dX8_content_28 : decode cX8_content 28 = .ok (.iload_n 3, 1) := by decide +kernel
theorem dX8_content_29 : decode cX8_content 29 = .ok (.iconst 4, 1) := by decide +kernel
theorem dX8_content_30 : decode cX8_content 30 = .ok (.if_icmp .ne 16, 3) := by decide +kernel
theorem dX8_content_33 : decode cX8_content 33 = .ok (.aload_n 0, 1) := by decide +kernel
theorem dX8_content_34 : decode cX8_content 34 = .ok (.getfield 10, 3) := by decide +kernel
theorem dX8_content_37 : decode cX8_content 37 = .ok (.getfield 82, 3) := by decide +kernel
theorem dX8_content_40 : decode cX8_content 40 = .ok (.iload_n 2, 1) := by decide +kernel
theorem dX8_content_41 : decode cX8_content 41 = .ok (.iload_n 1, 1) := by decide +kernel
theorem dX8_content_42 : decode cX8_content 42 = .ok (.invokevirtual 126, 3) := by decide +kernel
theorem dX8_content_45 : decode cX8_content 45 = .ok (.ireturn, 1) := by decide +kernel
theorem dX8_content_46 : decode cX8_content 46 = .ok (.aload_n 0, 1) := by decide +kernel
theorem dX8_content_47 : decode cX8_content 47 = .ok (.getfield 10, 3) := by decide +kernel
theorem dX8_content_50 : decode cX8_content 50 = .ok (.getfield 82, 3) := by decide +kernel
theorem dX8_content_53 : decode cX8_content 53 = .ok (.iload_n 2, 1) := by decide +kernel
theorem dX8_content_54 : decode cX8_content 54 = .ok (.iload_n 1, 1) := by decide +kernel
theorem dX8_content_55 : decode cX8_content 55 = .ok (.iload_n 3, 1) := by decide +kernel
theorem dX8_content_56 : decode cX8_content 56 = .ok (.invokevirtual 86, 3) := by decide +kernel
theorem dX8_content_59 : decode cX8_content 59 = .ok (.ireturn, 1) := by decide +kernel
set_option maxRecDepth 20000 in
theorem ggX8_mend_X8_isRoot : GoodIn wsX8_mend wsX8_isRoot := goodIn_r _ [9, 3, 10, 11, 12, 13, 14, 15, 16, 17, 8, 18, 147, 148, 149, 150, 151, 152, 153, 154, 155, 156, 157, 158, 159, 160, 161, 162, 163] (by decide +kernel) (by decide +kernel)
set_option maxRecDepth 20000 in
theorem gX8_mend_X8_isRoot : GoodIn wsX8_mend (wsV RX8 96 RX8 yX8_isRoot wsX8_isRoot) := goodIn_app (goodIn_of _ (by decide +kernel)) ggX8_mend_X8_isRoot
set_option maxRecDepth 20000 in
theorem ggX8_mend_X8_below : GoodIn wsX8_mend wsX8_below := goodIn_r _ [18] (by decide +kernel) (by decide +kernel)
set_option maxRecDepth 20000 in
theorem gX8_mend_X8_below : GoodIn wsX8_mend (va_wsS RX8 60 yX8_below wsX8_below) := goodIn_app (goodIn_of _ (by decide +kernel)) ggX8_mend_X8_below
set_option maxRecDepth 20000 in
theorem ggX8_mend_X2_keep : GoodIn wsX8_mend wsX2_keep := goodIn_r _ [23, 24, 25, 26, 27, 28, 22, 29, 17, 8, 18, 30, 31, 32, 33, 34, 35, 36, 37, 38, 39, 40, 41, 42, 43, 44, 45, 46, 47, 48, 49, 50, 51, 52, 53, 54, 55, 56, 57, 58, 13, 59, 60, 61, 62, 15, 164, 165, 155, 156, 157, 158, 159, 166, 167, 160, 161, 162, 163] (by decide +kernel) (by decide +kernel)
set_option maxRecDepth 20000 in
theorem gX8_mend_X2_keep : GoodIn wsX8_mend (wsV RX8 69 RX2 yX2_keep wsX2_keep) := goodIn_app (goodIn_of _ (by decide +kernel)) ggX8_mend_X2_keep
set_option maxRecDepth 20000 in
theorem ggX8_mend_X5_mendWay : GoodIn wsX8_mend wsX5_mendWay := goodIn_r _ [66, 35, 67, 68, 69, 33, 70, 37, 71, 72, 73, 74, 75, 76, 77, 78, 79, 13, 80, 61, 17, 8, 18, 81, 82, 83, 84, 62, 85, 86, 87, 43, 88, 89, 90, 91, 92, 45, 93, 94, 95, 96, 97, 98, 99, 100, 101, 102, 103, 104, 105, 106, 107, 108, 109, 110, 111, 112, 113, 114, 115, 116, 117, 118, 119, 120, 121, 122, 123, 124, 125, 126, 127, 128, 129, 130, 131, 132, 133, 134, 135, 136, 137, 138, 139, 140, 141, 142, 143, 144, 145, 146, 155, 156, 157, 158, 159, 168, 169, 170, 171, 172, 160, 161, 162, 163, 166] (by decide +kernel) (by decide +kernel)
set_option maxRecDepth 20000 in
theorem gX8_mend_X5_mendWay : GoodIn wsX8_mend (wsV RX8 129 RX5 yX5_mendWay wsX5_mendWay) := goodIn_app (goodIn_of _ (by decide +kernel)) ggX8_mend_X5_mendWay
theorem dX8_mend_0 : decode cX8_mend 0 = .ok (.aload_n 0, 1) := by decide +kernel
theorem dX8_mend_1 : decode cX8_mend 1 = .ok (.iload_n 1, 1) := by decide +kernel
theorem dX8_mend_2 : decode cX8_mend 2 = .ok (.invokevirtual 96, 3) := by decide +kernel
theorem dX8_mend_5 : decode cX8_mend 5 = .ok (.ifCond .eq 12, 3) := by decide +kernel
theorem dX8_mend_8 : decode cX8_mend 8 = .ok (.iload_n 2, 1) := by decide +kernel
theorem dX8_mend_9 : decode cX8_mend 9 = .ok (.bipush 16, 2) := by decide +kernel
theorem dX8_mend_11 : decode cX8_mend 11 = .ok (.invokestatic 60, 3) := by decide +kernel
theorem dX8_mend_14 : decode cX8_mend 14 = .ok (.ifCond .ne 6, 3) := by decide +kernel
theorem dX8_mend_17 : decode cX8_mend 17 = .ok (.ldc 64, 2) := by decide +kernel
theorem dX8_mend_19 : decode cX8_mend 19 = .ok (.ireturn, 1) := by decide +kernel
theorem dX8_mend_20 : decode cX8_mend 20 = .ok (.aload_n 0, 1) := by decide +kernel
theorem dX8_mend_21 : decode cX8_mend 21 = .ok (.getfield 25, 3) := by decide +kernel
theorem dX8_mend_24 : decode cX8_mend 24 = .ok (.aload_n 0, 1) := by decide +kernel
theorem dX8_mend_25 : decode cX8_mend 25 = .ok (.getfield 10, 3) := by decide +kernel
theorem dX8_mend_28 : decode cX8_mend 28 = .ok (.invokevirtual 69, 3) := by decide +kernel
theorem dX8_mend_31 : decode cX8_mend 31 = .ok (.aload_n 0, 1) := by decide +kernel
theorem dX8_mend_32 : decode cX8_mend 32 = .ok (.getfield 10, 3) := by decide +kernel
theorem dX8_mend_35 : decode cX8_mend 35 = .ok (.aload_n 0, 1) := by decide +kernel
theorem dX8_mend_36 : decode cX8_mend 36 = .ok (.getfield 46, 3) := by decide +kernel
theorem dX8_mend_39 : decode cX8_mend 39 = .ok (.iload_n 1, 1) := by decide +kernel
theorem dX8_mend_40 : decode cX8_mend 40 = .ok (.iload_n 2, 1) := by decide +kernel
theorem dX8_mend_41 : decode cX8_mend 41 = .ok (.invokevirtual 129, 3) := by decide +kernel
theorem dX8_mend_44 : decode cX8_mend 44 = .ok (.ireturn, 1) := by decide +kernel
set_option maxRecDepth 20000 in
theorem ggX8_scrub_X2_keep : GoodIn wsX8_scrub wsX2_keep := goodIn_r _ [8, 9, 10, 11, 12, 13, 7, 14, 15, 16, 17, 18, 19, 20, 21, 22, 23, 24, 25, 26, 27, 28, 29, 30, 31, 32, 33, 34, 35, 36, 37, 38, 39, 40, 41, 42, 43, 44, 45, 46, 47, 48, 49, 50, 51, 52, 154, 155, 149, 150, 151, 152, 153, 156, 157, 158, 159, 160, 161] (by decide +kernel) (by decide +kernel)
set_option maxRecDepth 20000 in
theorem gX8_scrub_X2_keep : GoodIn wsX8_scrub (wsV RX8 69 RX2 yX2_keep wsX2_keep) := goodIn_app (goodIn_of _ (by decide +kernel)) ggX8_scrub_X2_keep
set_option maxRecDepth 20000 in
theorem ggX8_scrub_X3_size : GoodIn wsX8_scrub wsX3_size := goodIn_r _ [56, 52, 158, 159, 160, 161] (by decide +kernel) (by decide +kernel)
set_option maxRecDepth 20000 in
theorem gX8_scrub_X3_size : GoodIn wsX8_scrub (wsV RX8 137 RX3 yX3_size wsX3_size) := goodIn_app (goodIn_of _ (by decide +kernel)) ggX8_scrub_X3_size
set_option maxRecDepth 20000 in
theorem ggX8_scrub_X5_mendWay : GoodIn wsX8_scrub wsX5_mendWay := goodIn_r _ [60, 23, 61, 62, 63, 21, 64, 25, 65, 66, 67, 68, 69, 70, 71, 72, 73, 47, 74, 50, 15, 16, 17, 75, 76, 77, 78, 51, 79, 80, 81, 31, 82, 83, 84, 85, 86, 33, 87, 88, 89, 90, 91, 92, 93, 94, 95, 96, 97, 98, 99, 100, 101, 102, 103, 104, 105, 106, 107, 108, 109, 110, 111, 112, 113, 114, 115, 116, 117, 118, 119, 120, 121, 122, 123, 124, 125, 126, 127, 128, 129, 130, 131, 132, 133, 134, 135, 136, 137, 138, 139, 140, 149, 150, 151, 152, 153, 162, 163, 164, 165, 166, 158, 159, 160, 161, 156] (by decide +kernel) (by decide +kernel)
set_option maxRecDepth 20000 in
theorem gX8_scrub_X5_mendWay : GoodIn wsX8_scrub (wsV RX8 129 RX5 yX5_mendWay wsX5_mendWay) := goodIn_app (goodIn_of _ (by decide +kernel)) ggX8_scrub_X5_mendWay
theorem dX8_scrub_0 : decode cX8_scrub 0 = .ok (.aload_n 0, 1) := by decide +kernel
theorem dX8_scrub_1 : decode cX8_scrub 1 = .ok (.getfield 25, 3) := by decide +kernel
theorem dX8_scrub_4 : decode cX8_scrub 4 = .ok (.aload_n 0, 1) := by decide +kernel
theorem dX8_scrub_5 : decode cX8_scrub 5 = .ok (.getfield 10, 3) := by decide +kernel
theorem dX8_scrub_8 : decode cX8_scrub 8 = .ok (.invokevirtual 69, 3) := by decide +kernel
theorem dX8_scrub_11 : decode cX8_scrub 11 = .ok (.iconst 0, 1) := by decide +kernel
theorem dX8_scrub_12 : decode cX8_scrub 12 = .ok (.istore_n 1, 1) := by decide +kernel
theorem dX8_scrub_13 : decode cX8_scrub 13 = .ok (.iconst 0, 1) := by decide +kernel
theorem dX8_scrub_14 : decode cX8_scrub 14 = .ok (.istore_n 2, 1) := by decide +kernel
theorem dX8_scrub_15 : decode cX8_scrub 15 = .ok (.iload_n 2, 1) := by decide +kernel
theorem dX8_scrub_16 : decode cX8_scrub 16 = .ok (.aload_n 0, 1) := by decide +kernel
theorem dX8_scrub_17 : decode cX8_scrub 17 = .ok (.getfield 10, 3) := by decide +kernel
theorem dX8_scrub_20 : decode cX8_scrub 20 = .ok (.getfield 133, 3) := by decide +kernel
theorem dX8_scrub_23 : decode cX8_scrub 23 = .ok (.invokevirtual 137, 3) := by decide +kernel
theorem dX8_scrub_26 : decode cX8_scrub 26 = .ok (.if_icmp .ge 39, 3) := by decide +kernel
theorem dX8_scrub_29 : decode cX8_scrub 29 = .ok (.iconst 0, 1) := by decide +kernel
theorem dX8_scrub_30 : decode cX8_scrub 30 = .ok (.istore_n 3, 1) := by decide +kernel
theorem dX8_scrub_31 : decode cX8_scrub 31 = .ok (.iload_n 3, 1) := by decide +kernel
theorem dX8_scrub_32 : decode cX8_scrub 32 = .ok (.bipush 16, 2) := by decide +kernel
theorem dX8_scrub_34 : decode cX8_scrub 34 = .ok (.if_icmp .ge 25, 3) := by decide +kernel
theorem dX8_scrub_37 : decode cX8_scrub 37 = .ok (.iload_n 1, 1) := by decide +kernel
theorem dX8_scrub_38 : decode cX8_scrub 38 = .ok (.aload_n 0, 1) := by decide +kernel
theorem dX8_scrub_39 : decode cX8_scrub 39 = .ok (.getfield 10, 3) := by decide +kernel
theorem dX8_scrub_42 : decode cX8_scrub 42 = .ok (.aload_n 0, 1) := by decide +kernel
theorem dX8_scrub_43 : decode cX8_scrub 43 = .ok (.getfield 46, 3) := by decide +kernel
theorem dX8_scrub_46 : decode cX8_scrub 46 = .ok (.iload_n 2, 1) := by decide +kernel
theorem dX8_scrub_47 : decode cX8_scrub 47 = .ok (.iload_n 3, 1) := by decide +kernel
theorem dX8_scrub_48 : decode cX8_scrub 48 = .ok (.invokevirtual 129, 3) := by decide +kernel
theorem dX8_scrub_51 : decode cX8_scrub 51 = .ok (.iadd, 1) := by decide +kernel
theorem dX8_scrub_52 : decode cX8_scrub 52 = .ok (.istore_n 1, 1) := by decide +kernel
theorem dX8_scrub_53 : decode cX8_scrub 53 = .ok (.iinc 3 1, 3) := by decide +kernel
theorem dX8_scrub_56 : decode cX8_scrub 56 = .ok (.goto (-25), 3) := by decide +kernel
theorem dX8_scrub_59 : decode cX8_scrub 59 = .ok (.iinc 2 1, 3) := by decide +kernel
theorem dX8_scrub_62 : decode cX8_scrub 62 = .ok (.goto (-47), 3) := by decide +kernel
theorem dX8_scrub_65 : decode cX8_scrub 65 = .ok (.iload_n 1, 1) := by decide +kernel
theorem dX8_scrub_66 : decode cX8_scrub 66 = .ok (.ireturn, 1) := by decide +kernel
set_option maxRecDepth 20000 in
theorem ggX8_leaves_X8_isRoot : GoodIn wsX8_leaves wsX8_isRoot := goodIn_r _ [8, 2, 9, 10, 11, 12, 13, 14, 15, 16, 7, 17, 112, 113, 114, 115, 116, 117, 118, 119, 120, 121, 122, 123, 124, 125, 126, 127, 128] (by decide +kernel) (by decide +kernel)
set_option maxRecDepth 20000 in
theorem gX8_leaves_X8_isRoot : GoodIn wsX8_leaves (wsV RX8 96 RX8 yX8_isRoot wsX8_isRoot) := goodIn_app (goodIn_of _ (by decide +kernel)) ggX8_leaves_X8_isRoot
set_option maxRecDepth 20000 in
theorem ggX8_leaves_X8_below : GoodIn wsX8_leaves wsX8_below := goodIn_r _ [17] (by decide +kernel) (by decide +kernel)
set_option maxRecDepth 20000 in
theorem gX8_leaves_X8_below : GoodIn wsX8_leaves (va_wsS RX8 60 yX8_below wsX8_below) := goodIn_app (goodIn_of _ (by decide +kernel)) ggX8_leaves_X8_below
set_option maxRecDepth 20000 in
theorem ggX8_leaves_X5_findWay : GoodIn wsX8_leaves wsX5_findWay := goodIn_r _ [22, 23, 24, 25, 26, 27, 28, 29, 30, 31, 32, 33, 12, 34, 35, 16, 7, 17, 36, 37, 38, 39, 40, 41, 42, 43, 44, 45, 46, 47, 48, 49, 50, 51, 52, 53, 54, 55, 56, 57, 58, 59, 60, 61, 62, 63, 64, 65, 66, 67, 68, 69, 70, 71, 72, 73, 74, 75, 76, 77, 78, 120, 121, 122, 123, 124, 129, 130, 131, 132, 133, 125, 126, 127, 128, 134] (by decide +kernel) (by decide +kernel)
set_option maxRecDepth 20000 in
theorem gX8_leaves_X5_findWay : GoodIn wsX8_leaves (wsV RX8 100 RX5 yX5_findWay wsX5_findWay) := goodIn_app (goodIn_of _ (by decide +kernel)) ggX8_leaves_X5_findWay
set_option maxRecDepth 20000 in
theorem ggX8_leaves_X8_isWayOfKind : GoodIn wsX8_leaves wsX8_isWayOfKind := goodIn_r _ [82, 3, 2, 83, 84, 85, 28, 86, 87, 88, 89, 90, 63, 91, 92, 93, 94, 30, 16, 7, 17, 95, 96, 97, 21, 98, 24, 99, 100, 101, 102, 61, 103, 104, 105, 44, 106, 107, 65, 66, 67, 50, 51, 52, 53, 54, 108, 109, 110, 111, 112, 113, 114, 115, 116, 117, 118, 119, 129, 130, 131, 132, 133, 120, 121, 122, 123, 124, 134] (by decide +kernel) (by decide +kernel)
set_option maxRecDepth 20000 in
theorem gX8_leaves_X8_isWayOfKind : GoodIn wsX8_leaves (wsV RX8 143 RX8 yX8_isWayOfKind wsX8_isWayOfKind) := goodIn_app (goodIn_of _ (by decide +kernel)) ggX8_leaves_X8_isWayOfKind
theorem dX8_leaves_0 : decode cX8_leaves 0 = .ok (.aload_n 0, 1) := by decide +kernel
theorem dX8_leaves_1 : decode cX8_leaves 1 = .ok (.iload_n 1, 1) := by decide +kernel
theorem dX8_leaves_2 : decode cX8_leaves 2 = .ok (.invokevirtual 96, 3) := by decide +kernel
theorem dX8_leaves_5 : decode cX8_leaves 5 = .ok (.ifCond .eq 11, 3) := by decide +kernel
theorem dX8_leaves_8 : decode cX8_leaves 8 = .ok (.iload_n 2, 1) := by decide +kernel
theorem dX8_leaves_9 : decode cX8_leaves 9 = .ok (.iconst 3, 1) := by decide +kernel
theorem dX8_leaves_10 : decode cX8_leaves 10 = .ok (.invokestatic 60, 3) := by decide +kernel
theorem dX8_leaves_13 : decode cX8_leaves 13 = .ok (.ifCond .ne 6, 3) := by decide +kernel
theorem dX8_leaves_16 : decode cX8_leaves 16 = .ok (.ldc 64, 2) := by decide +kernel
theorem dX8_leaves_18 : decode cX8_leaves 18 = .ok (.ireturn, 1) := by decide +kernel
theorem dX8_leaves_19 : decode cX8_leaves 19 = .ok (.iconst 0, 1) := by decide +kernel
theorem dX8_leaves_20 : decode cX8_leaves 20 = .ok (.istore_n 3, 1) := by decide +kernel
theorem dX8_leaves_21 : decode cX8_leaves 21 = .ok (.iconst 0, 1) := by decide +kernel
theorem dX8_leaves_22 : decode cX8_leaves 22 = .ok (.istore 4, 2) := by decide +kernel
theorem dX8_leaves_24 : decode cX8_leaves 24 = .ok (.iload 4, 2) := by decide +kernel
theorem dX8_leaves_26 : decode cX8_leaves 26 = .ok (.bipush 16, 2) := by decide +kernel
theorem dX8_leaves_28 : decode cX8_leaves 28 = .ok (.if_icmp .ge 38, 3) := by decide +kernel
theorem dX8_leaves_31 : decode cX8_leaves 31 = .ok (.aload_n 0, 1) := by decide +kernel
theorem dX8_leaves_32 : decode cX8_leaves 32 = .ok (.getfield 10, 3) := by decide +kernel
theorem dX8_leaves_35 : decode cX8_leaves 35 = .ok (.aload_n 0, 1) := by decide +kernel
theorem dX8_leaves_36 : decode cX8_leaves 36 = .ok (.getfield 46, 3) := by decide +kernel
theorem dX8_leaves_39 : decode cX8_leaves 39 = .ok (.iload_n 1, 1) := by decide +kernel
theorem dX8_leaves_40 : decode cX8_leaves 40 = .ok (.iload 4, 2) := by decide +kernel
theorem dX8_leaves_42 : decode cX8_leaves 42 = .ok (.invokevirtual 100, 3) := by decide +kernel
theorem dX8_leaves_45 : decode cX8_leaves 45 = .ok (.aload_n 0, 1) := by decide +kernel
theorem dX8_leaves_46 : decode cX8_leaves 46 = .ok (.iload_n 2, 1) := by decide +kernel
theorem dX8_leaves_47 : decode cX8_leaves 47 = .ok (.invokevirtual 143, 3) := by decide +kernel
theorem dX8_leaves_50 : decode cX8_leaves 50 = .ok (.ifCond .eq 10, 3) := by decide +kernel
theorem dX8_leaves_53 : decode cX8_leaves 53 = .ok (.iload_n 3, 1) := by decide +kernel
theorem dX8_leaves_54 : decode cX8_leaves 54 = .ok (.iconst 1, 1) := by decide +kernel
theorem dX8_leaves_55 : decode cX8_leaves 55 = .ok (.iload 4, 2) := by decide +kernel
theorem dX8_leaves_57 : decode cX8_leaves 57 = .ok (.ishl, 1) := by decide +kernel
theorem dX8_leaves_58 : decode cX8_leaves 58 = .ok (.ior, 1) := by decide +kernel
theorem dX8_leaves_59 : decode cX8_leaves 59 = .ok (.istore_n 3, 1) := by decide +kernel
theorem dX8_leaves_60 : decode cX8_leaves 60 = .ok (.iinc 4 1, 3) := by decide +kernel
theorem dX8_leaves_63 : decode cX8_leaves 63 = .ok (.goto (-39), 3) := by decide +kernel
theorem dX8_leaves_66 : decode cX8_leaves 66 = .ok (.iload_n 3, 1) := by decide +kernel
theorem dX8_leaves_67 : decode cX8_leaves 67 = .ok (.ireturn, 1) := by decide +kernel
set_option maxRecDepth 20000 in
theorem ggX8_free_X8_isRoot : GoodIn wsX8_free wsX8_isRoot := goodIn_r _ [10, 4, 11, 12, 13, 14, 15, 16, 17, 18, 9, 19, 127, 128, 129, 130, 131, 132, 133, 134, 135, 136, 137, 138, 139, 140, 141, 142, 143] (by decide +kernel) (by decide +kernel)
set_option maxRecDepth 20000 in
theorem gX8_free_X8_isRoot : GoodIn wsX8_free (wsV RX8 96 RX8 yX8_isRoot wsX8_isRoot) := goodIn_app (goodIn_of _ (by decide +kernel)) ggX8_free_X8_isRoot
set_option maxRecDepth 20000 in
theorem ggX8_free_X2_keep : GoodIn wsX8_free wsX2_keep := goodIn_r _ [24, 25, 26, 27, 28, 29, 23, 30, 18, 9, 19, 31, 32, 33, 34, 35, 36, 37, 38, 39, 40, 41, 42, 43, 44, 45, 46, 47, 48, 49, 50, 51, 52, 53, 54, 55, 56, 57, 58, 59, 14, 60, 61, 62, 63, 16, 144, 145, 135, 136, 137, 138, 139, 146, 147, 140, 141, 142, 143] (by decide +kernel) (by decide +kernel)
set_option maxRecDepth 20000 in
theorem gX8_free_X2_keep : GoodIn wsX8_free (wsV RX8 69 RX2 yX2_keep wsX2_keep) := goodIn_app (goodIn_of _ (by decide +kernel)) ggX8_free_X2_keep
set_option maxRecDepth 20000 in
theorem ggX8_free_X3_remove : GoodIn wsX8_free wsX3_remove := goodIn_r _ [67, 16, 68, 69, 70, 14, 71, 61, 62, 63, 18, 9, 19, 140, 141, 142, 143] (by decide +kernel) (by decide +kernel)
set_option maxRecDepth 20000 in
theorem gX8_free_X3_remove : GoodIn wsX8_free (wsV RX8 146 RX3 yX3_remove wsX3_remove) := goodIn_app (goodIn_of _ (by decide +kernel)) ggX8_free_X3_remove
set_option maxRecDepth 20000 in
theorem ggX8_free_X5_settleUse : GoodIn wsX8_free wsX5_settleUse := goodIn_r _ [75, 37, 38, 51, 52, 53, 54, 55, 56, 76, 77, 78, 79, 80, 12, 13, 14, 15, 16, 81, 82, 83, 34, 84, 36, 85, 86, 87, 88, 62, 18, 9, 19, 89, 90, 91, 92, 63, 93, 94, 95, 96, 97, 98, 99, 44, 100, 101, 102, 103, 104, 46, 105, 106, 107, 108, 109, 110, 111, 112, 113, 114, 115, 116, 117, 118, 119, 120, 121, 122, 123, 124, 125, 126, 135, 136, 137, 138, 139, 147, 140, 141, 142, 143, 146] (by decide +kernel) (by decide +kernel)
set_option maxRecDepth 20000 in
theorem gX8_free_X5_settleUse : GoodIn wsX8_free (wsV RX8 150 RX5 yX5_settleUse wsX5_settleUse) := goodIn_app (goodIn_of _ (by decide +kernel)) ggX8_free_X5_settleUse
theorem dX8_free_0 : decode cX8_free 0 = .ok (.aload_n 0, 1) := by decide +kernel
theorem dX8_free_1 : decode cX8_free 1 = .ok (.iload_n 1, 1) := by decide +kernel
theorem dX8_free_2 : decode cX8_free 2 = .ok (.invokevirtual 96, 3) := by decide +kernel
theorem dX8_free_5 : decode cX8_free 5 = .ok (.ifCond .ne 6, 3) := by decide +kernel
theorem dX8_free_8 : decode cX8_free 8 = .ok (.ldc 64, 2) := by decide +kernel
theorem dX8_free_10 : decode cX8_free 10 = .ok (.ireturn, 1) := by decide +kernel
theorem dX8_free_11 : decode cX8_free 11 = .ok (.iload_n 1, 1) := by decide +kernel
theorem dX8_free_12 : decode cX8_free 12 = .ok (.ifCond .ne 6, 3) := by decide +kernel
theorem dX8_free_15 : decode cX8_free 15 = .ok (.ldc 108, 2) := by decide +kernel
theorem dX8_free_17 : decode cX8_free 17 = .ok (.ireturn, 1) := by decide +kernel
theorem dX8_free_18 : decode cX8_free 18 = .ok (.aload_n 0, 1) := by decide +kernel
theorem dX8_free_19 : decode cX8_free 19 = .ok (.getfield 25, 3) := by decide +kernel
theorem dX8_free_22 : decode cX8_free 22 = .ok (.aload_n 0, 1) := by decide +kernel
theorem dX8_free_23 : decode cX8_free 23 = .ok (.getfield 10, 3) := by decide +kernel
theorem dX8_free_26 : decode cX8_free 26 = .ok (.invokevirtual 69, 3) := by decide +kernel
theorem dX8_free_29 : decode cX8_free 29 = .ok (.aload_n 0, 1) := by decide +kernel
theorem dX8_free_30 : decode cX8_free 30 = .ok (.getfield 10, 3) := by decide +kernel
theorem dX8_free_33 : decode cX8_free 33 = .ok (.getfield 133, 3) := by decide +kernel
theorem dX8_free_36 : decode cX8_free 36 = .ok (.iload_n 1, 1) := by decide +kernel
theorem dX8_free_37 : decode cX8_free 37 = .ok (.iconst 1, 1) := by decide +kernel
theorem dX8_free_38 : decode cX8_free 38 = .ok (.invokevirtual 146, 3) := by decide +kernel
theorem dX8_free_41 : decode cX8_free 41 = .ok (.aload_n 0, 1) := by decide +kernel
theorem dX8_free_42 : decode cX8_free 42 = .ok (.getfield 10, 3) := by decide +kernel
theorem dX8_free_45 : decode cX8_free 45 = .ok (.aload_n 0, 1) := by decide +kernel
theorem dX8_free_46 : decode cX8_free 46 = .ok (.getfield 53, 3) := by decide +kernel
theorem dX8_free_49 : decode cX8_free 49 = .ok (.invokevirtual 150, 3) := by decide +kernel
theorem dX8_free_52 : decode cX8_free 52 = .ok (.ireturn, 1) := by decide +kernel
set_option maxRecDepth 20000 in
theorem ggX8_back_X8_isRoot : GoodIn wsX8_back wsX8_isRoot := goodIn_r _ [9, 3, 10, 11, 12, 13, 14, 15, 16, 17, 8, 18, 126, 127, 128, 129, 130, 131, 132, 133, 134, 135, 136, 137, 138, 139, 140, 141, 142] (by decide +kernel) (by decide +kernel)
set_option maxRecDepth 20000 in
theorem gX8_back_X8_isRoot : GoodIn wsX8_back (wsV RX8 96 RX8 yX8_isRoot wsX8_isRoot) := goodIn_app (goodIn_of _ (by decide +kernel)) ggX8_back_X8_isRoot
set_option maxRecDepth 20000 in
theorem ggX8_back_X2_keep : GoodIn wsX8_back wsX2_keep := goodIn_r _ [23, 24, 25, 26, 27, 28, 22, 29, 17, 8, 18, 30, 31, 32, 33, 34, 35, 36, 37, 38, 39, 40, 41, 42, 43, 44, 45, 46, 47, 48, 49, 50, 51, 52, 53, 54, 55, 56, 57, 58, 13, 59, 60, 61, 62, 15, 143, 144, 134, 135, 136, 137, 138, 145, 146, 139, 140, 141, 142] (by decide +kernel) (by decide +kernel)
set_option maxRecDepth 20000 in
theorem gX8_back_X2_keep : GoodIn wsX8_back (wsV RX8 69 RX2 yX2_keep wsX2_keep) := goodIn_app (goodIn_of _ (by decide +kernel)) ggX8_back_X2_keep
set_option maxRecDepth 20000 in
theorem ggX8_back_X3_remove : GoodIn wsX8_back wsX3_remove := goodIn_r _ [66, 15, 67, 68, 69, 13, 70, 60, 61, 62, 17, 8, 18, 139, 140, 141, 142] (by decide +kernel) (by decide +kernel)
set_option maxRecDepth 20000 in
theorem gX8_back_X3_remove : GoodIn wsX8_back (wsV RX8 146 RX3 yX3_remove wsX3_remove) := goodIn_app (goodIn_of _ (by decide +kernel)) ggX8_back_X3_remove
set_option maxRecDepth 20000 in
theorem ggX8_back_X5_settleUse : GoodIn wsX8_back wsX5_settleUse := goodIn_r _ [74, 36, 37, 50, 51, 52, 53, 54, 55, 75, 76, 77, 78, 79, 11, 12, 13, 14, 15, 80, 81, 82, 33, 83, 35, 84, 85, 86, 87, 61, 17, 8, 18, 88, 89, 90, 91, 62, 92, 93, 94, 95, 96, 97, 98, 43, 99, 100, 101, 102, 103, 45, 104, 105, 106, 107, 108, 109, 110, 111, 112, 113, 114, 115, 116, 117, 118, 119, 120, 121, 122, 123, 124, 125, 134, 135, 136, 137, 138, 146, 139, 140, 141, 142, 145] (by decide +kernel) (by decide +kernel)
set_option maxRecDepth 20000 in
theorem gX8_back_X5_settleUse : GoodIn wsX8_back (wsV RX8 150 RX5 yX5_settleUse wsX5_settleUse) := goodIn_app (goodIn_of _ (by decide +kernel)) ggX8_back_X5_settleUse
theorem dX8_back_0 : decode cX8_back 0 = .ok (.aload_n 0, 1) := by decide +kernel
theorem dX8_back_1 : decode cX8_back 1 = .ok (.iload_n 1, 1) := by decide +kernel
theorem dX8_back_2 : decode cX8_back 2 = .ok (.invokevirtual 96, 3) := by decide +kernel
theorem dX8_back_5 : decode cX8_back 5 = .ok (.ifCond .ne 6, 3) := by decide +kernel
theorem dX8_back_8 : decode cX8_back 8 = .ok (.ldc 64, 2) := by decide +kernel
theorem dX8_back_10 : decode cX8_back 10 = .ok (.ireturn, 1) := by decide +kernel
theorem dX8_back_11 : decode cX8_back 11 = .ok (.aload_n 0, 1) := by decide +kernel
theorem dX8_back_12 : decode cX8_back 12 = .ok (.getfield 25, 3) := by decide +kernel
theorem dX8_back_15 : decode cX8_back 15 = .ok (.aload_n 0, 1) := by decide +kernel
theorem dX8_back_16 : decode cX8_back 16 = .ok (.getfield 10, 3) := by decide +kernel
theorem dX8_back_19 : decode cX8_back 19 = .ok (.invokevirtual 69, 3) := by decide +kernel
theorem dX8_back_22 : decode cX8_back 22 = .ok (.iload_n 1, 1) := by decide +kernel
theorem dX8_back_23 : decode cX8_back 23 = .ok (.ifCond .ne 5, 3) := by decide +kernel
theorem dX8_back_26 : decode cX8_back 26 = .ok (.iconst 0, 1) := by decide +kernel
theorem dX8_back_27 : decode cX8_back 27 = .ok (.ireturn, 1) := by decide +kernel
theorem dX8_back_28 : decode cX8_back 28 = .ok (.aload_n 0, 1) := by decide +kernel
theorem dX8_back_29 : decode cX8_back 29 = .ok (.getfield 10, 3) := by decide +kernel
theorem dX8_back_32 : decode cX8_back 32 = .ok (.getfield 133, 3) := by decide +kernel
theorem dX8_back_35 : decode cX8_back 35 = .ok (.iconst 0, 1) := by decide +kernel
theorem dX8_back_36 : decode cX8_back 36 = .ok (.iload_n 1, 1) := by decide +kernel
theorem dX8_back_37 : decode cX8_back 37 = .ok (.invokevirtual 146, 3) := by decide +kernel
theorem dX8_back_40 : decode cX8_back 40 = .ok (.aload_n 0, 1) := by decide +kernel
theorem dX8_back_41 : decode cX8_back 41 = .ok (.getfield 10, 3) := by decide +kernel
theorem dX8_back_44 : decode cX8_back 44 = .ok (.aload_n 0, 1) := by decide +kernel
theorem dX8_back_45 : decode cX8_back 45 = .ok (.getfield 53, 3) := by decide +kernel
theorem dX8_back_48 : decode cX8_back 48 = .ok (.invokevirtual 150, 3) := by decide +kernel
theorem dX8_back_51 : decode cX8_back 51 = .ok (.ireturn, 1) := by decide +kernel
set_option maxRecDepth 20000 in
theorem ggX8_rootOf_X8_isRoot : GoodIn wsX8_rootOf wsX8_isRoot := goodIn_r _ [9, 2, 10, 11, 12, 13, 14, 15, 16, 17, 8, 18, 93, 94, 95, 96, 97, 98, 99, 100, 101, 102, 103, 104, 105, 106, 107, 108, 109] (by decide +kernel) (by decide +kernel)
set_option maxRecDepth 20000 in
theorem gX8_rootOf_X8_isRoot : GoodIn wsX8_rootOf (wsV RX8 96 RX8 yX8_isRoot wsX8_isRoot) := goodIn_app (goodIn_of _ (by decide +kernel)) ggX8_rootOf_X8_isRoot
set_option maxRecDepth 20000 in
theorem ggX8_rootOf_X8_below : GoodIn wsX8_rootOf wsX8_below := goodIn_r _ [18] (by decide +kernel) (by decide +kernel)
set_option maxRecDepth 20000 in
theorem gX8_rootOf_X8_below : GoodIn wsX8_rootOf (va_wsS RX8 60 yX8_below wsX8_below) := goodIn_app (goodIn_of _ (by decide +kernel)) ggX8_rootOf_X8_below
set_option maxRecDepth 20000 in
theorem ggX8_rootOf_X3_numberAt : GoodIn wsX8_rootOf wsX3_numberAt := goodIn_r _ [22, 23, 17, 8, 18, 106, 107, 108, 109] (by decide +kernel) (by decide +kernel)
set_option maxRecDepth 20000 in
theorem gX8_rootOf_X3_numberAt : GoodIn wsX8_rootOf (wsV RX8 154 RX3 yX3_numberAt wsX3_numberAt) := goodIn_app (goodIn_of _ (by decide +kernel)) ggX8_rootOf_X3_numberAt
set_option maxRecDepth 20000 in
theorem ggX8_rootOf_X3_blockAt : GoodIn wsX8_rootOf wsX3_blockAt := goodIn_r _ [27, 28, 17, 8, 18, 106, 107, 108, 109] (by decide +kernel) (by decide +kernel)
set_option maxRecDepth 20000 in
theorem gX8_rootOf_X3_blockAt : GoodIn wsX8_rootOf (wsV RX8 156 RX3 yX3_blockAt wsX3_blockAt) := goodIn_app (goodIn_of _ (by decide +kernel)) ggX8_rootOf_X3_blockAt
set_option maxRecDepth 20000 in
theorem ggX8_rootOf_X3_sumAt : GoodIn wsX8_rootOf wsX3_sumAt := goodIn_r _ [32, 33, 17, 8, 18, 106, 107, 108, 109] (by decide +kernel) (by decide +kernel)
set_option maxRecDepth 20000 in
theorem gX8_rootOf_X3_sumAt : GoodIn wsX8_rootOf (wsV RX8 157 RX3 yX3_sumAt wsX3_sumAt) := goodIn_app (goodIn_of _ (by decide +kernel)) ggX8_rootOf_X3_sumAt
set_option maxRecDepth 20000 in
theorem ggX8_rootOf_X8_gatherBlocks : GoodIn wsX8_rootOf wsX8_gatherBlocks := goodIn_r _ [37, 3, 4, 2, 38, 39, 40, 41, 42, 43, 10, 11, 12, 13, 14, 15, 44, 45, 46, 47, 48, 49, 50, 51, 25, 26, 27, 28, 17, 8, 18, 52, 30, 31, 32, 33, 53, 54, 55, 56, 57, 58, 59, 60, 61, 62, 63, 64, 65, 66, 67, 68, 69, 70, 71, 72, 73, 74, 75, 76, 77, 78, 79, 80, 81, 82, 83, 84, 93, 94, 95, 96, 97, 98, 99, 100, 101, 102, 103, 104, 105, 110, 106, 107, 108, 109, 111] (by decide +kernel) (by decide +kernel)
set_option maxRecDepth 20000 in
theorem gX8_rootOf_X8_gatherBlocks : GoodIn wsX8_rootOf (wsV RX8 158 RX8 yX8_gatherBlocks wsX8_gatherBlocks) := goodIn_app (goodIn_of _ (by decide +kernel)) ggX8_rootOf_X8_gatherBlocks
set_option maxRecDepth 20000 in
theorem ggX8_rootOf_X0_size : GoodIn wsX8_rootOf wsX0_size := goodIn_r _ [88, 43, 110] (by decide +kernel) (by decide +kernel)
set_option maxRecDepth 20000 in
theorem gX8_rootOf_X0_size : GoodIn wsX8_rootOf (wsV RX8 162 RX0 yX0_size wsX0_size) := goodIn_app (goodIn_of _ (by decide +kernel)) ggX8_rootOf_X0_size
set_option maxRecDepth 20000 in
theorem ggX8_rootOf_X0_sizeWithout : GoodIn wsX8_rootOf wsX0_sizeWithout := goodIn_r _ [92, 43, 110] (by decide +kernel) (by decide +kernel)
set_option maxRecDepth 20000 in
theorem gX8_rootOf_X0_sizeWithout : GoodIn wsX8_rootOf (wsV RX8 163 RX0 yX0_sizeWithout wsX0_sizeWithout) := goodIn_app (goodIn_of _ (by decide +kernel)) ggX8_rootOf_X0_sizeWithout
theorem dX8_rootOf_0 : decode cX8_rootOf 0 = .ok (.aload_n 0, 1) := by decide +kernel
theorem dX8_rootOf_1 : decode cX8_rootOf 1 = .ok (.iload_n 1, 1) := by decide +kernel
theorem dX8_rootOf_2 : decode cX8_rootOf 2 = .ok (.invokevirtual 96, 3) := by decide +kernel
theorem dX8_rootOf_5 : decode cX8_rootOf 5 = .ok (.ifCond .eq 11, 3) := by decide +kernel
theorem dX8_rootOf_8 : decode cX8_rootOf 8 = .ok (.iload_n 2, 1) := by decide +kernel
theorem dX8_rootOf_9 : decode cX8_rootOf 9 = .ok (.iconst 5, 1) := by decide +kernel
theorem dX8_rootOf_10 : decode cX8_rootOf 10 = .ok (.invokestatic 60, 3) := by decide +kernel
theorem dX8_rootOf_13 : decode cX8_rootOf 13 = .ok (.ifCond .ne 6, 3) := by decide +kernel
theorem dX8_rootOf_16 : decode cX8_rootOf 16 = .ok (.ldc 64, 2) := by decide +kernel
theorem dX8_rootOf_18 : decode cX8_rootOf 18 = .ok (.ireturn, 1) := by decide +kernel
theorem dX8_rootOf_19 : decode cX8_rootOf 19 = .ok (.iload_n 2, 1) := by decide +kernel
theorem dX8_rootOf_20 : decode cX8_rootOf 20 = .ok (.tableswitch 81 0 3 #[32, 44, 56, 68], 32) := by decide +kernel
theorem dX8_rootOf_52 : decode cX8_rootOf 52 = .ok (.aload_n 0, 1) := by decide +kernel
theorem dX8_rootOf_53 : decode cX8_rootOf 53 = .ok (.getfield 10, 3) := by decide +kernel
theorem dX8_rootOf_56 : decode cX8_rootOf 56 = .ok (.getfield 133, 3) := by decide +kernel
