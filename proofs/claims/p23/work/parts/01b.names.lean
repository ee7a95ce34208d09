theorem dX1_startOf_22 : decode cX1_startOf 22 = .ok (.bipush 96, 2) := by decide +kernel
theorem dX1_startOf_24 : decode cX1_startOf 24 = .ok (.imul, 1) := by decide +kernel
theorem dX1_startOf_25 : decode cX1_startOf 25 = .ok (.iload_n 2, 1) := by decide +kernel
theorem dX1_startOf_26 : decode cX1_startOf 26 = .ok (.iadd, 1) := by decide +kernel
theorem dX1_startOf_27 : decode cX1_startOf 27 = .ok (.iconst 4, 1) := by decide +kernel
theorem dX1_startOf_28 : decode cX1_startOf 28 = .ok (.imul, 1) := by decide +kernel
theorem dX1_startOf_29 : decode cX1_startOf 29 = .ok (.ireturn, 1) := by decide +kernel
set_option maxRecDepth 20000 in
theorem ggX1_numberAt_X1_startOf : GoodIn wsX1_numberAt wsX1_startOf := goodIn_r _ [6] (by decide +kernel) (by decide +kernel)
set_option maxRecDepth 20000 in
theorem gX1_numberAt_X1_startOf : GoodIn wsX1_numberAt (wsV RX1 15 RX1 yX1_startOf wsX1_startOf) := goodIn_app (goodIn_of _ (by decide +kernel)) ggX1_numberAt_X1_startOf
set_option maxRecDepth 20000 in
theorem ggX1_numberAt_X8_below : GoodIn wsX1_numberAt wsX8_below := goodIn_r _ [9] (by decide +kernel) (by decide +kernel)
set_option maxRecDepth 20000 in
theorem gX1_numberAt_X8_below_n19 : GoodIn wsX1_numberAt (wsX8_below) := ggX1_numberAt_X8_below
theorem dX1_numberAt_0 : decode cX1_numberAt 0 = .ok (.aload_n 0, 1) := by decide +kernel
theorem dX1_numberAt_1 : decode cX1_numberAt 1 = .ok (.iload_n 1, 1) := by decide +kernel
theorem dX1_numberAt_2 : decode cX1_numberAt 2 = .ok (.iload_n 2, 1) := by decide +kernel
theorem dX1_numberAt_3 : decode cX1_numberAt 3 = .ok (.invokevirtual 15, 3) := by decide +kernel
theorem dX1_numberAt_6 : decode cX1_numberAt 6 = .ok (.istore 4, 2) := by decide +kernel
theorem dX1_numberAt_8 : decode cX1_numberAt 8 = .ok (.iload 4, 2) := by decide +kernel
theorem dX1_numberAt_10 : decode cX1_numberAt 10 = .ok (.ifCond .lt 11, 3) := by decide +kernel
theorem dX1_numberAt_13 : decode cX1_numberAt 13 = .ok (.iload_n 3, 1) := by decide +kernel
theorem dX1_numberAt_14 : decode cX1_numberAt 14 = .ok (.iconst 4, 1) := by decide +kernel
theorem dX1_numberAt_15 : decode cX1_numberAt 15 = .ok (.invokestatic 19, 3) := by decide +kernel
theorem dX1_numberAt_18 : decode cX1_numberAt 18 = .ok (.ifCond .ne 7, 3) := by decide +kernel
theorem dX1_numberAt_21 : decode cX1_numberAt 21 = .ok (.iconst 0, 1) := by decide +kernel
theorem dX1_numberAt_22 : decode cX1_numberAt 22 = .ok (.goto 12, 3) := by decide +kernel
theorem dX1_numberAt_25 : decode cX1_numberAt 25 = .ok (.aload_n 0, 1) := by decide +kernel
theorem dX1_numberAt_26 : decode cX1_numberAt 26 = .ok (.getfield 9, 3) := by decide +kernel
theorem dX1_numberAt_29 : decode cX1_numberAt 29 = .ok (.iload 4, 2) := by decide +kernel
theorem dX1_numberAt_31 : decode cX1_numberAt 31 = .ok (.iload_n 3, 1) := by decide +kernel
theorem dX1_numberAt_32 : decode cX1_numberAt 32 = .ok (.iadd, 1) := by decide +kernel
theorem dX1_numberAt_33 : decode cX1_numberAt 33 = .ok (.iaload, 1) := by decide +kernel
theorem dX1_numberAt_34 : decode cX1_numberAt 34 = .ok (.ireturn, 1) := by decide +kernel
set_option maxRecDepth 20000 in
theorem ggX1_put_X1_startOf : GoodIn wsX1_put wsX1_startOf := goodIn_r _ [6] (by decide +kernel) (by decide +kernel)
set_option maxRecDepth 20000 in
theorem gX1_put_X1_startOf : GoodIn wsX1_put (wsV RX1 15 RX1 yX1_startOf wsX1_startOf) := goodIn_app (goodIn_of _ (by decide +kernel)) ggX1_put_X1_startOf
set_option maxRecDepth 20000 in
theorem ggX1_put_X8_below : GoodIn wsX1_put wsX8_below := goodIn_r _ [9] (by decide +kernel) (by decide +kernel)
set_option maxRecDepth 20000 in
theorem gX1_put_X8_below_n19 : GoodIn wsX1_put (wsX8_below) := ggX1_put_X8_below
theorem dX1_put_0 : decode cX1_put 0 = .ok (.aload_n 0, 1) := by decide +kernel
theorem dX1_put_1 : decode cX1_put 1 = .ok (.iload_n 1, 1) := by decide +kernel
theorem dX1_put_2 : decode cX1_put 2 = .ok (.iload_n 2, 1) := by decide +kernel
theorem dX1_put_3 : decode cX1_put 3 = .ok (.invokevirtual 15, 3) := by decide +kernel
theorem dX1_put_6 : decode cX1_put 6 = .ok (.istore 5, 2) := by decide +kernel
theorem dX1_put_8 : decode cX1_put 8 = .ok (.iload 5, 2) := by decide +kernel
theorem dX1_put_10 : decode cX1_put 10 = .ok (.ifCond .lt 22, 3) := by decide +kernel
theorem dX1_put_13 : decode cX1_put 13 = .ok (.iload_n 3, 1) := by decide +kernel
theorem dX1_put_14 : decode cX1_put 14 = .ok (.iconst 4, 1) := by decide +kernel
theorem dX1_put_15 : decode cX1_put 15 = .ok (.invokestatic 19, 3) := by decide +kernel
theorem dX1_put_18 : decode cX1_put 18 = .ok (.ifCond .eq 14, 3) := by decide +kernel
theorem dX1_put_21 : decode cX1_put 21 = .ok (.aload_n 0, 1) := by decide +kernel
theorem dX1_put_22 : decode cX1_put 22 = .ok (.getfield 9, 3) := by decide +kernel
theorem dX1_put_25 : decode cX1_put 25 = .ok (.iload 5, 2) := by decide +kernel
theorem dX1_put_27 : decode cX1_put 27 = .ok (.iload_n 3, 1) := by decide +kernel
theorem dX1_put_28 : decode cX1_put 28 = .ok (.iadd, 1) := by decide +kernel
theorem dX1_put_29 : decode cX1_put 29 = .ok (.iload 4, 2) := by decide +kernel
theorem dX1_put_31 : decode cX1_put 31 = .ok (.iastore, 1) := by decide +kernel
theorem dX1_put_32 : decode cX1_put 32 = .ok (.return_, 1) := by decide +kernel
set_option maxRecDepth 20000 in
theorem ggX1_sumOf_X1_startOf : GoodIn wsX1_sumOf wsX1_startOf := goodIn_r _ [6] (by decide +kernel) (by decide +kernel)
set_option maxRecDepth 20000 in
theorem gX1_sumOf_X1_startOf : GoodIn wsX1_sumOf (wsV RX1 15 RX1 yX1_startOf wsX1_startOf) := goodIn_app (goodIn_of _ (by decide +kernel)) ggX1_sumOf_X1_startOf
set_option maxRecDepth 20000 in
theorem ggX1_sumOf_X8_sumFrom : GoodIn wsX1_sumOf wsX8_sumFrom := goodIn_r _ [9] (by decide +kernel) (by decide +kernel)
set_option maxRecDepth 20000 in
theorem gX1_sumOf_X8_sumFrom_n23 : GoodIn wsX1_sumOf (wsX8_sumFrom) := ggX1_sumOf_X8_sumFrom
theorem dX1_sumOf_0 : decode cX1_sumOf 0 = .ok (.aload_n 0, 1) := by decide +kernel
theorem dX1_sumOf_1 : decode cX1_sumOf 1 = .ok (.getfield 9, 3) := by decide +kernel
theorem dX1_sumOf_4 : decode cX1_sumOf 4 = .ok (.aload_n 0, 1) := by decide +kernel
theorem dX1_sumOf_5 : decode cX1_sumOf 5 = .ok (.iload_n 1, 1) := by decide +kernel
theorem dX1_sumOf_6 : decode cX1_sumOf 6 = .ok (.iload_n 2, 1) := by decide +kernel
theorem dX1_sumOf_7 : decode cX1_sumOf 7 = .ok (.invokevirtual 15, 3) := by decide +kernel
theorem dX1_sumOf_10 : decode cX1_sumOf 10 = .ok (.invokestatic 23, 3) := by decide +kernel
theorem dX1_sumOf_13 : decode cX1_sumOf 13 = .ok (.ireturn, 1) := by decide +kernel
set_option maxRecDepth 20000 in
theorem ggX1_alike_X1_numberAt : GoodIn wsX1_alike wsX1_numberAt := goodIn_r _ [5, 6, 7, 8, 9, 4, 10, 11, 12, 13, 14] (by decide +kernel) (by decide +kernel)
set_option maxRecDepth 20000 in
theorem gX1_alike_X1_numberAt : GoodIn wsX1_alike (wsV RX1 27 RX1 yX1_numberAt wsX1_numberAt) := goodIn_app (goodIn_of _ (by decide +kernel)) ggX1_alike_X1_numberAt
theorem dX1_alike_0 : decode cX1_alike 0 = .ok (.iconst 0, 1) := by decide +kernel
theorem dX1_alike_1 : decode cX1_alike 1 = .ok (.istore_n 2, 1) := by decide +kernel
theorem dX1_alike_2 : decode cX1_alike 2 = .ok (.iload_n 2, 1) := by decide +kernel
theorem dX1_alike_3 : decode cX1_alike 3 = .ok (.iconst 4, 1) := by decide +kernel
theorem dX1_alike_4 : decode cX1_alike 4 = .ok (.if_icmp .ge 28, 3) := by decide +kernel
theorem dX1_alike_7 : decode cX1_alike 7 = .ok (.aload_n 0, 1) := by decide +kernel
theorem dX1_alike_8 : decode cX1_alike 8 = .ok (.iconst 0, 1) := by decide +kernel
theorem dX1_alike_9 : decode cX1_alike 9 = .ok (.iload_n 1, 1) := by decide +kernel
theorem dX1_alike_10 : decode cX1_alike 10 = .ok (.iload_n 2, 1) := by decide +kernel
theorem dX1_alike_11 : decode cX1_alike 11 = .ok (.invokevirtual 27, 3) := by decide +kernel
theorem dX1_alike_14 : decode cX1_alike 14 = .ok (.aload_n 0, 1) := by decide +kernel
theorem dX1_alike_15 : decode cX1_alike 15 = .ok (.iconst 1, 1) := by decide +kernel
theorem dX1_alike_16 : decode cX1_alike 16 = .ok (.iload_n 1, 1) := by decide +kernel
theorem dX1_alike_17 : decode cX1_alike 17 = .ok (.iload_n 2, 1) := by decide +kernel
theorem dX1_alike_18 : decode cX1_alike 18 = .ok (.invokevirtual 27, 3) := by decide +kernel
theorem dX1_alike_21 : decode cX1_alike 21 = .ok (.if_icmp .eq 5, 3) := by decide +kernel
theorem dX1_alike_24 : decode cX1_alike 24 = .ok (.iconst 0, 1) := by decide +kernel
theorem dX1_alike_25 : decode cX1_alike 25 = .ok (.ireturn, 1) := by decide +kernel
theorem dX1_alike_26 : decode cX1_alike 26 = .ok (.iinc 2 1, 3) := by decide +kernel
theorem dX1_alike_29 : decode cX1_alike 29 = .ok (.goto (-27), 3) := by decide +kernel
theorem dX1_alike_32 : decode cX1_alike 32 = .ok (.iconst 1, 1) := by decide +kernel
theorem dX1_alike_33 : decode cX1_alike 33 = .ok (.ireturn, 1) := by decide +kernel
set_option maxRecDepth 20000 in
theorem ggX1_copyWithSum_X8_below : GoodIn wsX1_copyWithSum wsX8_below := goodIn_r _ [3] (by decide +kernel) (by decide +kernel)
set_option maxRecDepth 20000 in
theorem gX1_copyWithSum_X8_below_n19 : GoodIn wsX1_copyWithSum (wsX8_below) := ggX1_copyWithSum_X8_below
set_option maxRecDepth 20000 in
theorem ggX1_copyWithSum_X1_sumOf : GoodIn wsX1_copyWithSum wsX1_sumOf := goodIn_r _ [8, 9, 10, 11, 12, 7, 13, 14, 2, 15, 16] (by decide +kernel) (by decide +kernel)
set_option maxRecDepth 20000 in
theorem gX1_copyWithSum_X1_sumOf : GoodIn wsX1_copyWithSum (wsV RX1 31 RX1 yX1_sumOf wsX1_sumOf) := goodIn_app (goodIn_of _ (by decide +kernel)) ggX1_copyWithSum_X1_sumOf
theorem dX1_copyWithSum_0 : decode cX1_copyWithSum 0 = .ok (.iload_n 1, 1) := by decide +kernel
theorem dX1_copyWithSum_1 : decode cX1_copyWithSum 1 = .ok (.bipush 96, 2) := by decide +kernel
theorem dX1_copyWithSum_3 : decode cX1_copyWithSum 3 = .ok (.invokestatic 19, 3) := by decide +kernel
theorem dX1_copyWithSum_6 : decode cX1_copyWithSum 6 = .ok (.ifCond .ne 5, 3) := by decide +kernel
theorem dX1_copyWithSum_9 : decode cX1_copyWithSum 9 = .ok (.iconst 2, 1) := by decide +kernel
theorem dX1_copyWithSum_10 : decode cX1_copyWithSum 10 = .ok (.ireturn, 1) := by decide +kernel
theorem dX1_copyWithSum_11 : decode cX1_copyWithSum 11 = .ok (.aload_n 0, 1) := by decide +kernel
theorem dX1_copyWithSum_12 : decode cX1_copyWithSum 12 = .ok (.iconst 0, 1) := by decide +kernel
theorem dX1_copyWithSum_13 : decode cX1_copyWithSum 13 = .ok (.iload_n 1, 1) := by decide +kernel
theorem dX1_copyWithSum_14 : decode cX1_copyWithSum 14 = .ok (.invokevirtual 31, 3) := by decide +kernel
theorem dX1_copyWithSum_17 : decode cX1_copyWithSum 17 = .ok (.iload_n 2, 1) := by decide +kernel
theorem dX1_copyWithSum_18 : decode cX1_copyWithSum 18 = .ok (.if_icmp .ne 5, 3) := by decide +kernel
theorem dX1_copyWithSum_21 : decode cX1_copyWithSum 21 = .ok (.iconst 0, 1) := by decide +kernel
theorem dX1_copyWithSum_22 : decode cX1_copyWithSum 22 = .ok (.ireturn, 1) := by decide +kernel
theorem dX1_copyWithSum_23 : decode cX1_copyWithSum 23 = .ok (.aload_n 0, 1) := by decide +kernel
theorem dX1_copyWithSum_24 : decode cX1_copyWithSum 24 = .ok (.iconst 1, 1) := by decide +kernel
theorem dX1_copyWithSum_25 : decode cX1_copyWithSum 25 = .ok (.iload_n 1, 1) := by decide +kernel
theorem dX1_copyWithSum_26 : decode cX1_copyWithSum 26 = .ok (.invokevirtual 31, 3) := by decide +kernel
theorem dX1_copyWithSum_29 : decode cX1_copyWithSum 29 = .ok (.iload_n 2, 1) := by decide +kernel
theorem dX1_copyWithSum_30 : decode cX1_copyWithSum 30 = .ok (.if_icmp .ne 7, 3) := by decide +kernel
theorem dX1_copyWithSum_33 : decode cX1_copyWithSum 33 = .ok (.iconst 1, 1) := by decide +kernel
theorem dX1_copyWithSum_34 : decode cX1_copyWithSum 34 = .ok (.goto 4, 3) := by decide +kernel
theorem dX1_copyWithSum_37 : decode cX1_copyWithSum 37 = .ok (.iconst 2, 1) := by decide +kernel
theorem dX1_copyWithSum_38 : decode cX1_copyWithSum 38 = .ok (.ireturn, 1) := by decide +kernel
set_option maxRecDepth 20000 in
theorem ggX1_lay_X7_numberAt : GoodIn wsX1_lay wsX7_numberAt := goodIn_r _ [5, 6, 7, 8, 9, 20, 21, 22, 23, 24] (by decide +kernel) (by decide +kernel)
set_option maxRecDepth 20000 in
theorem gX1_lay_X7_numberAt : GoodIn wsX1_lay (wsV RX1 34 RX7 yX7_numberAt wsX7_numberAt) := goodIn_app (goodIn_of _ (by decide +kernel)) ggX1_lay_X7_numberAt
set_option maxRecDepth 20000 in
theorem ggX1_lay_X1_put : GoodIn wsX1_lay wsX1_put := goodIn_r _ [14, 15, 16, 17, 18, 13, 19, 7, 8, 9, 25] (by decide +kernel) (by decide +kernel)
set_option maxRecDepth 20000 in
theorem gX1_lay_X1_put : GoodIn wsX1_lay (wsV RX1 38 RX1 yX1_put wsX1_put) := goodIn_app (goodIn_of _ (by decide +kernel)) ggX1_lay_X1_put
theorem dX1_lay_0 : decode cX1_lay 0 = .ok (.iconst 0, 1) := by decide +kernel
theorem dX1_lay_1 : decode cX1_lay 1 = .ok (.istore 6, 2) := by decide +kernel
theorem dX1_lay_3 : decode cX1_lay 3 = .ok (.iload 6, 2) := by decide +kernel
theorem dX1_lay_5 : decode cX1_lay 5 = .ok (.iconst 4, 1) := by decide +kernel
theorem dX1_lay_6 : decode cX1_lay 6 = .ok (.if_icmp .ge 32, 3) := by decide +kernel
theorem dX1_lay_9 : decode cX1_lay 9 = .ok (.iload 6, 2) := by decide +kernel
theorem dX1_lay_11 : decode cX1_lay 11 = .ok (.iload 5, 2) := by decide +kernel
theorem dX1_lay_13 : decode cX1_lay 13 = .ok (.if_icmp .ge 25, 3) := by decide +kernel
theorem dX1_lay_16 : decode cX1_lay 16 = .ok (.aload_n 0, 1) := by decide +kernel
theorem dX1_lay_17 : decode cX1_lay 17 = .ok (.iload_n 1, 1) := by decide +kernel
theorem dX1_lay_18 : decode cX1_lay 18 = .ok (.iload_n 2, 1) := by decide +kernel
theorem dX1_lay_19 : decode cX1_lay 19 = .ok (.iload 6, 2) := by decide +kernel
theorem dX1_lay_21 : decode cX1_lay 21 = .ok (.aload_n 3, 1) := by decide +kernel
theorem dX1_lay_22 : decode cX1_lay 22 = .ok (.iload 4, 2) := by decide +kernel
theorem dX1_lay_24 : decode cX1_lay 24 = .ok (.iload 6, 2) := by decide +kernel
theorem dX1_lay_26 : decode cX1_lay 26 = .ok (.invokevirtual 34, 3) := by decide +kernel
theorem dX1_lay_29 : decode cX1_lay 29 = .ok (.invokevirtual 38, 3) := by decide +kernel
theorem dX1_lay_32 : decode cX1_lay 32 = .ok (.iinc 6 1, 3) := by decide +kernel
theorem dX1_lay_35 : decode cX1_lay 35 = .ok (.goto (-32), 3) := by decide +kernel
theorem dX1_lay_38 : decode cX1_lay 38 = .ok (.return_, 1) := by decide +kernel
theorem dX1_copyFrom_0 : decode cX1_copyFrom 0 = .ok (.aload_n 1, 1) := by decide +kernel
theorem dX1_copyFrom_1 : decode cX1_copyFrom 1 = .ok (.getfield 9, 3) := by decide +kernel
theorem dX1_copyFrom_4 : decode cX1_copyFrom 4 = .ok (.iconst 0, 1) := by decide +kernel
theorem dX1_copyFrom_5 : decode cX1_copyFrom 5 = .ok (.aload_n 0, 1) := by decide +kernel
theorem dX1_copyFrom_6 : decode cX1_copyFrom 6 = .ok (.getfield 9, 3) := by decide +kernel
theorem dX1_copyFrom_9 : decode cX1_copyFrom 9 = .ok (.iconst 0, 1) := by decide +kernel
theorem dX1_copyFrom_10 : decode cX1_copyFrom 10 = .ok (.aload_n 0, 1) := by decide +kernel
theorem dX1_copyFrom_11 : decode cX1_copyFrom 11 = .ok (.getfield 9, 3) := by decide +kernel
theorem dX1_copyFrom_14 : decode cX1_copyFrom 14 = .ok (.arraylength, 1) := by decide +kernel
theorem dX1_copyFrom_15 : decode cX1_copyFrom 15 = .ok (.invokestatic 42, 3) := by decide +kernel
theorem dX1_copyFrom_18 : decode cX1_copyFrom 18 = .ok (.return_, 1) := by decide +kernel
set_option maxRecDepth 20000 in
theorem ggX2_init_X5_init : GoodIn wsX2_init wsX5_init := goodIn_r _ [9, 10, 2, 3, 11, 12, 13, 14, 15, 16, 17, 18, 19, 20, 21, 22, 23, 24, 25, 26, 27, 28, 29, 30, 31, 32, 33, 34, 35, 36, 37, 38, 39, 47, 42, 43, 44, 45, 46, 48, 49, 50, 51, 52] (by decide +kernel) (by decide +kernel)
set_option maxRecDepth 20000 in
theorem gX2_init_X5_init_n17 : GoodIn wsX2_init (wsX5_init) := ggX2_init_X5_init
theorem dX2_init_0 : decode cX2_init 0 = .ok (.aload_n 0, 1) := by decide +kernel
theorem dX2_init_1 : decode cX2_init 1 = .ok (.invokespecial 3, 3) := by decide +kernel
theorem dX2_init_4 : decode cX2_init 4 = .ok (.aload_n 0, 1) := by decide +kernel
theorem dX2_init_5 : decode cX2_init 5 = .ok (.iconst 3, 1) := by decide +kernel
theorem dX2_init_6 : decode cX2_init 6 = .ok (.anewarray 9, 3) := by decide +kernel
theorem dX2_init_9 : decode cX2_init 9 = .ok (.putfield 11, 3) := by decide +kernel
theorem dX2_init_12 : decode cX2_init 12 = .ok (.iconst 0, 1) := by decide +kernel
theorem dX2_init_13 : decode cX2_init 13 = .ok (.istore_n 1, 1) := by decide +kernel
theorem dX2_init_14 : decode cX2_init 14 = .ok (.iload_n 1, 1) := by decide +kernel
theorem dX2_init_15 : decode cX2_init 15 = .ok (.iconst 3, 1) := by decide +kernel
theorem dX2_init_16 : decode cX2_init 16 = .ok (.if_icmp .ge 22, 3) := by decide +kernel
theorem dX2_init_19 : decode cX2_init 19 = .ok (.aload_n 0, 1) := by decide +kernel
theorem dX2_init_20 : decode cX2_init 20 = .ok (.getfield 11, 3) := by decide +kernel
theorem dX2_init_23 : decode cX2_init 23 = .ok (.iload_n 1, 1) := by decide +kernel
theorem dX2_init_24 : decode cX2_init 24 = .ok (.new 9, 3) := by decide +kernel
theorem dX2_init_27 : decode cX2_init 27 = .ok (.dup, 1) := by decide +kernel
theorem dX2_init_28 : decode cX2_init 28 = .ok (.invokespecial 17, 3) := by decide +kernel
theorem dX2_init_31 : decode cX2_init 31 = .ok (.aastore, 1) := by decide +kernel
theorem dX2_init_32 : decode cX2_init 32 = .ok (.iinc 1 1, 3) := by decide +kernel
theorem dX2_init_35 : decode cX2_init 35 = .ok (.goto (-21), 3) := by decide +kernel
theorem dX2_init_38 : decode cX2_init 38 = .ok (.return_, 1) := by decide +kernel
theorem dX2_size_0 : decode cX2_size 0 = .ok (.aload_n 0, 1) := by decide +kernel
theorem dX2_size_1 : decode cX2_size 1 = .ok (.getfield 18, 3) := by decide +kernel
theorem dX2_size_4 : decode cX2_size 4 = .ok (.ireturn, 1) := by decide +kernel
set_option maxRecDepth 20000 in
theorem ggX2_keep_X2_dropOldest : GoodIn wsX2_keep wsX2_dropOldest := goodIn_r _ [7, 2, 1, 46, 47] (by decide +kernel) (by decide +kernel)
set_option maxRecDepth 20000 in
theorem gX2_keep_X2_dropOldest : GoodIn wsX2_keep (wsV RX2 22 RX2 yX2_dropOldest wsX2_dropOldest) := goodIn_app (goodIn_of _ (by decide +kernel)) ggX2_keep_X2_dropOldest
set_option maxRecDepth 20000 in
theorem ggX2_keep_X8_below : GoodIn wsX2_keep wsX8_below := goodIn_r _ [10] (by decide +kernel) (by decide +kernel)
set_option maxRecDepth 20000 in
theorem gX2_keep_X8_below_n25 : GoodIn wsX2_keep (wsX8_below) := ggX2_keep_X8_below
set_option maxRecDepth 20000 in
theorem ggX2_keep_X5_copyFrom : GoodIn wsX2_keep wsX5_copyFrom := goodIn_r _ [15, 16, 17, 18, 19, 20, 21, 22, 23, 24, 25, 26, 27, 28, 29, 30, 31, 32, 33, 34, 35, 36, 37, 38, 39, 40, 41, 42, 43, 44, 45, 48, 49, 50, 51, 52, 53, 54, 55, 56, 57, 58] (by decide +kernel) (by decide +kernel)
set_option maxRecDepth 20000 in
theorem gX2_keep_X5_copyFrom : GoodIn wsX2_keep (wsV RX2 29 RX5 yX5_copyFrom wsX5_copyFrom) := goodIn_app (goodIn_of _ (by decide +kernel)) ggX2_keep_X5_copyFrom
theorem dX2_keep_0 : decode cX2_keep 0 = .ok (.aload_n 0, 1) := by decide +kernel
theorem dX2_keep_1 : decode cX2_keep 1 = .ok (.getfield 18, 3) := by decide +kernel
theorem dX2_keep_4 : decode cX2_keep 4 = .ok (.iconst 3, 1) := by decide +kernel
theorem dX2_keep_5 : decode cX2_keep 5 = .ok (.if_icmp .lt 7, 3) := by decide +kernel
theorem dX2_keep_8 : decode cX2_keep 8 = .ok (.aload_n 0, 1) := by decide +kernel
theorem dX2_keep_9 : decode cX2_keep 9 = .ok (.invokevirtual 22, 3) := by decide +kernel
theorem dX2_keep_12 : decode cX2_keep 12 = .ok (.aload_n 0, 1) := by decide +kernel
theorem dX2_keep_13 : decode cX2_keep 13 = .ok (.getfield 18, 3) := by decide +kernel
theorem dX2_keep_16 : decode cX2_keep 16 = .ok (.iconst 3, 1) := by decide +kernel
theorem dX2_keep_17 : decode cX2_keep 17 = .ok (.invokestatic 25, 3) := by decide +kernel
theorem dX2_keep_20 : decode cX2_keep 20 = .ok (.ifCond .eq 26, 3) := by decide +kernel
theorem dX2_keep_23 : decode cX2_keep 23 = .ok (.aload_n 0, 1) := by decide +kernel
theorem dX2_keep_24 : decode cX2_keep 24 = .ok (.getfield 11, 3) := by decide +kernel
theorem dX2_keep_27 : decode cX2_keep 27 = .ok (.aload_n 0, 1) := by decide +kernel
theorem dX2_keep_28 : decode cX2_keep 28 = .ok (.getfield 18, 3) := by decide +kernel
theorem dX2_keep_31 : decode cX2_keep 31 = .ok (.aaload, 1) := by decide +kernel
theorem dX2_keep_32 : decode cX2_keep 32 = .ok (.aload_n 1, 1) := by decide +kernel
theorem dX2_keep_33 : decode cX2_keep 33 = .ok (.invokevirtual 29, 3) := by decide +kernel
theorem dX2_keep_36 : decode cX2_keep 36 = .ok (.aload_n 0, 1) := by decide +kernel
theorem dX2_keep_37 : decode cX2_keep 37 = .ok (.dup, 1) := by decide +kernel
theorem dX2_keep_38 : decode cX2_keep 38 = .ok (.getfield 18, 3) := by decide +kernel
theorem dX2_keep_41 : decode cX2_keep 41 = .ok (.iconst 1, 1) := by decide +kernel
theorem dX2_keep_42 : decode cX2_keep 42 = .ok (.iadd, 1) := by decide +kernel
theorem dX2_keep_43 : decode cX2_keep 43 = .ok (.putfield 18, 3) := by decide +kernel
theorem dX2_keep_46 : decode cX2_keep 46 = .ok (.return_, 1) := by decide +kernel
theorem dX2_dropOldest_0 : decode cX2_dropOldest 0 = .ok (.aload_n 0, 1) := by decide +kernel
theorem dX2_dropOldest_1 : decode cX2_dropOldest 1 = .ok (.getfield 11, 3) := by decide +kernel
theorem dX2_dropOldest_4 : decode cX2_dropOldest 4 = .ok (.iconst 0, 1) := by decide +kernel
theorem dX2_dropOldest_5 : decode cX2_dropOldest 5 = .ok (.aaload, 1) := by decide +kernel
theorem dX2_dropOldest_6 : decode cX2_dropOldest 6 = .ok (.astore_n 1, 1) := by decide +kernel
theorem dX2_dropOldest_7 : decode cX2_dropOldest 7 = .ok (.iconst 1, 1) := by decide +kernel
theorem dX2_dropOldest_8 : decode cX2_dropOldest 8 = .ok (.istore_n 2, 1) := by decide +kernel
theorem dX2_dropOldest_9 : decode cX2_dropOldest 9 = .ok (.iload_n 2, 1) := by decide +kernel
theorem dX2_dropOldest_10 : decode cX2_dropOldest 10 = .ok (.iconst 3, 1) := by decide +kernel
theorem dX2_dropOldest_11 : decode cX2_dropOldest 11 = .ok (.if_icmp .ge 23, 3) := by decide +kernel
theorem dX2_dropOldest_14 : decode cX2_dropOldest 14 = .ok (.aload_n 0, 1) := by decide +kernel
theorem dX2_dropOldest_15 : decode cX2_dropOldest 15 = .ok (.getfield 11, 3) := by decide +kernel
theorem dX2_dropOldest_18 : decode cX2_dropOldest 18 = .ok (.iload_n 2, 1) := by decide +kernel
theorem dX2_dropOldest_19 : decode cX2_dropOldest 19 = .ok (.iconst 1, 1) := by decide +kernel
theorem dX2_dropOldest_20 : decode cX2_dropOldest 20 = .ok (.isub, 1) := by decide +kernel
theorem dX2_dropOldest_21 : decode cX2_dropOldest 21 = .ok (.aload_n 0, 1) := by decide +kernel
theorem dX2_dropOldest_22 : decode cX2_dropOldest 22 = .ok (.getfield 11, 3) := by decide +kernel
theorem dX2_dropOldest_25 : decode cX2_dropOldest 25 = .ok (.iload_n 2, 1) := by decide +kernel
theorem dX2_dropOldest_26 : decode cX2_dropOldest 26 = .ok (.aaload, 1) := by decide +kernel
theorem dX2_dropOldest_27 : decode cX2_dropOldest 27 = .ok (.aastore, 1) := by decide +kernel
theorem dX2_dropOldest_28 : decode cX2_dropOldest 28 = .ok (.iinc 2 1, 3) := by decide +kernel
theorem dX2_dropOldest_31 : decode cX2_dropOldest 31 = .ok (.goto (-22), 3) := by decide +kernel
theorem dX2_dropOldest_34 : decode cX2_dropOldest 34 = .ok (.aload_n 0, 1) := by decide +kernel
theorem dX2_dropOldest_35 : decode cX2_dropOldest 35 = .ok (.getfield 11, 3) := by decide +kernel
theorem dX2_dropOldest_38 : decode cX2_dropOldest 38 = .ok (.iconst 2, 1) := by decide +kernel
theorem dX2_dropOldest_39 : decode cX2_dropOldest 39 = .ok (.aload_n 1, 1) := by decide +kernel
theorem dX2_dropOldest_40 : decode cX2_dropOldest 40 = .ok (.aastore, 1) := by decide +kernel
theorem dX2_dropOldest_41 : decode cX2_dropOldest 41 = .ok (.aload_n 0, 1) := by decide +kernel
theorem dX2_dropOldest_42 : decode cX2_dropOldest 42 = .ok (.iconst 2, 1) := by decide +kernel
theorem dX2_dropOldest_43 : decode cX2_dropOldest 43 = .ok (.putfield 18, 3) := by decide +kernel
theorem dX2_dropOldest_46 : decode cX2_dropOldest 46 = .ok (.return_, 1) := by decide +kernel
theorem dX3_init_0 : decode cX3_init 0 = .ok (.aload_n 0, 1) := by decide +kernel
theorem dX3_init_1 : decode cX3_init 1 = .ok (.invokespecial 3, 3) := by decide +kernel
theorem dX3_init_4 : decode cX3_init 4 = .ok (.aload_n 0, 1) := by decide +kernel
theorem dX3_init_5 : decode cX3_init 5 = .ok (.bipush 8, 2) := by decide +kernel
theorem dX3_init_7 : decode cX3_init 7 = .ok (.newarray .int, 2) := by decide +kernel
theorem dX3_init_9 : decode cX3_init 9 = .ok (.putfield 9, 3) := by decide +kernel
theorem dX3_init_12 : decode cX3_init 12 = .ok (.aload_n 0, 1) := by decide +kernel
theorem dX3_init_13 : decode cX3_init 13 = .ok (.bipush 8, 2) := by decide +kernel
theorem dX3_init_15 : decode cX3_init 15 = .ok (.newarray .int, 2) := by decide +kernel
theorem dX3_init_17 : decode cX3_init 17 = .ok (.putfield 15, 3) := by decide +kernel
theorem dX3_init_20 : decode cX3_init 20 = .ok (.aload_n 0, 1) := by decide +kernel
theorem dX3_init_21 : decode cX3_init 21 = .ok (.bipush 8, 2) := by decide +kernel
theorem dX3_init_23 : decode cX3_init 23 = .ok (.newarray .int, 2) := by decide +kernel
theorem dX3_init_25 : decode cX3_init 25 = .ok (.putfield 18, 3) := by decide +kernel
theorem dX3_init_28 : decode cX3_init 28 = .ok (.return_, 1) := by decide +kernel
theorem dX3_size_0 : decode cX3_size 0 = .ok (.aload_n 0, 1) := by decide +kernel
theorem dX3_size_1 : decode cX3_size 1 = .ok (.getfield 21, 3) := by decide +kernel
theorem dX3_size_4 : decode cX3_size 4 = .ok (.ireturn, 1) := by decide +kernel
set_option maxRecDepth 20000 in
theorem ggX3_numberAt_X8_below : GoodIn wsX3_numberAt wsX8_below := goodIn_r _ [4] (by decide +kernel) (by decide +kernel)
set_option maxRecDepth 20000 in
theorem gX3_numberAt_X8_below_n25 : GoodIn wsX3_numberAt (wsX8_below) := ggX3_numberAt_X8_below
theorem dX3_numberAt_0 : decode cX3_numberAt 0 = .ok (.iload_n 1, 1) := by decide +kernel
theorem dX3_numberAt_1 : decode cX3_numberAt 1 = .ok (.bipush 8, 2) := by decide +kernel
theorem dX3_numberAt_3 : decode cX3_numberAt 3 = .ok (.invokestatic 25, 3) := by decide +kernel
theorem dX3_numberAt_6 : decode cX3_numberAt 6 = .ok (.ifCond .eq 12, 3) := by decide +kernel
theorem dX3_numberAt_9 : decode cX3_numberAt 9 = .ok (.aload_n 0, 1) := by decide +kernel
theorem dX3_numberAt_10 : decode cX3_numberAt 10 = .ok (.getfield 9, 3) := by decide +kernel
theorem dX3_numberAt_13 : decode cX3_numberAt 13 = .ok (.iload_n 1, 1) := by decide +kernel
theorem dX3_numberAt_14 : decode cX3_numberAt 14 = .ok (.iaload, 1) := by decide +kernel
theorem dX3_numberAt_15 : decode cX3_numberAt 15 = .ok (.goto 4, 3) := by decide +kernel
theorem dX3_numberAt_18 : decode cX3_numberAt 18 = .ok (.iconst 0, 1) := by decide +kernel
theorem dX3_numberAt_19 : decode cX3_numberAt 19 = .ok (.ireturn, 1) := by decide +kernel
set_option maxRecDepth 20000 in
theorem ggX3_blockAt_X8_below : GoodIn wsX3_blockAt wsX8_below := goodIn_r _ [4] (by decide +kernel) (by decide +kernel)
set_option maxRecDepth 20000 in
theorem gX3_blockAt_X8_below_n25 : GoodIn wsX3_blockAt (wsX8_below) := ggX3_blockAt_X8_below
theorem dX3_blockAt_0 : decode cX3_blockAt 0 = .ok (.iload_n 1, 1) := by decide +kernel
theorem dX3_blockAt_1 : decode cX3_blockAt 1 = .ok (.bipush 8, 2) := by decide +kernel
theorem dX3_blockAt_3 : decode cX3_blockAt 3 = .ok (.invokestatic 25, 3) := by decide +kernel
theorem dX3_blockAt_6 : decode cX3_blockAt 6 = .ok (.ifCond .eq 12, 3) := by decide +kernel
theorem dX3_blockAt_9 : decode cX3_blockAt 9 = .ok (.aload_n 0, 1) := by decide +kernel
theorem dX3_blockAt_10 : decode cX3_blockAt 10 = .ok (.getfield 15, 3) := by decide +kernel
theorem dX3_blockAt_13 : decode cX3_blockAt 13 = .ok (.iload_n 1, 1) := by decide +kernel
theorem dX3_blockAt_14 : decode cX3_blockAt 14 = .ok (.iaload, 1) := by decide +kernel
theorem dX3_blockAt_15 : decode cX3_blockAt 15 = .ok (.goto 5, 3) := by decide +kernel
theorem dX3_blockAt_18 : decode cX3_blockAt 18 = .ok (.bipush 96, 2) := by decide +kernel
theorem dX3_blockAt_20 : decode cX3_blockAt 20 = .ok (.ireturn, 1) := by decide +kernel
set_option maxRecDepth 20000 in
theorem ggX3_sumAt_X8_below : GoodIn wsX3_sumAt wsX8_below := goodIn_r _ [4] (by decide +kernel) (by decide +kernel)
set_option maxRecDepth 20000 in
theorem gX3_sumAt_X8_below_n25 : GoodIn wsX3_sumAt (wsX8_below) := ggX3_sumAt_X8_below
theorem dX3_sumAt_0 : decode cX3_sumAt 0 = .ok (.iload_n 1, 1) := by decide +kernel
theorem dX3_sumAt_1 : decode cX3_sumAt 1 = .ok (.bipush 8, 2) := by decide +kernel
theorem dX3_sumAt_3 : decode cX3_sumAt 3 = .ok (.invokestatic 25, 3) := by decide +kernel
theorem dX3_sumAt_6 : decode cX3_sumAt 6 = .ok (.ifCond .eq 12, 3) := by decide +kernel
theorem dX3_sumAt_9 : decode cX3_sumAt 9 = .ok (.aload_n 0, 1) := by decide +kernel
theorem dX3_sumAt_10 : decode cX3_sumAt 10 = .ok (.getfield 18, 3) := by decide +kernel
theorem dX3_sumAt_13 : decode cX3_sumAt 13 = .ok (.iload_n 1, 1) := by decide +kernel
theorem dX3_sumAt_14 : decode cX3_sumAt 14 = .ok (.iaload, 1) := by decide +kernel
theorem dX3_sumAt_15 : decode cX3_sumAt 15 = .ok (.goto 4, 3) := by decide +kernel
theorem dX3_sumAt_18 : decode cX3_sumAt 18 = .ok (.iconst (-1), 1) := by decide +kernel
theorem dX3_sumAt_19 : decode cX3_sumAt 19 = .ok (.ireturn, 1) := by decide +kernel
set_option maxRecDepth 20000 in
theorem ggX3_addLatest_X3_move : GoodIn wsX3_addLatest wsX3_move := goodIn_r _ [9, 2, 3, 4, 10, 11, 12, 13, 14, 15, 16] (by decide +kernel) (by decide +kernel)
set_option maxRecDepth 20000 in
theorem gX3_addLatest_X3_move : GoodIn wsX3_addLatest (wsV RX3 29 RX3 yX3_move wsX3_move) := goodIn_app (goodIn_of _ (by decide +kernel)) ggX3_addLatest_X3_move
theorem dX3_addLatest_0 : decode cX3_addLatest 0 = .ok (.aload_n 0, 1) := by decide +kernel
theorem dX3_addLatest_1 : decode cX3_addLatest 1 = .ok (.getfield 21, 3) := by decide +kernel
theorem dX3_addLatest_4 : decode cX3_addLatest 4 = .ok (.bipush 8, 2) := by decide +kernel
theorem dX3_addLatest_6 : decode cX3_addLatest 6 = .ok (.if_icmp .lt 4, 3) := by decide +kernel
theorem dX3_addLatest_9 : decode cX3_addLatest 9 = .ok (.return_, 1) := by decide +kernel
theorem dX3_addLatest_10 : decode cX3_addLatest 10 = .ok (.aload_n 0, 1) := by decide +kernel
theorem dX3_addLatest_11 : decode cX3_addLatest 11 = .ok (.getfield 21, 3) := by decide +kernel
theorem dX3_addLatest_14 : decode cX3_addLatest 14 = .ok (.istore 4, 2) := by decide +kernel
theorem dX3_addLatest_16 : decode cX3_addLatest 16 = .ok (.iload 4, 2) := by decide +kernel
theorem dX3_addLatest_18 : decode cX3_addLatest 18 = .ok (.ifCond .le 19, 3) := by decide +kernel
theorem dX3_addLatest_21 : decode cX3_addLatest 21 = .ok (.aload_n 0, 1) := by decide +kernel
theorem dX3_addLatest_22 : decode cX3_addLatest 22 = .ok (.iload 4, 2) := by decide +kernel
theorem dX3_addLatest_24 : decode cX3_addLatest 24 = .ok (.iconst 1, 1) := by decide +kernel
theorem dX3_addLatest_25 : decode cX3_addLatest 25 = .ok (.isub, 1) := by decide +kernel
theorem dX3_addLatest_26 : decode cX3_addLatest 26 = .ok (.iload 4, 2) := by decide +kernel
theorem dX3_addLatest_28 : decode cX3_addLatest 28 = .ok (.invokevirtual 29, 3) := by decide +kernel
theorem dX3_addLatest_31 : decode cX3_addLatest 31 = .ok (.iinc 4 (-1), 3) := by decide +kernel
theorem dX3_addLatest_34 : decode cX3_addLatest 34 = .ok (.goto (-18), 3) := by decide +kernel
theorem dX3_addLatest_37 : decode cX3_addLatest 37 = .ok (.aload_n 0, 1) := by decide +kernel
theorem dX3_addLatest_38 : decode cX3_addLatest 38 = .ok (.getfield 9, 3) := by decide +kernel
theorem dX3_addLatest_41 : decode cX3_addLatest 41 = .ok (.iconst 0, 1) := by decide +kernel
theorem dX3_addLatest_42 : decode cX3_addLatest 42 = .ok (.iload_n 1, 1) := by decide +kernel
theorem dX3_addLatest_43 : decode cX3_addLatest 43 = .ok (.iastore, 1) := by decide +kernel
theorem dX3_addLatest_44 : decode cX3_addLatest 44 = .ok (.aload_n 0, 1) := by decide +kernel
theorem dX3_addLatest_45 : decode cX3_addLatest 45 = .ok (.getfield 15, 3) := by decide +kernel
theorem dX3_addLatest_48 : decode cX3_addLatest 48 = .ok (.iconst 0, 1) := by decide +kernel
theorem dX3_addLatest_49 : decode cX3_addLatest 49 = .ok (.iload_n 2, 1) := by decide +kernel
theorem dX3_addLatest_50 : decode cX3_addLatest 50 = .ok (.iastore, 1) := by decide +kernel
theorem dX3_addLatest_51 : decode cX3_addLatest 51 = .ok (.aload_n 0, 1) := by decide +kernel
theorem dX3_addLatest_52 : decode cX3_addLatest 52 = .ok (.getfield 18, 3) := by decide +kernel
theorem dX3_addLatest_55 : decode cX3_addLatest 55 = .ok (.iconst 0, 1) := by decide +kernel
theorem dX3_addLatest_56 : decode cX3_addLatest 56 = .ok (.iload_n 3, 1) := by decide +kernel
theorem dX3_addLatest_57 : decode cX3_addLatest 57 = .ok (.iastore, 1) := by decide +kernel
theorem dX3_addLatest_58 : decode cX3_addLatest 58 = .ok (.aload_n 0, 1) := by decide +kernel
theorem dX3_addLatest_59 : decode cX3_addLatest 59 = .ok (.dup, 1) := by decide +kernel
theorem dX3_addLatest_60 : decode cX3_addLatest 60 = .ok (.getfield 21, 3) := by decide +kernel
theorem dX3_addLatest_63 : decode cX3_addLatest 63 = .ok (.iconst 1, 1) := by decide +kernel
theorem dX3_addLatest_64 : decode cX3_addLatest 64 = .ok (.iadd, 1) := by decide +kernel
theorem dX3_addLatest_65 : decode cX3_addLatest 65 = .ok (.putfield 21, 3) := by decide +kernel
theorem dX3_addLatest_68 : decode cX3_addLatest 68 = .ok (.return_, 1) := by decide +kernel
set_option maxRecDepth 20000 in
theorem ggX3_remove_X3_move : GoodIn wsX3_remove wsX3_move := goodIn_r _ [6, 7, 8, 9, 10, 11, 12, 13, 14, 15, 16] (by decide +kernel) (by decide +kernel)
set_option maxRecDepth 20000 in
theorem gX3_remove_X3_move : GoodIn wsX3_remove (wsV RX3 29 RX3 yX3_move wsX3_move) := goodIn_app (goodIn_of _ (by decide +kernel)) ggX3_remove_X3_move
theorem dX3_remove_0 : decode cX3_remove 0 = .ok (.iload_n 1, 1) := by decide +kernel
theorem dX3_remove_1 : decode cX3_remove 1 = .ok (.ifCond .lt 17, 3) := by decide +kernel
theorem dX3_remove_4 : decode cX3_remove 4 = .ok (.iload_n 2, 1) := by decide +kernel
theorem dX3_remove_5 : decode cX3_remove 5 = .ok (.ifCond .lt 13, 3) := by decide +kernel
theorem dX3_remove_8 : decode cX3_remove 8 = .ok (.iload_n 2, 1) := by decide +kernel
theorem dX3_remove_9 : decode cX3_remove 9 = .ok (.aload_n 0, 1) := by decide +kernel
theorem dX3_remove_10 : decode cX3_remove 10 = .ok (.getfield 21, 3) := by decide +kernel
theorem dX3_remove_13 : decode cX3_remove 13 = .ok (.iload_n 1, 1) := by decide +kernel
theorem dX3_remove_14 : decode cX3_remove 14 = .ok (.isub, 1) := by decide +kernel
theorem dX3_remove_15 : decode cX3_remove 15 = .ok (.if_icmp .le 4, 3) := by decide +kernel
theorem dX3_remove_18 : decode cX3_remove 18 = .ok (.return_, 1) := by decide +kernel
theorem dX3_remove_19 : decode cX3_remove 19 = .ok (.iload_n 1, 1) := by decide +kernel
theorem dX3_remove_20 : decode cX3_remove 20 = .ok (.iload_n 2, 1) := by decide +kernel
theorem dX3_remove_21 : decode cX3_remove 21 = .ok (.iadd, 1) := by decide +kernel
theorem dX3_remove_22 : decode cX3_remove 22 = .ok (.istore_n 3, 1) := by decide +kernel
theorem dX3_remove_23 : decode cX3_remove 23 = .ok (.iload_n 3, 1) := by decide +kernel
theorem dX3_remove_24 : decode cX3_remove 24 = .ok (.aload_n 0, 1) := by decide +kernel
theorem dX3_remove_25 : decode cX3_remove 25 = .ok (.getfield 21, 3) := by decide +kernel
theorem dX3_remove_28 : decode cX3_remove 28 = .ok (.if_icmp .ge 17, 3) := by decide +kernel
theorem dX3_remove_31 : decode cX3_remove 31 = .ok (.aload_n 0, 1) := by decide +kernel
theorem dX3_remove_32 : decode cX3_remove 32 = .ok (.iload_n 3, 1) := by decide +kernel
theorem dX3_remove_33 : decode cX3_remove 33 = .ok (.iload_n 3, 1) := by decide +kernel
theorem dX3_remove_34 : decode cX3_remove 34 = .ok (.iload_n 2, 1) := by decide +kernel
theorem dX3_remove_35 : decode cX3_remove 35 = .ok (.isub, 1) := by decide +kernel
theorem dX3_remove_36 : decode cX3_remove 36 = .ok (.invokevirtual 29, 3) := by decide +kernel
theorem dX3_remove_39 : decode cX3_remove 39 = .ok (.iinc 3 1, 3) := by decide +kernel
theorem dX3_remove_42 : decode cX3_remove 42 = .ok (.goto (-19), 3) := by decide +kernel
theorem dX3_remove_45 : decode cX3_remove 45 = .ok (.aload_n 0, 1) := by decide +kernel
theorem dX3_remove_46 : decode cX3_remove 46 = .ok (.dup, 1) := by decide +kernel
theorem dX3_remove_47 : decode cX3_remove 47 = .ok (.getfield 21, 3) := by decide +kernel
theorem dX3_remove_50 : decode cX3_remove 50 = .ok (.iload_n 2, 1) := by decide +kernel
theorem dX3_remove_51 : decode cX3_remove 51 = .ok (.isub, 1) := by decide +kernel
theorem dX3_remove_52 : decode cX3_remove 52 = .ok (.putfield 21, 3) := by decide +kernel
theorem dX3_remove_55 : decode cX3_remove 55 = .ok (.return_, 1) := by decide +kernel
set_option maxRecDepth 20000 in
theorem ggX3_move_X8_below : GoodIn wsX3_move wsX8_below := goodIn_r _ [6] (by decide +kernel) (by decide +kernel)
set_option maxRecDepth 20000 in
theorem gX3_move_X8_below_n25 : GoodIn wsX3_move (wsX8_below) := ggX3_move_X8_below
theorem dX3_move_0 : decode cX3_move 0 = .ok (.iload_n 1, 1) := by decide +kernel
theorem dX3_move_1 : decode cX3_move 1 = .ok (.bipush 8, 2) := by decide +kernel
theorem dX3_move_3 : decode cX3_move 3 = .ok (.invokestatic 25, 3) := by decide +kernel
theorem dX3_move_6 : decode cX3_move 6 = .ok (.ifCond .eq 48, 3) := by decide +kernel
theorem dX3_move_9 : decode cX3_move 9 = .ok (.iload_n 2, 1) := by decide +kernel
theorem dX3_move_10 : decode cX3_move 10 = .ok (.bipush 8, 2) := by decide +kernel
theorem dX3_move_12 : decode cX3_move 12 = .ok (.invokestatic 25, 3) := by decide +kernel
theorem dX3_move_15 : decode cX3_move 15 = .ok (.ifCond .eq 39, 3) := by decide +kernel
theorem dX3_move_18 : decode cX3_move 18 = .ok (.aload_n 0, 1) := by decide +kernel
theorem dX3_move_19 : decode cX3_move 19 = .ok (.getfield 9, 3) := by decide +kernel
theorem dX3_move_22 : decode cX3_move 22 = .ok (.iload_n 2, 1) := by decide +kernel
theorem dX3_move_23 : decode cX3_move 23 = .ok (.aload_n 0, 1) := by decide +kernel
theorem dX3_move_24 : decode cX3_move 24 = .ok (.getfield 9, 3) := by decide +kernel
theorem dX3_move_27 : decode cX3_move 27 = .ok (.iload_n 1, 1) := by decide +kernel
theorem dX3_move_28 : decode cX3_move 28 = .ok (.iaload, 1) := by decide +kernel
theorem dX3_move_29 : decode cX3_move 29 = .ok (.iastore, 1) := by decide +kernel
theorem dX3_move_30 : decode cX3_move 30 = .ok (.aload_n 0, 1) := by decide +kernel
theorem dX3_move_31 : decode cX3_move 31 = .ok (.getfield 15, 3) := by decide +kernel
theorem dX3_move_34 : decode cX3_move 34 = .ok (.iload_n 2, 1) := by decide +kernel
theorem dX3_move_35 : decode cX3_move 35 = .ok (.aload_n 0, 1) := by decide +kernel
theorem dX3_move_36 : decode cX3_move 36 = .ok (.getfield 15, 3) := by decide +kernel
theorem dX3_move_39 : decode cX3_move 39 = .ok (.iload_n 1, 1) := by decide +kernel
theorem dX3_move_40 : decode cX3_move 40 = .ok (.iaload, 1) := by decide +kernel
theorem dX3_move_41 : decode cX3_move 41 = .ok (.iastore, 1) := by decide +kernel
theorem dX3_move_42 : decode cX3_move 42 = .ok (.aload_n 0, 1) := by decide +kernel
theorem dX3_move_43 : decode cX3_move 43 = .ok (.getfield 18, 3) := by decide +kernel
theorem dX3_move_46 : decode cX3_move 46 = .ok (.iload_n 2, 1) := by decide +kernel
theorem dX3_move_47 : decode cX3_move 47 = .ok (.aload_n 0, 1) := by decide +kernel
theorem dX3_move_48 : decode cX3_move 48 = .ok (.getfield 18, 3) := by decide +kernel
theorem dX3_move_51 : decode cX3_move 51 = .ok (.iload_n 1, 1) := by decide +kernel
theorem dX3_move_52 : decode cX3_move 52 = .ok (.iaload, 1) := by decide +kernel
theorem dX3_move_53 : decode cX3_move 53 = .ok (.iastore, 1) := by decide +kernel
theorem dX3_move_54 : decode cX3_move 54 = .ok (.return_, 1) := by decide +kernel
theorem dX3_copyFrom_0 : decode cX3_copyFrom 0 = .ok (.iconst 0, 1) := by decide +kernel
theorem dX3_copyFrom_1 : decode cX3_copyFrom 1 = .ok (.istore_n 2, 1) := by decide +kernel
theorem dX3_copyFrom_2 : decode cX3_copyFrom 2 = .ok (.iload_n 2, 1) := by decide +kernel
theorem dX3_copyFrom_3 : decode cX3_copyFrom 3 = .ok (.bipush 8, 2) := by decide +kernel
theorem dX3_copyFrom_5 : decode cX3_copyFrom 5 = .ok (.if_icmp .ge 45, 3) := by decide +kernel
theorem dX3_copyFrom_8 : decode cX3_copyFrom 8 = .ok (.aload_n 0, 1) := by decide +kernel
theorem dX3_copyFrom_9 : decode cX3_copyFrom 9 = .ok (.getfield 9, 3) := by decide +kernel
theorem dX3_copyFrom_12 : decode cX3_copyFrom 12 = .ok (.iload_n 2, 1) := by decide +kernel
theorem dX3_copyFrom_13 : decode cX3_copyFrom 13 = .ok (.aload_n 1, 1) := by decide +kernel
theorem dX3_copyFrom_14 : decode cX3_copyFrom 14 = .ok (.getfield 9, 3) := by decide +kernel
theorem dX3_copyFrom_17 : decode cX3_copyFrom 17 = .ok (.iload_n 2, 1) := by decide +kernel
theorem dX3_copyFrom_18 : decode cX3_copyFrom 18 = .ok (.iaload, 1) := by decide +kernel
theorem dX3_copyFrom_19 : decode cX3_copyFrom 19 = .ok (.iastore, 1) := by decide +kernel
theorem dX3_copyFrom_20 : decode cX3_copyFrom 20 = .ok (.aload_n 0, 1) := by decide +kernel
theorem dX3_copyFrom_21 : decode cX3_copyFrom 21 = .ok (.getfield 15, 3) := by decide +kernel
theorem dX3_copyFrom_24 : decode cX3_copyFrom 24 = .ok (.iload_n 2, 1) := by decide +kernel
theorem dX3_copyFrom_25 : decode cX3_copyFrom 25 = .ok (.aload_n 1, 1) := by decide +kernel
theorem dX3_copyFrom_26 : decode cX3_copyFrom 26 = .ok (.getfield 15, 3) := by decide +kernel
theorem dX3_copyFrom_29 : decode cX3_copyFrom 29 = .ok (.iload_n 2, 1) := by decide +kernel
theorem dX3_copyFrom_30 : decode cX3_copyFrom 30 = .ok (.iaload, 1) := by decide +kernel
theorem dX3_copyFrom_31 : decode cX3_copyFrom 31 = .ok (.iastore, 1) := by decide +kernel
theorem dX3_copyFrom_32 : decode cX3_copyFrom 32 = .ok (.aload_n 0, 1) := by decide +kernel
theorem dX3_copyFrom_33 : decode cX3_copyFrom 33 = .ok (.getfield 18, 3) := by decide +kernel
theorem dX3_copyFrom_36 : decode cX3_copyFrom 36 = .ok (.iload_n 2, 1) := by decide +kernel
theorem dX3_copyFrom_37 : decode cX3_copyFrom 37 = .ok (.aload_n 1, 1) := by decide +kernel
theorem dX3_copyFrom_38 : decode cX3_copyFrom 38 = .ok (.getfield 18, 3) := by decide +kernel
theorem dX3_copyFrom_41 : decode cX3_copyFrom 41 = .ok (.iload_n 2, 1) := by decide +kernel
theorem dX3_copyFrom_42 : decode cX3_copyFrom 42 = .ok (.iaload, 1) := by decide +kernel
theorem dX3_copyFrom_43 : decode cX3_copyFrom 43 = .ok (.iastore, 1) := by decide +kernel
theorem dX3_copyFrom_44 : decode cX3_copyFrom 44 = .ok (.iinc 2 1, 3) := by decide +kernel
theorem dX3_copyFrom_47 : decode cX3_copyFrom 47 = .ok (.goto (-45), 3) := by decide +kernel
theorem dX3_copyFrom_50 : decode cX3_copyFrom 50 = .ok (.aload_n 0, 1) := by decide +kernel
theorem dX3_copyFrom_51 : decode cX3_copyFrom 51 = .ok (.aload_n 1, 1) := by decide +kernel
theorem dX3_copyFrom_52 : decode cX3_copyFrom 52 = .ok (.getfield 21, 3) := by decide +kernel
theorem dX3_copyFrom_55 : decode cX3_copyFrom 55 = .ok (.putfield 21, 3) := by decide +kernel
theorem dX3_copyFrom_58 : decode cX3_copyFrom 58 = .ok (.return_, 1) := by decide +kernel
theorem dX4_init_0 : decode cX4_init 0 = .ok (.aload_n 0, 1) := by decide +kernel
theorem dX4_init_1 : decode cX4_init 1 = .ok (.invokespecial 3, 3) := by decide +kernel
theorem dX4_init_4 : decode cX4_init 4 = .ok (.aload_n 0, 1) := by decide +kernel
theorem dX4_init_5 : decode cX4_init 5 = .ok (.bipush 60, 2) := by decide +kernel
theorem dX4_init_7 : decode cX4_init 7 = .ok (.newarray .char, 2) := by decide +kernel
theorem dX4_init_9 : decode cX4_init 9 = .ok (.putfield 9, 3) := by decide +kernel
theorem dX4_init_12 : decode cX4_init 12 = .ok (.return_, 1) := by decide +kernel
theorem dX4_length_0 : decode cX4_length 0 = .ok (.aload_n 0, 1) := by decide +kernel
theorem dX4_length_1 : decode cX4_length 1 = .ok (.getfield 15, 3) := by decide +kernel
theorem dX4_length_4 : decode cX4_length 4 = .ok (.ireturn, 1) := by decide +kernel
set_option maxRecDepth 20000 in
theorem ggX5_init_X1_init : GoodIn wsX5_init wsX1_init := goodIn_r _ [18, 19, 2, 3, 20, 21, 33] (by decide +kernel) (by decide +kernel)
set_option maxRecDepth 20000 in
theorem gX5_init_X1_init_n11 : GoodIn wsX5_init (wsX1_init) := ggX5_init_X1_init
set_option maxRecDepth 20000 in
theorem ggX5_init_X0_init : GoodIn wsX5_init wsX0_init := goodIn_r _ [23, 24, 2, 3, 25, 26, 39] (by decide +kernel) (by decide +kernel)
set_option maxRecDepth 20000 in
theorem gX5_init_X0_init_n20 : GoodIn wsX5_init (wsX0_init) := ggX5_init_X0_init
set_option maxRecDepth 20000 in
theorem ggX5_init_X3_init : GoodIn wsX5_init wsX3_init := goodIn_r _ [28, 29, 2, 3, 20, 30, 31, 32, 40, 41, 42, 43] (by decide +kernel) (by decide +kernel)
set_option maxRecDepth 20000 in
theorem gX5_init_X3_init_n27 : GoodIn wsX5_init (wsX3_init) := ggX5_init_X3_init
theorem dX5_init_0 : decode cX5_init 0 = .ok (.aload_n 0, 1) := by decide +kernel
theorem dX5_init_1 : decode cX5_init 1 = .ok (.invokespecial 3, 3) := by decide +kernel
theorem dX5_init_4 : decode cX5_init 4 = .ok (.aload_n 0, 1) := by decide +kernel
theorem dX5_init_5 : decode cX5_init 5 = .ok (.new 9, 3) := by decide +kernel
theorem dX5_init_8 : decode cX5_init 8 = .ok (.dup, 1) := by decide +kernel
theorem dX5_init_9 : decode cX5_init 9 = .ok (.invokespecial 11, 3) := by decide +kernel
theorem dX5_init_12 : decode cX5_init 12 = .ok (.putfield 12, 3) := by decide +kernel
theorem dX5_init_15 : decode cX5_init 15 = .ok (.aload_n 0, 1) := by decide +kernel
theorem dX5_init_16 : decode cX5_init 16 = .ok (.new 18, 3) := by decide +kernel
theorem dX5_init_19 : decode cX5_init 19 = .ok (.dup, 1) := by decide +kernel
theorem dX5_init_20 : decode cX5_init 20 = .ok (.invokespecial 20, 3) := by decide +kernel
theorem dX5_init_23 : decode cX5_init 23 = .ok (.putfield 21, 3) := by decide +kernel
theorem dX5_init_26 : decode cX5_init 26 = .ok (.aload_n 0, 1) := by decide +kernel
theorem dX5_init_27 : decode cX5_init 27 = .ok (.new 25, 3) := by decide +kernel
theorem dX5_init_30 : decode cX5_init 30 = .ok (.dup, 1) := by decide +kernel
theorem dX5_init_31 : decode cX5_init 31 = .ok (.invokespecial 27, 3) := by decide +kernel
theorem dX5_init_34 : decode cX5_init 34 = .ok (.putfield 28, 3) := by decide +kernel
theorem dX5_init_37 : decode cX5_init 37 = .ok (.aload_n 0, 1) := by decide +kernel
theorem dX5_init_38 : decode cX5_init 38 = .ok (.iconst 0, 1) := by decide +kernel
theorem dX5_init_39 : decode cX5_init 39 = .ok (.putfield 32, 3) := by decide +kernel
theorem dX5_init_42 : decode cX5_init 42 = .ok (.return_, 1) := by decide +kernel
set_option maxRecDepth 20000 in
theorem ggX5_copyFrom_X1_copyFrom : GoodIn wsX5_copyFrom wsX1_copyFrom := goodIn_r _ [10, 11, 12, 13, 14, 15, 36] (by decide +kernel) (by decide +kernel)
set_option maxRecDepth 20000 in
theorem gX5_copyFrom_X1_copyFrom : GoodIn wsX5_copyFrom (wsV RX5 36 RX1 yX1_copyFrom wsX1_copyFrom) := goodIn_app (goodIn_of _ (by decide +kernel)) ggX5_copyFrom_X1_copyFrom
set_option maxRecDepth 20000 in
theorem ggX5_copyFrom_X0_copyFrom : GoodIn wsX5_copyFrom wsX0_copyFrom := goodIn_r _ [20, 21, 37] (by decide +kernel) (by decide +kernel)
set_option maxRecDepth 20000 in
theorem gX5_copyFrom_X0_copyFrom : GoodIn wsX5_copyFrom (wsV RX5 40 RX0 yX0_copyFrom wsX0_copyFrom) := goodIn_app (goodIn_of _ (by decide +kernel)) ggX5_copyFrom_X0_copyFrom
set_option maxRecDepth 20000 in
theorem ggX5_copyFrom_X3_copyFrom : GoodIn wsX5_copyFrom wsX3_copyFrom := goodIn_r _ [26, 27, 28, 29, 30, 38, 39, 40, 41] (by decide +kernel) (by decide +kernel)
set_option maxRecDepth 20000 in
theorem gX5_copyFrom_X3_copyFrom : GoodIn wsX5_copyFrom (wsV RX5 43 RX3 yX3_copyFrom wsX3_copyFrom) := goodIn_app (goodIn_of _ (by decide +kernel)) ggX5_copyFrom_X3_copyFrom
theorem dX5_copyFrom_0 : decode cX5_copyFrom 0 = .ok (.aload_n 0, 1) := by decide +kernel
theorem dX5_copyFrom_1 : decode cX5_copyFrom 1 = .ok (.getfield 12, 3) := by decide +kernel
theorem dX5_copyFrom_4 : decode cX5_copyFrom 4 = .ok (.aload_n 1, 1) := by decide +kernel
theorem dX5_copyFrom_5 : decode cX5_copyFrom 5 = .ok (.getfield 12, 3) := by decide +kernel
theorem dX5_copyFrom_8 : decode cX5_copyFrom 8 = .ok (.invokevirtual 36, 3) := by decide +kernel
theorem dX5_copyFrom_11 : decode cX5_copyFrom 11 = .ok (.aload_n 0, 1) := by decide +kernel
theorem dX5_copyFrom_12 : decode cX5_copyFrom 12 = .ok (.getfield 21, 3) := by decide +kernel
theorem dX5_copyFrom_15 : decode cX5_copyFrom 15 = .ok (.aload_n 1, 1) := by decide +kernel
theorem dX5_copyFrom_16 : decode cX5_copyFrom 16 = .ok (.getfield 21, 3) := by decide +kernel
theorem dX5_copyFrom_19 : decode cX5_copyFrom 19 = .ok (.invokevirtual 40, 3) := by decide +kernel
theorem dX5_copyFrom_22 : decode cX5_copyFrom 22 = .ok (.aload_n 0, 1) := by decide +kernel
theorem dX5_copyFrom_23 : decode cX5_copyFrom 23 = .ok (.getfield 28, 3) := by decide +kernel
theorem dX5_copyFrom_26 : decode cX5_copyFrom 26 = .ok (.aload_n 1, 1) := by decide +kernel
theorem dX5_copyFrom_27 : decode cX5_copyFrom 27 = .ok (.getfield 28, 3) := by decide +kernel
theorem dX5_copyFrom_30 : decode cX5_copyFrom 30 = .ok (.invokevirtual 43, 3) := by decide +kernel
theorem dX5_copyFrom_33 : decode cX5_copyFrom 33 = .ok (.aload_n 0, 1) := by decide +kernel
theorem dX5_copyFrom_34 : decode cX5_copyFrom 34 = .ok (.aload_n 1, 1) := by decide +kernel
theorem dX5_copyFrom_35 : decode cX5_copyFrom 35 = .ok (.getfield 32, 3) := by decide +kernel
theorem dX5_copyFrom_38 : decode cX5_copyFrom 38 = .ok (.putfield 32, 3) := by decide +kernel
theorem dX5_copyFrom_41 : decode cX5_copyFrom 41 = .ok (.aload_n 0, 1) := by decide +kernel
theorem dX5_copyFrom_42 : decode cX5_copyFrom 42 = .ok (.aload_n 1, 1) := by decide +kernel
theorem dX5_copyFrom_43 : decode cX5_copyFrom 43 = .ok (.getfield 46, 3) := by decide +kernel
theorem dX5_copyFrom_46 : decode cX5_copyFrom 46 = .ok (.putfield 46, 3) := by decide +kernel
theorem dX5_copyFrom_49 : decode cX5_copyFrom 49 = .ok (.return_, 1) := by decide +kernel
set_option maxRecDepth 20000 in
theorem ggX5_plant_X1_sumOf : GoodIn wsX5_plant wsX1_sumOf := goodIn_r _ [8, 9, 10, 11, 12, 7, 13, 14, 15, 16, 47] (by decide +kernel) (by decide +kernel)
set_option maxRecDepth 20000 in
theorem gX5_plant_X1_sumOf : GoodIn wsX5_plant (wsV RX5 49 RX1 yX1_sumOf wsX1_sumOf) := goodIn_app (goodIn_of _ (by decide +kernel)) ggX5_plant_X1_sumOf
set_option maxRecDepth 20000 in
theorem ggX5_plant_X1_put : GoodIn wsX5_plant wsX1_put := goodIn_r _ [20, 9, 10, 11, 12, 7, 13, 21, 15, 22, 47] (by decide +kernel) (by decide +kernel)
set_option maxRecDepth 20000 in
theorem gX5_plant_X1_put : GoodIn wsX5_plant (wsV RX5 53 RX1 yX1_put wsX1_put) := goodIn_app (goodIn_of _ (by decide +kernel)) ggX5_plant_X1_put
set_option maxRecDepth 20000 in
theorem ggX5_plant_X0_add : GoodIn wsX5_plant wsX0_add := goodIn_r _ [27, 28, 21, 15, 22, 48] (by decide +kernel) (by decide +kernel)
set_option maxRecDepth 20000 in
theorem gX5_plant_X0_add : GoodIn wsX5_plant (wsV RX5 57 RX0 yX0_add wsX0_add) := goodIn_app (goodIn_of _ (by decide +kernel)) ggX5_plant_X0_add
set_option maxRecDepth 20000 in
theorem ggX5_plant_X3_addLatest : GoodIn wsX5_plant wsX3_addLatest := goodIn_r _ [33, 34, 35, 36, 37, 38, 39, 40, 32, 41, 21, 15, 22, 49, 50, 51, 52] (by decide +kernel) (by decide +kernel)
set_option maxRecDepth 20000 in
theorem gX5_plant_X3_addLatest : GoodIn wsX5_plant (wsV RX5 61 RX3 yX3_addLatest wsX3_addLatest) := goodIn_app (goodIn_of _ (by decide +kernel)) ggX5_plant_X3_addLatest
theorem dX5_plant_0 : decode cX5_plant 0 = .ok (.bipush 16, 2) := by decide +kernel
theorem dX5_plant_2 : decode cX5_plant 2 = .ok (.istore_n 1, 1) := by decide +kernel
theorem dX5_plant_3 : decode cX5_plant 3 = .ok (.bipush 20, 2) := by decide +kernel
theorem dX5_plant_5 : decode cX5_plant 5 = .ok (.istore_n 2, 1) := by decide +kernel
theorem dX5_plant_6 : decode cX5_plant 6 = .ok (.iconst 0, 1) := by decide +kernel
theorem dX5_plant_7 : decode cX5_plant 7 = .ok (.istore_n 3, 1) := by decide +kernel
theorem dX5_plant_8 : decode cX5_plant 8 = .ok (.iload_n 3, 1) := by decide +kernel
theorem dX5_plant_9 : decode cX5_plant 9 = .ok (.iload_n 2, 1) := by decide +kernel
theorem dX5_plant_10 : decode cX5_plant 10 = .ok (.if_icmp .ge 81, 3) := by decide +kernel
theorem dX5_plant_13 : decode cX5_plant 13 = .ok (.iload_n 3, 1) := by decide +kernel
theorem dX5_plant_14 : decode cX5_plant 14 = .ok (.bipush 16, 2) := by decide +kernel
theorem dX5_plant_16 : decode cX5_plant 16 = .ok (.if_icmp .ge 11, 3) := by decide +kernel
theorem dX5_plant_19 : decode cX5_plant 19 = .ok (.iload_n 1, 1) := by decide +kernel
theorem dX5_plant_20 : decode cX5_plant 20 = .ok (.iload_n 3, 1) := by decide +kernel
theorem dX5_plant_21 : decode cX5_plant 21 = .ok (.iconst 4, 1) := by decide +kernel
theorem dX5_plant_22 : decode cX5_plant 22 = .ok (.idiv, 1) := by decide +kernel
theorem dX5_plant_23 : decode cX5_plant 23 = .ok (.iadd, 1) := by decide +kernel
theorem dX5_plant_24 : decode cX5_plant 24 = .ok (.goto 4, 3) := by decide +kernel
theorem dX5_plant_27 : decode cX5_plant 27 = .ok (.iload_n 2, 1) := by decide +kernel
theorem dX5_plant_28 : decode cX5_plant 28 = .ok (.istore 4, 2) := by decide +kernel
theorem dX5_plant_30 : decode cX5_plant 30 = .ok (.sipush 256, 3) := by decide +kernel
theorem dX5_plant_33 : decode cX5_plant 33 = .ok (.iload_n 3, 1) := by decide +kernel
theorem dX5_plant_34 : decode cX5_plant 34 = .ok (.imul, 1) := by decide +kernel
theorem dX5_plant_35 : decode cX5_plant 35 = .ok (.aload_n 0, 1) := by decide +kernel
theorem dX5_plant_36 : decode cX5_plant 36 = .ok (.getfield 12, 3) := by decide +kernel
theorem dX5_plant_39 : decode cX5_plant 39 = .ok (.iconst 0, 1) := by decide +kernel
theorem dX5_plant_40 : decode cX5_plant 40 = .ok (.iload_n 3, 1) := by decide +kernel
theorem dX5_plant_41 : decode cX5_plant 41 = .ok (.invokevirtual 49, 3) := by decide +kernel
theorem dX5_plant_44 : decode cX5_plant 44 = .ok (.iadd, 1) := by decide +kernel
theorem dX5_plant_45 : decode cX5_plant 45 = .ok (.istore 5, 2) := by decide +kernel
theorem dX5_plant_47 : decode cX5_plant 47 = .ok (.aload_n 0, 1) := by decide +kernel
theorem dX5_plant_48 : decode cX5_plant 48 = .ok (.getfield 12, 3) := by decide +kernel
theorem dX5_plant_51 : decode cX5_plant 51 = .ok (.iconst 0, 1) := by decide +kernel
theorem dX5_plant_52 : decode cX5_plant 52 = .ok (.iload 4, 2) := by decide +kernel
theorem dX5_plant_54 : decode cX5_plant 54 = .ok (.iload_n 3, 1) := by decide +kernel
theorem dX5_plant_55 : decode cX5_plant 55 = .ok (.iconst 4, 1) := by decide +kernel
theorem dX5_plant_56 : decode cX5_plant 56 = .ok (.irem, 1) := by decide +kernel
theorem dX5_plant_57 : decode cX5_plant 57 = .ok (.iload 5, 2) := by decide +kernel
theorem dX5_plant_59 : decode cX5_plant 59 = .ok (.invokevirtual 53, 3) := by decide +kernel
theorem dX5_plant_62 : decode cX5_plant 62 = .ok (.aload_n 0, 1) := by decide +kernel
theorem dX5_plant_63 : decode cX5_plant 63 = .ok (.getfield 12, 3) := by decide +kernel
theorem dX5_plant_66 : decode cX5_plant 66 = .ok (.iconst 1, 1) := by decide +kernel
theorem dX5_plant_67 : decode cX5_plant 67 = .ok (.iload 4, 2) := by decide +kernel
theorem dX5_plant_69 : decode cX5_plant 69 = .ok (.iload_n 3, 1) := by decide +kernel
theorem dX5_plant_70 : decode cX5_plant 70 = .ok (.iconst 4, 1) := by decide +kernel
theorem dX5_plant_71 : decode cX5_plant 71 = .ok (.irem, 1) := by decide +kernel
theorem dX5_plant_72 : decode cX5_plant 72 = .ok (.iload 5, 2) := by decide +kernel
theorem dX5_plant_74 : decode cX5_plant 74 = .ok (.invokevirtual 53, 3) := by decide +kernel
theorem dX5_plant_77 : decode cX5_plant 77 = .ok (.aload_n 0, 1) := by decide +kernel
theorem dX5_plant_78 : decode cX5_plant 78 = .ok (.getfield 21, 3) := by decide +kernel
theorem dX5_plant_81 : decode cX5_plant 81 = .ok (.iload_n 3, 1) := by decide +kernel
theorem dX5_plant_82 : decode cX5_plant 82 = .ok (.invokevirtual 57, 3) := by decide +kernel
theorem dX5_plant_85 : decode cX5_plant 85 = .ok (.iinc 3 1, 3) := by decide +kernel
theorem dX5_plant_88 : decode cX5_plant 88 = .ok (.goto (-80), 3) := by decide +kernel
theorem dX5_plant_91 : decode cX5_plant 91 = .ok (.aload_n 0, 1) := by decide +kernel
theorem dX5_plant_92 : decode cX5_plant 92 = .ok (.getfield 21, 3) := by decide +kernel
theorem dX5_plant_95 : decode cX5_plant 95 = .ok (.iload_n 2, 1) := by decide +kernel
theorem dX5_plant_96 : decode cX5_plant 96 = .ok (.invokevirtual 57, 3) := by decide +kernel
theorem dX5_plant_99 : decode cX5_plant 99 = .ok (.aload_n 0, 1) := by decide +kernel
theorem dX5_plant_100 : decode cX5_plant 100 = .ok (.getfield 28, 3) := by decide +kernel
theorem dX5_plant_103 : decode cX5_plant 103 = .ok (.iconst 0, 1) := by decide +kernel
theorem dX5_plant_104 : decode cX5_plant 104 = .ok (.iload_n 2, 1) := by decide +kernel
theorem dX5_plant_105 : decode cX5_plant 105 = .ok (.aload_n 0, 1) := by decide +kernel
theorem dX5_plant_106 : decode cX5_plant 106 = .ok (.getfield 12, 3) := by decide +kernel
theorem dX5_plant_109 : decode cX5_plant 109 = .ok (.iconst 0, 1) := by decide +kernel
theorem dX5_plant_110 : decode cX5_plant 110 = .ok (.iload_n 2, 1) := by decide +kernel
theorem dX5_plant_111 : decode cX5_plant 111 = .ok (.invokevirtual 49, 3) := by decide +kernel
theorem dX5_plant_114 : decode cX5_plant 114 = .ok (.invokevirtual 61, 3) := by decide +kernel
theorem dX5_plant_117 : decode cX5_plant 117 = .ok (.return_, 1) := by decide +kernel
set_option maxRecDepth 20000 in
theorem ggX5_findWay_X7_clear : GoodIn wsX5_findWay wsX7_clear := goodIn_r _ [7, 8, 66, 67, 68, 69, 70] (by decide +kernel) (by decide +kernel)
set_option maxRecDepth 20000 in
theorem gX5_findWay_X7_clear : GoodIn wsX5_findWay (wsV RX5 65 RX7 yX7_clear wsX7_clear) := goodIn_app (goodIn_of _ (by decide +kernel)) ggX5_findWay_X7_clear
set_option maxRecDepth 20000 in
theorem ggX5_findWay_X3_blockAt : GoodIn wsX5_findWay wsX3_blockAt := goodIn_r _ [13, 14, 15, 16, 17, 71, 72, 73, 74] (by decide +kernel) (by decide +kernel)
set_option maxRecDepth 20000 in
theorem gX5_findWay_X3_blockAt : GoodIn wsX5_findWay (wsV RX5 70 RX3 yX3_blockAt wsX3_blockAt) := goodIn_app (goodIn_of _ (by decide +kernel)) ggX5_findWay_X3_blockAt
set_option maxRecDepth 20000 in
theorem ggX5_findWay_X3_sumAt : GoodIn wsX5_findWay wsX3_sumAt := goodIn_r _ [21, 22, 15, 16, 17, 71, 72, 73, 74] (by decide +kernel) (by decide +kernel)
set_option maxRecDepth 20000 in
theorem gX5_findWay_X3_sumAt : GoodIn wsX5_findWay (wsV RX5 74 RX3 yX3_sumAt wsX3_sumAt) := goodIn_app (goodIn_of _ (by decide +kernel)) ggX5_findWay_X3_sumAt
set_option maxRecDepth 20000 in
theorem ggX5_findWay_X1_copyWithSum : GoodIn wsX5_findWay wsX1_copyWithSum := goodIn_r _ [27, 15, 16, 17, 28, 29, 30, 26, 31, 32, 33, 34, 35, 36, 37, 38, 75] (by decide +kernel) (by decide +kernel)
set_option maxRecDepth 20000 in
theorem gX5_findWay_X1_copyWithSum : GoodIn wsX5_findWay (wsV RX5 77 RX1 yX1_copyWithSum wsX1_copyWithSum) := goodIn_app (goodIn_of _ (by decide +kernel)) ggX5_findWay_X1_copyWithSum
set_option maxRecDepth 20000 in
theorem ggX5_findWay_X7_add : GoodIn wsX5_findWay wsX7_add := goodIn_r _ [42, 8, 43, 44, 45, 66, 67, 68, 69, 70] (by decide +kernel) (by decide +kernel)
set_option maxRecDepth 20000 in
theorem gX5_findWay_X7_add : GoodIn wsX5_findWay (wsV RX5 80 RX7 yX7_add wsX7_add) := goodIn_app (goodIn_of _ (by decide +kernel)) ggX5_findWay_X7_add
set_option maxRecDepth 20000 in
theorem ggX5_findWay_X1_numberAt : GoodIn wsX5_findWay wsX1_numberAt := goodIn_r _ [49, 32, 33, 34, 35, 26, 36, 15, 16, 17, 75] (by decide +kernel) (by decide +kernel)
set_option maxRecDepth 20000 in
theorem gX5_findWay_X1_numberAt : GoodIn wsX5_findWay (wsV RX5 82 RX1 yX1_numberAt wsX1_numberAt) := goodIn_app (goodIn_of _ (by decide +kernel)) ggX5_findWay_X1_numberAt
set_option maxRecDepth 20000 in
theorem ggX5_findWay_X7_put : GoodIn wsX5_findWay wsX7_put := goodIn_r _ [53, 54, 15, 16, 17, 66, 67, 68, 69, 70] (by decide +kernel) (by decide +kernel)
set_option maxRecDepth 20000 in
theorem gX5_findWay_X7_put : GoodIn wsX5_findWay (wsV RX5 86 RX7 yX7_put wsX7_put) := goodIn_app (goodIn_of _ (by decide +kernel)) ggX5_findWay_X7_put
set_option maxRecDepth 20000 in
theorem ggX5_findWay_X8_childTowards : GoodIn wsX5_findWay wsX8_childTowards := goodIn_r _ [56] (by decide +kernel) (by decide +kernel)
set_option maxRecDepth 20000 in
theorem gX5_findWay_X8_childTowards_n88 : GoodIn wsX5_findWay (wsX8_childTowards) := ggX5_findWay_X8_childTowards
set_option maxRecDepth 20000 in
theorem ggX5_findWay_X7_numberAt : GoodIn wsX5_findWay wsX7_numberAt := goodIn_r _ [60, 54, 15, 16, 17, 66, 67, 68, 69, 70] (by decide +kernel) (by decide +kernel)
set_option maxRecDepth 20000 in
theorem gX5_findWay_X7_numberAt : GoodIn wsX5_findWay (wsV RX5 91 RX7 yX7_numberAt wsX7_numberAt) := goodIn_app (goodIn_of _ (by decide +kernel)) ggX5_findWay_X7_numberAt
theorem dX5_findWay_0 : decode cX5_findWay 0 = .ok (.aload_n 1, 1) := by decide +kernel
theorem dX5_findWay_1 : decode cX5_findWay 1 = .ok (.invokevirtual 65, 3) := by decide +kernel
theorem dX5_findWay_4 : decode cX5_findWay 4 = .ok (.aload_n 0, 1) := by decide +kernel
theorem dX5_findWay_5 : decode cX5_findWay 5 = .ok (.getfield 28, 3) := by decide +kernel
theorem dX5_findWay_8 : decode cX5_findWay 8 = .ok (.iload_n 2, 1) := by decide +kernel
theorem dX5_findWay_9 : decode cX5_findWay 9 = .ok (.invokevirtual 70, 3) := by decide +kernel
theorem dX5_findWay_12 : decode cX5_findWay 12 = .ok (.istore 4, 2) := by decide +kernel
theorem dX5_findWay_14 : decode cX5_findWay 14 = .ok (.aload_n 0, 1) := by decide +kernel
theorem dX5_findWay_15 : decode cX5_findWay 15 = .ok (.getfield 28, 3) := by decide +kernel
theorem dX5_findWay_18 : decode cX5_findWay 18 = .ok (.iload_n 2, 1) := by decide +kernel
theorem dX5_findWay_19 : decode cX5_findWay 19 = .ok (.invokevirtual 74, 3) := by decide +kernel
theorem dX5_findWay_22 : decode cX5_findWay 22 = .ok (.istore 5, 2) := by decide +kernel
theorem dX5_findWay_24 : decode cX5_findWay 24 = .ok (.iconst 0, 1) := by decide +kernel
theorem dX5_findWay_25 : decode cX5_findWay 25 = .ok (.istore 6, 2) := by decide +kernel
theorem dX5_findWay_27 : decode cX5_findWay 27 = .ok (.iload 6, 2) := by decide +kernel
theorem dX5_findWay_29 : decode cX5_findWay 29 = .ok (.iconst 2, 1) := by decide +kernel
theorem dX5_findWay_30 : decode cX5_findWay 30 = .ok (.if_icmp .gt 105, 3) := by decide +kernel
theorem dX5_findWay_33 : decode cX5_findWay 33 = .ok (.aload_n 0, 1) := by decide +kernel
theorem dX5_findWay_34 : decode cX5_findWay 34 = .ok (.getfield 12, 3) := by decide +kernel
theorem dX5_findWay_37 : decode cX5_findWay 37 = .ok (.iload 4, 2) := by decide +kernel
theorem dX5_findWay_39 : decode cX5_findWay 39 = .ok (.iload 5, 2) := by decide +kernel
theorem dX5_findWay_41 : decode cX5_findWay 41 = .ok (.invokevirtual 77, 3) := by decide +kernel
theorem dX5_findWay_44 : decode cX5_findWay 44 = .ok (.istore 7, 2) := by decide +kernel
theorem dX5_findWay_46 : decode cX5_findWay 46 = .ok (.aload_n 1, 1) := by decide +kernel
theorem dX5_findWay_47 : decode cX5_findWay 47 = .ok (.iload 4, 2) := by decide +kernel
theorem dX5_findWay_49 : decode cX5_findWay 49 = .ok (.iload 5, 2) := by decide +kernel
theorem dX5_findWay_51 : decode cX5_findWay 51 = .ok (.iload 7, 2) := by decide +kernel
theorem dX5_findWay_53 : decode cX5_findWay 53 = .ok (.invokevirtual 80, 3) := by decide +kernel
theorem dX5_findWay_56 : decode cX5_findWay 56 = .ok (.iload 7, 2) := by decide +kernel
theorem dX5_findWay_58 : decode cX5_findWay 58 = .ok (.iconst 2, 1) := by decide +kernel
theorem dX5_findWay_59 : decode cX5_findWay 59 = .ok (.if_icmp .ne 4, 3) := by decide +kernel
theorem dX5_findWay_62 : decode cX5_findWay 62 = .ok (.return_, 1) := by decide +kernel
theorem dX5_findWay_63 : decode cX5_findWay 63 = .ok (.iconst 0, 1) := by decide +kernel
theorem dX5_findWay_64 : decode cX5_findWay 64 = .ok (.istore 8, 2) := by decide +kernel
theorem dX5_findWay_66 : decode cX5_findWay 66 = .ok (.iload 8, 2) := by decide +kernel
theorem dX5_findWay_68 : decode cX5_findWay 68 = .ok (.iconst 4, 1) := by decide +kernel
theorem dX5_findWay_69 : decode cX5_findWay 69 = .ok (.if_icmp .ge 30, 3) := by decide +kernel
theorem dX5_findWay_72 : decode cX5_findWay 72 = .ok (.aload_n 1, 1) := by decide +kernel
theorem dX5_findWay_73 : decode cX5_findWay 73 = .ok (.iload 6, 2) := by decide +kernel
theorem dX5_findWay_75 : decode cX5_findWay 75 = .ok (.iload 8, 2) := by decide +kernel
theorem dX5_findWay_77 : decode cX5_findWay 77 = .ok (.aload_n 0, 1) := by decide +kernel
theorem dX5_findWay_78 : decode cX5_findWay 78 = .ok (.getfield 12, 3) := by decide +kernel
theorem dX5_findWay_81 : decode cX5_findWay 81 = .ok (.iload 7, 2) := by decide +kernel
theorem dX5_findWay_83 : decode cX5_findWay 83 = .ok (.iload 4, 2) := by decide +kernel
theorem dX5_findWay_85 : decode cX5_findWay 85 = .ok (.iload 8, 2) := by decide +kernel
theorem dX5_findWay_87 : decode cX5_findWay 87 = .ok (.invokevirtual 82, 3) := by decide +kernel
theorem dX5_findWay_90 : decode cX5_findWay 90 = .ok (.invokevirtual 86, 3) := by decide +kernel
theorem dX5_findWay_93 : decode cX5_findWay 93 = .ok (.iinc 8 1, 3) := by decide +kernel
theorem dX5_findWay_96 : decode cX5_findWay 96 = .ok (.goto (-30), 3) := by decide +kernel
theorem dX5_findWay_99 : decode cX5_findWay 99 = .ok (.aload_n 1, 1) := by decide +kernel
theorem dX5_findWay_100 : decode cX5_findWay 100 = .ok (.iload 6, 2) := by decide +kernel
theorem dX5_findWay_102 : decode cX5_findWay 102 = .ok (.iload_n 3, 1) := by decide +kernel
theorem dX5_findWay_103 : decode cX5_findWay 103 = .ok (.iload 6, 2) := by decide +kernel
theorem dX5_findWay_105 : decode cX5_findWay 105 = .ok (.invokestatic 88, 3) := by decide +kernel
theorem dX5_findWay_108 : decode cX5_findWay 108 = .ok (.invokevirtual 91, 3) := by decide +kernel
theorem dX5_findWay_111 : decode cX5_findWay 111 = .ok (.istore 8, 2) := by decide +kernel
theorem dX5_findWay_113 : decode cX5_findWay 113 = .ok (.iload 8, 2) := by decide +kernel
theorem dX5_findWay_115 : decode cX5_findWay 115 = .ok (.sipush 256, 3) := by decide +kernel
theorem dX5_findWay_118 : decode cX5_findWay 118 = .ok (.idiv, 1) := by decide +kernel
theorem dX5_findWay_119 : decode cX5_findWay 119 = .ok (.istore 4, 2) := by decide +kernel
theorem dX5_findWay_121 : decode cX5_findWay 121 = .ok (.iload 8, 2) := by decide +kernel
theorem dX5_findWay_123 : decode cX5_findWay 123 = .ok (.sipush 256, 3) := by decide +kernel
theorem dX5_findWay_126 : decode cX5_findWay 126 = .ok (.irem, 1) := by decide +kernel
theorem dX5_findWay_127 : decode cX5_findWay 127 = .ok (.istore 5, 2) := by decide +kernel
theorem dX5_findWay_129 : decode cX5_findWay 129 = .ok (.iinc 6 1, 3) := by decide +kernel
theorem dX5_findWay_132 : decode cX5_findWay 132 = .ok (.goto (-105), 3) := by decide +kernel
theorem dX5_findWay_135 : decode cX5_findWay 135 = .ok (.return_, 1) := by decide +kernel
set_option maxRecDepth 20000 in
theorem ggX5_prepareWrite_X3_size : GoodIn wsX5_prepareWrite wsX3_size := goodIn_r _ [9, 10, 97, 98, 99, 100] (by decide +kernel) (by decide +kernel)
set_option maxRecDepth 20000 in
theorem gX5_prepareWrite_X3_size : GoodIn wsX5_prepareWrite (wsV RX5 93 RX3 yX3_size wsX3_size) := goodIn_app (goodIn_of _ (by decide +kernel)) ggX5_prepareWrite_X3_size
set_option maxRecDepth 20000 in
theorem ggX5_prepareWrite_X0_size : GoodIn wsX5_prepareWrite wsX0_size := goodIn_r _ [15, 16, 101] (by decide +kernel) (by decide +kernel)
set_option maxRecDepth 20000 in
theorem gX5_prepareWrite_X0_size : GoodIn wsX5_prepareWrite (wsV RX5 97 RX0 yX0_size wsX0_size) := goodIn_app (goodIn_of _ (by decide +kernel)) ggX5_prepareWrite_X0_size
set_option maxRecDepth 20000 in
theorem ggX5_prepareWrite_X5_findWay : GoodIn wsX5_prepareWrite wsX5_findWay := goodIn_r _ [21, 1, 22, 23, 24, 25, 26, 27, 28, 29, 30, 31, 8, 32, 33, 34, 35, 36, 37, 38, 39, 40, 41, 42, 43, 44, 45, 46, 47, 48, 49, 50, 51, 52, 53, 54, 55, 56, 57, 58, 59, 60, 61, 62, 63, 64, 65, 66, 67, 68, 69, 70, 71, 72, 73, 74, 75, 76, 77, 78, 79, 92, 93, 94, 95, 96, 102, 103, 104, 105, 106, 97, 98, 99, 100, 107] (by decide +kernel) (by decide +kernel)
set_option maxRecDepth 20000 in
theorem gX5_prepareWrite_X5_findWay : GoodIn wsX5_prepareWrite (wsV RX5 99 RX5 yX5_findWay wsX5_findWay) := goodIn_app (goodIn_of _ (by decide +kernel)) ggX5_prepareWrite_X5_findWay
set_option maxRecDepth 20000 in
theorem ggX5_prepareWrite_X7_isSpoiled : GoodIn wsX5_prepareWrite wsX7_isSpoiled := goodIn_r _ [83, 84, 85, 86, 26, 87, 64, 88, 89, 90, 91, 28, 34, 35, 36, 102, 103, 104, 105, 106] (by decide +kernel) (by decide +kernel)
set_option maxRecDepth 20000 in
theorem gX5_prepareWrite_X7_isSpoiled : GoodIn wsX5_prepareWrite (wsV RX5 103 RX7 yX7_isSpoiled wsX7_isSpoiled) := goodIn_app (goodIn_of _ (by decide +kernel)) ggX5_prepareWrite_X7_isSpoiled
theorem dX5_prepareWrite_0 : decode cX5_prepareWrite 0 = .ok (.aload_n 0, 1) := by decide +kernel
theorem dX5_prepareWrite_1 : decode cX5_prepareWrite 1 = .ok (.getfield 28, 3) := by decide +kernel
theorem dX5_prepareWrite_4 : decode cX5_prepareWrite 4 = .ok (.invokevirtual 93, 3) := by decide +kernel
theorem dX5_prepareWrite_7 : decode cX5_prepareWrite 7 = .ok (.bipush 8, 2) := by decide +kernel
theorem dX5_prepareWrite_9 : decode cX5_prepareWrite 9 = .ok (.if_icmp .ge 17, 3) := by decide +kernel
theorem dX5_prepareWrite_12 : decode cX5_prepareWrite 12 = .ok (.bipush 96, 2) := by decide +kernel
theorem dX5_prepareWrite_14 : decode cX5_prepareWrite 14 = .ok (.aload_n 0, 1) := by decide +kernel
theorem dX5_prepareWrite_15 : decode cX5_prepareWrite 15 = .ok (.getfield 21, 3) := by decide +kernel
theorem dX5_prepareWrite_18 : decode cX5_prepareWrite 18 = .ok (.invokevirtual 97, 3) := by decide +kernel
theorem dX5_prepareWrite_21 : decode cX5_prepareWrite 21 = .ok (.isub, 1) := by decide +kernel
theorem dX5_prepareWrite_22 : decode cX5_prepareWrite 22 = .ok (.iconst 3, 1) := by decide +kernel
theorem dX5_prepareWrite_23 : decode cX5_prepareWrite 23 = .ok (.if_icmp .ge 6, 3) := by decide +kernel
theorem dX5_prepareWrite_26 : decode cX5_prepareWrite 26 = .ok (.ldc 98, 2) := by decide +kernel
theorem dX5_prepareWrite_28 : decode cX5_prepareWrite 28 = .ok (.ireturn, 1) := by decide +kernel
theorem dX5_prepareWrite_29 : decode cX5_prepareWrite 29 = .ok (.aload_n 0, 1) := by decide +kernel
theorem dX5_prepareWrite_30 : decode cX5_prepareWrite 30 = .ok (.aload_n 1, 1) := by decide +kernel
theorem dX5_prepareWrite_31 : decode cX5_prepareWrite 31 = .ok (.iconst 0, 1) := by decide +kernel
theorem dX5_prepareWrite_32 : decode cX5_prepareWrite 32 = .ok (.iload_n 2, 1) := by decide +kernel
theorem dX5_prepareWrite_33 : decode cX5_prepareWrite 33 = .ok (.invokevirtual 99, 3) := by decide +kernel
theorem dX5_prepareWrite_36 : decode cX5_prepareWrite 36 = .ok (.aload_n 1, 1) := by decide +kernel
theorem dX5_prepareWrite_37 : decode cX5_prepareWrite 37 = .ok (.invokevirtual 103, 3) := by decide +kernel
theorem dX5_prepareWrite_40 : decode cX5_prepareWrite 40 = .ok (.ifCond .eq 8, 3) := by decide +kernel
theorem dX5_prepareWrite_43 : decode cX5_prepareWrite 43 = .ok (.ldc 107, 2) := by decide +kernel
theorem dX5_prepareWrite_45 : decode cX5_prepareWrite 45 = .ok (.goto 4, 3) := by decide +kernel
theorem dX5_prepareWrite_48 : decode cX5_prepareWrite 48 = .ok (.iconst 0, 1) := by decide +kernel
theorem dX5_prepareWrite_49 : decode cX5_prepareWrite 49 = .ok (.ireturn, 1) := by decide +kernel
set_option maxRecDepth 20000 in
theorem ggX5_carryOut_X7_numberAt : GoodIn wsX5_carryOut wsX7_numberAt := goodIn_r _ [9, 10, 11, 12, 13, 79, 80, 81, 82, 83] (by decide +kernel) (by decide +kernel)
set_option maxRecDepth 20000 in
theorem gX5_carryOut_X7_numberAt : GoodIn wsX5_carryOut (wsV RX5 91 RX7 yX7_numberAt wsX7_numberAt) := goodIn_app (goodIn_of _ (by decide +kernel)) ggX5_carryOut_X7_numberAt
set_option maxRecDepth 20000 in
theorem ggX5_carryOut_X5_useLowest : GoodIn wsX5_carryOut wsX5_useLowest := goodIn_r _ [18, 19, 20, 21, 22, 23, 24, 25, 26, 27, 28, 29, 11, 12, 13, 74, 75, 76, 77, 78, 84] (by decide +kernel) (by decide +kernel)
set_option maxRecDepth 20000 in
theorem gX5_carryOut_X5_useLowest : GoodIn wsX5_carryOut (wsV RX5 108 RX5 yX5_useLowest wsX5_useLowest) := goodIn_app (goodIn_of _ (by decide +kernel)) ggX5_carryOut_X5_useLowest
