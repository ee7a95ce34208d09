theorem dX9_dropRoot_23 : decode cX9_dropRoot 23 = .ok (.imul, 1) := by decide +kernel
theorem dX9_dropRoot_24 : decode cX9_dropRoot 24 = .ok (.iadd, 1) := by decide +kernel
theorem dX9_dropRoot_25 : decode cX9_dropRoot 25 = .ok (.if_icmp .ge 23, 3) := by decide +kernel
theorem dX9_dropRoot_28 : decode cX9_dropRoot 28 = .ok (.aload_n 0, 1) := by decide +kernel
theorem dX9_dropRoot_29 : decode cX9_dropRoot 29 = .ok (.getfield 7, 3) := by decide +kernel
theorem dX9_dropRoot_32 : decode cX9_dropRoot 32 = .ok (.iload_n 2, 1) := by decide +kernel
theorem dX9_dropRoot_33 : decode cX9_dropRoot 33 = .ok (.aload_n 0, 1) := by decide +kernel
theorem dX9_dropRoot_34 : decode cX9_dropRoot 34 = .ok (.getfield 7, 3) := by decide +kernel
theorem dX9_dropRoot_37 : decode cX9_dropRoot 37 = .ok (.iload_n 2, 1) := by decide +kernel
theorem dX9_dropRoot_38 : decode cX9_dropRoot 38 = .ok (.iconst 3, 1) := by decide +kernel
theorem dX9_dropRoot_39 : decode cX9_dropRoot 39 = .ok (.iadd, 1) := by decide +kernel
theorem dX9_dropRoot_40 : decode cX9_dropRoot 40 = .ok (.iaload, 1) := by decide +kernel
theorem dX9_dropRoot_41 : decode cX9_dropRoot 41 = .ok (.iastore, 1) := by decide +kernel
theorem dX9_dropRoot_42 : decode cX9_dropRoot 42 = .ok (.iinc 2 1, 3) := by decide +kernel
theorem dX9_dropRoot_45 : decode cX9_dropRoot 45 = .ok (.goto (-37), 3) := by decide +kernel
theorem dX9_dropRoot_48 : decode cX9_dropRoot 48 = .ok (.aload_n 0, 1) := by decide +kernel
theorem dX9_dropRoot_49 : decode cX9_dropRoot 49 = .ok (.getfield 7, 3) := by decide +kernel
theorem dX9_dropRoot_52 : decode cX9_dropRoot 52 = .ok (.sipush 864, 3) := by decide +kernel
theorem dX9_dropRoot_55 : decode cX9_dropRoot 55 = .ok (.dup2, 1) := by decide +kernel
theorem dX9_dropRoot_56 : decode cX9_dropRoot 56 = .ok (.iaload, 1) := by decide +kernel
theorem dX9_dropRoot_57 : decode cX9_dropRoot 57 = .ok (.iconst 1, 1) := by decide +kernel
theorem dX9_dropRoot_58 : decode cX9_dropRoot 58 = .ok (.isub, 1) := by decide +kernel
theorem dX9_dropRoot_59 : decode cX9_dropRoot 59 = .ok (.iastore, 1) := by decide +kernel
theorem dX9_dropRoot_60 : decode cX9_dropRoot 60 = .ok (.return_, 1) := by decide +kernel
set_option maxRecDepth 20000 in
theorem ggX9_write_X9_whyNotWritten : GoodIn wsX9_write wsX9_whyNotWritten := goodIn_r _ [5, 6, 7, 8, 9, 10, 11, 4, 12, 13, 14, 15, 16, 17, 18, 19, 20, 21, 22, 23, 24, 25, 26, 27, 28, 29, 30, 31, 32, 33, 34, 35, 36, 37, 38, 39, 40, 41, 42, 43, 44, 45, 95, 96, 97, 98, 99, 100, 101, 102, 103, 104, 105, 106, 107, 108, 109, 110, 111, 112, 113, 114, 115, 116, 117] (by decide +kernel) (by decide +kernel)
set_option maxRecDepth 20000 in
theorem gX9_write_X9_whyNotWritten : GoodIn wsX9_write (wsV RX9 143 RX9 yX9_whyNotWritten wsX9_whyNotWritten) := goodIn_app (goodIn_of _ (by decide +kernel)) ggX9_write_X9_whyNotWritten
set_option maxRecDepth 20000 in
theorem ggX9_write_X9_record : GoodIn wsX9_write wsX9_record := goodIn_r _ [49, 50, 51, 7, 52, 53, 4, 54, 95, 96, 97, 98, 99, 100, 101, 102, 103, 104, 105, 106, 107, 108, 109, 110, 111, 112, 113, 114, 115, 116, 117] (by decide +kernel) (by decide +kernel)
set_option maxRecDepth 20000 in
theorem gX9_write_X9_record : GoodIn wsX9_write (wsV RX9 146 RX9 yX9_record wsX9_record) := goodIn_app (goodIn_of _ (by decide +kernel)) ggX9_write_X9_record
set_option maxRecDepth 20000 in
theorem ggX9_write_X9_written : GoodIn wsX9_write wsX9_written := goodIn_r _ [58, 59, 26, 24, 60, 61, 7, 31, 32, 33, 4, 34, 62, 63, 64, 65, 66, 67, 68, 69, 70, 71, 72, 73, 74, 75, 76, 77, 78, 79, 80, 81, 82, 83, 84, 85, 86, 87, 88, 89, 90, 91, 92, 93, 94, 43, 44, 45, 95, 96, 97, 98, 99, 100, 101, 102, 103, 104, 105, 106, 107, 108, 109, 110, 111, 112, 113, 114, 115, 116, 117] (by decide +kernel) (by decide +kernel)
set_option maxRecDepth 20000 in
theorem gX9_write_X9_written : GoodIn wsX9_write (wsV RX9 149 RX9 yX9_written wsX9_written) := goodIn_app (goodIn_of _ (by decide +kernel)) ggX9_write_X9_written
theorem dX9_write_0 : decode cX9_write 0 = .ok (.aload_n 0, 1) := by decide +kernel
theorem dX9_write_1 : decode cX9_write 1 = .ok (.iload_n 1, 1) := by decide +kernel
theorem dX9_write_2 : decode cX9_write 2 = .ok (.iload_n 2, 1) := by decide +kernel
theorem dX9_write_3 : decode cX9_write 3 = .ok (.iload_n 3, 1) := by decide +kernel
theorem dX9_write_4 : decode cX9_write 4 = .ok (.invokevirtual 143, 3) := by decide +kernel
theorem dX9_write_7 : decode cX9_write 7 = .ok (.istore 4, 2) := by decide +kernel
theorem dX9_write_9 : decode cX9_write 9 = .ok (.iload 4, 2) := by decide +kernel
theorem dX9_write_11 : decode cX9_write 11 = .ok (.ifCond .ge 6, 3) := by decide +kernel
theorem dX9_write_14 : decode cX9_write 14 = .ok (.iload 4, 2) := by decide +kernel
theorem dX9_write_16 : decode cX9_write 16 = .ok (.ireturn, 1) := by decide +kernel
theorem dX9_write_17 : decode cX9_write 17 = .ok (.aload_n 0, 1) := by decide +kernel
theorem dX9_write_18 : decode cX9_write 18 = .ok (.invokevirtual 146, 3) := by decide +kernel
theorem dX9_write_21 : decode cX9_write 21 = .ok (.aload_n 0, 1) := by decide +kernel
theorem dX9_write_22 : decode cX9_write 22 = .ok (.iload_n 1, 1) := by decide +kernel
theorem dX9_write_23 : decode cX9_write 23 = .ok (.iload_n 2, 1) := by decide +kernel
theorem dX9_write_24 : decode cX9_write 24 = .ok (.iload_n 3, 1) := by decide +kernel
theorem dX9_write_25 : decode cX9_write 25 = .ok (.invokevirtual 149, 3) := by decide +kernel
theorem dX9_write_28 : decode cX9_write 28 = .ok (.ireturn, 1) := by decide +kernel
set_option maxRecDepth 20000 in
theorem ggX9_mishap_X9_within : GoodIn wsX9_mishap wsX9_within := goodIn_r _ [6] (by decide +kernel) (by decide +kernel)
set_option maxRecDepth 20000 in
theorem gX9_mishap_X9_within : GoodIn wsX9_mishap (va_wsS RX9 78 yX9_within wsX9_within) := goodIn_app (goodIn_of _ (by decide +kernel)) ggX9_mishap_X9_within
set_option maxRecDepth 20000 in
theorem ggX9_mishap_X9_record : GoodIn wsX9_mishap wsX9_record := goodIn_r _ [10, 11, 12, 2, 13, 14, 5, 15, 16, 17, 18, 19, 20, 21, 22, 23, 24, 25, 26, 27, 28, 29, 30, 31, 32, 33, 34, 35, 36, 37, 38] (by decide +kernel) (by decide +kernel)
set_option maxRecDepth 20000 in
theorem gX9_mishap_X9_record : GoodIn wsX9_mishap (wsV RX9 146 RX9 yX9_record wsX9_record) := goodIn_app (goodIn_of _ (by decide +kernel)) ggX9_mishap_X9_record
theorem dX9_mishap_0 : decode cX9_mishap 0 = .ok (.iload_n 1, 1) := by decide +kernel
theorem dX9_mishap_1 : decode cX9_mishap 1 = .ok (.iconst 0, 1) := by decide +kernel
theorem dX9_mishap_2 : decode cX9_mishap 2 = .ok (.iconst 3, 1) := by decide +kernel
theorem dX9_mishap_3 : decode cX9_mishap 3 = .ok (.invokestatic 78, 3) := by decide +kernel
theorem dX9_mishap_6 : decode cX9_mishap 6 = .ok (.ifCond .ne 6, 3) := by decide +kernel
theorem dX9_mishap_9 : decode cX9_mishap 9 = .ok (.ldc 103, 2) := by decide +kernel
theorem dX9_mishap_11 : decode cX9_mishap 11 = .ok (.ireturn, 1) := by decide +kernel
theorem dX9_mishap_12 : decode cX9_mishap 12 = .ok (.aload_n 0, 1) := by decide +kernel
theorem dX9_mishap_13 : decode cX9_mishap 13 = .ok (.invokevirtual 146, 3) := by decide +kernel
theorem dX9_mishap_16 : decode cX9_mishap 16 = .ok (.aload_n 0, 1) := by decide +kernel
theorem dX9_mishap_17 : decode cX9_mishap 17 = .ok (.getfield 7, 3) := by decide +kernel
theorem dX9_mishap_20 : decode cX9_mishap 20 = .ok (.sipush 866, 3) := by decide +kernel
theorem dX9_mishap_23 : decode cX9_mishap 23 = .ok (.iaload, 1) := by decide +kernel
theorem dX9_mishap_24 : decode cX9_mishap 24 = .ok (.istore_n 2, 1) := by decide +kernel
theorem dX9_mishap_25 : decode cX9_mishap 25 = .ok (.aload_n 0, 1) := by decide +kernel
theorem dX9_mishap_26 : decode cX9_mishap 26 = .ok (.getfield 7, 3) := by decide +kernel
theorem dX9_mishap_29 : decode cX9_mishap 29 = .ok (.sipush 866, 3) := by decide +kernel
theorem dX9_mishap_32 : decode cX9_mishap 32 = .ok (.iload_n 1, 1) := by decide +kernel
theorem dX9_mishap_33 : decode cX9_mishap 33 = .ok (.iastore, 1) := by decide +kernel
theorem dX9_mishap_34 : decode cX9_mishap 34 = .ok (.iload_n 2, 1) := by decide +kernel
theorem dX9_mishap_35 : decode cX9_mishap 35 = .ok (.ireturn, 1) := by decide +kernel
set_option maxRecDepth 20000 in
theorem ggX9_isPlace_X9_within : GoodIn wsX9_isPlace wsX9_within := goodIn_r _ [4] (by decide +kernel) (by decide +kernel)
set_option maxRecDepth 20000 in
theorem gX9_isPlace_X9_within : GoodIn wsX9_isPlace (va_wsS RX9 78 yX9_within wsX9_within) := goodIn_app (goodIn_of _ (by decide +kernel)) ggX9_isPlace_X9_within
theorem dX9_isPlace_0 : decode cX9_isPlace 0 = .ok (.iload_n 0, 1) := by decide +kernel
theorem dX9_isPlace_1 : decode cX9_isPlace 1 = .ok (.iconst 0, 1) := by decide +kernel
theorem dX9_isPlace_2 : decode cX9_isPlace 2 = .ok (.bipush 95, 2) := by decide +kernel
theorem dX9_isPlace_4 : decode cX9_isPlace 4 = .ok (.invokestatic 78, 3) := by decide +kernel
theorem dX9_isPlace_7 : decode cX9_isPlace 7 = .ok (.ifCond .eq 25, 3) := by decide +kernel
theorem dX9_isPlace_10 : decode cX9_isPlace 10 = .ok (.iload_n 1, 1) := by decide +kernel
theorem dX9_isPlace_11 : decode cX9_isPlace 11 = .ok (.iconst 0, 1) := by decide +kernel
theorem dX9_isPlace_12 : decode cX9_isPlace 12 = .ok (.iconst 1, 1) := by decide +kernel
theorem dX9_isPlace_13 : decode cX9_isPlace 13 = .ok (.invokestatic 78, 3) := by decide +kernel
theorem dX9_isPlace_16 : decode cX9_isPlace 16 = .ok (.ifCond .eq 16, 3) := by decide +kernel
theorem dX9_isPlace_19 : decode cX9_isPlace 19 = .ok (.iload_n 2, 1) := by decide +kernel
theorem dX9_isPlace_20 : decode cX9_isPlace 20 = .ok (.iconst 0, 1) := by decide +kernel
theorem dX9_isPlace_21 : decode cX9_isPlace 21 = .ok (.iload_n 3, 1) := by decide +kernel
theorem dX9_isPlace_22 : decode cX9_isPlace 22 = .ok (.invokestatic 78, 3) := by decide +kernel
theorem dX9_isPlace_25 : decode cX9_isPlace 25 = .ok (.ifCond .eq 7, 3) := by decide +kernel
theorem dX9_isPlace_28 : decode cX9_isPlace 28 = .ok (.iconst 1, 1) := by decide +kernel
theorem dX9_isPlace_29 : decode cX9_isPlace 29 = .ok (.goto 4, 3) := by decide +kernel
theorem dX9_isPlace_32 : decode cX9_isPlace 32 = .ok (.iconst 0, 1) := by decide +kernel
theorem dX9_isPlace_33 : decode cX9_isPlace 33 = .ok (.ireturn, 1) := by decide +kernel
set_option maxRecDepth 20000 in
theorem ggX9_rot_X9_isPlace : GoodIn wsX9_rot wsX9_isPlace := goodIn_r _ [6, 7, 8, 5, 9] (by decide +kernel) (by decide +kernel)
set_option maxRecDepth 20000 in
theorem gX9_rot_X9_isPlace : GoodIn wsX9_rot (va_wsS RX9 152 yX9_isPlace wsX9_isPlace) := goodIn_app (goodIn_of _ (by decide +kernel)) ggX9_rot_X9_isPlace
set_option maxRecDepth 20000 in
theorem ggX9_rot_X9_within : GoodIn wsX9_rot wsX9_within := goodIn_r _ [9] (by decide +kernel) (by decide +kernel)
set_option maxRecDepth 20000 in
theorem gX9_rot_X9_within : GoodIn wsX9_rot (va_wsS RX9 78 yX9_within wsX9_within) := goodIn_app (goodIn_of _ (by decide +kernel)) ggX9_rot_X9_within
set_option maxRecDepth 20000 in
theorem ggX9_rot_X9_record : GoodIn wsX9_rot wsX9_record := goodIn_r _ [13, 14, 15, 16, 17, 18, 5, 19, 28, 29, 30, 31, 32, 33, 34, 35, 36, 37, 38, 39, 40, 41, 42, 43, 44, 45, 46, 47, 48, 49, 50] (by decide +kernel) (by decide +kernel)
set_option maxRecDepth 20000 in
theorem gX9_rot_X9_record : GoodIn wsX9_rot (wsV RX9 146 RX9 yX9_record wsX9_record) := goodIn_app (goodIn_of _ (by decide +kernel)) ggX9_rot_X9_record
set_option maxRecDepth 20000 in
theorem ggX9_rot_X9_contentOf : GoodIn wsX9_rot wsX9_contentOf := goodIn_r _ [23, 16, 28, 29, 30, 31, 32, 33, 34, 35, 36, 37, 38, 39, 40, 41, 42, 43, 44, 45, 46, 47, 48, 49, 50] (by decide +kernel) (by decide +kernel)
set_option maxRecDepth 20000 in
theorem gX9_rot_X9_contentOf : GoodIn wsX9_rot (wsV RX9 69 RX9 yX9_contentOf wsX9_contentOf) := goodIn_app (goodIn_of _ (by decide +kernel)) ggX9_rot_X9_contentOf
set_option maxRecDepth 20000 in
theorem ggX9_rot_X9_setContent : GoodIn wsX9_rot wsX9_setContent := goodIn_r _ [27, 16, 28, 29, 30, 31, 32, 33, 34, 35, 36, 37, 38, 39, 40, 41, 42, 43, 44, 45, 46, 47, 48, 49, 50] (by decide +kernel) (by decide +kernel)
set_option maxRecDepth 20000 in
theorem gX9_rot_X9_setContent : GoodIn wsX9_rot (wsV RX9 65 RX9 yX9_setContent wsX9_setContent) := goodIn_app (goodIn_of _ (by decide +kernel)) ggX9_rot_X9_setContent
theorem dX9_rot_0 : decode cX9_rot 0 = .ok (.iload_n 1, 1) := by decide +kernel
theorem dX9_rot_1 : decode cX9_rot 1 = .ok (.iload_n 2, 1) := by decide +kernel
theorem dX9_rot_2 : decode cX9_rot 2 = .ok (.iload_n 3, 1) := by decide +kernel
theorem dX9_rot_3 : decode cX9_rot 3 = .ok (.iconst 3, 1) := by decide +kernel
theorem dX9_rot_4 : decode cX9_rot 4 = .ok (.invokestatic 152, 3) := by decide +kernel
theorem dX9_rot_7 : decode cX9_rot 7 = .ok (.ifCond .eq 14, 3) := by decide +kernel
theorem dX9_rot_10 : decode cX9_rot 10 = .ok (.iload 4, 2) := by decide +kernel
theorem dX9_rot_12 : decode cX9_rot 12 = .ok (.iconst 0, 1) := by decide +kernel
theorem dX9_rot_13 : decode cX9_rot 13 = .ok (.ldc 156, 2) := by decide +kernel
theorem dX9_rot_15 : decode cX9_rot 15 = .ok (.invokestatic 78, 3) := by decide +kernel
theorem dX9_rot_18 : decode cX9_rot 18 = .ok (.ifCond .ne 6, 3) := by decide +kernel
theorem dX9_rot_21 : decode cX9_rot 21 = .ok (.ldc 103, 2) := by decide +kernel
theorem dX9_rot_23 : decode cX9_rot 23 = .ok (.ireturn, 1) := by decide +kernel
theorem dX9_rot_24 : decode cX9_rot 24 = .ok (.aload_n 0, 1) := by decide +kernel
theorem dX9_rot_25 : decode cX9_rot 25 = .ok (.invokevirtual 146, 3) := by decide +kernel
theorem dX9_rot_28 : decode cX9_rot 28 = .ok (.aload_n 0, 1) := by decide +kernel
theorem dX9_rot_29 : decode cX9_rot 29 = .ok (.iload_n 2, 1) := by decide +kernel
theorem dX9_rot_30 : decode cX9_rot 30 = .ok (.iload_n 1, 1) := by decide +kernel
theorem dX9_rot_31 : decode cX9_rot 31 = .ok (.iload_n 3, 1) := by decide +kernel
theorem dX9_rot_32 : decode cX9_rot 32 = .ok (.invokevirtual 69, 3) := by decide +kernel
theorem dX9_rot_35 : decode cX9_rot 35 = .ok (.istore 5, 2) := by decide +kernel
theorem dX9_rot_37 : decode cX9_rot 37 = .ok (.aload_n 0, 1) := by decide +kernel
theorem dX9_rot_38 : decode cX9_rot 38 = .ok (.iload_n 2, 1) := by decide +kernel
theorem dX9_rot_39 : decode cX9_rot 39 = .ok (.iload_n 1, 1) := by decide +kernel
theorem dX9_rot_40 : decode cX9_rot 40 = .ok (.iload_n 3, 1) := by decide +kernel
theorem dX9_rot_41 : decode cX9_rot 41 = .ok (.iload 4, 2) := by decide +kernel
theorem dX9_rot_43 : decode cX9_rot 43 = .ok (.invokevirtual 65, 3) := by decide +kernel
theorem dX9_rot_46 : decode cX9_rot 46 = .ok (.iload 5, 2) := by decide +kernel
theorem dX9_rot_48 : decode cX9_rot 48 = .ok (.ireturn, 1) := by decide +kernel
set_option maxRecDepth 20000 in
theorem ggX9_read_X9_isRoot : GoodIn wsX9_read wsX9_isRoot := goodIn_r _ [9, 10, 11, 12, 8, 13, 41, 42, 43, 44, 45, 46, 47, 48, 49, 50, 51, 52, 53, 54, 55, 56, 57, 58, 59, 60, 61, 62, 63] (by decide +kernel) (by decide +kernel)
set_option maxRecDepth 20000 in
theorem gX9_read_X9_isRoot : GoodIn wsX9_read (wsV RX9 157 RX9 yX9_isRoot wsX9_isRoot) := goodIn_app (goodIn_of _ (by decide +kernel)) ggX9_read_X9_isRoot
set_option maxRecDepth 20000 in
theorem ggX9_read_X9_isLeaf : GoodIn wsX9_read wsX9_isLeaf := goodIn_r _ [16, 11, 12, 8, 13] (by decide +kernel) (by decide +kernel)
set_option maxRecDepth 20000 in
theorem gX9_read_X9_isLeaf : GoodIn wsX9_read (va_wsS RX9 100 yX9_isLeaf wsX9_isLeaf) := goodIn_app (goodIn_of _ (by decide +kernel)) ggX9_read_X9_isLeaf
set_option maxRecDepth 20000 in
theorem ggX9_read_X9_within : GoodIn wsX9_read wsX9_within := goodIn_r _ [13] (by decide +kernel) (by decide +kernel)
set_option maxRecDepth 20000 in
theorem gX9_read_X9_within : GoodIn wsX9_read (va_wsS RX9 78 yX9_within wsX9_within) := goodIn_app (goodIn_of _ (by decide +kernel)) ggX9_read_X9_within
set_option maxRecDepth 20000 in
theorem ggX9_read_X9_findWay : GoodIn wsX9_read wsX9_findWay := goodIn_r _ [20, 3, 21, 2, 22, 23, 24, 8, 25, 10, 11, 12, 13, 26, 27, 28, 29, 30, 31, 32, 33, 34, 35, 36, 37, 38, 39, 40, 41, 42, 43, 44, 45, 46, 47, 48, 49, 50, 51, 52, 53, 54, 55, 56, 57, 58, 59, 60, 61, 62, 63] (by decide +kernel) (by decide +kernel)
set_option maxRecDepth 20000 in
theorem gX9_read_X9_findWay : GoodIn wsX9_read (wsV RX9 88 RX9 yX9_findWay wsX9_findWay) := goodIn_app (goodIn_of _ (by decide +kernel)) ggX9_read_X9_findWay
set_option maxRecDepth 20000 in
theorem ggX9_read_X9_contentOf : GoodIn wsX9_read wsX9_contentOf := goodIn_r _ [29, 10, 41, 42, 43, 44, 45, 46, 47, 48, 49, 50, 51, 52, 53, 54, 55, 56, 57, 58, 59, 60, 61, 62, 63] (by decide +kernel) (by decide +kernel)
set_option maxRecDepth 20000 in
theorem gX9_read_X9_contentOf : GoodIn wsX9_read (wsV RX9 69 RX9 yX9_contentOf wsX9_contentOf) := goodIn_app (goodIn_of _ (by decide +kernel)) ggX9_read_X9_contentOf
theorem dX9_read_0 : decode cX9_read 0 = .ok (.aload_n 0, 1) := by decide +kernel
theorem dX9_read_1 : decode cX9_read 1 = .ok (.iload_n 1, 1) := by decide +kernel
theorem dX9_read_2 : decode cX9_read 2 = .ok (.invokevirtual 157, 3) := by decide +kernel
theorem dX9_read_5 : decode cX9_read 5 = .ok (.ifCond .eq 19, 3) := by decide +kernel
theorem dX9_read_8 : decode cX9_read 8 = .ok (.iload_n 2, 1) := by decide +kernel
theorem dX9_read_9 : decode cX9_read 9 = .ok (.invokestatic 100, 3) := by decide +kernel
theorem dX9_read_12 : decode cX9_read 12 = .ok (.ifCond .eq 12, 3) := by decide +kernel
theorem dX9_read_15 : decode cX9_read 15 = .ok (.iload_n 3, 1) := by decide +kernel
theorem dX9_read_16 : decode cX9_read 16 = .ok (.iconst 0, 1) := by decide +kernel
theorem dX9_read_17 : decode cX9_read 17 = .ok (.iconst 3, 1) := by decide +kernel
theorem dX9_read_18 : decode cX9_read 18 = .ok (.invokestatic 78, 3) := by decide +kernel
theorem dX9_read_21 : decode cX9_read 21 = .ok (.ifCond .ne 6, 3) := by decide +kernel
theorem dX9_read_24 : decode cX9_read 24 = .ok (.ldc 103, 2) := by decide +kernel
theorem dX9_read_26 : decode cX9_read 26 = .ok (.ireturn, 1) := by decide +kernel
theorem dX9_read_27 : decode cX9_read 27 = .ok (.aload_n 0, 1) := by decide +kernel
theorem dX9_read_28 : decode cX9_read 28 = .ok (.iload_n 1, 1) := by decide +kernel
theorem dX9_read_29 : decode cX9_read 29 = .ok (.iload_n 2, 1) := by decide +kernel
theorem dX9_read_30 : decode cX9_read 30 = .ok (.invokevirtual 88, 3) := by decide +kernel
theorem dX9_read_33 : decode cX9_read 33 = .ok (.ifCond .eq 23, 3) := by decide +kernel
theorem dX9_read_36 : decode cX9_read 36 = .ok (.aload_n 0, 1) := by decide +kernel
theorem dX9_read_37 : decode cX9_read 37 = .ok (.aload_n 0, 1) := by decide +kernel
theorem dX9_read_38 : decode cX9_read 38 = .ok (.getfield 28, 3) := by decide +kernel
theorem dX9_read_41 : decode cX9_read 41 = .ok (.iconst 2, 1) := by decide +kernel
theorem dX9_read_42 : decode cX9_read 42 = .ok (.iaload, 1) := by decide +kernel
theorem dX9_read_43 : decode cX9_read 43 = .ok (.aload_n 0, 1) := by decide +kernel
theorem dX9_read_44 : decode cX9_read 44 = .ok (.getfield 22, 3) := by decide +kernel
theorem dX9_read_47 : decode cX9_read 47 = .ok (.iconst 2, 1) := by decide +kernel
theorem dX9_read_48 : decode cX9_read 48 = .ok (.iaload, 1) := by decide +kernel
theorem dX9_read_49 : decode cX9_read 49 = .ok (.iload_n 3, 1) := by decide +kernel
theorem dX9_read_50 : decode cX9_read 50 = .ok (.invokevirtual 69, 3) := by decide +kernel
theorem dX9_read_53 : decode cX9_read 53 = .ok (.goto 5, 3) := by decide +kernel
theorem dX9_read_56 : decode cX9_read 56 = .ok (.ldc 109, 2) := by decide +kernel
theorem dX9_read_58 : decode cX9_read 58 = .ok (.ireturn, 1) := by decide +kernel
set_option maxRecDepth 20000 in
theorem ggX9_from_X9_isRoot : GoodIn wsX9_from wsX9_isRoot := goodIn_r _ [8, 9, 10, 11, 7, 12, 41, 42, 43, 44, 45, 46, 47, 48, 49, 50, 51, 52, 53, 54, 55, 56, 57, 58, 59, 60, 61, 62, 63] (by decide +kernel) (by decide +kernel)
set_option maxRecDepth 20000 in
theorem gX9_from_X9_isRoot : GoodIn wsX9_from (wsV RX9 157 RX9 yX9_isRoot wsX9_isRoot) := goodIn_app (goodIn_of _ (by decide +kernel)) ggX9_from_X9_isRoot
set_option maxRecDepth 20000 in
theorem ggX9_from_X9_isLeaf : GoodIn wsX9_from wsX9_isLeaf := goodIn_r _ [15, 10, 11, 7, 12] (by decide +kernel) (by decide +kernel)
set_option maxRecDepth 20000 in
theorem gX9_from_X9_isLeaf : GoodIn wsX9_from (va_wsS RX9 100 yX9_isLeaf wsX9_isLeaf) := goodIn_app (goodIn_of _ (by decide +kernel)) ggX9_from_X9_isLeaf
set_option maxRecDepth 20000 in
theorem ggX9_from_X9_within : GoodIn wsX9_from wsX9_within := goodIn_r _ [12] (by decide +kernel) (by decide +kernel)
set_option maxRecDepth 20000 in
theorem gX9_from_X9_within : GoodIn wsX9_from (va_wsS RX9 78 yX9_within wsX9_within) := goodIn_app (goodIn_of _ (by decide +kernel)) ggX9_from_X9_within
set_option maxRecDepth 20000 in
theorem ggX9_from_X9_findWay : GoodIn wsX9_from wsX9_findWay := goodIn_r _ [19, 20, 21, 2, 22, 23, 24, 7, 25, 9, 10, 11, 12, 26, 27, 28, 29, 30, 31, 32, 33, 34, 35, 36, 37, 38, 39, 40, 41, 42, 43, 44, 45, 46, 47, 48, 49, 50, 51, 52, 53, 54, 55, 56, 57, 58, 59, 60, 61, 62, 63] (by decide +kernel) (by decide +kernel)
set_option maxRecDepth 20000 in
theorem gX9_from_X9_findWay : GoodIn wsX9_from (wsV RX9 88 RX9 yX9_findWay wsX9_findWay) := goodIn_app (goodIn_of _ (by decide +kernel)) ggX9_from_X9_findWay
theorem dX9_from_0 : decode cX9_from 0 = .ok (.aload_n 0, 1) := by decide +kernel
theorem dX9_from_1 : decode cX9_from 1 = .ok (.iload_n 1, 1) := by decide +kernel
theorem dX9_from_2 : decode cX9_from 2 = .ok (.invokevirtual 157, 3) := by decide +kernel
theorem dX9_from_5 : decode cX9_from 5 = .ok (.ifCond .eq 19, 3) := by decide +kernel
theorem dX9_from_8 : decode cX9_from 8 = .ok (.iload_n 2, 1) := by decide +kernel
theorem dX9_from_9 : decode cX9_from 9 = .ok (.invokestatic 100, 3) := by decide +kernel
theorem dX9_from_12 : decode cX9_from 12 = .ok (.ifCond .eq 12, 3) := by decide +kernel
theorem dX9_from_15 : decode cX9_from 15 = .ok (.iload_n 3, 1) := by decide +kernel
theorem dX9_from_16 : decode cX9_from 16 = .ok (.iconst 0, 1) := by decide +kernel
theorem dX9_from_17 : decode cX9_from 17 = .ok (.iconst 2, 1) := by decide +kernel
theorem dX9_from_18 : decode cX9_from 18 = .ok (.invokestatic 78, 3) := by decide +kernel
theorem dX9_from_21 : decode cX9_from 21 = .ok (.ifCond .ne 6, 3) := by decide +kernel
theorem dX9_from_24 : decode cX9_from 24 = .ok (.ldc 103, 2) := by decide +kernel
theorem dX9_from_26 : decode cX9_from 26 = .ok (.ireturn, 1) := by decide +kernel
theorem dX9_from_27 : decode cX9_from 27 = .ok (.aload_n 0, 1) := by decide +kernel
theorem dX9_from_28 : decode cX9_from 28 = .ok (.iload_n 1, 1) := by decide +kernel
theorem dX9_from_29 : decode cX9_from 29 = .ok (.iload_n 2, 1) := by decide +kernel
theorem dX9_from_30 : decode cX9_from 30 = .ok (.invokevirtual 88, 3) := by decide +kernel
theorem dX9_from_33 : decode cX9_from 33 = .ok (.pop, 1) := by decide +kernel
theorem dX9_from_34 : decode cX9_from 34 = .ok (.aload_n 0, 1) := by decide +kernel
theorem dX9_from_35 : decode cX9_from 35 = .ok (.getfield 28, 3) := by decide +kernel
theorem dX9_from_38 : decode cX9_from 38 = .ok (.iload_n 3, 1) := by decide +kernel
theorem dX9_from_39 : decode cX9_from 39 = .ok (.iaload, 1) := by decide +kernel
theorem dX9_from_40 : decode cX9_from 40 = .ok (.iconst (-1), 1) := by decide +kernel
theorem dX9_from_41 : decode cX9_from 41 = .ok (.if_icmp .ne 8, 3) := by decide +kernel
theorem dX9_from_44 : decode cX9_from 44 = .ok (.ldc 77, 2) := by decide +kernel
theorem dX9_from_46 : decode cX9_from 46 = .ok (.goto 9, 3) := by decide +kernel
theorem dX9_from_49 : decode cX9_from 49 = .ok (.aload_n 0, 1) := by decide +kernel
theorem dX9_from_50 : decode cX9_from 50 = .ok (.getfield 28, 3) := by decide +kernel
theorem dX9_from_53 : decode cX9_from 53 = .ok (.iload_n 3, 1) := by decide +kernel
theorem dX9_from_54 : decode cX9_from 54 = .ok (.iaload, 1) := by decide +kernel
theorem dX9_from_55 : decode cX9_from 55 = .ok (.ireturn, 1) := by decide +kernel
set_option maxRecDepth 20000 in
theorem ggX9_way_X9_isRoot : GoodIn wsX9_way wsX9_isRoot := goodIn_r _ [10, 11, 12, 13, 9, 14, 41, 42, 43, 44, 45, 46, 47, 48, 49, 50, 51, 52, 53, 54, 55, 56, 57, 58, 59, 60, 61, 62, 63] (by decide +kernel) (by decide +kernel)
set_option maxRecDepth 20000 in
theorem gX9_way_X9_isRoot : GoodIn wsX9_way (wsV RX9 157 RX9 yX9_isRoot wsX9_isRoot) := goodIn_app (goodIn_of _ (by decide +kernel)) ggX9_way_X9_isRoot
set_option maxRecDepth 20000 in
theorem ggX9_way_X9_isLeaf : GoodIn wsX9_way wsX9_isLeaf := goodIn_r _ [17, 12, 13, 9, 14] (by decide +kernel) (by decide +kernel)
set_option maxRecDepth 20000 in
theorem gX9_way_X9_isLeaf : GoodIn wsX9_way (va_wsS RX9 100 yX9_isLeaf wsX9_isLeaf) := goodIn_app (goodIn_of _ (by decide +kernel)) ggX9_way_X9_isLeaf
set_option maxRecDepth 20000 in
theorem ggX9_way_X9_within : GoodIn wsX9_way wsX9_within := goodIn_r _ [14] (by decide +kernel) (by decide +kernel)
set_option maxRecDepth 20000 in
theorem gX9_way_X9_within : GoodIn wsX9_way (va_wsS RX9 78 yX9_within wsX9_within) := goodIn_app (goodIn_of _ (by decide +kernel)) ggX9_way_X9_within
set_option maxRecDepth 20000 in
theorem ggX9_way_X9_findWay : GoodIn wsX9_way wsX9_findWay := goodIn_r _ [21, 4, 5, 2, 22, 23, 24, 9, 25, 11, 12, 13, 14, 26, 27, 28, 29, 30, 31, 32, 33, 34, 35, 36, 37, 38, 39, 40, 41, 42, 43, 44, 45, 46, 47, 48, 49, 50, 51, 52, 53, 54, 55, 56, 57, 58, 59, 60, 61, 62, 63] (by decide +kernel) (by decide +kernel)
set_option maxRecDepth 20000 in
theorem gX9_way_X9_findWay : GoodIn wsX9_way (wsV RX9 88 RX9 yX9_findWay wsX9_findWay) := goodIn_app (goodIn_of _ (by decide +kernel)) ggX9_way_X9_findWay
theorem dX9_way_0 : decode cX9_way 0 = .ok (.aload_n 0, 1) := by decide +kernel
theorem dX9_way_1 : decode cX9_way 1 = .ok (.iload_n 1, 1) := by decide +kernel
theorem dX9_way_2 : decode cX9_way 2 = .ok (.invokevirtual 157, 3) := by decide +kernel
theorem dX9_way_5 : decode cX9_way 5 = .ok (.ifCond .eq 29, 3) := by decide +kernel
theorem dX9_way_8 : decode cX9_way 8 = .ok (.iload_n 2, 1) := by decide +kernel
theorem dX9_way_9 : decode cX9_way 9 = .ok (.invokestatic 100, 3) := by decide +kernel
theorem dX9_way_12 : decode cX9_way 12 = .ok (.ifCond .eq 22, 3) := by decide +kernel
theorem dX9_way_15 : decode cX9_way 15 = .ok (.iload_n 3, 1) := by decide +kernel
theorem dX9_way_16 : decode cX9_way 16 = .ok (.iconst 0, 1) := by decide +kernel
theorem dX9_way_17 : decode cX9_way 17 = .ok (.iconst 2, 1) := by decide +kernel
theorem dX9_way_18 : decode cX9_way 18 = .ok (.invokestatic 78, 3) := by decide +kernel
theorem dX9_way_21 : decode cX9_way 21 = .ok (.ifCond .eq 13, 3) := by decide +kernel
theorem dX9_way_24 : decode cX9_way 24 = .ok (.iload 4, 2) := by decide +kernel
theorem dX9_way_26 : decode cX9_way 26 = .ok (.iconst 0, 1) := by decide +kernel
theorem dX9_way_27 : decode cX9_way 27 = .ok (.iconst 1, 1) := by decide +kernel
theorem dX9_way_28 : decode cX9_way 28 = .ok (.invokestatic 78, 3) := by decide +kernel
theorem dX9_way_31 : decode cX9_way 31 = .ok (.ifCond .ne 6, 3) := by decide +kernel
theorem dX9_way_34 : decode cX9_way 34 = .ok (.ldc 103, 2) := by decide +kernel
theorem dX9_way_36 : decode cX9_way 36 = .ok (.ireturn, 1) := by decide +kernel
theorem dX9_way_37 : decode cX9_way 37 = .ok (.aload_n 0, 1) := by decide +kernel
theorem dX9_way_38 : decode cX9_way 38 = .ok (.iload_n 1, 1) := by decide +kernel
theorem dX9_way_39 : decode cX9_way 39 = .ok (.iload_n 2, 1) := by decide +kernel
theorem dX9_way_40 : decode cX9_way 40 = .ok (.invokevirtual 88, 3) := by decide +kernel
theorem dX9_way_43 : decode cX9_way 43 = .ok (.pop, 1) := by decide +kernel
theorem dX9_way_44 : decode cX9_way 44 = .ok (.aload_n 0, 1) := by decide +kernel
theorem dX9_way_45 : decode cX9_way 45 = .ok (.getfield 28, 3) := by decide +kernel
theorem dX9_way_48 : decode cX9_way 48 = .ok (.iload_n 3, 1) := by decide +kernel
theorem dX9_way_49 : decode cX9_way 49 = .ok (.iaload, 1) := by decide +kernel
theorem dX9_way_50 : decode cX9_way 50 = .ok (.iconst (-1), 1) := by decide +kernel
theorem dX9_way_51 : decode cX9_way 51 = .ok (.if_icmp .ne 8, 3) := by decide +kernel
theorem dX9_way_54 : decode cX9_way 54 = .ok (.ldc 77, 2) := by decide +kernel
theorem dX9_way_56 : decode cX9_way 56 = .ok (.goto 23, 3) := by decide +kernel
theorem dX9_way_59 : decode cX9_way 59 = .ok (.iload 4, 2) := by decide +kernel
theorem dX9_way_61 : decode cX9_way 61 = .ok (.ifCond .ne 12, 3) := by decide +kernel
theorem dX9_way_64 : decode cX9_way 64 = .ok (.aload_n 0, 1) := by decide +kernel
theorem dX9_way_65 : decode cX9_way 65 = .ok (.getfield 22, 3) := by decide +kernel
theorem dX9_way_68 : decode cX9_way 68 = .ok (.iload_n 3, 1) := by decide +kernel
theorem dX9_way_69 : decode cX9_way 69 = .ok (.iaload, 1) := by decide +kernel
theorem dX9_way_70 : decode cX9_way 70 = .ok (.goto 9, 3) := by decide +kernel
theorem dX9_way_73 : decode cX9_way 73 = .ok (.aload_n 0, 1) := by decide +kernel
theorem dX9_way_74 : decode cX9_way 74 = .ok (.getfield 25, 3) := by decide +kernel
theorem dX9_way_77 : decode cX9_way 77 = .ok (.iload_n 3, 1) := by decide +kernel
theorem dX9_way_78 : decode cX9_way 78 = .ok (.iaload, 1) := by decide +kernel
theorem dX9_way_79 : decode cX9_way 79 = .ok (.ireturn, 1) := by decide +kernel
set_option maxRecDepth 20000 in
theorem ggX9_content_X9_isPlace : GoodIn wsX9_content wsX9_isPlace := goodIn_r _ [5, 6, 7, 4, 8] (by decide +kernel) (by decide +kernel)
set_option maxRecDepth 20000 in
theorem gX9_content_X9_isPlace : GoodIn wsX9_content (va_wsS RX9 152 yX9_isPlace wsX9_isPlace) := goodIn_app (goodIn_of _ (by decide +kernel)) ggX9_content_X9_isPlace
set_option maxRecDepth 20000 in
theorem ggX9_content_X9_sumOf : GoodIn wsX9_content wsX9_sumOf := goodIn_r _ [12, 13, 14, 15, 4, 16, 17, 18, 19, 20, 21, 22, 23, 24, 25, 26, 27, 28, 29, 30, 31, 32, 33, 34, 35, 36, 37, 38, 39, 40, 41, 42, 43] (by decide +kernel) (by decide +kernel)
set_option maxRecDepth 20000 in
theorem gX9_content_X9_sumOf : GoodIn wsX9_content (wsV RX9 49 RX9 yX9_sumOf wsX9_sumOf) := goodIn_app (goodIn_of _ (by decide +kernel)) ggX9_content_X9_sumOf
set_option maxRecDepth 20000 in
theorem ggX9_content_X9_contentOf : GoodIn wsX9_content wsX9_contentOf := goodIn_r _ [16, 17, 21, 22, 23, 24, 25, 26, 27, 28, 29, 30, 31, 32, 33, 34, 35, 36, 37, 38, 39, 40, 41, 42, 43] (by decide +kernel) (by decide +kernel)
set_option maxRecDepth 20000 in
theorem gX9_content_X9_contentOf : GoodIn wsX9_content (wsV RX9 69 RX9 yX9_contentOf wsX9_contentOf) := goodIn_app (goodIn_of _ (by decide +kernel)) ggX9_content_X9_contentOf
theorem dX9_content_0 : decode cX9_content 0 = .ok (.iload_n 1, 1) := by decide +kernel
theorem dX9_content_1 : decode cX9_content 1 = .ok (.iload_n 2, 1) := by decide +kernel
theorem dX9_content_2 : decode cX9_content 2 = .ok (.iload_n 3, 1) := by decide +kernel
theorem dX9_content_3 : decode cX9_content 3 = .ok (.iconst 4, 1) := by decide +kernel
theorem dX9_content_4 : decode cX9_content 4 = .ok (.invokestatic 152, 3) := by decide +kernel
theorem dX9_content_7 : decode cX9_content 7 = .ok (.ifCond .ne 6, 3) := by decide +kernel
theorem dX9_content_10 : decode cX9_content 10 = .ok (.ldc 103, 2) := by decide +kernel
theorem dX9_content_12 : decode cX9_content 12 = .ok (.ireturn, 1) := by decide +kernel
theorem dX9_content_13 : decode cX9_content 13 = .ok (.iload_n 3, 1) := by decide +kernel
theorem dX9_content_14 : decode cX9_content 14 = .ok (.iconst 4, 1) := by decide +kernel
theorem dX9_content_15 : decode cX9_content 15 = .ok (.if_icmp .ne 12, 3) := by decide +kernel
theorem dX9_content_18 : decode cX9_content 18 = .ok (.aload_n 0, 1) := by decide +kernel
theorem dX9_content_19 : decode cX9_content 19 = .ok (.iload_n 2, 1) := by decide +kernel
theorem dX9_content_20 : decode cX9_content 20 = .ok (.iload_n 1, 1) := by decide +kernel
theorem dX9_content_21 : decode cX9_content 21 = .ok (.invokevirtual 49, 3) := by decide +kernel
theorem dX9_content_24 : decode cX9_content 24 = .ok (.goto 10, 3) := by decide +kernel
theorem dX9_content_27 : decode cX9_content 27 = .ok (.aload_n 0, 1) := by decide +kernel
theorem dX9_content_28 : decode cX9_content 28 = .ok (.iload_n 2, 1) := by decide +kernel
theorem dX9_content_29 : decode cX9_content 29 = .ok (.iload_n 1, 1) := by decide +kernel
theorem dX9_content_30 : decode cX9_content 30 = .ok (.iload_n 3, 1) := by decide +kernel
theorem dX9_content_31 : decode cX9_content 31 = .ok (.invokevirtual 69, 3) := by decide +kernel
theorem dX9_content_34 : decode cX9_content 34 = .ok (.ireturn, 1) := by decide +kernel
set_option maxRecDepth 20000 in
theorem ggX9_mend_X9_isRoot : GoodIn wsX9_mend wsX9_isRoot := goodIn_r _ [6, 7, 8, 9, 5, 10, 70, 71, 72, 73, 74, 75, 76, 77, 78, 79, 80, 81, 82, 83, 84, 85, 86, 87, 88, 89, 90, 91, 92] (by decide +kernel) (by decide +kernel)
set_option maxRecDepth 20000 in
theorem gX9_mend_X9_isRoot : GoodIn wsX9_mend (wsV RX9 157 RX9 yX9_isRoot wsX9_isRoot) := goodIn_app (goodIn_of _ (by decide +kernel)) ggX9_mend_X9_isRoot
set_option maxRecDepth 20000 in
theorem ggX9_mend_X9_isLeaf : GoodIn wsX9_mend wsX9_isLeaf := goodIn_r _ [13, 8, 9, 5, 10] (by decide +kernel) (by decide +kernel)
set_option maxRecDepth 20000 in
theorem gX9_mend_X9_isLeaf : GoodIn wsX9_mend (va_wsS RX9 100 yX9_isLeaf wsX9_isLeaf) := goodIn_app (goodIn_of _ (by decide +kernel)) ggX9_mend_X9_isLeaf
set_option maxRecDepth 20000 in
theorem ggX9_mend_X9_record : GoodIn wsX9_mend wsX9_record := goodIn_r _ [17, 18, 19, 7, 20, 21, 5, 22, 70, 71, 72, 73, 74, 75, 76, 77, 78, 79, 80, 81, 82, 83, 84, 85, 86, 87, 88, 89, 90, 91, 92] (by decide +kernel) (by decide +kernel)
set_option maxRecDepth 20000 in
theorem gX9_mend_X9_record : GoodIn wsX9_mend (wsV RX9 146 RX9 yX9_record wsX9_record) := goodIn_app (goodIn_of _ (by decide +kernel)) ggX9_mend_X9_record
set_option maxRecDepth 20000 in
theorem ggX9_mend_X9_mendWay : GoodIn wsX9_mend wsX9_mendWay := goodIn_r _ [26, 27, 28, 29, 30, 31, 32, 5, 33, 34, 35, 36, 37, 38, 7, 8, 9, 10, 39, 40, 41, 42, 43, 44, 45, 46, 47, 48, 49, 50, 51, 52, 53, 54, 55, 56, 57, 58, 59, 60, 61, 62, 63, 64, 65, 66, 67, 68, 69, 70, 71, 72, 73, 74, 75, 76, 77, 78, 79, 80, 81, 82, 83, 84, 85, 86, 87, 88, 89, 90, 91, 92] (by decide +kernel) (by decide +kernel)
set_option maxRecDepth 20000 in
theorem gX9_mend_X9_mendWay : GoodIn wsX9_mend (wsV RX9 160 RX9 yX9_mendWay wsX9_mendWay) := goodIn_app (goodIn_of _ (by decide +kernel)) ggX9_mend_X9_mendWay
theorem dX9_mend_0 : decode cX9_mend 0 = .ok (.aload_n 0, 1) := by decide +kernel
theorem dX9_mend_1 : decode cX9_mend 1 = .ok (.iload_n 1, 1) := by decide +kernel
theorem dX9_mend_2 : decode cX9_mend 2 = .ok (.invokevirtual 157, 3) := by decide +kernel
theorem dX9_mend_5 : decode cX9_mend 5 = .ok (.ifCond .eq 10, 3) := by decide +kernel
theorem dX9_mend_8 : decode cX9_mend 8 = .ok (.iload_n 2, 1) := by decide +kernel
theorem dX9_mend_9 : decode cX9_mend 9 = .ok (.invokestatic 100, 3) := by decide +kernel
theorem dX9_mend_12 : decode cX9_mend 12 = .ok (.ifCond .ne 6, 3) := by decide +kernel
theorem dX9_mend_15 : decode cX9_mend 15 = .ok (.ldc 103, 2) := by decide +kernel
theorem dX9_mend_17 : decode cX9_mend 17 = .ok (.ireturn, 1) := by decide +kernel
theorem dX9_mend_18 : decode cX9_mend 18 = .ok (.aload_n 0, 1) := by decide +kernel
theorem dX9_mend_19 : decode cX9_mend 19 = .ok (.invokevirtual 146, 3) := by decide +kernel
theorem dX9_mend_22 : decode cX9_mend 22 = .ok (.aload_n 0, 1) := by decide +kernel
theorem dX9_mend_23 : decode cX9_mend 23 = .ok (.iload_n 1, 1) := by decide +kernel
theorem dX9_mend_24 : decode cX9_mend 24 = .ok (.iload_n 2, 1) := by decide +kernel
theorem dX9_mend_25 : decode cX9_mend 25 = .ok (.invokevirtual 160, 3) := by decide +kernel
theorem dX9_mend_28 : decode cX9_mend 28 = .ok (.ireturn, 1) := by decide +kernel
set_option maxRecDepth 20000 in
theorem ggX9_scrub_X9_record : GoodIn wsX9_scrub wsX9_record := goodIn_r _ [6, 7, 8, 1, 9, 10, 5, 11, 62, 63, 64, 65, 66, 67, 68, 69, 70, 71, 72, 73, 74, 75, 76, 77, 78, 79, 80, 81, 82, 83, 84] (by decide +kernel) (by decide +kernel)
set_option maxRecDepth 20000 in
theorem gX9_scrub_X9_record : GoodIn wsX9_scrub (wsV RX9 146 RX9 yX9_record wsX9_record) := goodIn_app (goodIn_of _ (by decide +kernel)) ggX9_scrub_X9_record
set_option maxRecDepth 20000 in
theorem ggX9_scrub_X9_mendWay : GoodIn wsX9_scrub wsX9_mendWay := goodIn_r _ [15, 16, 17, 18, 19, 20, 21, 5, 22, 23, 24, 25, 26, 27, 1, 28, 29, 30, 31, 32, 33, 34, 35, 36, 37, 38, 39, 40, 41, 42, 43, 44, 45, 46, 47, 48, 49, 50, 51, 52, 53, 54, 55, 56, 57, 58, 59, 60, 61, 62, 63, 64, 65, 66, 67, 68, 69, 70, 71, 72, 73, 74, 75, 76, 77, 78, 79, 80, 81, 82, 83, 84] (by decide +kernel) (by decide +kernel)
set_option maxRecDepth 20000 in
theorem gX9_scrub_X9_mendWay : GoodIn wsX9_scrub (wsV RX9 160 RX9 yX9_mendWay wsX9_mendWay) := goodIn_app (goodIn_of _ (by decide +kernel)) ggX9_scrub_X9_mendWay
theorem dX9_scrub_0 : decode cX9_scrub 0 = .ok (.aload_n 0, 1) := by decide +kernel
theorem dX9_scrub_1 : decode cX9_scrub 1 = .ok (.invokevirtual 146, 3) := by decide +kernel
theorem dX9_scrub_4 : decode cX9_scrub 4 = .ok (.iconst 0, 1) := by decide +kernel
theorem dX9_scrub_5 : decode cX9_scrub 5 = .ok (.istore_n 1, 1) := by decide +kernel
theorem dX9_scrub_6 : decode cX9_scrub 6 = .ok (.iconst 0, 1) := by decide +kernel
theorem dX9_scrub_7 : decode cX9_scrub 7 = .ok (.istore_n 2, 1) := by decide +kernel
theorem dX9_scrub_8 : decode cX9_scrub 8 = .ok (.iload_n 2, 1) := by decide +kernel
theorem dX9_scrub_9 : decode cX9_scrub 9 = .ok (.aload_n 0, 1) := by decide +kernel
theorem dX9_scrub_10 : decode cX9_scrub 10 = .ok (.getfield 7, 3) := by decide +kernel
theorem dX9_scrub_13 : decode cX9_scrub 13 = .ok (.sipush 864, 3) := by decide +kernel
theorem dX9_scrub_16 : decode cX9_scrub 16 = .ok (.iaload, 1) := by decide +kernel
theorem dX9_scrub_17 : decode cX9_scrub 17 = .ok (.if_icmp .ge 32, 3) := by decide +kernel
theorem dX9_scrub_20 : decode cX9_scrub 20 = .ok (.iconst 0, 1) := by decide +kernel
theorem dX9_scrub_21 : decode cX9_scrub 21 = .ok (.istore_n 3, 1) := by decide +kernel
theorem dX9_scrub_22 : decode cX9_scrub 22 = .ok (.iload_n 3, 1) := by decide +kernel
theorem dX9_scrub_23 : decode cX9_scrub 23 = .ok (.bipush 16, 2) := by decide +kernel
theorem dX9_scrub_25 : decode cX9_scrub 25 = .ok (.if_icmp .ge 18, 3) := by decide +kernel
theorem dX9_scrub_28 : decode cX9_scrub 28 = .ok (.iload_n 1, 1) := by decide +kernel
theorem dX9_scrub_29 : decode cX9_scrub 29 = .ok (.aload_n 0, 1) := by decide +kernel
theorem dX9_scrub_30 : decode cX9_scrub 30 = .ok (.iload_n 2, 1) := by decide +kernel
theorem dX9_scrub_31 : decode cX9_scrub 31 = .ok (.iload_n 3, 1) := by decide +kernel
theorem dX9_scrub_32 : decode cX9_scrub 32 = .ok (.invokevirtual 160, 3) := by decide +kernel
theorem dX9_scrub_35 : decode cX9_scrub 35 = .ok (.iadd, 1) := by decide +kernel
theorem dX9_scrub_36 : decode cX9_scrub 36 = .ok (.istore_n 1, 1) := by decide +kernel
theorem dX9_scrub_37 : decode cX9_scrub 37 = .ok (.iinc 3 1, 3) := by decide +kernel
theorem dX9_scrub_40 : decode cX9_scrub 40 = .ok (.goto (-18), 3) := by decide +kernel
theorem dX9_scrub_43 : decode cX9_scrub 43 = .ok (.iinc 2 1, 3) := by decide +kernel
theorem dX9_scrub_46 : decode cX9_scrub 46 = .ok (.goto (-38), 3) := by decide +kernel
theorem dX9_scrub_49 : decode cX9_scrub 49 = .ok (.iload_n 1, 1) := by decide +kernel
theorem dX9_scrub_50 : decode cX9_scrub 50 = .ok (.ireturn, 1) := by decide +kernel
set_option maxRecDepth 20000 in
theorem ggX9_hasUnlike_X9_areUnlike : GoodIn wsX9_hasUnlike wsX9_areUnlike := goodIn_r _ [6, 7, 8, 9, 5, 10, 11, 12, 13, 14, 15, 16, 17, 18, 19, 20, 21, 22, 23, 24, 25, 26, 27, 28, 29, 30, 31, 32, 33, 34] (by decide +kernel) (by decide +kernel)
set_option maxRecDepth 20000 in
theorem gX9_hasUnlike_X9_areUnlike : GoodIn wsX9_hasUnlike (wsV RX9 92 RX9 yX9_areUnlike wsX9_areUnlike) := goodIn_app (goodIn_of _ (by decide +kernel)) ggX9_hasUnlike_X9_areUnlike
theorem dX9_hasUnlike_0 : decode cX9_hasUnlike 0 = .ok (.iconst 0, 1) := by decide +kernel
theorem dX9_hasUnlike_1 : decode cX9_hasUnlike 1 = .ok (.istore_n 1, 1) := by decide +kernel
theorem dX9_hasUnlike_2 : decode cX9_hasUnlike 2 = .ok (.iconst 0, 1) := by decide +kernel
theorem dX9_hasUnlike_3 : decode cX9_hasUnlike 3 = .ok (.istore_n 2, 1) := by decide +kernel
theorem dX9_hasUnlike_4 : decode cX9_hasUnlike 4 = .ok (.iload_n 2, 1) := by decide +kernel
theorem dX9_hasUnlike_5 : decode cX9_hasUnlike 5 = .ok (.iconst 3, 1) := by decide +kernel
theorem dX9_hasUnlike_6 : decode cX9_hasUnlike 6 = .ok (.if_icmp .ge 32, 3) := by decide +kernel
theorem dX9_hasUnlike_9 : decode cX9_hasUnlike 9 = .ok (.iload_n 1, 1) := by decide +kernel
theorem dX9_hasUnlike_10 : decode cX9_hasUnlike 10 = .ok (.ifCond .ne 16, 3) := by decide +kernel
theorem dX9_hasUnlike_13 : decode cX9_hasUnlike 13 = .ok (.aload_n 0, 1) := by decide +kernel
theorem dX9_hasUnlike_14 : decode cX9_hasUnlike 14 = .ok (.aload_n 0, 1) := by decide +kernel
theorem dX9_hasUnlike_15 : decode cX9_hasUnlike 15 = .ok (.getfield 22, 3) := by decide +kernel
theorem dX9_hasUnlike_18 : decode cX9_hasUnlike 18 = .ok (.iload_n 2, 1) := by decide +kernel
theorem dX9_hasUnlike_19 : decode cX9_hasUnlike 19 = .ok (.iaload, 1) := by decide +kernel
theorem dX9_hasUnlike_20 : decode cX9_hasUnlike 20 = .ok (.invokevirtual 92, 3) := by decide +kernel
theorem dX9_hasUnlike_23 : decode cX9_hasUnlike 23 = .ok (.ifCond .eq 7, 3) := by decide +kernel
theorem dX9_hasUnlike_26 : decode cX9_hasUnlike 26 = .ok (.iconst 1, 1) := by decide +kernel
theorem dX9_hasUnlike_27 : decode cX9_hasUnlike 27 = .ok (.goto 4, 3) := by decide +kernel
theorem dX9_hasUnlike_30 : decode cX9_hasUnlike 30 = .ok (.iconst 0, 1) := by decide +kernel
theorem dX9_hasUnlike_31 : decode cX9_hasUnlike 31 = .ok (.istore_n 1, 1) := by decide +kernel
theorem dX9_hasUnlike_32 : decode cX9_hasUnlike 32 = .ok (.iinc 2 1, 3) := by decide +kernel
theorem dX9_hasUnlike_35 : decode cX9_hasUnlike 35 = .ok (.goto (-31), 3) := by decide +kernel
theorem dX9_hasUnlike_38 : decode cX9_hasUnlike 38 = .ok (.iload_n 1, 1) := by decide +kernel
theorem dX9_hasUnlike_39 : decode cX9_hasUnlike 39 = .ok (.ireturn, 1) := by decide +kernel
set_option maxRecDepth 20000 in
theorem ggX9_leaves_X9_isRoot : GoodIn wsX9_leaves wsX9_isRoot := goodIn_r _ [7, 8, 9, 10, 6, 11, 45, 46, 47, 48, 49, 50, 51, 52, 53, 54, 55, 56, 57, 58, 59, 60, 61, 62, 63, 64, 65, 66, 67] (by decide +kernel) (by decide +kernel)
set_option maxRecDepth 20000 in
theorem gX9_leaves_X9_isRoot : GoodIn wsX9_leaves (wsV RX9 157 RX9 yX9_isRoot wsX9_isRoot) := goodIn_app (goodIn_of _ (by decide +kernel)) ggX9_leaves_X9_isRoot
set_option maxRecDepth 20000 in
theorem ggX9_leaves_X9_within : GoodIn wsX9_leaves wsX9_within := goodIn_r _ [11] (by decide +kernel) (by decide +kernel)
set_option maxRecDepth 20000 in
theorem gX9_leaves_X9_within : GoodIn wsX9_leaves (va_wsS RX9 78 yX9_within wsX9_within) := goodIn_app (goodIn_of _ (by decide +kernel)) ggX9_leaves_X9_within
set_option maxRecDepth 20000 in
theorem ggX9_leaves_X9_findWay : GoodIn wsX9_leaves wsX9_findWay := goodIn_r _ [15, 16, 17, 2, 18, 19, 20, 6, 21, 8, 9, 10, 11, 22, 23, 24, 25, 26, 27, 28, 29, 30, 31, 32, 33, 34, 35, 36, 45, 46, 47, 48, 49, 50, 51, 52, 53, 54, 55, 56, 57, 58, 59, 60, 61, 62, 63, 64, 65, 66, 67] (by decide +kernel) (by decide +kernel)
set_option maxRecDepth 20000 in
theorem gX9_leaves_X9_findWay : GoodIn wsX9_leaves (wsV RX9 88 RX9 yX9_findWay wsX9_findWay) := goodIn_app (goodIn_of _ (by decide +kernel)) ggX9_leaves_X9_findWay
set_option maxRecDepth 20000 in
theorem ggX9_leaves_X9_hasUnlike : GoodIn wsX9_leaves wsX9_hasUnlike := goodIn_r _ [40, 16, 41, 42, 43, 6, 44, 22, 23, 24, 25, 8, 45, 46, 47, 48, 49, 50, 51, 52, 53, 54, 55, 56, 57, 58, 59, 60, 61, 62, 63, 64, 65, 66, 67] (by decide +kernel) (by decide +kernel)
set_option maxRecDepth 20000 in
theorem gX9_leaves_X9_hasUnlike : GoodIn wsX9_leaves (wsV RX9 163 RX9 yX9_hasUnlike wsX9_hasUnlike) := goodIn_app (goodIn_of _ (by decide +kernel)) ggX9_leaves_X9_hasUnlike
theorem dX9_leaves_0 : decode cX9_leaves 0 = .ok (.aload_n 0, 1) := by decide +kernel
theorem dX9_leaves_1 : decode cX9_leaves 1 = .ok (.iload_n 1, 1) := by decide +kernel
theorem dX9_leaves_2 : decode cX9_leaves 2 = .ok (.invokevirtual 157, 3) := by decide +kernel
theorem dX9_leaves_5 : decode cX9_leaves 5 = .ok (.ifCond .eq 12, 3) := by decide +kernel
theorem dX9_leaves_8 : decode cX9_leaves 8 = .ok (.iload_n 2, 1) := by decide +kernel
theorem dX9_leaves_9 : decode cX9_leaves 9 = .ok (.iconst 0, 1) := by decide +kernel
theorem dX9_leaves_10 : decode cX9_leaves 10 = .ok (.iconst 2, 1) := by decide +kernel
theorem dX9_leaves_11 : decode cX9_leaves 11 = .ok (.invokestatic 78, 3) := by decide +kernel
theorem dX9_leaves_14 : decode cX9_leaves 14 = .ok (.ifCond .ne 6, 3) := by decide +kernel
theorem dX9_leaves_17 : decode cX9_leaves 17 = .ok (.ldc 103, 2) := by decide +kernel
theorem dX9_leaves_19 : decode cX9_leaves 19 = .ok (.ireturn, 1) := by decide +kernel
theorem dX9_leaves_20 : decode cX9_leaves 20 = .ok (.iconst 0, 1) := by decide +kernel
theorem dX9_leaves_21 : decode cX9_leaves 21 = .ok (.istore_n 3, 1) := by decide +kernel
theorem dX9_leaves_22 : decode cX9_leaves 22 = .ok (.iconst 0, 1) := by decide +kernel
theorem dX9_leaves_23 : decode cX9_leaves 23 = .ok (.istore 4, 2) := by decide +kernel
theorem dX9_leaves_25 : decode cX9_leaves 25 = .ok (.iload 4, 2) := by decide +kernel
theorem dX9_leaves_27 : decode cX9_leaves 27 = .ok (.bipush 16, 2) := by decide +kernel
theorem dX9_leaves_29 : decode cX9_leaves 29 = .ok (.if_icmp .ge 101, 3) := by decide +kernel
theorem dX9_leaves_32 : decode cX9_leaves 32 = .ok (.aload_n 0, 1) := by decide +kernel
theorem dX9_leaves_33 : decode cX9_leaves 33 = .ok (.iload_n 1, 1) := by decide +kernel
theorem dX9_leaves_34 : decode cX9_leaves 34 = .ok (.iload 4, 2) := by decide +kernel
theorem dX9_leaves_36 : decode cX9_leaves 36 = .ok (.invokevirtual 88, 3) := by decide +kernel
theorem dX9_leaves_39 : decode cX9_leaves 39 = .ok (.istore 5, 2) := by decide +kernel
theorem dX9_leaves_41 : decode cX9_leaves 41 = .ok (.iload_n 2, 1) := by decide +kernel
theorem dX9_leaves_42 : decode cX9_leaves 42 = .ok (.ifCond .ne 16, 3) := by decide +kernel
theorem dX9_leaves_45 : decode cX9_leaves 45 = .ok (.iload 5, 2) := by decide +kernel
theorem dX9_leaves_47 : decode cX9_leaves 47 = .ok (.ifCond .ne 7, 3) := by decide +kernel
theorem dX9_leaves_50 : decode cX9_leaves 50 = .ok (.iconst 1, 1) := by decide +kernel
theorem dX9_leaves_51 : decode cX9_leaves 51 = .ok (.goto 55, 3) := by decide +kernel
theorem dX9_leaves_54 : decode cX9_leaves 54 = .ok (.iconst 0, 1) := by decide +kernel
theorem dX9_leaves_55 : decode cX9_leaves 55 = .ok (.goto 51, 3) := by decide +kernel
theorem dX9_leaves_58 : decode cX9_leaves 58 = .ok (.iload 5, 2) := by decide +kernel
theorem dX9_leaves_60 : decode cX9_leaves 60 = .ok (.ifCond .eq 45, 3) := by decide +kernel
theorem dX9_leaves_63 : decode cX9_leaves 63 = .ok (.iload_n 2, 1) := by decide +kernel
theorem dX9_leaves_64 : decode cX9_leaves 64 = .ok (.iconst 1, 1) := by decide +kernel
theorem dX9_leaves_65 : decode cX9_leaves 65 = .ok (.if_icmp .ne 13, 3) := by decide +kernel
theorem dX9_leaves_68 : decode cX9_leaves 68 = .ok (.aload_n 0, 1) := by decide +kernel
theorem dX9_leaves_69 : decode cX9_leaves 69 = .ok (.invokevirtual 163, 3) := by decide +kernel
theorem dX9_leaves_72 : decode cX9_leaves 72 = .ok (.ifCond .eq 33, 3) := by decide +kernel
theorem dX9_leaves_75 : decode cX9_leaves 75 = .ok (.goto 26, 3) := by decide +kernel
theorem dX9_leaves_78 : decode cX9_leaves 78 = .ok (.aload_n 0, 1) := by decide +kernel
theorem dX9_leaves_79 : decode cX9_leaves 79 = .ok (.getfield 28, 3) := by decide +kernel
theorem dX9_leaves_82 : decode cX9_leaves 82 = .ok (.iconst 0, 1) := by decide +kernel
theorem dX9_leaves_83 : decode cX9_leaves 83 = .ok (.iaload, 1) := by decide +kernel
theorem dX9_leaves_84 : decode cX9_leaves 84 = .ok (.aload_n 0, 1) := by decide +kernel
theorem dX9_leaves_85 : decode cX9_leaves 85 = .ok (.getfield 28, 3) := by decide +kernel
theorem dX9_leaves_88 : decode cX9_leaves 88 = .ok (.iconst 1, 1) := by decide +kernel
theorem dX9_leaves_89 : decode cX9_leaves 89 = .ok (.iaload, 1) := by decide +kernel
theorem dX9_leaves_90 : decode cX9_leaves 90 = .ok (.iadd, 1) := by decide +kernel
theorem dX9_leaves_91 : decode cX9_leaves 91 = .ok (.aload_n 0, 1) := by decide +kernel
theorem dX9_leaves_92 : decode cX9_leaves 92 = .ok (.getfield 28, 3) := by decide +kernel
theorem dX9_leaves_95 : decode cX9_leaves 95 = .ok (.iconst 2, 1) := by decide +kernel
theorem dX9_leaves_96 : decode cX9_leaves 96 = .ok (.iaload, 1) := by decide +kernel
theorem dX9_leaves_97 : decode cX9_leaves 97 = .ok (.iadd, 1) := by decide +kernel
theorem dX9_leaves_98 : decode cX9_leaves 98 = .ok (.ifCond .le 7, 3) := by decide +kernel
theorem dX9_leaves_101 : decode cX9_leaves 101 = .ok (.iconst 1, 1) := by decide +kernel
theorem dX9_leaves_102 : decode cX9_leaves 102 = .ok (.goto 4, 3) := by decide +kernel
theorem dX9_leaves_105 : decode cX9_leaves 105 = .ok (.iconst 0, 1) := by decide +kernel
theorem dX9_leaves_106 : decode cX9_leaves 106 = .ok (.istore 6, 2) := by decide +kernel
theorem dX9_leaves_108 : decode cX9_leaves 108 = .ok (.iload_n 3, 1) := by decide +kernel
theorem dX9_leaves_109 : decode cX9_leaves 109 = .ok (.iload 6, 2) := by decide +kernel
theorem dX9_leaves_111 : decode cX9_leaves 111 = .ok (.ifCond .eq 10, 3) := by decide +kernel
theorem dX9_leaves_114 : decode cX9_leaves 114 = .ok (.iconst 1, 1) := by decide +kernel
theorem dX9_leaves_115 : decode cX9_leaves 115 = .ok (.iload 4, 2) := by decide +kernel
theorem dX9_leaves_117 : decode cX9_leaves 117 = .ok (.ishl, 1) := by decide +kernel
theorem dX9_leaves_118 : decode cX9_leaves 118 = .ok (.goto 4, 3) := by decide +kernel
theorem dX9_leaves_121 : decode cX9_leaves 121 = .ok (.iconst 0, 1) := by decide +kernel
theorem dX9_leaves_122 : decode cX9_leaves 122 = .ok (.ior, 1) := by decide +kernel
theorem dX9_leaves_123 : decode cX9_leaves 123 = .ok (.istore_n 3, 1) := by decide +kernel
theorem dX9_leaves_124 : decode cX9_leaves 124 = .ok (.iinc 4 1, 3) := by decide +kernel
theorem dX9_leaves_127 : decode cX9_leaves 127 = .ok (.goto (-102), 3) := by decide +kernel
theorem dX9_leaves_130 : decode cX9_leaves 130 = .ok (.iload_n 3, 1) := by decide +kernel
theorem dX9_leaves_131 : decode cX9_leaves 131 = .ok (.ireturn, 1) := by decide +kernel
set_option maxRecDepth 20000 in
theorem ggX9_free_X9_isRoot : GoodIn wsX9_free wsX9_isRoot := goodIn_r _ [7, 8, 9, 10, 6, 11, 65, 66, 67, 68, 69, 70, 71, 72, 73, 74, 75, 76, 77, 78, 79, 80, 81, 82, 83, 84, 85, 86, 87] (by decide +kernel) (by decide +kernel)
set_option maxRecDepth 20000 in
theorem gX9_free_X9_isRoot : GoodIn wsX9_free (wsV RX9 157 RX9 yX9_isRoot wsX9_isRoot) := goodIn_app (goodIn_of _ (by decide +kernel)) ggX9_free_X9_isRoot
set_option maxRecDepth 20000 in
theorem ggX9_free_X9_record : GoodIn wsX9_free wsX9_record := goodIn_r _ [15, 16, 17, 8, 18, 19, 6, 20, 65, 66, 67, 68, 69, 70, 71, 72, 73, 74, 75, 76, 77, 78, 79, 80, 81, 82, 83, 84, 85, 86, 87] (by decide +kernel) (by decide +kernel)
set_option maxRecDepth 20000 in
theorem gX9_free_X9_record : GoodIn wsX9_free (wsV RX9 146 RX9 yX9_record wsX9_record) := goodIn_app (goodIn_of _ (by decide +kernel)) ggX9_free_X9_record
set_option maxRecDepth 20000 in
theorem ggX9_free_X9_dropRoot : GoodIn wsX9_free wsX9_dropRoot := goodIn_r _ [24, 8, 65, 66, 67, 68, 69, 70, 71, 72, 73, 74, 75, 76, 77, 78, 79, 80, 81, 82, 83, 84, 85, 86, 87] (by decide +kernel) (by decide +kernel)
set_option maxRecDepth 20000 in
theorem gX9_free_X9_dropRoot : GoodIn wsX9_free (wsV RX9 167 RX9 yX9_dropRoot wsX9_dropRoot) := goodIn_app (goodIn_of _ (by decide +kernel)) ggX9_free_X9_dropRoot
set_option maxRecDepth 20000 in
theorem ggX9_free_X9_letGo : GoodIn wsX9_free wsX9_letGo := goodIn_r _ [28, 29, 8, 30, 31, 32, 6, 33, 34, 35, 36, 37, 38, 39, 40, 41, 42, 43, 44, 45, 46, 47, 48, 49, 50, 51, 52, 53, 54, 55, 56, 57, 58, 59, 60, 61, 62, 63, 64, 65, 66, 67, 68, 69, 70, 71, 72, 73, 74, 75, 76, 77, 78, 79, 80, 81, 82, 83, 84, 85, 86, 87] (by decide +kernel) (by decide +kernel)
set_option maxRecDepth 20000 in
theorem gX9_free_X9_letGo : GoodIn wsX9_free (wsV RX9 170 RX9 yX9_letGo wsX9_letGo) := goodIn_app (goodIn_of _ (by decide +kernel)) ggX9_free_X9_letGo
theorem dX9_free_0 : decode cX9_free 0 = .ok (.aload_n 0, 1) := by decide +kernel
theorem dX9_free_1 : decode cX9_free 1 = .ok (.iload_n 1, 1) := by decide +kernel
theorem dX9_free_2 : decode cX9_free 2 = .ok (.invokevirtual 157, 3) := by decide +kernel
theorem dX9_free_5 : decode cX9_free 5 = .ok (.ifCond .eq 7, 3) := by decide +kernel
theorem dX9_free_8 : decode cX9_free 8 = .ok (.iload_n 1, 1) := by decide +kernel
theorem dX9_free_9 : decode cX9_free 9 = .ok (.ifCond .ne 19, 3) := by decide +kernel
theorem dX9_free_12 : decode cX9_free 12 = .ok (.aload_n 0, 1) := by decide +kernel
theorem dX9_free_13 : decode cX9_free 13 = .ok (.iload_n 1, 1) := by decide +kernel
theorem dX9_free_14 : decode cX9_free 14 = .ok (.invokevirtual 157, 3) := by decide +kernel
theorem dX9_free_17 : decode cX9_free 17 = .ok (.ifCond .eq 8, 3) := by decide +kernel
theorem dX9_free_20 : decode cX9_free 20 = .ok (.ldc 109, 2) := by decide +kernel
theorem dX9_free_22 : decode cX9_free 22 = .ok (.goto 5, 3) := by decide +kernel
theorem dX9_free_25 : decode cX9_free 25 = .ok (.ldc 103, 2) := by decide +kernel
theorem dX9_free_27 : decode cX9_free 27 = .ok (.ireturn, 1) := by decide +kernel
theorem dX9_free_28 : decode cX9_free 28 = .ok (.aload_n 0, 1) := by decide +kernel
theorem dX9_free_29 : decode cX9_free 29 = .ok (.invokevirtual 146, 3) := by decide +kernel
theorem dX9_free_32 : decode cX9_free 32 = .ok (.aload_n 0, 1) := by decide +kernel
theorem dX9_free_33 : decode cX9_free 33 = .ok (.iload_n 1, 1) := by decide +kernel
theorem dX9_free_34 : decode cX9_free 34 = .ok (.invokevirtual 167, 3) := by decide +kernel
theorem dX9_free_37 : decode cX9_free 37 = .ok (.aload_n 0, 1) := by decide +kernel
theorem dX9_free_38 : decode cX9_free 38 = .ok (.invokevirtual 170, 3) := by decide +kernel
theorem dX9_free_41 : decode cX9_free 41 = .ok (.ireturn, 1) := by decide +kernel
set_option maxRecDepth 20000 in
theorem ggX9_back_X9_isRoot : GoodIn wsX9_back wsX9_isRoot := goodIn_r _ [6, 7, 8, 9, 5, 10, 64, 65, 66, 67, 68, 69, 70, 71, 72, 73, 74, 75, 76, 77, 78, 79, 80, 81, 82, 83, 84, 85, 86] (by decide +kernel) (by decide +kernel)
set_option maxRecDepth 20000 in
theorem gX9_back_X9_isRoot : GoodIn wsX9_back (wsV RX9 157 RX9 yX9_isRoot wsX9_isRoot) := goodIn_app (goodIn_of _ (by decide +kernel)) ggX9_back_X9_isRoot
set_option maxRecDepth 20000 in
theorem ggX9_back_X9_record : GoodIn wsX9_back wsX9_record := goodIn_r _ [14, 15, 16, 7, 17, 18, 5, 19, 64, 65, 66, 67, 68, 69, 70, 71, 72, 73, 74, 75, 76, 77, 78, 79, 80, 81, 82, 83, 84, 85, 86] (by decide +kernel) (by decide +kernel)
set_option maxRecDepth 20000 in
theorem gX9_back_X9_record : GoodIn wsX9_back (wsV RX9 146 RX9 yX9_record wsX9_record) := goodIn_app (goodIn_of _ (by decide +kernel)) ggX9_back_X9_record
set_option maxRecDepth 20000 in
theorem ggX9_back_X9_dropRoot : GoodIn wsX9_back wsX9_dropRoot := goodIn_r _ [23, 7, 64, 65, 66, 67, 68, 69, 70, 71, 72, 73, 74, 75, 76, 77, 78, 79, 80, 81, 82, 83, 84, 85, 86] (by decide +kernel) (by decide +kernel)
set_option maxRecDepth 20000 in
theorem gX9_back_X9_dropRoot : GoodIn wsX9_back (wsV RX9 167 RX9 yX9_dropRoot wsX9_dropRoot) := goodIn_app (goodIn_of _ (by decide +kernel)) ggX9_back_X9_dropRoot
set_option maxRecDepth 20000 in
theorem ggX9_back_X9_letGo : GoodIn wsX9_back wsX9_letGo := goodIn_r _ [27, 28, 7, 29, 30, 31, 5, 32, 33, 34, 35, 36, 37, 38, 39, 40, 41, 42, 43, 44, 45, 46, 47, 48, 49, 50, 51, 52, 53, 54, 55, 56, 57, 58, 59, 60, 61, 62, 63, 64, 65, 66, 67, 68, 69, 70, 71, 72, 73, 74, 75, 76, 77, 78, 79, 80, 81, 82, 83, 84, 85, 86] (by decide +kernel) (by decide +kernel)
set_option maxRecDepth 20000 in
theorem gX9_back_X9_letGo : GoodIn wsX9_back (wsV RX9 170 RX9 yX9_letGo wsX9_letGo) := goodIn_app (goodIn_of _ (by decide +kernel)) ggX9_back_X9_letGo
theorem dX9_back_0 : decode cX9_back 0 = .ok (.aload_n 0, 1) := by decide +kernel
theorem dX9_back_1 : decode cX9_back 1 = .ok (.iload_n 1, 1) := by decide +kernel
theorem dX9_back_2 : decode cX9_back 2 = .ok (.invokevirtual 157, 3) := by decide +kernel
theorem dX9_back_5 : decode cX9_back 5 = .ok (.ifCond .ne 6, 3) := by decide +kernel
theorem dX9_back_8 : decode cX9_back 8 = .ok (.ldc 103, 2) := by decide +kernel
theorem dX9_back_10 : decode cX9_back 10 = .ok (.ireturn, 1) := by decide +kernel
theorem dX9_back_11 : decode cX9_back 11 = .ok (.aload_n 0, 1) := by decide +kernel
theorem dX9_back_12 : decode cX9_back 12 = .ok (.invokevirtual 146, 3) := by decide +kernel
theorem dX9_back_15 : decode cX9_back 15 = .ok (.iconst 0, 1) := by decide +kernel
theorem dX9_back_16 : decode cX9_back 16 = .ok (.istore_n 2, 1) := by decide +kernel
theorem dX9_back_17 : decode cX9_back 17 = .ok (.iload_n 2, 1) := by decide +kernel
theorem dX9_back_18 : decode cX9_back 18 = .ok (.iload_n 1, 1) := by decide +kernel
theorem dX9_back_19 : decode cX9_back 19 = .ok (.if_icmp .ge 14, 3) := by decide +kernel
theorem dX9_back_22 : decode cX9_back 22 = .ok (.aload_n 0, 1) := by decide +kernel
theorem dX9_back_23 : decode cX9_back 23 = .ok (.iconst 0, 1) := by decide +kernel
theorem dX9_back_24 : decode cX9_back 24 = .ok (.invokevirtual 167, 3) := by decide +kernel
theorem dX9_back_27 : decode cX9_back 27 = .ok (.iinc 2 1, 3) := by decide +kernel
theorem dX9_back_30 : decode cX9_back 30 = .ok (.goto (-13), 3) := by decide +kernel
theorem dX9_back_33 : decode cX9_back 33 = .ok (.iload_n 1, 1) := by decide +kernel
theorem dX9_back_34 : decode cX9_back 34 = .ok (.ifCond .ne 7, 3) := by decide +kernel
theorem dX9_back_37 : decode cX9_back 37 = .ok (.iconst 0, 1) := by decide +kernel
theorem dX9_back_38 : decode cX9_back 38 = .ok (.goto 7, 3) := by decide +kernel
theorem dX9_back_41 : decode cX9_back 41 = .ok (.aload_n 0, 1) := by decide +kernel
theorem dX9_back_42 : decode cX9_back 42 = .ok (.invokevirtual 170, 3) := by decide +kernel
theorem dX9_back_45 : decode cX9_back 45 = .ok (.ireturn, 1) := by decide +kernel
set_option maxRecDepth 20000 in
theorem ggX9_ownedBy_X9_findOwners : GoodIn wsX9_ownedBy wsX9_findOwners := goodIn_r _ [6, 1, 7, 8, 9, 10, 5, 11, 12, 13, 14, 15, 16, 17, 18, 19, 20, 21, 22, 23, 24, 25, 26, 27, 28, 29, 30, 31, 32, 33, 34, 35, 36, 37, 38, 39, 40, 41, 42, 43, 44, 45, 46, 47, 48, 49, 50, 51, 52, 53, 54, 55, 56, 57, 58, 59, 60, 61] (by decide +kernel) (by decide +kernel)
set_option maxRecDepth 20000 in
theorem gX9_ownedBy_X9_findOwners : GoodIn wsX9_ownedBy (wsV RX9 140 RX9 yX9_findOwners wsX9_findOwners) := goodIn_app (goodIn_of _ (by decide +kernel)) ggX9_ownedBy_X9_findOwners
theorem dX9_ownedBy_0 : decode cX9_ownedBy 0 = .ok (.aload_n 0, 1) := by decide +kernel
theorem dX9_ownedBy_1 : decode cX9_ownedBy 1 = .ok (.invokevirtual 140, 3) := by decide +kernel
theorem dX9_ownedBy_4 : decode cX9_ownedBy 4 = .ok (.iconst 0, 1) := by decide +kernel
theorem dX9_ownedBy_5 : decode cX9_ownedBy 5 = .ok (.istore_n 3, 1) := by decide +kernel
theorem dX9_ownedBy_6 : decode cX9_ownedBy 6 = .ok (.iconst 0, 1) := by decide +kernel
theorem dX9_ownedBy_7 : decode cX9_ownedBy 7 = .ok (.istore 4, 2) := by decide +kernel
theorem dX9_ownedBy_9 : decode cX9_ownedBy 9 = .ok (.iload 4, 2) := by decide +kernel
theorem dX9_ownedBy_11 : decode cX9_ownedBy 11 = .ok (.bipush 96, 2) := by decide +kernel
theorem dX9_ownedBy_13 : decode cX9_ownedBy 13 = .ok (.if_icmp .ge 48, 3) := by decide +kernel
theorem dX9_ownedBy_16 : decode cX9_ownedBy 16 = .ok (.iload_n 3, 1) := by decide +kernel
theorem dX9_ownedBy_17 : decode cX9_ownedBy 17 = .ok (.iload_n 2, 1) := by decide +kernel
theorem dX9_ownedBy_18 : decode cX9_ownedBy 18 = .ok (.ifCond .eq 24, 3) := by decide +kernel
theorem dX9_ownedBy_21 : decode cX9_ownedBy 21 = .ok (.aload_n 0, 1) := by decide +kernel
theorem dX9_ownedBy_22 : decode cX9_ownedBy 22 = .ok (.getfield 46, 3) := by decide +kernel
theorem dX9_ownedBy_25 : decode cX9_ownedBy 25 = .ok (.iload 4, 2) := by decide +kernel
theorem dX9_ownedBy_27 : decode cX9_ownedBy 27 = .ok (.iaload, 1) := by decide +kernel
theorem dX9_ownedBy_28 : decode cX9_ownedBy 28 = .ok (.iconst 1, 1) := by decide +kernel
theorem dX9_ownedBy_29 : decode cX9_ownedBy 29 = .ok (.iload_n 1, 1) := by decide +kernel
theorem dX9_ownedBy_30 : decode cX9_ownedBy 30 = .ok (.ishl, 1) := by decide +kernel
theorem dX9_ownedBy_31 : decode cX9_ownedBy 31 = .ok (.if_icmp .ne 7, 3) := by decide +kernel
theorem dX9_ownedBy_34 : decode cX9_ownedBy 34 = .ok (.iconst 1, 1) := by decide +kernel
theorem dX9_ownedBy_35 : decode cX9_ownedBy 35 = .ok (.goto 18, 3) := by decide +kernel
theorem dX9_ownedBy_38 : decode cX9_ownedBy 38 = .ok (.iconst 0, 1) := by decide +kernel
theorem dX9_ownedBy_39 : decode cX9_ownedBy 39 = .ok (.goto 14, 3) := by decide +kernel
theorem dX9_ownedBy_42 : decode cX9_ownedBy 42 = .ok (.aload_n 0, 1) := by decide +kernel
theorem dX9_ownedBy_43 : decode cX9_ownedBy 43 = .ok (.getfield 46, 3) := by decide +kernel
theorem dX9_ownedBy_46 : decode cX9_ownedBy 46 = .ok (.iload 4, 2) := by decide +kernel
theorem dX9_ownedBy_48 : decode cX9_ownedBy 48 = .ok (.iaload, 1) := by decide +kernel
theorem dX9_ownedBy_49 : decode cX9_ownedBy 49 = .ok (.iload_n 1, 1) := by decide +kernel
theorem dX9_ownedBy_50 : decode cX9_ownedBy 50 = .ok (.ishr, 1) := by decide +kernel
theorem dX9_ownedBy_51 : decode cX9_ownedBy 51 = .ok (.iconst 1, 1) := by decide +kernel
theorem dX9_ownedBy_52 : decode cX9_ownedBy 52 = .ok (.iand, 1) := by decide +kernel
theorem dX9_ownedBy_53 : decode cX9_ownedBy 53 = .ok (.iadd, 1) := by decide +kernel
theorem dX9_ownedBy_54 : decode cX9_ownedBy 54 = .ok (.istore_n 3, 1) := by decide +kernel
theorem dX9_ownedBy_55 : decode cX9_ownedBy 55 = .ok (.iinc 4 1, 3) := by decide +kernel
theorem dX9_ownedBy_58 : decode cX9_ownedBy 58 = .ok (.goto (-49), 3) := by decide +kernel
theorem dX9_ownedBy_61 : decode cX9_ownedBy 61 = .ok (.iload_n 3, 1) := by decide +kernel
theorem dX9_ownedBy_62 : decode cX9_ownedBy 62 = .ok (.ireturn, 1) := by decide +kernel
set_option maxRecDepth 20000 in
theorem ggX9_rootOf_X9_isRoot : GoodIn wsX9_rootOf wsX9_isRoot := goodIn_r _ [6, 7, 8, 9, 5, 10, 51, 52, 53, 54, 55, 56, 57, 58, 59, 60, 61, 62, 63, 64, 65, 66, 67, 68, 69, 70, 71, 72, 73] (by decide +kernel) (by decide +kernel)
set_option maxRecDepth 20000 in
theorem gX9_rootOf_X9_isRoot : GoodIn wsX9_rootOf (wsV RX9 157 RX9 yX9_isRoot wsX9_isRoot) := goodIn_app (goodIn_of _ (by decide +kernel)) ggX9_rootOf_X9_isRoot
set_option maxRecDepth 20000 in
theorem ggX9_rootOf_X9_within : GoodIn wsX9_rootOf wsX9_within := goodIn_r _ [10] (by decide +kernel) (by decide +kernel)
set_option maxRecDepth 20000 in
theorem gX9_rootOf_X9_within : GoodIn wsX9_rootOf (va_wsS RX9 78 yX9_within wsX9_within) := goodIn_app (goodIn_of _ (by decide +kernel)) ggX9_rootOf_X9_within
set_option maxRecDepth 20000 in
theorem ggX9_rootOf_X9_rootPart : GoodIn wsX9_rootOf wsX9_rootPart := goodIn_r _ [14, 7, 51, 52, 53, 54, 55, 56, 57, 58, 59, 60, 61, 62, 63, 64, 65, 66, 67, 68, 69, 70, 71, 72, 73] (by decide +kernel) (by decide +kernel)
set_option maxRecDepth 20000 in
theorem gX9_rootOf_X9_rootPart : GoodIn wsX9_rootOf (wsV RX9 82 RX9 yX9_rootPart wsX9_rootPart) := goodIn_app (goodIn_of _ (by decide +kernel)) ggX9_rootOf_X9_rootPart
set_option maxRecDepth 20000 in
theorem ggX9_rootOf_X9_ownedBy : GoodIn wsX9_rootOf wsX9_ownedBy := goodIn_r _ [18, 19, 20, 21, 22, 5, 23, 7, 11, 12, 13, 14, 24, 25, 26, 27, 28, 29, 30, 31, 32, 33, 34, 35, 36, 37, 38, 39, 40, 41, 42, 43, 44, 45, 46, 47, 48, 49, 50, 51, 52, 53, 54, 55, 56, 57, 58, 59, 60, 61, 62, 63, 64, 65, 66, 67, 68, 69, 70, 71, 72, 73] (by decide +kernel) (by decide +kernel)
set_option maxRecDepth 20000 in
theorem gX9_rootOf_X9_ownedBy : GoodIn wsX9_rootOf (wsV RX9 173 RX9 yX9_ownedBy wsX9_ownedBy) := goodIn_app (goodIn_of _ (by decide +kernel)) ggX9_rootOf_X9_ownedBy
theorem dX9_rootOf_0 : decode cX9_rootOf 0 = .ok (.aload_n 0, 1) := by decide +kernel
theorem dX9_rootOf_1 : decode cX9_rootOf 1 = .ok (.iload_n 1, 1) := by decide +kernel
theorem dX9_rootOf_2 : decode cX9_rootOf 2 = .ok (.invokevirtual 157, 3) := by decide +kernel
theorem dX9_rootOf_5 : decode cX9_rootOf 5 = .ok (.ifCond .eq 12, 3) := by decide +kernel
theorem dX9_rootOf_8 : decode cX9_rootOf 8 = .ok (.iload_n 2, 1) := by decide +kernel
theorem dX9_rootOf_9 : decode cX9_rootOf 9 = .ok (.iconst 0, 1) := by decide +kernel
theorem dX9_rootOf_10 : decode cX9_rootOf 10 = .ok (.iconst 4, 1) := by decide +kernel
theorem dX9_rootOf_11 : decode cX9_rootOf 11 = .ok (.invokestatic 78, 3) := by decide +kernel
theorem dX9_rootOf_14 : decode cX9_rootOf 14 = .ok (.ifCond .ne 6, 3) := by decide +kernel
theorem dX9_rootOf_17 : decode cX9_rootOf 17 = .ok (.ldc 103, 2) := by decide +kernel
theorem dX9_rootOf_19 : decode cX9_rootOf 19 = .ok (.ireturn, 1) := by decide +kernel
theorem dX9_rootOf_20 : decode cX9_rootOf 20 = .ok (.iload_n 2, 1) := by decide +kernel
theorem dX9_rootOf_21 : decode cX9_rootOf 21 = .ok (.iconst 3, 1) := by decide +kernel
theorem dX9_rootOf_22 : decode cX9_rootOf 22 = .ok (.if_icmp .ge 12, 3) := by decide +kernel
theorem dX9_rootOf_25 : decode cX9_rootOf 25 = .ok (.aload_n 0, 1) := by decide +kernel
theorem dX9_rootOf_26 : decode cX9_rootOf 26 = .ok (.iload_n 1, 1) := by decide +kernel
theorem dX9_rootOf_27 : decode cX9_rootOf 27 = .ok (.iload_n 2, 1) := by decide +kernel
theorem dX9_rootOf_28 : decode cX9_rootOf 28 = .ok (.invokevirtual 82, 3) := by decide +kernel
theorem dX9_rootOf_31 : decode cX9_rootOf 31 = .ok (.goto 18, 3) := by decide +kernel
theorem dX9_rootOf_34 : decode cX9_rootOf 34 = .ok (.aload_n 0, 1) := by decide +kernel
theorem dX9_rootOf_35 : decode cX9_rootOf 35 = .ok (.iload_n 1, 1) := by decide +kernel
theorem dX9_rootOf_36 : decode cX9_rootOf 36 = .ok (.iload_n 2, 1) := by decide +kernel
theorem dX9_rootOf_37 : decode cX9_rootOf 37 = .ok (.iconst 4, 1) := by decide +kernel
theorem dX9_rootOf_38 : decode cX9_rootOf 38 = .ok (.if_icmp .ne 7, 3) := by decide +kernel
theorem dX9_rootOf_41 : decode cX9_rootOf 41 = .ok (.iconst 1, 1) := by decide +kernel
theorem dX9_rootOf_42 : decode cX9_rootOf 42 = .ok (.goto 4, 3) := by decide +kernel
theorem dX9_rootOf_45 : decode cX9_rootOf 45 = .ok (.iconst 0, 1) := by decide +kernel
theorem dX9_rootOf_46 : decode cX9_rootOf 46 = .ok (.invokevirtual 173, 3) := by decide +kernel
theorem dX9_rootOf_49 : decode cX9_rootOf 49 = .ok (.ireturn, 1) := by decide +kernel
set_option maxRecDepth 20000 in
theorem ggX9_unlikeUnder_X9_takenFrom : GoodIn wsX9_unlikeUnder wsX9_takenFrom := goodIn_r _ [5, 6, 7, 8, 4, 9, 10, 11, 12, 13, 14, 15, 16, 17, 18, 19, 20, 21, 22, 23, 24, 25, 26, 27, 28, 29, 30, 31, 32, 33, 34, 35, 36, 37, 38, 39, 40] (by decide +kernel) (by decide +kernel)
set_option maxRecDepth 20000 in
theorem gX9_unlikeUnder_X9_takenFrom : GoodIn wsX9_unlikeUnder (wsV RX9 85 RX9 yX9_takenFrom wsX9_takenFrom) := goodIn_app (goodIn_of _ (by decide +kernel)) ggX9_unlikeUnder_X9_takenFrom
set_option maxRecDepth 20000 in
theorem ggX9_unlikeUnder_X9_contentOf : GoodIn wsX9_unlikeUnder wsX9_contentOf := goodIn_r _ [13, 14, 18, 19, 20, 21, 22, 23, 24, 25, 26, 27, 28, 29, 30, 31, 32, 33, 34, 35, 36, 37, 38, 39, 40] (by decide +kernel) (by decide +kernel)
set_option maxRecDepth 20000 in
theorem gX9_unlikeUnder_X9_contentOf : GoodIn wsX9_unlikeUnder (wsV RX9 69 RX9 yX9_contentOf wsX9_contentOf) := goodIn_app (goodIn_of _ (by decide +kernel)) ggX9_unlikeUnder_X9_contentOf
theorem dX9_unlikeUnder_0 : decode cX9_unlikeUnder 0 = .ok (.aload_n 0, 1) := by decide +kernel
theorem dX9_unlikeUnder_1 : decode cX9_unlikeUnder 1 = .ok (.iload_n 1, 1) := by decide +kernel
theorem dX9_unlikeUnder_2 : decode cX9_unlikeUnder 2 = .ok (.sipush 256, 3) := by decide +kernel
theorem dX9_unlikeUnder_5 : decode cX9_unlikeUnder 5 = .ok (.idiv, 1) := by decide +kernel
theorem dX9_unlikeUnder_6 : decode cX9_unlikeUnder 6 = .ok (.iload_n 1, 1) := by decide +kernel
theorem dX9_unlikeUnder_7 : decode cX9_unlikeUnder 7 = .ok (.sipush 256, 3) := by decide +kernel
theorem dX9_unlikeUnder_10 : decode cX9_unlikeUnder 10 = .ok (.irem, 1) := by decide +kernel
theorem dX9_unlikeUnder_11 : decode cX9_unlikeUnder 11 = .ok (.invokevirtual 85, 3) := by decide +kernel
theorem dX9_unlikeUnder_14 : decode cX9_unlikeUnder 14 = .ok (.istore_n 3, 1) := by decide +kernel
theorem dX9_unlikeUnder_15 : decode cX9_unlikeUnder 15 = .ok (.aload_n 0, 1) := by decide +kernel
theorem dX9_unlikeUnder_16 : decode cX9_unlikeUnder 16 = .ok (.iload_n 2, 1) := by decide +kernel
theorem dX9_unlikeUnder_17 : decode cX9_unlikeUnder 17 = .ok (.sipush 256, 3) := by decide +kernel
theorem dX9_unlikeUnder_20 : decode cX9_unlikeUnder 20 = .ok (.idiv, 1) := by decide +kernel
theorem dX9_unlikeUnder_21 : decode cX9_unlikeUnder 21 = .ok (.iload_n 2, 1) := by decide +kernel
theorem dX9_unlikeUnder_22 : decode cX9_unlikeUnder 22 = .ok (.sipush 256, 3) := by decide +kernel
theorem dX9_unlikeUnder_25 : decode cX9_unlikeUnder 25 = .ok (.irem, 1) := by decide +kernel
theorem dX9_unlikeUnder_26 : decode cX9_unlikeUnder 26 = .ok (.invokevirtual 85, 3) := by decide +kernel
theorem dX9_unlikeUnder_29 : decode cX9_unlikeUnder 29 = .ok (.istore 4, 2) := by decide +kernel
theorem dX9_unlikeUnder_31 : decode cX9_unlikeUnder 31 = .ok (.iload_n 3, 1) := by decide +kernel
theorem dX9_unlikeUnder_32 : decode cX9_unlikeUnder 32 = .ok (.iconst 2, 1) := by decide +kernel
theorem dX9_unlikeUnder_33 : decode cX9_unlikeUnder 33 = .ok (.if_icmp .eq 9, 3) := by decide +kernel
theorem dX9_unlikeUnder_36 : decode cX9_unlikeUnder 36 = .ok (.iload 4, 2) := by decide +kernel
theorem dX9_unlikeUnder_38 : decode cX9_unlikeUnder 38 = .ok (.iconst 2, 1) := by decide +kernel
theorem dX9_unlikeUnder_39 : decode cX9_unlikeUnder 39 = .ok (.if_icmp .ne 5, 3) := by decide +kernel
theorem dX9_unlikeUnder_42 : decode cX9_unlikeUnder 42 = .ok (.iconst (-1), 1) := by decide +kernel
theorem dX9_unlikeUnder_43 : decode cX9_unlikeUnder 43 = .ok (.ireturn, 1) := by decide +kernel
theorem dX9_unlikeUnder_44 : decode cX9_unlikeUnder 44 = .ok (.iconst 0, 1) := by decide +kernel
theorem dX9_unlikeUnder_45 : decode cX9_unlikeUnder 45 = .ok (.istore 5, 2) := by decide +kernel
theorem dX9_unlikeUnder_47 : decode cX9_unlikeUnder 47 = .ok (.iconst 0, 1) := by decide +kernel
theorem dX9_unlikeUnder_48 : decode cX9_unlikeUnder 48 = .ok (.istore 6, 2) := by decide +kernel
theorem dX9_unlikeUnder_50 : decode cX9_unlikeUnder 50 = .ok (.iload 6, 2) := by decide +kernel
theorem dX9_unlikeUnder_52 : decode cX9_unlikeUnder 52 = .ok (.iconst 4, 1) := by decide +kernel
theorem dX9_unlikeUnder_53 : decode cX9_unlikeUnder 53 = .ok (.if_icmp .ge 58, 3) := by decide +kernel
theorem dX9_unlikeUnder_56 : decode cX9_unlikeUnder 56 = .ok (.iload 5, 2) := by decide +kernel
theorem dX9_unlikeUnder_58 : decode cX9_unlikeUnder 58 = .ok (.aload_n 0, 1) := by decide +kernel
theorem dX9_unlikeUnder_59 : decode cX9_unlikeUnder 59 = .ok (.iload_n 3, 1) := by decide +kernel
theorem dX9_unlikeUnder_60 : decode cX9_unlikeUnder 60 = .ok (.iload_n 1, 1) := by decide +kernel
theorem dX9_unlikeUnder_61 : decode cX9_unlikeUnder 61 = .ok (.sipush 256, 3) := by decide +kernel
theorem dX9_unlikeUnder_64 : decode cX9_unlikeUnder 64 = .ok (.idiv, 1) := by decide +kernel
theorem dX9_unlikeUnder_65 : decode cX9_unlikeUnder 65 = .ok (.iload 6, 2) := by decide +kernel
theorem dX9_unlikeUnder_67 : decode cX9_unlikeUnder 67 = .ok (.invokevirtual 69, 3) := by decide +kernel
theorem dX9_unlikeUnder_70 : decode cX9_unlikeUnder 70 = .ok (.sipush 256, 3) := by decide +kernel
theorem dX9_unlikeUnder_73 : decode cX9_unlikeUnder 73 = .ok (.idiv, 1) := by decide +kernel
theorem dX9_unlikeUnder_74 : decode cX9_unlikeUnder 74 = .ok (.aload_n 0, 1) := by decide +kernel
theorem dX9_unlikeUnder_75 : decode cX9_unlikeUnder 75 = .ok (.iload 4, 2) := by decide +kernel
theorem dX9_unlikeUnder_77 : decode cX9_unlikeUnder 77 = .ok (.iload_n 2, 1) := by decide +kernel
theorem dX9_unlikeUnder_78 : decode cX9_unlikeUnder 78 = .ok (.sipush 256, 3) := by decide +kernel
theorem dX9_unlikeUnder_81 : decode cX9_unlikeUnder 81 = .ok (.idiv, 1) := by decide +kernel
theorem dX9_unlikeUnder_82 : decode cX9_unlikeUnder 82 = .ok (.iload 6, 2) := by decide +kernel
theorem dX9_unlikeUnder_84 : decode cX9_unlikeUnder 84 = .ok (.invokevirtual 69, 3) := by decide +kernel
theorem dX9_unlikeUnder_87 : decode cX9_unlikeUnder 87 = .ok (.sipush 256, 3) := by decide +kernel
theorem dX9_unlikeUnder_90 : decode cX9_unlikeUnder 90 = .ok (.idiv, 1) := by decide +kernel
theorem dX9_unlikeUnder_91 : decode cX9_unlikeUnder 91 = .ok (.if_icmp .ne 7, 3) := by decide +kernel
theorem dX9_unlikeUnder_94 : decode cX9_unlikeUnder 94 = .ok (.iconst 0, 1) := by decide +kernel
theorem dX9_unlikeUnder_95 : decode cX9_unlikeUnder 95 = .ok (.goto 7, 3) := by decide +kernel
theorem dX9_unlikeUnder_98 : decode cX9_unlikeUnder 98 = .ok (.iconst 1, 1) := by decide +kernel
theorem dX9_unlikeUnder_99 : decode cX9_unlikeUnder 99 = .ok (.iload 6, 2) := by decide +kernel
theorem dX9_unlikeUnder_101 : decode cX9_unlikeUnder 101 = .ok (.ishl, 1) := by decide +kernel
theorem dX9_unlikeUnder_102 : decode cX9_unlikeUnder 102 = .ok (.ior, 1) := by decide +kernel
theorem dX9_unlikeUnder_103 : decode cX9_unlikeUnder 103 = .ok (.istore 5, 2) := by decide +kernel
theorem dX9_unlikeUnder_105 : decode cX9_unlikeUnder 105 = .ok (.iinc 6 1, 3) := by decide +kernel
theorem dX9_unlikeUnder_108 : decode cX9_unlikeUnder 108 = .ok (.goto (-58), 3) := by decide +kernel
theorem dX9_unlikeUnder_111 : decode cX9_unlikeUnder 111 = .ok (.iload 5, 2) := by decide +kernel
theorem dX9_unlikeUnder_113 : decode cX9_unlikeUnder 113 = .ok (.ireturn, 1) := by decide +kernel
set_option maxRecDepth 20000 in
theorem ggX9_unlike_X9_isRoot : GoodIn wsX9_unlike wsX9_isRoot := goodIn_r _ [7, 8, 9, 10, 6, 11, 35, 36, 37, 38, 39, 40, 41, 42, 43, 44, 45, 46, 47, 48, 49, 50, 51, 52, 53, 54, 55, 56, 57] (by decide +kernel) (by decide +kernel)
set_option maxRecDepth 20000 in
theorem gX9_unlike_X9_isRoot : GoodIn wsX9_unlike (wsV RX9 157 RX9 yX9_isRoot wsX9_isRoot) := goodIn_app (goodIn_of _ (by decide +kernel)) ggX9_unlike_X9_isRoot
set_option maxRecDepth 20000 in
theorem ggX9_unlike_X9_rootPart : GoodIn wsX9_unlike wsX9_rootPart := goodIn_r _ [15, 8, 35, 36, 37, 38, 39, 40, 41, 42, 43, 44, 45, 46, 47, 48, 49, 50, 51, 52, 53, 54, 55, 56, 57] (by decide +kernel) (by decide +kernel)
set_option maxRecDepth 20000 in
theorem gX9_unlike_X9_rootPart : GoodIn wsX9_unlike (wsV RX9 82 RX9 yX9_rootPart wsX9_rootPart) := goodIn_app (goodIn_of _ (by decide +kernel)) ggX9_unlike_X9_rootPart
set_option maxRecDepth 20000 in
theorem ggX9_unlike_X9_takenFrom : GoodIn wsX9_unlike wsX9_takenFrom := goodIn_r _ [19, 20, 21, 22, 6, 23, 24, 25, 26, 27, 8, 28, 29, 30, 35, 36, 37, 38, 39, 40, 41, 42, 43, 44, 45, 46, 47, 48, 49, 50, 51, 52, 53, 54, 55, 56, 57] (by decide +kernel) (by decide +kernel)
set_option maxRecDepth 20000 in
theorem gX9_unlike_X9_takenFrom : GoodIn wsX9_unlike (wsV RX9 85 RX9 yX9_takenFrom wsX9_takenFrom) := goodIn_app (goodIn_of _ (by decide +kernel)) ggX9_unlike_X9_takenFrom
set_option maxRecDepth 20000 in
theorem ggX9_unlike_X9_contentOf : GoodIn wsX9_unlike wsX9_contentOf := goodIn_r _ [27, 8, 35, 36, 37, 38, 39, 40, 41, 42, 43, 44, 45, 46, 47, 48, 49, 50, 51, 52, 53, 54, 55, 56, 57] (by decide +kernel) (by decide +kernel)
set_option maxRecDepth 20000 in
theorem gX9_unlike_X9_contentOf : GoodIn wsX9_unlike (wsV RX9 69 RX9 yX9_contentOf wsX9_contentOf) := goodIn_app (goodIn_of _ (by decide +kernel)) ggX9_unlike_X9_contentOf
set_option maxRecDepth 20000 in
theorem ggX9_unlike_X9_unlikeUnder : GoodIn wsX9_unlike wsX9_unlikeUnder := goodIn_r _ [34, 16, 17, 18, 6, 19, 20, 21, 22, 23, 24, 25, 26, 27, 8, 28, 29, 30, 35, 36, 37, 38, 39, 40, 41, 42, 43, 44, 45, 46, 47, 48, 49, 50, 51, 52, 53, 54, 55, 56, 57] (by decide +kernel) (by decide +kernel)
set_option maxRecDepth 20000 in
theorem gX9_unlike_X9_unlikeUnder : GoodIn wsX9_unlike (wsV RX9 177 RX9 yX9_unlikeUnder wsX9_unlikeUnder) := goodIn_app (goodIn_of _ (by decide +kernel)) ggX9_unlike_X9_unlikeUnder
theorem dX9_unlike_0 : decode cX9_unlike 0 = .ok (.aload_n 0, 1) := by decide +kernel
theorem dX9_unlike_1 : decode cX9_unlike 1 = .ok (.iload_n 1, 1) := by decide +kernel
theorem dX9_unlike_2 : decode cX9_unlike 2 = .ok (.invokevirtual 157, 3) := by decide +kernel
theorem dX9_unlike_5 : decode cX9_unlike 5 = .ok (.ifCond .eq 11, 3) := by decide +kernel
theorem dX9_unlike_8 : decode cX9_unlike 8 = .ok (.aload_n 0, 1) := by decide +kernel
theorem dX9_unlike_9 : decode cX9_unlike 9 = .ok (.iload_n 2, 1) := by decide +kernel
theorem dX9_unlike_10 : decode cX9_unlike 10 = .ok (.invokevirtual 157, 3) := by decide +kernel
theorem dX9_unlike_13 : decode cX9_unlike 13 = .ok (.ifCond .ne 6, 3) := by decide +kernel
theorem dX9_unlike_16 : decode cX9_unlike 16 = .ok (.ldc 103, 2) := by decide +kernel
theorem dX9_unlike_18 : decode cX9_unlike 18 = .ok (.ireturn, 1) := by decide +kernel
theorem dX9_unlike_19 : decode cX9_unlike 19 = .ok (.aload_n 0, 1) := by decide +kernel
theorem dX9_unlike_20 : decode cX9_unlike 20 = .ok (.iload_n 1, 1) := by decide +kernel
theorem dX9_unlike_21 : decode cX9_unlike 21 = .ok (.iconst 1, 1) := by decide +kernel
theorem dX9_unlike_22 : decode cX9_unlike 22 = .ok (.invokevirtual 82, 3) := by decide +kernel
theorem dX9_unlike_25 : decode cX9_unlike 25 = .ok (.istore_n 3, 1) := by decide +kernel
theorem dX9_unlike_26 : decode cX9_unlike 26 = .ok (.aload_n 0, 1) := by decide +kernel
theorem dX9_unlike_27 : decode cX9_unlike 27 = .ok (.iload_n 2, 1) := by decide +kernel
theorem dX9_unlike_28 : decode cX9_unlike 28 = .ok (.iconst 1, 1) := by decide +kernel
theorem dX9_unlike_29 : decode cX9_unlike 29 = .ok (.invokevirtual 82, 3) := by decide +kernel
theorem dX9_unlike_32 : decode cX9_unlike 32 = .ok (.istore 4, 2) := by decide +kernel
theorem dX9_unlike_34 : decode cX9_unlike 34 = .ok (.iload_n 3, 1) := by decide +kernel
theorem dX9_unlike_35 : decode cX9_unlike 35 = .ok (.iload 4, 2) := by decide +kernel
theorem dX9_unlike_37 : decode cX9_unlike 37 = .ok (.if_icmp .ne 5, 3) := by decide +kernel
theorem dX9_unlike_40 : decode cX9_unlike 40 = .ok (.iconst 0, 1) := by decide +kernel
theorem dX9_unlike_41 : decode cX9_unlike 41 = .ok (.ireturn, 1) := by decide +kernel
theorem dX9_unlike_42 : decode cX9_unlike 42 = .ok (.aload_n 0, 1) := by decide +kernel
theorem dX9_unlike_43 : decode cX9_unlike 43 = .ok (.iload_n 3, 1) := by decide +kernel
theorem dX9_unlike_44 : decode cX9_unlike 44 = .ok (.aload_n 0, 1) := by decide +kernel
theorem dX9_unlike_45 : decode cX9_unlike 45 = .ok (.iload_n 1, 1) := by decide +kernel
theorem dX9_unlike_46 : decode cX9_unlike 46 = .ok (.iconst 2, 1) := by decide +kernel
theorem dX9_unlike_47 : decode cX9_unlike 47 = .ok (.invokevirtual 82, 3) := by decide +kernel
theorem dX9_unlike_50 : decode cX9_unlike 50 = .ok (.invokevirtual 85, 3) := by decide +kernel
theorem dX9_unlike_53 : decode cX9_unlike 53 = .ok (.istore 5, 2) := by decide +kernel
theorem dX9_unlike_55 : decode cX9_unlike 55 = .ok (.aload_n 0, 1) := by decide +kernel
theorem dX9_unlike_56 : decode cX9_unlike 56 = .ok (.iload 4, 2) := by decide +kernel
theorem dX9_unlike_58 : decode cX9_unlike 58 = .ok (.aload_n 0, 1) := by decide +kernel
theorem dX9_unlike_59 : decode cX9_unlike 59 = .ok (.iload_n 2, 1) := by decide +kernel
theorem dX9_unlike_60 : decode cX9_unlike 60 = .ok (.iconst 2, 1) := by decide +kernel
theorem dX9_unlike_61 : decode cX9_unlike 61 = .ok (.invokevirtual 82, 3) := by decide +kernel
theorem dX9_unlike_64 : decode cX9_unlike 64 = .ok (.invokevirtual 85, 3) := by decide +kernel
theorem dX9_unlike_67 : decode cX9_unlike 67 = .ok (.istore 6, 2) := by decide +kernel
theorem dX9_unlike_69 : decode cX9_unlike 69 = .ok (.iload 5, 2) := by decide +kernel
theorem dX9_unlike_71 : decode cX9_unlike 71 = .ok (.iconst 2, 1) := by decide +kernel
theorem dX9_unlike_72 : decode cX9_unlike 72 = .ok (.if_icmp .eq 9, 3) := by decide +kernel
theorem dX9_unlike_75 : decode cX9_unlike 75 = .ok (.iload 6, 2) := by decide +kernel
theorem dX9_unlike_77 : decode cX9_unlike 77 = .ok (.iconst 2, 1) := by decide +kernel
theorem dX9_unlike_78 : decode cX9_unlike 78 = .ok (.if_icmp .ne 6, 3) := by decide +kernel
theorem dX9_unlike_81 : decode cX9_unlike 81 = .ok (.ldc 109, 2) := by decide +kernel
theorem dX9_unlike_83 : decode cX9_unlike 83 = .ok (.ireturn, 1) := by decide +kernel
theorem dX9_unlike_84 : decode cX9_unlike 84 = .ok (.iconst 0, 1) := by decide +kernel
theorem dX9_unlike_85 : decode cX9_unlike 85 = .ok (.istore 7, 2) := by decide +kernel
theorem dX9_unlike_87 : decode cX9_unlike 87 = .ok (.iconst 0, 1) := by decide +kernel
theorem dX9_unlike_88 : decode cX9_unlike 88 = .ok (.istore 8, 2) := by decide +kernel
theorem dX9_unlike_90 : decode cX9_unlike 90 = .ok (.iload 8, 2) := by decide +kernel
theorem dX9_unlike_92 : decode cX9_unlike 92 = .ok (.iconst 4, 1) := by decide +kernel
theorem dX9_unlike_93 : decode cX9_unlike 93 = .ok (.if_icmp .ge 81, 3) := by decide +kernel
theorem dX9_unlike_96 : decode cX9_unlike 96 = .ok (.aload_n 0, 1) := by decide +kernel
theorem dX9_unlike_97 : decode cX9_unlike 97 = .ok (.iload 5, 2) := by decide +kernel
theorem dX9_unlike_99 : decode cX9_unlike 99 = .ok (.iload_n 3, 1) := by decide +kernel
theorem dX9_unlike_100 : decode cX9_unlike 100 = .ok (.iload 8, 2) := by decide +kernel
theorem dX9_unlike_102 : decode cX9_unlike 102 = .ok (.invokevirtual 69, 3) := by decide +kernel
theorem dX9_unlike_105 : decode cX9_unlike 105 = .ok (.istore 9, 2) := by decide +kernel
theorem dX9_unlike_107 : decode cX9_unlike 107 = .ok (.aload_n 0, 1) := by decide +kernel
theorem dX9_unlike_108 : decode cX9_unlike 108 = .ok (.iload 6, 2) := by decide +kernel
theorem dX9_unlike_110 : decode cX9_unlike 110 = .ok (.iload 4, 2) := by decide +kernel
theorem dX9_unlike_112 : decode cX9_unlike 112 = .ok (.iload 8, 2) := by decide +kernel
theorem dX9_unlike_114 : decode cX9_unlike 114 = .ok (.invokevirtual 69, 3) := by decide +kernel
theorem dX9_unlike_117 : decode cX9_unlike 117 = .ok (.istore 10, 2) := by decide +kernel
theorem dX9_unlike_119 : decode cX9_unlike 119 = .ok (.iload 9, 2) := by decide +kernel
theorem dX9_unlike_121 : decode cX9_unlike 121 = .ok (.sipush 256, 3) := by decide +kernel
theorem dX9_unlike_124 : decode cX9_unlike 124 = .ok (.idiv, 1) := by decide +kernel
theorem dX9_unlike_125 : decode cX9_unlike 125 = .ok (.iload 10, 2) := by decide +kernel
theorem dX9_unlike_127 : decode cX9_unlike 127 = .ok (.sipush 256, 3) := by decide +kernel
theorem dX9_unlike_130 : decode cX9_unlike 130 = .ok (.idiv, 1) := by decide +kernel
theorem dX9_unlike_131 : decode cX9_unlike 131 = .ok (.if_icmp .ne 7, 3) := by decide +kernel
theorem dX9_unlike_134 : decode cX9_unlike 134 = .ok (.iconst 0, 1) := by decide +kernel
theorem dX9_unlike_135 : decode cX9_unlike 135 = .ok (.goto 11, 3) := by decide +kernel
theorem dX9_unlike_138 : decode cX9_unlike 138 = .ok (.aload_n 0, 1) := by decide +kernel
theorem dX9_unlike_139 : decode cX9_unlike 139 = .ok (.iload 9, 2) := by decide +kernel
theorem dX9_unlike_141 : decode cX9_unlike 141 = .ok (.iload 10, 2) := by decide +kernel
theorem dX9_unlike_143 : decode cX9_unlike 143 = .ok (.invokevirtual 177, 3) := by decide +kernel
theorem dX9_unlike_146 : decode cX9_unlike 146 = .ok (.istore 11, 2) := by decide +kernel
theorem dX9_unlike_148 : decode cX9_unlike 148 = .ok (.iload 11, 2) := by decide +kernel
theorem dX9_unlike_150 : decode cX9_unlike 150 = .ok (.ifCond .ge 6, 3) := by decide +kernel
theorem dX9_unlike_153 : decode cX9_unlike 153 = .ok (.ldc 109, 2) := by decide +kernel
theorem dX9_unlike_155 : decode cX9_unlike 155 = .ok (.ireturn, 1) := by decide +kernel
theorem dX9_unlike_156 : decode cX9_unlike 156 = .ok (.iload 7, 2) := by decide +kernel
theorem dX9_unlike_158 : decode cX9_unlike 158 = .ok (.iload 11, 2) := by decide +kernel
theorem dX9_unlike_160 : decode cX9_unlike 160 = .ok (.iconst 4, 1) := by decide +kernel
theorem dX9_unlike_161 : decode cX9_unlike 161 = .ok (.iload 8, 2) := by decide +kernel
theorem dX9_unlike_163 : decode cX9_unlike 163 = .ok (.imul, 1) := by decide +kernel
theorem dX9_unlike_164 : decode cX9_unlike 164 = .ok (.ishl, 1) := by decide +kernel
theorem dX9_unlike_165 : decode cX9_unlike 165 = .ok (.ior, 1) := by decide +kernel
theorem dX9_unlike_166 : decode cX9_unlike 166 = .ok (.istore 7, 2) := by decide +kernel
theorem dX9_unlike_168 : decode cX9_unlike 168 = .ok (.iinc 8 1, 3) := by decide +kernel
theorem dX9_unlike_171 : decode cX9_unlike 171 = .ok (.goto (-81), 3) := by decide +kernel
theorem dX9_unlike_174 : decode cX9_unlike 174 = .ok (.iload 7, 2) := by decide +kernel
theorem dX9_unlike_176 : decode cX9_unlike 176 = .ok (.ireturn, 1) := by decide +kernel
set_option maxRecDepth 20000 in
theorem ggX9_unlikeCopies_X9_areUnlike : GoodIn wsX9_unlikeCopies wsX9_areUnlike := goodIn_r _ [6, 7, 8, 9, 5, 10, 1, 11, 12, 13, 14, 15, 16, 17, 18, 19, 20, 21, 22, 23, 24, 25, 26, 27, 28, 29, 30, 31, 32, 33] (by decide +kernel) (by decide +kernel)
set_option maxRecDepth 20000 in
theorem gX9_unlikeCopies_X9_areUnlike : GoodIn wsX9_unlikeCopies (wsV RX9 92 RX9 yX9_areUnlike wsX9_areUnlike) := goodIn_app (goodIn_of _ (by decide +kernel)) ggX9_unlikeCopies_X9_areUnlike
theorem dX9_unlikeCopies_0 : decode cX9_unlikeCopies 0 = .ok (.iconst 0, 1) := by decide +kernel
theorem dX9_unlikeCopies_1 : decode cX9_unlikeCopies 1 = .ok (.istore_n 1, 1) := by decide +kernel
theorem dX9_unlikeCopies_2 : decode cX9_unlikeCopies 2 = .ok (.iconst 0, 1) := by decide +kernel
theorem dX9_unlikeCopies_3 : decode cX9_unlikeCopies 3 = .ok (.istore_n 2, 1) := by decide +kernel
theorem dX9_unlikeCopies_4 : decode cX9_unlikeCopies 4 = .ok (.iload_n 2, 1) := by decide +kernel
theorem dX9_unlikeCopies_5 : decode cX9_unlikeCopies 5 = .ok (.bipush 96, 2) := by decide +kernel
theorem dX9_unlikeCopies_7 : decode cX9_unlikeCopies 7 = .ok (.if_icmp .ge 39, 3) := by decide +kernel
theorem dX9_unlikeCopies_10 : decode cX9_unlikeCopies 10 = .ok (.iload_n 1, 1) := by decide +kernel
theorem dX9_unlikeCopies_11 : decode cX9_unlikeCopies 11 = .ok (.aload_n 0, 1) := by decide +kernel
theorem dX9_unlikeCopies_12 : decode cX9_unlikeCopies 12 = .ok (.getfield 7, 3) := by decide +kernel
theorem dX9_unlikeCopies_15 : decode cX9_unlikeCopies 15 = .ok (.sipush 768, 3) := by decide +kernel
theorem dX9_unlikeCopies_18 : decode cX9_unlikeCopies 18 = .ok (.iload_n 2, 1) := by decide +kernel
theorem dX9_unlikeCopies_19 : decode cX9_unlikeCopies 19 = .ok (.iadd, 1) := by decide +kernel
theorem dX9_unlikeCopies_20 : decode cX9_unlikeCopies 20 = .ok (.iaload, 1) := by decide +kernel
theorem dX9_unlikeCopies_21 : decode cX9_unlikeCopies 21 = .ok (.iconst 1, 1) := by decide +kernel
theorem dX9_unlikeCopies_22 : decode cX9_unlikeCopies 22 = .ok (.if_icmp .ne 15, 3) := by decide +kernel
theorem dX9_unlikeCopies_25 : decode cX9_unlikeCopies 25 = .ok (.aload_n 0, 1) := by decide +kernel
theorem dX9_unlikeCopies_26 : decode cX9_unlikeCopies 26 = .ok (.iload_n 2, 1) := by decide +kernel
theorem dX9_unlikeCopies_27 : decode cX9_unlikeCopies 27 = .ok (.invokevirtual 92, 3) := by decide +kernel
theorem dX9_unlikeCopies_30 : decode cX9_unlikeCopies 30 = .ok (.ifCond .eq 7, 3) := by decide +kernel
theorem dX9_unlikeCopies_33 : decode cX9_unlikeCopies 33 = .ok (.iconst 1, 1) := by decide +kernel
theorem dX9_unlikeCopies_34 : decode cX9_unlikeCopies 34 = .ok (.goto 4, 3) := by decide +kernel
theorem dX9_unlikeCopies_37 : decode cX9_unlikeCopies 37 = .ok (.iconst 0, 1) := by decide +kernel
theorem dX9_unlikeCopies_38 : decode cX9_unlikeCopies 38 = .ok (.iadd, 1) := by decide +kernel
theorem dX9_unlikeCopies_39 : decode cX9_unlikeCopies 39 = .ok (.istore_n 1, 1) := by decide +kernel
theorem dX9_unlikeCopies_40 : decode cX9_unlikeCopies 40 = .ok (.iinc 2 1, 3) := by decide +kernel
theorem dX9_unlikeCopies_43 : decode cX9_unlikeCopies 43 = .ok (.goto (-39), 3) := by decide +kernel
theorem dX9_unlikeCopies_46 : decode cX9_unlikeCopies 46 = .ok (.iload_n 1, 1) := by decide +kernel
theorem dX9_unlikeCopies_47 : decode cX9_unlikeCopies 47 = .ok (.ireturn, 1) := by decide +kernel
set_option maxRecDepth 20000 in
theorem ggX9_count_X9_freeMany : GoodIn wsX9_count wsX9_freeMany := goodIn_r _ [9, 1, 27, 28, 29, 30, 31, 32, 33, 34, 35, 36, 37, 38, 39, 40, 41, 42, 43, 44, 45, 46, 47, 48, 49] (by decide +kernel) (by decide +kernel)
set_option maxRecDepth 20000 in
theorem gX9_count_X9_freeMany : GoodIn wsX9_count (wsV RX9 104 RX9 yX9_freeMany wsX9_freeMany) := goodIn_app (goodIn_of _ (by decide +kernel)) ggX9_count_X9_freeMany
set_option maxRecDepth 20000 in
theorem ggX9_count_X9_unlikeCopies : GoodIn wsX9_count wsX9_unlikeCopies := goodIn_r _ [13, 1, 14, 15, 16, 8, 17, 18, 19, 20, 21, 27, 28, 29, 30, 31, 32, 33, 34, 35, 36, 37, 38, 39, 40, 41, 42, 43, 44, 45, 46, 47, 48, 49] (by decide +kernel) (by decide +kernel)
set_option maxRecDepth 20000 in
theorem gX9_count_X9_unlikeCopies : GoodIn wsX9_count (wsV RX9 180 RX9 yX9_unlikeCopies wsX9_unlikeCopies) := goodIn_app (goodIn_of _ (by decide +kernel)) ggX9_count_X9_unlikeCopies
set_option maxRecDepth 20000 in
theorem ggX9_count_X9_firstFree : GoodIn wsX9_count wsX9_firstFree := goodIn_r _ [25, 26, 1, 27, 28, 29, 30, 31, 32, 33, 34, 35, 36, 37, 38, 39, 40, 41, 42, 43, 44, 45, 46, 47, 48, 49] (by decide +kernel) (by decide +kernel)
set_option maxRecDepth 20000 in
theorem gX9_count_X9_firstFree : GoodIn wsX9_count (wsV RX9 110 RX9 yX9_firstFree wsX9_firstFree) := goodIn_app (goodIn_of _ (by decide +kernel)) ggX9_count_X9_firstFree
theorem dX9_count_0 : decode cX9_count 0 = .ok (.iload_n 1, 1) := by decide +kernel
theorem dX9_count_1 : decode cX9_count 1 = .ok (.tableswitch 99 0 7 #[47, 56, 61, 70, 79, 84, 89, 94], 47) := by decide +kernel
theorem dX9_count_48 : decode cX9_count 48 = .ok (.aload_n 0, 1) := by decide +kernel
theorem dX9_count_49 : decode cX9_count 49 = .ok (.getfield 7, 3) := by decide +kernel
theorem dX9_count_52 : decode cX9_count 52 = .ok (.sipush 864, 3) := by decide +kernel
theorem dX9_count_55 : decode cX9_count 55 = .ok (.iaload, 1) := by decide +kernel
theorem dX9_count_56 : decode cX9_count 56 = .ok (.ireturn, 1) := by decide +kernel
theorem dX9_count_57 : decode cX9_count 57 = .ok (.aload_n 0, 1) := by decide +kernel
theorem dX9_count_58 : decode cX9_count 58 = .ok (.invokevirtual 104, 3) := by decide +kernel
theorem dX9_count_61 : decode cX9_count 61 = .ok (.ireturn, 1) := by decide +kernel
theorem dX9_count_62 : decode cX9_count 62 = .ok (.aload_n 0, 1) := by decide +kernel
theorem dX9_count_63 : decode cX9_count 63 = .ok (.getfield 7, 3) := by decide +kernel
theorem dX9_count_66 : decode cX9_count 66 = .ok (.sipush 866, 3) := by decide +kernel
theorem dX9_count_69 : decode cX9_count 69 = .ok (.iaload, 1) := by decide +kernel
theorem dX9_count_70 : decode cX9_count 70 = .ok (.ireturn, 1) := by decide +kernel
theorem dX9_count_71 : decode cX9_count 71 = .ok (.aload_n 0, 1) := by decide +kernel
theorem dX9_count_72 : decode cX9_count 72 = .ok (.getfield 7, 3) := by decide +kernel
theorem dX9_count_75 : decode cX9_count 75 = .ok (.sipush 867, 3) := by decide +kernel
theorem dX9_count_78 : decode cX9_count 78 = .ok (.iaload, 1) := by decide +kernel
theorem dX9_count_79 : decode cX9_count 79 = .ok (.ireturn, 1) := by decide +kernel
theorem dX9_count_80 : decode cX9_count 80 = .ok (.aload_n 0, 1) := by decide +kernel
theorem dX9_count_81 : decode cX9_count 81 = .ok (.invokevirtual 180, 3) := by decide +kernel
theorem dX9_count_84 : decode cX9_count 84 = .ok (.ireturn, 1) := by decide +kernel
theorem dX9_count_85 : decode cX9_count 85 = .ok (.aload_n 0, 1) := by decide +kernel
theorem dX9_count_86 : decode cX9_count 86 = .ok (.invokevirtual 110, 3) := by decide +kernel
theorem dX9_count_89 : decode cX9_count 89 = .ok (.ireturn, 1) := by decide +kernel
theorem dX9_count_90 : decode cX9_count 90 = .ok (.aload_n 0, 1) := by decide +kernel
theorem dX9_count_91 : decode cX9_count 91 = .ok (.getfield 57, 3) := by decide +kernel
theorem dX9_count_94 : decode cX9_count 94 = .ok (.ireturn, 1) := by decide +kernel
theorem dX9_count_95 : decode cX9_count 95 = .ok (.aload_n 0, 1) := by decide +kernel
theorem dX9_count_96 : decode cX9_count 96 = .ok (.getfield 183, 3) := by decide +kernel
theorem dX9_count_99 : decode cX9_count 99 = .ok (.ireturn, 1) := by decide +kernel
theorem dX9_count_100 : decode cX9_count 100 = .ok (.ldc 103, 2) := by decide +kernel
theorem dX9_count_102 : decode cX9_count 102 = .ok (.ireturn, 1) := by decide +kernel
set_option maxRecDepth 20000 in
theorem ggX9_undo_X9_copy : GoodIn wsX9_undo wsX9_copy := goodIn_r _ [8] (by decide +kernel) (by decide +kernel)
set_option maxRecDepth 20000 in
theorem gX9_undo_X9_copy : GoodIn wsX9_undo (va_wsS RX9 61 yX9_copy wsX9_copy) := goodIn_app (goodIn_of _ (by decide +kernel)) ggX9_undo_X9_copy
theorem dX9_undo_0 : decode cX9_undo 0 = .ok (.aload_n 0, 1) := by decide +kernel
theorem dX9_undo_1 : decode cX9_undo 1 = .ok (.getfield 57, 3) := by decide +kernel
theorem dX9_undo_4 : decode cX9_undo 4 = .ok (.ifCond .ne 6, 3) := by decide +kernel
theorem dX9_undo_7 : decode cX9_undo 7 = .ok (.ldc 109, 2) := by decide +kernel
theorem dX9_undo_9 : decode cX9_undo 9 = .ok (.ireturn, 1) := by decide +kernel
theorem dX9_undo_10 : decode cX9_undo 10 = .ok (.aload_n 0, 1) := by decide +kernel
theorem dX9_undo_11 : decode cX9_undo 11 = .ok (.dup, 1) := by decide +kernel
theorem dX9_undo_12 : decode cX9_undo 12 = .ok (.getfield 57, 3) := by decide +kernel
theorem dX9_undo_15 : decode cX9_undo 15 = .ok (.iconst 1, 1) := by decide +kernel
theorem dX9_undo_16 : decode cX9_undo 16 = .ok (.isub, 1) := by decide +kernel
theorem dX9_undo_17 : decode cX9_undo 17 = .ok (.putfield 57, 3) := by decide +kernel
theorem dX9_undo_20 : decode cX9_undo 20 = .ok (.aload_n 0, 1) := by decide +kernel
theorem dX9_undo_21 : decode cX9_undo 21 = .ok (.getfield 16, 3) := by decide +kernel
theorem dX9_undo_24 : decode cX9_undo 24 = .ok (.aload_n 0, 1) := by decide +kernel
theorem dX9_undo_25 : decode cX9_undo 25 = .ok (.getfield 57, 3) := by decide +kernel
theorem dX9_undo_28 : decode cX9_undo 28 = .ok (.sipush 892, 3) := by decide +kernel
theorem dX9_undo_31 : decode cX9_undo 31 = .ok (.imul, 1) := by decide +kernel
theorem dX9_undo_32 : decode cX9_undo 32 = .ok (.aload_n 0, 1) := by decide +kernel
theorem dX9_undo_33 : decode cX9_undo 33 = .ok (.getfield 7, 3) := by decide +kernel
theorem dX9_undo_36 : decode cX9_undo 36 = .ok (.iconst 0, 1) := by decide +kernel
theorem dX9_undo_37 : decode cX9_undo 37 = .ok (.invokestatic 61, 3) := by decide +kernel
theorem dX9_undo_40 : decode cX9_undo 40 = .ok (.aload_n 0, 1) := by decide +kernel
theorem dX9_undo_41 : decode cX9_undo 41 = .ok (.getfield 57, 3) := by decide +kernel
theorem dX9_undo_44 : decode cX9_undo 44 = .ok (.ireturn, 1) := by decide +kernel
set_option maxRecDepth 20000 in
theorem ggX9_type_X9_within : GoodIn wsX9_type wsX9_within := goodIn_r _ [8] (by decide +kernel) (by decide +kernel)
set_option maxRecDepth 20000 in
theorem gX9_type_X9_within : GoodIn wsX9_type (va_wsS RX9 78 yX9_within wsX9_within) := goodIn_app (goodIn_of _ (by decide +kernel)) ggX9_type_X9_within
theorem dX9_type_0 : decode cX9_type 0 = .ok (.iload_n 1, 1) := by decide +kernel
theorem dX9_type_1 : decode cX9_type 1 = .ok (.bipush 32, 2) := by decide +kernel
theorem dX9_type_3 : decode cX9_type 3 = .ok (.bipush 126, 2) := by decide +kernel
theorem dX9_type_5 : decode cX9_type 5 = .ok (.invokestatic 78, 3) := by decide +kernel
theorem dX9_type_8 : decode cX9_type 8 = .ok (.ifCond .ne 6, 3) := by decide +kernel
theorem dX9_type_11 : decode cX9_type 11 = .ok (.ldc 103, 2) := by decide +kernel
theorem dX9_type_13 : decode cX9_type 13 = .ok (.ireturn, 1) := by decide +kernel
theorem dX9_type_14 : decode cX9_type 14 = .ok (.aload_n 0, 1) := by decide +kernel
theorem dX9_type_15 : decode cX9_type 15 = .ok (.getfield 183, 3) := by decide +kernel
theorem dX9_type_18 : decode cX9_type 18 = .ok (.bipush 60, 2) := by decide +kernel
theorem dX9_type_20 : decode cX9_type 20 = .ok (.if_icmp .ne 6, 3) := by decide +kernel
theorem dX9_type_23 : decode cX9_type 23 = .ok (.ldc 108, 2) := by decide +kernel
theorem dX9_type_25 : decode cX9_type 25 = .ok (.ireturn, 1) := by decide +kernel
theorem dX9_type_26 : decode cX9_type 26 = .ok (.aload_n 0, 1) := by decide +kernel
theorem dX9_type_27 : decode cX9_type 27 = .ok (.getfield 19, 3) := by decide +kernel
theorem dX9_type_30 : decode cX9_type 30 = .ok (.aload_n 0, 1) := by decide +kernel
theorem dX9_type_31 : decode cX9_type 31 = .ok (.getfield 183, 3) := by decide +kernel
theorem dX9_type_34 : decode cX9_type 34 = .ok (.iload_n 1, 1) := by decide +kernel
theorem dX9_type_35 : decode cX9_type 35 = .ok (.iastore, 1) := by decide +kernel
theorem dX9_type_36 : decode cX9_type 36 = .ok (.aload_n 0, 1) := by decide +kernel
theorem dX9_type_37 : decode cX9_type 37 = .ok (.dup, 1) := by decide +kernel
theorem dX9_type_38 : decode cX9_type 38 = .ok (.getfield 183, 3) := by decide +kernel
theorem dX9_type_41 : decode cX9_type 41 = .ok (.iconst 1, 1) := by decide +kernel
theorem dX9_type_42 : decode cX9_type 42 = .ok (.iadd, 1) := by decide +kernel
theorem dX9_type_43 : decode cX9_type 43 = .ok (.putfield 183, 3) := by decide +kernel
theorem dX9_type_46 : decode cX9_type 46 = .ok (.aload_n 0, 1) := by decide +kernel
theorem dX9_type_47 : decode cX9_type 47 = .ok (.getfield 183, 3) := by decide +kernel
theorem dX9_type_50 : decode cX9_type 50 = .ok (.ireturn, 1) := by decide +kernel
theorem dX9_clearText_0 : decode cX9_clearText 0 = .ok (.aload_n 0, 1) := by decide +kernel
theorem dX9_clearText_1 : decode cX9_clearText 1 = .ok (.getfield 183, 3) := by decide +kernel
theorem dX9_clearText_4 : decode cX9_clearText 4 = .ok (.istore_n 1, 1) := by decide +kernel
theorem dX9_clearText_5 : decode cX9_clearText 5 = .ok (.aload_n 0, 1) := by decide +kernel
theorem dX9_clearText_6 : decode cX9_clearText 6 = .ok (.iconst 0, 1) := by decide +kernel
theorem dX9_clearText_7 : decode cX9_clearText 7 = .ok (.putfield 183, 3) := by decide +kernel
theorem dX9_clearText_10 : decode cX9_clearText 10 = .ok (.iload_n 1, 1) := by decide +kernel
theorem dX9_clearText_11 : decode cX9_clearText 11 = .ok (.ireturn, 1) := by decide +kernel
set_option maxRecDepth 20000 in
theorem ggX9_takeNumber_X9_within : GoodIn wsX9_takeNumber wsX9_within := goodIn_r _ [7] (by decide +kernel) (by decide +kernel)
set_option maxRecDepth 20000 in
theorem gX9_takeNumber_X9_within : GoodIn wsX9_takeNumber (va_wsS RX9 78 yX9_within wsX9_within) := goodIn_app (goodIn_of _ (by decide +kernel)) ggX9_takeNumber_X9_within
theorem dX9_takeNumber_0 : decode cX9_takeNumber 0 = .ok (.iconst (-1), 1) := by decide +kernel
theorem dX9_takeNumber_1 : decode cX9_takeNumber 1 = .ok (.istore_n 2, 1) := by decide +kernel
theorem dX9_takeNumber_2 : decode cX9_takeNumber 2 = .ok (.iconst 0, 1) := by decide +kernel
theorem dX9_takeNumber_3 : decode cX9_takeNumber 3 = .ok (.istore_n 3, 1) := by decide +kernel
theorem dX9_takeNumber_4 : decode cX9_takeNumber 4 = .ok (.iload_n 3, 1) := by decide +kernel
theorem dX9_takeNumber_5 : decode cX9_takeNumber 5 = .ok (.iload_n 1, 1) := by decide +kernel
theorem dX9_takeNumber_6 : decode cX9_takeNumber 6 = .ok (.if_icmp .ge 75, 3) := by decide +kernel
theorem dX9_takeNumber_9 : decode cX9_takeNumber 9 = .ok (.aload_n 0, 1) := by decide +kernel
theorem dX9_takeNumber_10 : decode cX9_takeNumber 10 = .ok (.getfield 186, 3) := by decide +kernel
theorem dX9_takeNumber_13 : decode cX9_takeNumber 13 = .ok (.aload_n 0, 1) := by decide +kernel
theorem dX9_takeNumber_14 : decode cX9_takeNumber 14 = .ok (.getfield 183, 3) := by decide +kernel
theorem dX9_takeNumber_17 : decode cX9_takeNumber 17 = .ok (.if_icmp .ge 64, 3) := by decide +kernel
theorem dX9_takeNumber_20 : decode cX9_takeNumber 20 = .ok (.aload_n 0, 1) := by decide +kernel
theorem dX9_takeNumber_21 : decode cX9_takeNumber 21 = .ok (.getfield 19, 3) := by decide +kernel
theorem dX9_takeNumber_24 : decode cX9_takeNumber 24 = .ok (.aload_n 0, 1) := by decide +kernel
theorem dX9_takeNumber_25 : decode cX9_takeNumber 25 = .ok (.getfield 186, 3) := by decide +kernel
theorem dX9_takeNumber_28 : decode cX9_takeNumber 28 = .ok (.iaload, 1) := by decide +kernel
theorem dX9_takeNumber_29 : decode cX9_takeNumber 29 = .ok (.bipush 48, 2) := by decide +kernel
theorem dX9_takeNumber_31 : decode cX9_takeNumber 31 = .ok (.bipush 57, 2) := by decide +kernel
theorem dX9_takeNumber_33 : decode cX9_takeNumber 33 = .ok (.invokestatic 78, 3) := by decide +kernel
theorem dX9_takeNumber_36 : decode cX9_takeNumber 36 = .ok (.ifCond .eq 45, 3) := by decide +kernel
theorem dX9_takeNumber_39 : decode cX9_takeNumber 39 = .ok (.iload_n 2, 1) := by decide +kernel
theorem dX9_takeNumber_40 : decode cX9_takeNumber 40 = .ok (.ifCond .ge 7, 3) := by decide +kernel
theorem dX9_takeNumber_43 : decode cX9_takeNumber 43 = .ok (.iconst 0, 1) := by decide +kernel
theorem dX9_takeNumber_44 : decode cX9_takeNumber 44 = .ok (.goto 7, 3) := by decide +kernel
theorem dX9_takeNumber_47 : decode cX9_takeNumber 47 = .ok (.bipush 10, 2) := by decide +kernel
theorem dX9_takeNumber_49 : decode cX9_takeNumber 49 = .ok (.iload_n 2, 1) := by decide +kernel
theorem dX9_takeNumber_50 : decode cX9_takeNumber 50 = .ok (.imul, 1) := by decide +kernel
theorem dX9_takeNumber_51 : decode cX9_takeNumber 51 = .ok (.aload_n 0, 1) := by decide +kernel
theorem dX9_takeNumber_52 : decode cX9_takeNumber 52 = .ok (.getfield 19, 3) := by decide +kernel
theorem dX9_takeNumber_55 : decode cX9_takeNumber 55 = .ok (.aload_n 0, 1) := by decide +kernel
theorem dX9_takeNumber_56 : decode cX9_takeNumber 56 = .ok (.getfield 186, 3) := by decide +kernel
theorem dX9_takeNumber_59 : decode cX9_takeNumber 59 = .ok (.iaload, 1) := by decide +kernel
theorem dX9_takeNumber_60 : decode cX9_takeNumber 60 = .ok (.iadd, 1) := by decide +kernel
theorem dX9_takeNumber_61 : decode cX9_takeNumber 61 = .ok (.bipush 48, 2) := by decide +kernel
theorem dX9_takeNumber_63 : decode cX9_takeNumber 63 = .ok (.isub, 1) := by decide +kernel
theorem dX9_takeNumber_64 : decode cX9_takeNumber 64 = .ok (.istore_n 2, 1) := by decide +kernel
theorem dX9_takeNumber_65 : decode cX9_takeNumber 65 = .ok (.aload_n 0, 1) := by decide +kernel
theorem dX9_takeNumber_66 : decode cX9_takeNumber 66 = .ok (.dup, 1) := by decide +kernel
theorem dX9_takeNumber_67 : decode cX9_takeNumber 67 = .ok (.getfield 186, 3) := by decide +kernel
theorem dX9_takeNumber_70 : decode cX9_takeNumber 70 = .ok (.iconst 1, 1) := by decide +kernel
theorem dX9_takeNumber_71 : decode cX9_takeNumber 71 = .ok (.iadd, 1) := by decide +kernel
theorem dX9_takeNumber_72 : decode cX9_takeNumber 72 = .ok (.putfield 186, 3) := by decide +kernel
theorem dX9_takeNumber_75 : decode cX9_takeNumber 75 = .ok (.iinc 3 1, 3) := by decide +kernel
theorem dX9_takeNumber_78 : decode cX9_takeNumber 78 = .ok (.goto (-74), 3) := by decide +kernel
theorem dX9_takeNumber_81 : decode cX9_takeNumber 81 = .ok (.iload_n 2, 1) := by decide +kernel
theorem dX9_takeNumber_82 : decode cX9_takeNumber 82 = .ok (.ireturn, 1) := by decide +kernel
theorem dX9_takes_0 : decode cX9_takes 0 = .ok (.aload_n 0, 1) := by decide +kernel
theorem dX9_takes_1 : decode cX9_takes 1 = .ok (.getfield 186, 3) := by decide +kernel
theorem dX9_takes_4 : decode cX9_takes 4 = .ok (.aload_n 0, 1) := by decide +kernel
theorem dX9_takes_5 : decode cX9_takes 5 = .ok (.getfield 183, 3) := by decide +kernel
theorem dX9_takes_8 : decode cX9_takes 8 = .ok (.if_icmp .ge 20, 3) := by decide +kernel
theorem dX9_takes_11 : decode cX9_takes 11 = .ok (.aload_n 0, 1) := by decide +kernel
theorem dX9_takes_12 : decode cX9_takes 12 = .ok (.getfield 19, 3) := by decide +kernel
theorem dX9_takes_15 : decode cX9_takes 15 = .ok (.aload_n 0, 1) := by decide +kernel
theorem dX9_takes_16 : decode cX9_takes 16 = .ok (.getfield 186, 3) := by decide +kernel
theorem dX9_takes_19 : decode cX9_takes 19 = .ok (.iaload, 1) := by decide +kernel
theorem dX9_takes_20 : decode cX9_takes 20 = .ok (.iload_n 1, 1) := by decide +kernel
theorem dX9_takes_21 : decode cX9_takes 21 = .ok (.if_icmp .ne 7, 3) := by decide +kernel
theorem dX9_takes_24 : decode cX9_takes 24 = .ok (.iconst 1, 1) := by decide +kernel
theorem dX9_takes_25 : decode cX9_takes 25 = .ok (.goto 4, 3) := by decide +kernel
theorem dX9_takes_28 : decode cX9_takes 28 = .ok (.iconst 0, 1) := by decide +kernel
theorem dX9_takes_29 : decode cX9_takes 29 = .ok (.istore_n 2, 1) := by decide +kernel
theorem dX9_takes_30 : decode cX9_takes 30 = .ok (.aload_n 0, 1) := by decide +kernel
theorem dX9_takes_31 : decode cX9_takes 31 = .ok (.dup, 1) := by decide +kernel
theorem dX9_takes_32 : decode cX9_takes 32 = .ok (.getfield 186, 3) := by decide +kernel
theorem dX9_takes_35 : decode cX9_takes 35 = .ok (.iload_n 2, 1) := by decide +kernel
theorem dX9_takes_36 : decode cX9_takes 36 = .ok (.ifCond .eq 7, 3) := by decide +kernel
theorem dX9_takes_39 : decode cX9_takes 39 = .ok (.iconst 1, 1) := by decide +kernel
theorem dX9_takes_40 : decode cX9_takes 40 = .ok (.goto 4, 3) := by decide +kernel
theorem dX9_takes_43 : decode cX9_takes 43 = .ok (.iconst 0, 1) := by decide +kernel
theorem dX9_takes_44 : decode cX9_takes 44 = .ok (.iadd, 1) := by decide +kernel
theorem dX9_takes_45 : decode cX9_takes 45 = .ok (.putfield 186, 3) := by decide +kernel
theorem dX9_takes_48 : decode cX9_takes 48 = .ok (.iload_n 2, 1) := by decide +kernel
theorem dX9_takes_49 : decode cX9_takes 49 = .ok (.ireturn, 1) := by decide +kernel
set_option maxRecDepth 20000 in
theorem ggX9_readsWrite_X9_takeNumber : GoodIn wsX9_readsWrite wsX9_takeNumber := goodIn_r _ [8, 9, 10, 11, 12, 13, 7, 14, 19, 20, 21, 22, 23, 24, 25, 26, 27, 28, 29, 30, 31, 32, 33, 34, 35, 36, 37, 38, 39, 40, 41] (by decide +kernel) (by decide +kernel)
set_option maxRecDepth 20000 in
theorem gX9_readsWrite_X9_takeNumber : GoodIn wsX9_readsWrite (wsV RX9 189 RX9 yX9_takeNumber wsX9_takeNumber) := goodIn_app (goodIn_of _ (by decide +kernel)) ggX9_readsWrite_X9_takeNumber
set_option maxRecDepth 20000 in
theorem ggX9_readsWrite_X9_takes : GoodIn wsX9_readsWrite wsX9_takes := goodIn_r _ [18, 9, 10, 11, 19, 20, 21, 22, 23, 24, 25, 26, 27, 28, 29, 30, 31, 32, 33, 34, 35, 36, 37, 38, 39, 40, 41] (by decide +kernel) (by decide +kernel)
set_option maxRecDepth 20000 in
theorem gX9_readsWrite_X9_takes : GoodIn wsX9_readsWrite (wsV RX9 196 RX9 yX9_takes wsX9_takes) := goodIn_app (goodIn_of _ (by decide +kernel)) ggX9_readsWrite_X9_takes
theorem dX9_readsWrite_0 : decode cX9_readsWrite 0 = .ok (.aload_n 0, 1) := by decide +kernel
theorem dX9_readsWrite_1 : decode cX9_readsWrite 1 = .ok (.aload_n 0, 1) := by decide +kernel
theorem dX9_readsWrite_2 : decode cX9_readsWrite 2 = .ok (.iconst 2, 1) := by decide +kernel
theorem dX9_readsWrite_3 : decode cX9_readsWrite 3 = .ok (.invokevirtual 189, 3) := by decide +kernel
theorem dX9_readsWrite_6 : decode cX9_readsWrite 6 = .ok (.putfield 193, 3) := by decide +kernel
theorem dX9_readsWrite_9 : decode cX9_readsWrite 9 = .ok (.aload_n 0, 1) := by decide +kernel
theorem dX9_readsWrite_10 : decode cX9_readsWrite 10 = .ok (.getfield 193, 3) := by decide +kernel
theorem dX9_readsWrite_13 : decode cX9_readsWrite 13 = .ok (.ifCond .lt 16, 3) := by decide +kernel
theorem dX9_readsWrite_16 : decode cX9_readsWrite 16 = .ok (.aload_n 0, 1) := by decide +kernel
theorem dX9_readsWrite_17 : decode cX9_readsWrite 17 = .ok (.bipush 46, 2) := by decide +kernel
theorem dX9_readsWrite_19 : decode cX9_readsWrite 19 = .ok (.invokevirtual 196, 3) := by decide +kernel
theorem dX9_readsWrite_22 : decode cX9_readsWrite 22 = .ok (.ifCond .eq 7, 3) := by decide +kernel
theorem dX9_readsWrite_25 : decode cX9_readsWrite 25 = .ok (.iconst 1, 1) := by decide +kernel
theorem dX9_readsWrite_26 : decode cX9_readsWrite 26 = .ok (.goto 4, 3) := by decide +kernel
theorem dX9_readsWrite_29 : decode cX9_readsWrite 29 = .ok (.iconst 0, 1) := by decide +kernel
theorem dX9_readsWrite_30 : decode cX9_readsWrite 30 = .ok (.istore_n 1, 1) := by decide +kernel
theorem dX9_readsWrite_31 : decode cX9_readsWrite 31 = .ok (.aload_n 0, 1) := by decide +kernel
theorem dX9_readsWrite_32 : decode cX9_readsWrite 32 = .ok (.iload_n 1, 1) := by decide +kernel
theorem dX9_readsWrite_33 : decode cX9_readsWrite 33 = .ok (.ifCond .eq 11, 3) := by decide +kernel
theorem dX9_readsWrite_36 : decode cX9_readsWrite 36 = .ok (.aload_n 0, 1) := by decide +kernel
theorem dX9_readsWrite_37 : decode cX9_readsWrite 37 = .ok (.iconst 1, 1) := by decide +kernel
theorem dX9_readsWrite_38 : decode cX9_readsWrite 38 = .ok (.invokevirtual 189, 3) := by decide +kernel
theorem dX9_readsWrite_41 : decode cX9_readsWrite 41 = .ok (.goto 4, 3) := by decide +kernel
theorem dX9_readsWrite_44 : decode cX9_readsWrite 44 = .ok (.iconst (-1), 1) := by decide +kernel
theorem dX9_readsWrite_45 : decode cX9_readsWrite 45 = .ok (.putfield 199, 3) := by decide +kernel
theorem dX9_readsWrite_48 : decode cX9_readsWrite 48 = .ok (.iload_n 1, 1) := by decide +kernel
theorem dX9_readsWrite_49 : decode cX9_readsWrite 49 = .ok (.ifCond .eq 23, 3) := by decide +kernel
theorem dX9_readsWrite_52 : decode cX9_readsWrite 52 = .ok (.aload_n 0, 1) := by decide +kernel
theorem dX9_readsWrite_53 : decode cX9_readsWrite 53 = .ok (.getfield 199, 3) := by decide +kernel
theorem dX9_readsWrite_56 : decode cX9_readsWrite 56 = .ok (.ifCond .lt 16, 3) := by decide +kernel
theorem dX9_readsWrite_59 : decode cX9_readsWrite 59 = .ok (.aload_n 0, 1) := by decide +kernel
theorem dX9_readsWrite_60 : decode cX9_readsWrite 60 = .ok (.bipush 61, 2) := by decide +kernel
theorem dX9_readsWrite_62 : decode cX9_readsWrite 62 = .ok (.invokevirtual 196, 3) := by decide +kernel
theorem dX9_readsWrite_65 : decode cX9_readsWrite 65 = .ok (.ifCond .eq 7, 3) := by decide +kernel
theorem dX9_readsWrite_68 : decode cX9_readsWrite 68 = .ok (.iconst 1, 1) := by decide +kernel
theorem dX9_readsWrite_69 : decode cX9_readsWrite 69 = .ok (.goto 4, 3) := by decide +kernel
theorem dX9_readsWrite_72 : decode cX9_readsWrite 72 = .ok (.iconst 0, 1) := by decide +kernel
theorem dX9_readsWrite_73 : decode cX9_readsWrite 73 = .ok (.istore_n 1, 1) := by decide +kernel
theorem dX9_readsWrite_74 : decode cX9_readsWrite 74 = .ok (.aload_n 0, 1) := by decide +kernel
theorem dX9_readsWrite_75 : decode cX9_readsWrite 75 = .ok (.iload_n 1, 1) := by decide +kernel
theorem dX9_readsWrite_76 : decode cX9_readsWrite 76 = .ok (.ifCond .eq 11, 3) := by decide +kernel
theorem dX9_readsWrite_79 : decode cX9_readsWrite 79 = .ok (.aload_n 0, 1) := by decide +kernel
theorem dX9_readsWrite_80 : decode cX9_readsWrite 80 = .ok (.iconst 3, 1) := by decide +kernel
theorem dX9_readsWrite_81 : decode cX9_readsWrite 81 = .ok (.invokevirtual 189, 3) := by decide +kernel
theorem dX9_readsWrite_84 : decode cX9_readsWrite 84 = .ok (.goto 4, 3) := by decide +kernel
theorem dX9_readsWrite_87 : decode cX9_readsWrite 87 = .ok (.iconst (-1), 1) := by decide +kernel
theorem dX9_readsWrite_88 : decode cX9_readsWrite 88 = .ok (.putfield 202, 3) := by decide +kernel
theorem dX9_readsWrite_91 : decode cX9_readsWrite 91 = .ok (.iload_n 1, 1) := by decide +kernel
theorem dX9_readsWrite_92 : decode cX9_readsWrite 92 = .ok (.ifCond .eq 23, 3) := by decide +kernel
theorem dX9_readsWrite_95 : decode cX9_readsWrite 95 = .ok (.aload_n 0, 1) := by decide +kernel
theorem dX9_readsWrite_96 : decode cX9_readsWrite 96 = .ok (.getfield 202, 3) := by decide +kernel
theorem dX9_readsWrite_99 : decode cX9_readsWrite 99 = .ok (.ifCond .lt 16, 3) := by decide +kernel
theorem dX9_readsWrite_102 : decode cX9_readsWrite 102 = .ok (.aload_n 0, 1) := by decide +kernel
theorem dX9_readsWrite_103 : decode cX9_readsWrite 103 = .ok (.bipush 59, 2) := by decide +kernel
theorem dX9_readsWrite_105 : decode cX9_readsWrite 105 = .ok (.invokevirtual 196, 3) := by decide +kernel
theorem dX9_readsWrite_108 : decode cX9_readsWrite 108 = .ok (.ifCond .eq 7, 3) := by decide +kernel
theorem dX9_readsWrite_111 : decode cX9_readsWrite 111 = .ok (.iconst 1, 1) := by decide +kernel
theorem dX9_readsWrite_112 : decode cX9_readsWrite 112 = .ok (.goto 4, 3) := by decide +kernel
theorem dX9_readsWrite_115 : decode cX9_readsWrite 115 = .ok (.iconst 0, 1) := by decide +kernel
theorem dX9_readsWrite_116 : decode cX9_readsWrite 116 = .ok (.ireturn, 1) := by decide +kernel
theorem dX9_faults_0 : decode cX9_faults 0 = .ok (.aload_n 0, 1) := by decide +kernel
theorem dX9_faults_1 : decode cX9_faults 1 = .ok (.iload_n 1, 1) := by decide +kernel
theorem dX9_faults_2 : decode cX9_faults 2 = .ok (.putfield 205, 3) := by decide +kernel
theorem dX9_faults_5 : decode cX9_faults 5 = .ok (.aload_n 0, 1) := by decide +kernel
theorem dX9_faults_6 : decode cX9_faults 6 = .ok (.iload_n 2, 1) := by decide +kernel
theorem dX9_faults_7 : decode cX9_faults 7 = .ok (.putfield 208, 3) := by decide +kernel
theorem dX9_faults_10 : decode cX9_faults 10 = .ok (.aload_n 0, 1) := by decide +kernel
theorem dX9_faults_11 : decode cX9_faults 11 = .ok (.iload_n 3, 1) := by decide +kernel
theorem dX9_faults_12 : decode cX9_faults 12 = .ok (.putfield 211, 3) := by decide +kernel
theorem dX9_faults_15 : decode cX9_faults 15 = .ok (.return_, 1) := by decide +kernel
set_option maxRecDepth 20000 in
theorem ggX9_plays_X9_readsWrite : GoodIn wsX9_plays wsX9_readsWrite := goodIn_r _ [13, 5, 6, 8, 14, 15, 16, 12, 17, 1, 4, 18, 19, 20, 21, 22, 23, 24, 25, 112, 113, 114, 115, 116, 117, 118, 119, 120, 121, 122, 123, 124, 125, 126, 127, 128, 129, 130, 131, 132, 133, 134] (by decide +kernel) (by decide +kernel)
set_option maxRecDepth 20000 in
theorem gX9_plays_X9_readsWrite : GoodIn wsX9_plays (wsV RX9 217 RX9 yX9_readsWrite wsX9_readsWrite) := goodIn_app (goodIn_of _ (by decide +kernel)) ggX9_plays_X9_readsWrite
set_option maxRecDepth 20000 in
theorem ggX9_plays_X9_faults : GoodIn wsX9_plays wsX9_faults := goodIn_r _ [29, 30, 3, 31, 112, 113, 114, 115, 116, 117, 118, 119, 120, 121, 122, 123, 124, 125, 126, 127, 128, 129, 130, 131, 132, 133, 134] (by decide +kernel) (by decide +kernel)
set_option maxRecDepth 20000 in
theorem gX9_plays_X9_faults : GoodIn wsX9_plays (wsV RX9 220 RX9 yX9_faults wsX9_faults) := goodIn_app (goodIn_of _ (by decide +kernel)) ggX9_plays_X9_faults
set_option maxRecDepth 20000 in
theorem ggX9_plays_X9_isLeaf : GoodIn wsX9_plays wsX9_isLeaf := goodIn_r _ [34, 19, 20, 12, 21] (by decide +kernel) (by decide +kernel)
set_option maxRecDepth 20000 in
theorem gX9_plays_X9_isLeaf : GoodIn wsX9_plays (va_wsS RX9 100 yX9_isLeaf wsX9_isLeaf) := goodIn_app (goodIn_of _ (by decide +kernel)) ggX9_plays_X9_isLeaf
set_option maxRecDepth 20000 in
theorem ggX9_plays_X9_whyNotWritten : GoodIn wsX9_plays wsX9_whyNotWritten := goodIn_r _ [38, 39, 40, 41, 42, 32, 33, 12, 34, 19, 20, 21, 43, 44, 45, 46, 47, 48, 49, 50, 51, 52, 53, 54, 55, 56, 57, 58, 59, 60, 61, 62, 63, 64, 65, 66, 67, 68, 69, 70, 71, 72, 112, 113, 114, 115, 116, 117, 118, 119, 120, 121, 122, 123, 124, 125, 126, 127, 128, 129, 130, 131, 132, 133, 134] (by decide +kernel) (by decide +kernel)
set_option maxRecDepth 20000 in
theorem gX9_plays_X9_whyNotWritten : GoodIn wsX9_plays (wsV RX9 143 RX9 yX9_whyNotWritten wsX9_whyNotWritten) := goodIn_app (goodIn_of _ (by decide +kernel)) ggX9_plays_X9_whyNotWritten
set_option maxRecDepth 20000 in
theorem ggX9_plays_X9_written : GoodIn wsX9_plays wsX9_written := goodIn_r _ [76, 77, 53, 51, 78, 79, 40, 58, 59, 60, 12, 61, 80, 81, 82, 83, 84, 85, 86, 87, 7, 88, 89, 90, 91, 92, 93, 94, 95, 96, 97, 98, 99, 100, 101, 102, 103, 104, 105, 106, 107, 108, 109, 110, 111, 70, 71, 72, 112, 113, 114, 115, 116, 117, 118, 119, 120, 121, 122, 123, 124, 125, 126, 127, 128, 129, 130, 131, 132, 133, 134] (by decide +kernel) (by decide +kernel)
set_option maxRecDepth 20000 in
theorem gX9_plays_X9_written : GoodIn wsX9_plays (wsV RX9 149 RX9 yX9_written wsX9_written) := goodIn_app (goodIn_of _ (by decide +kernel)) ggX9_plays_X9_written
theorem dX9_plays_0 : decode cX9_plays 0 = .ok (.aload_n 0, 1) := by decide +kernel
theorem dX9_plays_1 : decode cX9_plays 1 = .ok (.iconst 0, 1) := by decide +kernel
theorem dX9_plays_2 : decode cX9_plays 2 = .ok (.putfield 186, 3) := by decide +kernel
theorem dX9_plays_5 : decode cX9_plays 5 = .ok (.aload_n 0, 1) := by decide +kernel
theorem dX9_plays_6 : decode cX9_plays 6 = .ok (.iconst 0, 1) := by decide +kernel
theorem dX9_plays_7 : decode cX9_plays 7 = .ok (.putfield 214, 3) := by decide +kernel
theorem dX9_plays_10 : decode cX9_plays 10 = .ok (.aload_n 0, 1) := by decide +kernel
theorem dX9_plays_11 : decode cX9_plays 11 = .ok (.iconst 0, 1) := by decide +kernel
theorem dX9_plays_12 : decode cX9_plays 12 = .ok (.putfield 208, 3) := by decide +kernel
theorem dX9_plays_15 : decode cX9_plays 15 = .ok (.aload_n 0, 1) := by decide +kernel
theorem dX9_plays_16 : decode cX9_plays 16 = .ok (.getfield 186, 3) := by decide +kernel
theorem dX9_plays_19 : decode cX9_plays 19 = .ok (.aload_n 0, 1) := by decide +kernel
theorem dX9_plays_20 : decode cX9_plays 20 = .ok (.getfield 183, 3) := by decide +kernel
theorem dX9_plays_23 : decode cX9_plays 23 = .ok (.if_icmp .ge 127, 3) := by decide +kernel
theorem dX9_plays_26 : decode cX9_plays 26 = .ok (.aload_n 0, 1) := by decide +kernel
theorem dX9_plays_27 : decode cX9_plays 27 = .ok (.getfield 208, 3) := by decide +kernel
theorem dX9_plays_30 : decode cX9_plays 30 = .ok (.ifCond .ne 120, 3) := by decide +kernel
theorem dX9_plays_33 : decode cX9_plays 33 = .ok (.aload_n 0, 1) := by decide +kernel
theorem dX9_plays_34 : decode cX9_plays 34 = .ok (.getfield 186, 3) := by decide +kernel
theorem dX9_plays_37 : decode cX9_plays 37 = .ok (.istore_n 1, 1) := by decide +kernel
theorem dX9_plays_38 : decode cX9_plays 38 = .ok (.aload_n 0, 1) := by decide +kernel
theorem dX9_plays_39 : decode cX9_plays 39 = .ok (.invokevirtual 217, 3) := by decide +kernel
theorem dX9_plays_42 : decode cX9_plays 42 = .ok (.ifCond .ne 18, 3) := by decide +kernel
theorem dX9_plays_45 : decode cX9_plays 45 = .ok (.aload_n 0, 1) := by decide +kernel
theorem dX9_plays_46 : decode cX9_plays 46 = .ok (.iload_n 1, 1) := by decide +kernel
theorem dX9_plays_47 : decode cX9_plays 47 = .ok (.iconst 1, 1) := by decide +kernel
theorem dX9_plays_48 : decode cX9_plays 48 = .ok (.aload_n 0, 1) := by decide +kernel
theorem dX9_plays_49 : decode cX9_plays 49 = .ok (.getfield 186, 3) := by decide +kernel
theorem dX9_plays_52 : decode cX9_plays 52 = .ok (.iload_n 1, 1) := by decide +kernel
theorem dX9_plays_53 : decode cX9_plays 53 = .ok (.isub, 1) := by decide +kernel
theorem dX9_plays_54 : decode cX9_plays 54 = .ok (.invokevirtual 220, 3) := by decide +kernel
theorem dX9_plays_57 : decode cX9_plays 57 = .ok (.goto 90, 3) := by decide +kernel
theorem dX9_plays_60 : decode cX9_plays 60 = .ok (.aload_n 0, 1) := by decide +kernel
theorem dX9_plays_61 : decode cX9_plays 61 = .ok (.getfield 193, 3) := by decide +kernel
theorem dX9_plays_64 : decode cX9_plays 64 = .ok (.invokestatic 100, 3) := by decide +kernel
theorem dX9_plays_67 : decode cX9_plays 67 = .ok (.ifCond .eq 11, 3) := by decide +kernel
theorem dX9_plays_70 : decode cX9_plays 70 = .ok (.aload_n 0, 1) := by decide +kernel
theorem dX9_plays_71 : decode cX9_plays 71 = .ok (.getfield 199, 3) := by decide +kernel
theorem dX9_plays_74 : decode cX9_plays 74 = .ok (.iconst 3, 1) := by decide +kernel
theorem dX9_plays_75 : decode cX9_plays 75 = .ok (.if_icmp .le 14, 3) := by decide +kernel
theorem dX9_plays_78 : decode cX9_plays 78 = .ok (.aload_n 0, 1) := by decide +kernel
theorem dX9_plays_79 : decode cX9_plays 79 = .ok (.iload_n 1, 1) := by decide +kernel
theorem dX9_plays_80 : decode cX9_plays 80 = .ok (.iconst 2, 1) := by decide +kernel
theorem dX9_plays_81 : decode cX9_plays 81 = .ok (.ldc 77, 2) := by decide +kernel
theorem dX9_plays_83 : decode cX9_plays 83 = .ok (.invokevirtual 220, 3) := by decide +kernel
theorem dX9_plays_86 : decode cX9_plays 86 = .ok (.goto 61, 3) := by decide +kernel
theorem dX9_plays_89 : decode cX9_plays 89 = .ok (.aload_n 0, 1) := by decide +kernel
theorem dX9_plays_90 : decode cX9_plays 90 = .ok (.aload_n 0, 1) := by decide +kernel
theorem dX9_plays_91 : decode cX9_plays 91 = .ok (.getfield 193, 3) := by decide +kernel
theorem dX9_plays_94 : decode cX9_plays 94 = .ok (.aload_n 0, 1) := by decide +kernel
theorem dX9_plays_95 : decode cX9_plays 95 = .ok (.getfield 199, 3) := by decide +kernel
theorem dX9_plays_98 : decode cX9_plays 98 = .ok (.aload_n 0, 1) := by decide +kernel
theorem dX9_plays_99 : decode cX9_plays 99 = .ok (.getfield 202, 3) := by decide +kernel
theorem dX9_plays_102 : decode cX9_plays 102 = .ok (.invokevirtual 143, 3) := by decide +kernel
theorem dX9_plays_105 : decode cX9_plays 105 = .ok (.istore_n 2, 1) := by decide +kernel
theorem dX9_plays_106 : decode cX9_plays 106 = .ok (.iload_n 2, 1) := by decide +kernel
theorem dX9_plays_107 : decode cX9_plays 107 = .ok (.ifCond .ge 13, 3) := by decide +kernel
theorem dX9_plays_110 : decode cX9_plays 110 = .ok (.aload_n 0, 1) := by decide +kernel
theorem dX9_plays_111 : decode cX9_plays 111 = .ok (.iload_n 1, 1) := by decide +kernel
theorem dX9_plays_112 : decode cX9_plays 112 = .ok (.iconst 3, 1) := by decide +kernel
theorem dX9_plays_113 : decode cX9_plays 113 = .ok (.iload_n 2, 1) := by decide +kernel
theorem dX9_plays_114 : decode cX9_plays 114 = .ok (.invokevirtual 220, 3) := by decide +kernel
theorem dX9_plays_117 : decode cX9_plays 117 = .ok (.goto 30, 3) := by decide +kernel
theorem dX9_plays_120 : decode cX9_plays 120 = .ok (.aload_n 0, 1) := by decide +kernel
theorem dX9_plays_121 : decode cX9_plays 121 = .ok (.aload_n 0, 1) := by decide +kernel
theorem dX9_plays_122 : decode cX9_plays 122 = .ok (.getfield 193, 3) := by decide +kernel
theorem dX9_plays_125 : decode cX9_plays 125 = .ok (.aload_n 0, 1) := by decide +kernel
theorem dX9_plays_126 : decode cX9_plays 126 = .ok (.getfield 199, 3) := by decide +kernel
theorem dX9_plays_129 : decode cX9_plays 129 = .ok (.aload_n 0, 1) := by decide +kernel
theorem dX9_plays_130 : decode cX9_plays 130 = .ok (.getfield 202, 3) := by decide +kernel
theorem dX9_plays_133 : decode cX9_plays 133 = .ok (.invokevirtual 149, 3) := by decide +kernel
theorem dX9_plays_136 : decode cX9_plays 136 = .ok (.pop, 1) := by decide +kernel
theorem dX9_plays_137 : decode cX9_plays 137 = .ok (.aload_n 0, 1) := by decide +kernel
theorem dX9_plays_138 : decode cX9_plays 138 = .ok (.dup, 1) := by decide +kernel
theorem dX9_plays_139 : decode cX9_plays 139 = .ok (.getfield 214, 3) := by decide +kernel
theorem dX9_plays_142 : decode cX9_plays 142 = .ok (.iconst 1, 1) := by decide +kernel
theorem dX9_plays_143 : decode cX9_plays 143 = .ok (.iadd, 1) := by decide +kernel
theorem dX9_plays_144 : decode cX9_plays 144 = .ok (.putfield 214, 3) := by decide +kernel
theorem dX9_plays_147 : decode cX9_plays 147 = .ok (.goto (-132), 3) := by decide +kernel
theorem dX9_plays_150 : decode cX9_plays 150 = .ok (.return_, 1) := by decide +kernel
set_option maxRecDepth 20000 in
theorem ggX9_tries_X9_copy : GoodIn wsX9_tries wsX9_copy := goodIn_r _ [6] (by decide +kernel) (by decide +kernel)
set_option maxRecDepth 20000 in
theorem gX9_tries_X9_copy : GoodIn wsX9_tries (va_wsS RX9 61 yX9_copy wsX9_copy) := goodIn_app (goodIn_of _ (by decide +kernel)) ggX9_tries_X9_copy
set_option maxRecDepth 20000 in
theorem ggX9_tries_X9_plays : GoodIn wsX9_tries wsX9_plays := goodIn_r _ [10, 11, 12, 13, 14, 15, 16, 17, 18, 19, 20, 21, 5, 22, 23, 24, 25, 26, 27, 28, 29, 30, 31, 32, 33, 34, 35, 36, 37, 38, 39, 40, 41, 42, 43, 44, 45, 46, 47, 48, 1, 49, 50, 51, 52, 53, 54, 55, 56, 57, 58, 59, 60, 61, 62, 63, 64, 65, 66, 67, 68, 69, 70, 71, 72, 73, 74, 75, 76, 77, 78, 79, 80, 81, 82, 83, 84, 85, 86, 87, 88, 89, 90, 91, 92, 93, 94, 95, 96, 97, 98, 99, 100, 101, 102, 103, 104, 105, 106, 107, 108, 109, 110, 111, 112, 113, 114, 115, 116, 117, 118, 119, 120, 121, 122, 123, 124, 125, 126, 127, 128, 129, 130, 131, 132, 133, 134, 135, 136, 137, 138, 139, 140, 141, 142] (by decide +kernel) (by decide +kernel)
set_option maxRecDepth 20000 in
theorem gX9_tries_X9_plays : GoodIn wsX9_tries (wsV RX9 223 RX9 yX9_plays wsX9_plays) := goodIn_app (goodIn_of _ (by decide +kernel)) ggX9_tries_X9_plays
theorem dX9_tries_0 : decode cX9_tries 0 = .ok (.aload_n 0, 1) := by decide +kernel
theorem dX9_tries_1 : decode cX9_tries 1 = .ok (.getfield 7, 3) := by decide +kernel
theorem dX9_tries_4 : decode cX9_tries 4 = .ok (.iconst 0, 1) := by decide +kernel
theorem dX9_tries_5 : decode cX9_tries 5 = .ok (.aload_n 0, 1) := by decide +kernel
theorem dX9_tries_6 : decode cX9_tries 6 = .ok (.getfield 13, 3) := by decide +kernel
theorem dX9_tries_9 : decode cX9_tries 9 = .ok (.iconst 0, 1) := by decide +kernel
theorem dX9_tries_10 : decode cX9_tries 10 = .ok (.invokestatic 61, 3) := by decide +kernel
theorem dX9_tries_13 : decode cX9_tries 13 = .ok (.aload_n 0, 1) := by decide +kernel
theorem dX9_tries_14 : decode cX9_tries 14 = .ok (.invokevirtual 223, 3) := by decide +kernel
theorem dX9_tries_17 : decode cX9_tries 17 = .ok (.aload_n 0, 1) := by decide +kernel
theorem dX9_tries_18 : decode cX9_tries 18 = .ok (.getfield 13, 3) := by decide +kernel
theorem dX9_tries_21 : decode cX9_tries 21 = .ok (.iconst 0, 1) := by decide +kernel
theorem dX9_tries_22 : decode cX9_tries 22 = .ok (.aload_n 0, 1) := by decide +kernel
theorem dX9_tries_23 : decode cX9_tries 23 = .ok (.getfield 7, 3) := by decide +kernel
theorem dX9_tries_26 : decode cX9_tries 26 = .ok (.iconst 0, 1) := by decide +kernel
theorem dX9_tries_27 : decode cX9_tries 27 = .ok (.invokestatic 61, 3) := by decide +kernel
theorem dX9_tries_30 : decode cX9_tries 30 = .ok (.return_, 1) := by decide +kernel
set_option maxRecDepth 20000 in
theorem ggX9_fault_X9_within : GoodIn wsX9_fault wsX9_within := goodIn_r _ [9] (by decide +kernel) (by decide +kernel)
set_option maxRecDepth 20000 in
theorem gX9_fault_X9_within : GoodIn wsX9_fault (va_wsS RX9 78 yX9_within wsX9_within) := goodIn_app (goodIn_of _ (by decide +kernel)) ggX9_fault_X9_within
set_option maxRecDepth 20000 in
theorem ggX9_fault_X9_tries : GoodIn wsX9_fault wsX9_tries := goodIn_r _ [13, 14, 15, 16, 17, 8, 18, 19, 20, 21, 22, 23, 24, 2, 25, 26, 27, 3, 28, 29, 30, 31, 32, 33, 34, 35, 36, 37, 6, 7, 9, 38, 39, 40, 41, 42, 43, 44, 45, 4, 5, 46, 47, 48, 49, 50, 51, 52, 1, 53, 54, 55, 56, 57, 58, 59, 60, 61, 62, 63, 64, 65, 66, 67, 68, 69, 70, 71, 72, 73, 74, 75, 76, 77, 78, 79, 80, 81, 82, 83, 84, 85, 86, 87, 88, 89, 90, 91, 92, 93, 94, 95, 96, 97, 98, 99, 100, 101, 102, 103, 104, 105, 106, 107, 108, 109, 110, 111, 112, 113, 114, 115, 116, 117, 118, 119, 120, 121, 122, 123, 124, 125, 126, 127, 128, 129, 130, 131, 132, 133, 134, 135, 136, 137, 138, 139, 140, 141, 142, 143, 144, 145, 146] (by decide +kernel) (by decide +kernel)
set_option maxRecDepth 20000 in
theorem gX9_fault_X9_tries : GoodIn wsX9_fault (wsV RX9 226 RX9 yX9_tries wsX9_tries) := goodIn_app (goodIn_of _ (by decide +kernel)) ggX9_fault_X9_tries
theorem dX9_fault_0 : decode cX9_fault 0 = .ok (.iload_n 1, 1) := by decide +kernel
theorem dX9_fault_1 : decode cX9_fault 1 = .ok (.iconst 0, 1) := by decide +kernel
theorem dX9_fault_2 : decode cX9_fault 2 = .ok (.iconst 2, 1) := by decide +kernel
theorem dX9_fault_3 : decode cX9_fault 3 = .ok (.invokestatic 78, 3) := by decide +kernel
theorem dX9_fault_6 : decode cX9_fault 6 = .ok (.ifCond .ne 6, 3) := by decide +kernel
theorem dX9_fault_9 : decode cX9_fault 9 = .ok (.ldc 103, 2) := by decide +kernel
theorem dX9_fault_11 : decode cX9_fault 11 = .ok (.ireturn, 1) := by decide +kernel
theorem dX9_fault_12 : decode cX9_fault 12 = .ok (.aload_n 0, 1) := by decide +kernel
theorem dX9_fault_13 : decode cX9_fault 13 = .ok (.invokevirtual 226, 3) := by decide +kernel
theorem dX9_fault_16 : decode cX9_fault 16 = .ok (.aload_n 0, 1) := by decide +kernel
theorem dX9_fault_17 : decode cX9_fault 17 = .ok (.getfield 208, 3) := by decide +kernel
theorem dX9_fault_20 : decode cX9_fault 20 = .ok (.ifCond .ne 8, 3) := by decide +kernel
theorem dX9_fault_23 : decode cX9_fault 23 = .ok (.ldc 77, 2) := by decide +kernel
theorem dX9_fault_25 : decode cX9_fault 25 = .ok (.goto 30, 3) := by decide +kernel
theorem dX9_fault_28 : decode cX9_fault 28 = .ok (.iload_n 1, 1) := by decide +kernel
theorem dX9_fault_29 : decode cX9_fault 29 = .ok (.ifCond .ne 10, 3) := by decide +kernel
theorem dX9_fault_32 : decode cX9_fault 32 = .ok (.aload_n 0, 1) := by decide +kernel
theorem dX9_fault_33 : decode cX9_fault 33 = .ok (.getfield 205, 3) := by decide +kernel
theorem dX9_fault_36 : decode cX9_fault 36 = .ok (.goto 19, 3) := by decide +kernel
theorem dX9_fault_39 : decode cX9_fault 39 = .ok (.iload_n 1, 1) := by decide +kernel
theorem dX9_fault_40 : decode cX9_fault 40 = .ok (.iconst 1, 1) := by decide +kernel
theorem dX9_fault_41 : decode cX9_fault 41 = .ok (.if_icmp .ne 10, 3) := by decide +kernel
theorem dX9_fault_44 : decode cX9_fault 44 = .ok (.aload_n 0, 1) := by decide +kernel
theorem dX9_fault_45 : decode cX9_fault 45 = .ok (.getfield 208, 3) := by decide +kernel
theorem dX9_fault_48 : decode cX9_fault 48 = .ok (.goto 7, 3) := by decide +kernel
theorem dX9_fault_51 : decode cX9_fault 51 = .ok (.aload_n 0, 1) := by decide +kernel
theorem dX9_fault_52 : decode cX9_fault 52 = .ok (.getfield 211, 3) := by decide +kernel
theorem dX9_fault_55 : decode cX9_fault 55 = .ok (.ireturn, 1) := by decide +kernel
set_option maxRecDepth 20000 in
theorem ggX9_play_X9_tries : GoodIn wsX9_play wsX9_tries := goodIn_r _ [8, 9, 10, 11, 12, 7, 13, 14, 15, 16, 17, 18, 3, 1, 19, 20, 21, 22, 23, 24, 25, 26, 27, 28, 29, 30, 31, 32, 33, 34, 35, 36, 37, 38, 39, 40, 41, 42, 43, 44, 45, 46, 47, 48, 49, 50, 51, 52, 53, 54, 2, 55, 56, 57, 58, 59, 60, 61, 62, 63, 64, 65, 66, 67, 68, 69, 70, 71, 72, 73, 74, 75, 76, 77, 78, 79, 80, 81, 82, 83, 84, 85, 86, 87, 88, 89, 90, 91, 92, 93, 94, 95, 96, 97, 98, 99, 100, 101, 102, 103, 104, 105, 106, 107, 108, 109, 110, 111, 112, 113, 114, 115, 116, 117, 118, 119, 120, 121, 122, 123, 130, 131, 132, 133, 134, 135, 136, 137, 138, 139, 140, 141, 142, 143, 144, 145, 146, 147, 148, 149, 150, 151, 152] (by decide +kernel) (by decide +kernel)
set_option maxRecDepth 20000 in
theorem gX9_play_X9_tries : GoodIn wsX9_play (wsV RX9 226 RX9 yX9_tries wsX9_tries) := goodIn_app (goodIn_of _ (by decide +kernel)) ggX9_play_X9_tries
set_option maxRecDepth 20000 in
theorem ggX9_play_X9_record : GoodIn wsX9_play wsX9_record := goodIn_r _ [127, 128, 129, 9, 11, 12, 7, 13, 130, 131, 132, 133, 134, 135, 136, 137, 138, 139, 140, 141, 142, 143, 144, 145, 146, 147, 148, 149, 150, 151, 152] (by decide +kernel) (by decide +kernel)
set_option maxRecDepth 20000 in
theorem gX9_play_X9_record : GoodIn wsX9_play (wsV RX9 146 RX9 yX9_record wsX9_record) := goodIn_app (goodIn_of _ (by decide +kernel)) ggX9_play_X9_record
set_option maxRecDepth 20000 in
theorem ggX9_play_X9_plays : GoodIn wsX9_play wsX9_plays := goodIn_r _ [17, 18, 3, 1, 19, 20, 21, 22, 23, 24, 25, 26, 7, 27, 28, 29, 30, 31, 32, 33, 34, 35, 36, 37, 38, 39, 40, 41, 42, 43, 44, 45, 46, 47, 48, 49, 50, 51, 52, 53, 9, 54, 2, 55, 56, 57, 58, 59, 60, 61, 62, 63, 64, 65, 66, 67, 68, 69, 70, 71, 72, 73, 74, 75, 76, 77, 78, 79, 80, 81, 82, 83, 84, 85, 86, 87, 88, 89, 90, 91, 92, 93, 94, 95, 96, 97, 98, 99, 100, 101, 102, 103, 104, 105, 106, 107, 108, 109, 110, 111, 112, 113, 114, 115, 116, 117, 118, 119, 120, 121, 122, 123, 130, 131, 132, 133, 134, 135, 136, 137, 138, 139, 140, 141, 142, 143, 144, 145, 146, 147, 148, 149, 150, 151, 152] (by decide +kernel) (by decide +kernel)
set_option maxRecDepth 20000 in
theorem gX9_play_X9_plays : GoodIn wsX9_play (wsV RX9 223 RX9 yX9_plays wsX9_plays) := goodIn_app (goodIn_of _ (by decide +kernel)) ggX9_play_X9_plays
theorem dX9_play_0 : decode cX9_play 0 = .ok (.aload_n 0, 1) := by decide +kernel
theorem dX9_play_1 : decode cX9_play 1 = .ok (.invokevirtual 226, 3) := by decide +kernel
theorem dX9_play_4 : decode cX9_play 4 = .ok (.aload_n 0, 1) := by decide +kernel
theorem dX9_play_5 : decode cX9_play 5 = .ok (.getfield 208, 3) := by decide +kernel
theorem dX9_play_8 : decode cX9_play 8 = .ok (.ifCond .le 6, 3) := by decide +kernel
theorem dX9_play_11 : decode cX9_play 11 = .ok (.ldc 109, 2) := by decide +kernel
theorem dX9_play_13 : decode cX9_play 13 = .ok (.ireturn, 1) := by decide +kernel
theorem dX9_play_14 : decode cX9_play 14 = .ok (.aload_n 0, 1) := by decide +kernel
theorem dX9_play_15 : decode cX9_play 15 = .ok (.invokevirtual 146, 3) := by decide +kernel
theorem dX9_play_18 : decode cX9_play 18 = .ok (.aload_n 0, 1) := by decide +kernel
theorem dX9_play_19 : decode cX9_play 19 = .ok (.invokevirtual 223, 3) := by decide +kernel
theorem dX9_play_22 : decode cX9_play 22 = .ok (.aload_n 0, 1) := by decide +kernel
theorem dX9_play_23 : decode cX9_play 23 = .ok (.getfield 214, 3) := by decide +kernel
theorem dX9_play_26 : decode cX9_play 26 = .ok (.ireturn, 1) := by decide +kernel
theorem dL_law_0 : decode cL_law 0 = .ok (.new 7, 3) := by decide +kernel
theorem dL_law_3 : decode cL_law 3 = .ok (.dup, 1) := by decide +kernel
theorem dL_law_4 : decode cL_law 4 = .ok (.invokespecial 9, 3) := by decide +kernel
theorem dL_law_7 : decode cL_law 7 = .ok (.astore_n 1, 1) := by decide +kernel
theorem dL_law_8 : decode cL_law 8 = .ok (.new 10, 3) := by decide +kernel
theorem dL_law_11 : decode cL_law 11 = .ok (.dup, 1) := by decide +kernel
theorem dL_law_12 : decode cL_law 12 = .ok (.invokespecial 12, 3) := by decide +kernel
theorem dL_law_15 : decode cL_law 15 = .ok (.astore_n 2, 1) := by decide +kernel
theorem dL_law_16 : decode cL_law 16 = .ok (.iconst 0, 1) := by decide +kernel
theorem dL_law_17 : decode cL_law 17 = .ok (.istore_n 3, 1) := by decide +kernel
theorem dL_law_18 : decode cL_law 18 = .ok (.iload_n 3, 1) := by decide +kernel
theorem dL_law_19 : decode cL_law 19 = .ok (.aload_n 0, 1) := by decide +kernel
theorem dL_law_20 : decode cL_law 20 = .ok (.arraylength, 1) := by decide +kernel
theorem dL_law_21 : decode cL_law 21 = .ok (.iconst 5, 1) := by decide +kernel
theorem dL_law_22 : decode cL_law 22 = .ok (.isub, 1) := by decide +kernel
theorem dL_law_23 : decode cL_law 23 = .ok (.if_icmp .gt 711, 3) := by decide +kernel
theorem dL_law_26 : decode cL_law 26 = .ok (.aload_n 0, 1) := by decide +kernel
theorem dL_law_27 : decode cL_law 27 = .ok (.iload_n 3, 1) := by decide +kernel
theorem dL_law_28 : decode cL_law 28 = .ok (.iaload, 1) := by decide +kernel
theorem dL_law_29 : decode cL_law 29 = .ok (.bipush 31, 2) := by decide +kernel
theorem dL_law_31 : decode cL_law 31 = .ok (.iand, 1) := by decide +kernel
theorem dL_law_32 : decode cL_law 32 = .ok (.tableswitch 696 0 19 #[96, 139, 162, 215, 258, 301, 354, 397, 430, 443, 476, 499, 522, 555, 588, 611, 624, 647, 660, 683], 96) := by decide +kernel
theorem dL_law_128 : decode cL_law 128 = .ok (.aload_n 1, 1) := by decide +kernel
theorem dL_law_129 : decode cL_law 129 = .ok (.aload_n 0, 1) := by decide +kernel
theorem dL_law_130 : decode cL_law 130 = .ok (.iload_n 3, 1) := by decide +kernel
theorem dL_law_131 : decode cL_law 131 = .ok (.iconst 1, 1) := by decide +kernel
theorem dL_law_132 : decode cL_law 132 = .ok (.iadd, 1) := by decide +kernel
theorem dL_law_133 : decode cL_law 133 = .ok (.iaload, 1) := by decide +kernel
theorem dL_law_134 : decode cL_law 134 = .ok (.aload_n 0, 1) := by decide +kernel
theorem dL_law_135 : decode cL_law 135 = .ok (.iload_n 3, 1) := by decide +kernel
theorem dL_law_136 : decode cL_law 136 = .ok (.iconst 2, 1) := by decide +kernel
theorem dL_law_137 : decode cL_law 137 = .ok (.iadd, 1) := by decide +kernel
theorem dL_law_138 : decode cL_law 138 = .ok (.iaload, 1) := by decide +kernel
theorem dL_law_139 : decode cL_law 139 = .ok (.aload_n 0, 1) := by decide +kernel
theorem dL_law_140 : decode cL_law 140 = .ok (.iload_n 3, 1) := by decide +kernel
theorem dL_law_141 : decode cL_law 141 = .ok (.iconst 3, 1) := by decide +kernel
theorem dL_law_142 : decode cL_law 142 = .ok (.iadd, 1) := by decide +kernel
theorem dL_law_143 : decode cL_law 143 = .ok (.iaload, 1) := by decide +kernel
theorem dL_law_144 : decode cL_law 144 = .ok (.invokevirtual 13, 3) := by decide +kernel
theorem dL_law_147 : decode cL_law 147 = .ok (.aload_n 2, 1) := by decide +kernel
theorem dL_law_148 : decode cL_law 148 = .ok (.aload_n 0, 1) := by decide +kernel
theorem dL_law_149 : decode cL_law 149 = .ok (.iload_n 3, 1) := by decide +kernel
theorem dL_law_150 : decode cL_law 150 = .ok (.iconst 1, 1) := by decide +kernel
theorem dL_law_151 : decode cL_law 151 = .ok (.iadd, 1) := by decide +kernel
theorem dL_law_152 : decode cL_law 152 = .ok (.iaload, 1) := by decide +kernel
theorem dL_law_153 : decode cL_law 153 = .ok (.aload_n 0, 1) := by decide +kernel
theorem dL_law_154 : decode cL_law 154 = .ok (.iload_n 3, 1) := by decide +kernel
theorem dL_law_155 : decode cL_law 155 = .ok (.iconst 2, 1) := by decide +kernel
theorem dL_law_156 : decode cL_law 156 = .ok (.iadd, 1) := by decide +kernel
theorem dL_law_157 : decode cL_law 157 = .ok (.iaload, 1) := by decide +kernel
theorem dL_law_158 : decode cL_law 158 = .ok (.aload_n 0, 1) := by decide +kernel
theorem dL_law_159 : decode cL_law 159 = .ok (.iload_n 3, 1) := by decide +kernel
theorem dL_law_160 : decode cL_law 160 = .ok (.iconst 3, 1) := by decide +kernel
theorem dL_law_161 : decode cL_law 161 = .ok (.iadd, 1) := by decide +kernel
theorem dL_law_162 : decode cL_law 162 = .ok (.iaload, 1) := by decide +kernel
theorem dL_law_163 : decode cL_law 163 = .ok (.invokevirtual 17, 3) := by decide +kernel
theorem dL_law_166 : decode cL_law 166 = .ok (.if_icmp .eq 562, 3) := by decide +kernel
theorem dL_law_169 : decode cL_law 169 = .ok (.iconst 0, 1) := by decide +kernel
theorem dL_law_170 : decode cL_law 170 = .ok (.ireturn, 1) := by decide +kernel
theorem dL_law_171 : decode cL_law 171 = .ok (.aload_n 1, 1) := by decide +kernel
theorem dL_law_172 : decode cL_law 172 = .ok (.aload_n 0, 1) := by decide +kernel
theorem dL_law_173 : decode cL_law 173 = .ok (.iload_n 3, 1) := by decide +kernel
theorem dL_law_174 : decode cL_law 174 = .ok (.iconst 1, 1) := by decide +kernel
theorem dL_law_175 : decode cL_law 175 = .ok (.iadd, 1) := by decide +kernel
theorem dL_law_176 : decode cL_law 176 = .ok (.iaload, 1) := by decide +kernel
theorem dL_law_177 : decode cL_law 177 = .ok (.invokevirtual 18, 3) := by decide +kernel
theorem dL_law_180 : decode cL_law 180 = .ok (.aload_n 2, 1) := by decide +kernel
theorem dL_law_181 : decode cL_law 181 = .ok (.aload_n 0, 1) := by decide +kernel
theorem dL_law_182 : decode cL_law 182 = .ok (.iload_n 3, 1) := by decide +kernel
theorem dL_law_183 : decode cL_law 183 = .ok (.iconst 1, 1) := by decide +kernel
theorem dL_law_184 : decode cL_law 184 = .ok (.iadd, 1) := by decide +kernel
theorem dL_law_185 : decode cL_law 185 = .ok (.iaload, 1) := by decide +kernel
theorem dL_law_186 : decode cL_law 186 = .ok (.invokevirtual 22, 3) := by decide +kernel
theorem dL_law_189 : decode cL_law 189 = .ok (.if_icmp .eq 539, 3) := by decide +kernel
theorem dL_law_192 : decode cL_law 192 = .ok (.iconst 0, 1) := by decide +kernel
theorem dL_law_193 : decode cL_law 193 = .ok (.ireturn, 1) := by decide +kernel
theorem dL_law_194 : decode cL_law 194 = .ok (.aload_n 1, 1) := by decide +kernel
theorem dL_law_195 : decode cL_law 195 = .ok (.aload_n 0, 1) := by decide +kernel
theorem dL_law_196 : decode cL_law 196 = .ok (.iload_n 3, 1) := by decide +kernel
theorem dL_law_197 : decode cL_law 197 = .ok (.iconst 1, 1) := by decide +kernel
theorem dL_law_198 : decode cL_law 198 = .ok (.iadd, 1) := by decide +kernel
theorem dL_law_199 : decode cL_law 199 = .ok (.iaload, 1) := by decide +kernel
theorem dL_law_200 : decode cL_law 200 = .ok (.aload_n 0, 1) := by decide +kernel
theorem dL_law_201 : decode cL_law 201 = .ok (.iload_n 3, 1) := by decide +kernel
theorem dL_law_202 : decode cL_law 202 = .ok (.iconst 2, 1) := by decide +kernel
theorem dL_law_203 : decode cL_law 203 = .ok (.iadd, 1) := by decide +kernel
theorem dL_law_204 : decode cL_law 204 = .ok (.iaload, 1) := by decide +kernel
theorem dL_law_205 : decode cL_law 205 = .ok (.aload_n 0, 1) := by decide +kernel
theorem dL_law_206 : decode cL_law 206 = .ok (.iload_n 3, 1) := by decide +kernel
theorem dL_law_207 : decode cL_law 207 = .ok (.iconst 3, 1) := by decide +kernel
theorem dL_law_208 : decode cL_law 208 = .ok (.iadd, 1) := by decide +kernel
theorem dL_law_209 : decode cL_law 209 = .ok (.iaload, 1) := by decide +kernel
theorem dL_law_210 : decode cL_law 210 = .ok (.aload_n 0, 1) := by decide +kernel
theorem dL_law_211 : decode cL_law 211 = .ok (.iload_n 3, 1) := by decide +kernel
theorem dL_law_212 : decode cL_law 212 = .ok (.iconst 4, 1) := by decide +kernel
theorem dL_law_213 : decode cL_law 213 = .ok (.iadd, 1) := by decide +kernel
theorem dL_law_214 : decode cL_law 214 = .ok (.iaload, 1) := by decide +kernel
theorem dL_law_215 : decode cL_law 215 = .ok (.invokevirtual 23, 3) := by decide +kernel
theorem dL_law_218 : decode cL_law 218 = .ok (.aload_n 2, 1) := by decide +kernel
theorem dL_law_219 : decode cL_law 219 = .ok (.aload_n 0, 1) := by decide +kernel
theorem dL_law_220 : decode cL_law 220 = .ok (.iload_n 3, 1) := by decide +kernel
theorem dL_law_221 : decode cL_law 221 = .ok (.iconst 1, 1) := by decide +kernel
theorem dL_law_222 : decode cL_law 222 = .ok (.iadd, 1) := by decide +kernel
theorem dL_law_223 : decode cL_law 223 = .ok (.iaload, 1) := by decide +kernel
theorem dL_law_224 : decode cL_law 224 = .ok (.aload_n 0, 1) := by decide +kernel
theorem dL_law_225 : decode cL_law 225 = .ok (.iload_n 3, 1) := by decide +kernel
theorem dL_law_226 : decode cL_law 226 = .ok (.iconst 2, 1) := by decide +kernel
theorem dL_law_227 : decode cL_law 227 = .ok (.iadd, 1) := by decide +kernel
theorem dL_law_228 : decode cL_law 228 = .ok (.iaload, 1) := by decide +kernel
theorem dL_law_229 : decode cL_law 229 = .ok (.aload_n 0, 1) := by decide +kernel
theorem dL_law_230 : decode cL_law 230 = .ok (.iload_n 3, 1) := by decide +kernel
theorem dL_law_231 : decode cL_law 231 = .ok (.iconst 3, 1) := by decide +kernel
theorem dL_law_232 : decode cL_law 232 = .ok (.iadd, 1) := by decide +kernel
theorem dL_law_233 : decode cL_law 233 = .ok (.iaload, 1) := by decide +kernel
theorem dL_law_234 : decode cL_law 234 = .ok (.aload_n 0, 1) := by decide +kernel
theorem dL_law_235 : decode cL_law 235 = .ok (.iload_n 3, 1) := by decide +kernel
theorem dL_law_236 : decode cL_law 236 = .ok (.iconst 4, 1) := by decide +kernel
theorem dL_law_237 : decode cL_law 237 = .ok (.iadd, 1) := by decide +kernel
theorem dL_law_238 : decode cL_law 238 = .ok (.iaload, 1) := by decide +kernel
theorem dL_law_239 : decode cL_law 239 = .ok (.invokevirtual 27, 3) := by decide +kernel
theorem dL_law_242 : decode cL_law 242 = .ok (.if_icmp .eq 486, 3) := by decide +kernel
theorem dL_law_245 : decode cL_law 245 = .ok (.iconst 0, 1) := by decide +kernel
theorem dL_law_246 : decode cL_law 246 = .ok (.ireturn, 1) := by decide +kernel
theorem dL_law_247 : decode cL_law 247 = .ok (.aload_n 1, 1) := by decide +kernel
theorem dL_law_248 : decode cL_law 248 = .ok (.aload_n 0, 1) := by decide +kernel
theorem dL_law_249 : decode cL_law 249 = .ok (.iload_n 3, 1) := by decide +kernel
theorem dL_law_250 : decode cL_law 250 = .ok (.iconst 1, 1) := by decide +kernel
theorem dL_law_251 : decode cL_law 251 = .ok (.iadd, 1) := by decide +kernel
theorem dL_law_252 : decode cL_law 252 = .ok (.iaload, 1) := by decide +kernel
theorem dL_law_253 : decode cL_law 253 = .ok (.aload_n 0, 1) := by decide +kernel
theorem dL_law_254 : decode cL_law 254 = .ok (.iload_n 3, 1) := by decide +kernel
theorem dL_law_255 : decode cL_law 255 = .ok (.iconst 2, 1) := by decide +kernel
theorem dL_law_256 : decode cL_law 256 = .ok (.iadd, 1) := by decide +kernel
theorem dL_law_257 : decode cL_law 257 = .ok (.iaload, 1) := by decide +kernel
theorem dL_law_258 : decode cL_law 258 = .ok (.aload_n 0, 1) := by decide +kernel
theorem dL_law_259 : decode cL_law 259 = .ok (.iload_n 3, 1) := by decide +kernel
theorem dL_law_260 : decode cL_law 260 = .ok (.iconst 3, 1) := by decide +kernel
theorem dL_law_261 : decode cL_law 261 = .ok (.iadd, 1) := by decide +kernel
theorem dL_law_262 : decode cL_law 262 = .ok (.iaload, 1) := by decide +kernel
theorem dL_law_263 : decode cL_law 263 = .ok (.invokevirtual 28, 3) := by decide +kernel
theorem dL_law_266 : decode cL_law 266 = .ok (.aload_n 2, 1) := by decide +kernel
theorem dL_law_267 : decode cL_law 267 = .ok (.aload_n 0, 1) := by decide +kernel
theorem dL_law_268 : decode cL_law 268 = .ok (.iload_n 3, 1) := by decide +kernel
theorem dL_law_269 : decode cL_law 269 = .ok (.iconst 1, 1) := by decide +kernel
theorem dL_law_270 : decode cL_law 270 = .ok (.iadd, 1) := by decide +kernel
theorem dL_law_271 : decode cL_law 271 = .ok (.iaload, 1) := by decide +kernel
theorem dL_law_272 : decode cL_law 272 = .ok (.aload_n 0, 1) := by decide +kernel
theorem dL_law_273 : decode cL_law 273 = .ok (.iload_n 3, 1) := by decide +kernel
theorem dL_law_274 : decode cL_law 274 = .ok (.iconst 2, 1) := by decide +kernel
theorem dL_law_275 : decode cL_law 275 = .ok (.iadd, 1) := by decide +kernel
theorem dL_law_276 : decode cL_law 276 = .ok (.iaload, 1) := by decide +kernel
theorem dL_law_277 : decode cL_law 277 = .ok (.aload_n 0, 1) := by decide +kernel
theorem dL_law_278 : decode cL_law 278 = .ok (.iload_n 3, 1) := by decide +kernel
theorem dL_law_279 : decode cL_law 279 = .ok (.iconst 3, 1) := by decide +kernel
theorem dL_law_280 : decode cL_law 280 = .ok (.iadd, 1) := by decide +kernel
theorem dL_law_281 : decode cL_law 281 = .ok (.iaload, 1) := by decide +kernel
theorem dL_law_282 : decode cL_law 282 = .ok (.invokevirtual 31, 3) := by decide +kernel
theorem dL_law_285 : decode cL_law 285 = .ok (.if_icmp .eq 443, 3) := by decide +kernel
theorem dL_law_288 : decode cL_law 288 = .ok (.iconst 0, 1) := by decide +kernel
theorem dL_law_289 : decode cL_law 289 = .ok (.ireturn, 1) := by decide +kernel
theorem dL_law_290 : decode cL_law 290 = .ok (.aload_n 1, 1) := by decide +kernel
theorem dL_law_291 : decode cL_law 291 = .ok (.aload_n 0, 1) := by decide +kernel
theorem dL_law_292 : decode cL_law 292 = .ok (.iload_n 3, 1) := by decide +kernel
theorem dL_law_293 : decode cL_law 293 = .ok (.iconst 1, 1) := by decide +kernel
theorem dL_law_294 : decode cL_law 294 = .ok (.iadd, 1) := by decide +kernel
theorem dL_law_295 : decode cL_law 295 = .ok (.iaload, 1) := by decide +kernel
theorem dL_law_296 : decode cL_law 296 = .ok (.aload_n 0, 1) := by decide +kernel
theorem dL_law_297 : decode cL_law 297 = .ok (.iload_n 3, 1) := by decide +kernel
theorem dL_law_298 : decode cL_law 298 = .ok (.iconst 2, 1) := by decide +kernel
theorem dL_law_299 : decode cL_law 299 = .ok (.iadd, 1) := by decide +kernel
theorem dL_law_300 : decode cL_law 300 = .ok (.iaload, 1) := by decide +kernel
theorem dL_law_301 : decode cL_law 301 = .ok (.aload_n 0, 1) := by decide +kernel
theorem dL_law_302 : decode cL_law 302 = .ok (.iload_n 3, 1) := by decide +kernel
theorem dL_law_303 : decode cL_law 303 = .ok (.iconst 3, 1) := by decide +kernel
theorem dL_law_304 : decode cL_law 304 = .ok (.iadd, 1) := by decide +kernel
theorem dL_law_305 : decode cL_law 305 = .ok (.iaload, 1) := by decide +kernel
theorem dL_law_306 : decode cL_law 306 = .ok (.invokevirtual 32, 3) := by decide +kernel
theorem dL_law_309 : decode cL_law 309 = .ok (.aload_n 2, 1) := by decide +kernel
theorem dL_law_310 : decode cL_law 310 = .ok (.aload_n 0, 1) := by decide +kernel
theorem dL_law_311 : decode cL_law 311 = .ok (.iload_n 3, 1) := by decide +kernel
theorem dL_law_312 : decode cL_law 312 = .ok (.iconst 1, 1) := by decide +kernel
theorem dL_law_313 : decode cL_law 313 = .ok (.iadd, 1) := by decide +kernel
theorem dL_law_314 : decode cL_law 314 = .ok (.iaload, 1) := by decide +kernel
theorem dL_law_315 : decode cL_law 315 = .ok (.aload_n 0, 1) := by decide +kernel
theorem dL_law_316 : decode cL_law 316 = .ok (.iload_n 3, 1) := by decide +kernel
theorem dL_law_317 : decode cL_law 317 = .ok (.iconst 2, 1) := by decide +kernel
theorem dL_law_318 : decode cL_law 318 = .ok (.iadd, 1) := by decide +kernel
theorem dL_law_319 : decode cL_law 319 = .ok (.iaload, 1) := by decide +kernel
theorem dL_law_320 : decode cL_law 320 = .ok (.aload_n 0, 1) := by decide +kernel
theorem dL_law_321 : decode cL_law 321 = .ok (.iload_n 3, 1) := by decide +kernel
theorem dL_law_322 : decode cL_law 322 = .ok (.iconst 3, 1) := by decide +kernel
theorem dL_law_323 : decode cL_law 323 = .ok (.iadd, 1) := by decide +kernel
theorem dL_law_324 : decode cL_law 324 = .ok (.iaload, 1) := by decide +kernel
theorem dL_law_325 : decode cL_law 325 = .ok (.invokevirtual 35, 3) := by decide +kernel
theorem dL_law_328 : decode cL_law 328 = .ok (.if_icmp .eq 400, 3) := by decide +kernel
theorem dL_law_331 : decode cL_law 331 = .ok (.iconst 0, 1) := by decide +kernel
theorem dL_law_332 : decode cL_law 332 = .ok (.ireturn, 1) := by decide +kernel
theorem dL_law_333 : decode cL_law 333 = .ok (.aload_n 1, 1) := by decide +kernel
theorem dL_law_334 : decode cL_law 334 = .ok (.aload_n 0, 1) := by decide +kernel
theorem dL_law_335 : decode cL_law 335 = .ok (.iload_n 3, 1) := by decide +kernel
theorem dL_law_336 : decode cL_law 336 = .ok (.iconst 1, 1) := by decide +kernel
theorem dL_law_337 : decode cL_law 337 = .ok (.iadd, 1) := by decide +kernel
theorem dL_law_338 : decode cL_law 338 = .ok (.iaload, 1) := by decide +kernel
theorem dL_law_339 : decode cL_law 339 = .ok (.aload_n 0, 1) := by decide +kernel
theorem dL_law_340 : decode cL_law 340 = .ok (.iload_n 3, 1) := by decide +kernel
theorem dL_law_341 : decode cL_law 341 = .ok (.iconst 2, 1) := by decide +kernel
theorem dL_law_342 : decode cL_law 342 = .ok (.iadd, 1) := by decide +kernel
theorem dL_law_343 : decode cL_law 343 = .ok (.iaload, 1) := by decide +kernel
theorem dL_law_344 : decode cL_law 344 = .ok (.aload_n 0, 1) := by decide +kernel
theorem dL_law_345 : decode cL_law 345 = .ok (.iload_n 3, 1) := by decide +kernel
theorem dL_law_346 : decode cL_law 346 = .ok (.iconst 3, 1) := by decide +kernel
theorem dL_law_347 : decode cL_law 347 = .ok (.iadd, 1) := by decide +kernel
theorem dL_law_348 : decode cL_law 348 = .ok (.iaload, 1) := by decide +kernel
theorem dL_law_349 : decode cL_law 349 = .ok (.aload_n 0, 1) := by decide +kernel
theorem dL_law_350 : decode cL_law 350 = .ok (.iload_n 3, 1) := by decide +kernel
theorem dL_law_351 : decode cL_law 351 = .ok (.iconst 4, 1) := by decide +kernel
theorem dL_law_352 : decode cL_law 352 = .ok (.iadd, 1) := by decide +kernel
theorem dL_law_353 : decode cL_law 353 = .ok (.iaload, 1) := by decide +kernel
theorem dL_law_354 : decode cL_law 354 = .ok (.invokevirtual 36, 3) := by decide +kernel
theorem dL_law_357 : decode cL_law 357 = .ok (.aload_n 2, 1) := by decide +kernel
theorem dL_law_358 : decode cL_law 358 = .ok (.aload_n 0, 1) := by decide +kernel
theorem dL_law_359 : decode cL_law 359 = .ok (.iload_n 3, 1) := by decide +kernel
theorem dL_law_360 : decode cL_law 360 = .ok (.iconst 1, 1) := by decide +kernel
theorem dL_law_361 : decode cL_law 361 = .ok (.iadd, 1) := by decide +kernel
theorem dL_law_362 : decode cL_law 362 = .ok (.iaload, 1) := by decide +kernel
theorem dL_law_363 : decode cL_law 363 = .ok (.aload_n 0, 1) := by decide +kernel
theorem dL_law_364 : decode cL_law 364 = .ok (.iload_n 3, 1) := by decide +kernel
theorem dL_law_365 : decode cL_law 365 = .ok (.iconst 2, 1) := by decide +kernel
theorem dL_law_366 : decode cL_law 366 = .ok (.iadd, 1) := by decide +kernel
theorem dL_law_367 : decode cL_law 367 = .ok (.iaload, 1) := by decide +kernel
theorem dL_law_368 : decode cL_law 368 = .ok (.aload_n 0, 1) := by decide +kernel
theorem dL_law_369 : decode cL_law 369 = .ok (.iload_n 3, 1) := by decide +kernel
theorem dL_law_370 : decode cL_law 370 = .ok (.iconst 3, 1) := by decide +kernel
theorem dL_law_371 : decode cL_law 371 = .ok (.iadd, 1) := by decide +kernel
theorem dL_law_372 : decode cL_law 372 = .ok (.iaload, 1) := by decide +kernel
theorem dL_law_373 : decode cL_law 373 = .ok (.aload_n 0, 1) := by decide +kernel
theorem dL_law_374 : decode cL_law 374 = .ok (.iload_n 3, 1) := by decide +kernel
theorem dL_law_375 : decode cL_law 375 = .ok (.iconst 4, 1) := by decide +kernel
theorem dL_law_376 : decode cL_law 376 = .ok (.iadd, 1) := by decide +kernel
theorem dL_law_377 : decode cL_law 377 = .ok (.iaload, 1) := by decide +kernel
theorem dL_law_378 : decode cL_law 378 = .ok (.invokevirtual 39, 3) := by decide +kernel
theorem dL_law_381 : decode cL_law 381 = .ok (.if_icmp .eq 347, 3) := by decide +kernel
theorem dL_law_384 : decode cL_law 384 = .ok (.iconst 0, 1) := by decide +kernel
theorem dL_law_385 : decode cL_law 385 = .ok (.ireturn, 1) := by decide +kernel
theorem dL_law_386 : decode cL_law 386 = .ok (.aload_n 1, 1) := by decide +kernel
theorem dL_law_387 : decode cL_law 387 = .ok (.aload_n 0, 1) := by decide +kernel
theorem dL_law_388 : decode cL_law 388 = .ok (.iload_n 3, 1) := by decide +kernel
theorem dL_law_389 : decode cL_law 389 = .ok (.iconst 1, 1) := by decide +kernel
theorem dL_law_390 : decode cL_law 390 = .ok (.iadd, 1) := by decide +kernel
theorem dL_law_391 : decode cL_law 391 = .ok (.iaload, 1) := by decide +kernel
theorem dL_law_392 : decode cL_law 392 = .ok (.aload_n 0, 1) := by decide +kernel
theorem dL_law_393 : decode cL_law 393 = .ok (.iload_n 3, 1) := by decide +kernel
theorem dL_law_394 : decode cL_law 394 = .ok (.iconst 2, 1) := by decide +kernel
theorem dL_law_395 : decode cL_law 395 = .ok (.iadd, 1) := by decide +kernel
theorem dL_law_396 : decode cL_law 396 = .ok (.iaload, 1) := by decide +kernel
theorem dL_law_397 : decode cL_law 397 = .ok (.aload_n 0, 1) := by decide +kernel
theorem dL_law_398 : decode cL_law 398 = .ok (.iload_n 3, 1) := by decide +kernel
theorem dL_law_399 : decode cL_law 399 = .ok (.iconst 3, 1) := by decide +kernel
theorem dL_law_400 : decode cL_law 400 = .ok (.iadd, 1) := by decide +kernel
theorem dL_law_401 : decode cL_law 401 = .ok (.iaload, 1) := by decide +kernel
theorem dL_law_402 : decode cL_law 402 = .ok (.invokevirtual 40, 3) := by decide +kernel
theorem dL_law_405 : decode cL_law 405 = .ok (.aload_n 2, 1) := by decide +kernel
theorem dL_law_406 : decode cL_law 406 = .ok (.aload_n 0, 1) := by decide +kernel
theorem dL_law_407 : decode cL_law 407 = .ok (.iload_n 3, 1) := by decide +kernel
theorem dL_law_408 : decode cL_law 408 = .ok (.iconst 1, 1) := by decide +kernel
theorem dL_law_409 : decode cL_law 409 = .ok (.iadd, 1) := by decide +kernel
theorem dL_law_410 : decode cL_law 410 = .ok (.iaload, 1) := by decide +kernel
theorem dL_law_411 : decode cL_law 411 = .ok (.aload_n 0, 1) := by decide +kernel
theorem dL_law_412 : decode cL_law 412 = .ok (.iload_n 3, 1) := by decide +kernel
theorem dL_law_413 : decode cL_law 413 = .ok (.iconst 2, 1) := by decide +kernel
theorem dL_law_414 : decode cL_law 414 = .ok (.iadd, 1) := by decide +kernel
theorem dL_law_415 : decode cL_law 415 = .ok (.iaload, 1) := by decide +kernel
theorem dL_law_416 : decode cL_law 416 = .ok (.aload_n 0, 1) := by decide +kernel
theorem dL_law_417 : decode cL_law 417 = .ok (.iload_n 3, 1) := by decide +kernel
theorem dL_law_418 : decode cL_law 418 = .ok (.iconst 3, 1) := by decide +kernel
theorem dL_law_419 : decode cL_law 419 = .ok (.iadd, 1) := by decide +kernel
theorem dL_law_420 : decode cL_law 420 = .ok (.iaload, 1) := by decide +kernel
theorem dL_law_421 : decode cL_law 421 = .ok (.invokevirtual 43, 3) := by decide +kernel
theorem dL_law_424 : decode cL_law 424 = .ok (.if_icmp .eq 304, 3) := by decide +kernel
theorem dL_law_427 : decode cL_law 427 = .ok (.iconst 0, 1) := by decide +kernel
theorem dL_law_428 : decode cL_law 428 = .ok (.ireturn, 1) := by decide +kernel
theorem dL_law_429 : decode cL_law 429 = .ok (.aload_n 1, 1) := by decide +kernel
theorem dL_law_430 : decode cL_law 430 = .ok (.aload_n 0, 1) := by decide +kernel
theorem dL_law_431 : decode cL_law 431 = .ok (.iload_n 3, 1) := by decide +kernel
theorem dL_law_432 : decode cL_law 432 = .ok (.iconst 1, 1) := by decide +kernel
theorem dL_law_433 : decode cL_law 433 = .ok (.iadd, 1) := by decide +kernel
theorem dL_law_434 : decode cL_law 434 = .ok (.iaload, 1) := by decide +kernel
theorem dL_law_435 : decode cL_law 435 = .ok (.aload_n 0, 1) := by decide +kernel
theorem dL_law_436 : decode cL_law 436 = .ok (.iload_n 3, 1) := by decide +kernel
theorem dL_law_437 : decode cL_law 437 = .ok (.iconst 2, 1) := by decide +kernel
theorem dL_law_438 : decode cL_law 438 = .ok (.iadd, 1) := by decide +kernel
theorem dL_law_439 : decode cL_law 439 = .ok (.iaload, 1) := by decide +kernel
theorem dL_law_440 : decode cL_law 440 = .ok (.invokevirtual 44, 3) := by decide +kernel
theorem dL_law_443 : decode cL_law 443 = .ok (.aload_n 2, 1) := by decide +kernel
theorem dL_law_444 : decode cL_law 444 = .ok (.aload_n 0, 1) := by decide +kernel
theorem dL_law_445 : decode cL_law 445 = .ok (.iload_n 3, 1) := by decide +kernel
theorem dL_law_446 : decode cL_law 446 = .ok (.iconst 1, 1) := by decide +kernel
theorem dL_law_447 : decode cL_law 447 = .ok (.iadd, 1) := by decide +kernel
theorem dL_law_448 : decode cL_law 448 = .ok (.iaload, 1) := by decide +kernel
theorem dL_law_449 : decode cL_law 449 = .ok (.aload_n 0, 1) := by decide +kernel
theorem dL_law_450 : decode cL_law 450 = .ok (.iload_n 3, 1) := by decide +kernel
theorem dL_law_451 : decode cL_law 451 = .ok (.iconst 2, 1) := by decide +kernel
theorem dL_law_452 : decode cL_law 452 = .ok (.iadd, 1) := by decide +kernel
theorem dL_law_453 : decode cL_law 453 = .ok (.iaload, 1) := by decide +kernel
theorem dL_law_454 : decode cL_law 454 = .ok (.invokevirtual 48, 3) := by decide +kernel
theorem dL_law_457 : decode cL_law 457 = .ok (.if_icmp .eq 271, 3) := by decide +kernel
theorem dL_law_460 : decode cL_law 460 = .ok (.iconst 0, 1) := by decide +kernel
theorem dL_law_461 : decode cL_law 461 = .ok (.ireturn, 1) := by decide +kernel
theorem dL_law_462 : decode cL_law 462 = .ok (.aload_n 1, 1) := by decide +kernel
theorem dL_law_463 : decode cL_law 463 = .ok (.invokevirtual 49, 3) := by decide +kernel
theorem dL_law_466 : decode cL_law 466 = .ok (.aload_n 2, 1) := by decide +kernel
theorem dL_law_467 : decode cL_law 467 = .ok (.invokevirtual 53, 3) := by decide +kernel
theorem dL_law_470 : decode cL_law 470 = .ok (.if_icmp .eq 258, 3) := by decide +kernel
theorem dL_law_473 : decode cL_law 473 = .ok (.iconst 0, 1) := by decide +kernel
theorem dL_law_474 : decode cL_law 474 = .ok (.ireturn, 1) := by decide +kernel
theorem dL_law_475 : decode cL_law 475 = .ok (.aload_n 1, 1) := by decide +kernel
theorem dL_law_476 : decode cL_law 476 = .ok (.aload_n 0, 1) := by decide +kernel
theorem dL_law_477 : decode cL_law 477 = .ok (.iload_n 3, 1) := by decide +kernel
theorem dL_law_478 : decode cL_law 478 = .ok (.iconst 1, 1) := by decide +kernel
theorem dL_law_479 : decode cL_law 479 = .ok (.iadd, 1) := by decide +kernel
theorem dL_law_480 : decode cL_law 480 = .ok (.iaload, 1) := by decide +kernel
theorem dL_law_481 : decode cL_law 481 = .ok (.aload_n 0, 1) := by decide +kernel
theorem dL_law_482 : decode cL_law 482 = .ok (.iload_n 3, 1) := by decide +kernel
theorem dL_law_483 : decode cL_law 483 = .ok (.iconst 2, 1) := by decide +kernel
theorem dL_law_484 : decode cL_law 484 = .ok (.iadd, 1) := by decide +kernel
theorem dL_law_485 : decode cL_law 485 = .ok (.iaload, 1) := by decide +kernel
theorem dL_law_486 : decode cL_law 486 = .ok (.invokevirtual 54, 3) := by decide +kernel
theorem dL_law_489 : decode cL_law 489 = .ok (.aload_n 2, 1) := by decide +kernel
theorem dL_law_490 : decode cL_law 490 = .ok (.aload_n 0, 1) := by decide +kernel
theorem dL_law_491 : decode cL_law 491 = .ok (.iload_n 3, 1) := by decide +kernel
theorem dL_law_492 : decode cL_law 492 = .ok (.iconst 1, 1) := by decide +kernel
theorem dL_law_493 : decode cL_law 493 = .ok (.iadd, 1) := by decide +kernel
theorem dL_law_494 : decode cL_law 494 = .ok (.iaload, 1) := by decide +kernel
theorem dL_law_495 : decode cL_law 495 = .ok (.aload_n 0, 1) := by decide +kernel
theorem dL_law_496 : decode cL_law 496 = .ok (.iload_n 3, 1) := by decide +kernel
theorem dL_law_497 : decode cL_law 497 = .ok (.iconst 2, 1) := by decide +kernel
theorem dL_law_498 : decode cL_law 498 = .ok (.iadd, 1) := by decide +kernel
theorem dL_law_499 : decode cL_law 499 = .ok (.iaload, 1) := by decide +kernel
theorem dL_law_500 : decode cL_law 500 = .ok (.invokevirtual 57, 3) := by decide +kernel
theorem dL_law_503 : decode cL_law 503 = .ok (.if_icmp .eq 225, 3) := by decide +kernel
theorem dL_law_506 : decode cL_law 506 = .ok (.iconst 0, 1) := by decide +kernel
theorem dL_law_507 : decode cL_law 507 = .ok (.ireturn, 1) := by decide +kernel
theorem dL_law_508 : decode cL_law 508 = .ok (.aload_n 1, 1) := by decide +kernel
theorem dL_law_509 : decode cL_law 509 = .ok (.aload_n 0, 1) := by decide +kernel
theorem dL_law_510 : decode cL_law 510 = .ok (.iload_n 3, 1) := by decide +kernel
theorem dL_law_511 : decode cL_law 511 = .ok (.iconst 1, 1) := by decide +kernel
theorem dL_law_512 : decode cL_law 512 = .ok (.iadd, 1) := by decide +kernel
theorem dL_law_513 : decode cL_law 513 = .ok (.iaload, 1) := by decide +kernel
theorem dL_law_514 : decode cL_law 514 = .ok (.invokevirtual 58, 3) := by decide +kernel
theorem dL_law_517 : decode cL_law 517 = .ok (.aload_n 2, 1) := by decide +kernel
theorem dL_law_518 : decode cL_law 518 = .ok (.aload_n 0, 1) := by decide +kernel
theorem dL_law_519 : decode cL_law 519 = .ok (.iload_n 3, 1) := by decide +kernel
theorem dL_law_520 : decode cL_law 520 = .ok (.iconst 1, 1) := by decide +kernel
theorem dL_law_521 : decode cL_law 521 = .ok (.iadd, 1) := by decide +kernel
theorem dL_law_522 : decode cL_law 522 = .ok (.iaload, 1) := by decide +kernel
theorem dL_law_523 : decode cL_law 523 = .ok (.invokevirtual 61, 3) := by decide +kernel
theorem dL_law_526 : decode cL_law 526 = .ok (.if_icmp .eq 202, 3) := by decide +kernel
theorem dL_law_529 : decode cL_law 529 = .ok (.iconst 0, 1) := by decide +kernel
theorem dL_law_530 : decode cL_law 530 = .ok (.ireturn, 1) := by decide +kernel
theorem dL_law_531 : decode cL_law 531 = .ok (.aload_n 1, 1) := by decide +kernel
theorem dL_law_532 : decode cL_law 532 = .ok (.aload_n 0, 1) := by decide +kernel
theorem dL_law_533 : decode cL_law 533 = .ok (.iload_n 3, 1) := by decide +kernel
theorem dL_law_534 : decode cL_law 534 = .ok (.iconst 1, 1) := by decide +kernel
theorem dL_law_535 : decode cL_law 535 = .ok (.iadd, 1) := by decide +kernel
theorem dL_law_536 : decode cL_law 536 = .ok (.iaload, 1) := by decide +kernel
theorem dL_law_537 : decode cL_law 537 = .ok (.invokevirtual 62, 3) := by decide +kernel
theorem dL_law_540 : decode cL_law 540 = .ok (.aload_n 2, 1) := by decide +kernel
theorem dL_law_541 : decode cL_law 541 = .ok (.aload_n 0, 1) := by decide +kernel
theorem dL_law_542 : decode cL_law 542 = .ok (.iload_n 3, 1) := by decide +kernel
theorem dL_law_543 : decode cL_law 543 = .ok (.iconst 1, 1) := by decide +kernel
theorem dL_law_544 : decode cL_law 544 = .ok (.iadd, 1) := by decide +kernel
theorem dL_law_545 : decode cL_law 545 = .ok (.iaload, 1) := by decide +kernel
theorem dL_law_546 : decode cL_law 546 = .ok (.invokevirtual 65, 3) := by decide +kernel
theorem dL_law_549 : decode cL_law 549 = .ok (.if_icmp .eq 179, 3) := by decide +kernel
theorem dL_law_552 : decode cL_law 552 = .ok (.iconst 0, 1) := by decide +kernel
theorem dL_law_553 : decode cL_law 553 = .ok (.ireturn, 1) := by decide +kernel
theorem dL_law_554 : decode cL_law 554 = .ok (.aload_n 1, 1) := by decide +kernel
theorem dL_law_555 : decode cL_law 555 = .ok (.aload_n 0, 1) := by decide +kernel
theorem dL_law_556 : decode cL_law 556 = .ok (.iload_n 3, 1) := by decide +kernel
theorem dL_law_557 : decode cL_law 557 = .ok (.iconst 1, 1) := by decide +kernel
theorem dL_law_558 : decode cL_law 558 = .ok (.iadd, 1) := by decide +kernel
theorem dL_law_559 : decode cL_law 559 = .ok (.iaload, 1) := by decide +kernel
theorem dL_law_560 : decode cL_law 560 = .ok (.aload_n 0, 1) := by decide +kernel
theorem dL_law_561 : decode cL_law 561 = .ok (.iload_n 3, 1) := by decide +kernel
theorem dL_law_562 : decode cL_law 562 = .ok (.iconst 2, 1) := by decide +kernel
theorem dL_law_563 : decode cL_law 563 = .ok (.iadd, 1) := by decide +kernel
theorem dL_law_564 : decode cL_law 564 = .ok (.iaload, 1) := by decide +kernel
theorem dL_law_565 : decode cL_law 565 = .ok (.invokevirtual 66, 3) := by decide +kernel
theorem dL_law_568 : decode cL_law 568 = .ok (.aload_n 2, 1) := by decide +kernel
theorem dL_law_569 : decode cL_law 569 = .ok (.aload_n 0, 1) := by decide +kernel
theorem dL_law_570 : decode cL_law 570 = .ok (.iload_n 3, 1) := by decide +kernel
theorem dL_law_571 : decode cL_law 571 = .ok (.iconst 1, 1) := by decide +kernel
theorem dL_law_572 : decode cL_law 572 = .ok (.iadd, 1) := by decide +kernel
theorem dL_law_573 : decode cL_law 573 = .ok (.iaload, 1) := by decide +kernel
theorem dL_law_574 : decode cL_law 574 = .ok (.aload_n 0, 1) := by decide +kernel
theorem dL_law_575 : decode cL_law 575 = .ok (.iload_n 3, 1) := by decide +kernel
theorem dL_law_576 : decode cL_law 576 = .ok (.iconst 2, 1) := by decide +kernel
theorem dL_law_577 : decode cL_law 577 = .ok (.iadd, 1) := by decide +kernel
theorem dL_law_578 : decode cL_law 578 = .ok (.iaload, 1) := by decide +kernel
theorem dL_law_579 : decode cL_law 579 = .ok (.invokevirtual 69, 3) := by decide +kernel
theorem dL_law_582 : decode cL_law 582 = .ok (.if_icmp .eq 146, 3) := by decide +kernel
theorem dL_law_585 : decode cL_law 585 = .ok (.iconst 0, 1) := by decide +kernel
theorem dL_law_586 : decode cL_law 586 = .ok (.ireturn, 1) := by decide +kernel
theorem dL_law_587 : decode cL_law 587 = .ok (.aload_n 1, 1) := by decide +kernel
theorem dL_law_588 : decode cL_law 588 = .ok (.aload_n 0, 1) := by decide +kernel
theorem dL_law_589 : decode cL_law 589 = .ok (.iload_n 3, 1) := by decide +kernel
theorem dL_law_590 : decode cL_law 590 = .ok (.iconst 1, 1) := by decide +kernel
theorem dL_law_591 : decode cL_law 591 = .ok (.iadd, 1) := by decide +kernel
theorem dL_law_592 : decode cL_law 592 = .ok (.iaload, 1) := by decide +kernel
theorem dL_law_593 : decode cL_law 593 = .ok (.aload_n 0, 1) := by decide +kernel
theorem dL_law_594 : decode cL_law 594 = .ok (.iload_n 3, 1) := by decide +kernel
theorem dL_law_595 : decode cL_law 595 = .ok (.iconst 2, 1) := by decide +kernel
theorem dL_law_596 : decode cL_law 596 = .ok (.iadd, 1) := by decide +kernel
theorem dL_law_597 : decode cL_law 597 = .ok (.iaload, 1) := by decide +kernel
theorem dL_law_598 : decode cL_law 598 = .ok (.invokevirtual 70, 3) := by decide +kernel
theorem dL_law_601 : decode cL_law 601 = .ok (.aload_n 2, 1) := by decide +kernel
theorem dL_law_602 : decode cL_law 602 = .ok (.aload_n 0, 1) := by decide +kernel
theorem dL_law_603 : decode cL_law 603 = .ok (.iload_n 3, 1) := by decide +kernel
theorem dL_law_604 : decode cL_law 604 = .ok (.iconst 1, 1) := by decide +kernel
theorem dL_law_605 : decode cL_law 605 = .ok (.iadd, 1) := by decide +kernel
theorem dL_law_606 : decode cL_law 606 = .ok (.iaload, 1) := by decide +kernel
theorem dL_law_607 : decode cL_law 607 = .ok (.aload_n 0, 1) := by decide +kernel
theorem dL_law_608 : decode cL_law 608 = .ok (.iload_n 3, 1) := by decide +kernel
theorem dL_law_609 : decode cL_law 609 = .ok (.iconst 2, 1) := by decide +kernel
theorem dL_law_610 : decode cL_law 610 = .ok (.iadd, 1) := by decide +kernel
theorem dL_law_611 : decode cL_law 611 = .ok (.iaload, 1) := by decide +kernel
theorem dL_law_612 : decode cL_law 612 = .ok (.invokevirtual 73, 3) := by decide +kernel
theorem dL_law_615 : decode cL_law 615 = .ok (.if_icmp .eq 113, 3) := by decide +kernel
theorem dL_law_618 : decode cL_law 618 = .ok (.iconst 0, 1) := by decide +kernel
theorem dL_law_619 : decode cL_law 619 = .ok (.ireturn, 1) := by decide +kernel
theorem dL_law_620 : decode cL_law 620 = .ok (.aload_n 1, 1) := by decide +kernel
theorem dL_law_621 : decode cL_law 621 = .ok (.aload_n 0, 1) := by decide +kernel
theorem dL_law_622 : decode cL_law 622 = .ok (.iload_n 3, 1) := by decide +kernel
theorem dL_law_623 : decode cL_law 623 = .ok (.iconst 1, 1) := by decide +kernel
theorem dL_law_624 : decode cL_law 624 = .ok (.iadd, 1) := by decide +kernel
theorem dL_law_625 : decode cL_law 625 = .ok (.iaload, 1) := by decide +kernel
theorem dL_law_626 : decode cL_law 626 = .ok (.invokevirtual 74, 3) := by decide +kernel
theorem dL_law_629 : decode cL_law 629 = .ok (.aload_n 2, 1) := by decide +kernel
theorem dL_law_630 : decode cL_law 630 = .ok (.aload_n 0, 1) := by decide +kernel
theorem dL_law_631 : decode cL_law 631 = .ok (.iload_n 3, 1) := by decide +kernel
theorem dL_law_632 : decode cL_law 632 = .ok (.iconst 1, 1) := by decide +kernel
theorem dL_law_633 : decode cL_law 633 = .ok (.iadd, 1) := by decide +kernel
theorem dL_law_634 : decode cL_law 634 = .ok (.iaload, 1) := by decide +kernel
theorem dL_law_635 : decode cL_law 635 = .ok (.invokevirtual 77, 3) := by decide +kernel
theorem dL_law_638 : decode cL_law 638 = .ok (.if_icmp .eq 90, 3) := by decide +kernel
theorem dL_law_641 : decode cL_law 641 = .ok (.iconst 0, 1) := by decide +kernel
theorem dL_law_642 : decode cL_law 642 = .ok (.ireturn, 1) := by decide +kernel
theorem dL_law_643 : decode cL_law 643 = .ok (.aload_n 1, 1) := by decide +kernel
theorem dL_law_644 : decode cL_law 644 = .ok (.invokevirtual 78, 3) := by decide +kernel
theorem dL_law_647 : decode cL_law 647 = .ok (.aload_n 2, 1) := by decide +kernel
theorem dL_law_648 : decode cL_law 648 = .ok (.invokevirtual 81, 3) := by decide +kernel
theorem dL_law_651 : decode cL_law 651 = .ok (.if_icmp .eq 77, 3) := by decide +kernel
theorem dL_law_654 : decode cL_law 654 = .ok (.iconst 0, 1) := by decide +kernel
theorem dL_law_655 : decode cL_law 655 = .ok (.ireturn, 1) := by decide +kernel
theorem dL_law_656 : decode cL_law 656 = .ok (.aload_n 1, 1) := by decide +kernel
theorem dL_law_657 : decode cL_law 657 = .ok (.aload_n 0, 1) := by decide +kernel
theorem dL_law_658 : decode cL_law 658 = .ok (.iload_n 3, 1) := by decide +kernel
theorem dL_law_659 : decode cL_law 659 = .ok (.iconst 1, 1) := by decide +kernel
theorem dL_law_660 : decode cL_law 660 = .ok (.iadd, 1) := by decide +kernel
theorem dL_law_661 : decode cL_law 661 = .ok (.iaload, 1) := by decide +kernel
theorem dL_law_662 : decode cL_law 662 = .ok (.invokevirtual 82, 3) := by decide +kernel
theorem dL_law_665 : decode cL_law 665 = .ok (.aload_n 2, 1) := by decide +kernel
theorem dL_law_666 : decode cL_law 666 = .ok (.aload_n 0, 1) := by decide +kernel
theorem dL_law_667 : decode cL_law 667 = .ok (.iload_n 3, 1) := by decide +kernel
theorem dL_law_668 : decode cL_law 668 = .ok (.iconst 1, 1) := by decide +kernel
theorem dL_law_669 : decode cL_law 669 = .ok (.iadd, 1) := by decide +kernel
theorem dL_law_670 : decode cL_law 670 = .ok (.iaload, 1) := by decide +kernel
theorem dL_law_671 : decode cL_law 671 = .ok (.invokevirtual 85, 3) := by decide +kernel
theorem dL_law_674 : decode cL_law 674 = .ok (.if_icmp .eq 54, 3) := by decide +kernel
theorem dL_law_677 : decode cL_law 677 = .ok (.iconst 0, 1) := by decide +kernel
theorem dL_law_678 : decode cL_law 678 = .ok (.ireturn, 1) := by decide +kernel
theorem dL_law_679 : decode cL_law 679 = .ok (.aload_n 1, 1) := by decide +kernel
theorem dL_law_680 : decode cL_law 680 = .ok (.invokevirtual 86, 3) := by decide +kernel
theorem dL_law_683 : decode cL_law 683 = .ok (.aload_n 2, 1) := by decide +kernel
theorem dL_law_684 : decode cL_law 684 = .ok (.invokevirtual 89, 3) := by decide +kernel
theorem dL_law_687 : decode cL_law 687 = .ok (.if_icmp .eq 41, 3) := by decide +kernel
theorem dL_law_690 : decode cL_law 690 = .ok (.iconst 0, 1) := by decide +kernel
theorem dL_law_691 : decode cL_law 691 = .ok (.ireturn, 1) := by decide +kernel
theorem dL_law_692 : decode cL_law 692 = .ok (.aload_n 1, 1) := by decide +kernel
theorem dL_law_693 : decode cL_law 693 = .ok (.aload_n 0, 1) := by decide +kernel
theorem dL_law_694 : decode cL_law 694 = .ok (.iload_n 3, 1) := by decide +kernel
theorem dL_law_695 : decode cL_law 695 = .ok (.iconst 1, 1) := by decide +kernel
theorem dL_law_696 : decode cL_law 696 = .ok (.iadd, 1) := by decide +kernel
theorem dL_law_697 : decode cL_law 697 = .ok (.iaload, 1) := by decide +kernel
theorem dL_law_698 : decode cL_law 698 = .ok (.invokevirtual 90, 3) := by decide +kernel
theorem dL_law_701 : decode cL_law 701 = .ok (.aload_n 2, 1) := by decide +kernel
theorem dL_law_702 : decode cL_law 702 = .ok (.aload_n 0, 1) := by decide +kernel
theorem dL_law_703 : decode cL_law 703 = .ok (.iload_n 3, 1) := by decide +kernel
theorem dL_law_704 : decode cL_law 704 = .ok (.iconst 1, 1) := by decide +kernel
theorem dL_law_705 : decode cL_law 705 = .ok (.iadd, 1) := by decide +kernel
theorem dL_law_706 : decode cL_law 706 = .ok (.iaload, 1) := by decide +kernel
theorem dL_law_707 : decode cL_law 707 = .ok (.invokevirtual 93, 3) := by decide +kernel
theorem dL_law_710 : decode cL_law 710 = .ok (.if_icmp .eq 18, 3) := by decide +kernel
theorem dL_law_713 : decode cL_law 713 = .ok (.iconst 0, 1) := by decide +kernel
theorem dL_law_714 : decode cL_law 714 = .ok (.ireturn, 1) := by decide +kernel
theorem dL_law_715 : decode cL_law 715 = .ok (.aload_n 1, 1) := by decide +kernel
theorem dL_law_716 : decode cL_law 716 = .ok (.invokevirtual 94, 3) := by decide +kernel
theorem dL_law_719 : decode cL_law 719 = .ok (.aload_n 2, 1) := by decide +kernel
theorem dL_law_720 : decode cL_law 720 = .ok (.invokevirtual 97, 3) := by decide +kernel
theorem dL_law_723 : decode cL_law 723 = .ok (.if_icmp .eq 5, 3) := by decide +kernel
theorem dL_law_726 : decode cL_law 726 = .ok (.iconst 0, 1) := by decide +kernel
theorem dL_law_727 : decode cL_law 727 = .ok (.ireturn, 1) := by decide +kernel
theorem dL_law_728 : decode cL_law 728 = .ok (.iinc 3 5, 3) := by decide +kernel
theorem dL_law_731 : decode cL_law 731 = .ok (.goto (-713), 3) := by decide +kernel
theorem dL_law_734 : decode cL_law 734 = .ok (.iconst 1, 1) := by decide +kernel
theorem dL_law_735 : decode cL_law 735 = .ok (.ireturn, 1) := by decide +kernel
abbrev vwCl : List vw_C := [(RX0, TX0, 1), (RX1, TX1, 1), (RX2, TX2, 2), (RX3, TX3, 4), (RX4, TX4, 7), (RX5, TX5, 5), (RX6, TX6, 4), (RX7, TX7, 5), (RX8, TX8, 8), (RX9, TX9, 23)]

