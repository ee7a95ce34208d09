theorem dX8_isWayOfKind_48 : decode cX8_isWayOfKind 48 = .ok (.invokevirtual 219, 3) := by decide +kernel
theorem dX8_isWayOfKind_51 : decode cX8_isWayOfKind 51 = .ok (.ireturn, 1) := by decide +kernel
set_option maxRecDepth 20000 in
theorem ggX8_gatherBlocks_X0_clear : GoodIn wsX8_gatherBlocks wsX0_clear := goodIn_r _ [8, 9, 81] (by decide +kernel) (by decide +kernel)
set_option maxRecDepth 20000 in
theorem gX8_gatherBlocks_X0_clear : GoodIn wsX8_gatherBlocks (wsV RX8 222 RX0 yX0_clear wsX0_clear) := goodIn_app (goodIn_of _ (by decide +kernel)) ggX8_gatherBlocks_X0_clear
set_option maxRecDepth 20000 in
theorem ggX8_gatherBlocks_X3_size : GoodIn wsX8_gatherBlocks wsX3_size := goodIn_r _ [14, 15, 82, 83, 84, 85] (by decide +kernel) (by decide +kernel)
set_option maxRecDepth 20000 in
theorem gX8_gatherBlocks_X3_size : GoodIn wsX8_gatherBlocks (wsV RX8 137 RX3 yX3_size wsX3_size) := goodIn_app (goodIn_of _ (by decide +kernel)) ggX8_gatherBlocks_X3_size
set_option maxRecDepth 20000 in
theorem ggX8_gatherBlocks_X5_addBlocksOf : GoodIn wsX8_gatherBlocks wsX5_addBlocksOf := goodIn_r _ [20, 21, 22, 23, 24, 25, 13, 26, 27, 28, 29, 30, 31, 32, 33, 34, 35, 36, 37, 38, 19, 39, 40, 41, 42, 43, 44, 45, 46, 47, 48, 49, 50, 51, 52, 53, 54, 55, 56, 57, 58, 7, 59, 9, 60, 61, 62, 63, 64, 65, 66, 67, 76, 77, 78, 79, 80, 82, 83, 84, 85, 86, 81] (by decide +kernel) (by decide +kernel)
set_option maxRecDepth 20000 in
theorem gX8_gatherBlocks_X5_addBlocksOf : GoodIn wsX8_gatherBlocks (wsV RX8 223 RX5 yX5_addBlocksOf wsX5_addBlocksOf) := goodIn_app (goodIn_of _ (by decide +kernel)) ggX8_gatherBlocks_X5_addBlocksOf
theorem dX8_gatherBlocks_0 : decode cX8_gatherBlocks 0 = .ok (.aload_n 0, 1) := by decide +kernel
theorem dX8_gatherBlocks_1 : decode cX8_gatherBlocks 1 = .ok (.getfield 53, 3) := by decide +kernel
theorem dX8_gatherBlocks_4 : decode cX8_gatherBlocks 4 = .ok (.invokevirtual 222, 3) := by decide +kernel
theorem dX8_gatherBlocks_7 : decode cX8_gatherBlocks 7 = .ok (.aload_n 0, 1) := by decide +kernel
theorem dX8_gatherBlocks_8 : decode cX8_gatherBlocks 8 = .ok (.getfield 57, 3) := by decide +kernel
theorem dX8_gatherBlocks_11 : decode cX8_gatherBlocks 11 = .ok (.invokevirtual 222, 3) := by decide +kernel
theorem dX8_gatherBlocks_14 : decode cX8_gatherBlocks 14 = .ok (.iconst 0, 1) := by decide +kernel
theorem dX8_gatherBlocks_15 : decode cX8_gatherBlocks 15 = .ok (.istore_n 2, 1) := by decide +kernel
theorem dX8_gatherBlocks_16 : decode cX8_gatherBlocks 16 = .ok (.iload_n 2, 1) := by decide +kernel
theorem dX8_gatherBlocks_17 : decode cX8_gatherBlocks 17 = .ok (.aload_n 0, 1) := by decide +kernel
theorem dX8_gatherBlocks_18 : decode cX8_gatherBlocks 18 = .ok (.getfield 10, 3) := by decide +kernel
theorem dX8_gatherBlocks_21 : decode cX8_gatherBlocks 21 = .ok (.getfield 133, 3) := by decide +kernel
theorem dX8_gatherBlocks_24 : decode cX8_gatherBlocks 24 = .ok (.invokevirtual 137, 3) := by decide +kernel
theorem dX8_gatherBlocks_27 : decode cX8_gatherBlocks 27 = .ok (.if_icmp .ge 33, 3) := by decide +kernel
theorem dX8_gatherBlocks_30 : decode cX8_gatherBlocks 30 = .ok (.aload_n 0, 1) := by decide +kernel
theorem dX8_gatherBlocks_31 : decode cX8_gatherBlocks 31 = .ok (.getfield 10, 3) := by decide +kernel
theorem dX8_gatherBlocks_34 : decode cX8_gatherBlocks 34 = .ok (.iload_n 2, 1) := by decide +kernel
theorem dX8_gatherBlocks_35 : decode cX8_gatherBlocks 35 = .ok (.iload_n 2, 1) := by decide +kernel
theorem dX8_gatherBlocks_36 : decode cX8_gatherBlocks 36 = .ok (.iload_n 1, 1) := by decide +kernel
theorem dX8_gatherBlocks_37 : decode cX8_gatherBlocks 37 = .ok (.if_icmp .ne 10, 3) := by decide +kernel
theorem dX8_gatherBlocks_40 : decode cX8_gatherBlocks 40 = .ok (.aload_n 0, 1) := by decide +kernel
theorem dX8_gatherBlocks_41 : decode cX8_gatherBlocks 41 = .ok (.getfield 53, 3) := by decide +kernel
theorem dX8_gatherBlocks_44 : decode cX8_gatherBlocks 44 = .ok (.goto 7, 3) := by decide +kernel
theorem dX8_gatherBlocks_47 : decode cX8_gatherBlocks 47 = .ok (.aload_n 0, 1) := by decide +kernel
theorem dX8_gatherBlocks_48 : decode cX8_gatherBlocks 48 = .ok (.getfield 57, 3) := by decide +kernel
theorem dX8_gatherBlocks_51 : decode cX8_gatherBlocks 51 = .ok (.invokevirtual 223, 3) := by decide +kernel
theorem dX8_gatherBlocks_54 : decode cX8_gatherBlocks 54 = .ok (.iinc 2 1, 3) := by decide +kernel
theorem dX8_gatherBlocks_57 : decode cX8_gatherBlocks 57 = .ok (.goto (-41), 3) := by decide +kernel
theorem dX8_gatherBlocks_60 : decode cX8_gatherBlocks 60 = .ok (.return_, 1) := by decide +kernel
set_option maxRecDepth 20000 in
theorem ggX8_tryText_X5_copyFrom : GoodIn wsX8_tryText wsX5_copyFrom := goodIn_r _ [10, 11, 12, 13, 14, 15, 16, 17, 18, 19, 20, 21, 22, 23, 24, 25, 26, 27, 28, 29, 30, 31, 32, 33, 34, 35, 36, 37, 38, 39, 40, 237, 238, 239, 240, 241, 242, 243, 244, 245, 246, 247] (by decide +kernel) (by decide +kernel)
set_option maxRecDepth 20000 in
theorem gX8_tryText_X5_copyFrom : GoodIn wsX8_tryText (wsV RX8 208 RX5 yX5_copyFrom wsX5_copyFrom) := goodIn_app (goodIn_of _ (by decide +kernel)) ggX8_tryText_X5_copyFrom
set_option maxRecDepth 20000 in
theorem ggX8_tryText_X6_clear : GoodIn wsX8_tryText wsX6_clear := goodIn_r _ [45, 46, 47, 48, 49, 233, 234, 235, 236] (by decide +kernel) (by decide +kernel)
set_option maxRecDepth 20000 in
theorem gX8_tryText_X6_clear : GoodIn wsX8_tryText (wsV RX8 227 RX6 yX6_clear wsX6_clear) := goodIn_app (goodIn_of _ (by decide +kernel)) ggX8_tryText_X6_clear
set_option maxRecDepth 20000 in
theorem ggX8_tryText_X4_rewind : GoodIn wsX8_tryText wsX4_rewind := goodIn_r _ [54, 55, 226, 227, 228, 229, 230, 231, 232] (by decide +kernel) (by decide +kernel)
set_option maxRecDepth 20000 in
theorem gX8_tryText_X4_rewind : GoodIn wsX8_tryText (wsV RX8 228 RX4 yX4_rewind wsX4_rewind) := goodIn_app (goodIn_of _ (by decide +kernel)) ggX8_tryText_X4_rewind
set_option maxRecDepth 20000 in
theorem ggX8_tryText_X4_isAtEnd : GoodIn wsX8_tryText wsX4_isAtEnd := goodIn_r _ [59, 55, 60, 226, 227, 228, 229, 230, 231, 232] (by decide +kernel) (by decide +kernel)
set_option maxRecDepth 20000 in
theorem gX8_tryText_X4_isAtEnd : GoodIn wsX8_tryText (wsV RX8 231 RX4 yX4_isAtEnd wsX4_isAtEnd) := goodIn_app (goodIn_of _ (by decide +kernel)) ggX8_tryText_X4_isAtEnd
set_option maxRecDepth 20000 in
theorem ggX8_tryText_X4_position : GoodIn wsX8_tryText wsX4_position := goodIn_r _ [64, 55, 226, 227, 228, 229, 230, 231, 232] (by decide +kernel) (by decide +kernel)
set_option maxRecDepth 20000 in
theorem gX8_tryText_X4_position : GoodIn wsX8_tryText (wsV RX8 234 RX4 yX4_position wsX4_position) := goodIn_app (goodIn_of _ (by decide +kernel)) ggX8_tryText_X4_position
set_option maxRecDepth 20000 in
theorem ggX8_tryText_X4_parseWrite : GoodIn wsX8_tryText wsX4_parseWrite := goodIn_r _ [68, 69, 70, 71, 72, 73, 74, 75, 53, 76, 55, 77, 78, 79, 80, 60, 81, 82, 83, 84, 85, 86, 87, 88, 89, 90, 91, 226, 227, 228, 229, 230, 231, 232] (by decide +kernel) (by decide +kernel)
set_option maxRecDepth 20000 in
theorem gX8_tryText_X4_parseWrite : GoodIn wsX8_tryText (wsV RX8 236 RX4 yX4_parseWrite wsX4_parseWrite) := goodIn_app (goodIn_of _ (by decide +kernel)) ggX8_tryText_X4_parseWrite
set_option maxRecDepth 20000 in
theorem ggX8_tryText_X6_blame : GoodIn wsX8_tryText wsX6_blame := goodIn_r _ [95, 46, 47, 48, 233, 234, 235, 236] (by decide +kernel) (by decide +kernel)
set_option maxRecDepth 20000 in
theorem gX8_tryText_X6_blame : GoodIn wsX8_tryText (wsV RX8 239 RX6 yX6_blame wsX6_blame) := goodIn_app (goodIn_of _ (by decide +kernel)) ggX8_tryText_X6_blame
set_option maxRecDepth 20000 in
theorem ggX8_tryText_X8_below : GoodIn wsX8_tryText wsX8_below := goodIn_r _ [84] (by decide +kernel) (by decide +kernel)
set_option maxRecDepth 20000 in
theorem gX8_tryText_X8_below : GoodIn wsX8_tryText (va_wsS RX8 60 yX8_below wsX8_below) := goodIn_app (goodIn_of _ (by decide +kernel)) ggX8_tryText_X8_below
set_option maxRecDepth 20000 in
theorem ggX8_tryText_X5_prepareWrite : GoodIn wsX8_tryText wsX5_prepareWrite := goodIn_r _ [100, 13, 12, 101, 102, 103, 104, 105, 35, 106, 40, 107, 108, 109, 29, 110, 31, 111, 112, 113, 9, 114, 11, 115, 116, 117, 118, 119, 120, 121, 122, 123, 124, 38, 82, 83, 84, 125, 126, 127, 128, 39, 129, 130, 131, 19, 132, 133, 134, 135, 136, 21, 137, 138, 139, 140, 141, 142, 143, 144, 145, 146, 147, 148, 149, 150, 151, 152, 153, 154, 155, 156, 157, 158, 159, 160, 161, 162, 163, 164, 165, 166, 167, 168, 169, 170, 171, 172, 173, 174, 175, 176, 237, 238, 239, 240, 241, 244, 245, 246, 247, 243, 248, 249, 250, 251, 252, 242] (by decide +kernel) (by decide +kernel)
set_option maxRecDepth 20000 in
theorem gX8_tryText_X5_prepareWrite : GoodIn wsX8_tryText (wsV RX8 65 RX5 yX5_prepareWrite wsX5_prepareWrite) := goodIn_app (goodIn_of _ (by decide +kernel)) ggX8_tryText_X5_prepareWrite
set_option maxRecDepth 20000 in
theorem ggX8_tryText_X5_carryOut : GoodIn wsX8_tryText wsX5_carryOut := goodIn_r _ [180, 11, 14, 15, 13, 161, 162, 163, 118, 164, 158, 82, 83, 84, 181, 182, 183, 9, 184, 12, 185, 186, 187, 29, 188, 31, 189, 190, 191, 192, 154, 155, 156, 157, 159, 160, 193, 194, 195, 196, 141, 142, 197, 198, 199, 200, 201, 202, 203, 19, 204, 205, 206, 207, 208, 209, 21, 137, 138, 139, 140, 210, 211, 212, 35, 213, 40, 37, 38, 39, 214, 215, 216, 217, 237, 238, 239, 240, 241, 248, 249, 250, 251, 252, 243, 242, 244, 245, 246, 247] (by decide +kernel) (by decide +kernel)
set_option maxRecDepth 20000 in
theorem gX8_tryText_X5_carryOut : GoodIn wsX8_tryText (wsV RX8 73 RX5 yX5_carryOut wsX5_carryOut) := goodIn_app (goodIn_of _ (by decide +kernel)) ggX8_tryText_X5_carryOut
theorem dX8_tryText_0 : decode cX8_tryText 0 = .ok (.aload_n 0, 1) := by decide +kernel
theorem dX8_tryText_1 : decode cX8_tryText 1 = .ok (.getfield 19, 3) := by decide +kernel
theorem dX8_tryText_4 : decode cX8_tryText 4 = .ok (.aload_n 0, 1) := by decide +kernel
theorem dX8_tryText_5 : decode cX8_tryText 5 = .ok (.getfield 10, 3) := by decide +kernel
theorem dX8_tryText_8 : decode cX8_tryText 8 = .ok (.invokevirtual 208, 3) := by decide +kernel
theorem dX8_tryText_11 : decode cX8_tryText 11 = .ok (.aload_n 0, 1) := by decide +kernel
theorem dX8_tryText_12 : decode cX8_tryText 12 = .ok (.getfield 39, 3) := by decide +kernel
theorem dX8_tryText_15 : decode cX8_tryText 15 = .ok (.invokevirtual 227, 3) := by decide +kernel
theorem dX8_tryText_18 : decode cX8_tryText 18 = .ok (.aload_n 0, 1) := by decide +kernel
theorem dX8_tryText_19 : decode cX8_tryText 19 = .ok (.getfield 32, 3) := by decide +kernel
theorem dX8_tryText_22 : decode cX8_tryText 22 = .ok (.invokevirtual 228, 3) := by decide +kernel
theorem dX8_tryText_25 : decode cX8_tryText 25 = .ok (.iconst 0, 1) := by decide +kernel
theorem dX8_tryText_26 : decode cX8_tryText 26 = .ok (.istore_n 1, 1) := by decide +kernel
theorem dX8_tryText_27 : decode cX8_tryText 27 = .ok (.iload_n 1, 1) := by decide +kernel
theorem dX8_tryText_28 : decode cX8_tryText 28 = .ok (.bipush 60, 2) := by decide +kernel
theorem dX8_tryText_30 : decode cX8_tryText 30 = .ok (.if_icmp .ge 176, 3) := by decide +kernel
theorem dX8_tryText_33 : decode cX8_tryText 33 = .ok (.aload_n 0, 1) := by decide +kernel
theorem dX8_tryText_34 : decode cX8_tryText 34 = .ok (.getfield 32, 3) := by decide +kernel
theorem dX8_tryText_37 : decode cX8_tryText 37 = .ok (.invokevirtual 231, 3) := by decide +kernel
theorem dX8_tryText_40 : decode cX8_tryText 40 = .ok (.ifCond .ne 166, 3) := by decide +kernel
theorem dX8_tryText_43 : decode cX8_tryText 43 = .ok (.aload_n 0, 1) := by decide +kernel
theorem dX8_tryText_44 : decode cX8_tryText 44 = .ok (.getfield 32, 3) := by decide +kernel
theorem dX8_tryText_47 : decode cX8_tryText 47 = .ok (.invokevirtual 234, 3) := by decide +kernel
theorem dX8_tryText_50 : decode cX8_tryText 50 = .ok (.istore_n 2, 1) := by decide +kernel
theorem dX8_tryText_51 : decode cX8_tryText 51 = .ok (.aload_n 0, 1) := by decide +kernel
theorem dX8_tryText_52 : decode cX8_tryText 52 = .ok (.getfield 32, 3) := by decide +kernel
theorem dX8_tryText_55 : decode cX8_tryText 55 = .ok (.invokevirtual 236, 3) := by decide +kernel
theorem dX8_tryText_58 : decode cX8_tryText 58 = .ok (.ifCond .ne 22, 3) := by decide +kernel
theorem dX8_tryText_61 : decode cX8_tryText 61 = .ok (.aload_n 0, 1) := by decide +kernel
theorem dX8_tryText_62 : decode cX8_tryText 62 = .ok (.getfield 39, 3) := by decide +kernel
theorem dX8_tryText_65 : decode cX8_tryText 65 = .ok (.iload_n 2, 1) := by decide +kernel
theorem dX8_tryText_66 : decode cX8_tryText 66 = .ok (.iconst 1, 1) := by decide +kernel
theorem dX8_tryText_67 : decode cX8_tryText 67 = .ok (.aload_n 0, 1) := by decide +kernel
theorem dX8_tryText_68 : decode cX8_tryText 68 = .ok (.getfield 32, 3) := by decide +kernel
theorem dX8_tryText_71 : decode cX8_tryText 71 = .ok (.invokevirtual 234, 3) := by decide +kernel
theorem dX8_tryText_74 : decode cX8_tryText 74 = .ok (.iload_n 2, 1) := by decide +kernel
theorem dX8_tryText_75 : decode cX8_tryText 75 = .ok (.isub, 1) := by decide +kernel
theorem dX8_tryText_76 : decode cX8_tryText 76 = .ok (.invokevirtual 239, 3) := by decide +kernel
theorem dX8_tryText_79 : decode cX8_tryText 79 = .ok (.return_, 1) := by decide +kernel
theorem dX8_tryText_80 : decode cX8_tryText 80 = .ok (.aload_n 0, 1) := by decide +kernel
theorem dX8_tryText_81 : decode cX8_tryText 81 = .ok (.getfield 32, 3) := by decide +kernel
theorem dX8_tryText_84 : decode cX8_tryText 84 = .ok (.getfield 243, 3) := by decide +kernel
theorem dX8_tryText_87 : decode cX8_tryText 87 = .ok (.bipush 16, 2) := by decide +kernel
theorem dX8_tryText_89 : decode cX8_tryText 89 = .ok (.invokestatic 60, 3) := by decide +kernel
theorem dX8_tryText_92 : decode cX8_tryText 92 = .ok (.ifCond .eq 17, 3) := by decide +kernel
theorem dX8_tryText_95 : decode cX8_tryText 95 = .ok (.aload_n 0, 1) := by decide +kernel
theorem dX8_tryText_96 : decode cX8_tryText 96 = .ok (.getfield 32, 3) := by decide +kernel
theorem dX8_tryText_99 : decode cX8_tryText 99 = .ok (.getfield 246, 3) := by decide +kernel
theorem dX8_tryText_102 : decode cX8_tryText 102 = .ok (.iconst 4, 1) := by decide +kernel
theorem dX8_tryText_103 : decode cX8_tryText 103 = .ok (.invokestatic 60, 3) := by decide +kernel
theorem dX8_tryText_106 : decode cX8_tryText 106 = .ok (.ifCond .ne 14, 3) := by decide +kernel
theorem dX8_tryText_109 : decode cX8_tryText 109 = .ok (.aload_n 0, 1) := by decide +kernel
theorem dX8_tryText_110 : decode cX8_tryText 110 = .ok (.getfield 39, 3) := by decide +kernel
theorem dX8_tryText_113 : decode cX8_tryText 113 = .ok (.iload_n 2, 1) := by decide +kernel
theorem dX8_tryText_114 : decode cX8_tryText 114 = .ok (.iconst 2, 1) := by decide +kernel
theorem dX8_tryText_115 : decode cX8_tryText 115 = .ok (.iconst 0, 1) := by decide +kernel
theorem dX8_tryText_116 : decode cX8_tryText 116 = .ok (.invokevirtual 239, 3) := by decide +kernel
theorem dX8_tryText_119 : decode cX8_tryText 119 = .ok (.return_, 1) := by decide +kernel
theorem dX8_tryText_120 : decode cX8_tryText 120 = .ok (.aload_n 0, 1) := by decide +kernel
theorem dX8_tryText_121 : decode cX8_tryText 121 = .ok (.getfield 19, 3) := by decide +kernel
theorem dX8_tryText_124 : decode cX8_tryText 124 = .ok (.aload_n 0, 1) := by decide +kernel
theorem dX8_tryText_125 : decode cX8_tryText 125 = .ok (.getfield 46, 3) := by decide +kernel
theorem dX8_tryText_128 : decode cX8_tryText 128 = .ok (.aload_n 0, 1) := by decide +kernel
theorem dX8_tryText_129 : decode cX8_tryText 129 = .ok (.getfield 32, 3) := by decide +kernel
theorem dX8_tryText_132 : decode cX8_tryText 132 = .ok (.getfield 243, 3) := by decide +kernel
theorem dX8_tryText_135 : decode cX8_tryText 135 = .ok (.invokevirtual 65, 3) := by decide +kernel
theorem dX8_tryText_138 : decode cX8_tryText 138 = .ok (.istore_n 3, 1) := by decide +kernel
theorem dX8_tryText_139 : decode cX8_tryText 139 = .ok (.iload_n 3, 1) := by decide +kernel
theorem dX8_tryText_140 : decode cX8_tryText 140 = .ok (.ifCond .eq 14, 3) := by decide +kernel
theorem dX8_tryText_143 : decode cX8_tryText 143 = .ok (.aload_n 0, 1) := by decide +kernel
theorem dX8_tryText_144 : decode cX8_tryText 144 = .ok (.getfield 39, 3) := by decide +kernel
theorem dX8_tryText_147 : decode cX8_tryText 147 = .ok (.iload_n 2, 1) := by decide +kernel
theorem dX8_tryText_148 : decode cX8_tryText 148 = .ok (.iconst 3, 1) := by decide +kernel
theorem dX8_tryText_149 : decode cX8_tryText 149 = .ok (.iload_n 3, 1) := by decide +kernel
theorem dX8_tryText_150 : decode cX8_tryText 150 = .ok (.invokevirtual 239, 3) := by decide +kernel
theorem dX8_tryText_153 : decode cX8_tryText 153 = .ok (.return_, 1) := by decide +kernel
theorem dX8_tryText_154 : decode cX8_tryText 154 = .ok (.aload_n 0, 1) := by decide +kernel
theorem dX8_tryText_155 : decode cX8_tryText 155 = .ok (.getfield 19, 3) := by decide +kernel
theorem dX8_tryText_158 : decode cX8_tryText 158 = .ok (.aload_n 0, 1) := by decide +kernel
theorem dX8_tryText_159 : decode cX8_tryText 159 = .ok (.getfield 46, 3) := by decide +kernel
theorem dX8_tryText_162 : decode cX8_tryText 162 = .ok (.aload_n 0, 1) := by decide +kernel
theorem dX8_tryText_163 : decode cX8_tryText 163 = .ok (.getfield 32, 3) := by decide +kernel
theorem dX8_tryText_166 : decode cX8_tryText 166 = .ok (.getfield 243, 3) := by decide +kernel
theorem dX8_tryText_169 : decode cX8_tryText 169 = .ok (.aload_n 0, 1) := by decide +kernel
theorem dX8_tryText_170 : decode cX8_tryText 170 = .ok (.getfield 32, 3) := by decide +kernel
theorem dX8_tryText_173 : decode cX8_tryText 173 = .ok (.getfield 246, 3) := by decide +kernel
theorem dX8_tryText_176 : decode cX8_tryText 176 = .ok (.aload_n 0, 1) := by decide +kernel
theorem dX8_tryText_177 : decode cX8_tryText 177 = .ok (.getfield 32, 3) := by decide +kernel
theorem dX8_tryText_180 : decode cX8_tryText 180 = .ok (.getfield 249, 3) := by decide +kernel
theorem dX8_tryText_183 : decode cX8_tryText 183 = .ok (.invokevirtual 73, 3) := by decide +kernel
theorem dX8_tryText_186 : decode cX8_tryText 186 = .ok (.pop, 1) := by decide +kernel
theorem dX8_tryText_187 : decode cX8_tryText 187 = .ok (.aload_n 0, 1) := by decide +kernel
theorem dX8_tryText_188 : decode cX8_tryText 188 = .ok (.getfield 39, 3) := by decide +kernel
theorem dX8_tryText_191 : decode cX8_tryText 191 = .ok (.dup, 1) := by decide +kernel
theorem dX8_tryText_192 : decode cX8_tryText 192 = .ok (.getfield 211, 3) := by decide +kernel
theorem dX8_tryText_195 : decode cX8_tryText 195 = .ok (.iconst 1, 1) := by decide +kernel
theorem dX8_tryText_196 : decode cX8_tryText 196 = .ok (.iadd, 1) := by decide +kernel
theorem dX8_tryText_197 : decode cX8_tryText 197 = .ok (.putfield 211, 3) := by decide +kernel
theorem dX8_tryText_200 : decode cX8_tryText 200 = .ok (.iinc 1 1, 3) := by decide +kernel
theorem dX8_tryText_203 : decode cX8_tryText 203 = .ok (.goto (-176), 3) := by decide +kernel
theorem dX8_tryText_206 : decode cX8_tryText 206 = .ok (.return_, 1) := by decide +kernel
theorem dX8_below_0 : decode cX8_below 0 = .ok (.iload_n 0, 1) := by decide +kernel
theorem dX8_below_1 : decode cX8_below 1 = .ok (.ifCond .lt 12, 3) := by decide +kernel
theorem dX8_below_4 : decode cX8_below 4 = .ok (.iload_n 0, 1) := by decide +kernel
theorem dX8_below_5 : decode cX8_below 5 = .ok (.iload_n 1, 1) := by decide +kernel
theorem dX8_below_6 : decode cX8_below 6 = .ok (.if_icmp .ge 7, 3) := by decide +kernel
theorem dX8_below_9 : decode cX8_below 9 = .ok (.iconst 1, 1) := by decide +kernel
theorem dX8_below_10 : decode cX8_below 10 = .ok (.goto 4, 3) := by decide +kernel
theorem dX8_below_13 : decode cX8_below 13 = .ok (.iconst 0, 1) := by decide +kernel
theorem dX8_below_14 : decode cX8_below 14 = .ok (.ireturn, 1) := by decide +kernel
theorem dX8_sumFrom_0 : decode cX8_sumFrom 0 = .ok (.iload_n 1, 1) := by decide +kernel
theorem dX8_sumFrom_1 : decode cX8_sumFrom 1 = .ok (.ifCond .lt 11, 3) := by decide +kernel
theorem dX8_sumFrom_4 : decode cX8_sumFrom 4 = .ok (.iload_n 1, 1) := by decide +kernel
theorem dX8_sumFrom_5 : decode cX8_sumFrom 5 = .ok (.aload_n 0, 1) := by decide +kernel
theorem dX8_sumFrom_6 : decode cX8_sumFrom 6 = .ok (.arraylength, 1) := by decide +kernel
theorem dX8_sumFrom_7 : decode cX8_sumFrom 7 = .ok (.iconst 4, 1) := by decide +kernel
theorem dX8_sumFrom_8 : decode cX8_sumFrom 8 = .ok (.isub, 1) := by decide +kernel
theorem dX8_sumFrom_9 : decode cX8_sumFrom 9 = .ok (.if_icmp .le 5, 3) := by decide +kernel
theorem dX8_sumFrom_12 : decode cX8_sumFrom 12 = .ok (.iconst (-1), 1) := by decide +kernel
theorem dX8_sumFrom_13 : decode cX8_sumFrom 13 = .ok (.ireturn, 1) := by decide +kernel
theorem dX8_sumFrom_14 : decode cX8_sumFrom 14 = .ok (.iconst 4, 1) := by decide +kernel
theorem dX8_sumFrom_15 : decode cX8_sumFrom 15 = .ok (.aload_n 0, 1) := by decide +kernel
theorem dX8_sumFrom_16 : decode cX8_sumFrom 16 = .ok (.iload_n 1, 1) := by decide +kernel
theorem dX8_sumFrom_17 : decode cX8_sumFrom 17 = .ok (.iaload, 1) := by decide +kernel
theorem dX8_sumFrom_18 : decode cX8_sumFrom 18 = .ok (.imul, 1) := by decide +kernel
theorem dX8_sumFrom_19 : decode cX8_sumFrom 19 = .ok (.iconst 3, 1) := by decide +kernel
theorem dX8_sumFrom_20 : decode cX8_sumFrom 20 = .ok (.aload_n 0, 1) := by decide +kernel
theorem dX8_sumFrom_21 : decode cX8_sumFrom 21 = .ok (.iload_n 1, 1) := by decide +kernel
theorem dX8_sumFrom_22 : decode cX8_sumFrom 22 = .ok (.iconst 1, 1) := by decide +kernel
theorem dX8_sumFrom_23 : decode cX8_sumFrom 23 = .ok (.iadd, 1) := by decide +kernel
theorem dX8_sumFrom_24 : decode cX8_sumFrom 24 = .ok (.iaload, 1) := by decide +kernel
theorem dX8_sumFrom_25 : decode cX8_sumFrom 25 = .ok (.imul, 1) := by decide +kernel
theorem dX8_sumFrom_26 : decode cX8_sumFrom 26 = .ok (.iadd, 1) := by decide +kernel
theorem dX8_sumFrom_27 : decode cX8_sumFrom 27 = .ok (.iconst 2, 1) := by decide +kernel
theorem dX8_sumFrom_28 : decode cX8_sumFrom 28 = .ok (.aload_n 0, 1) := by decide +kernel
theorem dX8_sumFrom_29 : decode cX8_sumFrom 29 = .ok (.iload_n 1, 1) := by decide +kernel
theorem dX8_sumFrom_30 : decode cX8_sumFrom 30 = .ok (.iconst 2, 1) := by decide +kernel
theorem dX8_sumFrom_31 : decode cX8_sumFrom 31 = .ok (.iadd, 1) := by decide +kernel
theorem dX8_sumFrom_32 : decode cX8_sumFrom 32 = .ok (.iaload, 1) := by decide +kernel
theorem dX8_sumFrom_33 : decode cX8_sumFrom 33 = .ok (.imul, 1) := by decide +kernel
theorem dX8_sumFrom_34 : decode cX8_sumFrom 34 = .ok (.iadd, 1) := by decide +kernel
theorem dX8_sumFrom_35 : decode cX8_sumFrom 35 = .ok (.aload_n 0, 1) := by decide +kernel
theorem dX8_sumFrom_36 : decode cX8_sumFrom 36 = .ok (.iload_n 1, 1) := by decide +kernel
theorem dX8_sumFrom_37 : decode cX8_sumFrom 37 = .ok (.iconst 3, 1) := by decide +kernel
theorem dX8_sumFrom_38 : decode cX8_sumFrom 38 = .ok (.iadd, 1) := by decide +kernel
theorem dX8_sumFrom_39 : decode cX8_sumFrom 39 = .ok (.iaload, 1) := by decide +kernel
theorem dX8_sumFrom_40 : decode cX8_sumFrom 40 = .ok (.iadd, 1) := by decide +kernel
theorem dX8_sumFrom_41 : decode cX8_sumFrom 41 = .ok (.bipush 7, 2) := by decide +kernel
theorem dX8_sumFrom_43 : decode cX8_sumFrom 43 = .ok (.iadd, 1) := by decide +kernel
theorem dX8_sumFrom_44 : decode cX8_sumFrom 44 = .ok (.sipush 251, 3) := by decide +kernel
theorem dX8_sumFrom_47 : decode cX8_sumFrom 47 = .ok (.irem, 1) := by decide +kernel
theorem dX8_sumFrom_48 : decode cX8_sumFrom 48 = .ok (.ireturn, 1) := by decide +kernel
theorem dX8_childTowards_0 : decode cX8_childTowards 0 = .ok (.iload_n 1, 1) := by decide +kernel
theorem dX8_childTowards_1 : decode cX8_childTowards 1 = .ok (.ifCond .ne 9, 3) := by decide +kernel
theorem dX8_childTowards_4 : decode cX8_childTowards 4 = .ok (.iload_n 0, 1) := by decide +kernel
theorem dX8_childTowards_5 : decode cX8_childTowards 5 = .ok (.iconst 4, 1) := by decide +kernel
theorem dX8_childTowards_6 : decode cX8_childTowards 6 = .ok (.idiv, 1) := by decide +kernel
theorem dX8_childTowards_7 : decode cX8_childTowards 7 = .ok (.goto 6, 3) := by decide +kernel
theorem dX8_childTowards_10 : decode cX8_childTowards 10 = .ok (.iload_n 0, 1) := by decide +kernel
theorem dX8_childTowards_11 : decode cX8_childTowards 11 = .ok (.iconst 4, 1) := by decide +kernel
theorem dX8_childTowards_12 : decode cX8_childTowards 12 = .ok (.irem, 1) := by decide +kernel
theorem dX8_childTowards_13 : decode cX8_childTowards 13 = .ok (.ireturn, 1) := by decide +kernel
set_option maxRecDepth 20000 in
theorem ggX9_init_X9_sumOf : GoodIn wsX9_init wsX9_sumOf := goodIn_r _ [22, 23, 24, 25, 21, 26, 5, 27, 28, 29, 38, 39, 40, 41, 42, 43, 44, 45, 46, 47, 48, 49, 50, 51, 52, 53, 54, 55, 56, 57, 58, 59, 60] (by decide +kernel) (by decide +kernel)
set_option maxRecDepth 20000 in
theorem gX9_init_X9_sumOf : GoodIn wsX9_init (wsV RX9 49 RX9 yX9_sumOf wsX9_sumOf) := goodIn_app (goodIn_of _ (by decide +kernel)) ggX9_init_X9_sumOf
set_option maxRecDepth 20000 in
theorem ggX9_init_X9_setBoth : GoodIn wsX9_init wsX9_setBoth := goodIn_r _ [33, 34, 35, 36, 21, 37, 5, 38, 39, 40, 41, 42, 43, 44, 45, 46, 47, 48, 49, 50, 51, 52, 53, 54, 55, 56, 57, 58, 59, 60] (by decide +kernel) (by decide +kernel)
set_option maxRecDepth 20000 in
theorem gX9_init_X9_setBoth : GoodIn wsX9_init (wsV RX9 53 RX9 yX9_setBoth wsX9_setBoth) := goodIn_app (goodIn_of _ (by decide +kernel)) ggX9_init_X9_setBoth
theorem dX9_init_0 : decode cX9_init 0 = .ok (.aload_n 0, 1) := by decide +kernel
theorem dX9_init_1 : decode cX9_init 1 = .ok (.invokespecial 1, 3) := by decide +kernel
theorem dX9_init_4 : decode cX9_init 4 = .ok (.aload_n 0, 1) := by decide +kernel
theorem dX9_init_5 : decode cX9_init 5 = .ok (.sipush 892, 3) := by decide +kernel
theorem dX9_init_8 : decode cX9_init 8 = .ok (.newarray .int, 2) := by decide +kernel
theorem dX9_init_10 : decode cX9_init 10 = .ok (.putfield 7, 3) := by decide +kernel
theorem dX9_init_13 : decode cX9_init 13 = .ok (.aload_n 0, 1) := by decide +kernel
theorem dX9_init_14 : decode cX9_init 14 = .ok (.sipush 892, 3) := by decide +kernel
theorem dX9_init_17 : decode cX9_init 17 = .ok (.newarray .int, 2) := by decide +kernel
theorem dX9_init_19 : decode cX9_init 19 = .ok (.putfield 13, 3) := by decide +kernel
theorem dX9_init_22 : decode cX9_init 22 = .ok (.aload_n 0, 1) := by decide +kernel
theorem dX9_init_23 : decode cX9_init 23 = .ok (.sipush 2676, 3) := by decide +kernel
theorem dX9_init_26 : decode cX9_init 26 = .ok (.newarray .int, 2) := by decide +kernel
theorem dX9_init_28 : decode cX9_init 28 = .ok (.putfield 16, 3) := by decide +kernel
theorem dX9_init_31 : decode cX9_init 31 = .ok (.aload_n 0, 1) := by decide +kernel
theorem dX9_init_32 : decode cX9_init 32 = .ok (.bipush 60, 2) := by decide +kernel
theorem dX9_init_34 : decode cX9_init 34 = .ok (.newarray .int, 2) := by decide +kernel
theorem dX9_init_36 : decode cX9_init 36 = .ok (.putfield 19, 3) := by decide +kernel
theorem dX9_init_39 : decode cX9_init 39 = .ok (.aload_n 0, 1) := by decide +kernel
theorem dX9_init_40 : decode cX9_init 40 = .ok (.iconst 3, 1) := by decide +kernel
theorem dX9_init_41 : decode cX9_init 41 = .ok (.newarray .int, 2) := by decide +kernel
theorem dX9_init_43 : decode cX9_init 43 = .ok (.putfield 22, 3) := by decide +kernel
theorem dX9_init_46 : decode cX9_init 46 = .ok (.aload_n 0, 1) := by decide +kernel
theorem dX9_init_47 : decode cX9_init 47 = .ok (.iconst 3, 1) := by decide +kernel
theorem dX9_init_48 : decode cX9_init 48 = .ok (.newarray .int, 2) := by decide +kernel
theorem dX9_init_50 : decode cX9_init 50 = .ok (.putfield 25, 3) := by decide +kernel
theorem dX9_init_53 : decode cX9_init 53 = .ok (.aload_n 0, 1) := by decide +kernel
theorem dX9_init_54 : decode cX9_init 54 = .ok (.iconst 3, 1) := by decide +kernel
theorem dX9_init_55 : decode cX9_init 55 = .ok (.newarray .int, 2) := by decide +kernel
theorem dX9_init_57 : decode cX9_init 57 = .ok (.putfield 28, 3) := by decide +kernel
theorem dX9_init_60 : decode cX9_init 60 = .ok (.aload_n 0, 1) := by decide +kernel
theorem dX9_init_61 : decode cX9_init 61 = .ok (.bipush 12, 2) := by decide +kernel
theorem dX9_init_63 : decode cX9_init 63 = .ok (.newarray .int, 2) := by decide +kernel
theorem dX9_init_65 : decode cX9_init 65 = .ok (.putfield 31, 3) := by decide +kernel
theorem dX9_init_68 : decode cX9_init 68 = .ok (.aload_n 0, 1) := by decide +kernel
theorem dX9_init_69 : decode cX9_init 69 = .ok (.iconst 4, 1) := by decide +kernel
theorem dX9_init_70 : decode cX9_init 70 = .ok (.newarray .int, 2) := by decide +kernel
theorem dX9_init_72 : decode cX9_init 72 = .ok (.putfield 34, 3) := by decide +kernel
theorem dX9_init_75 : decode cX9_init 75 = .ok (.aload_n 0, 1) := by decide +kernel
theorem dX9_init_76 : decode cX9_init 76 = .ok (.iconst 4, 1) := by decide +kernel
theorem dX9_init_77 : decode cX9_init 77 = .ok (.newarray .int, 2) := by decide +kernel
theorem dX9_init_79 : decode cX9_init 79 = .ok (.putfield 37, 3) := by decide +kernel
theorem dX9_init_82 : decode cX9_init 82 = .ok (.aload_n 0, 1) := by decide +kernel
theorem dX9_init_83 : decode cX9_init 83 = .ok (.iconst 4, 1) := by decide +kernel
theorem dX9_init_84 : decode cX9_init 84 = .ok (.newarray .int, 2) := by decide +kernel
theorem dX9_init_86 : decode cX9_init 86 = .ok (.putfield 40, 3) := by decide +kernel
theorem dX9_init_89 : decode cX9_init 89 = .ok (.aload_n 0, 1) := by decide +kernel
theorem dX9_init_90 : decode cX9_init 90 = .ok (.iconst 4, 1) := by decide +kernel
theorem dX9_init_91 : decode cX9_init 91 = .ok (.newarray .int, 2) := by decide +kernel
theorem dX9_init_93 : decode cX9_init 93 = .ok (.putfield 43, 3) := by decide +kernel
theorem dX9_init_96 : decode cX9_init 96 = .ok (.aload_n 0, 1) := by decide +kernel
theorem dX9_init_97 : decode cX9_init 97 = .ok (.bipush 96, 2) := by decide +kernel
theorem dX9_init_99 : decode cX9_init 99 = .ok (.newarray .int, 2) := by decide +kernel
theorem dX9_init_101 : decode cX9_init 101 = .ok (.putfield 46, 3) := by decide +kernel
theorem dX9_init_104 : decode cX9_init 104 = .ok (.iconst 0, 1) := by decide +kernel
theorem dX9_init_105 : decode cX9_init 105 = .ok (.istore_n 1, 1) := by decide +kernel
theorem dX9_init_106 : decode cX9_init 106 = .ok (.iload_n 1, 1) := by decide +kernel
theorem dX9_init_107 : decode cX9_init 107 = .ok (.bipush 21, 2) := by decide +kernel
theorem dX9_init_109 : decode cX9_init 109 = .ok (.if_icmp .ge 20, 3) := by decide +kernel
theorem dX9_init_112 : decode cX9_init 112 = .ok (.aload_n 0, 1) := by decide +kernel
theorem dX9_init_113 : decode cX9_init 113 = .ok (.getfield 7, 3) := by decide +kernel
theorem dX9_init_116 : decode cX9_init 116 = .ok (.sipush 768, 3) := by decide +kernel
theorem dX9_init_119 : decode cX9_init 119 = .ok (.iload_n 1, 1) := by decide +kernel
theorem dX9_init_120 : decode cX9_init 120 = .ok (.iadd, 1) := by decide +kernel
theorem dX9_init_121 : decode cX9_init 121 = .ok (.iconst 1, 1) := by decide +kernel
theorem dX9_init_122 : decode cX9_init 122 = .ok (.iastore, 1) := by decide +kernel
theorem dX9_init_123 : decode cX9_init 123 = .ok (.iinc 1 1, 3) := by decide +kernel
theorem dX9_init_126 : decode cX9_init 126 = .ok (.goto (-20), 3) := by decide +kernel
theorem dX9_init_129 : decode cX9_init 129 = .ok (.iconst 0, 1) := by decide +kernel
theorem dX9_init_130 : decode cX9_init 130 = .ok (.istore_n 1, 1) := by decide +kernel
theorem dX9_init_131 : decode cX9_init 131 = .ok (.iload_n 1, 1) := by decide +kernel
theorem dX9_init_132 : decode cX9_init 132 = .ok (.iconst 4, 1) := by decide +kernel
theorem dX9_init_133 : decode cX9_init 133 = .ok (.if_icmp .ge 51, 3) := by decide +kernel
theorem dX9_init_136 : decode cX9_init 136 = .ok (.iconst 0, 1) := by decide +kernel
theorem dX9_init_137 : decode cX9_init 137 = .ok (.istore_n 2, 1) := by decide +kernel
theorem dX9_init_138 : decode cX9_init 138 = .ok (.iload_n 2, 1) := by decide +kernel
theorem dX9_init_139 : decode cX9_init 139 = .ok (.iconst 4, 1) := by decide +kernel
theorem dX9_init_140 : decode cX9_init 140 = .ok (.if_icmp .ge 38, 3) := by decide +kernel
theorem dX9_init_143 : decode cX9_init 143 = .ok (.aload_n 0, 1) := by decide +kernel
theorem dX9_init_144 : decode cX9_init 144 = .ok (.bipush 16, 2) := by decide +kernel
theorem dX9_init_146 : decode cX9_init 146 = .ok (.iload_n 1, 1) := by decide +kernel
theorem dX9_init_147 : decode cX9_init 147 = .ok (.iadd, 1) := by decide +kernel
theorem dX9_init_148 : decode cX9_init 148 = .ok (.iload_n 2, 1) := by decide +kernel
theorem dX9_init_149 : decode cX9_init 149 = .ok (.sipush 256, 3) := by decide +kernel
theorem dX9_init_152 : decode cX9_init 152 = .ok (.iconst 4, 1) := by decide +kernel
theorem dX9_init_153 : decode cX9_init 153 = .ok (.iload_n 1, 1) := by decide +kernel
theorem dX9_init_154 : decode cX9_init 154 = .ok (.imul, 1) := by decide +kernel
theorem dX9_init_155 : decode cX9_init 155 = .ok (.iload_n 2, 1) := by decide +kernel
theorem dX9_init_156 : decode cX9_init 156 = .ok (.iadd, 1) := by decide +kernel
theorem dX9_init_157 : decode cX9_init 157 = .ok (.imul, 1) := by decide +kernel
theorem dX9_init_158 : decode cX9_init 158 = .ok (.aload_n 0, 1) := by decide +kernel
theorem dX9_init_159 : decode cX9_init 159 = .ok (.iconst 0, 1) := by decide +kernel
theorem dX9_init_160 : decode cX9_init 160 = .ok (.iconst 4, 1) := by decide +kernel
theorem dX9_init_161 : decode cX9_init 161 = .ok (.iload_n 1, 1) := by decide +kernel
theorem dX9_init_162 : decode cX9_init 162 = .ok (.imul, 1) := by decide +kernel
theorem dX9_init_163 : decode cX9_init 163 = .ok (.iload_n 2, 1) := by decide +kernel
theorem dX9_init_164 : decode cX9_init 164 = .ok (.iadd, 1) := by decide +kernel
theorem dX9_init_165 : decode cX9_init 165 = .ok (.invokevirtual 49, 3) := by decide +kernel
theorem dX9_init_168 : decode cX9_init 168 = .ok (.iadd, 1) := by decide +kernel
theorem dX9_init_169 : decode cX9_init 169 = .ok (.invokevirtual 53, 3) := by decide +kernel
theorem dX9_init_172 : decode cX9_init 172 = .ok (.iinc 2 1, 3) := by decide +kernel
theorem dX9_init_175 : decode cX9_init 175 = .ok (.goto (-37), 3) := by decide +kernel
theorem dX9_init_178 : decode cX9_init 178 = .ok (.iinc 1 1, 3) := by decide +kernel
theorem dX9_init_181 : decode cX9_init 181 = .ok (.goto (-50), 3) := by decide +kernel
theorem dX9_init_184 : decode cX9_init 184 = .ok (.iconst 0, 1) := by decide +kernel
theorem dX9_init_185 : decode cX9_init 185 = .ok (.istore_n 1, 1) := by decide +kernel
theorem dX9_init_186 : decode cX9_init 186 = .ok (.iload_n 1, 1) := by decide +kernel
theorem dX9_init_187 : decode cX9_init 187 = .ok (.iconst 4, 1) := by decide +kernel
theorem dX9_init_188 : decode cX9_init 188 = .ok (.if_icmp .ge 34, 3) := by decide +kernel
theorem dX9_init_191 : decode cX9_init 191 = .ok (.aload_n 0, 1) := by decide +kernel
theorem dX9_init_192 : decode cX9_init 192 = .ok (.bipush 20, 2) := by decide +kernel
theorem dX9_init_194 : decode cX9_init 194 = .ok (.iload_n 1, 1) := by decide +kernel
theorem dX9_init_195 : decode cX9_init 195 = .ok (.sipush 256, 3) := by decide +kernel
theorem dX9_init_198 : decode cX9_init 198 = .ok (.bipush 16, 2) := by decide +kernel
theorem dX9_init_200 : decode cX9_init 200 = .ok (.iload_n 1, 1) := by decide +kernel
theorem dX9_init_201 : decode cX9_init 201 = .ok (.iadd, 1) := by decide +kernel
theorem dX9_init_202 : decode cX9_init 202 = .ok (.imul, 1) := by decide +kernel
theorem dX9_init_203 : decode cX9_init 203 = .ok (.aload_n 0, 1) := by decide +kernel
theorem dX9_init_204 : decode cX9_init 204 = .ok (.iconst 0, 1) := by decide +kernel
theorem dX9_init_205 : decode cX9_init 205 = .ok (.bipush 16, 2) := by decide +kernel
theorem dX9_init_207 : decode cX9_init 207 = .ok (.iload_n 1, 1) := by decide +kernel
theorem dX9_init_208 : decode cX9_init 208 = .ok (.iadd, 1) := by decide +kernel
theorem dX9_init_209 : decode cX9_init 209 = .ok (.invokevirtual 49, 3) := by decide +kernel
theorem dX9_init_212 : decode cX9_init 212 = .ok (.iadd, 1) := by decide +kernel
theorem dX9_init_213 : decode cX9_init 213 = .ok (.invokevirtual 53, 3) := by decide +kernel
theorem dX9_init_216 : decode cX9_init 216 = .ok (.iinc 1 1, 3) := by decide +kernel
theorem dX9_init_219 : decode cX9_init 219 = .ok (.goto (-33), 3) := by decide +kernel
theorem dX9_init_222 : decode cX9_init 222 = .ok (.aload_n 0, 1) := by decide +kernel
theorem dX9_init_223 : decode cX9_init 223 = .ok (.getfield 7, 3) := by decide +kernel
theorem dX9_init_226 : decode cX9_init 226 = .ok (.sipush 864, 3) := by decide +kernel
theorem dX9_init_229 : decode cX9_init 229 = .ok (.iconst 1, 1) := by decide +kernel
theorem dX9_init_230 : decode cX9_init 230 = .ok (.iastore, 1) := by decide +kernel
theorem dX9_init_231 : decode cX9_init 231 = .ok (.aload_n 0, 1) := by decide +kernel
theorem dX9_init_232 : decode cX9_init 232 = .ok (.getfield 7, 3) := by decide +kernel
theorem dX9_init_235 : decode cX9_init 235 = .ok (.sipush 865, 3) := by decide +kernel
theorem dX9_init_238 : decode cX9_init 238 = .ok (.iconst 1, 1) := by decide +kernel
theorem dX9_init_239 : decode cX9_init 239 = .ok (.iastore, 1) := by decide +kernel
theorem dX9_init_240 : decode cX9_init 240 = .ok (.aload_n 0, 1) := by decide +kernel
theorem dX9_init_241 : decode cX9_init 241 = .ok (.getfield 7, 3) := by decide +kernel
theorem dX9_init_244 : decode cX9_init 244 = .ok (.sipush 869, 3) := by decide +kernel
theorem dX9_init_247 : decode cX9_init 247 = .ok (.bipush 20, 2) := by decide +kernel
theorem dX9_init_249 : decode cX9_init 249 = .ok (.iastore, 1) := by decide +kernel
theorem dX9_init_250 : decode cX9_init 250 = .ok (.aload_n 0, 1) := by decide +kernel
theorem dX9_init_251 : decode cX9_init 251 = .ok (.getfield 7, 3) := by decide +kernel
theorem dX9_init_254 : decode cX9_init 254 = .ok (.sipush 870, 3) := by decide +kernel
theorem dX9_init_257 : decode cX9_init 257 = .ok (.aload_n 0, 1) := by decide +kernel
theorem dX9_init_258 : decode cX9_init 258 = .ok (.iconst 0, 1) := by decide +kernel
theorem dX9_init_259 : decode cX9_init 259 = .ok (.bipush 20, 2) := by decide +kernel
theorem dX9_init_261 : decode cX9_init 261 = .ok (.invokevirtual 49, 3) := by decide +kernel
theorem dX9_init_264 : decode cX9_init 264 = .ok (.iastore, 1) := by decide +kernel
theorem dX9_init_265 : decode cX9_init 265 = .ok (.return_, 1) := by decide +kernel
theorem dX9_copy_0 : decode cX9_copy 0 = .ok (.iconst 0, 1) := by decide +kernel
theorem dX9_copy_1 : decode cX9_copy 1 = .ok (.istore 4, 2) := by decide +kernel
theorem dX9_copy_3 : decode cX9_copy 3 = .ok (.iload 4, 2) := by decide +kernel
theorem dX9_copy_5 : decode cX9_copy 5 = .ok (.sipush 892, 3) := by decide +kernel
theorem dX9_copy_8 : decode cX9_copy 8 = .ok (.if_icmp .ge 21, 3) := by decide +kernel
theorem dX9_copy_11 : decode cX9_copy 11 = .ok (.aload_n 2, 1) := by decide +kernel
theorem dX9_copy_12 : decode cX9_copy 12 = .ok (.iload_n 3, 1) := by decide +kernel
theorem dX9_copy_13 : decode cX9_copy 13 = .ok (.iload 4, 2) := by decide +kernel
theorem dX9_copy_15 : decode cX9_copy 15 = .ok (.iadd, 1) := by decide +kernel
theorem dX9_copy_16 : decode cX9_copy 16 = .ok (.aload_n 0, 1) := by decide +kernel
theorem dX9_copy_17 : decode cX9_copy 17 = .ok (.iload_n 1, 1) := by decide +kernel
theorem dX9_copy_18 : decode cX9_copy 18 = .ok (.iload 4, 2) := by decide +kernel
theorem dX9_copy_20 : decode cX9_copy 20 = .ok (.iadd, 1) := by decide +kernel
theorem dX9_copy_21 : decode cX9_copy 21 = .ok (.iaload, 1) := by decide +kernel
theorem dX9_copy_22 : decode cX9_copy 22 = .ok (.iastore, 1) := by decide +kernel
theorem dX9_copy_23 : decode cX9_copy 23 = .ok (.iinc 4 1, 3) := by decide +kernel
theorem dX9_copy_26 : decode cX9_copy 26 = .ok (.goto (-23), 3) := by decide +kernel
theorem dX9_copy_29 : decode cX9_copy 29 = .ok (.return_, 1) := by decide +kernel
theorem dX9_within_0 : decode cX9_within 0 = .ok (.iload_n 0, 1) := by decide +kernel
theorem dX9_within_1 : decode cX9_within 1 = .ok (.iload_n 1, 1) := by decide +kernel
theorem dX9_within_2 : decode cX9_within 2 = .ok (.if_icmp .lt 12, 3) := by decide +kernel
theorem dX9_within_5 : decode cX9_within 5 = .ok (.iload_n 0, 1) := by decide +kernel
theorem dX9_within_6 : decode cX9_within 6 = .ok (.iload_n 2, 1) := by decide +kernel
theorem dX9_within_7 : decode cX9_within 7 = .ok (.if_icmp .gt 7, 3) := by decide +kernel
theorem dX9_within_10 : decode cX9_within 10 = .ok (.iconst 1, 1) := by decide +kernel
theorem dX9_within_11 : decode cX9_within 11 = .ok (.goto 4, 3) := by decide +kernel
theorem dX9_within_14 : decode cX9_within 14 = .ok (.iconst 0, 1) := by decide +kernel
theorem dX9_within_15 : decode cX9_within 15 = .ok (.ireturn, 1) := by decide +kernel
set_option maxRecDepth 20000 in
theorem ggX9_record_X9_copy : GoodIn wsX9_record wsX9_copy := goodIn_r _ [7] (by decide +kernel) (by decide +kernel)
set_option maxRecDepth 20000 in
theorem gX9_record_X9_copy : GoodIn wsX9_record (va_wsS RX9 61 yX9_copy wsX9_copy) := goodIn_app (goodIn_of _ (by decide +kernel)) ggX9_record_X9_copy
theorem dX9_record_0 : decode cX9_record 0 = .ok (.aload_n 0, 1) := by decide +kernel
theorem dX9_record_1 : decode cX9_record 1 = .ok (.getfield 57, 3) := by decide +kernel
theorem dX9_record_4 : decode cX9_record 4 = .ok (.iconst 3, 1) := by decide +kernel
theorem dX9_record_5 : decode cX9_record 5 = .ok (.if_icmp .ne 44, 3) := by decide +kernel
theorem dX9_record_8 : decode cX9_record 8 = .ok (.iconst 0, 1) := by decide +kernel
theorem dX9_record_9 : decode cX9_record 9 = .ok (.istore_n 1, 1) := by decide +kernel
theorem dX9_record_10 : decode cX9_record 10 = .ok (.iload_n 1, 1) := by decide +kernel
theorem dX9_record_11 : decode cX9_record 11 = .ok (.sipush 1784, 3) := by decide +kernel
theorem dX9_record_14 : decode cX9_record 14 = .ok (.if_icmp .ge 25, 3) := by decide +kernel
theorem dX9_record_17 : decode cX9_record 17 = .ok (.aload_n 0, 1) := by decide +kernel
theorem dX9_record_18 : decode cX9_record 18 = .ok (.getfield 16, 3) := by decide +kernel
theorem dX9_record_21 : decode cX9_record 21 = .ok (.iload_n 1, 1) := by decide +kernel
theorem dX9_record_22 : decode cX9_record 22 = .ok (.aload_n 0, 1) := by decide +kernel
theorem dX9_record_23 : decode cX9_record 23 = .ok (.getfield 16, 3) := by decide +kernel
theorem dX9_record_26 : decode cX9_record 26 = .ok (.iload_n 1, 1) := by decide +kernel
theorem dX9_record_27 : decode cX9_record 27 = .ok (.sipush 892, 3) := by decide +kernel
theorem dX9_record_30 : decode cX9_record 30 = .ok (.iadd, 1) := by decide +kernel
theorem dX9_record_31 : decode cX9_record 31 = .ok (.iaload, 1) := by decide +kernel
theorem dX9_record_32 : decode cX9_record 32 = .ok (.iastore, 1) := by decide +kernel
theorem dX9_record_33 : decode cX9_record 33 = .ok (.iinc 1 1, 3) := by decide +kernel
theorem dX9_record_36 : decode cX9_record 36 = .ok (.goto (-26), 3) := by decide +kernel
theorem dX9_record_39 : decode cX9_record 39 = .ok (.aload_n 0, 1) := by decide +kernel
theorem dX9_record_40 : decode cX9_record 40 = .ok (.dup, 1) := by decide +kernel
theorem dX9_record_41 : decode cX9_record 41 = .ok (.getfield 57, 3) := by decide +kernel
theorem dX9_record_44 : decode cX9_record 44 = .ok (.iconst 1, 1) := by decide +kernel
theorem dX9_record_45 : decode cX9_record 45 = .ok (.isub, 1) := by decide +kernel
theorem dX9_record_46 : decode cX9_record 46 = .ok (.putfield 57, 3) := by decide +kernel
theorem dX9_record_49 : decode cX9_record 49 = .ok (.aload_n 0, 1) := by decide +kernel
theorem dX9_record_50 : decode cX9_record 50 = .ok (.getfield 7, 3) := by decide +kernel
theorem dX9_record_53 : decode cX9_record 53 = .ok (.iconst 0, 1) := by decide +kernel
theorem dX9_record_54 : decode cX9_record 54 = .ok (.aload_n 0, 1) := by decide +kernel
theorem dX9_record_55 : decode cX9_record 55 = .ok (.getfield 16, 3) := by decide +kernel
theorem dX9_record_58 : decode cX9_record 58 = .ok (.aload_n 0, 1) := by decide +kernel
theorem dX9_record_59 : decode cX9_record 59 = .ok (.getfield 57, 3) := by decide +kernel
theorem dX9_record_62 : decode cX9_record 62 = .ok (.sipush 892, 3) := by decide +kernel
theorem dX9_record_65 : decode cX9_record 65 = .ok (.imul, 1) := by decide +kernel
theorem dX9_record_66 : decode cX9_record 66 = .ok (.invokestatic 61, 3) := by decide +kernel
theorem dX9_record_69 : decode cX9_record 69 = .ok (.aload_n 0, 1) := by decide +kernel
theorem dX9_record_70 : decode cX9_record 70 = .ok (.dup, 1) := by decide +kernel
theorem dX9_record_71 : decode cX9_record 71 = .ok (.getfield 57, 3) := by decide +kernel
theorem dX9_record_74 : decode cX9_record 74 = .ok (.iconst 1, 1) := by decide +kernel
theorem dX9_record_75 : decode cX9_record 75 = .ok (.iadd, 1) := by decide +kernel
theorem dX9_record_76 : decode cX9_record 76 = .ok (.putfield 57, 3) := by decide +kernel
theorem dX9_record_79 : decode cX9_record 79 = .ok (.return_, 1) := by decide +kernel
theorem dX9_contentOf_0 : decode cX9_contentOf 0 = .ok (.aload_n 0, 1) := by decide +kernel
theorem dX9_contentOf_1 : decode cX9_contentOf 1 = .ok (.getfield 7, 3) := by decide +kernel
theorem dX9_contentOf_4 : decode cX9_contentOf 4 = .ok (.iconst 0, 1) := by decide +kernel
theorem dX9_contentOf_5 : decode cX9_contentOf 5 = .ok (.iconst 4, 1) := by decide +kernel
theorem dX9_contentOf_6 : decode cX9_contentOf 6 = .ok (.bipush 96, 2) := by decide +kernel
theorem dX9_contentOf_8 : decode cX9_contentOf 8 = .ok (.iload_n 1, 1) := by decide +kernel
theorem dX9_contentOf_9 : decode cX9_contentOf 9 = .ok (.imul, 1) := by decide +kernel
theorem dX9_contentOf_10 : decode cX9_contentOf 10 = .ok (.iload_n 2, 1) := by decide +kernel
theorem dX9_contentOf_11 : decode cX9_contentOf 11 = .ok (.iadd, 1) := by decide +kernel
theorem dX9_contentOf_12 : decode cX9_contentOf 12 = .ok (.imul, 1) := by decide +kernel
theorem dX9_contentOf_13 : decode cX9_contentOf 13 = .ok (.iadd, 1) := by decide +kernel
theorem dX9_contentOf_14 : decode cX9_contentOf 14 = .ok (.iload_n 3, 1) := by decide +kernel
theorem dX9_contentOf_15 : decode cX9_contentOf 15 = .ok (.iadd, 1) := by decide +kernel
theorem dX9_contentOf_16 : decode cX9_contentOf 16 = .ok (.iaload, 1) := by decide +kernel
theorem dX9_contentOf_17 : decode cX9_contentOf 17 = .ok (.ireturn, 1) := by decide +kernel
theorem dX9_setContent_0 : decode cX9_setContent 0 = .ok (.aload_n 0, 1) := by decide +kernel
theorem dX9_setContent_1 : decode cX9_setContent 1 = .ok (.getfield 7, 3) := by decide +kernel
theorem dX9_setContent_4 : decode cX9_setContent 4 = .ok (.iconst 0, 1) := by decide +kernel
theorem dX9_setContent_5 : decode cX9_setContent 5 = .ok (.iconst 4, 1) := by decide +kernel
theorem dX9_setContent_6 : decode cX9_setContent 6 = .ok (.bipush 96, 2) := by decide +kernel
theorem dX9_setContent_8 : decode cX9_setContent 8 = .ok (.iload_n 1, 1) := by decide +kernel
theorem dX9_setContent_9 : decode cX9_setContent 9 = .ok (.imul, 1) := by decide +kernel
theorem dX9_setContent_10 : decode cX9_setContent 10 = .ok (.iload_n 2, 1) := by decide +kernel
theorem dX9_setContent_11 : decode cX9_setContent 11 = .ok (.iadd, 1) := by decide +kernel
theorem dX9_setContent_12 : decode cX9_setContent 12 = .ok (.imul, 1) := by decide +kernel
theorem dX9_setContent_13 : decode cX9_setContent 13 = .ok (.iadd, 1) := by decide +kernel
theorem dX9_setContent_14 : decode cX9_setContent 14 = .ok (.iload_n 3, 1) := by decide +kernel
theorem dX9_setContent_15 : decode cX9_setContent 15 = .ok (.iadd, 1) := by decide +kernel
theorem dX9_setContent_16 : decode cX9_setContent 16 = .ok (.iload 4, 2) := by decide +kernel
theorem dX9_setContent_18 : decode cX9_setContent 18 = .ok (.iastore, 1) := by decide +kernel
theorem dX9_setContent_19 : decode cX9_setContent 19 = .ok (.return_, 1) := by decide +kernel
set_option maxRecDepth 20000 in
theorem ggX9_setBoth_X9_setContent : GoodIn wsX9_setBoth wsX9_setContent := goodIn_r _ [5, 6, 7, 8, 9, 10, 11, 12, 13, 14, 15, 16, 17, 18, 19, 20, 21, 22, 23, 24, 25, 26, 27, 28, 29] (by decide +kernel) (by decide +kernel)
set_option maxRecDepth 20000 in
theorem gX9_setBoth_X9_setContent : GoodIn wsX9_setBoth (wsV RX9 65 RX9 yX9_setContent wsX9_setContent) := goodIn_app (goodIn_of _ (by decide +kernel)) ggX9_setBoth_X9_setContent
theorem dX9_setBoth_0 : decode cX9_setBoth 0 = .ok (.aload_n 0, 1) := by decide +kernel
theorem dX9_setBoth_1 : decode cX9_setBoth 1 = .ok (.iconst 0, 1) := by decide +kernel
theorem dX9_setBoth_2 : decode cX9_setBoth 2 = .ok (.iload_n 1, 1) := by decide +kernel
theorem dX9_setBoth_3 : decode cX9_setBoth 3 = .ok (.iload_n 2, 1) := by decide +kernel
theorem dX9_setBoth_4 : decode cX9_setBoth 4 = .ok (.iload_n 3, 1) := by decide +kernel
theorem dX9_setBoth_5 : decode cX9_setBoth 5 = .ok (.invokevirtual 65, 3) := by decide +kernel
theorem dX9_setBoth_8 : decode cX9_setBoth 8 = .ok (.aload_n 0, 1) := by decide +kernel
theorem dX9_setBoth_9 : decode cX9_setBoth 9 = .ok (.iconst 1, 1) := by decide +kernel
theorem dX9_setBoth_10 : decode cX9_setBoth 10 = .ok (.iload_n 1, 1) := by decide +kernel
theorem dX9_setBoth_11 : decode cX9_setBoth 11 = .ok (.iload_n 2, 1) := by decide +kernel
theorem dX9_setBoth_12 : decode cX9_setBoth 12 = .ok (.iload_n 3, 1) := by decide +kernel
theorem dX9_setBoth_13 : decode cX9_setBoth 13 = .ok (.invokevirtual 65, 3) := by decide +kernel
theorem dX9_setBoth_16 : decode cX9_setBoth 16 = .ok (.return_, 1) := by decide +kernel
theorem dX9_sumFrom_0 : decode cX9_sumFrom 0 = .ok (.iconst 4, 1) := by decide +kernel
theorem dX9_sumFrom_1 : decode cX9_sumFrom 1 = .ok (.iload_n 0, 1) := by decide +kernel
theorem dX9_sumFrom_2 : decode cX9_sumFrom 2 = .ok (.imul, 1) := by decide +kernel
theorem dX9_sumFrom_3 : decode cX9_sumFrom 3 = .ok (.iconst 3, 1) := by decide +kernel
theorem dX9_sumFrom_4 : decode cX9_sumFrom 4 = .ok (.iload_n 1, 1) := by decide +kernel
theorem dX9_sumFrom_5 : decode cX9_sumFrom 5 = .ok (.imul, 1) := by decide +kernel
theorem dX9_sumFrom_6 : decode cX9_sumFrom 6 = .ok (.iadd, 1) := by decide +kernel
theorem dX9_sumFrom_7 : decode cX9_sumFrom 7 = .ok (.iconst 2, 1) := by decide +kernel
theorem dX9_sumFrom_8 : decode cX9_sumFrom 8 = .ok (.iload_n 2, 1) := by decide +kernel
theorem dX9_sumFrom_9 : decode cX9_sumFrom 9 = .ok (.imul, 1) := by decide +kernel
theorem dX9_sumFrom_10 : decode cX9_sumFrom 10 = .ok (.iadd, 1) := by decide +kernel
theorem dX9_sumFrom_11 : decode cX9_sumFrom 11 = .ok (.iload_n 3, 1) := by decide +kernel
theorem dX9_sumFrom_12 : decode cX9_sumFrom 12 = .ok (.iadd, 1) := by decide +kernel
theorem dX9_sumFrom_13 : decode cX9_sumFrom 13 = .ok (.bipush 7, 2) := by decide +kernel
theorem dX9_sumFrom_15 : decode cX9_sumFrom 15 = .ok (.iadd, 1) := by decide +kernel
theorem dX9_sumFrom_16 : decode cX9_sumFrom 16 = .ok (.sipush 251, 3) := by decide +kernel
theorem dX9_sumFrom_19 : decode cX9_sumFrom 19 = .ok (.irem, 1) := by decide +kernel
theorem dX9_sumFrom_20 : decode cX9_sumFrom 20 = .ok (.ireturn, 1) := by decide +kernel
set_option maxRecDepth 20000 in
theorem ggX9_sumOf_X9_contentOf : GoodIn wsX9_sumOf wsX9_contentOf := goodIn_r _ [5, 6, 10, 11, 12, 13, 14, 15, 16, 17, 18, 19, 20, 21, 22, 23, 24, 25, 26, 27, 28, 29, 30, 31, 32] (by decide +kernel) (by decide +kernel)
set_option maxRecDepth 20000 in
theorem gX9_sumOf_X9_contentOf : GoodIn wsX9_sumOf (wsV RX9 69 RX9 yX9_contentOf wsX9_contentOf) := goodIn_app (goodIn_of _ (by decide +kernel)) ggX9_sumOf_X9_contentOf
set_option maxRecDepth 20000 in
theorem ggX9_sumOf_X9_sumFrom : GoodIn wsX9_sumOf wsX9_sumFrom := goodIn_r _ [9] (by decide +kernel) (by decide +kernel)
set_option maxRecDepth 20000 in
theorem gX9_sumOf_X9_sumFrom : GoodIn wsX9_sumOf (va_wsS RX9 73 yX9_sumFrom wsX9_sumFrom) := goodIn_app (goodIn_of _ (by decide +kernel)) ggX9_sumOf_X9_sumFrom
theorem dX9_sumOf_0 : decode cX9_sumOf 0 = .ok (.aload_n 0, 1) := by decide +kernel
theorem dX9_sumOf_1 : decode cX9_sumOf 1 = .ok (.iload_n 1, 1) := by decide +kernel
theorem dX9_sumOf_2 : decode cX9_sumOf 2 = .ok (.iload_n 2, 1) := by decide +kernel
theorem dX9_sumOf_3 : decode cX9_sumOf 3 = .ok (.iconst 0, 1) := by decide +kernel
theorem dX9_sumOf_4 : decode cX9_sumOf 4 = .ok (.invokevirtual 69, 3) := by decide +kernel
theorem dX9_sumOf_7 : decode cX9_sumOf 7 = .ok (.aload_n 0, 1) := by decide +kernel
theorem dX9_sumOf_8 : decode cX9_sumOf 8 = .ok (.iload_n 1, 1) := by decide +kernel
theorem dX9_sumOf_9 : decode cX9_sumOf 9 = .ok (.iload_n 2, 1) := by decide +kernel
theorem dX9_sumOf_10 : decode cX9_sumOf 10 = .ok (.iconst 1, 1) := by decide +kernel
theorem dX9_sumOf_11 : decode cX9_sumOf 11 = .ok (.invokevirtual 69, 3) := by decide +kernel
theorem dX9_sumOf_14 : decode cX9_sumOf 14 = .ok (.aload_n 0, 1) := by decide +kernel
theorem dX9_sumOf_15 : decode cX9_sumOf 15 = .ok (.iload_n 1, 1) := by decide +kernel
theorem dX9_sumOf_16 : decode cX9_sumOf 16 = .ok (.iload_n 2, 1) := by decide +kernel
theorem dX9_sumOf_17 : decode cX9_sumOf 17 = .ok (.iconst 2, 1) := by decide +kernel
theorem dX9_sumOf_18 : decode cX9_sumOf 18 = .ok (.invokevirtual 69, 3) := by decide +kernel
theorem dX9_sumOf_21 : decode cX9_sumOf 21 = .ok (.aload_n 0, 1) := by decide +kernel
theorem dX9_sumOf_22 : decode cX9_sumOf 22 = .ok (.iload_n 1, 1) := by decide +kernel
theorem dX9_sumOf_23 : decode cX9_sumOf 23 = .ok (.iload_n 2, 1) := by decide +kernel
theorem dX9_sumOf_24 : decode cX9_sumOf 24 = .ok (.iconst 3, 1) := by decide +kernel
theorem dX9_sumOf_25 : decode cX9_sumOf 25 = .ok (.invokevirtual 69, 3) := by decide +kernel
theorem dX9_sumOf_28 : decode cX9_sumOf 28 = .ok (.invokestatic 73, 3) := by decide +kernel
theorem dX9_sumOf_31 : decode cX9_sumOf 31 = .ok (.ireturn, 1) := by decide +kernel
set_option maxRecDepth 20000 in
theorem ggX9_takenFrom_X9_sumOf : GoodIn wsX9_takenFrom wsX9_sumOf := goodIn_r _ [5, 6, 7, 8, 4, 9, 10, 11, 12, 13, 14, 15, 16, 17, 18, 19, 20, 21, 22, 23, 24, 25, 26, 27, 28, 29, 30, 31, 32, 33, 34, 35, 36] (by decide +kernel) (by decide +kernel)
set_option maxRecDepth 20000 in
theorem gX9_takenFrom_X9_sumOf : GoodIn wsX9_takenFrom (wsV RX9 49 RX9 yX9_sumOf wsX9_sumOf) := goodIn_app (goodIn_of _ (by decide +kernel)) ggX9_takenFrom_X9_sumOf
theorem dX9_takenFrom_0 : decode cX9_takenFrom 0 = .ok (.iload_n 1, 1) := by decide +kernel
theorem dX9_takenFrom_1 : decode cX9_takenFrom 1 = .ok (.bipush 96, 2) := by decide +kernel
theorem dX9_takenFrom_3 : decode cX9_takenFrom 3 = .ok (.if_icmp .lt 5, 3) := by decide +kernel
theorem dX9_takenFrom_6 : decode cX9_takenFrom 6 = .ok (.iconst 2, 1) := by decide +kernel
theorem dX9_takenFrom_7 : decode cX9_takenFrom 7 = .ok (.ireturn, 1) := by decide +kernel
theorem dX9_takenFrom_8 : decode cX9_takenFrom 8 = .ok (.aload_n 0, 1) := by decide +kernel
theorem dX9_takenFrom_9 : decode cX9_takenFrom 9 = .ok (.iconst 0, 1) := by decide +kernel
theorem dX9_takenFrom_10 : decode cX9_takenFrom 10 = .ok (.iload_n 1, 1) := by decide +kernel
theorem dX9_takenFrom_11 : decode cX9_takenFrom 11 = .ok (.invokevirtual 49, 3) := by decide +kernel
theorem dX9_takenFrom_14 : decode cX9_takenFrom 14 = .ok (.iload_n 2, 1) := by decide +kernel
theorem dX9_takenFrom_15 : decode cX9_takenFrom 15 = .ok (.if_icmp .ne 7, 3) := by decide +kernel
theorem dX9_takenFrom_18 : decode cX9_takenFrom 18 = .ok (.iconst 0, 1) := by decide +kernel
theorem dX9_takenFrom_19 : decode cX9_takenFrom 19 = .ok (.goto 18, 3) := by decide +kernel
theorem dX9_takenFrom_22 : decode cX9_takenFrom 22 = .ok (.aload_n 0, 1) := by decide +kernel
theorem dX9_takenFrom_23 : decode cX9_takenFrom 23 = .ok (.iconst 1, 1) := by decide +kernel
theorem dX9_takenFrom_24 : decode cX9_takenFrom 24 = .ok (.iload_n 1, 1) := by decide +kernel
theorem dX9_takenFrom_25 : decode cX9_takenFrom 25 = .ok (.invokevirtual 49, 3) := by decide +kernel
theorem dX9_takenFrom_28 : decode cX9_takenFrom 28 = .ok (.iload_n 2, 1) := by decide +kernel
theorem dX9_takenFrom_29 : decode cX9_takenFrom 29 = .ok (.if_icmp .ne 7, 3) := by decide +kernel
theorem dX9_takenFrom_32 : decode cX9_takenFrom 32 = .ok (.iconst 1, 1) := by decide +kernel
theorem dX9_takenFrom_33 : decode cX9_takenFrom 33 = .ok (.goto 4, 3) := by decide +kernel
theorem dX9_takenFrom_36 : decode cX9_takenFrom 36 = .ok (.iconst 2, 1) := by decide +kernel
theorem dX9_takenFrom_37 : decode cX9_takenFrom 37 = .ok (.ireturn, 1) := by decide +kernel
set_option maxRecDepth 20000 in
theorem ggX9_areUnlike_X9_contentOf : GoodIn wsX9_areUnlike wsX9_contentOf := goodIn_r _ [5, 6, 7, 8, 9, 10, 11, 12, 13, 14, 15, 16, 17, 18, 19, 20, 21, 22, 23, 24, 25, 26, 27, 28, 29] (by decide +kernel) (by decide +kernel)
set_option maxRecDepth 20000 in
theorem gX9_areUnlike_X9_contentOf : GoodIn wsX9_areUnlike (wsV RX9 69 RX9 yX9_contentOf wsX9_contentOf) := goodIn_app (goodIn_of _ (by decide +kernel)) ggX9_areUnlike_X9_contentOf
theorem dX9_areUnlike_0 : decode cX9_areUnlike 0 = .ok (.iconst 0, 1) := by decide +kernel
theorem dX9_areUnlike_1 : decode cX9_areUnlike 1 = .ok (.istore_n 2, 1) := by decide +kernel
theorem dX9_areUnlike_2 : decode cX9_areUnlike 2 = .ok (.iconst 0, 1) := by decide +kernel
theorem dX9_areUnlike_3 : decode cX9_areUnlike 3 = .ok (.istore_n 3, 1) := by decide +kernel
theorem dX9_areUnlike_4 : decode cX9_areUnlike 4 = .ok (.iload_n 3, 1) := by decide +kernel
theorem dX9_areUnlike_5 : decode cX9_areUnlike 5 = .ok (.iconst 4, 1) := by decide +kernel
theorem dX9_areUnlike_6 : decode cX9_areUnlike 6 = .ok (.if_icmp .ge 36, 3) := by decide +kernel
theorem dX9_areUnlike_9 : decode cX9_areUnlike 9 = .ok (.iload_n 2, 1) := by decide +kernel
theorem dX9_areUnlike_10 : decode cX9_areUnlike 10 = .ok (.ifCond .ne 20, 3) := by decide +kernel
theorem dX9_areUnlike_13 : decode cX9_areUnlike 13 = .ok (.aload_n 0, 1) := by decide +kernel
theorem dX9_areUnlike_14 : decode cX9_areUnlike 14 = .ok (.iconst 0, 1) := by decide +kernel
theorem dX9_areUnlike_15 : decode cX9_areUnlike 15 = .ok (.iload_n 1, 1) := by decide +kernel
theorem dX9_areUnlike_16 : decode cX9_areUnlike 16 = .ok (.iload_n 3, 1) := by decide +kernel
theorem dX9_areUnlike_17 : decode cX9_areUnlike 17 = .ok (.invokevirtual 69, 3) := by decide +kernel
theorem dX9_areUnlike_20 : decode cX9_areUnlike 20 = .ok (.aload_n 0, 1) := by decide +kernel
theorem dX9_areUnlike_21 : decode cX9_areUnlike 21 = .ok (.iconst 1, 1) := by decide +kernel
theorem dX9_areUnlike_22 : decode cX9_areUnlike 22 = .ok (.iload_n 1, 1) := by decide +kernel
theorem dX9_areUnlike_23 : decode cX9_areUnlike 23 = .ok (.iload_n 3, 1) := by decide +kernel
theorem dX9_areUnlike_24 : decode cX9_areUnlike 24 = .ok (.invokevirtual 69, 3) := by decide +kernel
theorem dX9_areUnlike_27 : decode cX9_areUnlike 27 = .ok (.if_icmp .eq 7, 3) := by decide +kernel
theorem dX9_areUnlike_30 : decode cX9_areUnlike 30 = .ok (.iconst 1, 1) := by decide +kernel
theorem dX9_areUnlike_31 : decode cX9_areUnlike 31 = .ok (.goto 4, 3) := by decide +kernel
theorem dX9_areUnlike_34 : decode cX9_areUnlike 34 = .ok (.iconst 0, 1) := by decide +kernel
theorem dX9_areUnlike_35 : decode cX9_areUnlike 35 = .ok (.istore_n 2, 1) := by decide +kernel
theorem dX9_areUnlike_36 : decode cX9_areUnlike 36 = .ok (.iinc 3 1, 3) := by decide +kernel
theorem dX9_areUnlike_39 : decode cX9_areUnlike 39 = .ok (.goto (-35), 3) := by decide +kernel
theorem dX9_areUnlike_42 : decode cX9_areUnlike 42 = .ok (.iload_n 2, 1) := by decide +kernel
theorem dX9_areUnlike_43 : decode cX9_areUnlike 43 = .ok (.ireturn, 1) := by decide +kernel
theorem dX9_firstFree_0 : decode cX9_firstFree 0 = .ok (.ldc 77, 2) := by decide +kernel
theorem dX9_firstFree_2 : decode cX9_firstFree 2 = .ok (.istore_n 1, 1) := by decide +kernel
theorem dX9_firstFree_3 : decode cX9_firstFree 3 = .ok (.bipush 95, 2) := by decide +kernel
theorem dX9_firstFree_5 : decode cX9_firstFree 5 = .ok (.istore_n 2, 1) := by decide +kernel
theorem dX9_firstFree_6 : decode cX9_firstFree 6 = .ok (.iload_n 2, 1) := by decide +kernel
theorem dX9_firstFree_7 : decode cX9_firstFree 7 = .ok (.ifCond .lt 28, 3) := by decide +kernel
theorem dX9_firstFree_10 : decode cX9_firstFree 10 = .ok (.aload_n 0, 1) := by decide +kernel
theorem dX9_firstFree_11 : decode cX9_firstFree 11 = .ok (.getfield 7, 3) := by decide +kernel
theorem dX9_firstFree_14 : decode cX9_firstFree 14 = .ok (.sipush 768, 3) := by decide +kernel
theorem dX9_firstFree_17 : decode cX9_firstFree 17 = .ok (.iload_n 2, 1) := by decide +kernel
theorem dX9_firstFree_18 : decode cX9_firstFree 18 = .ok (.iadd, 1) := by decide +kernel
theorem dX9_firstFree_19 : decode cX9_firstFree 19 = .ok (.iaload, 1) := by decide +kernel
theorem dX9_firstFree_20 : decode cX9_firstFree 20 = .ok (.ifCond .ne 7, 3) := by decide +kernel
theorem dX9_firstFree_23 : decode cX9_firstFree 23 = .ok (.iload_n 2, 1) := by decide +kernel
theorem dX9_firstFree_24 : decode cX9_firstFree 24 = .ok (.goto 4, 3) := by decide +kernel
theorem dX9_firstFree_27 : decode cX9_firstFree 27 = .ok (.iload_n 1, 1) := by decide +kernel
theorem dX9_firstFree_28 : decode cX9_firstFree 28 = .ok (.istore_n 1, 1) := by decide +kernel
theorem dX9_firstFree_29 : decode cX9_firstFree 29 = .ok (.iinc 2 (-1), 3) := by decide +kernel
theorem dX9_firstFree_32 : decode cX9_firstFree 32 = .ok (.goto (-26), 3) := by decide +kernel
theorem dX9_firstFree_35 : decode cX9_firstFree 35 = .ok (.iload_n 1, 1) := by decide +kernel
theorem dX9_firstFree_36 : decode cX9_firstFree 36 = .ok (.ireturn, 1) := by decide +kernel
theorem dX9_freeMany_0 : decode cX9_freeMany 0 = .ok (.iconst 0, 1) := by decide +kernel
theorem dX9_freeMany_1 : decode cX9_freeMany 1 = .ok (.istore_n 1, 1) := by decide +kernel
theorem dX9_freeMany_2 : decode cX9_freeMany 2 = .ok (.iconst 0, 1) := by decide +kernel
theorem dX9_freeMany_3 : decode cX9_freeMany 3 = .ok (.istore_n 2, 1) := by decide +kernel
theorem dX9_freeMany_4 : decode cX9_freeMany 4 = .ok (.iload_n 2, 1) := by decide +kernel
theorem dX9_freeMany_5 : decode cX9_freeMany 5 = .ok (.bipush 96, 2) := by decide +kernel
theorem dX9_freeMany_7 : decode cX9_freeMany 7 = .ok (.if_icmp .ge 24, 3) := by decide +kernel
theorem dX9_freeMany_10 : decode cX9_freeMany 10 = .ok (.iload_n 1, 1) := by decide +kernel
theorem dX9_freeMany_11 : decode cX9_freeMany 11 = .ok (.iconst 1, 1) := by decide +kernel
theorem dX9_freeMany_12 : decode cX9_freeMany 12 = .ok (.aload_n 0, 1) := by decide +kernel
theorem dX9_freeMany_13 : decode cX9_freeMany 13 = .ok (.getfield 7, 3) := by decide +kernel
theorem dX9_freeMany_16 : decode cX9_freeMany 16 = .ok (.sipush 768, 3) := by decide +kernel
theorem dX9_freeMany_19 : decode cX9_freeMany 19 = .ok (.iload_n 2, 1) := by decide +kernel
theorem dX9_freeMany_20 : decode cX9_freeMany 20 = .ok (.iadd, 1) := by decide +kernel
theorem dX9_freeMany_21 : decode cX9_freeMany 21 = .ok (.iaload, 1) := by decide +kernel
theorem dX9_freeMany_22 : decode cX9_freeMany 22 = .ok (.isub, 1) := by decide +kernel
theorem dX9_freeMany_23 : decode cX9_freeMany 23 = .ok (.iadd, 1) := by decide +kernel
theorem dX9_freeMany_24 : decode cX9_freeMany 24 = .ok (.istore_n 1, 1) := by decide +kernel
theorem dX9_freeMany_25 : decode cX9_freeMany 25 = .ok (.iinc 2 1, 3) := by decide +kernel
theorem dX9_freeMany_28 : decode cX9_freeMany 28 = .ok (.goto (-24), 3) := by decide +kernel
theorem dX9_freeMany_31 : decode cX9_freeMany 31 = .ok (.iload_n 1, 1) := by decide +kernel
theorem dX9_freeMany_32 : decode cX9_freeMany 32 = .ok (.ireturn, 1) := by decide +kernel
set_option maxRecDepth 20000 in
theorem ggX9_isRoot_X9_within : GoodIn wsX9_isRoot wsX9_within := goodIn_r _ [5] (by decide +kernel) (by decide +kernel)
set_option maxRecDepth 20000 in
theorem gX9_isRoot_X9_within : GoodIn wsX9_isRoot (va_wsS RX9 78 yX9_within wsX9_within) := goodIn_app (goodIn_of _ (by decide +kernel)) ggX9_isRoot_X9_within
theorem dX9_isRoot_0 : decode cX9_isRoot 0 = .ok (.iload_n 1, 1) := by decide +kernel
theorem dX9_isRoot_1 : decode cX9_isRoot 1 = .ok (.iconst 0, 1) := by decide +kernel
theorem dX9_isRoot_2 : decode cX9_isRoot 2 = .ok (.aload_n 0, 1) := by decide +kernel
theorem dX9_isRoot_3 : decode cX9_isRoot 3 = .ok (.getfield 7, 3) := by decide +kernel
theorem dX9_isRoot_6 : decode cX9_isRoot 6 = .ok (.sipush 864, 3) := by decide +kernel
theorem dX9_isRoot_9 : decode cX9_isRoot 9 = .ok (.iaload, 1) := by decide +kernel
theorem dX9_isRoot_10 : decode cX9_isRoot 10 = .ok (.iconst 1, 1) := by decide +kernel
theorem dX9_isRoot_11 : decode cX9_isRoot 11 = .ok (.isub, 1) := by decide +kernel
theorem dX9_isRoot_12 : decode cX9_isRoot 12 = .ok (.invokestatic 78, 3) := by decide +kernel
theorem dX9_isRoot_15 : decode cX9_isRoot 15 = .ok (.ireturn, 1) := by decide +kernel
theorem dX9_rootPart_0 : decode cX9_rootPart 0 = .ok (.aload_n 0, 1) := by decide +kernel
theorem dX9_rootPart_1 : decode cX9_rootPart 1 = .ok (.getfield 7, 3) := by decide +kernel
theorem dX9_rootPart_4 : decode cX9_rootPart 4 = .ok (.sipush 868, 3) := by decide +kernel
theorem dX9_rootPart_7 : decode cX9_rootPart 7 = .ok (.iconst 3, 1) := by decide +kernel
theorem dX9_rootPart_8 : decode cX9_rootPart 8 = .ok (.iload_n 1, 1) := by decide +kernel
theorem dX9_rootPart_9 : decode cX9_rootPart 9 = .ok (.imul, 1) := by decide +kernel
theorem dX9_rootPart_10 : decode cX9_rootPart 10 = .ok (.iadd, 1) := by decide +kernel
theorem dX9_rootPart_11 : decode cX9_rootPart 11 = .ok (.iload_n 2, 1) := by decide +kernel
theorem dX9_rootPart_12 : decode cX9_rootPart 12 = .ok (.iadd, 1) := by decide +kernel
theorem dX9_rootPart_13 : decode cX9_rootPart 13 = .ok (.iaload, 1) := by decide +kernel
theorem dX9_rootPart_14 : decode cX9_rootPart 14 = .ok (.ireturn, 1) := by decide +kernel
set_option maxRecDepth 20000 in
theorem ggX9_isLeaf_X9_within : GoodIn wsX9_isLeaf wsX9_within := goodIn_r _ [4] (by decide +kernel) (by decide +kernel)
set_option maxRecDepth 20000 in
theorem gX9_isLeaf_X9_within : GoodIn wsX9_isLeaf (va_wsS RX9 78 yX9_within wsX9_within) := goodIn_app (goodIn_of _ (by decide +kernel)) ggX9_isLeaf_X9_within
theorem dX9_isLeaf_0 : decode cX9_isLeaf 0 = .ok (.iload_n 0, 1) := by decide +kernel
theorem dX9_isLeaf_1 : decode cX9_isLeaf 1 = .ok (.iconst 0, 1) := by decide +kernel
theorem dX9_isLeaf_2 : decode cX9_isLeaf 2 = .ok (.bipush 15, 2) := by decide +kernel
theorem dX9_isLeaf_4 : decode cX9_isLeaf 4 = .ok (.invokestatic 78, 3) := by decide +kernel
theorem dX9_isLeaf_7 : decode cX9_isLeaf 7 = .ok (.ireturn, 1) := by decide +kernel
set_option maxRecDepth 20000 in
theorem ggX9_findWay_X9_rootPart : GoodIn wsX9_findWay wsX9_rootPart := goodIn_r _ [8, 9, 28, 29, 30, 31, 32, 33, 34, 35, 36, 37, 38, 39, 40, 41, 42, 43, 44, 45, 46, 47, 48, 49, 50] (by decide +kernel) (by decide +kernel)
set_option maxRecDepth 20000 in
theorem gX9_findWay_X9_rootPart : GoodIn wsX9_findWay (wsV RX9 82 RX9 yX9_rootPart wsX9_rootPart) := goodIn_app (goodIn_of _ (by decide +kernel)) ggX9_findWay_X9_rootPart
set_option maxRecDepth 20000 in
theorem ggX9_findWay_X9_within : GoodIn wsX9_findWay wsX9_within := goodIn_r _ [12] (by decide +kernel) (by decide +kernel)
set_option maxRecDepth 20000 in
theorem gX9_findWay_X9_within : GoodIn wsX9_findWay (va_wsS RX9 78 yX9_within wsX9_within) := goodIn_app (goodIn_of _ (by decide +kernel)) ggX9_findWay_X9_within
set_option maxRecDepth 20000 in
theorem ggX9_findWay_X9_contentOf : GoodIn wsX9_findWay wsX9_contentOf := goodIn_r _ [16, 9, 28, 29, 30, 31, 32, 33, 34, 35, 36, 37, 38, 39, 40, 41, 42, 43, 44, 45, 46, 47, 48, 49, 50] (by decide +kernel) (by decide +kernel)
set_option maxRecDepth 20000 in
theorem gX9_findWay_X9_contentOf : GoodIn wsX9_findWay (wsV RX9 69 RX9 yX9_contentOf wsX9_contentOf) := goodIn_app (goodIn_of _ (by decide +kernel)) ggX9_findWay_X9_contentOf
set_option maxRecDepth 20000 in
theorem ggX9_findWay_X9_takenFrom : GoodIn wsX9_findWay wsX9_takenFrom := goodIn_r _ [20, 21, 22, 23, 7, 24, 13, 14, 15, 16, 9, 25, 26, 27, 28, 29, 30, 31, 32, 33, 34, 35, 36, 37, 38, 39, 40, 41, 42, 43, 44, 45, 46, 47, 48, 49, 50] (by decide +kernel) (by decide +kernel)
set_option maxRecDepth 20000 in
theorem gX9_findWay_X9_takenFrom : GoodIn wsX9_findWay (wsV RX9 85 RX9 yX9_takenFrom wsX9_takenFrom) := goodIn_app (goodIn_of _ (by decide +kernel)) ggX9_findWay_X9_takenFrom
theorem dX9_findWay_0 : decode cX9_findWay 0 = .ok (.aload_n 0, 1) := by decide +kernel
theorem dX9_findWay_1 : decode cX9_findWay 1 = .ok (.getfield 22, 3) := by decide +kernel
theorem dX9_findWay_4 : decode cX9_findWay 4 = .ok (.iconst 0, 1) := by decide +kernel
theorem dX9_findWay_5 : decode cX9_findWay 5 = .ok (.aload_n 0, 1) := by decide +kernel
theorem dX9_findWay_6 : decode cX9_findWay 6 = .ok (.iload_n 1, 1) := by decide +kernel
theorem dX9_findWay_7 : decode cX9_findWay 7 = .ok (.iconst 1, 1) := by decide +kernel
theorem dX9_findWay_8 : decode cX9_findWay 8 = .ok (.invokevirtual 82, 3) := by decide +kernel
theorem dX9_findWay_11 : decode cX9_findWay 11 = .ok (.iastore, 1) := by decide +kernel
theorem dX9_findWay_12 : decode cX9_findWay 12 = .ok (.aload_n 0, 1) := by decide +kernel
theorem dX9_findWay_13 : decode cX9_findWay 13 = .ok (.getfield 25, 3) := by decide +kernel
theorem dX9_findWay_16 : decode cX9_findWay 16 = .ok (.iconst 0, 1) := by decide +kernel
theorem dX9_findWay_17 : decode cX9_findWay 17 = .ok (.aload_n 0, 1) := by decide +kernel
theorem dX9_findWay_18 : decode cX9_findWay 18 = .ok (.iload_n 1, 1) := by decide +kernel
theorem dX9_findWay_19 : decode cX9_findWay 19 = .ok (.iconst 2, 1) := by decide +kernel
theorem dX9_findWay_20 : decode cX9_findWay 20 = .ok (.invokevirtual 82, 3) := by decide +kernel
theorem dX9_findWay_23 : decode cX9_findWay 23 = .ok (.iastore, 1) := by decide +kernel
theorem dX9_findWay_24 : decode cX9_findWay 24 = .ok (.iconst 0, 1) := by decide +kernel
theorem dX9_findWay_25 : decode cX9_findWay 25 = .ok (.istore_n 3, 1) := by decide +kernel
theorem dX9_findWay_26 : decode cX9_findWay 26 = .ok (.iload_n 3, 1) := by decide +kernel
theorem dX9_findWay_27 : decode cX9_findWay 27 = .ok (.iconst 3, 1) := by decide +kernel
theorem dX9_findWay_28 : decode cX9_findWay 28 = .ok (.if_icmp .ge 136, 3) := by decide +kernel
theorem dX9_findWay_31 : decode cX9_findWay 31 = .ok (.iload_n 3, 1) := by decide +kernel
theorem dX9_findWay_32 : decode cX9_findWay 32 = .ok (.ifCond .eq 19, 3) := by decide +kernel
theorem dX9_findWay_35 : decode cX9_findWay 35 = .ok (.aload_n 0, 1) := by decide +kernel
theorem dX9_findWay_36 : decode cX9_findWay 36 = .ok (.getfield 28, 3) := by decide +kernel
theorem dX9_findWay_39 : decode cX9_findWay 39 = .ok (.iload_n 3, 1) := by decide +kernel
theorem dX9_findWay_40 : decode cX9_findWay 40 = .ok (.iconst 1, 1) := by decide +kernel
theorem dX9_findWay_41 : decode cX9_findWay 41 = .ok (.isub, 1) := by decide +kernel
theorem dX9_findWay_42 : decode cX9_findWay 42 = .ok (.iaload, 1) := by decide +kernel
theorem dX9_findWay_43 : decode cX9_findWay 43 = .ok (.iconst 0, 1) := by decide +kernel
theorem dX9_findWay_44 : decode cX9_findWay 44 = .ok (.iconst 1, 1) := by decide +kernel
theorem dX9_findWay_45 : decode cX9_findWay 45 = .ok (.invokestatic 78, 3) := by decide +kernel
theorem dX9_findWay_48 : decode cX9_findWay 48 = .ok (.ifCond .eq 7, 3) := by decide +kernel
theorem dX9_findWay_51 : decode cX9_findWay 51 = .ok (.iconst 1, 1) := by decide +kernel
theorem dX9_findWay_52 : decode cX9_findWay 52 = .ok (.goto 4, 3) := by decide +kernel
theorem dX9_findWay_55 : decode cX9_findWay 55 = .ok (.iconst 0, 1) := by decide +kernel
theorem dX9_findWay_56 : decode cX9_findWay 56 = .ok (.istore 4, 2) := by decide +kernel
theorem dX9_findWay_58 : decode cX9_findWay 58 = .ok (.iload 4, 2) := by decide +kernel
theorem dX9_findWay_60 : decode cX9_findWay 60 = .ok (.ifCond .eq 67, 3) := by decide +kernel
theorem dX9_findWay_63 : decode cX9_findWay 63 = .ok (.iload_n 3, 1) := by decide +kernel
theorem dX9_findWay_64 : decode cX9_findWay 64 = .ok (.ifCond .le 63, 3) := by decide +kernel
theorem dX9_findWay_67 : decode cX9_findWay 67 = .ok (.aload_n 0, 1) := by decide +kernel
theorem dX9_findWay_68 : decode cX9_findWay 68 = .ok (.aload_n 0, 1) := by decide +kernel
theorem dX9_findWay_69 : decode cX9_findWay 69 = .ok (.getfield 28, 3) := by decide +kernel
theorem dX9_findWay_72 : decode cX9_findWay 72 = .ok (.iload_n 3, 1) := by decide +kernel
theorem dX9_findWay_73 : decode cX9_findWay 73 = .ok (.iconst 1, 1) := by decide +kernel
theorem dX9_findWay_74 : decode cX9_findWay 74 = .ok (.isub, 1) := by decide +kernel
theorem dX9_findWay_75 : decode cX9_findWay 75 = .ok (.iaload, 1) := by decide +kernel
theorem dX9_findWay_76 : decode cX9_findWay 76 = .ok (.aload_n 0, 1) := by decide +kernel
theorem dX9_findWay_77 : decode cX9_findWay 77 = .ok (.getfield 22, 3) := by decide +kernel
theorem dX9_findWay_80 : decode cX9_findWay 80 = .ok (.iload_n 3, 1) := by decide +kernel
theorem dX9_findWay_81 : decode cX9_findWay 81 = .ok (.iconst 1, 1) := by decide +kernel
theorem dX9_findWay_82 : decode cX9_findWay 82 = .ok (.isub, 1) := by decide +kernel
theorem dX9_findWay_83 : decode cX9_findWay 83 = .ok (.iaload, 1) := by decide +kernel
theorem dX9_findWay_84 : decode cX9_findWay 84 = .ok (.iload_n 3, 1) := by decide +kernel
theorem dX9_findWay_85 : decode cX9_findWay 85 = .ok (.iconst 1, 1) := by decide +kernel
theorem dX9_findWay_86 : decode cX9_findWay 86 = .ok (.if_icmp .ne 9, 3) := by decide +kernel
theorem dX9_findWay_89 : decode cX9_findWay 89 = .ok (.iload_n 2, 1) := by decide +kernel
theorem dX9_findWay_90 : decode cX9_findWay 90 = .ok (.iconst 4, 1) := by decide +kernel
theorem dX9_findWay_91 : decode cX9_findWay 91 = .ok (.idiv, 1) := by decide +kernel
theorem dX9_findWay_92 : decode cX9_findWay 92 = .ok (.goto 6, 3) := by decide +kernel
theorem dX9_findWay_95 : decode cX9_findWay 95 = .ok (.iload_n 2, 1) := by decide +kernel
theorem dX9_findWay_96 : decode cX9_findWay 96 = .ok (.iconst 4, 1) := by decide +kernel
theorem dX9_findWay_97 : decode cX9_findWay 97 = .ok (.irem, 1) := by decide +kernel
theorem dX9_findWay_98 : decode cX9_findWay 98 = .ok (.invokevirtual 69, 3) := by decide +kernel
theorem dX9_findWay_101 : decode cX9_findWay 101 = .ok (.istore 5, 2) := by decide +kernel
theorem dX9_findWay_103 : decode cX9_findWay 103 = .ok (.aload_n 0, 1) := by decide +kernel
theorem dX9_findWay_104 : decode cX9_findWay 104 = .ok (.getfield 22, 3) := by decide +kernel
theorem dX9_findWay_107 : decode cX9_findWay 107 = .ok (.iload_n 3, 1) := by decide +kernel
theorem dX9_findWay_108 : decode cX9_findWay 108 = .ok (.iload 5, 2) := by decide +kernel
theorem dX9_findWay_110 : decode cX9_findWay 110 = .ok (.sipush 256, 3) := by decide +kernel
theorem dX9_findWay_113 : decode cX9_findWay 113 = .ok (.idiv, 1) := by decide +kernel
theorem dX9_findWay_114 : decode cX9_findWay 114 = .ok (.iastore, 1) := by decide +kernel
theorem dX9_findWay_115 : decode cX9_findWay 115 = .ok (.aload_n 0, 1) := by decide +kernel
theorem dX9_findWay_116 : decode cX9_findWay 116 = .ok (.getfield 25, 3) := by decide +kernel
theorem dX9_findWay_119 : decode cX9_findWay 119 = .ok (.iload_n 3, 1) := by decide +kernel
theorem dX9_findWay_120 : decode cX9_findWay 120 = .ok (.iload 5, 2) := by decide +kernel
theorem dX9_findWay_122 : decode cX9_findWay 122 = .ok (.sipush 256, 3) := by decide +kernel
theorem dX9_findWay_125 : decode cX9_findWay 125 = .ok (.irem, 1) := by decide +kernel
theorem dX9_findWay_126 : decode cX9_findWay 126 = .ok (.iastore, 1) := by decide +kernel
theorem dX9_findWay_127 : decode cX9_findWay 127 = .ok (.aload_n 0, 1) := by decide +kernel
theorem dX9_findWay_128 : decode cX9_findWay 128 = .ok (.getfield 28, 3) := by decide +kernel
theorem dX9_findWay_131 : decode cX9_findWay 131 = .ok (.iload_n 3, 1) := by decide +kernel
theorem dX9_findWay_132 : decode cX9_findWay 132 = .ok (.iload 4, 2) := by decide +kernel
theorem dX9_findWay_134 : decode cX9_findWay 134 = .ok (.ifCond .eq 22, 3) := by decide +kernel
theorem dX9_findWay_137 : decode cX9_findWay 137 = .ok (.aload_n 0, 1) := by decide +kernel
theorem dX9_findWay_138 : decode cX9_findWay 138 = .ok (.aload_n 0, 1) := by decide +kernel
theorem dX9_findWay_139 : decode cX9_findWay 139 = .ok (.getfield 22, 3) := by decide +kernel
theorem dX9_findWay_142 : decode cX9_findWay 142 = .ok (.iload_n 3, 1) := by decide +kernel
theorem dX9_findWay_143 : decode cX9_findWay 143 = .ok (.iaload, 1) := by decide +kernel
theorem dX9_findWay_144 : decode cX9_findWay 144 = .ok (.aload_n 0, 1) := by decide +kernel
theorem dX9_findWay_145 : decode cX9_findWay 145 = .ok (.getfield 25, 3) := by decide +kernel
theorem dX9_findWay_148 : decode cX9_findWay 148 = .ok (.iload_n 3, 1) := by decide +kernel
theorem dX9_findWay_149 : decode cX9_findWay 149 = .ok (.iaload, 1) := by decide +kernel
theorem dX9_findWay_150 : decode cX9_findWay 150 = .ok (.invokevirtual 85, 3) := by decide +kernel
theorem dX9_findWay_153 : decode cX9_findWay 153 = .ok (.goto 4, 3) := by decide +kernel
theorem dX9_findWay_156 : decode cX9_findWay 156 = .ok (.iconst (-1), 1) := by decide +kernel
theorem dX9_findWay_157 : decode cX9_findWay 157 = .ok (.iastore, 1) := by decide +kernel
theorem dX9_findWay_158 : decode cX9_findWay 158 = .ok (.iinc 3 1, 3) := by decide +kernel
theorem dX9_findWay_161 : decode cX9_findWay 161 = .ok (.goto (-135), 3) := by decide +kernel
theorem dX9_findWay_164 : decode cX9_findWay 164 = .ok (.aload_n 0, 1) := by decide +kernel
theorem dX9_findWay_165 : decode cX9_findWay 165 = .ok (.getfield 28, 3) := by decide +kernel
theorem dX9_findWay_168 : decode cX9_findWay 168 = .ok (.iconst 2, 1) := by decide +kernel
theorem dX9_findWay_169 : decode cX9_findWay 169 = .ok (.iaload, 1) := by decide +kernel
theorem dX9_findWay_170 : decode cX9_findWay 170 = .ok (.iconst 0, 1) := by decide +kernel
theorem dX9_findWay_171 : decode cX9_findWay 171 = .ok (.iconst 1, 1) := by decide +kernel
theorem dX9_findWay_172 : decode cX9_findWay 172 = .ok (.invokestatic 78, 3) := by decide +kernel
theorem dX9_findWay_175 : decode cX9_findWay 175 = .ok (.ireturn, 1) := by decide +kernel
set_option maxRecDepth 20000 in
theorem ggX9_mendAt_X9_setBoth : GoodIn wsX9_mendAt wsX9_setBoth := goodIn_r _ [7, 8, 9, 10, 6, 11, 12, 13, 14, 15, 16, 17, 18, 19, 20, 21, 22, 23, 24, 25, 26, 27, 28, 29, 30, 31, 32, 33, 34, 35] (by decide +kernel) (by decide +kernel)
set_option maxRecDepth 20000 in
theorem gX9_mendAt_X9_setBoth : GoodIn wsX9_mendAt (wsV RX9 53 RX9 yX9_setBoth wsX9_setBoth) := goodIn_app (goodIn_of _ (by decide +kernel)) ggX9_mendAt_X9_setBoth
theorem dX9_mendAt_0 : decode cX9_mendAt 0 = .ok (.iconst 0, 1) := by decide +kernel
theorem dX9_mendAt_1 : decode cX9_mendAt 1 = .ok (.istore_n 2, 1) := by decide +kernel
theorem dX9_mendAt_2 : decode cX9_mendAt 2 = .ok (.iload_n 2, 1) := by decide +kernel
theorem dX9_mendAt_3 : decode cX9_mendAt 3 = .ok (.iconst 4, 1) := by decide +kernel
theorem dX9_mendAt_4 : decode cX9_mendAt 4 = .ok (.if_icmp .ge 30, 3) := by decide +kernel
theorem dX9_mendAt_7 : decode cX9_mendAt 7 = .ok (.aload_n 0, 1) := by decide +kernel
theorem dX9_mendAt_8 : decode cX9_mendAt 8 = .ok (.aload_n 0, 1) := by decide +kernel
theorem dX9_mendAt_9 : decode cX9_mendAt 9 = .ok (.getfield 22, 3) := by decide +kernel
theorem dX9_mendAt_12 : decode cX9_mendAt 12 = .ok (.iload_n 1, 1) := by decide +kernel
theorem dX9_mendAt_13 : decode cX9_mendAt 13 = .ok (.iaload, 1) := by decide +kernel
theorem dX9_mendAt_14 : decode cX9_mendAt 14 = .ok (.iload_n 2, 1) := by decide +kernel
theorem dX9_mendAt_15 : decode cX9_mendAt 15 = .ok (.aload_n 0, 1) := by decide +kernel
theorem dX9_mendAt_16 : decode cX9_mendAt 16 = .ok (.getfield 31, 3) := by decide +kernel
theorem dX9_mendAt_19 : decode cX9_mendAt 19 = .ok (.iconst 4, 1) := by decide +kernel
theorem dX9_mendAt_20 : decode cX9_mendAt 20 = .ok (.iload_n 1, 1) := by decide +kernel
theorem dX9_mendAt_21 : decode cX9_mendAt 21 = .ok (.imul, 1) := by decide +kernel
theorem dX9_mendAt_22 : decode cX9_mendAt 22 = .ok (.iload_n 2, 1) := by decide +kernel
theorem dX9_mendAt_23 : decode cX9_mendAt 23 = .ok (.iadd, 1) := by decide +kernel
theorem dX9_mendAt_24 : decode cX9_mendAt 24 = .ok (.iaload, 1) := by decide +kernel
theorem dX9_mendAt_25 : decode cX9_mendAt 25 = .ok (.invokevirtual 53, 3) := by decide +kernel
theorem dX9_mendAt_28 : decode cX9_mendAt 28 = .ok (.iinc 2 1, 3) := by decide +kernel
theorem dX9_mendAt_31 : decode cX9_mendAt 31 = .ok (.goto (-29), 3) := by decide +kernel
theorem dX9_mendAt_34 : decode cX9_mendAt 34 = .ok (.return_, 1) := by decide +kernel
set_option maxRecDepth 20000 in
theorem ggX9_mendWay_X9_findWay : GoodIn wsX9_mendWay wsX9_findWay := goodIn_r _ [8, 3, 9, 2, 10, 11, 12, 7, 13, 14, 15, 16, 17, 18, 19, 20, 21, 22, 23, 24, 25, 26, 27, 28, 29, 30, 31, 32, 49, 50, 51, 52, 53, 54, 55, 56, 57, 58, 59, 60, 61, 62, 63, 64, 65, 66, 67, 68, 69, 70, 71] (by decide +kernel) (by decide +kernel)
set_option maxRecDepth 20000 in
theorem gX9_mendWay_X9_findWay : GoodIn wsX9_mendWay (wsV RX9 88 RX9 yX9_findWay wsX9_findWay) := goodIn_app (goodIn_of _ (by decide +kernel)) ggX9_mendWay_X9_findWay
set_option maxRecDepth 20000 in
theorem ggX9_mendWay_X9_within : GoodIn wsX9_mendWay wsX9_within := goodIn_r _ [17] (by decide +kernel) (by decide +kernel)
set_option maxRecDepth 20000 in
theorem gX9_mendWay_X9_within : GoodIn wsX9_mendWay (va_wsS RX9 78 yX9_within wsX9_within) := goodIn_app (goodIn_of _ (by decide +kernel)) ggX9_mendWay_X9_within
set_option maxRecDepth 20000 in
theorem ggX9_mendWay_X9_contentOf : GoodIn wsX9_mendWay wsX9_contentOf := goodIn_r _ [21, 14, 49, 50, 51, 52, 53, 54, 55, 56, 57, 58, 59, 60, 61, 62, 63, 64, 65, 66, 67, 68, 69, 70, 71] (by decide +kernel) (by decide +kernel)
set_option maxRecDepth 20000 in
theorem gX9_mendWay_X9_contentOf : GoodIn wsX9_mendWay (wsV RX9 69 RX9 yX9_contentOf wsX9_contentOf) := goodIn_app (goodIn_of _ (by decide +kernel)) ggX9_mendWay_X9_contentOf
set_option maxRecDepth 20000 in
theorem ggX9_mendWay_X9_areUnlike : GoodIn wsX9_mendWay wsX9_areUnlike := goodIn_r _ [36, 18, 19, 20, 7, 21, 14, 49, 50, 51, 52, 53, 54, 55, 56, 57, 58, 59, 60, 61, 62, 63, 64, 65, 66, 67, 68, 69, 70, 71] (by decide +kernel) (by decide +kernel)
set_option maxRecDepth 20000 in
theorem gX9_mendWay_X9_areUnlike : GoodIn wsX9_mendWay (wsV RX9 92 RX9 yX9_areUnlike wsX9_areUnlike) := goodIn_app (goodIn_of _ (by decide +kernel)) ggX9_mendWay_X9_areUnlike
set_option maxRecDepth 20000 in
theorem ggX9_mendWay_X9_mendAt : GoodIn wsX9_mendWay wsX9_mendAt := goodIn_r _ [40, 3, 1, 41, 42, 43, 7, 44, 45, 46, 47, 48, 14, 49, 50, 51, 52, 53, 54, 55, 56, 57, 58, 59, 60, 61, 62, 63, 64, 65, 66, 67, 68, 69, 70, 71] (by decide +kernel) (by decide +kernel)
set_option maxRecDepth 20000 in
theorem gX9_mendWay_X9_mendAt : GoodIn wsX9_mendWay (wsV RX9 96 RX9 yX9_mendAt wsX9_mendAt) := goodIn_app (goodIn_of _ (by decide +kernel)) ggX9_mendWay_X9_mendAt
theorem dX9_mendWay_0 : decode cX9_mendWay 0 = .ok (.aload_n 0, 1) := by decide +kernel
theorem dX9_mendWay_1 : decode cX9_mendWay 1 = .ok (.iload_n 1, 1) := by decide +kernel
theorem dX9_mendWay_2 : decode cX9_mendWay 2 = .ok (.iload_n 2, 1) := by decide +kernel
theorem dX9_mendWay_3 : decode cX9_mendWay 3 = .ok (.invokevirtual 88, 3) := by decide +kernel
theorem dX9_mendWay_6 : decode cX9_mendWay 6 = .ok (.pop, 1) := by decide +kernel
theorem dX9_mendWay_7 : decode cX9_mendWay 7 = .ok (.iconst 0, 1) := by decide +kernel
theorem dX9_mendWay_8 : decode cX9_mendWay 8 = .ok (.istore_n 3, 1) := by decide +kernel
theorem dX9_mendWay_9 : decode cX9_mendWay 9 = .ok (.iload_n 3, 1) := by decide +kernel
theorem dX9_mendWay_10 : decode cX9_mendWay 10 = .ok (.bipush 12, 2) := by decide +kernel
theorem dX9_mendWay_12 : decode cX9_mendWay 12 = .ok (.if_icmp .ge 58, 3) := by decide +kernel
theorem dX9_mendWay_15 : decode cX9_mendWay 15 = .ok (.aload_n 0, 1) := by decide +kernel
theorem dX9_mendWay_16 : decode cX9_mendWay 16 = .ok (.getfield 31, 3) := by decide +kernel
theorem dX9_mendWay_19 : decode cX9_mendWay 19 = .ok (.iload_n 3, 1) := by decide +kernel
theorem dX9_mendWay_20 : decode cX9_mendWay 20 = .ok (.aload_n 0, 1) := by decide +kernel
theorem dX9_mendWay_21 : decode cX9_mendWay 21 = .ok (.getfield 28, 3) := by decide +kernel
theorem dX9_mendWay_24 : decode cX9_mendWay 24 = .ok (.iload_n 3, 1) := by decide +kernel
theorem dX9_mendWay_25 : decode cX9_mendWay 25 = .ok (.iconst 4, 1) := by decide +kernel
theorem dX9_mendWay_26 : decode cX9_mendWay 26 = .ok (.idiv, 1) := by decide +kernel
theorem dX9_mendWay_27 : decode cX9_mendWay 27 = .ok (.iaload, 1) := by decide +kernel
theorem dX9_mendWay_28 : decode cX9_mendWay 28 = .ok (.iconst 0, 1) := by decide +kernel
theorem dX9_mendWay_29 : decode cX9_mendWay 29 = .ok (.iconst 1, 1) := by decide +kernel
theorem dX9_mendWay_30 : decode cX9_mendWay 30 = .ok (.invokestatic 78, 3) := by decide +kernel
theorem dX9_mendWay_33 : decode cX9_mendWay 33 = .ok (.ifCond .eq 29, 3) := by decide +kernel
theorem dX9_mendWay_36 : decode cX9_mendWay 36 = .ok (.aload_n 0, 1) := by decide +kernel
theorem dX9_mendWay_37 : decode cX9_mendWay 37 = .ok (.aload_n 0, 1) := by decide +kernel
theorem dX9_mendWay_38 : decode cX9_mendWay 38 = .ok (.getfield 28, 3) := by decide +kernel
theorem dX9_mendWay_41 : decode cX9_mendWay 41 = .ok (.iload_n 3, 1) := by decide +kernel
theorem dX9_mendWay_42 : decode cX9_mendWay 42 = .ok (.iconst 4, 1) := by decide +kernel
theorem dX9_mendWay_43 : decode cX9_mendWay 43 = .ok (.idiv, 1) := by decide +kernel
theorem dX9_mendWay_44 : decode cX9_mendWay 44 = .ok (.iaload, 1) := by decide +kernel
theorem dX9_mendWay_45 : decode cX9_mendWay 45 = .ok (.aload_n 0, 1) := by decide +kernel
theorem dX9_mendWay_46 : decode cX9_mendWay 46 = .ok (.getfield 22, 3) := by decide +kernel
theorem dX9_mendWay_49 : decode cX9_mendWay 49 = .ok (.iload_n 3, 1) := by decide +kernel
theorem dX9_mendWay_50 : decode cX9_mendWay 50 = .ok (.iconst 4, 1) := by decide +kernel
theorem dX9_mendWay_51 : decode cX9_mendWay 51 = .ok (.idiv, 1) := by decide +kernel
theorem dX9_mendWay_52 : decode cX9_mendWay 52 = .ok (.iaload, 1) := by decide +kernel
theorem dX9_mendWay_53 : decode cX9_mendWay 53 = .ok (.iload_n 3, 1) := by decide +kernel
theorem dX9_mendWay_54 : decode cX9_mendWay 54 = .ok (.iconst 4, 1) := by decide +kernel
theorem dX9_mendWay_55 : decode cX9_mendWay 55 = .ok (.irem, 1) := by decide +kernel
theorem dX9_mendWay_56 : decode cX9_mendWay 56 = .ok (.invokevirtual 69, 3) := by decide +kernel
theorem dX9_mendWay_59 : decode cX9_mendWay 59 = .ok (.goto 4, 3) := by decide +kernel
theorem dX9_mendWay_62 : decode cX9_mendWay 62 = .ok (.iconst 0, 1) := by decide +kernel
theorem dX9_mendWay_63 : decode cX9_mendWay 63 = .ok (.iastore, 1) := by decide +kernel
theorem dX9_mendWay_64 : decode cX9_mendWay 64 = .ok (.iinc 3 1, 3) := by decide +kernel
theorem dX9_mendWay_67 : decode cX9_mendWay 67 = .ok (.goto (-58), 3) := by decide +kernel
theorem dX9_mendWay_70 : decode cX9_mendWay 70 = .ok (.iconst 0, 1) := by decide +kernel
theorem dX9_mendWay_71 : decode cX9_mendWay 71 = .ok (.istore_n 3, 1) := by decide +kernel
theorem dX9_mendWay_72 : decode cX9_mendWay 72 = .ok (.iconst 0, 1) := by decide +kernel
theorem dX9_mendWay_73 : decode cX9_mendWay 73 = .ok (.istore 4, 2) := by decide +kernel
theorem dX9_mendWay_75 : decode cX9_mendWay 75 = .ok (.iload 4, 2) := by decide +kernel
theorem dX9_mendWay_77 : decode cX9_mendWay 77 = .ok (.iconst 3, 1) := by decide +kernel
theorem dX9_mendWay_78 : decode cX9_mendWay 78 = .ok (.if_icmp .ge 52, 3) := by decide +kernel
theorem dX9_mendWay_81 : decode cX9_mendWay 81 = .ok (.aload_n 0, 1) := by decide +kernel
theorem dX9_mendWay_82 : decode cX9_mendWay 82 = .ok (.getfield 28, 3) := by decide +kernel
theorem dX9_mendWay_85 : decode cX9_mendWay 85 = .ok (.iload 4, 2) := by decide +kernel
theorem dX9_mendWay_87 : decode cX9_mendWay 87 = .ok (.iaload, 1) := by decide +kernel
theorem dX9_mendWay_88 : decode cX9_mendWay 88 = .ok (.iconst 0, 1) := by decide +kernel
theorem dX9_mendWay_89 : decode cX9_mendWay 89 = .ok (.iconst 1, 1) := by decide +kernel
theorem dX9_mendWay_90 : decode cX9_mendWay 90 = .ok (.invokestatic 78, 3) := by decide +kernel
theorem dX9_mendWay_93 : decode cX9_mendWay 93 = .ok (.ifCond .eq 31, 3) := by decide +kernel
theorem dX9_mendWay_96 : decode cX9_mendWay 96 = .ok (.iload_n 3, 1) := by decide +kernel
theorem dX9_mendWay_97 : decode cX9_mendWay 97 = .ok (.aload_n 0, 1) := by decide +kernel
theorem dX9_mendWay_98 : decode cX9_mendWay 98 = .ok (.aload_n 0, 1) := by decide +kernel
theorem dX9_mendWay_99 : decode cX9_mendWay 99 = .ok (.getfield 22, 3) := by decide +kernel
theorem dX9_mendWay_102 : decode cX9_mendWay 102 = .ok (.iload 4, 2) := by decide +kernel
theorem dX9_mendWay_104 : decode cX9_mendWay 104 = .ok (.iaload, 1) := by decide +kernel
theorem dX9_mendWay_105 : decode cX9_mendWay 105 = .ok (.invokevirtual 92, 3) := by decide +kernel
theorem dX9_mendWay_108 : decode cX9_mendWay 108 = .ok (.ifCond .eq 7, 3) := by decide +kernel
theorem dX9_mendWay_111 : decode cX9_mendWay 111 = .ok (.iconst 1, 1) := by decide +kernel
theorem dX9_mendWay_112 : decode cX9_mendWay 112 = .ok (.goto 4, 3) := by decide +kernel
theorem dX9_mendWay_115 : decode cX9_mendWay 115 = .ok (.iconst 0, 1) := by decide +kernel
theorem dX9_mendWay_116 : decode cX9_mendWay 116 = .ok (.iadd, 1) := by decide +kernel
theorem dX9_mendWay_117 : decode cX9_mendWay 117 = .ok (.istore_n 3, 1) := by decide +kernel
theorem dX9_mendWay_118 : decode cX9_mendWay 118 = .ok (.aload_n 0, 1) := by decide +kernel
theorem dX9_mendWay_119 : decode cX9_mendWay 119 = .ok (.iload 4, 2) := by decide +kernel
theorem dX9_mendWay_121 : decode cX9_mendWay 121 = .ok (.invokevirtual 96, 3) := by decide +kernel
theorem dX9_mendWay_124 : decode cX9_mendWay 124 = .ok (.iinc 4 1, 3) := by decide +kernel
theorem dX9_mendWay_127 : decode cX9_mendWay 127 = .ok (.goto (-52), 3) := by decide +kernel
theorem dX9_mendWay_130 : decode cX9_mendWay 130 = .ok (.iload_n 3, 1) := by decide +kernel
theorem dX9_mendWay_131 : decode cX9_mendWay 131 = .ok (.ireturn, 1) := by decide +kernel
set_option maxRecDepth 20000 in
theorem ggX9_whyNotWritten_X9_isLeaf : GoodIn wsX9_whyNotWritten wsX9_isLeaf := goodIn_r _ [8, 9, 10, 7, 11] (by decide +kernel) (by decide +kernel)
set_option maxRecDepth 20000 in
theorem gX9_whyNotWritten_X9_isLeaf : GoodIn wsX9_whyNotWritten (va_wsS RX9 100 yX9_isLeaf wsX9_isLeaf) := goodIn_app (goodIn_of _ (by decide +kernel)) ggX9_whyNotWritten_X9_isLeaf
set_option maxRecDepth 20000 in
theorem ggX9_whyNotWritten_X9_within : GoodIn wsX9_whyNotWritten wsX9_within := goodIn_r _ [11] (by decide +kernel) (by decide +kernel)
set_option maxRecDepth 20000 in
theorem gX9_whyNotWritten_X9_within : GoodIn wsX9_whyNotWritten (va_wsS RX9 78 yX9_within wsX9_within) := goodIn_app (goodIn_of _ (by decide +kernel)) ggX9_whyNotWritten_X9_within
set_option maxRecDepth 20000 in
theorem ggX9_whyNotWritten_X9_freeMany : GoodIn wsX9_whyNotWritten wsX9_freeMany := goodIn_r _ [15, 2, 42, 43, 44, 45, 46, 47, 48, 49, 50, 51, 52, 53, 54, 55, 56, 57, 58, 59, 60, 61, 62, 63, 64] (by decide +kernel) (by decide +kernel)
set_option maxRecDepth 20000 in
theorem gX9_whyNotWritten_X9_freeMany : GoodIn wsX9_whyNotWritten (wsV RX9 104 RX9 yX9_freeMany wsX9_freeMany) := goodIn_app (goodIn_of _ (by decide +kernel)) ggX9_whyNotWritten_X9_freeMany
set_option maxRecDepth 20000 in
theorem ggX9_whyNotWritten_X9_findWay : GoodIn wsX9_whyNotWritten wsX9_findWay := goodIn_r _ [19, 20, 21, 22, 23, 24, 25, 7, 26, 2, 9, 10, 11, 27, 28, 29, 30, 31, 32, 33, 34, 35, 36, 37, 38, 39, 40, 41, 42, 43, 44, 45, 46, 47, 48, 49, 50, 51, 52, 53, 54, 55, 56, 57, 58, 59, 60, 61, 62, 63, 64] (by decide +kernel) (by decide +kernel)
set_option maxRecDepth 20000 in
theorem gX9_whyNotWritten_X9_findWay : GoodIn wsX9_whyNotWritten (wsV RX9 88 RX9 yX9_findWay wsX9_findWay) := goodIn_app (goodIn_of _ (by decide +kernel)) ggX9_whyNotWritten_X9_findWay
theorem dX9_whyNotWritten_0 : decode cX9_whyNotWritten 0 = .ok (.iload_n 1, 1) := by decide +kernel
theorem dX9_whyNotWritten_1 : decode cX9_whyNotWritten 1 = .ok (.invokestatic 100, 3) := by decide +kernel
theorem dX9_whyNotWritten_4 : decode cX9_whyNotWritten 4 = .ok (.ifCond .eq 23, 3) := by decide +kernel
theorem dX9_whyNotWritten_7 : decode cX9_whyNotWritten 7 = .ok (.iload_n 2, 1) := by decide +kernel
theorem dX9_whyNotWritten_8 : decode cX9_whyNotWritten 8 = .ok (.iconst 0, 1) := by decide +kernel
theorem dX9_whyNotWritten_9 : decode cX9_whyNotWritten 9 = .ok (.iconst 3, 1) := by decide +kernel
theorem dX9_whyNotWritten_10 : decode cX9_whyNotWritten 10 = .ok (.invokestatic 78, 3) := by decide +kernel
theorem dX9_whyNotWritten_13 : decode cX9_whyNotWritten 13 = .ok (.ifCond .eq 14, 3) := by decide +kernel
theorem dX9_whyNotWritten_16 : decode cX9_whyNotWritten 16 = .ok (.iload_n 3, 1) := by decide +kernel
theorem dX9_whyNotWritten_17 : decode cX9_whyNotWritten 17 = .ok (.iconst 0, 1) := by decide +kernel
theorem dX9_whyNotWritten_18 : decode cX9_whyNotWritten 18 = .ok (.sipush 999, 3) := by decide +kernel
theorem dX9_whyNotWritten_21 : decode cX9_whyNotWritten 21 = .ok (.invokestatic 78, 3) := by decide +kernel
theorem dX9_whyNotWritten_24 : decode cX9_whyNotWritten 24 = .ok (.ifCond .ne 6, 3) := by decide +kernel
theorem dX9_whyNotWritten_27 : decode cX9_whyNotWritten 27 = .ok (.ldc 103, 2) := by decide +kernel
theorem dX9_whyNotWritten_29 : decode cX9_whyNotWritten 29 = .ok (.ireturn, 1) := by decide +kernel
theorem dX9_whyNotWritten_30 : decode cX9_whyNotWritten 30 = .ok (.aload_n 0, 1) := by decide +kernel
theorem dX9_whyNotWritten_31 : decode cX9_whyNotWritten 31 = .ok (.getfield 7, 3) := by decide +kernel
theorem dX9_whyNotWritten_34 : decode cX9_whyNotWritten 34 = .ok (.sipush 864, 3) := by decide +kernel
theorem dX9_whyNotWritten_37 : decode cX9_whyNotWritten 37 = .ok (.iaload, 1) := by decide +kernel
theorem dX9_whyNotWritten_38 : decode cX9_whyNotWritten 38 = .ok (.bipush 8, 2) := by decide +kernel
theorem dX9_whyNotWritten_40 : decode cX9_whyNotWritten 40 = .ok (.if_icmp .eq 11, 3) := by decide +kernel
theorem dX9_whyNotWritten_43 : decode cX9_whyNotWritten 43 = .ok (.aload_n 0, 1) := by decide +kernel
theorem dX9_whyNotWritten_44 : decode cX9_whyNotWritten 44 = .ok (.invokevirtual 104, 3) := by decide +kernel
theorem dX9_whyNotWritten_47 : decode cX9_whyNotWritten 47 = .ok (.iconst 3, 1) := by decide +kernel
theorem dX9_whyNotWritten_48 : decode cX9_whyNotWritten 48 = .ok (.if_icmp .ge 6, 3) := by decide +kernel
theorem dX9_whyNotWritten_51 : decode cX9_whyNotWritten 51 = .ok (.ldc 108, 2) := by decide +kernel
theorem dX9_whyNotWritten_53 : decode cX9_whyNotWritten 53 = .ok (.ireturn, 1) := by decide +kernel
theorem dX9_whyNotWritten_54 : decode cX9_whyNotWritten 54 = .ok (.aload_n 0, 1) := by decide +kernel
theorem dX9_whyNotWritten_55 : decode cX9_whyNotWritten 55 = .ok (.iconst 0, 1) := by decide +kernel
theorem dX9_whyNotWritten_56 : decode cX9_whyNotWritten 56 = .ok (.iload_n 1, 1) := by decide +kernel
theorem dX9_whyNotWritten_57 : decode cX9_whyNotWritten 57 = .ok (.invokevirtual 88, 3) := by decide +kernel
theorem dX9_whyNotWritten_60 : decode cX9_whyNotWritten 60 = .ok (.ifCond .eq 7, 3) := by decide +kernel
theorem dX9_whyNotWritten_63 : decode cX9_whyNotWritten 63 = .ok (.iconst 0, 1) := by decide +kernel
theorem dX9_whyNotWritten_64 : decode cX9_whyNotWritten 64 = .ok (.goto 5, 3) := by decide +kernel
theorem dX9_whyNotWritten_67 : decode cX9_whyNotWritten 67 = .ok (.ldc 109, 2) := by decide +kernel
theorem dX9_whyNotWritten_69 : decode cX9_whyNotWritten 69 = .ok (.ireturn, 1) := by decide +kernel
set_option maxRecDepth 20000 in
theorem ggX9_lays_X9_setBoth : GoodIn wsX9_lays wsX9_setBoth := goodIn_r _ [5, 6, 7, 8, 4, 9, 10, 11, 12, 13, 14, 15, 16, 17, 18, 19, 20, 21, 22, 23, 24, 25, 26, 27, 28, 29, 30, 31, 32, 33] (by decide +kernel) (by decide +kernel)
set_option maxRecDepth 20000 in
theorem gX9_lays_X9_setBoth : GoodIn wsX9_lays (wsV RX9 53 RX9 yX9_setBoth wsX9_setBoth) := goodIn_app (goodIn_of _ (by decide +kernel)) ggX9_lays_X9_setBoth
theorem dX9_lays_0 : decode cX9_lays 0 = .ok (.iconst 0, 1) := by decide +kernel
theorem dX9_lays_1 : decode cX9_lays 1 = .ok (.istore_n 3, 1) := by decide +kernel
theorem dX9_lays_2 : decode cX9_lays 2 = .ok (.iload_n 3, 1) := by decide +kernel
theorem dX9_lays_3 : decode cX9_lays 3 = .ok (.iconst 4, 1) := by decide +kernel
theorem dX9_lays_4 : decode cX9_lays 4 = .ok (.if_icmp .ge 18, 3) := by decide +kernel
theorem dX9_lays_7 : decode cX9_lays 7 = .ok (.aload_n 0, 1) := by decide +kernel
theorem dX9_lays_8 : decode cX9_lays 8 = .ok (.iload_n 1, 1) := by decide +kernel
theorem dX9_lays_9 : decode cX9_lays 9 = .ok (.iload_n 3, 1) := by decide +kernel
theorem dX9_lays_10 : decode cX9_lays 10 = .ok (.aload_n 2, 1) := by decide +kernel
theorem dX9_lays_11 : decode cX9_lays 11 = .ok (.iload_n 3, 1) := by decide +kernel
theorem dX9_lays_12 : decode cX9_lays 12 = .ok (.iaload, 1) := by decide +kernel
theorem dX9_lays_13 : decode cX9_lays 13 = .ok (.invokevirtual 53, 3) := by decide +kernel
theorem dX9_lays_16 : decode cX9_lays 16 = .ok (.iinc 3 1, 3) := by decide +kernel
theorem dX9_lays_19 : decode cX9_lays 19 = .ok (.goto (-17), 3) := by decide +kernel
theorem dX9_lays_22 : decode cX9_lays 22 = .ok (.return_, 1) := by decide +kernel
set_option maxRecDepth 20000 in
theorem ggX9_sumIn_X9_sumFrom : GoodIn wsX9_sumIn wsX9_sumFrom := goodIn_r _ [4] (by decide +kernel) (by decide +kernel)
set_option maxRecDepth 20000 in
theorem gX9_sumIn_X9_sumFrom : GoodIn wsX9_sumIn (va_wsS RX9 73 yX9_sumFrom wsX9_sumFrom) := goodIn_app (goodIn_of _ (by decide +kernel)) ggX9_sumIn_X9_sumFrom
theorem dX9_sumIn_0 : decode cX9_sumIn 0 = .ok (.aload_n 0, 1) := by decide +kernel
theorem dX9_sumIn_1 : decode cX9_sumIn 1 = .ok (.iconst 0, 1) := by decide +kernel
theorem dX9_sumIn_2 : decode cX9_sumIn 2 = .ok (.iaload, 1) := by decide +kernel
theorem dX9_sumIn_3 : decode cX9_sumIn 3 = .ok (.aload_n 0, 1) := by decide +kernel
theorem dX9_sumIn_4 : decode cX9_sumIn 4 = .ok (.iconst 1, 1) := by decide +kernel
theorem dX9_sumIn_5 : decode cX9_sumIn 5 = .ok (.iaload, 1) := by decide +kernel
theorem dX9_sumIn_6 : decode cX9_sumIn 6 = .ok (.aload_n 0, 1) := by decide +kernel
theorem dX9_sumIn_7 : decode cX9_sumIn 7 = .ok (.iconst 2, 1) := by decide +kernel
theorem dX9_sumIn_8 : decode cX9_sumIn 8 = .ok (.iaload, 1) := by decide +kernel
theorem dX9_sumIn_9 : decode cX9_sumIn 9 = .ok (.aload_n 0, 1) := by decide +kernel
theorem dX9_sumIn_10 : decode cX9_sumIn 10 = .ok (.iconst 3, 1) := by decide +kernel
theorem dX9_sumIn_11 : decode cX9_sumIn 11 = .ok (.iaload, 1) := by decide +kernel
theorem dX9_sumIn_12 : decode cX9_sumIn 12 = .ok (.invokestatic 73, 3) := by decide +kernel
theorem dX9_sumIn_15 : decode cX9_sumIn 15 = .ok (.ireturn, 1) := by decide +kernel
set_option maxRecDepth 20000 in
theorem ggX9_bringsBack_X9_setContent : GoodIn wsX9_bringsBack wsX9_setContent := goodIn_r _ [6, 7, 8, 9, 10, 11, 12, 13, 14, 15, 16, 17, 18, 19, 20, 21, 22, 23, 24, 25, 26, 27, 28, 29, 30] (by decide +kernel) (by decide +kernel)
set_option maxRecDepth 20000 in
theorem gX9_bringsBack_X9_setContent : GoodIn wsX9_bringsBack (wsV RX9 65 RX9 yX9_setContent wsX9_setContent) := goodIn_app (goodIn_of _ (by decide +kernel)) ggX9_bringsBack_X9_setContent
theorem dX9_bringsBack_0 : decode cX9_bringsBack 0 = .ok (.iload_n 2, 1) := by decide +kernel
theorem dX9_bringsBack_1 : decode cX9_bringsBack 1 = .ok (.istore_n 3, 1) := by decide +kernel
theorem dX9_bringsBack_2 : decode cX9_bringsBack 2 = .ok (.iload_n 3, 1) := by decide +kernel
theorem dX9_bringsBack_3 : decode cX9_bringsBack 3 = .ok (.iconst 4, 1) := by decide +kernel
theorem dX9_bringsBack_4 : decode cX9_bringsBack 4 = .ok (.if_icmp .ge 22, 3) := by decide +kernel
theorem dX9_bringsBack_7 : decode cX9_bringsBack 7 = .ok (.aload_n 0, 1) := by decide +kernel
theorem dX9_bringsBack_8 : decode cX9_bringsBack 8 = .ok (.iconst 0, 1) := by decide +kernel
theorem dX9_bringsBack_9 : decode cX9_bringsBack 9 = .ok (.iload_n 1, 1) := by decide +kernel
theorem dX9_bringsBack_10 : decode cX9_bringsBack 10 = .ok (.iload_n 3, 1) := by decide +kernel
theorem dX9_bringsBack_11 : decode cX9_bringsBack 11 = .ok (.aload_n 0, 1) := by decide +kernel
theorem dX9_bringsBack_12 : decode cX9_bringsBack 12 = .ok (.getfield 43, 3) := by decide +kernel
theorem dX9_bringsBack_15 : decode cX9_bringsBack 15 = .ok (.iload_n 3, 1) := by decide +kernel
theorem dX9_bringsBack_16 : decode cX9_bringsBack 16 = .ok (.iaload, 1) := by decide +kernel
theorem dX9_bringsBack_17 : decode cX9_bringsBack 17 = .ok (.invokevirtual 65, 3) := by decide +kernel
theorem dX9_bringsBack_20 : decode cX9_bringsBack 20 = .ok (.iinc 3 1, 3) := by decide +kernel
theorem dX9_bringsBack_23 : decode cX9_bringsBack 23 = .ok (.goto (-21), 3) := by decide +kernel
theorem dX9_bringsBack_26 : decode cX9_bringsBack 26 = .ok (.return_, 1) := by decide +kernel
set_option maxRecDepth 20000 in
theorem ggX9_remembers_X9_contentOf : GoodIn wsX9_remembers wsX9_contentOf := goodIn_r _ [6, 7, 8, 9, 10, 11, 12, 13, 14, 15, 16, 17, 18, 19, 20, 21, 22, 23, 24, 25, 26, 27, 28, 29, 30] (by decide +kernel) (by decide +kernel)
set_option maxRecDepth 20000 in
theorem gX9_remembers_X9_contentOf : GoodIn wsX9_remembers (wsV RX9 69 RX9 yX9_contentOf wsX9_contentOf) := goodIn_app (goodIn_of _ (by decide +kernel)) ggX9_remembers_X9_contentOf
theorem dX9_remembers_0 : decode cX9_remembers 0 = .ok (.iconst 0, 1) := by decide +kernel
theorem dX9_remembers_1 : decode cX9_remembers 1 = .ok (.istore_n 2, 1) := by decide +kernel
theorem dX9_remembers_2 : decode cX9_remembers 2 = .ok (.iload_n 2, 1) := by decide +kernel
theorem dX9_remembers_3 : decode cX9_remembers 3 = .ok (.iconst 4, 1) := by decide +kernel
theorem dX9_remembers_4 : decode cX9_remembers 4 = .ok (.if_icmp .ge 22, 3) := by decide +kernel
theorem dX9_remembers_7 : decode cX9_remembers 7 = .ok (.aload_n 0, 1) := by decide +kernel
theorem dX9_remembers_8 : decode cX9_remembers 8 = .ok (.getfield 43, 3) := by decide +kernel
theorem dX9_remembers_11 : decode cX9_remembers 11 = .ok (.iload_n 2, 1) := by decide +kernel
theorem dX9_remembers_12 : decode cX9_remembers 12 = .ok (.aload_n 0, 1) := by decide +kernel
theorem dX9_remembers_13 : decode cX9_remembers 13 = .ok (.iconst 0, 1) := by decide +kernel
theorem dX9_remembers_14 : decode cX9_remembers 14 = .ok (.iload_n 1, 1) := by decide +kernel
theorem dX9_remembers_15 : decode cX9_remembers 15 = .ok (.iload_n 2, 1) := by decide +kernel
theorem dX9_remembers_16 : decode cX9_remembers 16 = .ok (.invokevirtual 69, 3) := by decide +kernel
theorem dX9_remembers_19 : decode cX9_remembers 19 = .ok (.iastore, 1) := by decide +kernel
theorem dX9_remembers_20 : decode cX9_remembers 20 = .ok (.iinc 2 1, 3) := by decide +kernel
theorem dX9_remembers_23 : decode cX9_remembers 23 = .ok (.goto (-21), 3) := by decide +kernel
theorem dX9_remembers_26 : decode cX9_remembers 26 = .ok (.return_, 1) := by decide +kernel
set_option maxRecDepth 20000 in
theorem ggX9_newBlock_X9_firstFree : GoodIn wsX9_newBlock wsX9_firstFree := goodIn_r _ [6, 7, 1, 8, 9, 10, 11, 12, 13, 14, 15, 16, 17, 18, 19, 20, 21, 22, 23, 24, 25, 26, 27, 28, 29, 30] (by decide +kernel) (by decide +kernel)
set_option maxRecDepth 20000 in
theorem gX9_newBlock_X9_firstFree : GoodIn wsX9_newBlock (wsV RX9 110 RX9 yX9_firstFree wsX9_firstFree) := goodIn_app (goodIn_of _ (by decide +kernel)) ggX9_newBlock_X9_firstFree
theorem dX9_newBlock_0 : decode cX9_newBlock 0 = .ok (.aload_n 0, 1) := by decide +kernel
theorem dX9_newBlock_1 : decode cX9_newBlock 1 = .ok (.invokevirtual 110, 3) := by decide +kernel
theorem dX9_newBlock_4 : decode cX9_newBlock 4 = .ok (.istore_n 1, 1) := by decide +kernel
theorem dX9_newBlock_5 : decode cX9_newBlock 5 = .ok (.aload_n 0, 1) := by decide +kernel
theorem dX9_newBlock_6 : decode cX9_newBlock 6 = .ok (.getfield 7, 3) := by decide +kernel
theorem dX9_newBlock_9 : decode cX9_newBlock 9 = .ok (.sipush 768, 3) := by decide +kernel
theorem dX9_newBlock_12 : decode cX9_newBlock 12 = .ok (.iload_n 1, 1) := by decide +kernel
theorem dX9_newBlock_13 : decode cX9_newBlock 13 = .ok (.iadd, 1) := by decide +kernel
theorem dX9_newBlock_14 : decode cX9_newBlock 14 = .ok (.iconst 1, 1) := by decide +kernel
theorem dX9_newBlock_15 : decode cX9_newBlock 15 = .ok (.iastore, 1) := by decide +kernel
theorem dX9_newBlock_16 : decode cX9_newBlock 16 = .ok (.iload_n 1, 1) := by decide +kernel
theorem dX9_newBlock_17 : decode cX9_newBlock 17 = .ok (.ireturn, 1) := by decide +kernel
set_option maxRecDepth 20000 in
theorem ggX9_written_X9_contentOf : GoodIn wsX9_written wsX9_contentOf := goodIn_r _ [11, 6, 48, 49, 50, 51, 52, 53, 54, 55, 56, 57, 58, 59, 60, 61, 62, 63, 64, 65, 66, 67, 68, 69, 70] (by decide +kernel) (by decide +kernel)
set_option maxRecDepth 20000 in
theorem gX9_written_X9_contentOf : GoodIn wsX9_written (wsV RX9 69 RX9 yX9_contentOf wsX9_contentOf) := goodIn_app (goodIn_of _ (by decide +kernel)) ggX9_written_X9_contentOf
set_option maxRecDepth 20000 in
theorem ggX9_written_X9_newBlock : GoodIn wsX9_written wsX9_newBlock := goodIn_r _ [15, 6, 16, 17, 18, 10, 19, 20, 48, 49, 50, 51, 52, 53, 54, 55, 56, 57, 58, 59, 60, 61, 62, 63, 64, 65, 66, 67, 68, 69, 70] (by decide +kernel) (by decide +kernel)
set_option maxRecDepth 20000 in
theorem gX9_written_X9_newBlock : GoodIn wsX9_written (wsV RX9 113 RX9 yX9_newBlock wsX9_newBlock) := goodIn_app (goodIn_of _ (by decide +kernel)) ggX9_written_X9_newBlock
set_option maxRecDepth 20000 in
theorem ggX9_written_X9_remembers : GoodIn wsX9_written wsX9_remembers := goodIn_r _ [24, 25, 7, 8, 9, 10, 11, 6, 48, 49, 50, 51, 52, 53, 54, 55, 56, 57, 58, 59, 60, 61, 62, 63, 64, 65, 66, 67, 68, 69, 70] (by decide +kernel) (by decide +kernel)
set_option maxRecDepth 20000 in
theorem gX9_written_X9_remembers : GoodIn wsX9_written (wsV RX9 116 RX9 yX9_remembers wsX9_remembers) := goodIn_app (goodIn_of _ (by decide +kernel)) ggX9_written_X9_remembers
set_option maxRecDepth 20000 in
theorem ggX9_written_X9_lays : GoodIn wsX9_written wsX9_lays := goodIn_r _ [29, 30, 31, 32, 10, 33, 34, 35, 36, 37, 6, 48, 49, 50, 51, 52, 53, 54, 55, 56, 57, 58, 59, 60, 61, 62, 63, 64, 65, 66, 67, 68, 69, 70] (by decide +kernel) (by decide +kernel)
set_option maxRecDepth 20000 in
theorem gX9_written_X9_lays : GoodIn wsX9_written (wsV RX9 119 RX9 yX9_lays wsX9_lays) := goodIn_app (goodIn_of _ (by decide +kernel)) ggX9_written_X9_lays
set_option maxRecDepth 20000 in
theorem ggX9_written_X9_bringsBack : GoodIn wsX9_written wsX9_bringsBack := goodIn_r _ [41, 25, 34, 35, 36, 10, 37, 6, 48, 49, 50, 51, 52, 53, 54, 55, 56, 57, 58, 59, 60, 61, 62, 63, 64, 65, 66, 67, 68, 69, 70] (by decide +kernel) (by decide +kernel)
set_option maxRecDepth 20000 in
theorem gX9_written_X9_bringsBack : GoodIn wsX9_written (wsV RX9 123 RX9 yX9_bringsBack wsX9_bringsBack) := goodIn_app (goodIn_of _ (by decide +kernel)) ggX9_written_X9_bringsBack
set_option maxRecDepth 20000 in
theorem ggX9_written_X9_sumIn : GoodIn wsX9_written wsX9_sumIn := goodIn_r _ [44, 45, 46, 10, 47] (by decide +kernel) (by decide +kernel)
set_option maxRecDepth 20000 in
theorem gX9_written_X9_sumIn : GoodIn wsX9_written (va_wsS RX9 127 yX9_sumIn wsX9_sumIn) := goodIn_app (goodIn_of _ (by decide +kernel)) ggX9_written_X9_sumIn
set_option maxRecDepth 20000 in
theorem ggX9_written_X9_setContent : GoodIn wsX9_written wsX9_setContent := goodIn_r _ [37, 6, 48, 49, 50, 51, 52, 53, 54, 55, 56, 57, 58, 59, 60, 61, 62, 63, 64, 65, 66, 67, 68, 69, 70] (by decide +kernel) (by decide +kernel)
set_option maxRecDepth 20000 in
theorem gX9_written_X9_setContent : GoodIn wsX9_written (wsV RX9 65 RX9 yX9_setContent wsX9_setContent) := goodIn_app (goodIn_of _ (by decide +kernel)) ggX9_written_X9_setContent
theorem dX9_written_0 : decode cX9_written 0 = .ok (.iconst 0, 1) := by decide +kernel
theorem dX9_written_1 : decode cX9_written 1 = .ok (.istore 4, 2) := by decide +kernel
theorem dX9_written_3 : decode cX9_written 3 = .ok (.iload 4, 2) := by decide +kernel
theorem dX9_written_5 : decode cX9_written 5 = .ok (.iconst 4, 1) := by decide +kernel
theorem dX9_written_6 : decode cX9_written 6 = .ok (.if_icmp .ge 84, 3) := by decide +kernel
theorem dX9_written_9 : decode cX9_written 9 = .ok (.aload_n 0, 1) := by decide +kernel
theorem dX9_written_10 : decode cX9_written 10 = .ok (.getfield 40, 3) := by decide +kernel
theorem dX9_written_13 : decode cX9_written 13 = .ok (.iload 4, 2) := by decide +kernel
theorem dX9_written_15 : decode cX9_written 15 = .ok (.aload_n 0, 1) := by decide +kernel
theorem dX9_written_16 : decode cX9_written 16 = .ok (.aload_n 0, 1) := by decide +kernel
theorem dX9_written_17 : decode cX9_written 17 = .ok (.getfield 28, 3) := by decide +kernel
theorem dX9_written_20 : decode cX9_written 20 = .ok (.iconst 0, 1) := by decide +kernel
theorem dX9_written_21 : decode cX9_written 21 = .ok (.iaload, 1) := by decide +kernel
theorem dX9_written_22 : decode cX9_written 22 = .ok (.aload_n 0, 1) := by decide +kernel
theorem dX9_written_23 : decode cX9_written 23 = .ok (.getfield 22, 3) := by decide +kernel
theorem dX9_written_26 : decode cX9_written 26 = .ok (.iconst 0, 1) := by decide +kernel
theorem dX9_written_27 : decode cX9_written 27 = .ok (.iaload, 1) := by decide +kernel
theorem dX9_written_28 : decode cX9_written 28 = .ok (.iload 4, 2) := by decide +kernel
theorem dX9_written_30 : decode cX9_written 30 = .ok (.invokevirtual 69, 3) := by decide +kernel
theorem dX9_written_33 : decode cX9_written 33 = .ok (.iastore, 1) := by decide +kernel
theorem dX9_written_34 : decode cX9_written 34 = .ok (.aload_n 0, 1) := by decide +kernel
theorem dX9_written_35 : decode cX9_written 35 = .ok (.getfield 37, 3) := by decide +kernel
theorem dX9_written_38 : decode cX9_written 38 = .ok (.iload 4, 2) := by decide +kernel
theorem dX9_written_40 : decode cX9_written 40 = .ok (.aload_n 0, 1) := by decide +kernel
theorem dX9_written_41 : decode cX9_written 41 = .ok (.aload_n 0, 1) := by decide +kernel
theorem dX9_written_42 : decode cX9_written 42 = .ok (.getfield 28, 3) := by decide +kernel
theorem dX9_written_45 : decode cX9_written 45 = .ok (.iconst 1, 1) := by decide +kernel
theorem dX9_written_46 : decode cX9_written 46 = .ok (.iaload, 1) := by decide +kernel
theorem dX9_written_47 : decode cX9_written 47 = .ok (.aload_n 0, 1) := by decide +kernel
theorem dX9_written_48 : decode cX9_written 48 = .ok (.getfield 22, 3) := by decide +kernel
theorem dX9_written_51 : decode cX9_written 51 = .ok (.iconst 1, 1) := by decide +kernel
theorem dX9_written_52 : decode cX9_written 52 = .ok (.iaload, 1) := by decide +kernel
theorem dX9_written_53 : decode cX9_written 53 = .ok (.iload 4, 2) := by decide +kernel
theorem dX9_written_55 : decode cX9_written 55 = .ok (.invokevirtual 69, 3) := by decide +kernel
theorem dX9_written_58 : decode cX9_written 58 = .ok (.iastore, 1) := by decide +kernel
theorem dX9_written_59 : decode cX9_written 59 = .ok (.aload_n 0, 1) := by decide +kernel
theorem dX9_written_60 : decode cX9_written 60 = .ok (.getfield 34, 3) := by decide +kernel
theorem dX9_written_63 : decode cX9_written 63 = .ok (.iload 4, 2) := by decide +kernel
theorem dX9_written_65 : decode cX9_written 65 = .ok (.aload_n 0, 1) := by decide +kernel
theorem dX9_written_66 : decode cX9_written 66 = .ok (.aload_n 0, 1) := by decide +kernel
theorem dX9_written_67 : decode cX9_written 67 = .ok (.getfield 28, 3) := by decide +kernel
theorem dX9_written_70 : decode cX9_written 70 = .ok (.iconst 2, 1) := by decide +kernel
theorem dX9_written_71 : decode cX9_written 71 = .ok (.iaload, 1) := by decide +kernel
theorem dX9_written_72 : decode cX9_written 72 = .ok (.aload_n 0, 1) := by decide +kernel
theorem dX9_written_73 : decode cX9_written 73 = .ok (.getfield 22, 3) := by decide +kernel
theorem dX9_written_76 : decode cX9_written 76 = .ok (.iconst 2, 1) := by decide +kernel
theorem dX9_written_77 : decode cX9_written 77 = .ok (.iaload, 1) := by decide +kernel
theorem dX9_written_78 : decode cX9_written 78 = .ok (.iload 4, 2) := by decide +kernel
theorem dX9_written_80 : decode cX9_written 80 = .ok (.invokevirtual 69, 3) := by decide +kernel
theorem dX9_written_83 : decode cX9_written 83 = .ok (.iastore, 1) := by decide +kernel
theorem dX9_written_84 : decode cX9_written 84 = .ok (.iinc 4 1, 3) := by decide +kernel
theorem dX9_written_87 : decode cX9_written 87 = .ok (.goto (-84), 3) := by decide +kernel
theorem dX9_written_90 : decode cX9_written 90 = .ok (.aload_n 0, 1) := by decide +kernel
theorem dX9_written_91 : decode cX9_written 91 = .ok (.getfield 34, 3) := by decide +kernel
theorem dX9_written_94 : decode cX9_written 94 = .ok (.iload_n 2, 1) := by decide +kernel
theorem dX9_written_95 : decode cX9_written 95 = .ok (.iaload, 1) := by decide +kernel
theorem dX9_written_96 : decode cX9_written 96 = .ok (.istore 4, 2) := by decide +kernel
theorem dX9_written_98 : decode cX9_written 98 = .ok (.aload_n 0, 1) := by decide +kernel
theorem dX9_written_99 : decode cX9_written 99 = .ok (.getfield 7, 3) := by decide +kernel
theorem dX9_written_102 : decode cX9_written 102 = .ok (.sipush 866, 3) := by decide +kernel
theorem dX9_written_105 : decode cX9_written 105 = .ok (.iaload, 1) := by decide +kernel
theorem dX9_written_106 : decode cX9_written 106 = .ok (.istore 5, 2) := by decide +kernel
theorem dX9_written_108 : decode cX9_written 108 = .ok (.aload_n 0, 1) := by decide +kernel
theorem dX9_written_109 : decode cX9_written 109 = .ok (.getfield 34, 3) := by decide +kernel
theorem dX9_written_112 : decode cX9_written 112 = .ok (.iload_n 2, 1) := by decide +kernel
theorem dX9_written_113 : decode cX9_written 113 = .ok (.iload_n 3, 1) := by decide +kernel
theorem dX9_written_114 : decode cX9_written 114 = .ok (.iastore, 1) := by decide +kernel
theorem dX9_written_115 : decode cX9_written 115 = .ok (.aload_n 0, 1) := by decide +kernel
theorem dX9_written_116 : decode cX9_written 116 = .ok (.invokevirtual 113, 3) := by decide +kernel
theorem dX9_written_119 : decode cX9_written 119 = .ok (.istore 6, 2) := by decide +kernel
theorem dX9_written_121 : decode cX9_written 121 = .ok (.aload_n 0, 1) := by decide +kernel
theorem dX9_written_122 : decode cX9_written 122 = .ok (.iload 6, 2) := by decide +kernel
theorem dX9_written_124 : decode cX9_written 124 = .ok (.invokevirtual 116, 3) := by decide +kernel
theorem dX9_written_127 : decode cX9_written 127 = .ok (.aload_n 0, 1) := by decide +kernel
theorem dX9_written_128 : decode cX9_written 128 = .ok (.iload 6, 2) := by decide +kernel
theorem dX9_written_130 : decode cX9_written 130 = .ok (.aload_n 0, 1) := by decide +kernel
theorem dX9_written_131 : decode cX9_written 131 = .ok (.getfield 34, 3) := by decide +kernel
theorem dX9_written_134 : decode cX9_written 134 = .ok (.invokevirtual 119, 3) := by decide +kernel
theorem dX9_written_137 : decode cX9_written 137 = .ok (.iload 5, 2) := by decide +kernel
theorem dX9_written_139 : decode cX9_written 139 = .ok (.iconst 1, 1) := by decide +kernel
theorem dX9_written_140 : decode cX9_written 140 = .ok (.if_icmp .ne 10, 3) := by decide +kernel
theorem dX9_written_143 : decode cX9_written 143 = .ok (.aload_n 0, 1) := by decide +kernel
theorem dX9_written_144 : decode cX9_written 144 = .ok (.iload 6, 2) := by decide +kernel
theorem dX9_written_146 : decode cX9_written 146 = .ok (.iconst 2, 1) := by decide +kernel
theorem dX9_written_147 : decode cX9_written 147 = .ok (.invokevirtual 123, 3) := by decide +kernel
theorem dX9_written_150 : decode cX9_written 150 = .ok (.aload_n 0, 1) := by decide +kernel
theorem dX9_written_151 : decode cX9_written 151 = .ok (.getfield 37, 3) := by decide +kernel
theorem dX9_written_154 : decode cX9_written 154 = .ok (.iload_n 1, 1) := by decide +kernel
theorem dX9_written_155 : decode cX9_written 155 = .ok (.iconst 4, 1) := by decide +kernel
theorem dX9_written_156 : decode cX9_written 156 = .ok (.irem, 1) := by decide +kernel
theorem dX9_written_157 : decode cX9_written 157 = .ok (.sipush 256, 3) := by decide +kernel
theorem dX9_written_160 : decode cX9_written 160 = .ok (.iload 6, 2) := by decide +kernel
theorem dX9_written_162 : decode cX9_written 162 = .ok (.imul, 1) := by decide +kernel
theorem dX9_written_163 : decode cX9_written 163 = .ok (.aload_n 0, 1) := by decide +kernel
theorem dX9_written_164 : decode cX9_written 164 = .ok (.getfield 34, 3) := by decide +kernel
theorem dX9_written_167 : decode cX9_written 167 = .ok (.invokestatic 127, 3) := by decide +kernel
theorem dX9_written_170 : decode cX9_written 170 = .ok (.iadd, 1) := by decide +kernel
theorem dX9_written_171 : decode cX9_written 171 = .ok (.iastore, 1) := by decide +kernel
theorem dX9_written_172 : decode cX9_written 172 = .ok (.aload_n 0, 1) := by decide +kernel
theorem dX9_written_173 : decode cX9_written 173 = .ok (.invokevirtual 113, 3) := by decide +kernel
theorem dX9_written_176 : decode cX9_written 176 = .ok (.istore 7, 2) := by decide +kernel
theorem dX9_written_178 : decode cX9_written 178 = .ok (.aload_n 0, 1) := by decide +kernel
theorem dX9_written_179 : decode cX9_written 179 = .ok (.iload 7, 2) := by decide +kernel
theorem dX9_written_181 : decode cX9_written 181 = .ok (.invokevirtual 116, 3) := by decide +kernel
theorem dX9_written_184 : decode cX9_written 184 = .ok (.aload_n 0, 1) := by decide +kernel
theorem dX9_written_185 : decode cX9_written 185 = .ok (.iload 7, 2) := by decide +kernel
theorem dX9_written_187 : decode cX9_written 187 = .ok (.aload_n 0, 1) := by decide +kernel
theorem dX9_written_188 : decode cX9_written 188 = .ok (.getfield 37, 3) := by decide +kernel
theorem dX9_written_191 : decode cX9_written 191 = .ok (.invokevirtual 119, 3) := by decide +kernel
theorem dX9_written_194 : decode cX9_written 194 = .ok (.iload 5, 2) := by decide +kernel
theorem dX9_written_196 : decode cX9_written 196 = .ok (.iconst 2, 1) := by decide +kernel
theorem dX9_written_197 : decode cX9_written 197 = .ok (.if_icmp .ne 10, 3) := by decide +kernel
theorem dX9_written_200 : decode cX9_written 200 = .ok (.aload_n 0, 1) := by decide +kernel
theorem dX9_written_201 : decode cX9_written 201 = .ok (.iload 7, 2) := by decide +kernel
theorem dX9_written_203 : decode cX9_written 203 = .ok (.iconst 0, 1) := by decide +kernel
theorem dX9_written_204 : decode cX9_written 204 = .ok (.invokevirtual 123, 3) := by decide +kernel
theorem dX9_written_207 : decode cX9_written 207 = .ok (.aload_n 0, 1) := by decide +kernel
theorem dX9_written_208 : decode cX9_written 208 = .ok (.getfield 40, 3) := by decide +kernel
theorem dX9_written_211 : decode cX9_written 211 = .ok (.iload_n 1, 1) := by decide +kernel
theorem dX9_written_212 : decode cX9_written 212 = .ok (.iconst 4, 1) := by decide +kernel
theorem dX9_written_213 : decode cX9_written 213 = .ok (.idiv, 1) := by decide +kernel
theorem dX9_written_214 : decode cX9_written 214 = .ok (.sipush 256, 3) := by decide +kernel
theorem dX9_written_217 : decode cX9_written 217 = .ok (.iload 7, 2) := by decide +kernel
theorem dX9_written_219 : decode cX9_written 219 = .ok (.imul, 1) := by decide +kernel
theorem dX9_written_220 : decode cX9_written 220 = .ok (.aload_n 0, 1) := by decide +kernel
theorem dX9_written_221 : decode cX9_written 221 = .ok (.getfield 37, 3) := by decide +kernel
theorem dX9_written_224 : decode cX9_written 224 = .ok (.invokestatic 127, 3) := by decide +kernel
theorem dX9_written_227 : decode cX9_written 227 = .ok (.iadd, 1) := by decide +kernel
theorem dX9_written_228 : decode cX9_written 228 = .ok (.iastore, 1) := by decide +kernel
theorem dX9_written_229 : decode cX9_written 229 = .ok (.aload_n 0, 1) := by decide +kernel
theorem dX9_written_230 : decode cX9_written 230 = .ok (.invokevirtual 113, 3) := by decide +kernel
theorem dX9_written_233 : decode cX9_written 233 = .ok (.istore 8, 2) := by decide +kernel
theorem dX9_written_235 : decode cX9_written 235 = .ok (.aload_n 0, 1) := by decide +kernel
theorem dX9_written_236 : decode cX9_written 236 = .ok (.iload 8, 2) := by decide +kernel
theorem dX9_written_238 : decode cX9_written 238 = .ok (.aload_n 0, 1) := by decide +kernel
theorem dX9_written_239 : decode cX9_written 239 = .ok (.getfield 40, 3) := by decide +kernel
theorem dX9_written_242 : decode cX9_written 242 = .ok (.invokevirtual 119, 3) := by decide +kernel
theorem dX9_written_245 : decode cX9_written 245 = .ok (.iconst 0, 1) := by decide +kernel
theorem dX9_written_246 : decode cX9_written 246 = .ok (.istore 9, 2) := by decide +kernel
theorem dX9_written_248 : decode cX9_written 248 = .ok (.iload 9, 2) := by decide +kernel
theorem dX9_written_250 : decode cX9_written 250 = .ok (.iconst 4, 1) := by decide +kernel
theorem dX9_written_251 : decode cX9_written 251 = .ok (.if_icmp .ge 47, 3) := by decide +kernel
theorem dX9_written_254 : decode cX9_written 254 = .ok (.iload 5, 2) := by decide +kernel
theorem dX9_written_256 : decode cX9_written 256 = .ok (.iconst 3, 1) := by decide +kernel
theorem dX9_written_257 : decode cX9_written 257 = .ok (.if_icmp .ne 41, 3) := by decide +kernel
theorem dX9_written_260 : decode cX9_written 260 = .ok (.aload_n 0, 1) := by decide +kernel
theorem dX9_written_261 : decode cX9_written 261 = .ok (.iconst 0, 1) := by decide +kernel
theorem dX9_written_262 : decode cX9_written 262 = .ok (.iload 6, 2) := by decide +kernel
theorem dX9_written_264 : decode cX9_written 264 = .ok (.iload 9, 2) := by decide +kernel
theorem dX9_written_266 : decode cX9_written 266 = .ok (.aload_n 0, 1) := by decide +kernel
theorem dX9_written_267 : decode cX9_written 267 = .ok (.getfield 37, 3) := by decide +kernel
theorem dX9_written_270 : decode cX9_written 270 = .ok (.iload 9, 2) := by decide +kernel
theorem dX9_written_272 : decode cX9_written 272 = .ok (.iaload, 1) := by decide +kernel
theorem dX9_written_273 : decode cX9_written 273 = .ok (.invokevirtual 65, 3) := by decide +kernel
theorem dX9_written_276 : decode cX9_written 276 = .ok (.aload_n 0, 1) := by decide +kernel
theorem dX9_written_277 : decode cX9_written 277 = .ok (.iconst 0, 1) := by decide +kernel
theorem dX9_written_278 : decode cX9_written 278 = .ok (.iload 7, 2) := by decide +kernel
theorem dX9_written_280 : decode cX9_written 280 = .ok (.iload 9, 2) := by decide +kernel
theorem dX9_written_282 : decode cX9_written 282 = .ok (.aload_n 0, 1) := by decide +kernel
theorem dX9_written_283 : decode cX9_written 283 = .ok (.getfield 34, 3) := by decide +kernel
theorem dX9_written_286 : decode cX9_written 286 = .ok (.iload 9, 2) := by decide +kernel
theorem dX9_written_288 : decode cX9_written 288 = .ok (.iaload, 1) := by decide +kernel
theorem dX9_written_289 : decode cX9_written 289 = .ok (.invokevirtual 65, 3) := by decide +kernel
theorem dX9_written_292 : decode cX9_written 292 = .ok (.iinc 9 1, 3) := by decide +kernel
theorem dX9_written_295 : decode cX9_written 295 = .ok (.goto (-47), 3) := by decide +kernel
theorem dX9_written_298 : decode cX9_written 298 = .ok (.sipush 868, 3) := by decide +kernel
theorem dX9_written_301 : decode cX9_written 301 = .ok (.iconst 3, 1) := by decide +kernel
theorem dX9_written_302 : decode cX9_written 302 = .ok (.aload_n 0, 1) := by decide +kernel
theorem dX9_written_303 : decode cX9_written 303 = .ok (.getfield 7, 3) := by decide +kernel
theorem dX9_written_306 : decode cX9_written 306 = .ok (.sipush 864, 3) := by decide +kernel
theorem dX9_written_309 : decode cX9_written 309 = .ok (.iaload, 1) := by decide +kernel
theorem dX9_written_310 : decode cX9_written 310 = .ok (.imul, 1) := by decide +kernel
theorem dX9_written_311 : decode cX9_written 311 = .ok (.iadd, 1) := by decide +kernel
theorem dX9_written_312 : decode cX9_written 312 = .ok (.iconst 2, 1) := by decide +kernel
theorem dX9_written_313 : decode cX9_written 313 = .ok (.iadd, 1) := by decide +kernel
theorem dX9_written_314 : decode cX9_written 314 = .ok (.istore 9, 2) := by decide +kernel
theorem dX9_written_316 : decode cX9_written 316 = .ok (.iload 9, 2) := by decide +kernel
theorem dX9_written_318 : decode cX9_written 318 = .ok (.sipush 871, 3) := by decide +kernel
theorem dX9_written_321 : decode cX9_written 321 = .ok (.if_icmp .lt 25, 3) := by decide +kernel
theorem dX9_written_324 : decode cX9_written 324 = .ok (.aload_n 0, 1) := by decide +kernel
theorem dX9_written_325 : decode cX9_written 325 = .ok (.getfield 7, 3) := by decide +kernel
theorem dX9_written_328 : decode cX9_written 328 = .ok (.iload 9, 2) := by decide +kernel
theorem dX9_written_330 : decode cX9_written 330 = .ok (.aload_n 0, 1) := by decide +kernel
theorem dX9_written_331 : decode cX9_written 331 = .ok (.getfield 7, 3) := by decide +kernel
theorem dX9_written_334 : decode cX9_written 334 = .ok (.iload 9, 2) := by decide +kernel
theorem dX9_written_336 : decode cX9_written 336 = .ok (.iconst 3, 1) := by decide +kernel
theorem dX9_written_337 : decode cX9_written 337 = .ok (.isub, 1) := by decide +kernel
theorem dX9_written_338 : decode cX9_written 338 = .ok (.iaload, 1) := by decide +kernel
theorem dX9_written_339 : decode cX9_written 339 = .ok (.iastore, 1) := by decide +kernel
theorem dX9_written_340 : decode cX9_written 340 = .ok (.iinc 9 (-1), 3) := by decide +kernel
theorem dX9_written_343 : decode cX9_written 343 = .ok (.goto (-27), 3) := by decide +kernel
theorem dX9_written_346 : decode cX9_written 346 = .ok (.aload_n 0, 1) := by decide +kernel
theorem dX9_written_347 : decode cX9_written 347 = .ok (.getfield 7, 3) := by decide +kernel
theorem dX9_written_350 : decode cX9_written 350 = .ok (.sipush 868, 3) := by decide +kernel
theorem dX9_written_353 : decode cX9_written 353 = .ok (.aload_n 0, 1) := by decide +kernel
theorem dX9_written_354 : decode cX9_written 354 = .ok (.getfield 7, 3) := by decide +kernel
theorem dX9_written_357 : decode cX9_written 357 = .ok (.sipush 865, 3) := by decide +kernel
theorem dX9_written_360 : decode cX9_written 360 = .ok (.iaload, 1) := by decide +kernel
theorem dX9_written_361 : decode cX9_written 361 = .ok (.iastore, 1) := by decide +kernel
theorem dX9_written_362 : decode cX9_written 362 = .ok (.aload_n 0, 1) := by decide +kernel
theorem dX9_written_363 : decode cX9_written 363 = .ok (.getfield 7, 3) := by decide +kernel
theorem dX9_written_366 : decode cX9_written 366 = .ok (.sipush 869, 3) := by decide +kernel
theorem dX9_written_369 : decode cX9_written 369 = .ok (.iload 8, 2) := by decide +kernel
theorem dX9_written_371 : decode cX9_written 371 = .ok (.iastore, 1) := by decide +kernel
theorem dX9_written_372 : decode cX9_written 372 = .ok (.aload_n 0, 1) := by decide +kernel
theorem dX9_written_373 : decode cX9_written 373 = .ok (.getfield 7, 3) := by decide +kernel
theorem dX9_written_376 : decode cX9_written 376 = .ok (.sipush 870, 3) := by decide +kernel
theorem dX9_written_379 : decode cX9_written 379 = .ok (.aload_n 0, 1) := by decide +kernel
theorem dX9_written_380 : decode cX9_written 380 = .ok (.getfield 40, 3) := by decide +kernel
theorem dX9_written_383 : decode cX9_written 383 = .ok (.invokestatic 127, 3) := by decide +kernel
theorem dX9_written_386 : decode cX9_written 386 = .ok (.iastore, 1) := by decide +kernel
theorem dX9_written_387 : decode cX9_written 387 = .ok (.aload_n 0, 1) := by decide +kernel
theorem dX9_written_388 : decode cX9_written 388 = .ok (.getfield 7, 3) := by decide +kernel
theorem dX9_written_391 : decode cX9_written 391 = .ok (.sipush 864, 3) := by decide +kernel
theorem dX9_written_394 : decode cX9_written 394 = .ok (.dup2, 1) := by decide +kernel
theorem dX9_written_395 : decode cX9_written 395 = .ok (.iaload, 1) := by decide +kernel
theorem dX9_written_396 : decode cX9_written 396 = .ok (.iconst 1, 1) := by decide +kernel
theorem dX9_written_397 : decode cX9_written 397 = .ok (.iadd, 1) := by decide +kernel
theorem dX9_written_398 : decode cX9_written 398 = .ok (.iastore, 1) := by decide +kernel
theorem dX9_written_399 : decode cX9_written 399 = .ok (.aload_n 0, 1) := by decide +kernel
theorem dX9_written_400 : decode cX9_written 400 = .ok (.getfield 7, 3) := by decide +kernel
theorem dX9_written_403 : decode cX9_written 403 = .ok (.sipush 865, 3) := by decide +kernel
theorem dX9_written_406 : decode cX9_written 406 = .ok (.dup2, 1) := by decide +kernel
theorem dX9_written_407 : decode cX9_written 407 = .ok (.iaload, 1) := by decide +kernel
theorem dX9_written_408 : decode cX9_written 408 = .ok (.iconst 1, 1) := by decide +kernel
theorem dX9_written_409 : decode cX9_written 409 = .ok (.iadd, 1) := by decide +kernel
theorem dX9_written_410 : decode cX9_written 410 = .ok (.iastore, 1) := by decide +kernel
theorem dX9_written_411 : decode cX9_written 411 = .ok (.aload_n 0, 1) := by decide +kernel
theorem dX9_written_412 : decode cX9_written 412 = .ok (.getfield 7, 3) := by decide +kernel
theorem dX9_written_415 : decode cX9_written 415 = .ok (.sipush 866, 3) := by decide +kernel
theorem dX9_written_418 : decode cX9_written 418 = .ok (.iconst 0, 1) := by decide +kernel
theorem dX9_written_419 : decode cX9_written 419 = .ok (.iastore, 1) := by decide +kernel
theorem dX9_written_420 : decode cX9_written 420 = .ok (.aload_n 0, 1) := by decide +kernel
theorem dX9_written_421 : decode cX9_written 421 = .ok (.getfield 7, 3) := by decide +kernel
theorem dX9_written_424 : decode cX9_written 424 = .ok (.sipush 867, 3) := by decide +kernel
theorem dX9_written_427 : decode cX9_written 427 = .ok (.dup2, 1) := by decide +kernel
theorem dX9_written_428 : decode cX9_written 428 = .ok (.iaload, 1) := by decide +kernel
theorem dX9_written_429 : decode cX9_written 429 = .ok (.iconst 1, 1) := by decide +kernel
theorem dX9_written_430 : decode cX9_written 430 = .ok (.iadd, 1) := by decide +kernel
theorem dX9_written_431 : decode cX9_written 431 = .ok (.iastore, 1) := by decide +kernel
theorem dX9_written_432 : decode cX9_written 432 = .ok (.iload 4, 2) := by decide +kernel
theorem dX9_written_434 : decode cX9_written 434 = .ok (.ireturn, 1) := by decide +kernel
theorem dX9_owns_0 : decode cX9_owns 0 = .ok (.aload_n 0, 1) := by decide +kernel
theorem dX9_owns_1 : decode cX9_owns 1 = .ok (.getfield 46, 3) := by decide +kernel
theorem dX9_owns_4 : decode cX9_owns 4 = .ok (.iload_n 1, 1) := by decide +kernel
theorem dX9_owns_5 : decode cX9_owns 5 = .ok (.dup2, 1) := by decide +kernel
theorem dX9_owns_6 : decode cX9_owns 6 = .ok (.iaload, 1) := by decide +kernel
theorem dX9_owns_7 : decode cX9_owns 7 = .ok (.iconst 1, 1) := by decide +kernel
theorem dX9_owns_8 : decode cX9_owns 8 = .ok (.iload_n 2, 1) := by decide +kernel
theorem dX9_owns_9 : decode cX9_owns 9 = .ok (.ishl, 1) := by decide +kernel
theorem dX9_owns_10 : decode cX9_owns 10 = .ok (.ior, 1) := by decide +kernel
theorem dX9_owns_11 : decode cX9_owns 11 = .ok (.iastore, 1) := by decide +kernel
theorem dX9_owns_12 : decode cX9_owns 12 = .ok (.return_, 1) := by decide +kernel
set_option maxRecDepth 20000 in
theorem ggX9_toldBy_X9_takenFrom : GoodIn wsX9_toldBy wsX9_takenFrom := goodIn_r _ [5, 6, 7, 8, 4, 9, 10, 11, 12, 13, 14, 15, 16, 17, 18, 19, 20, 21, 22, 23, 24, 25, 26, 27, 28, 29, 30, 31, 32, 33, 34, 35, 36, 37, 38, 39, 40] (by decide +kernel) (by decide +kernel)
set_option maxRecDepth 20000 in
theorem gX9_toldBy_X9_takenFrom : GoodIn wsX9_toldBy (wsV RX9 85 RX9 yX9_takenFrom wsX9_takenFrom) := goodIn_app (goodIn_of _ (by decide +kernel)) ggX9_toldBy_X9_takenFrom
theorem dX9_toldBy_0 : decode cX9_toldBy 0 = .ok (.aload_n 0, 1) := by decide +kernel
theorem dX9_toldBy_1 : decode cX9_toldBy 1 = .ok (.iload_n 1, 1) := by decide +kernel
theorem dX9_toldBy_2 : decode cX9_toldBy 2 = .ok (.iload_n 2, 1) := by decide +kernel
theorem dX9_toldBy_3 : decode cX9_toldBy 3 = .ok (.invokevirtual 85, 3) := by decide +kernel
theorem dX9_toldBy_6 : decode cX9_toldBy 6 = .ok (.iconst 1, 1) := by decide +kernel
theorem dX9_toldBy_7 : decode cX9_toldBy 7 = .ok (.if_icmp .ne 7, 3) := by decide +kernel
theorem dX9_toldBy_10 : decode cX9_toldBy 10 = .ok (.iconst 1, 1) := by decide +kernel
theorem dX9_toldBy_11 : decode cX9_toldBy 11 = .ok (.goto 4, 3) := by decide +kernel
theorem dX9_toldBy_14 : decode cX9_toldBy 14 = .ok (.iconst 0, 1) := by decide +kernel
theorem dX9_toldBy_15 : decode cX9_toldBy 15 = .ok (.ireturn, 1) := by decide +kernel
set_option maxRecDepth 20000 in
theorem ggX9_findOwners_X9_rootPart : GoodIn wsX9_findOwners wsX9_rootPart := goodIn_r _ [7, 2, 35, 36, 37, 38, 39, 40, 41, 42, 43, 44, 45, 46, 47, 48, 49, 50, 51, 52, 53, 54, 55, 56, 57] (by decide +kernel) (by decide +kernel)
set_option maxRecDepth 20000 in
theorem gX9_findOwners_X9_rootPart : GoodIn wsX9_findOwners (wsV RX9 82 RX9 yX9_rootPart wsX9_rootPart) := goodIn_app (goodIn_of _ (by decide +kernel)) ggX9_findOwners_X9_rootPart
set_option maxRecDepth 20000 in
theorem ggX9_findOwners_X9_toldBy : GoodIn wsX9_findOwners wsX9_toldBy := goodIn_r _ [11, 12, 13, 14, 6, 15, 16, 17, 18, 19, 20, 21, 22, 23, 2, 24, 25, 26, 35, 36, 37, 38, 39, 40, 41, 42, 43, 44, 45, 46, 47, 48, 49, 50, 51, 52, 53, 54, 55, 56, 57] (by decide +kernel) (by decide +kernel)
set_option maxRecDepth 20000 in
theorem gX9_findOwners_X9_toldBy : GoodIn wsX9_findOwners (wsV RX9 131 RX9 yX9_toldBy wsX9_toldBy) := goodIn_app (goodIn_of _ (by decide +kernel)) ggX9_findOwners_X9_toldBy
set_option maxRecDepth 20000 in
theorem ggX9_findOwners_X9_owns : GoodIn wsX9_findOwners wsX9_owns := goodIn_r _ [30, 1, 35, 36, 37, 38, 39, 40, 41, 42, 43, 44, 45, 46, 47, 48, 49, 50, 51, 52, 53, 54, 55, 56, 57] (by decide +kernel) (by decide +kernel)
set_option maxRecDepth 20000 in
theorem gX9_findOwners_X9_owns : GoodIn wsX9_findOwners (wsV RX9 134 RX9 yX9_owns wsX9_owns) := goodIn_app (goodIn_of _ (by decide +kernel)) ggX9_findOwners_X9_owns
set_option maxRecDepth 20000 in
theorem ggX9_findOwners_X9_contentOf : GoodIn wsX9_findOwners wsX9_contentOf := goodIn_r _ [23, 2, 35, 36, 37, 38, 39, 40, 41, 42, 43, 44, 45, 46, 47, 48, 49, 50, 51, 52, 53, 54, 55, 56, 57] (by decide +kernel) (by decide +kernel)
set_option maxRecDepth 20000 in
theorem gX9_findOwners_X9_contentOf : GoodIn wsX9_findOwners (wsV RX9 69 RX9 yX9_contentOf wsX9_contentOf) := goodIn_app (goodIn_of _ (by decide +kernel)) ggX9_findOwners_X9_contentOf
set_option maxRecDepth 20000 in
theorem ggX9_findOwners_X9_ownsChildren : GoodIn wsX9_findOwners wsX9_ownsChildren := goodIn_r _ [34, 8, 9, 10, 6, 11, 12, 13, 14, 15, 16, 17, 18, 19, 20, 21, 22, 23, 2, 24, 25, 26, 27, 28, 29, 30, 1, 35, 36, 37, 38, 39, 40, 41, 42, 43, 44, 45, 46, 47, 48, 49, 50, 51, 52, 53, 54, 55, 56, 57] (by decide +kernel) (by decide +kernel)
set_option maxRecDepth 20000 in
theorem gX9_findOwners_X9_ownsChildren : GoodIn wsX9_findOwners (wsV RX9 137 RX9 yX9_ownsChildren wsX9_ownsChildren) := goodIn_app (goodIn_of _ (by decide +kernel)) ggX9_findOwners_X9_ownsChildren
theorem dX9_findOwners_0 : decode cX9_findOwners 0 = .ok (.iconst 0, 1) := by decide +kernel
theorem dX9_findOwners_1 : decode cX9_findOwners 1 = .ok (.istore_n 1, 1) := by decide +kernel
theorem dX9_findOwners_2 : decode cX9_findOwners 2 = .ok (.iload_n 1, 1) := by decide +kernel
theorem dX9_findOwners_3 : decode cX9_findOwners 3 = .ok (.bipush 96, 2) := by decide +kernel
theorem dX9_findOwners_5 : decode cX9_findOwners 5 = .ok (.if_icmp .ge 16, 3) := by decide +kernel
theorem dX9_findOwners_8 : decode cX9_findOwners 8 = .ok (.aload_n 0, 1) := by decide +kernel
theorem dX9_findOwners_9 : decode cX9_findOwners 9 = .ok (.getfield 46, 3) := by decide +kernel
theorem dX9_findOwners_12 : decode cX9_findOwners 12 = .ok (.iload_n 1, 1) := by decide +kernel
theorem dX9_findOwners_13 : decode cX9_findOwners 13 = .ok (.iconst 0, 1) := by decide +kernel
theorem dX9_findOwners_14 : decode cX9_findOwners 14 = .ok (.iastore, 1) := by decide +kernel
theorem dX9_findOwners_15 : decode cX9_findOwners 15 = .ok (.iinc 1 1, 3) := by decide +kernel
theorem dX9_findOwners_18 : decode cX9_findOwners 18 = .ok (.goto (-16), 3) := by decide +kernel
theorem dX9_findOwners_21 : decode cX9_findOwners 21 = .ok (.iconst 0, 1) := by decide +kernel
theorem dX9_findOwners_22 : decode cX9_findOwners 22 = .ok (.istore_n 1, 1) := by decide +kernel
theorem dX9_findOwners_23 : decode cX9_findOwners 23 = .ok (.iload_n 1, 1) := by decide +kernel
theorem dX9_findOwners_24 : decode cX9_findOwners 24 = .ok (.aload_n 0, 1) := by decide +kernel
theorem dX9_findOwners_25 : decode cX9_findOwners 25 = .ok (.getfield 7, 3) := by decide +kernel
theorem dX9_findOwners_28 : decode cX9_findOwners 28 = .ok (.sipush 864, 3) := by decide +kernel
theorem dX9_findOwners_31 : decode cX9_findOwners 31 = .ok (.iaload, 1) := by decide +kernel
theorem dX9_findOwners_32 : decode cX9_findOwners 32 = .ok (.if_icmp .ge 87, 3) := by decide +kernel
theorem dX9_findOwners_35 : decode cX9_findOwners 35 = .ok (.aload_n 0, 1) := by decide +kernel
theorem dX9_findOwners_36 : decode cX9_findOwners 36 = .ok (.iload_n 1, 1) := by decide +kernel
theorem dX9_findOwners_37 : decode cX9_findOwners 37 = .ok (.iconst 1, 1) := by decide +kernel
theorem dX9_findOwners_38 : decode cX9_findOwners 38 = .ok (.invokevirtual 82, 3) := by decide +kernel
theorem dX9_findOwners_41 : decode cX9_findOwners 41 = .ok (.istore_n 2, 1) := by decide +kernel
theorem dX9_findOwners_42 : decode cX9_findOwners 42 = .ok (.aload_n 0, 1) := by decide +kernel
theorem dX9_findOwners_43 : decode cX9_findOwners 43 = .ok (.iload_n 2, 1) := by decide +kernel
theorem dX9_findOwners_44 : decode cX9_findOwners 44 = .ok (.aload_n 0, 1) := by decide +kernel
theorem dX9_findOwners_45 : decode cX9_findOwners 45 = .ok (.iload_n 1, 1) := by decide +kernel
theorem dX9_findOwners_46 : decode cX9_findOwners 46 = .ok (.iconst 2, 1) := by decide +kernel
theorem dX9_findOwners_47 : decode cX9_findOwners 47 = .ok (.invokevirtual 82, 3) := by decide +kernel
theorem dX9_findOwners_50 : decode cX9_findOwners 50 = .ok (.invokevirtual 131, 3) := by decide +kernel
theorem dX9_findOwners_53 : decode cX9_findOwners 53 = .ok (.istore_n 3, 1) := by decide +kernel
theorem dX9_findOwners_54 : decode cX9_findOwners 54 = .ok (.aload_n 0, 1) := by decide +kernel
theorem dX9_findOwners_55 : decode cX9_findOwners 55 = .ok (.iload_n 2, 1) := by decide +kernel
theorem dX9_findOwners_56 : decode cX9_findOwners 56 = .ok (.iload_n 1, 1) := by decide +kernel
theorem dX9_findOwners_57 : decode cX9_findOwners 57 = .ok (.invokevirtual 134, 3) := by decide +kernel
theorem dX9_findOwners_60 : decode cX9_findOwners 60 = .ok (.iconst 0, 1) := by decide +kernel
theorem dX9_findOwners_61 : decode cX9_findOwners 61 = .ok (.istore 4, 2) := by decide +kernel
theorem dX9_findOwners_63 : decode cX9_findOwners 63 = .ok (.iload 4, 2) := by decide +kernel
theorem dX9_findOwners_65 : decode cX9_findOwners 65 = .ok (.iconst 4, 1) := by decide +kernel
theorem dX9_findOwners_66 : decode cX9_findOwners 66 = .ok (.if_icmp .ge 47, 3) := by decide +kernel
theorem dX9_findOwners_69 : decode cX9_findOwners 69 = .ok (.aload_n 0, 1) := by decide +kernel
theorem dX9_findOwners_70 : decode cX9_findOwners 70 = .ok (.iload_n 3, 1) := by decide +kernel
theorem dX9_findOwners_71 : decode cX9_findOwners 71 = .ok (.iload_n 2, 1) := by decide +kernel
theorem dX9_findOwners_72 : decode cX9_findOwners 72 = .ok (.iload 4, 2) := by decide +kernel
theorem dX9_findOwners_74 : decode cX9_findOwners 74 = .ok (.invokevirtual 69, 3) := by decide +kernel
theorem dX9_findOwners_77 : decode cX9_findOwners 77 = .ok (.istore 5, 2) := by decide +kernel
theorem dX9_findOwners_79 : decode cX9_findOwners 79 = .ok (.iload 5, 2) := by decide +kernel
theorem dX9_findOwners_81 : decode cX9_findOwners 81 = .ok (.sipush 256, 3) := by decide +kernel
theorem dX9_findOwners_84 : decode cX9_findOwners 84 = .ok (.idiv, 1) := by decide +kernel
theorem dX9_findOwners_85 : decode cX9_findOwners 85 = .ok (.bipush 96, 2) := by decide +kernel
theorem dX9_findOwners_87 : decode cX9_findOwners 87 = .ok (.if_icmp .ge 20, 3) := by decide +kernel
theorem dX9_findOwners_90 : decode cX9_findOwners 90 = .ok (.aload_n 0, 1) := by decide +kernel
theorem dX9_findOwners_91 : decode cX9_findOwners 91 = .ok (.iload 5, 2) := by decide +kernel
theorem dX9_findOwners_93 : decode cX9_findOwners 93 = .ok (.sipush 256, 3) := by decide +kernel
theorem dX9_findOwners_96 : decode cX9_findOwners 96 = .ok (.idiv, 1) := by decide +kernel
theorem dX9_findOwners_97 : decode cX9_findOwners 97 = .ok (.iload 5, 2) := by decide +kernel
theorem dX9_findOwners_99 : decode cX9_findOwners 99 = .ok (.sipush 256, 3) := by decide +kernel
theorem dX9_findOwners_102 : decode cX9_findOwners 102 = .ok (.irem, 1) := by decide +kernel
theorem dX9_findOwners_103 : decode cX9_findOwners 103 = .ok (.iload_n 1, 1) := by decide +kernel
theorem dX9_findOwners_104 : decode cX9_findOwners 104 = .ok (.invokevirtual 137, 3) := by decide +kernel
theorem dX9_findOwners_107 : decode cX9_findOwners 107 = .ok (.iinc 4 1, 3) := by decide +kernel
theorem dX9_findOwners_110 : decode cX9_findOwners 110 = .ok (.goto (-47), 3) := by decide +kernel
theorem dX9_findOwners_113 : decode cX9_findOwners 113 = .ok (.iinc 1 1, 3) := by decide +kernel
theorem dX9_findOwners_116 : decode cX9_findOwners 116 = .ok (.goto (-93), 3) := by decide +kernel
theorem dX9_findOwners_119 : decode cX9_findOwners 119 = .ok (.return_, 1) := by decide +kernel
set_option maxRecDepth 20000 in
theorem ggX9_ownsChildren_X9_toldBy : GoodIn wsX9_ownsChildren wsX9_toldBy := goodIn_r _ [5, 6, 7, 8, 4, 9, 10, 11, 12, 13, 14, 15, 16, 17, 18, 19, 20, 21, 27, 28, 29, 30, 31, 32, 33, 34, 35, 36, 37, 38, 39, 40, 41, 42, 43, 44, 45, 46, 47, 48, 49] (by decide +kernel) (by decide +kernel)
set_option maxRecDepth 20000 in
theorem gX9_ownsChildren_X9_toldBy : GoodIn wsX9_ownsChildren (wsV RX9 131 RX9 yX9_toldBy wsX9_toldBy) := goodIn_app (goodIn_of _ (by decide +kernel)) ggX9_ownsChildren_X9_toldBy
set_option maxRecDepth 20000 in
theorem ggX9_ownsChildren_X9_owns : GoodIn wsX9_ownsChildren wsX9_owns := goodIn_r _ [25, 26, 27, 28, 29, 30, 31, 32, 33, 34, 35, 36, 37, 38, 39, 40, 41, 42, 43, 44, 45, 46, 47, 48, 49] (by decide +kernel) (by decide +kernel)
set_option maxRecDepth 20000 in
theorem gX9_ownsChildren_X9_owns : GoodIn wsX9_ownsChildren (wsV RX9 134 RX9 yX9_owns wsX9_owns) := goodIn_app (goodIn_of _ (by decide +kernel)) ggX9_ownsChildren_X9_owns
set_option maxRecDepth 20000 in
theorem ggX9_ownsChildren_X9_contentOf : GoodIn wsX9_ownsChildren wsX9_contentOf := goodIn_r _ [17, 18, 27, 28, 29, 30, 31, 32, 33, 34, 35, 36, 37, 38, 39, 40, 41, 42, 43, 44, 45, 46, 47, 48, 49] (by decide +kernel) (by decide +kernel)
set_option maxRecDepth 20000 in
theorem gX9_ownsChildren_X9_contentOf : GoodIn wsX9_ownsChildren (wsV RX9 69 RX9 yX9_contentOf wsX9_contentOf) := goodIn_app (goodIn_of _ (by decide +kernel)) ggX9_ownsChildren_X9_contentOf
theorem dX9_ownsChildren_0 : decode cX9_ownsChildren 0 = .ok (.aload_n 0, 1) := by decide +kernel
theorem dX9_ownsChildren_1 : decode cX9_ownsChildren 1 = .ok (.iload_n 1, 1) := by decide +kernel
theorem dX9_ownsChildren_2 : decode cX9_ownsChildren 2 = .ok (.iload_n 2, 1) := by decide +kernel
theorem dX9_ownsChildren_3 : decode cX9_ownsChildren 3 = .ok (.invokevirtual 131, 3) := by decide +kernel
theorem dX9_ownsChildren_6 : decode cX9_ownsChildren 6 = .ok (.istore 4, 2) := by decide +kernel
theorem dX9_ownsChildren_8 : decode cX9_ownsChildren 8 = .ok (.aload_n 0, 1) := by decide +kernel
theorem dX9_ownsChildren_9 : decode cX9_ownsChildren 9 = .ok (.iload_n 1, 1) := by decide +kernel
theorem dX9_ownsChildren_10 : decode cX9_ownsChildren 10 = .ok (.iload_n 3, 1) := by decide +kernel
theorem dX9_ownsChildren_11 : decode cX9_ownsChildren 11 = .ok (.invokevirtual 134, 3) := by decide +kernel
theorem dX9_ownsChildren_14 : decode cX9_ownsChildren 14 = .ok (.iconst 0, 1) := by decide +kernel
theorem dX9_ownsChildren_15 : decode cX9_ownsChildren 15 = .ok (.istore 5, 2) := by decide +kernel
theorem dX9_ownsChildren_17 : decode cX9_ownsChildren 17 = .ok (.iload 5, 2) := by decide +kernel
theorem dX9_ownsChildren_19 : decode cX9_ownsChildren 19 = .ok (.iconst 4, 1) := by decide +kernel
theorem dX9_ownsChildren_20 : decode cX9_ownsChildren 20 = .ok (.if_icmp .ge 38, 3) := by decide +kernel
theorem dX9_ownsChildren_23 : decode cX9_ownsChildren 23 = .ok (.aload_n 0, 1) := by decide +kernel
theorem dX9_ownsChildren_24 : decode cX9_ownsChildren 24 = .ok (.iload 4, 2) := by decide +kernel
theorem dX9_ownsChildren_26 : decode cX9_ownsChildren 26 = .ok (.iload_n 1, 1) := by decide +kernel
theorem dX9_ownsChildren_27 : decode cX9_ownsChildren 27 = .ok (.iload 5, 2) := by decide +kernel
theorem dX9_ownsChildren_29 : decode cX9_ownsChildren 29 = .ok (.invokevirtual 69, 3) := by decide +kernel
theorem dX9_ownsChildren_32 : decode cX9_ownsChildren 32 = .ok (.sipush 256, 3) := by decide +kernel
theorem dX9_ownsChildren_35 : decode cX9_ownsChildren 35 = .ok (.idiv, 1) := by decide +kernel
theorem dX9_ownsChildren_36 : decode cX9_ownsChildren 36 = .ok (.istore 6, 2) := by decide +kernel
theorem dX9_ownsChildren_38 : decode cX9_ownsChildren 38 = .ok (.iload 6, 2) := by decide +kernel
theorem dX9_ownsChildren_40 : decode cX9_ownsChildren 40 = .ok (.bipush 96, 2) := by decide +kernel
theorem dX9_ownsChildren_42 : decode cX9_ownsChildren 42 = .ok (.if_icmp .ge 10, 3) := by decide +kernel
theorem dX9_ownsChildren_45 : decode cX9_ownsChildren 45 = .ok (.aload_n 0, 1) := by decide +kernel
theorem dX9_ownsChildren_46 : decode cX9_ownsChildren 46 = .ok (.iload 6, 2) := by decide +kernel
theorem dX9_ownsChildren_48 : decode cX9_ownsChildren 48 = .ok (.iload_n 3, 1) := by decide +kernel
theorem dX9_ownsChildren_49 : decode cX9_ownsChildren 49 = .ok (.invokevirtual 134, 3) := by decide +kernel
theorem dX9_ownsChildren_52 : decode cX9_ownsChildren 52 = .ok (.iinc 5 1, 3) := by decide +kernel
theorem dX9_ownsChildren_55 : decode cX9_ownsChildren 55 = .ok (.goto (-38), 3) := by decide +kernel
theorem dX9_ownsChildren_58 : decode cX9_ownsChildren 58 = .ok (.return_, 1) := by decide +kernel
set_option maxRecDepth 20000 in
theorem ggX9_letGo_X9_findOwners : GoodIn wsX9_letGo wsX9_findOwners := goodIn_r _ [7, 1, 2, 8, 9, 10, 6, 11, 12, 13, 14, 15, 16, 17, 18, 19, 20, 21, 22, 23, 24, 25, 26, 27, 28, 29, 30, 31, 32, 33, 34, 35, 36, 37, 38, 39, 40, 41, 42, 43, 44, 45, 46, 47, 48, 49, 50, 51, 52, 53, 54, 55, 56, 57, 58, 59, 60, 61] (by decide +kernel) (by decide +kernel)
set_option maxRecDepth 20000 in
theorem gX9_letGo_X9_findOwners : GoodIn wsX9_letGo (wsV RX9 140 RX9 yX9_findOwners wsX9_findOwners) := goodIn_app (goodIn_of _ (by decide +kernel)) ggX9_letGo_X9_findOwners
theorem dX9_letGo_0 : decode cX9_letGo 0 = .ok (.aload_n 0, 1) := by decide +kernel
theorem dX9_letGo_1 : decode cX9_letGo 1 = .ok (.invokevirtual 140, 3) := by decide +kernel
theorem dX9_letGo_4 : decode cX9_letGo 4 = .ok (.iconst 0, 1) := by decide +kernel
theorem dX9_letGo_5 : decode cX9_letGo 5 = .ok (.istore_n 1, 1) := by decide +kernel
theorem dX9_letGo_6 : decode cX9_letGo 6 = .ok (.iconst 0, 1) := by decide +kernel
theorem dX9_letGo_7 : decode cX9_letGo 7 = .ok (.istore_n 2, 1) := by decide +kernel
theorem dX9_letGo_8 : decode cX9_letGo 8 = .ok (.iload_n 2, 1) := by decide +kernel
theorem dX9_letGo_9 : decode cX9_letGo 9 = .ok (.bipush 96, 2) := by decide +kernel
theorem dX9_letGo_11 : decode cX9_letGo 11 = .ok (.if_icmp .ge 61, 3) := by decide +kernel
theorem dX9_letGo_14 : decode cX9_letGo 14 = .ok (.aload_n 0, 1) := by decide +kernel
theorem dX9_letGo_15 : decode cX9_letGo 15 = .ok (.getfield 46, 3) := by decide +kernel
theorem dX9_letGo_18 : decode cX9_letGo 18 = .ok (.iload_n 2, 1) := by decide +kernel
theorem dX9_letGo_19 : decode cX9_letGo 19 = .ok (.iaload, 1) := by decide +kernel
theorem dX9_letGo_20 : decode cX9_letGo 20 = .ok (.ifCond .ne 7, 3) := by decide +kernel
theorem dX9_letGo_23 : decode cX9_letGo 23 = .ok (.iconst 0, 1) := by decide +kernel
theorem dX9_letGo_24 : decode cX9_letGo 24 = .ok (.goto 4, 3) := by decide +kernel
theorem dX9_letGo_27 : decode cX9_letGo 27 = .ok (.iconst 1, 1) := by decide +kernel
theorem dX9_letGo_28 : decode cX9_letGo 28 = .ok (.istore_n 3, 1) := by decide +kernel
theorem dX9_letGo_29 : decode cX9_letGo 29 = .ok (.iload_n 1, 1) := by decide +kernel
theorem dX9_letGo_30 : decode cX9_letGo 30 = .ok (.aload_n 0, 1) := by decide +kernel
theorem dX9_letGo_31 : decode cX9_letGo 31 = .ok (.getfield 7, 3) := by decide +kernel
theorem dX9_letGo_34 : decode cX9_letGo 34 = .ok (.sipush 768, 3) := by decide +kernel
theorem dX9_letGo_37 : decode cX9_letGo 37 = .ok (.iload_n 2, 1) := by decide +kernel
theorem dX9_letGo_38 : decode cX9_letGo 38 = .ok (.iadd, 1) := by decide +kernel
theorem dX9_letGo_39 : decode cX9_letGo 39 = .ok (.iaload, 1) := by decide +kernel
theorem dX9_letGo_40 : decode cX9_letGo 40 = .ok (.iconst 1, 1) := by decide +kernel
theorem dX9_letGo_41 : decode cX9_letGo 41 = .ok (.if_icmp .ne 11, 3) := by decide +kernel
theorem dX9_letGo_44 : decode cX9_letGo 44 = .ok (.iload_n 3, 1) := by decide +kernel
theorem dX9_letGo_45 : decode cX9_letGo 45 = .ok (.ifCond .ne 7, 3) := by decide +kernel
theorem dX9_letGo_48 : decode cX9_letGo 48 = .ok (.iconst 1, 1) := by decide +kernel
theorem dX9_letGo_49 : decode cX9_letGo 49 = .ok (.goto 4, 3) := by decide +kernel
theorem dX9_letGo_52 : decode cX9_letGo 52 = .ok (.iconst 0, 1) := by decide +kernel
theorem dX9_letGo_53 : decode cX9_letGo 53 = .ok (.iadd, 1) := by decide +kernel
theorem dX9_letGo_54 : decode cX9_letGo 54 = .ok (.istore_n 1, 1) := by decide +kernel
theorem dX9_letGo_55 : decode cX9_letGo 55 = .ok (.aload_n 0, 1) := by decide +kernel
theorem dX9_letGo_56 : decode cX9_letGo 56 = .ok (.getfield 7, 3) := by decide +kernel
theorem dX9_letGo_59 : decode cX9_letGo 59 = .ok (.sipush 768, 3) := by decide +kernel
theorem dX9_letGo_62 : decode cX9_letGo 62 = .ok (.iload_n 2, 1) := by decide +kernel
theorem dX9_letGo_63 : decode cX9_letGo 63 = .ok (.iadd, 1) := by decide +kernel
theorem dX9_letGo_64 : decode cX9_letGo 64 = .ok (.iload_n 3, 1) := by decide +kernel
theorem dX9_letGo_65 : decode cX9_letGo 65 = .ok (.iastore, 1) := by decide +kernel
theorem dX9_letGo_66 : decode cX9_letGo 66 = .ok (.iinc 2 1, 3) := by decide +kernel
theorem dX9_letGo_69 : decode cX9_letGo 69 = .ok (.goto (-61), 3) := by decide +kernel
theorem dX9_letGo_72 : decode cX9_letGo 72 = .ok (.iload_n 1, 1) := by decide +kernel
theorem dX9_letGo_73 : decode cX9_letGo 73 = .ok (.ireturn, 1) := by decide +kernel
theorem dX9_dropRoot_0 : decode cX9_dropRoot 0 = .ok (.sipush 868, 3) := by decide +kernel
theorem dX9_dropRoot_3 : decode cX9_dropRoot 3 = .ok (.iconst 3, 1) := by decide +kernel
theorem dX9_dropRoot_4 : decode cX9_dropRoot 4 = .ok (.iload_n 1, 1) := by decide +kernel
theorem dX9_dropRoot_5 : decode cX9_dropRoot 5 = .ok (.imul, 1) := by decide +kernel
theorem dX9_dropRoot_6 : decode cX9_dropRoot 6 = .ok (.iadd, 1) := by decide +kernel
theorem dX9_dropRoot_7 : decode cX9_dropRoot 7 = .ok (.istore_n 2, 1) := by decide +kernel
theorem dX9_dropRoot_8 : decode cX9_dropRoot 8 = .ok (.iload_n 2, 1) := by decide +kernel
theorem dX9_dropRoot_9 : decode cX9_dropRoot 9 = .ok (.sipush 868, 3) := by decide +kernel
theorem dX9_dropRoot_12 : decode cX9_dropRoot 12 = .ok (.iconst 3, 1) := by decide +kernel
theorem dX9_dropRoot_13 : decode cX9_dropRoot 13 = .ok (.aload_n 0, 1) := by decide +kernel
theorem dX9_dropRoot_14 : decode cX9_dropRoot 14 = .ok (.getfield 7, 3) := by decide +kernel
theorem dX9_dropRoot_17 : decode cX9_dropRoot 17 = .ok (.sipush 864, 3) := by decide +kernel
theorem dX9_dropRoot_20 : decode cX9_dropRoot 20 = .ok (.iaload, 1) := by decide +kernel
theorem dX9_dropRoot_21 : decode cX9_dropRoot 21 = .ok (.iconst 1, 1) := by decide +kernel
theorem dX9_dropRoot_22 : decode cX9_dropRoot 22 = .ok (.isub, 1) := by decide +kernel
