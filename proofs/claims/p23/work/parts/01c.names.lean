set_option maxRecDepth 20000 in
theorem ggX5_carryOut_X7_put : GoodIn wsX5_carryOut wsX7_put := goodIn_r _ [33, 10, 11, 12, 13, 79, 80, 81, 82, 83] (by decide +kernel) (by decide +kernel)
set_option maxRecDepth 20000 in
theorem gX5_carryOut_X7_put : GoodIn wsX5_carryOut (wsV RX5 86 RX7 yX7_put wsX7_put) := goodIn_app (goodIn_of _ (by decide +kernel)) ggX5_carryOut_X7_put
set_option maxRecDepth 20000 in
theorem ggX5_carryOut_X8_childTowards : GoodIn wsX5_carryOut wsX8_childTowards := goodIn_r _ [35] (by decide +kernel) (by decide +kernel)
set_option maxRecDepth 20000 in
theorem gX5_carryOut_X8_childTowards_n88 : GoodIn wsX5_carryOut (wsX8_childTowards) := ggX5_carryOut_X8_childTowards
set_option maxRecDepth 20000 in
theorem ggX5_carryOut_X7_takenSum : GoodIn wsX5_carryOut wsX7_takenSum := goodIn_r _ [39, 10, 11, 12, 13, 40, 41, 79, 80, 81, 82, 83] (by decide +kernel) (by decide +kernel)
set_option maxRecDepth 20000 in
theorem gX5_carryOut_X7_takenSum : GoodIn wsX5_carryOut (wsV RX5 111 RX7 yX7_takenSum wsX7_takenSum) := goodIn_app (goodIn_of _ (by decide +kernel)) ggX5_carryOut_X7_takenSum
set_option maxRecDepth 20000 in
theorem ggX5_carryOut_X5_layFirstCopy : GoodIn wsX5_carryOut wsX5_layFirstCopy := goodIn_r _ [45, 2, 1, 46, 47, 48, 49, 50, 51, 6, 7, 8, 9, 10, 11, 12, 13, 52, 53, 54, 55, 56, 57, 58, 59, 60, 74, 75, 76, 77, 78, 79, 80, 81, 82, 83, 85] (by decide +kernel) (by decide +kernel)
set_option maxRecDepth 20000 in
theorem gX5_carryOut_X5_layFirstCopy : GoodIn wsX5_carryOut (wsV RX5 114 RX5 yX5_layFirstCopy wsX5_layFirstCopy) := goodIn_app (goodIn_of _ (by decide +kernel)) ggX5_carryOut_X5_layFirstCopy
set_option maxRecDepth 20000 in
theorem ggX5_carryOut_X1_lay : GoodIn wsX5_carryOut wsX1_lay := goodIn_r _ [50, 51, 6, 7, 8, 9, 10, 11, 12, 13, 52, 53, 54, 49, 55, 56, 57, 58, 59, 60, 79, 80, 81, 82, 83, 85] (by decide +kernel) (by decide +kernel)
set_option maxRecDepth 20000 in
theorem gX5_carryOut_X1_lay : GoodIn wsX5_carryOut (wsV RX5 117 RX1 yX1_lay wsX1_lay) := goodIn_app (goodIn_of _ (by decide +kernel)) ggX5_carryOut_X1_lay
set_option maxRecDepth 20000 in
theorem ggX5_carryOut_X3_addLatest : GoodIn wsX5_carryOut wsX3_addLatest := goodIn_r _ [65, 66, 67, 68, 69, 70, 71, 72, 64, 73, 11, 12, 13, 86, 87, 88, 89] (by decide +kernel) (by decide +kernel)
set_option maxRecDepth 20000 in
theorem gX5_carryOut_X3_addLatest : GoodIn wsX5_carryOut (wsV RX5 61 RX3 yX3_addLatest wsX3_addLatest) := goodIn_app (goodIn_of _ (by decide +kernel)) ggX5_carryOut_X3_addLatest
theorem dX5_carryOut_0 : decode cX5_carryOut 0 = .ok (.aload_n 1, 1) := by decide +kernel
theorem dX5_carryOut_1 : decode cX5_carryOut 1 = .ok (.iconst 2, 1) := by decide +kernel
theorem dX5_carryOut_2 : decode cX5_carryOut 2 = .ok (.iload_n 3, 1) := by decide +kernel
theorem dX5_carryOut_3 : decode cX5_carryOut 3 = .ok (.invokevirtual 91, 3) := by decide +kernel
theorem dX5_carryOut_6 : decode cX5_carryOut 6 = .ok (.istore 5, 2) := by decide +kernel
theorem dX5_carryOut_8 : decode cX5_carryOut 8 = .ok (.aload_n 0, 1) := by decide +kernel
theorem dX5_carryOut_9 : decode cX5_carryOut 9 = .ok (.invokevirtual 108, 3) := by decide +kernel
theorem dX5_carryOut_12 : decode cX5_carryOut 12 = .ok (.istore 6, 2) := by decide +kernel
theorem dX5_carryOut_14 : decode cX5_carryOut 14 = .ok (.aload_n 0, 1) := by decide +kernel
theorem dX5_carryOut_15 : decode cX5_carryOut 15 = .ok (.invokevirtual 108, 3) := by decide +kernel
theorem dX5_carryOut_18 : decode cX5_carryOut 18 = .ok (.istore 7, 2) := by decide +kernel
theorem dX5_carryOut_20 : decode cX5_carryOut 20 = .ok (.aload_n 0, 1) := by decide +kernel
theorem dX5_carryOut_21 : decode cX5_carryOut 21 = .ok (.invokevirtual 108, 3) := by decide +kernel
theorem dX5_carryOut_24 : decode cX5_carryOut 24 = .ok (.istore 8, 2) := by decide +kernel
theorem dX5_carryOut_26 : decode cX5_carryOut 26 = .ok (.aload_n 1, 1) := by decide +kernel
theorem dX5_carryOut_27 : decode cX5_carryOut 27 = .ok (.iconst 2, 1) := by decide +kernel
theorem dX5_carryOut_28 : decode cX5_carryOut 28 = .ok (.iload_n 3, 1) := by decide +kernel
theorem dX5_carryOut_29 : decode cX5_carryOut 29 = .ok (.iload 4, 2) := by decide +kernel
theorem dX5_carryOut_31 : decode cX5_carryOut 31 = .ok (.invokevirtual 86, 3) := by decide +kernel
theorem dX5_carryOut_34 : decode cX5_carryOut 34 = .ok (.aload_n 1, 1) := by decide +kernel
theorem dX5_carryOut_35 : decode cX5_carryOut 35 = .ok (.iconst 1, 1) := by decide +kernel
theorem dX5_carryOut_36 : decode cX5_carryOut 36 = .ok (.iload_n 2, 1) := by decide +kernel
theorem dX5_carryOut_37 : decode cX5_carryOut 37 = .ok (.iconst 1, 1) := by decide +kernel
theorem dX5_carryOut_38 : decode cX5_carryOut 38 = .ok (.invokestatic 88, 3) := by decide +kernel
theorem dX5_carryOut_41 : decode cX5_carryOut 41 = .ok (.sipush 256, 3) := by decide +kernel
theorem dX5_carryOut_44 : decode cX5_carryOut 44 = .ok (.iload 6, 2) := by decide +kernel
theorem dX5_carryOut_46 : decode cX5_carryOut 46 = .ok (.imul, 1) := by decide +kernel
theorem dX5_carryOut_47 : decode cX5_carryOut 47 = .ok (.aload_n 1, 1) := by decide +kernel
theorem dX5_carryOut_48 : decode cX5_carryOut 48 = .ok (.iconst 2, 1) := by decide +kernel
theorem dX5_carryOut_49 : decode cX5_carryOut 49 = .ok (.invokevirtual 111, 3) := by decide +kernel
theorem dX5_carryOut_52 : decode cX5_carryOut 52 = .ok (.iadd, 1) := by decide +kernel
theorem dX5_carryOut_53 : decode cX5_carryOut 53 = .ok (.invokevirtual 86, 3) := by decide +kernel
theorem dX5_carryOut_56 : decode cX5_carryOut 56 = .ok (.aload_n 1, 1) := by decide +kernel
theorem dX5_carryOut_57 : decode cX5_carryOut 57 = .ok (.iconst 0, 1) := by decide +kernel
theorem dX5_carryOut_58 : decode cX5_carryOut 58 = .ok (.iload_n 2, 1) := by decide +kernel
theorem dX5_carryOut_59 : decode cX5_carryOut 59 = .ok (.iconst 0, 1) := by decide +kernel
theorem dX5_carryOut_60 : decode cX5_carryOut 60 = .ok (.invokestatic 88, 3) := by decide +kernel
theorem dX5_carryOut_63 : decode cX5_carryOut 63 = .ok (.sipush 256, 3) := by decide +kernel
theorem dX5_carryOut_66 : decode cX5_carryOut 66 = .ok (.iload 7, 2) := by decide +kernel
theorem dX5_carryOut_68 : decode cX5_carryOut 68 = .ok (.imul, 1) := by decide +kernel
theorem dX5_carryOut_69 : decode cX5_carryOut 69 = .ok (.aload_n 1, 1) := by decide +kernel
theorem dX5_carryOut_70 : decode cX5_carryOut 70 = .ok (.iconst 1, 1) := by decide +kernel
theorem dX5_carryOut_71 : decode cX5_carryOut 71 = .ok (.invokevirtual 111, 3) := by decide +kernel
theorem dX5_carryOut_74 : decode cX5_carryOut 74 = .ok (.iadd, 1) := by decide +kernel
theorem dX5_carryOut_75 : decode cX5_carryOut 75 = .ok (.invokevirtual 86, 3) := by decide +kernel
theorem dX5_carryOut_78 : decode cX5_carryOut 78 = .ok (.aload_n 0, 1) := by decide +kernel
theorem dX5_carryOut_79 : decode cX5_carryOut 79 = .ok (.aload_n 1, 1) := by decide +kernel
theorem dX5_carryOut_80 : decode cX5_carryOut 80 = .ok (.iload 6, 2) := by decide +kernel
theorem dX5_carryOut_82 : decode cX5_carryOut 82 = .ok (.iload 7, 2) := by decide +kernel
theorem dX5_carryOut_84 : decode cX5_carryOut 84 = .ok (.invokevirtual 114, 3) := by decide +kernel
theorem dX5_carryOut_87 : decode cX5_carryOut 87 = .ok (.aload_n 0, 1) := by decide +kernel
theorem dX5_carryOut_88 : decode cX5_carryOut 88 = .ok (.getfield 12, 3) := by decide +kernel
theorem dX5_carryOut_91 : decode cX5_carryOut 91 = .ok (.iconst 0, 1) := by decide +kernel
theorem dX5_carryOut_92 : decode cX5_carryOut 92 = .ok (.iload 8, 2) := by decide +kernel
theorem dX5_carryOut_94 : decode cX5_carryOut 94 = .ok (.aload_n 1, 1) := by decide +kernel
theorem dX5_carryOut_95 : decode cX5_carryOut 95 = .ok (.iconst 0, 1) := by decide +kernel
theorem dX5_carryOut_96 : decode cX5_carryOut 96 = .ok (.iconst 4, 1) := by decide +kernel
theorem dX5_carryOut_97 : decode cX5_carryOut 97 = .ok (.invokevirtual 117, 3) := by decide +kernel
theorem dX5_carryOut_100 : decode cX5_carryOut 100 = .ok (.aload_n 0, 1) := by decide +kernel
theorem dX5_carryOut_101 : decode cX5_carryOut 101 = .ok (.getfield 12, 3) := by decide +kernel
theorem dX5_carryOut_104 : decode cX5_carryOut 104 = .ok (.iconst 1, 1) := by decide +kernel
theorem dX5_carryOut_105 : decode cX5_carryOut 105 = .ok (.iload 6, 2) := by decide +kernel
theorem dX5_carryOut_107 : decode cX5_carryOut 107 = .ok (.aload_n 1, 1) := by decide +kernel
theorem dX5_carryOut_108 : decode cX5_carryOut 108 = .ok (.iconst 2, 1) := by decide +kernel
theorem dX5_carryOut_109 : decode cX5_carryOut 109 = .ok (.iconst 4, 1) := by decide +kernel
theorem dX5_carryOut_110 : decode cX5_carryOut 110 = .ok (.invokevirtual 117, 3) := by decide +kernel
theorem dX5_carryOut_113 : decode cX5_carryOut 113 = .ok (.aload_n 0, 1) := by decide +kernel
theorem dX5_carryOut_114 : decode cX5_carryOut 114 = .ok (.getfield 12, 3) := by decide +kernel
theorem dX5_carryOut_117 : decode cX5_carryOut 117 = .ok (.iconst 1, 1) := by decide +kernel
theorem dX5_carryOut_118 : decode cX5_carryOut 118 = .ok (.iload 7, 2) := by decide +kernel
theorem dX5_carryOut_120 : decode cX5_carryOut 120 = .ok (.aload_n 1, 1) := by decide +kernel
theorem dX5_carryOut_121 : decode cX5_carryOut 121 = .ok (.iconst 1, 1) := by decide +kernel
theorem dX5_carryOut_122 : decode cX5_carryOut 122 = .ok (.iconst 4, 1) := by decide +kernel
theorem dX5_carryOut_123 : decode cX5_carryOut 123 = .ok (.invokevirtual 117, 3) := by decide +kernel
theorem dX5_carryOut_126 : decode cX5_carryOut 126 = .ok (.aload_n 0, 1) := by decide +kernel
theorem dX5_carryOut_127 : decode cX5_carryOut 127 = .ok (.getfield 12, 3) := by decide +kernel
theorem dX5_carryOut_130 : decode cX5_carryOut 130 = .ok (.iconst 1, 1) := by decide +kernel
theorem dX5_carryOut_131 : decode cX5_carryOut 131 = .ok (.iload 8, 2) := by decide +kernel
theorem dX5_carryOut_133 : decode cX5_carryOut 133 = .ok (.aload_n 1, 1) := by decide +kernel
theorem dX5_carryOut_134 : decode cX5_carryOut 134 = .ok (.iconst 0, 1) := by decide +kernel
theorem dX5_carryOut_135 : decode cX5_carryOut 135 = .ok (.iconst 4, 1) := by decide +kernel
theorem dX5_carryOut_136 : decode cX5_carryOut 136 = .ok (.invokevirtual 117, 3) := by decide +kernel
theorem dX5_carryOut_139 : decode cX5_carryOut 139 = .ok (.aload_n 0, 1) := by decide +kernel
theorem dX5_carryOut_140 : decode cX5_carryOut 140 = .ok (.iconst 0, 1) := by decide +kernel
theorem dX5_carryOut_141 : decode cX5_carryOut 141 = .ok (.putfield 32, 3) := by decide +kernel
theorem dX5_carryOut_144 : decode cX5_carryOut 144 = .ok (.aload_n 0, 1) := by decide +kernel
theorem dX5_carryOut_145 : decode cX5_carryOut 145 = .ok (.dup, 1) := by decide +kernel
theorem dX5_carryOut_146 : decode cX5_carryOut 146 = .ok (.getfield 46, 3) := by decide +kernel
theorem dX5_carryOut_149 : decode cX5_carryOut 149 = .ok (.iconst 1, 1) := by decide +kernel
theorem dX5_carryOut_150 : decode cX5_carryOut 150 = .ok (.iadd, 1) := by decide +kernel
theorem dX5_carryOut_151 : decode cX5_carryOut 151 = .ok (.putfield 46, 3) := by decide +kernel
theorem dX5_carryOut_154 : decode cX5_carryOut 154 = .ok (.aload_n 0, 1) := by decide +kernel
theorem dX5_carryOut_155 : decode cX5_carryOut 155 = .ok (.getfield 28, 3) := by decide +kernel
theorem dX5_carryOut_158 : decode cX5_carryOut 158 = .ok (.aload_n 0, 1) := by decide +kernel
theorem dX5_carryOut_159 : decode cX5_carryOut 159 = .ok (.getfield 46, 3) := by decide +kernel
theorem dX5_carryOut_162 : decode cX5_carryOut 162 = .ok (.iload 8, 2) := by decide +kernel
theorem dX5_carryOut_164 : decode cX5_carryOut 164 = .ok (.aload_n 1, 1) := by decide +kernel
theorem dX5_carryOut_165 : decode cX5_carryOut 165 = .ok (.iconst 0, 1) := by decide +kernel
theorem dX5_carryOut_166 : decode cX5_carryOut 166 = .ok (.invokevirtual 111, 3) := by decide +kernel
theorem dX5_carryOut_169 : decode cX5_carryOut 169 = .ok (.invokevirtual 61, 3) := by decide +kernel
theorem dX5_carryOut_172 : decode cX5_carryOut 172 = .ok (.iload 5, 2) := by decide +kernel
theorem dX5_carryOut_174 : decode cX5_carryOut 174 = .ok (.ireturn, 1) := by decide +kernel
set_option maxRecDepth 20000 in
theorem ggX5_layFirstCopy_X1_lay : GoodIn wsX5_layFirstCopy wsX1_lay := goodIn_r _ [7, 8, 9, 10, 11, 12, 13, 14, 15, 16, 17, 18, 19, 6, 20, 21, 22, 23, 24, 25, 31, 32, 33, 34, 35, 36] (by decide +kernel) (by decide +kernel)
set_option maxRecDepth 20000 in
theorem gX5_layFirstCopy_X1_lay : GoodIn wsX5_layFirstCopy (wsV RX5 117 RX1 yX1_lay wsX1_lay) := goodIn_app (goodIn_of _ (by decide +kernel)) ggX5_layFirstCopy_X1_lay
theorem dX5_layFirstCopy_0 : decode cX5_layFirstCopy 0 = .ok (.aload_n 0, 1) := by decide +kernel
theorem dX5_layFirstCopy_1 : decode cX5_layFirstCopy 1 = .ok (.getfield 32, 3) := by decide +kernel
theorem dX5_layFirstCopy_4 : decode cX5_layFirstCopy 4 = .ok (.tableswitch 97 1 3 #[28, 55, 70], 28) := by decide +kernel
theorem dX5_layFirstCopy_32 : decode cX5_layFirstCopy 32 = .ok (.aload_n 0, 1) := by decide +kernel
theorem dX5_layFirstCopy_33 : decode cX5_layFirstCopy 33 = .ok (.getfield 12, 3) := by decide +kernel
theorem dX5_layFirstCopy_36 : decode cX5_layFirstCopy 36 = .ok (.iconst 0, 1) := by decide +kernel
theorem dX5_layFirstCopy_37 : decode cX5_layFirstCopy 37 = .ok (.iload_n 2, 1) := by decide +kernel
theorem dX5_layFirstCopy_38 : decode cX5_layFirstCopy 38 = .ok (.aload_n 1, 1) := by decide +kernel
theorem dX5_layFirstCopy_39 : decode cX5_layFirstCopy 39 = .ok (.iconst 2, 1) := by decide +kernel
theorem dX5_layFirstCopy_40 : decode cX5_layFirstCopy 40 = .ok (.iconst 2, 1) := by decide +kernel
theorem dX5_layFirstCopy_41 : decode cX5_layFirstCopy 41 = .ok (.invokevirtual 117, 3) := by decide +kernel
theorem dX5_layFirstCopy_44 : decode cX5_layFirstCopy 44 = .ok (.aload_n 0, 1) := by decide +kernel
theorem dX5_layFirstCopy_45 : decode cX5_layFirstCopy 45 = .ok (.getfield 12, 3) := by decide +kernel
theorem dX5_layFirstCopy_48 : decode cX5_layFirstCopy 48 = .ok (.iconst 0, 1) := by decide +kernel
theorem dX5_layFirstCopy_49 : decode cX5_layFirstCopy 49 = .ok (.iload_n 3, 1) := by decide +kernel
theorem dX5_layFirstCopy_50 : decode cX5_layFirstCopy 50 = .ok (.aload_n 1, 1) := by decide +kernel
theorem dX5_layFirstCopy_51 : decode cX5_layFirstCopy 51 = .ok (.iconst 1, 1) := by decide +kernel
theorem dX5_layFirstCopy_52 : decode cX5_layFirstCopy 52 = .ok (.iconst 4, 1) := by decide +kernel
theorem dX5_layFirstCopy_53 : decode cX5_layFirstCopy 53 = .ok (.invokevirtual 117, 3) := by decide +kernel
theorem dX5_layFirstCopy_56 : decode cX5_layFirstCopy 56 = .ok (.goto 69, 3) := by decide +kernel
theorem dX5_layFirstCopy_59 : decode cX5_layFirstCopy 59 = .ok (.aload_n 0, 1) := by decide +kernel
theorem dX5_layFirstCopy_60 : decode cX5_layFirstCopy 60 = .ok (.getfield 12, 3) := by decide +kernel
theorem dX5_layFirstCopy_63 : decode cX5_layFirstCopy 63 = .ok (.iconst 0, 1) := by decide +kernel
theorem dX5_layFirstCopy_64 : decode cX5_layFirstCopy 64 = .ok (.iload_n 2, 1) := by decide +kernel
theorem dX5_layFirstCopy_65 : decode cX5_layFirstCopy 65 = .ok (.aload_n 1, 1) := by decide +kernel
theorem dX5_layFirstCopy_66 : decode cX5_layFirstCopy 66 = .ok (.iconst 2, 1) := by decide +kernel
theorem dX5_layFirstCopy_67 : decode cX5_layFirstCopy 67 = .ok (.iconst 4, 1) := by decide +kernel
theorem dX5_layFirstCopy_68 : decode cX5_layFirstCopy 68 = .ok (.invokevirtual 117, 3) := by decide +kernel
theorem dX5_layFirstCopy_71 : decode cX5_layFirstCopy 71 = .ok (.goto 54, 3) := by decide +kernel
theorem dX5_layFirstCopy_74 : decode cX5_layFirstCopy 74 = .ok (.aload_n 0, 1) := by decide +kernel
theorem dX5_layFirstCopy_75 : decode cX5_layFirstCopy 75 = .ok (.getfield 12, 3) := by decide +kernel
theorem dX5_layFirstCopy_78 : decode cX5_layFirstCopy 78 = .ok (.iconst 0, 1) := by decide +kernel
theorem dX5_layFirstCopy_79 : decode cX5_layFirstCopy 79 = .ok (.iload_n 2, 1) := by decide +kernel
theorem dX5_layFirstCopy_80 : decode cX5_layFirstCopy 80 = .ok (.aload_n 1, 1) := by decide +kernel
theorem dX5_layFirstCopy_81 : decode cX5_layFirstCopy 81 = .ok (.iconst 1, 1) := by decide +kernel
theorem dX5_layFirstCopy_82 : decode cX5_layFirstCopy 82 = .ok (.iconst 4, 1) := by decide +kernel
theorem dX5_layFirstCopy_83 : decode cX5_layFirstCopy 83 = .ok (.invokevirtual 117, 3) := by decide +kernel
theorem dX5_layFirstCopy_86 : decode cX5_layFirstCopy 86 = .ok (.aload_n 0, 1) := by decide +kernel
theorem dX5_layFirstCopy_87 : decode cX5_layFirstCopy 87 = .ok (.getfield 12, 3) := by decide +kernel
theorem dX5_layFirstCopy_90 : decode cX5_layFirstCopy 90 = .ok (.iconst 0, 1) := by decide +kernel
theorem dX5_layFirstCopy_91 : decode cX5_layFirstCopy 91 = .ok (.iload_n 3, 1) := by decide +kernel
theorem dX5_layFirstCopy_92 : decode cX5_layFirstCopy 92 = .ok (.aload_n 1, 1) := by decide +kernel
theorem dX5_layFirstCopy_93 : decode cX5_layFirstCopy 93 = .ok (.iconst 2, 1) := by decide +kernel
theorem dX5_layFirstCopy_94 : decode cX5_layFirstCopy 94 = .ok (.iconst 4, 1) := by decide +kernel
theorem dX5_layFirstCopy_95 : decode cX5_layFirstCopy 95 = .ok (.invokevirtual 117, 3) := by decide +kernel
theorem dX5_layFirstCopy_98 : decode cX5_layFirstCopy 98 = .ok (.goto 27, 3) := by decide +kernel
theorem dX5_layFirstCopy_101 : decode cX5_layFirstCopy 101 = .ok (.aload_n 0, 1) := by decide +kernel
theorem dX5_layFirstCopy_102 : decode cX5_layFirstCopy 102 = .ok (.getfield 12, 3) := by decide +kernel
theorem dX5_layFirstCopy_105 : decode cX5_layFirstCopy 105 = .ok (.iconst 0, 1) := by decide +kernel
theorem dX5_layFirstCopy_106 : decode cX5_layFirstCopy 106 = .ok (.iload_n 2, 1) := by decide +kernel
theorem dX5_layFirstCopy_107 : decode cX5_layFirstCopy 107 = .ok (.aload_n 1, 1) := by decide +kernel
theorem dX5_layFirstCopy_108 : decode cX5_layFirstCopy 108 = .ok (.iconst 2, 1) := by decide +kernel
theorem dX5_layFirstCopy_109 : decode cX5_layFirstCopy 109 = .ok (.iconst 4, 1) := by decide +kernel
theorem dX5_layFirstCopy_110 : decode cX5_layFirstCopy 110 = .ok (.invokevirtual 117, 3) := by decide +kernel
theorem dX5_layFirstCopy_113 : decode cX5_layFirstCopy 113 = .ok (.aload_n 0, 1) := by decide +kernel
theorem dX5_layFirstCopy_114 : decode cX5_layFirstCopy 114 = .ok (.getfield 12, 3) := by decide +kernel
theorem dX5_layFirstCopy_117 : decode cX5_layFirstCopy 117 = .ok (.iconst 0, 1) := by decide +kernel
theorem dX5_layFirstCopy_118 : decode cX5_layFirstCopy 118 = .ok (.iload_n 3, 1) := by decide +kernel
theorem dX5_layFirstCopy_119 : decode cX5_layFirstCopy 119 = .ok (.aload_n 1, 1) := by decide +kernel
theorem dX5_layFirstCopy_120 : decode cX5_layFirstCopy 120 = .ok (.iconst 1, 1) := by decide +kernel
theorem dX5_layFirstCopy_121 : decode cX5_layFirstCopy 121 = .ok (.iconst 4, 1) := by decide +kernel
theorem dX5_layFirstCopy_122 : decode cX5_layFirstCopy 122 = .ok (.invokevirtual 117, 3) := by decide +kernel
theorem dX5_layFirstCopy_125 : decode cX5_layFirstCopy 125 = .ok (.return_, 1) := by decide +kernel
set_option maxRecDepth 20000 in
theorem ggX5_useLowest_X0_lowestOutside : GoodIn wsX5_useLowest wsX0_lowestOutside := goodIn_r _ [6, 7, 20] (by decide +kernel) (by decide +kernel)
set_option maxRecDepth 20000 in
theorem gX5_useLowest_X0_lowestOutside : GoodIn wsX5_useLowest (wsV RX5 121 RX0 yX0_lowestOutside wsX0_lowestOutside) := goodIn_app (goodIn_of _ (by decide +kernel)) ggX5_useLowest_X0_lowestOutside
set_option maxRecDepth 20000 in
theorem ggX5_useLowest_X0_add : GoodIn wsX5_useLowest wsX0_add := goodIn_r _ [11, 7, 12, 13, 14, 20] (by decide +kernel) (by decide +kernel)
set_option maxRecDepth 20000 in
theorem gX5_useLowest_X0_add : GoodIn wsX5_useLowest (wsV RX5 57 RX0 yX0_add wsX0_add) := goodIn_app (goodIn_of _ (by decide +kernel)) ggX5_useLowest_X0_add
theorem dX5_useLowest_0 : decode cX5_useLowest 0 = .ok (.aload_n 0, 1) := by decide +kernel
theorem dX5_useLowest_1 : decode cX5_useLowest 1 = .ok (.getfield 21, 3) := by decide +kernel
theorem dX5_useLowest_4 : decode cX5_useLowest 4 = .ok (.invokevirtual 121, 3) := by decide +kernel
theorem dX5_useLowest_7 : decode cX5_useLowest 7 = .ok (.istore_n 1, 1) := by decide +kernel
theorem dX5_useLowest_8 : decode cX5_useLowest 8 = .ok (.aload_n 0, 1) := by decide +kernel
theorem dX5_useLowest_9 : decode cX5_useLowest 9 = .ok (.getfield 21, 3) := by decide +kernel
theorem dX5_useLowest_12 : decode cX5_useLowest 12 = .ok (.iload_n 1, 1) := by decide +kernel
theorem dX5_useLowest_13 : decode cX5_useLowest 13 = .ok (.invokevirtual 57, 3) := by decide +kernel
theorem dX5_useLowest_16 : decode cX5_useLowest 16 = .ok (.iload_n 1, 1) := by decide +kernel
theorem dX5_useLowest_17 : decode cX5_useLowest 17 = .ok (.ireturn, 1) := by decide +kernel
set_option maxRecDepth 20000 in
theorem ggX5_mendWay_X5_findWay : GoodIn wsX5_mendWay wsX5_findWay := goodIn_r _ [6, 7, 1, 8, 9, 10, 11, 12, 13, 14, 15, 16, 17, 18, 19, 20, 21, 22, 23, 24, 25, 26, 27, 28, 29, 30, 31, 32, 33, 34, 35, 36, 37, 38, 39, 40, 41, 42, 43, 44, 45, 46, 47, 48, 49, 50, 51, 52, 53, 54, 55, 56, 57, 58, 59, 60, 61, 62, 63, 64, 65, 92, 93, 94, 95, 96, 97, 98, 99, 100, 101, 102, 103, 104, 105, 106] (by decide +kernel) (by decide +kernel)
set_option maxRecDepth 20000 in
theorem gX5_mendWay_X5_findWay : GoodIn wsX5_mendWay (wsV RX5 99 RX5 yX5_findWay wsX5_findWay) := goodIn_app (goodIn_of _ (by decide +kernel)) ggX5_mendWay_X5_findWay
set_option maxRecDepth 20000 in
theorem ggX5_mendWay_X7_copyAt : GoodIn wsX5_mendWay wsX7_copyAt := goodIn_r _ [69, 50, 70, 71, 72, 11, 73, 13, 20, 21, 22, 97, 98, 99, 100, 101] (by decide +kernel) (by decide +kernel)
set_option maxRecDepth 20000 in
theorem gX5_mendWay_X7_copyAt : GoodIn wsX5_mendWay (wsV RX5 124 RX7 yX7_copyAt wsX7_copyAt) := goodIn_app (goodIn_of _ (by decide +kernel)) ggX5_mendWay_X7_copyAt
set_option maxRecDepth 20000 in
theorem ggX5_mendWay_X7_blockAt : GoodIn wsX5_mendWay wsX7_blockAt := goodIn_r _ [77, 48, 70, 71, 72, 11, 73, 13, 20, 21, 22, 97, 98, 99, 100, 101] (by decide +kernel) (by decide +kernel)
set_option maxRecDepth 20000 in
theorem gX5_mendWay_X7_blockAt : GoodIn wsX5_mendWay (wsV RX5 127 RX7 yX7_blockAt wsX7_blockAt) := goodIn_app (goodIn_of _ (by decide +kernel)) ggX5_mendWay_X7_blockAt
set_option maxRecDepth 20000 in
theorem ggX5_mendWay_X1_alike : GoodIn wsX5_mendWay wsX1_alike := goodIn_r _ [81, 82, 52, 53, 31, 54, 37, 38, 39, 40, 41, 20, 21, 22, 106] (by decide +kernel) (by decide +kernel)
set_option maxRecDepth 20000 in
theorem gX5_mendWay_X1_alike : GoodIn wsX5_mendWay (wsV RX5 128 RX1 yX1_alike wsX1_alike) := goodIn_app (goodIn_of _ (by decide +kernel)) ggX5_mendWay_X1_alike
set_option maxRecDepth 20000 in
theorem ggX5_mendWay_X1_lay : GoodIn wsX5_mendWay wsX1_lay := goodIn_r _ [86, 87, 63, 64, 11, 65, 59, 20, 21, 22, 88, 89, 90, 31, 91, 37, 38, 39, 40, 41, 97, 98, 99, 100, 101, 106] (by decide +kernel) (by decide +kernel)
set_option maxRecDepth 20000 in
theorem gX5_mendWay_X1_lay : GoodIn wsX5_mendWay (wsV RX5 117 RX1 yX1_lay wsX1_lay) := goodIn_app (goodIn_of _ (by decide +kernel)) ggX5_mendWay_X1_lay
theorem dX5_mendWay_0 : decode cX5_mendWay 0 = .ok (.aload_n 0, 1) := by decide +kernel
theorem dX5_mendWay_1 : decode cX5_mendWay 1 = .ok (.aload_n 1, 1) := by decide +kernel
theorem dX5_mendWay_2 : decode cX5_mendWay 2 = .ok (.iload_n 2, 1) := by decide +kernel
theorem dX5_mendWay_3 : decode cX5_mendWay 3 = .ok (.iload_n 3, 1) := by decide +kernel
theorem dX5_mendWay_4 : decode cX5_mendWay 4 = .ok (.invokevirtual 99, 3) := by decide +kernel
theorem dX5_mendWay_7 : decode cX5_mendWay 7 = .ok (.iconst 0, 1) := by decide +kernel
theorem dX5_mendWay_8 : decode cX5_mendWay 8 = .ok (.istore 4, 2) := by decide +kernel
theorem dX5_mendWay_10 : decode cX5_mendWay 10 = .ok (.iconst 0, 1) := by decide +kernel
theorem dX5_mendWay_11 : decode cX5_mendWay 11 = .ok (.istore 5, 2) := by decide +kernel
theorem dX5_mendWay_13 : decode cX5_mendWay 13 = .ok (.iload 5, 2) := by decide +kernel
theorem dX5_mendWay_15 : decode cX5_mendWay 15 = .ok (.iconst 2, 1) := by decide +kernel
theorem dX5_mendWay_16 : decode cX5_mendWay 16 = .ok (.if_icmp .gt 70, 3) := by decide +kernel
theorem dX5_mendWay_19 : decode cX5_mendWay 19 = .ok (.aload_n 1, 1) := by decide +kernel
theorem dX5_mendWay_20 : decode cX5_mendWay 20 = .ok (.iload 5, 2) := by decide +kernel
theorem dX5_mendWay_22 : decode cX5_mendWay 22 = .ok (.invokevirtual 124, 3) := by decide +kernel
theorem dX5_mendWay_25 : decode cX5_mendWay 25 = .ok (.iconst 2, 1) := by decide +kernel
theorem dX5_mendWay_26 : decode cX5_mendWay 26 = .ok (.if_icmp .eq 60, 3) := by decide +kernel
theorem dX5_mendWay_29 : decode cX5_mendWay 29 = .ok (.aload_n 1, 1) := by decide +kernel
theorem dX5_mendWay_30 : decode cX5_mendWay 30 = .ok (.iload 5, 2) := by decide +kernel
theorem dX5_mendWay_32 : decode cX5_mendWay 32 = .ok (.invokevirtual 127, 3) := by decide +kernel
theorem dX5_mendWay_35 : decode cX5_mendWay 35 = .ok (.istore 6, 2) := by decide +kernel
theorem dX5_mendWay_37 : decode cX5_mendWay 37 = .ok (.aload_n 0, 1) := by decide +kernel
theorem dX5_mendWay_38 : decode cX5_mendWay 38 = .ok (.getfield 12, 3) := by decide +kernel
theorem dX5_mendWay_41 : decode cX5_mendWay 41 = .ok (.iload 6, 2) := by decide +kernel
theorem dX5_mendWay_43 : decode cX5_mendWay 43 = .ok (.invokevirtual 128, 3) := by decide +kernel
theorem dX5_mendWay_46 : decode cX5_mendWay 46 = .ok (.ifCond .ne 6, 3) := by decide +kernel
theorem dX5_mendWay_49 : decode cX5_mendWay 49 = .ok (.iinc 4 1, 3) := by decide +kernel
theorem dX5_mendWay_52 : decode cX5_mendWay 52 = .ok (.aload_n 0, 1) := by decide +kernel
theorem dX5_mendWay_53 : decode cX5_mendWay 53 = .ok (.getfield 12, 3) := by decide +kernel
theorem dX5_mendWay_56 : decode cX5_mendWay 56 = .ok (.iconst 0, 1) := by decide +kernel
theorem dX5_mendWay_57 : decode cX5_mendWay 57 = .ok (.iload 6, 2) := by decide +kernel
theorem dX5_mendWay_59 : decode cX5_mendWay 59 = .ok (.aload_n 1, 1) := by decide +kernel
theorem dX5_mendWay_60 : decode cX5_mendWay 60 = .ok (.iload 5, 2) := by decide +kernel
theorem dX5_mendWay_62 : decode cX5_mendWay 62 = .ok (.iconst 4, 1) := by decide +kernel
theorem dX5_mendWay_63 : decode cX5_mendWay 63 = .ok (.invokevirtual 117, 3) := by decide +kernel
theorem dX5_mendWay_66 : decode cX5_mendWay 66 = .ok (.aload_n 0, 1) := by decide +kernel
theorem dX5_mendWay_67 : decode cX5_mendWay 67 = .ok (.getfield 12, 3) := by decide +kernel
theorem dX5_mendWay_70 : decode cX5_mendWay 70 = .ok (.iconst 1, 1) := by decide +kernel
theorem dX5_mendWay_71 : decode cX5_mendWay 71 = .ok (.iload 6, 2) := by decide +kernel
theorem dX5_mendWay_73 : decode cX5_mendWay 73 = .ok (.aload_n 1, 1) := by decide +kernel
theorem dX5_mendWay_74 : decode cX5_mendWay 74 = .ok (.iload 5, 2) := by decide +kernel
theorem dX5_mendWay_76 : decode cX5_mendWay 76 = .ok (.iconst 4, 1) := by decide +kernel
theorem dX5_mendWay_77 : decode cX5_mendWay 77 = .ok (.invokevirtual 117, 3) := by decide +kernel
theorem dX5_mendWay_80 : decode cX5_mendWay 80 = .ok (.iinc 5 1, 3) := by decide +kernel
theorem dX5_mendWay_83 : decode cX5_mendWay 83 = .ok (.goto (-70), 3) := by decide +kernel
theorem dX5_mendWay_86 : decode cX5_mendWay 86 = .ok (.iload 4, 2) := by decide +kernel
theorem dX5_mendWay_88 : decode cX5_mendWay 88 = .ok (.ireturn, 1) := by decide +kernel
set_option maxRecDepth 20000 in
theorem ggX5_hasUnlikeCopies_X7_blockAt : GoodIn wsX5_hasUnlikeCopies wsX7_blockAt := goodIn_r _ [6, 7, 8, 9, 10, 5, 11, 12, 13, 14, 15, 35, 36, 37, 38, 39] (by decide +kernel) (by decide +kernel)
set_option maxRecDepth 20000 in
theorem gX5_hasUnlikeCopies_X7_blockAt : GoodIn wsX5_hasUnlikeCopies (wsV RX5 127 RX7 yX7_blockAt wsX7_blockAt) := goodIn_app (goodIn_of _ (by decide +kernel)) ggX5_hasUnlikeCopies_X7_blockAt
set_option maxRecDepth 20000 in
theorem ggX5_hasUnlikeCopies_X1_alike : GoodIn wsX5_hasUnlikeCopies wsX1_alike := goodIn_r _ [20, 21, 22, 23, 19, 24, 25, 26, 27, 28, 29, 13, 14, 15, 40] (by decide +kernel) (by decide +kernel)
set_option maxRecDepth 20000 in
theorem gX5_hasUnlikeCopies_X1_alike : GoodIn wsX5_hasUnlikeCopies (wsV RX5 128 RX1 yX1_alike wsX1_alike) := goodIn_app (goodIn_of _ (by decide +kernel)) ggX5_hasUnlikeCopies_X1_alike
theorem dX5_hasUnlikeCopies_0 : decode cX5_hasUnlikeCopies 0 = .ok (.iconst 0, 1) := by decide +kernel
theorem dX5_hasUnlikeCopies_1 : decode cX5_hasUnlikeCopies 1 = .ok (.istore_n 2, 1) := by decide +kernel
theorem dX5_hasUnlikeCopies_2 : decode cX5_hasUnlikeCopies 2 = .ok (.iload_n 2, 1) := by decide +kernel
theorem dX5_hasUnlikeCopies_3 : decode cX5_hasUnlikeCopies 3 = .ok (.iconst 2, 1) := by decide +kernel
theorem dX5_hasUnlikeCopies_4 : decode cX5_hasUnlikeCopies 4 = .ok (.if_icmp .gt 26, 3) := by decide +kernel
theorem dX5_hasUnlikeCopies_7 : decode cX5_hasUnlikeCopies 7 = .ok (.aload_n 0, 1) := by decide +kernel
theorem dX5_hasUnlikeCopies_8 : decode cX5_hasUnlikeCopies 8 = .ok (.getfield 12, 3) := by decide +kernel
theorem dX5_hasUnlikeCopies_11 : decode cX5_hasUnlikeCopies 11 = .ok (.aload_n 1, 1) := by decide +kernel
theorem dX5_hasUnlikeCopies_12 : decode cX5_hasUnlikeCopies 12 = .ok (.iload_n 2, 1) := by decide +kernel
theorem dX5_hasUnlikeCopies_13 : decode cX5_hasUnlikeCopies 13 = .ok (.invokevirtual 127, 3) := by decide +kernel
theorem dX5_hasUnlikeCopies_16 : decode cX5_hasUnlikeCopies 16 = .ok (.invokevirtual 128, 3) := by decide +kernel
theorem dX5_hasUnlikeCopies_19 : decode cX5_hasUnlikeCopies 19 = .ok (.ifCond .ne 5, 3) := by decide +kernel
theorem dX5_hasUnlikeCopies_22 : decode cX5_hasUnlikeCopies 22 = .ok (.iconst 1, 1) := by decide +kernel
theorem dX5_hasUnlikeCopies_23 : decode cX5_hasUnlikeCopies 23 = .ok (.ireturn, 1) := by decide +kernel
theorem dX5_hasUnlikeCopies_24 : decode cX5_hasUnlikeCopies 24 = .ok (.iinc 2 1, 3) := by decide +kernel
theorem dX5_hasUnlikeCopies_27 : decode cX5_hasUnlikeCopies 27 = .ok (.goto (-25), 3) := by decide +kernel
theorem dX5_hasUnlikeCopies_30 : decode cX5_hasUnlikeCopies 30 = .ok (.iconst 0, 1) := by decide +kernel
theorem dX5_hasUnlikeCopies_31 : decode cX5_hasUnlikeCopies 31 = .ok (.ireturn, 1) := by decide +kernel
set_option maxRecDepth 20000 in
theorem ggX5_unlikeInUse_X0_holds : GoodIn wsX5_unlikeInUse wsX0_holds := goodIn_r _ [7, 8, 9, 10, 11, 31] (by decide +kernel) (by decide +kernel)
set_option maxRecDepth 20000 in
theorem gX5_unlikeInUse_X0_holds : GoodIn wsX5_unlikeInUse (wsV RX5 132 RX0 yX0_holds wsX0_holds) := goodIn_app (goodIn_of _ (by decide +kernel)) ggX5_unlikeInUse_X0_holds
set_option maxRecDepth 20000 in
theorem ggX5_unlikeInUse_X1_alike : GoodIn wsX5_unlikeInUse wsX1_alike := goodIn_r _ [16, 17, 18, 19, 15, 20, 21, 22, 23, 24, 25, 9, 10, 11, 32] (by decide +kernel) (by decide +kernel)
set_option maxRecDepth 20000 in
theorem gX5_unlikeInUse_X1_alike : GoodIn wsX5_unlikeInUse (wsV RX5 128 RX1 yX1_alike wsX1_alike) := goodIn_app (goodIn_of _ (by decide +kernel)) ggX5_unlikeInUse_X1_alike
theorem dX5_unlikeInUse_0 : decode cX5_unlikeInUse 0 = .ok (.iconst 0, 1) := by decide +kernel
theorem dX5_unlikeInUse_1 : decode cX5_unlikeInUse 1 = .ok (.istore_n 1, 1) := by decide +kernel
theorem dX5_unlikeInUse_2 : decode cX5_unlikeInUse 2 = .ok (.iconst 0, 1) := by decide +kernel
theorem dX5_unlikeInUse_3 : decode cX5_unlikeInUse 3 = .ok (.istore_n 2, 1) := by decide +kernel
theorem dX5_unlikeInUse_4 : decode cX5_unlikeInUse 4 = .ok (.iload_n 2, 1) := by decide +kernel
theorem dX5_unlikeInUse_5 : decode cX5_unlikeInUse 5 = .ok (.bipush 96, 2) := by decide +kernel
theorem dX5_unlikeInUse_7 : decode cX5_unlikeInUse 7 = .ok (.if_icmp .ge 34, 3) := by decide +kernel
theorem dX5_unlikeInUse_10 : decode cX5_unlikeInUse 10 = .ok (.aload_n 0, 1) := by decide +kernel
theorem dX5_unlikeInUse_11 : decode cX5_unlikeInUse 11 = .ok (.getfield 21, 3) := by decide +kernel
theorem dX5_unlikeInUse_14 : decode cX5_unlikeInUse 14 = .ok (.iload_n 2, 1) := by decide +kernel
theorem dX5_unlikeInUse_15 : decode cX5_unlikeInUse 15 = .ok (.invokevirtual 132, 3) := by decide +kernel
theorem dX5_unlikeInUse_18 : decode cX5_unlikeInUse 18 = .ok (.ifCond .eq 17, 3) := by decide +kernel
theorem dX5_unlikeInUse_21 : decode cX5_unlikeInUse 21 = .ok (.aload_n 0, 1) := by decide +kernel
theorem dX5_unlikeInUse_22 : decode cX5_unlikeInUse 22 = .ok (.getfield 12, 3) := by decide +kernel
theorem dX5_unlikeInUse_25 : decode cX5_unlikeInUse 25 = .ok (.iload_n 2, 1) := by decide +kernel
theorem dX5_unlikeInUse_26 : decode cX5_unlikeInUse 26 = .ok (.invokevirtual 128, 3) := by decide +kernel
theorem dX5_unlikeInUse_29 : decode cX5_unlikeInUse 29 = .ok (.ifCond .ne 6, 3) := by decide +kernel
theorem dX5_unlikeInUse_32 : decode cX5_unlikeInUse 32 = .ok (.iinc 1 1, 3) := by decide +kernel
theorem dX5_unlikeInUse_35 : decode cX5_unlikeInUse 35 = .ok (.iinc 2 1, 3) := by decide +kernel
theorem dX5_unlikeInUse_38 : decode cX5_unlikeInUse 38 = .ok (.goto (-34), 3) := by decide +kernel
theorem dX5_unlikeInUse_41 : decode cX5_unlikeInUse 41 = .ok (.iload_n 1, 1) := by decide +kernel
theorem dX5_unlikeInUse_42 : decode cX5_unlikeInUse 42 = .ok (.ireturn, 1) := by decide +kernel
set_option maxRecDepth 20000 in
theorem ggX5_addBlocksOf_X3_blockAt : GoodIn wsX5_addBlocksOf wsX3_blockAt := goodIn_r _ [7, 8, 9, 10, 11, 57, 58, 59, 60] (by decide +kernel) (by decide +kernel)
set_option maxRecDepth 20000 in
theorem gX5_addBlocksOf_X3_blockAt : GoodIn wsX5_addBlocksOf (wsV RX5 70 RX3 yX3_blockAt wsX3_blockAt) := goodIn_app (goodIn_of _ (by decide +kernel)) ggX5_addBlocksOf_X3_blockAt
set_option maxRecDepth 20000 in
theorem ggX5_addBlocksOf_X3_sumAt : GoodIn wsX5_addBlocksOf wsX3_sumAt := goodIn_r _ [15, 16, 9, 10, 11, 57, 58, 59, 60] (by decide +kernel) (by decide +kernel)
set_option maxRecDepth 20000 in
theorem gX5_addBlocksOf_X3_sumAt : GoodIn wsX5_addBlocksOf (wsV RX5 74 RX3 yX3_sumAt wsX3_sumAt) := goodIn_app (goodIn_of _ (by decide +kernel)) ggX5_addBlocksOf_X3_sumAt
set_option maxRecDepth 20000 in
theorem ggX5_addBlocksOf_X5_copyToFollow : GoodIn wsX5_addBlocksOf wsX5_copyToFollow := goodIn_r _ [21, 2, 22, 23, 24, 25, 26, 9, 10, 11, 27, 28, 29, 30, 31, 32, 33, 34, 35, 36, 37, 52, 53, 54, 55, 56, 61] (by decide +kernel) (by decide +kernel)
set_option maxRecDepth 20000 in
theorem gX5_addBlocksOf_X5_copyToFollow : GoodIn wsX5_addBlocksOf (wsV RX5 135 RX5 yX5_copyToFollow wsX5_copyToFollow) := goodIn_app (goodIn_of _ (by decide +kernel)) ggX5_addBlocksOf_X5_copyToFollow
set_option maxRecDepth 20000 in
theorem ggX5_addBlocksOf_X0_add : GoodIn wsX5_addBlocksOf wsX0_add := goodIn_r _ [42, 43, 9, 10, 11, 62] (by decide +kernel) (by decide +kernel)
set_option maxRecDepth 20000 in
theorem gX5_addBlocksOf_X0_add : GoodIn wsX5_addBlocksOf (wsV RX5 57 RX0 yX0_add wsX0_add) := goodIn_app (goodIn_of _ (by decide +kernel)) ggX5_addBlocksOf_X0_add
set_option maxRecDepth 20000 in
theorem ggX5_addBlocksOf_X1_numberAt : GoodIn wsX5_addBlocksOf wsX1_numberAt := goodIn_r _ [47, 31, 32, 33, 34, 25, 35, 9, 10, 11, 61] (by decide +kernel) (by decide +kernel)
set_option maxRecDepth 20000 in
theorem gX5_addBlocksOf_X1_numberAt : GoodIn wsX5_addBlocksOf (wsV RX5 82 RX1 yX1_numberAt wsX1_numberAt) := goodIn_app (goodIn_of _ (by decide +kernel)) ggX5_addBlocksOf_X1_numberAt
set_option maxRecDepth 20000 in
theorem ggX5_addBlocksOf_X5_addParent : GoodIn wsX5_addBlocksOf wsX5_addParent := goodIn_r _ [51, 2, 9, 10, 11, 17, 18, 19, 20, 21, 22, 23, 24, 25, 26, 27, 28, 29, 30, 31, 32, 33, 34, 35, 36, 37, 38, 39, 40, 41, 42, 43, 44, 45, 46, 47, 52, 53, 54, 55, 56, 61, 62] (by decide +kernel) (by decide +kernel)
set_option maxRecDepth 20000 in
theorem gX5_addBlocksOf_X5_addParent : GoodIn wsX5_addBlocksOf (wsV RX5 138 RX5 yX5_addParent wsX5_addParent) := goodIn_app (goodIn_of _ (by decide +kernel)) ggX5_addBlocksOf_X5_addParent
theorem dX5_addBlocksOf_0 : decode cX5_addBlocksOf 0 = .ok (.aload_n 0, 1) := by decide +kernel
theorem dX5_addBlocksOf_1 : decode cX5_addBlocksOf 1 = .ok (.getfield 28, 3) := by decide +kernel
theorem dX5_addBlocksOf_4 : decode cX5_addBlocksOf 4 = .ok (.iload_n 1, 1) := by decide +kernel
theorem dX5_addBlocksOf_5 : decode cX5_addBlocksOf 5 = .ok (.invokevirtual 70, 3) := by decide +kernel
theorem dX5_addBlocksOf_8 : decode cX5_addBlocksOf 8 = .ok (.istore_n 3, 1) := by decide +kernel
theorem dX5_addBlocksOf_9 : decode cX5_addBlocksOf 9 = .ok (.aload_n 0, 1) := by decide +kernel
theorem dX5_addBlocksOf_10 : decode cX5_addBlocksOf 10 = .ok (.iload_n 3, 1) := by decide +kernel
theorem dX5_addBlocksOf_11 : decode cX5_addBlocksOf 11 = .ok (.aload_n 0, 1) := by decide +kernel
theorem dX5_addBlocksOf_12 : decode cX5_addBlocksOf 12 = .ok (.getfield 28, 3) := by decide +kernel
theorem dX5_addBlocksOf_15 : decode cX5_addBlocksOf 15 = .ok (.iload_n 1, 1) := by decide +kernel
theorem dX5_addBlocksOf_16 : decode cX5_addBlocksOf 16 = .ok (.invokevirtual 74, 3) := by decide +kernel
theorem dX5_addBlocksOf_19 : decode cX5_addBlocksOf 19 = .ok (.invokevirtual 135, 3) := by decide +kernel
theorem dX5_addBlocksOf_22 : decode cX5_addBlocksOf 22 = .ok (.istore 4, 2) := by decide +kernel
theorem dX5_addBlocksOf_24 : decode cX5_addBlocksOf 24 = .ok (.aload_n 2, 1) := by decide +kernel
theorem dX5_addBlocksOf_25 : decode cX5_addBlocksOf 25 = .ok (.iload_n 3, 1) := by decide +kernel
theorem dX5_addBlocksOf_26 : decode cX5_addBlocksOf 26 = .ok (.invokevirtual 57, 3) := by decide +kernel
theorem dX5_addBlocksOf_29 : decode cX5_addBlocksOf 29 = .ok (.iconst 0, 1) := by decide +kernel
theorem dX5_addBlocksOf_30 : decode cX5_addBlocksOf 30 = .ok (.istore 5, 2) := by decide +kernel
theorem dX5_addBlocksOf_32 : decode cX5_addBlocksOf 32 = .ok (.iload 5, 2) := by decide +kernel
theorem dX5_addBlocksOf_34 : decode cX5_addBlocksOf 34 = .ok (.iconst 4, 1) := by decide +kernel
theorem dX5_addBlocksOf_35 : decode cX5_addBlocksOf 35 = .ok (.if_icmp .ge 26, 3) := by decide +kernel
theorem dX5_addBlocksOf_38 : decode cX5_addBlocksOf 38 = .ok (.aload_n 0, 1) := by decide +kernel
theorem dX5_addBlocksOf_39 : decode cX5_addBlocksOf 39 = .ok (.aload_n 0, 1) := by decide +kernel
theorem dX5_addBlocksOf_40 : decode cX5_addBlocksOf 40 = .ok (.getfield 12, 3) := by decide +kernel
theorem dX5_addBlocksOf_43 : decode cX5_addBlocksOf 43 = .ok (.iload 4, 2) := by decide +kernel
theorem dX5_addBlocksOf_45 : decode cX5_addBlocksOf 45 = .ok (.iload_n 3, 1) := by decide +kernel
theorem dX5_addBlocksOf_46 : decode cX5_addBlocksOf 46 = .ok (.iload 5, 2) := by decide +kernel
theorem dX5_addBlocksOf_48 : decode cX5_addBlocksOf 48 = .ok (.invokevirtual 82, 3) := by decide +kernel
theorem dX5_addBlocksOf_51 : decode cX5_addBlocksOf 51 = .ok (.aload_n 2, 1) := by decide +kernel
theorem dX5_addBlocksOf_52 : decode cX5_addBlocksOf 52 = .ok (.invokevirtual 138, 3) := by decide +kernel
theorem dX5_addBlocksOf_55 : decode cX5_addBlocksOf 55 = .ok (.iinc 5 1, 3) := by decide +kernel
theorem dX5_addBlocksOf_58 : decode cX5_addBlocksOf 58 = .ok (.goto (-26), 3) := by decide +kernel
theorem dX5_addBlocksOf_61 : decode cX5_addBlocksOf 61 = .ok (.return_, 1) := by decide +kernel
set_option maxRecDepth 20000 in
theorem ggX5_addParent_X8_below : GoodIn wsX5_addParent wsX8_below := goodIn_r _ [4] (by decide +kernel) (by decide +kernel)
set_option maxRecDepth 20000 in
theorem gX5_addParent_X8_below_n142 : GoodIn wsX5_addParent (wsX8_below) := ggX5_addParent_X8_below
set_option maxRecDepth 20000 in
theorem ggX5_addParent_X5_copyToFollow : GoodIn wsX5_addParent wsX5_copyToFollow := goodIn_r _ [9, 1, 10, 11, 12, 13, 14, 2, 3, 4, 15, 16, 17, 18, 19, 20, 21, 22, 23, 24, 25, 36, 37, 38, 39, 40, 41] (by decide +kernel) (by decide +kernel)
set_option maxRecDepth 20000 in
theorem gX5_addParent_X5_copyToFollow : GoodIn wsX5_addParent (wsV RX5 135 RX5 yX5_copyToFollow wsX5_copyToFollow) := goodIn_app (goodIn_of _ (by decide +kernel)) ggX5_addParent_X5_copyToFollow
set_option maxRecDepth 20000 in
theorem ggX5_addParent_X0_add : GoodIn wsX5_addParent wsX0_add := goodIn_r _ [30, 31, 2, 3, 4, 42] (by decide +kernel) (by decide +kernel)
set_option maxRecDepth 20000 in
theorem gX5_addParent_X0_add : GoodIn wsX5_addParent (wsV RX5 57 RX0 yX0_add wsX0_add) := goodIn_app (goodIn_of _ (by decide +kernel)) ggX5_addParent_X0_add
set_option maxRecDepth 20000 in
theorem ggX5_addParent_X1_numberAt : GoodIn wsX5_addParent wsX1_numberAt := goodIn_r _ [35, 19, 20, 21, 22, 13, 23, 2, 3, 4, 41] (by decide +kernel) (by decide +kernel)
set_option maxRecDepth 20000 in
theorem gX5_addParent_X1_numberAt : GoodIn wsX5_addParent (wsV RX5 82 RX1 yX1_numberAt wsX1_numberAt) := goodIn_app (goodIn_of _ (by decide +kernel)) ggX5_addParent_X1_numberAt
theorem dX5_addParent_0 : decode cX5_addParent 0 = .ok (.iload_n 1, 1) := by decide +kernel
theorem dX5_addParent_1 : decode cX5_addParent 1 = .ok (.sipush 256, 3) := by decide +kernel
theorem dX5_addParent_4 : decode cX5_addParent 4 = .ok (.idiv, 1) := by decide +kernel
theorem dX5_addParent_5 : decode cX5_addParent 5 = .ok (.istore_n 3, 1) := by decide +kernel
theorem dX5_addParent_6 : decode cX5_addParent 6 = .ok (.iload_n 3, 1) := by decide +kernel
theorem dX5_addParent_7 : decode cX5_addParent 7 = .ok (.bipush 96, 2) := by decide +kernel
theorem dX5_addParent_9 : decode cX5_addParent 9 = .ok (.invokestatic 142, 3) := by decide +kernel
theorem dX5_addParent_12 : decode cX5_addParent 12 = .ok (.ifCond .ne 4, 3) := by decide +kernel
theorem dX5_addParent_15 : decode cX5_addParent 15 = .ok (.return_, 1) := by decide +kernel
theorem dX5_addParent_16 : decode cX5_addParent 16 = .ok (.aload_n 0, 1) := by decide +kernel
theorem dX5_addParent_17 : decode cX5_addParent 17 = .ok (.iload_n 3, 1) := by decide +kernel
theorem dX5_addParent_18 : decode cX5_addParent 18 = .ok (.iload_n 1, 1) := by decide +kernel
theorem dX5_addParent_19 : decode cX5_addParent 19 = .ok (.sipush 256, 3) := by decide +kernel
theorem dX5_addParent_22 : decode cX5_addParent 22 = .ok (.irem, 1) := by decide +kernel
theorem dX5_addParent_23 : decode cX5_addParent 23 = .ok (.invokevirtual 135, 3) := by decide +kernel
theorem dX5_addParent_26 : decode cX5_addParent 26 = .ok (.istore 4, 2) := by decide +kernel
theorem dX5_addParent_28 : decode cX5_addParent 28 = .ok (.aload_n 2, 1) := by decide +kernel
theorem dX5_addParent_29 : decode cX5_addParent 29 = .ok (.iload_n 3, 1) := by decide +kernel
theorem dX5_addParent_30 : decode cX5_addParent 30 = .ok (.invokevirtual 57, 3) := by decide +kernel
theorem dX5_addParent_33 : decode cX5_addParent 33 = .ok (.iconst 0, 1) := by decide +kernel
theorem dX5_addParent_34 : decode cX5_addParent 34 = .ok (.istore 5, 2) := by decide +kernel
theorem dX5_addParent_36 : decode cX5_addParent 36 = .ok (.iload 5, 2) := by decide +kernel
theorem dX5_addParent_38 : decode cX5_addParent 38 = .ok (.iconst 4, 1) := by decide +kernel
theorem dX5_addParent_39 : decode cX5_addParent 39 = .ok (.if_icmp .ge 29, 3) := by decide +kernel
theorem dX5_addParent_42 : decode cX5_addParent 42 = .ok (.aload_n 2, 1) := by decide +kernel
theorem dX5_addParent_43 : decode cX5_addParent 43 = .ok (.aload_n 0, 1) := by decide +kernel
theorem dX5_addParent_44 : decode cX5_addParent 44 = .ok (.getfield 12, 3) := by decide +kernel
theorem dX5_addParent_47 : decode cX5_addParent 47 = .ok (.iload 4, 2) := by decide +kernel
theorem dX5_addParent_49 : decode cX5_addParent 49 = .ok (.iload_n 3, 1) := by decide +kernel
theorem dX5_addParent_50 : decode cX5_addParent 50 = .ok (.iload 5, 2) := by decide +kernel
theorem dX5_addParent_52 : decode cX5_addParent 52 = .ok (.invokevirtual 82, 3) := by decide +kernel
theorem dX5_addParent_55 : decode cX5_addParent 55 = .ok (.sipush 256, 3) := by decide +kernel
theorem dX5_addParent_58 : decode cX5_addParent 58 = .ok (.idiv, 1) := by decide +kernel
theorem dX5_addParent_59 : decode cX5_addParent 59 = .ok (.invokevirtual 57, 3) := by decide +kernel
theorem dX5_addParent_62 : decode cX5_addParent 62 = .ok (.iinc 5 1, 3) := by decide +kernel
theorem dX5_addParent_65 : decode cX5_addParent 65 = .ok (.goto (-29), 3) := by decide +kernel
theorem dX5_addParent_68 : decode cX5_addParent 68 = .ok (.return_, 1) := by decide +kernel
set_option maxRecDepth 20000 in
theorem ggX5_copyToFollow_X1_copyWithSum : GoodIn wsX5_copyToFollow wsX1_copyWithSum := goodIn_r _ [6, 7, 8, 9, 10, 11, 12, 5, 13, 14, 15, 16, 17, 18, 19, 20, 26] (by decide +kernel) (by decide +kernel)
set_option maxRecDepth 20000 in
theorem gX5_copyToFollow_X1_copyWithSum : GoodIn wsX5_copyToFollow (wsV RX5 77 RX1 yX1_copyWithSum wsX1_copyWithSum) := goodIn_app (goodIn_of _ (by decide +kernel)) ggX5_copyToFollow_X1_copyWithSum
theorem dX5_copyToFollow_0 : decode cX5_copyToFollow 0 = .ok (.aload_n 0, 1) := by decide +kernel
theorem dX5_copyToFollow_1 : decode cX5_copyToFollow 1 = .ok (.getfield 12, 3) := by decide +kernel
theorem dX5_copyToFollow_4 : decode cX5_copyToFollow 4 = .ok (.iload_n 1, 1) := by decide +kernel
theorem dX5_copyToFollow_5 : decode cX5_copyToFollow 5 = .ok (.iload_n 2, 1) := by decide +kernel
theorem dX5_copyToFollow_6 : decode cX5_copyToFollow 6 = .ok (.invokevirtual 77, 3) := by decide +kernel
theorem dX5_copyToFollow_9 : decode cX5_copyToFollow 9 = .ok (.istore_n 3, 1) := by decide +kernel
theorem dX5_copyToFollow_10 : decode cX5_copyToFollow 10 = .ok (.iload_n 3, 1) := by decide +kernel
theorem dX5_copyToFollow_11 : decode cX5_copyToFollow 11 = .ok (.iconst 2, 1) := by decide +kernel
theorem dX5_copyToFollow_12 : decode cX5_copyToFollow 12 = .ok (.if_icmp .ne 7, 3) := by decide +kernel
theorem dX5_copyToFollow_15 : decode cX5_copyToFollow 15 = .ok (.iconst 0, 1) := by decide +kernel
theorem dX5_copyToFollow_16 : decode cX5_copyToFollow 16 = .ok (.goto 4, 3) := by decide +kernel
theorem dX5_copyToFollow_19 : decode cX5_copyToFollow 19 = .ok (.iload_n 3, 1) := by decide +kernel
theorem dX5_copyToFollow_20 : decode cX5_copyToFollow 20 = .ok (.ireturn, 1) := by decide +kernel
set_option maxRecDepth 20000 in
theorem ggX5_settleUse_X0_copyFrom : GoodIn wsX5_settleUse wsX0_copyFrom := goodIn_r _ [7, 8, 79] (by decide +kernel) (by decide +kernel)
set_option maxRecDepth 20000 in
theorem gX5_settleUse_X0_copyFrom : GoodIn wsX5_settleUse (wsV RX5 40 RX0 yX0_copyFrom wsX0_copyFrom) := goodIn_app (goodIn_of _ (by decide +kernel)) ggX5_settleUse_X0_copyFrom
set_option maxRecDepth 20000 in
theorem ggX5_settleUse_X0_clear : GoodIn wsX5_settleUse wsX0_clear := goodIn_r _ [12, 8, 79] (by decide +kernel) (by decide +kernel)
set_option maxRecDepth 20000 in
theorem gX5_settleUse_X0_clear : GoodIn wsX5_settleUse (wsV RX5 146 RX0 yX0_clear wsX0_clear) := goodIn_app (goodIn_of _ (by decide +kernel)) ggX5_settleUse_X0_clear
set_option maxRecDepth 20000 in
theorem ggX5_settleUse_X3_size : GoodIn wsX5_settleUse wsX3_size := goodIn_r _ [17, 18, 80, 81, 82, 83] (by decide +kernel) (by decide +kernel)
set_option maxRecDepth 20000 in
theorem gX5_settleUse_X3_size : GoodIn wsX5_settleUse (wsV RX5 93 RX3 yX3_size wsX3_size) := goodIn_app (goodIn_of _ (by decide +kernel)) ggX5_settleUse_X3_size
set_option maxRecDepth 20000 in
theorem ggX5_settleUse_X5_addBlocksOf : GoodIn wsX5_settleUse wsX5_addBlocksOf := goodIn_r _ [23, 2, 24, 25, 26, 27, 16, 28, 29, 30, 31, 32, 33, 34, 35, 36, 37, 38, 39, 40, 22, 41, 42, 43, 44, 45, 46, 47, 48, 49, 50, 51, 52, 53, 54, 55, 56, 57, 58, 59, 60, 6, 61, 8, 62, 63, 64, 65, 66, 67, 68, 69, 74, 75, 76, 77, 78, 80, 81, 82, 83, 84, 79] (by decide +kernel) (by decide +kernel)
set_option maxRecDepth 20000 in
theorem gX5_settleUse_X5_addBlocksOf : GoodIn wsX5_settleUse (wsV RX5 147 RX5 yX5_addBlocksOf wsX5_addBlocksOf) := goodIn_app (goodIn_of _ (by decide +kernel)) ggX5_settleUse_X5_addBlocksOf
set_option maxRecDepth 20000 in
theorem ggX5_settleUse_X0_sizeWithout : GoodIn wsX5_settleUse wsX0_sizeWithout := goodIn_r _ [73, 8, 79] (by decide +kernel) (by decide +kernel)
set_option maxRecDepth 20000 in
theorem gX5_settleUse_X0_sizeWithout : GoodIn wsX5_settleUse (wsV RX5 150 RX0 yX0_sizeWithout wsX0_sizeWithout) := goodIn_app (goodIn_of _ (by decide +kernel)) ggX5_settleUse_X0_sizeWithout
theorem dX5_settleUse_0 : decode cX5_settleUse 0 = .ok (.aload_n 1, 1) := by decide +kernel
theorem dX5_settleUse_1 : decode cX5_settleUse 1 = .ok (.aload_n 0, 1) := by decide +kernel
theorem dX5_settleUse_2 : decode cX5_settleUse 2 = .ok (.getfield 21, 3) := by decide +kernel
theorem dX5_settleUse_5 : decode cX5_settleUse 5 = .ok (.invokevirtual 40, 3) := by decide +kernel
theorem dX5_settleUse_8 : decode cX5_settleUse 8 = .ok (.aload_n 0, 1) := by decide +kernel
theorem dX5_settleUse_9 : decode cX5_settleUse 9 = .ok (.getfield 21, 3) := by decide +kernel
theorem dX5_settleUse_12 : decode cX5_settleUse 12 = .ok (.invokevirtual 146, 3) := by decide +kernel
theorem dX5_settleUse_15 : decode cX5_settleUse 15 = .ok (.iconst 0, 1) := by decide +kernel
theorem dX5_settleUse_16 : decode cX5_settleUse 16 = .ok (.istore_n 2, 1) := by decide +kernel
theorem dX5_settleUse_17 : decode cX5_settleUse 17 = .ok (.iload_n 2, 1) := by decide +kernel
theorem dX5_settleUse_18 : decode cX5_settleUse 18 = .ok (.aload_n 0, 1) := by decide +kernel
theorem dX5_settleUse_19 : decode cX5_settleUse 19 = .ok (.getfield 28, 3) := by decide +kernel
theorem dX5_settleUse_22 : decode cX5_settleUse 22 = .ok (.invokevirtual 93, 3) := by decide +kernel
theorem dX5_settleUse_25 : decode cX5_settleUse 25 = .ok (.if_icmp .ge 18, 3) := by decide +kernel
theorem dX5_settleUse_28 : decode cX5_settleUse 28 = .ok (.aload_n 0, 1) := by decide +kernel
theorem dX5_settleUse_29 : decode cX5_settleUse 29 = .ok (.iload_n 2, 1) := by decide +kernel
theorem dX5_settleUse_30 : decode cX5_settleUse 30 = .ok (.aload_n 0, 1) := by decide +kernel
theorem dX5_settleUse_31 : decode cX5_settleUse 31 = .ok (.getfield 21, 3) := by decide +kernel
theorem dX5_settleUse_34 : decode cX5_settleUse 34 = .ok (.invokevirtual 147, 3) := by decide +kernel
theorem dX5_settleUse_37 : decode cX5_settleUse 37 = .ok (.iinc 2 1, 3) := by decide +kernel
theorem dX5_settleUse_40 : decode cX5_settleUse 40 = .ok (.goto (-23), 3) := by decide +kernel
theorem dX5_settleUse_43 : decode cX5_settleUse 43 = .ok (.aload_n 1, 1) := by decide +kernel
theorem dX5_settleUse_44 : decode cX5_settleUse 44 = .ok (.aload_n 0, 1) := by decide +kernel
theorem dX5_settleUse_45 : decode cX5_settleUse 45 = .ok (.getfield 21, 3) := by decide +kernel
theorem dX5_settleUse_48 : decode cX5_settleUse 48 = .ok (.invokevirtual 150, 3) := by decide +kernel
theorem dX5_settleUse_51 : decode cX5_settleUse 51 = .ok (.ireturn, 1) := by decide +kernel
set_option maxRecDepth 20000 in
theorem ggX5_unlikeLeaves_X3_blockAt : GoodIn wsX5_unlikeLeaves wsX3_blockAt := goodIn_r _ [8, 9, 10, 11, 12, 48, 49, 50, 51] (by decide +kernel) (by decide +kernel)
set_option maxRecDepth 20000 in
theorem gX5_unlikeLeaves_X3_blockAt : GoodIn wsX5_unlikeLeaves (wsV RX5 70 RX3 yX3_blockAt wsX3_blockAt) := goodIn_app (goodIn_of _ (by decide +kernel)) ggX5_unlikeLeaves_X3_blockAt
set_option maxRecDepth 20000 in
theorem ggX5_unlikeLeaves_X3_sumAt : GoodIn wsX5_unlikeLeaves wsX3_sumAt := goodIn_r _ [16, 17, 10, 11, 12, 48, 49, 50, 51] (by decide +kernel) (by decide +kernel)
set_option maxRecDepth 20000 in
theorem gX5_unlikeLeaves_X3_sumAt : GoodIn wsX5_unlikeLeaves (wsV RX5 74 RX3 yX3_sumAt wsX3_sumAt) := goodIn_app (goodIn_of _ (by decide +kernel)) ggX5_unlikeLeaves_X3_sumAt
set_option maxRecDepth 20000 in
theorem ggX5_unlikeLeaves_X1_copyWithSum : GoodIn wsX5_unlikeLeaves wsX1_copyWithSum := goodIn_r _ [22, 10, 11, 12, 23, 24, 25, 21, 26, 27, 28, 29, 30, 31, 32, 33, 52] (by decide +kernel) (by decide +kernel)
set_option maxRecDepth 20000 in
theorem gX5_unlikeLeaves_X1_copyWithSum : GoodIn wsX5_unlikeLeaves (wsV RX5 77 RX1 yX1_copyWithSum wsX1_copyWithSum) := goodIn_app (goodIn_of _ (by decide +kernel)) ggX5_unlikeLeaves_X1_copyWithSum
set_option maxRecDepth 20000 in
theorem ggX5_unlikeLeaves_X1_numberAt : GoodIn wsX5_unlikeLeaves wsX1_numberAt := goodIn_r _ [37, 27, 28, 29, 30, 21, 31, 10, 11, 12, 52] (by decide +kernel) (by decide +kernel)
set_option maxRecDepth 20000 in
theorem gX5_unlikeLeaves_X1_numberAt : GoodIn wsX5_unlikeLeaves (wsV RX5 82 RX1 yX1_numberAt wsX1_numberAt) := goodIn_app (goodIn_of _ (by decide +kernel)) ggX5_unlikeLeaves_X1_numberAt
set_option maxRecDepth 20000 in
theorem ggX5_unlikeLeaves_X5_unlikeChildren : GoodIn wsX5_unlikeLeaves wsX5_unlikeChildren := goodIn_r _ [42, 2, 3, 18, 19, 20, 21, 22, 10, 11, 12, 23, 24, 25, 26, 27, 28, 29, 30, 31, 32, 33, 34, 35, 36, 37, 43, 44, 45, 46, 47, 52] (by decide +kernel) (by decide +kernel)
set_option maxRecDepth 20000 in
theorem gX5_unlikeLeaves_X5_unlikeChildren : GoodIn wsX5_unlikeLeaves (wsV RX5 154 RX5 yX5_unlikeChildren wsX5_unlikeChildren) := goodIn_app (goodIn_of _ (by decide +kernel)) ggX5_unlikeLeaves_X5_unlikeChildren
theorem dX5_unlikeLeaves_0 : decode cX5_unlikeLeaves 0 = .ok (.aload_n 0, 1) := by decide +kernel
theorem dX5_unlikeLeaves_1 : decode cX5_unlikeLeaves 1 = .ok (.getfield 28, 3) := by decide +kernel
theorem dX5_unlikeLeaves_4 : decode cX5_unlikeLeaves 4 = .ok (.iload_n 1, 1) := by decide +kernel
theorem dX5_unlikeLeaves_5 : decode cX5_unlikeLeaves 5 = .ok (.invokevirtual 70, 3) := by decide +kernel
theorem dX5_unlikeLeaves_8 : decode cX5_unlikeLeaves 8 = .ok (.istore_n 3, 1) := by decide +kernel
theorem dX5_unlikeLeaves_9 : decode cX5_unlikeLeaves 9 = .ok (.aload_n 0, 1) := by decide +kernel
theorem dX5_unlikeLeaves_10 : decode cX5_unlikeLeaves 10 = .ok (.getfield 28, 3) := by decide +kernel
theorem dX5_unlikeLeaves_13 : decode cX5_unlikeLeaves 13 = .ok (.iload_n 2, 1) := by decide +kernel
theorem dX5_unlikeLeaves_14 : decode cX5_unlikeLeaves 14 = .ok (.invokevirtual 70, 3) := by decide +kernel
theorem dX5_unlikeLeaves_17 : decode cX5_unlikeLeaves 17 = .ok (.istore 4, 2) := by decide +kernel
theorem dX5_unlikeLeaves_19 : decode cX5_unlikeLeaves 19 = .ok (.iload_n 3, 1) := by decide +kernel
theorem dX5_unlikeLeaves_20 : decode cX5_unlikeLeaves 20 = .ok (.iload 4, 2) := by decide +kernel
theorem dX5_unlikeLeaves_22 : decode cX5_unlikeLeaves 22 = .ok (.if_icmp .ne 5, 3) := by decide +kernel
theorem dX5_unlikeLeaves_25 : decode cX5_unlikeLeaves 25 = .ok (.iconst 0, 1) := by decide +kernel
theorem dX5_unlikeLeaves_26 : decode cX5_unlikeLeaves 26 = .ok (.ireturn, 1) := by decide +kernel
theorem dX5_unlikeLeaves_27 : decode cX5_unlikeLeaves 27 = .ok (.aload_n 0, 1) := by decide +kernel
theorem dX5_unlikeLeaves_28 : decode cX5_unlikeLeaves 28 = .ok (.getfield 12, 3) := by decide +kernel
theorem dX5_unlikeLeaves_31 : decode cX5_unlikeLeaves 31 = .ok (.iload_n 3, 1) := by decide +kernel
theorem dX5_unlikeLeaves_32 : decode cX5_unlikeLeaves 32 = .ok (.aload_n 0, 1) := by decide +kernel
theorem dX5_unlikeLeaves_33 : decode cX5_unlikeLeaves 33 = .ok (.getfield 28, 3) := by decide +kernel
theorem dX5_unlikeLeaves_36 : decode cX5_unlikeLeaves 36 = .ok (.iload_n 1, 1) := by decide +kernel
theorem dX5_unlikeLeaves_37 : decode cX5_unlikeLeaves 37 = .ok (.invokevirtual 74, 3) := by decide +kernel
theorem dX5_unlikeLeaves_40 : decode cX5_unlikeLeaves 40 = .ok (.invokevirtual 77, 3) := by decide +kernel
theorem dX5_unlikeLeaves_43 : decode cX5_unlikeLeaves 43 = .ok (.istore 5, 2) := by decide +kernel
theorem dX5_unlikeLeaves_45 : decode cX5_unlikeLeaves 45 = .ok (.aload_n 0, 1) := by decide +kernel
theorem dX5_unlikeLeaves_46 : decode cX5_unlikeLeaves 46 = .ok (.getfield 12, 3) := by decide +kernel
theorem dX5_unlikeLeaves_49 : decode cX5_unlikeLeaves 49 = .ok (.iload 4, 2) := by decide +kernel
theorem dX5_unlikeLeaves_51 : decode cX5_unlikeLeaves 51 = .ok (.aload_n 0, 1) := by decide +kernel
theorem dX5_unlikeLeaves_52 : decode cX5_unlikeLeaves 52 = .ok (.getfield 28, 3) := by decide +kernel
theorem dX5_unlikeLeaves_55 : decode cX5_unlikeLeaves 55 = .ok (.iload_n 2, 1) := by decide +kernel
theorem dX5_unlikeLeaves_56 : decode cX5_unlikeLeaves 56 = .ok (.invokevirtual 74, 3) := by decide +kernel
theorem dX5_unlikeLeaves_59 : decode cX5_unlikeLeaves 59 = .ok (.invokevirtual 77, 3) := by decide +kernel
theorem dX5_unlikeLeaves_62 : decode cX5_unlikeLeaves 62 = .ok (.istore 6, 2) := by decide +kernel
theorem dX5_unlikeLeaves_64 : decode cX5_unlikeLeaves 64 = .ok (.iload 5, 2) := by decide +kernel
theorem dX5_unlikeLeaves_66 : decode cX5_unlikeLeaves 66 = .ok (.iconst 2, 1) := by decide +kernel
theorem dX5_unlikeLeaves_67 : decode cX5_unlikeLeaves 67 = .ok (.if_icmp .eq 9, 3) := by decide +kernel
theorem dX5_unlikeLeaves_70 : decode cX5_unlikeLeaves 70 = .ok (.iload 6, 2) := by decide +kernel
theorem dX5_unlikeLeaves_72 : decode cX5_unlikeLeaves 72 = .ok (.iconst 2, 1) := by decide +kernel
theorem dX5_unlikeLeaves_73 : decode cX5_unlikeLeaves 73 = .ok (.if_icmp .ne 6, 3) := by decide +kernel
theorem dX5_unlikeLeaves_76 : decode cX5_unlikeLeaves 76 = .ok (.ldc 107, 2) := by decide +kernel
theorem dX5_unlikeLeaves_78 : decode cX5_unlikeLeaves 78 = .ok (.ireturn, 1) := by decide +kernel
theorem dX5_unlikeLeaves_79 : decode cX5_unlikeLeaves 79 = .ok (.iconst 0, 1) := by decide +kernel
theorem dX5_unlikeLeaves_80 : decode cX5_unlikeLeaves 80 = .ok (.istore 7, 2) := by decide +kernel
theorem dX5_unlikeLeaves_82 : decode cX5_unlikeLeaves 82 = .ok (.iconst 0, 1) := by decide +kernel
theorem dX5_unlikeLeaves_83 : decode cX5_unlikeLeaves 83 = .ok (.istore 8, 2) := by decide +kernel
theorem dX5_unlikeLeaves_85 : decode cX5_unlikeLeaves 85 = .ok (.iload 8, 2) := by decide +kernel
theorem dX5_unlikeLeaves_87 : decode cX5_unlikeLeaves 87 = .ok (.iconst 4, 1) := by decide +kernel
theorem dX5_unlikeLeaves_88 : decode cX5_unlikeLeaves 88 = .ok (.if_icmp .ge 60, 3) := by decide +kernel
theorem dX5_unlikeLeaves_91 : decode cX5_unlikeLeaves 91 = .ok (.aload_n 0, 1) := by decide +kernel
theorem dX5_unlikeLeaves_92 : decode cX5_unlikeLeaves 92 = .ok (.aload_n 0, 1) := by decide +kernel
theorem dX5_unlikeLeaves_93 : decode cX5_unlikeLeaves 93 = .ok (.getfield 12, 3) := by decide +kernel
theorem dX5_unlikeLeaves_96 : decode cX5_unlikeLeaves 96 = .ok (.iload 5, 2) := by decide +kernel
theorem dX5_unlikeLeaves_98 : decode cX5_unlikeLeaves 98 = .ok (.iload_n 3, 1) := by decide +kernel
theorem dX5_unlikeLeaves_99 : decode cX5_unlikeLeaves 99 = .ok (.iload 8, 2) := by decide +kernel
theorem dX5_unlikeLeaves_101 : decode cX5_unlikeLeaves 101 = .ok (.invokevirtual 82, 3) := by decide +kernel
theorem dX5_unlikeLeaves_104 : decode cX5_unlikeLeaves 104 = .ok (.aload_n 0, 1) := by decide +kernel
theorem dX5_unlikeLeaves_105 : decode cX5_unlikeLeaves 105 = .ok (.getfield 12, 3) := by decide +kernel
theorem dX5_unlikeLeaves_108 : decode cX5_unlikeLeaves 108 = .ok (.iload 6, 2) := by decide +kernel
theorem dX5_unlikeLeaves_110 : decode cX5_unlikeLeaves 110 = .ok (.iload 4, 2) := by decide +kernel
theorem dX5_unlikeLeaves_112 : decode cX5_unlikeLeaves 112 = .ok (.iload 8, 2) := by decide +kernel
theorem dX5_unlikeLeaves_114 : decode cX5_unlikeLeaves 114 = .ok (.invokevirtual 82, 3) := by decide +kernel
theorem dX5_unlikeLeaves_117 : decode cX5_unlikeLeaves 117 = .ok (.invokevirtual 154, 3) := by decide +kernel
theorem dX5_unlikeLeaves_120 : decode cX5_unlikeLeaves 120 = .ok (.istore 9, 2) := by decide +kernel
theorem dX5_unlikeLeaves_122 : decode cX5_unlikeLeaves 122 = .ok (.iload 9, 2) := by decide +kernel
theorem dX5_unlikeLeaves_124 : decode cX5_unlikeLeaves 124 = .ok (.ifCond .ge 6, 3) := by decide +kernel
theorem dX5_unlikeLeaves_127 : decode cX5_unlikeLeaves 127 = .ok (.iload 9, 2) := by decide +kernel
theorem dX5_unlikeLeaves_129 : decode cX5_unlikeLeaves 129 = .ok (.ireturn, 1) := by decide +kernel
theorem dX5_unlikeLeaves_130 : decode cX5_unlikeLeaves 130 = .ok (.iload 7, 2) := by decide +kernel
theorem dX5_unlikeLeaves_132 : decode cX5_unlikeLeaves 132 = .ok (.iload 9, 2) := by decide +kernel
theorem dX5_unlikeLeaves_134 : decode cX5_unlikeLeaves 134 = .ok (.iconst 4, 1) := by decide +kernel
theorem dX5_unlikeLeaves_135 : decode cX5_unlikeLeaves 135 = .ok (.iload 8, 2) := by decide +kernel
theorem dX5_unlikeLeaves_137 : decode cX5_unlikeLeaves 137 = .ok (.imul, 1) := by decide +kernel
theorem dX5_unlikeLeaves_138 : decode cX5_unlikeLeaves 138 = .ok (.ishl, 1) := by decide +kernel
theorem dX5_unlikeLeaves_139 : decode cX5_unlikeLeaves 139 = .ok (.ior, 1) := by decide +kernel
theorem dX5_unlikeLeaves_140 : decode cX5_unlikeLeaves 140 = .ok (.istore 7, 2) := by decide +kernel
theorem dX5_unlikeLeaves_142 : decode cX5_unlikeLeaves 142 = .ok (.iinc 8 1, 3) := by decide +kernel
theorem dX5_unlikeLeaves_145 : decode cX5_unlikeLeaves 145 = .ok (.goto (-60), 3) := by decide +kernel
theorem dX5_unlikeLeaves_148 : decode cX5_unlikeLeaves 148 = .ok (.iload 7, 2) := by decide +kernel
theorem dX5_unlikeLeaves_150 : decode cX5_unlikeLeaves 150 = .ok (.ireturn, 1) := by decide +kernel
set_option maxRecDepth 20000 in
theorem ggX5_unlikeChildren_X1_copyWithSum : GoodIn wsX5_unlikeChildren wsX1_copyWithSum := goodIn_r _ [7, 8, 9, 10, 11, 12, 13, 6, 14, 15, 16, 17, 18, 19, 20, 21, 31] (by decide +kernel) (by decide +kernel)
set_option maxRecDepth 20000 in
theorem gX5_unlikeChildren_X1_copyWithSum : GoodIn wsX5_unlikeChildren (wsV RX5 77 RX1 yX1_copyWithSum wsX1_copyWithSum) := goodIn_app (goodIn_of _ (by decide +kernel)) ggX5_unlikeChildren_X1_copyWithSum
set_option maxRecDepth 20000 in
theorem ggX5_unlikeChildren_X1_numberAt : GoodIn wsX5_unlikeChildren wsX1_numberAt := goodIn_r _ [25, 15, 16, 17, 18, 6, 19, 8, 9, 10, 31] (by decide +kernel) (by decide +kernel)
set_option maxRecDepth 20000 in
theorem gX5_unlikeChildren_X1_numberAt : GoodIn wsX5_unlikeChildren (wsV RX5 82 RX1 yX1_numberAt wsX1_numberAt) := goodIn_app (goodIn_of _ (by decide +kernel)) ggX5_unlikeChildren_X1_numberAt
theorem dX5_unlikeChildren_0 : decode cX5_unlikeChildren 0 = .ok (.iload_n 1, 1) := by decide +kernel
theorem dX5_unlikeChildren_1 : decode cX5_unlikeChildren 1 = .ok (.sipush 256, 3) := by decide +kernel
theorem dX5_unlikeChildren_4 : decode cX5_unlikeChildren 4 = .ok (.idiv, 1) := by decide +kernel
theorem dX5_unlikeChildren_5 : decode cX5_unlikeChildren 5 = .ok (.istore_n 3, 1) := by decide +kernel
theorem dX5_unlikeChildren_6 : decode cX5_unlikeChildren 6 = .ok (.iload_n 2, 1) := by decide +kernel
theorem dX5_unlikeChildren_7 : decode cX5_unlikeChildren 7 = .ok (.sipush 256, 3) := by decide +kernel
theorem dX5_unlikeChildren_10 : decode cX5_unlikeChildren 10 = .ok (.idiv, 1) := by decide +kernel
theorem dX5_unlikeChildren_11 : decode cX5_unlikeChildren 11 = .ok (.istore 4, 2) := by decide +kernel
theorem dX5_unlikeChildren_13 : decode cX5_unlikeChildren 13 = .ok (.iload_n 3, 1) := by decide +kernel
theorem dX5_unlikeChildren_14 : decode cX5_unlikeChildren 14 = .ok (.iload 4, 2) := by decide +kernel
theorem dX5_unlikeChildren_16 : decode cX5_unlikeChildren 16 = .ok (.if_icmp .ne 5, 3) := by decide +kernel
theorem dX5_unlikeChildren_19 : decode cX5_unlikeChildren 19 = .ok (.iconst 0, 1) := by decide +kernel
theorem dX5_unlikeChildren_20 : decode cX5_unlikeChildren 20 = .ok (.ireturn, 1) := by decide +kernel
theorem dX5_unlikeChildren_21 : decode cX5_unlikeChildren 21 = .ok (.aload_n 0, 1) := by decide +kernel
theorem dX5_unlikeChildren_22 : decode cX5_unlikeChildren 22 = .ok (.getfield 12, 3) := by decide +kernel
theorem dX5_unlikeChildren_25 : decode cX5_unlikeChildren 25 = .ok (.iload_n 3, 1) := by decide +kernel
theorem dX5_unlikeChildren_26 : decode cX5_unlikeChildren 26 = .ok (.iload_n 1, 1) := by decide +kernel
theorem dX5_unlikeChildren_27 : decode cX5_unlikeChildren 27 = .ok (.sipush 256, 3) := by decide +kernel
theorem dX5_unlikeChildren_30 : decode cX5_unlikeChildren 30 = .ok (.irem, 1) := by decide +kernel
theorem dX5_unlikeChildren_31 : decode cX5_unlikeChildren 31 = .ok (.invokevirtual 77, 3) := by decide +kernel
theorem dX5_unlikeChildren_34 : decode cX5_unlikeChildren 34 = .ok (.istore 5, 2) := by decide +kernel
theorem dX5_unlikeChildren_36 : decode cX5_unlikeChildren 36 = .ok (.aload_n 0, 1) := by decide +kernel
theorem dX5_unlikeChildren_37 : decode cX5_unlikeChildren 37 = .ok (.getfield 12, 3) := by decide +kernel
theorem dX5_unlikeChildren_40 : decode cX5_unlikeChildren 40 = .ok (.iload 4, 2) := by decide +kernel
theorem dX5_unlikeChildren_42 : decode cX5_unlikeChildren 42 = .ok (.iload_n 2, 1) := by decide +kernel
theorem dX5_unlikeChildren_43 : decode cX5_unlikeChildren 43 = .ok (.sipush 256, 3) := by decide +kernel
theorem dX5_unlikeChildren_46 : decode cX5_unlikeChildren 46 = .ok (.irem, 1) := by decide +kernel
theorem dX5_unlikeChildren_47 : decode cX5_unlikeChildren 47 = .ok (.invokevirtual 77, 3) := by decide +kernel
theorem dX5_unlikeChildren_50 : decode cX5_unlikeChildren 50 = .ok (.istore 6, 2) := by decide +kernel
theorem dX5_unlikeChildren_52 : decode cX5_unlikeChildren 52 = .ok (.iload 5, 2) := by decide +kernel
theorem dX5_unlikeChildren_54 : decode cX5_unlikeChildren 54 = .ok (.iconst 2, 1) := by decide +kernel
theorem dX5_unlikeChildren_55 : decode cX5_unlikeChildren 55 = .ok (.if_icmp .eq 9, 3) := by decide +kernel
theorem dX5_unlikeChildren_58 : decode cX5_unlikeChildren 58 = .ok (.iload 6, 2) := by decide +kernel
theorem dX5_unlikeChildren_60 : decode cX5_unlikeChildren 60 = .ok (.iconst 2, 1) := by decide +kernel
theorem dX5_unlikeChildren_61 : decode cX5_unlikeChildren 61 = .ok (.if_icmp .ne 6, 3) := by decide +kernel
theorem dX5_unlikeChildren_64 : decode cX5_unlikeChildren 64 = .ok (.ldc 107, 2) := by decide +kernel
theorem dX5_unlikeChildren_66 : decode cX5_unlikeChildren 66 = .ok (.ireturn, 1) := by decide +kernel
theorem dX5_unlikeChildren_67 : decode cX5_unlikeChildren 67 = .ok (.iconst 0, 1) := by decide +kernel
theorem dX5_unlikeChildren_68 : decode cX5_unlikeChildren 68 = .ok (.istore 7, 2) := by decide +kernel
theorem dX5_unlikeChildren_70 : decode cX5_unlikeChildren 70 = .ok (.iconst 0, 1) := by decide +kernel
theorem dX5_unlikeChildren_71 : decode cX5_unlikeChildren 71 = .ok (.istore 8, 2) := by decide +kernel
theorem dX5_unlikeChildren_73 : decode cX5_unlikeChildren 73 = .ok (.iload 8, 2) := by decide +kernel
theorem dX5_unlikeChildren_75 : decode cX5_unlikeChildren 75 = .ok (.iconst 4, 1) := by decide +kernel
theorem dX5_unlikeChildren_76 : decode cX5_unlikeChildren 76 = .ok (.if_icmp .ge 62, 3) := by decide +kernel
theorem dX5_unlikeChildren_79 : decode cX5_unlikeChildren 79 = .ok (.aload_n 0, 1) := by decide +kernel
theorem dX5_unlikeChildren_80 : decode cX5_unlikeChildren 80 = .ok (.getfield 12, 3) := by decide +kernel
theorem dX5_unlikeChildren_83 : decode cX5_unlikeChildren 83 = .ok (.iload 5, 2) := by decide +kernel
theorem dX5_unlikeChildren_85 : decode cX5_unlikeChildren 85 = .ok (.iload_n 3, 1) := by decide +kernel
theorem dX5_unlikeChildren_86 : decode cX5_unlikeChildren 86 = .ok (.iload 8, 2) := by decide +kernel
theorem dX5_unlikeChildren_88 : decode cX5_unlikeChildren 88 = .ok (.invokevirtual 82, 3) := by decide +kernel
theorem dX5_unlikeChildren_91 : decode cX5_unlikeChildren 91 = .ok (.sipush 256, 3) := by decide +kernel
theorem dX5_unlikeChildren_94 : decode cX5_unlikeChildren 94 = .ok (.idiv, 1) := by decide +kernel
theorem dX5_unlikeChildren_95 : decode cX5_unlikeChildren 95 = .ok (.istore 9, 2) := by decide +kernel
theorem dX5_unlikeChildren_97 : decode cX5_unlikeChildren 97 = .ok (.aload_n 0, 1) := by decide +kernel
theorem dX5_unlikeChildren_98 : decode cX5_unlikeChildren 98 = .ok (.getfield 12, 3) := by decide +kernel
theorem dX5_unlikeChildren_101 : decode cX5_unlikeChildren 101 = .ok (.iload 6, 2) := by decide +kernel
theorem dX5_unlikeChildren_103 : decode cX5_unlikeChildren 103 = .ok (.iload 4, 2) := by decide +kernel
theorem dX5_unlikeChildren_105 : decode cX5_unlikeChildren 105 = .ok (.iload 8, 2) := by decide +kernel
theorem dX5_unlikeChildren_107 : decode cX5_unlikeChildren 107 = .ok (.invokevirtual 82, 3) := by decide +kernel
theorem dX5_unlikeChildren_110 : decode cX5_unlikeChildren 110 = .ok (.sipush 256, 3) := by decide +kernel
theorem dX5_unlikeChildren_113 : decode cX5_unlikeChildren 113 = .ok (.idiv, 1) := by decide +kernel
theorem dX5_unlikeChildren_114 : decode cX5_unlikeChildren 114 = .ok (.istore 10, 2) := by decide +kernel
theorem dX5_unlikeChildren_116 : decode cX5_unlikeChildren 116 = .ok (.iload 9, 2) := by decide +kernel
theorem dX5_unlikeChildren_118 : decode cX5_unlikeChildren 118 = .ok (.iload 10, 2) := by decide +kernel
theorem dX5_unlikeChildren_120 : decode cX5_unlikeChildren 120 = .ok (.if_icmp .eq 12, 3) := by decide +kernel
theorem dX5_unlikeChildren_123 : decode cX5_unlikeChildren 123 = .ok (.iload 7, 2) := by decide +kernel
theorem dX5_unlikeChildren_125 : decode cX5_unlikeChildren 125 = .ok (.iconst 1, 1) := by decide +kernel
theorem dX5_unlikeChildren_126 : decode cX5_unlikeChildren 126 = .ok (.iload 8, 2) := by decide +kernel
theorem dX5_unlikeChildren_128 : decode cX5_unlikeChildren 128 = .ok (.ishl, 1) := by decide +kernel
theorem dX5_unlikeChildren_129 : decode cX5_unlikeChildren 129 = .ok (.ior, 1) := by decide +kernel
theorem dX5_unlikeChildren_130 : decode cX5_unlikeChildren 130 = .ok (.istore 7, 2) := by decide +kernel
theorem dX5_unlikeChildren_132 : decode cX5_unlikeChildren 132 = .ok (.iinc 8 1, 3) := by decide +kernel
theorem dX5_unlikeChildren_135 : decode cX5_unlikeChildren 135 = .ok (.goto (-62), 3) := by decide +kernel
theorem dX5_unlikeChildren_138 : decode cX5_unlikeChildren 138 = .ok (.iload 7, 2) := by decide +kernel
theorem dX5_unlikeChildren_140 : decode cX5_unlikeChildren 140 = .ok (.ireturn, 1) := by decide +kernel
theorem dX6_init_0 : decode cX6_init 0 = .ok (.aload_n 0, 1) := by decide +kernel
theorem dX6_init_1 : decode cX6_init 1 = .ok (.invokespecial 3, 3) := by decide +kernel
theorem dX6_init_4 : decode cX6_init 4 = .ok (.return_, 1) := by decide +kernel
theorem dX7_init_0 : decode cX7_init 0 = .ok (.aload_n 0, 1) := by decide +kernel
theorem dX7_init_1 : decode cX7_init 1 = .ok (.invokespecial 3, 3) := by decide +kernel
theorem dX7_init_4 : decode cX7_init 4 = .ok (.aload_n 0, 1) := by decide +kernel
theorem dX7_init_5 : decode cX7_init 5 = .ok (.iconst 3, 1) := by decide +kernel
theorem dX7_init_6 : decode cX7_init 6 = .ok (.newarray .int, 2) := by decide +kernel
theorem dX7_init_8 : decode cX7_init 8 = .ok (.putfield 9, 3) := by decide +kernel
theorem dX7_init_11 : decode cX7_init 11 = .ok (.aload_n 0, 1) := by decide +kernel
theorem dX7_init_12 : decode cX7_init 12 = .ok (.iconst 3, 1) := by decide +kernel
theorem dX7_init_13 : decode cX7_init 13 = .ok (.newarray .int, 2) := by decide +kernel
theorem dX7_init_15 : decode cX7_init 15 = .ok (.putfield 15, 3) := by decide +kernel
theorem dX7_init_18 : decode cX7_init 18 = .ok (.aload_n 0, 1) := by decide +kernel
theorem dX7_init_19 : decode cX7_init 19 = .ok (.iconst 3, 1) := by decide +kernel
theorem dX7_init_20 : decode cX7_init 20 = .ok (.newarray .int, 2) := by decide +kernel
theorem dX7_init_22 : decode cX7_init 22 = .ok (.putfield 18, 3) := by decide +kernel
theorem dX7_init_25 : decode cX7_init 25 = .ok (.aload_n 0, 1) := by decide +kernel
theorem dX7_init_26 : decode cX7_init 26 = .ok (.bipush 12, 2) := by decide +kernel
theorem dX7_init_28 : decode cX7_init 28 = .ok (.newarray .int, 2) := by decide +kernel
theorem dX7_init_30 : decode cX7_init 30 = .ok (.putfield 21, 3) := by decide +kernel
theorem dX7_init_33 : decode cX7_init 33 = .ok (.return_, 1) := by decide +kernel
theorem dX7_clear_0 : decode cX7_clear 0 = .ok (.aload_n 0, 1) := by decide +kernel
theorem dX7_clear_1 : decode cX7_clear 1 = .ok (.iconst 0, 1) := by decide +kernel
theorem dX7_clear_2 : decode cX7_clear 2 = .ok (.putfield 24, 3) := by decide +kernel
theorem dX7_clear_5 : decode cX7_clear 5 = .ok (.return_, 1) := by decide +kernel
theorem dX7_add_0 : decode cX7_add 0 = .ok (.aload_n 0, 1) := by decide +kernel
theorem dX7_add_1 : decode cX7_add 1 = .ok (.getfield 24, 3) := by decide +kernel
theorem dX7_add_4 : decode cX7_add 4 = .ok (.iconst 3, 1) := by decide +kernel
theorem dX7_add_5 : decode cX7_add 5 = .ok (.if_icmp .ge 43, 3) := by decide +kernel
theorem dX7_add_8 : decode cX7_add 8 = .ok (.aload_n 0, 1) := by decide +kernel
theorem dX7_add_9 : decode cX7_add 9 = .ok (.getfield 9, 3) := by decide +kernel
theorem dX7_add_12 : decode cX7_add 12 = .ok (.aload_n 0, 1) := by decide +kernel
theorem dX7_add_13 : decode cX7_add 13 = .ok (.getfield 24, 3) := by decide +kernel
theorem dX7_add_16 : decode cX7_add 16 = .ok (.iload_n 1, 1) := by decide +kernel
theorem dX7_add_17 : decode cX7_add 17 = .ok (.iastore, 1) := by decide +kernel
theorem dX7_add_18 : decode cX7_add 18 = .ok (.aload_n 0, 1) := by decide +kernel
theorem dX7_add_19 : decode cX7_add 19 = .ok (.getfield 15, 3) := by decide +kernel
theorem dX7_add_22 : decode cX7_add 22 = .ok (.aload_n 0, 1) := by decide +kernel
theorem dX7_add_23 : decode cX7_add 23 = .ok (.getfield 24, 3) := by decide +kernel
theorem dX7_add_26 : decode cX7_add 26 = .ok (.iload_n 2, 1) := by decide +kernel
theorem dX7_add_27 : decode cX7_add 27 = .ok (.iastore, 1) := by decide +kernel
theorem dX7_add_28 : decode cX7_add 28 = .ok (.aload_n 0, 1) := by decide +kernel
theorem dX7_add_29 : decode cX7_add 29 = .ok (.getfield 18, 3) := by decide +kernel
theorem dX7_add_32 : decode cX7_add 32 = .ok (.aload_n 0, 1) := by decide +kernel
theorem dX7_add_33 : decode cX7_add 33 = .ok (.getfield 24, 3) := by decide +kernel
theorem dX7_add_36 : decode cX7_add 36 = .ok (.iload_n 3, 1) := by decide +kernel
theorem dX7_add_37 : decode cX7_add 37 = .ok (.iastore, 1) := by decide +kernel
theorem dX7_add_38 : decode cX7_add 38 = .ok (.aload_n 0, 1) := by decide +kernel
theorem dX7_add_39 : decode cX7_add 39 = .ok (.dup, 1) := by decide +kernel
theorem dX7_add_40 : decode cX7_add 40 = .ok (.getfield 24, 3) := by decide +kernel
theorem dX7_add_43 : decode cX7_add 43 = .ok (.iconst 1, 1) := by decide +kernel
theorem dX7_add_44 : decode cX7_add 44 = .ok (.iadd, 1) := by decide +kernel
theorem dX7_add_45 : decode cX7_add 45 = .ok (.putfield 24, 3) := by decide +kernel
theorem dX7_add_48 : decode cX7_add 48 = .ok (.return_, 1) := by decide +kernel
set_option maxRecDepth 20000 in
theorem ggX7_tells_X8_below : GoodIn wsX7_tells wsX8_below := goodIn_r _ [4] (by decide +kernel) (by decide +kernel)
set_option maxRecDepth 20000 in
theorem gX7_tells_X8_below_n28 : GoodIn wsX7_tells (wsX8_below) := ggX7_tells_X8_below
theorem dX7_tells_0 : decode cX7_tells 0 = .ok (.iload_n 1, 1) := by decide +kernel
theorem dX7_tells_1 : decode cX7_tells 1 = .ok (.aload_n 0, 1) := by decide +kernel
theorem dX7_tells_2 : decode cX7_tells 2 = .ok (.getfield 24, 3) := by decide +kernel
theorem dX7_tells_5 : decode cX7_tells 5 = .ok (.invokestatic 28, 3) := by decide +kernel
theorem dX7_tells_8 : decode cX7_tells 8 = .ok (.ifCond .eq 15, 3) := by decide +kernel
theorem dX7_tells_11 : decode cX7_tells 11 = .ok (.aload_n 0, 1) := by decide +kernel
theorem dX7_tells_12 : decode cX7_tells 12 = .ok (.getfield 24, 3) := by decide +kernel
theorem dX7_tells_15 : decode cX7_tells 15 = .ok (.iconst 3, 1) := by decide +kernel
theorem dX7_tells_16 : decode cX7_tells 16 = .ok (.if_icmp .gt 7, 3) := by decide +kernel
theorem dX7_tells_19 : decode cX7_tells 19 = .ok (.iconst 1, 1) := by decide +kernel
theorem dX7_tells_20 : decode cX7_tells 20 = .ok (.goto 4, 3) := by decide +kernel
theorem dX7_tells_23 : decode cX7_tells 23 = .ok (.iconst 0, 1) := by decide +kernel
theorem dX7_tells_24 : decode cX7_tells 24 = .ok (.ireturn, 1) := by decide +kernel
set_option maxRecDepth 20000 in
theorem ggX7_isSpoiled_X7_copyAt : GoodIn wsX7_isSpoiled wsX7_copyAt := goodIn_r _ [5, 6, 7, 8, 9, 4, 10, 11, 12, 13, 14, 15, 16, 17, 18, 19] (by decide +kernel) (by decide +kernel)
set_option maxRecDepth 20000 in
theorem gX7_isSpoiled_X7_copyAt : GoodIn wsX7_isSpoiled (wsV RX7 32 RX7 yX7_copyAt wsX7_copyAt) := goodIn_app (goodIn_of _ (by decide +kernel)) ggX7_isSpoiled_X7_copyAt
theorem dX7_isSpoiled_0 : decode cX7_isSpoiled 0 = .ok (.aload_n 0, 1) := by decide +kernel
theorem dX7_isSpoiled_1 : decode cX7_isSpoiled 1 = .ok (.iconst 2, 1) := by decide +kernel
theorem dX7_isSpoiled_2 : decode cX7_isSpoiled 2 = .ok (.invokevirtual 32, 3) := by decide +kernel
theorem dX7_isSpoiled_5 : decode cX7_isSpoiled 5 = .ok (.iconst 2, 1) := by decide +kernel
theorem dX7_isSpoiled_6 : decode cX7_isSpoiled 6 = .ok (.if_icmp .ne 7, 3) := by decide +kernel
theorem dX7_isSpoiled_9 : decode cX7_isSpoiled 9 = .ok (.iconst 1, 1) := by decide +kernel
theorem dX7_isSpoiled_10 : decode cX7_isSpoiled 10 = .ok (.goto 4, 3) := by decide +kernel
theorem dX7_isSpoiled_13 : decode cX7_isSpoiled 13 = .ok (.iconst 0, 1) := by decide +kernel
theorem dX7_isSpoiled_14 : decode cX7_isSpoiled 14 = .ok (.ireturn, 1) := by decide +kernel
set_option maxRecDepth 20000 in
theorem ggX7_blockAt_X7_tells : GoodIn wsX7_blockAt wsX7_tells := goodIn_r _ [6, 7, 8, 9, 10, 11, 12, 13, 14, 15] (by decide +kernel) (by decide +kernel)
set_option maxRecDepth 20000 in
theorem gX7_blockAt_X7_tells : GoodIn wsX7_blockAt (wsV RX7 36 RX7 yX7_tells wsX7_tells) := goodIn_app (goodIn_of _ (by decide +kernel)) ggX7_blockAt_X7_tells
theorem dX7_blockAt_0 : decode cX7_blockAt 0 = .ok (.aload_n 0, 1) := by decide +kernel
theorem dX7_blockAt_1 : decode cX7_blockAt 1 = .ok (.iload_n 1, 1) := by decide +kernel
theorem dX7_blockAt_2 : decode cX7_blockAt 2 = .ok (.invokevirtual 36, 3) := by decide +kernel
theorem dX7_blockAt_5 : decode cX7_blockAt 5 = .ok (.ifCond .eq 12, 3) := by decide +kernel
theorem dX7_blockAt_8 : decode cX7_blockAt 8 = .ok (.aload_n 0, 1) := by decide +kernel
theorem dX7_blockAt_9 : decode cX7_blockAt 9 = .ok (.getfield 9, 3) := by decide +kernel
theorem dX7_blockAt_12 : decode cX7_blockAt 12 = .ok (.iload_n 1, 1) := by decide +kernel
theorem dX7_blockAt_13 : decode cX7_blockAt 13 = .ok (.iaload, 1) := by decide +kernel
theorem dX7_blockAt_14 : decode cX7_blockAt 14 = .ok (.goto 5, 3) := by decide +kernel
theorem dX7_blockAt_17 : decode cX7_blockAt 17 = .ok (.bipush 96, 2) := by decide +kernel
theorem dX7_blockAt_19 : decode cX7_blockAt 19 = .ok (.ireturn, 1) := by decide +kernel
set_option maxRecDepth 20000 in
theorem ggX7_sumAt_X7_tells : GoodIn wsX7_sumAt wsX7_tells := goodIn_r _ [6, 7, 8, 9, 10, 11, 12, 13, 14, 15] (by decide +kernel) (by decide +kernel)
set_option maxRecDepth 20000 in
theorem gX7_sumAt_X7_tells : GoodIn wsX7_sumAt (wsV RX7 36 RX7 yX7_tells wsX7_tells) := goodIn_app (goodIn_of _ (by decide +kernel)) ggX7_sumAt_X7_tells
theorem dX7_sumAt_0 : decode cX7_sumAt 0 = .ok (.aload_n 0, 1) := by decide +kernel
theorem dX7_sumAt_1 : decode cX7_sumAt 1 = .ok (.iload_n 1, 1) := by decide +kernel
theorem dX7_sumAt_2 : decode cX7_sumAt 2 = .ok (.invokevirtual 36, 3) := by decide +kernel
theorem dX7_sumAt_5 : decode cX7_sumAt 5 = .ok (.ifCond .eq 12, 3) := by decide +kernel
theorem dX7_sumAt_8 : decode cX7_sumAt 8 = .ok (.aload_n 0, 1) := by decide +kernel
theorem dX7_sumAt_9 : decode cX7_sumAt 9 = .ok (.getfield 15, 3) := by decide +kernel
theorem dX7_sumAt_12 : decode cX7_sumAt 12 = .ok (.iload_n 1, 1) := by decide +kernel
theorem dX7_sumAt_13 : decode cX7_sumAt 13 = .ok (.iaload, 1) := by decide +kernel
theorem dX7_sumAt_14 : decode cX7_sumAt 14 = .ok (.goto 4, 3) := by decide +kernel
theorem dX7_sumAt_17 : decode cX7_sumAt 17 = .ok (.iconst (-1), 1) := by decide +kernel
theorem dX7_sumAt_18 : decode cX7_sumAt 18 = .ok (.ireturn, 1) := by decide +kernel
set_option maxRecDepth 20000 in
theorem ggX7_copyAt_X7_tells : GoodIn wsX7_copyAt wsX7_tells := goodIn_r _ [6, 7, 8, 9, 10, 11, 12, 13, 14, 15] (by decide +kernel) (by decide +kernel)
