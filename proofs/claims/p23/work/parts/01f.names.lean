theorem dL_write_386 : decode cL_write 386 = .ok (.iconst 3, 1) := by decide +kernel
theorem dL_write_387 : decode cL_write 387 = .ok (.isub, 1) := by decide +kernel
theorem dL_write_388 : decode cL_write 388 = .ok (.iaload, 1) := by decide +kernel
theorem dL_write_389 : decode cL_write 389 = .ok (.iastore, 1) := by decide +kernel
theorem dL_write_390 : decode cL_write 390 = .ok (.iinc 29 (-1), 3) := by decide +kernel
theorem dL_write_393 : decode cL_write 393 = .ok (.goto (-21), 3) := by decide +kernel
theorem dL_write_396 : decode cL_write 396 = .ok (.aload 4, 2) := by decide +kernel
theorem dL_write_398 : decode cL_write 398 = .ok (.iconst 0, 1) := by decide +kernel
theorem dL_write_399 : decode cL_write 399 = .ok (.aload_n 3, 1) := by decide +kernel
theorem dL_write_400 : decode cL_write 400 = .ok (.iconst 1, 1) := by decide +kernel
theorem dL_write_401 : decode cL_write 401 = .ok (.dup2, 1) := by decide +kernel
theorem dL_write_402 : decode cL_write 402 = .ok (.iaload, 1) := by decide +kernel
theorem dL_write_403 : decode cL_write 403 = .ok (.dup_x2, 1) := by decide +kernel
theorem dL_write_404 : decode cL_write 404 = .ok (.iconst 1, 1) := by decide +kernel
theorem dL_write_405 : decode cL_write 405 = .ok (.iadd, 1) := by decide +kernel
theorem dL_write_406 : decode cL_write 406 = .ok (.iastore, 1) := by decide +kernel
theorem dL_write_407 : decode cL_write 407 = .ok (.iastore, 1) := by decide +kernel
theorem dL_write_408 : decode cL_write 408 = .ok (.aload 4, 2) := by decide +kernel
theorem dL_write_410 : decode cL_write 410 = .ok (.iconst 1, 1) := by decide +kernel
theorem dL_write_411 : decode cL_write 411 = .ok (.iload 20, 2) := by decide +kernel
theorem dL_write_413 : decode cL_write 413 = .ok (.iastore, 1) := by decide +kernel
theorem dL_write_414 : decode cL_write 414 = .ok (.aload 4, 2) := by decide +kernel
theorem dL_write_416 : decode cL_write 416 = .ok (.iconst 2, 1) := by decide +kernel
theorem dL_write_417 : decode cL_write 417 = .ok (.lload 23, 2) := by decide +kernel
theorem dL_write_419 : decode cL_write 419 = .ok (.invokestatic 24, 3) := by decide +kernel
theorem dL_write_422 : decode cL_write 422 = .ok (.iastore, 1) := by decide +kernel
theorem dL_write_423 : decode cL_write 423 = .ok (.aload_n 3, 1) := by decide +kernel
theorem dL_write_424 : decode cL_write 424 = .ok (.iconst 0, 1) := by decide +kernel
theorem dL_write_425 : decode cL_write 425 = .ok (.dup2, 1) := by decide +kernel
theorem dL_write_426 : decode cL_write 426 = .ok (.iaload, 1) := by decide +kernel
theorem dL_write_427 : decode cL_write 427 = .ok (.iconst 1, 1) := by decide +kernel
theorem dL_write_428 : decode cL_write 428 = .ok (.iadd, 1) := by decide +kernel
theorem dL_write_429 : decode cL_write 429 = .ok (.iastore, 1) := by decide +kernel
theorem dL_write_430 : decode cL_write 430 = .ok (.aload_n 3, 1) := by decide +kernel
theorem dL_write_431 : decode cL_write 431 = .ok (.iconst 2, 1) := by decide +kernel
theorem dL_write_432 : decode cL_write 432 = .ok (.iconst 0, 1) := by decide +kernel
theorem dL_write_433 : decode cL_write 433 = .ok (.iastore, 1) := by decide +kernel
theorem dL_write_434 : decode cL_write 434 = .ok (.aload_n 3, 1) := by decide +kernel
theorem dL_write_435 : decode cL_write 435 = .ok (.iconst 3, 1) := by decide +kernel
theorem dL_write_436 : decode cL_write 436 = .ok (.dup2, 1) := by decide +kernel
theorem dL_write_437 : decode cL_write 437 = .ok (.iaload, 1) := by decide +kernel
theorem dL_write_438 : decode cL_write 438 = .ok (.iconst 1, 1) := by decide +kernel
theorem dL_write_439 : decode cL_write 439 = .ok (.iadd, 1) := by decide +kernel
theorem dL_write_440 : decode cL_write 440 = .ok (.iastore, 1) := by decide +kernel
theorem dL_write_441 : decode cL_write 441 = .ok (.iload 15, 2) := by decide +kernel
theorem dL_write_443 : decode cL_write 443 = .ok (.ireturn, 1) := by decide +kernel
set_option maxRecDepth 20000 in
theorem ggL_mend_L_way : GoodIn wsL_mend wsL_way := goodIn_r _ [5, 6, 7, 4, 8, 9, 10, 11, 12, 13, 14, 15, 16, 17, 18] (by decide +kernel) (by decide +kernel)
set_option maxRecDepth 20000 in
theorem gL_mend_L_way : GoodIn wsL_mend (va_wsS RL 38 yL_way wsL_way) := goodIn_app (goodIn_of _ (by decide +kernel)) ggL_mend_L_way
set_option maxRecDepth 20000 in
theorem ggL_mend_L_content : GoodIn wsL_mend wsL_content := goodIn_r _ [11] (by decide +kernel) (by decide +kernel)
set_option maxRecDepth 20000 in
theorem gL_mend_L_content : GoodIn wsL_mend (va_wsS RL 20 yL_content wsL_content) := goodIn_app (goodIn_of _ (by decide +kernel)) ggL_mend_L_content
theorem dL_mend_0 : decode cL_mend 0 = .ok (.iload_n 0, 1) := by decide +kernel
theorem dL_mend_1 : decode cL_mend 1 = .ok (.iload_n 1, 1) := by decide +kernel
theorem dL_mend_2 : decode cL_mend 2 = .ok (.aload_n 2, 1) := by decide +kernel
theorem dL_mend_3 : decode cL_mend 3 = .ok (.aload_n 3, 1) := by decide +kernel
theorem dL_mend_4 : decode cL_mend 4 = .ok (.aload 4, 2) := by decide +kernel
theorem dL_mend_6 : decode cL_mend 6 = .ok (.aload 5, 2) := by decide +kernel
theorem dL_mend_8 : decode cL_mend 8 = .ok (.invokestatic 38, 3) := by decide +kernel
theorem dL_mend_11 : decode cL_mend 11 = .ok (.istore 6, 2) := by decide +kernel
theorem dL_mend_13 : decode cL_mend 13 = .ok (.iconst 3, 1) := by decide +kernel
theorem dL_mend_14 : decode cL_mend 14 = .ok (.newarray .long, 2) := by decide +kernel
theorem dL_mend_16 : decode cL_mend 16 = .ok (.astore 7, 2) := by decide +kernel
theorem dL_mend_18 : decode cL_mend 18 = .ok (.iconst 0, 1) := by decide +kernel
theorem dL_mend_19 : decode cL_mend 19 = .ok (.istore 8, 2) := by decide +kernel
theorem dL_mend_21 : decode cL_mend 21 = .ok (.iload 8, 2) := by decide +kernel
theorem dL_mend_23 : decode cL_mend 23 = .ok (.iload 6, 2) := by decide +kernel
theorem dL_mend_25 : decode cL_mend 25 = .ok (.if_icmp .ge 39, 3) := by decide +kernel
theorem dL_mend_28 : decode cL_mend 28 = .ok (.aload 7, 2) := by decide +kernel
theorem dL_mend_30 : decode cL_mend 30 = .ok (.iload 8, 2) := by decide +kernel
theorem dL_mend_32 : decode cL_mend 32 = .ok (.aload 5, 2) := by decide +kernel
theorem dL_mend_34 : decode cL_mend 34 = .ok (.iload 8, 2) := by decide +kernel
theorem dL_mend_36 : decode cL_mend 36 = .ok (.iaload, 1) := by decide +kernel
theorem dL_mend_37 : decode cL_mend 37 = .ok (.aload 5, 2) := by decide +kernel
theorem dL_mend_39 : decode cL_mend 39 = .ok (.bipush 6, 2) := by decide +kernel
theorem dL_mend_41 : decode cL_mend 41 = .ok (.iload 8, 2) := by decide +kernel
theorem dL_mend_43 : decode cL_mend 43 = .ok (.iadd, 1) := by decide +kernel
theorem dL_mend_44 : decode cL_mend 44 = .ok (.iaload, 1) := by decide +kernel
theorem dL_mend_45 : decode cL_mend 45 = .ok (.ifCond .ne 7, 3) := by decide +kernel
theorem dL_mend_48 : decode cL_mend 48 = .ok (.aload_n 3, 1) := by decide +kernel
theorem dL_mend_49 : decode cL_mend 49 = .ok (.goto 5, 3) := by decide +kernel
theorem dL_mend_52 : decode cL_mend 52 = .ok (.aload 4, 2) := by decide +kernel
theorem dL_mend_54 : decode cL_mend 54 = .ok (.invokestatic 20, 3) := by decide +kernel
theorem dL_mend_57 : decode cL_mend 57 = .ok (.lastore, 1) := by decide +kernel
theorem dL_mend_58 : decode cL_mend 58 = .ok (.iinc 8 1, 3) := by decide +kernel
theorem dL_mend_61 : decode cL_mend 61 = .ok (.goto (-40), 3) := by decide +kernel
theorem dL_mend_64 : decode cL_mend 64 = .ok (.iconst 0, 1) := by decide +kernel
theorem dL_mend_65 : decode cL_mend 65 = .ok (.istore 8, 2) := by decide +kernel
theorem dL_mend_67 : decode cL_mend 67 = .ok (.iconst 0, 1) := by decide +kernel
theorem dL_mend_68 : decode cL_mend 68 = .ok (.istore 9, 2) := by decide +kernel
theorem dL_mend_70 : decode cL_mend 70 = .ok (.iload 9, 2) := by decide +kernel
theorem dL_mend_72 : decode cL_mend 72 = .ok (.iload 6, 2) := by decide +kernel
theorem dL_mend_74 : decode cL_mend 74 = .ok (.if_icmp .ge 68, 3) := by decide +kernel
theorem dL_mend_77 : decode cL_mend 77 = .ok (.aload 5, 2) := by decide +kernel
theorem dL_mend_79 : decode cL_mend 79 = .ok (.iload 9, 2) := by decide +kernel
theorem dL_mend_81 : decode cL_mend 81 = .ok (.iaload, 1) := by decide +kernel
theorem dL_mend_82 : decode cL_mend 82 = .ok (.istore 10, 2) := by decide +kernel
theorem dL_mend_84 : decode cL_mend 84 = .ok (.iload 10, 2) := by decide +kernel
theorem dL_mend_86 : decode cL_mend 86 = .ok (.bipush 63, 2) := by decide +kernel
theorem dL_mend_88 : decode cL_mend 88 = .ok (.if_icmp .le 6, 3) := by decide +kernel
theorem dL_mend_91 : decode cL_mend 91 = .ok (.goto 45, 3) := by decide +kernel
theorem dL_mend_94 : decode cL_mend 94 = .ok (.iload 8, 2) := by decide +kernel
theorem dL_mend_96 : decode cL_mend 96 = .ok (.aload_n 3, 1) := by decide +kernel
theorem dL_mend_97 : decode cL_mend 97 = .ok (.iload 10, 2) := by decide +kernel
theorem dL_mend_99 : decode cL_mend 99 = .ok (.laload, 1) := by decide +kernel
theorem dL_mend_100 : decode cL_mend 100 = .ok (.aload 4, 2) := by decide +kernel
theorem dL_mend_102 : decode cL_mend 102 = .ok (.iload 10, 2) := by decide +kernel
theorem dL_mend_104 : decode cL_mend 104 = .ok (.laload, 1) := by decide +kernel
theorem dL_mend_105 : decode cL_mend 105 = .ok (.lcmp, 1) := by decide +kernel
theorem dL_mend_106 : decode cL_mend 106 = .ok (.ifCond .eq 7, 3) := by decide +kernel
theorem dL_mend_109 : decode cL_mend 109 = .ok (.iconst 1, 1) := by decide +kernel
theorem dL_mend_110 : decode cL_mend 110 = .ok (.goto 4, 3) := by decide +kernel
theorem dL_mend_113 : decode cL_mend 113 = .ok (.iconst 0, 1) := by decide +kernel
theorem dL_mend_114 : decode cL_mend 114 = .ok (.iadd, 1) := by decide +kernel
theorem dL_mend_115 : decode cL_mend 115 = .ok (.istore 8, 2) := by decide +kernel
theorem dL_mend_117 : decode cL_mend 117 = .ok (.aload_n 3, 1) := by decide +kernel
theorem dL_mend_118 : decode cL_mend 118 = .ok (.iload 10, 2) := by decide +kernel
theorem dL_mend_120 : decode cL_mend 120 = .ok (.aload 7, 2) := by decide +kernel
theorem dL_mend_122 : decode cL_mend 122 = .ok (.iload 9, 2) := by decide +kernel
theorem dL_mend_124 : decode cL_mend 124 = .ok (.laload, 1) := by decide +kernel
theorem dL_mend_125 : decode cL_mend 125 = .ok (.lastore, 1) := by decide +kernel
theorem dL_mend_126 : decode cL_mend 126 = .ok (.aload 4, 2) := by decide +kernel
theorem dL_mend_128 : decode cL_mend 128 = .ok (.iload 10, 2) := by decide +kernel
theorem dL_mend_130 : decode cL_mend 130 = .ok (.aload 7, 2) := by decide +kernel
theorem dL_mend_132 : decode cL_mend 132 = .ok (.iload 9, 2) := by decide +kernel
theorem dL_mend_134 : decode cL_mend 134 = .ok (.laload, 1) := by decide +kernel
theorem dL_mend_135 : decode cL_mend 135 = .ok (.lastore, 1) := by decide +kernel
theorem dL_mend_136 : decode cL_mend 136 = .ok (.iinc 9 1, 3) := by decide +kernel
theorem dL_mend_139 : decode cL_mend 139 = .ok (.goto (-69), 3) := by decide +kernel
theorem dL_mend_142 : decode cL_mend 142 = .ok (.iload 8, 2) := by decide +kernel
theorem dL_mend_144 : decode cL_mend 144 = .ok (.ireturn, 1) := by decide +kernel
set_option maxRecDepth 20000 in
theorem ggL_owned_L_from : GoodIn wsL_owned wsL_from := goodIn_r _ [4, 5, 6, 3, 7, 8, 9, 10, 11, 12, 13, 14] (by decide +kernel) (by decide +kernel)
set_option maxRecDepth 20000 in
theorem gL_owned_L_from : GoodIn wsL_owned (va_wsS RL 28 yL_from wsL_from) := goodIn_app (goodIn_of _ (by decide +kernel)) ggL_owned_L_from
set_option maxRecDepth 20000 in
theorem ggL_owned_L_content : GoodIn wsL_owned wsL_content := goodIn_r _ [7] (by decide +kernel) (by decide +kernel)
set_option maxRecDepth 20000 in
theorem gL_owned_L_content : GoodIn wsL_owned (va_wsS RL 20 yL_content wsL_content) := goodIn_app (goodIn_of _ (by decide +kernel)) ggL_owned_L_content
set_option maxRecDepth 20000 in
theorem ggL_owned_L_number : GoodIn wsL_owned wsL_number := goodIn_r _ [13, 14] (by decide +kernel) (by decide +kernel)
set_option maxRecDepth 20000 in
theorem gL_owned_L_number : GoodIn wsL_owned (va_wsS RL 12 yL_number wsL_number) := goodIn_app (goodIn_of _ (by decide +kernel)) ggL_owned_L_number
theorem dL_owned_0 : decode cL_owned 0 = .ok (.aload 4, 2) := by decide +kernel
theorem dL_owned_2 : decode cL_owned 2 = .ok (.iconst 0, 1) := by decide +kernel
theorem dL_owned_3 : decode cL_owned 3 = .ok (.lconst 0, 1) := by decide +kernel
theorem dL_owned_4 : decode cL_owned 4 = .ok (.lastore, 1) := by decide +kernel
theorem dL_owned_5 : decode cL_owned 5 = .ok (.aload 4, 2) := by decide +kernel
theorem dL_owned_7 : decode cL_owned 7 = .ok (.iconst 1, 1) := by decide +kernel
theorem dL_owned_8 : decode cL_owned 8 = .ok (.lconst 0, 1) := by decide +kernel
theorem dL_owned_9 : decode cL_owned 9 = .ok (.lastore, 1) := by decide +kernel
theorem dL_owned_10 : decode cL_owned 10 = .ok (.aload_n 1, 1) := by decide +kernel
theorem dL_owned_11 : decode cL_owned 11 = .ok (.iconst 3, 1) := by decide +kernel
theorem dL_owned_12 : decode cL_owned 12 = .ok (.iload_n 0, 1) := by decide +kernel
theorem dL_owned_13 : decode cL_owned 13 = .ok (.imul, 1) := by decide +kernel
theorem dL_owned_14 : decode cL_owned 14 = .ok (.iconst 1, 1) := by decide +kernel
theorem dL_owned_15 : decode cL_owned 15 = .ok (.iadd, 1) := by decide +kernel
theorem dL_owned_16 : decode cL_owned 16 = .ok (.iaload, 1) := by decide +kernel
theorem dL_owned_17 : decode cL_owned 17 = .ok (.istore 5, 2) := by decide +kernel
theorem dL_owned_19 : decode cL_owned 19 = .ok (.aload 4, 2) := by decide +kernel
theorem dL_owned_21 : decode cL_owned 21 = .ok (.iload 5, 2) := by decide +kernel
theorem dL_owned_23 : decode cL_owned 23 = .ok (.bipush 64, 2) := by decide +kernel
theorem dL_owned_25 : decode cL_owned 25 = .ok (.idiv, 1) := by decide +kernel
theorem dL_owned_26 : decode cL_owned 26 = .ok (.dup2, 1) := by decide +kernel
theorem dL_owned_27 : decode cL_owned 27 = .ok (.laload, 1) := by decide +kernel
theorem dL_owned_28 : decode cL_owned 28 = .ok (.lconst 1, 1) := by decide +kernel
theorem dL_owned_29 : decode cL_owned 29 = .ok (.iload 5, 2) := by decide +kernel
theorem dL_owned_31 : decode cL_owned 31 = .ok (.bipush 64, 2) := by decide +kernel
theorem dL_owned_33 : decode cL_owned 33 = .ok (.irem, 1) := by decide +kernel
theorem dL_owned_34 : decode cL_owned 34 = .ok (.lshl, 1) := by decide +kernel
theorem dL_owned_35 : decode cL_owned 35 = .ok (.lor, 1) := by decide +kernel
theorem dL_owned_36 : decode cL_owned 36 = .ok (.lastore, 1) := by decide +kernel
theorem dL_owned_37 : decode cL_owned 37 = .ok (.iload 5, 2) := by decide +kernel
theorem dL_owned_39 : decode cL_owned 39 = .ok (.iload 5, 2) := by decide +kernel
theorem dL_owned_41 : decode cL_owned 41 = .ok (.aload_n 1, 1) := by decide +kernel
theorem dL_owned_42 : decode cL_owned 42 = .ok (.iconst 3, 1) := by decide +kernel
theorem dL_owned_43 : decode cL_owned 43 = .ok (.iload_n 0, 1) := by decide +kernel
theorem dL_owned_44 : decode cL_owned 44 = .ok (.imul, 1) := by decide +kernel
theorem dL_owned_45 : decode cL_owned 45 = .ok (.iconst 2, 1) := by decide +kernel
theorem dL_owned_46 : decode cL_owned 46 = .ok (.iadd, 1) := by decide +kernel
theorem dL_owned_47 : decode cL_owned 47 = .ok (.iaload, 1) := by decide +kernel
theorem dL_owned_48 : decode cL_owned 48 = .ok (.aload_n 2, 1) := by decide +kernel
theorem dL_owned_49 : decode cL_owned 49 = .ok (.aload_n 3, 1) := by decide +kernel
theorem dL_owned_50 : decode cL_owned 50 = .ok (.invokestatic 28, 3) := by decide +kernel
theorem dL_owned_53 : decode cL_owned 53 = .ok (.iconst 1, 1) := by decide +kernel
theorem dL_owned_54 : decode cL_owned 54 = .ok (.if_icmp .ne 7, 3) := by decide +kernel
theorem dL_owned_57 : decode cL_owned 57 = .ok (.aload_n 3, 1) := by decide +kernel
theorem dL_owned_58 : decode cL_owned 58 = .ok (.goto 4, 3) := by decide +kernel
theorem dL_owned_61 : decode cL_owned 61 = .ok (.aload_n 2, 1) := by decide +kernel
theorem dL_owned_62 : decode cL_owned 62 = .ok (.invokestatic 20, 3) := by decide +kernel
theorem dL_owned_65 : decode cL_owned 65 = .ok (.lstore 6, 2) := by decide +kernel
theorem dL_owned_67 : decode cL_owned 67 = .ok (.iconst 0, 1) := by decide +kernel
theorem dL_owned_68 : decode cL_owned 68 = .ok (.istore 8, 2) := by decide +kernel
theorem dL_owned_70 : decode cL_owned 70 = .ok (.iload 8, 2) := by decide +kernel
theorem dL_owned_72 : decode cL_owned 72 = .ok (.iconst 4, 1) := by decide +kernel
theorem dL_owned_73 : decode cL_owned 73 = .ok (.if_icmp .ge 148, 3) := by decide +kernel
theorem dL_owned_76 : decode cL_owned 76 = .ok (.lload 6, 2) := by decide +kernel
theorem dL_owned_78 : decode cL_owned 78 = .ok (.iload 8, 2) := by decide +kernel
theorem dL_owned_80 : decode cL_owned 80 = .ok (.invokestatic 12, 3) := by decide +kernel
theorem dL_owned_83 : decode cL_owned 83 = .ok (.istore 9, 2) := by decide +kernel
theorem dL_owned_85 : decode cL_owned 85 = .ok (.iload 9, 2) := by decide +kernel
theorem dL_owned_87 : decode cL_owned 87 = .ok (.sipush 256, 3) := by decide +kernel
theorem dL_owned_90 : decode cL_owned 90 = .ok (.idiv, 1) := by decide +kernel
theorem dL_owned_91 : decode cL_owned 91 = .ok (.bipush 95, 2) := by decide +kernel
theorem dL_owned_93 : decode cL_owned 93 = .ok (.if_icmp .le 6, 3) := by decide +kernel
theorem dL_owned_96 : decode cL_owned 96 = .ok (.goto 119, 3) := by decide +kernel
theorem dL_owned_99 : decode cL_owned 99 = .ok (.aload 4, 2) := by decide +kernel
theorem dL_owned_101 : decode cL_owned 101 = .ok (.iload 9, 2) := by decide +kernel
theorem dL_owned_103 : decode cL_owned 103 = .ok (.sipush 256, 3) := by decide +kernel
theorem dL_owned_106 : decode cL_owned 106 = .ok (.idiv, 1) := by decide +kernel
theorem dL_owned_107 : decode cL_owned 107 = .ok (.bipush 64, 2) := by decide +kernel
theorem dL_owned_109 : decode cL_owned 109 = .ok (.idiv, 1) := by decide +kernel
theorem dL_owned_110 : decode cL_owned 110 = .ok (.dup2, 1) := by decide +kernel
theorem dL_owned_111 : decode cL_owned 111 = .ok (.laload, 1) := by decide +kernel
theorem dL_owned_112 : decode cL_owned 112 = .ok (.lconst 1, 1) := by decide +kernel
theorem dL_owned_113 : decode cL_owned 113 = .ok (.iload 9, 2) := by decide +kernel
theorem dL_owned_115 : decode cL_owned 115 = .ok (.sipush 256, 3) := by decide +kernel
theorem dL_owned_118 : decode cL_owned 118 = .ok (.idiv, 1) := by decide +kernel
theorem dL_owned_119 : decode cL_owned 119 = .ok (.bipush 64, 2) := by decide +kernel
theorem dL_owned_121 : decode cL_owned 121 = .ok (.irem, 1) := by decide +kernel
theorem dL_owned_122 : decode cL_owned 122 = .ok (.lshl, 1) := by decide +kernel
theorem dL_owned_123 : decode cL_owned 123 = .ok (.lor, 1) := by decide +kernel
theorem dL_owned_124 : decode cL_owned 124 = .ok (.lastore, 1) := by decide +kernel
theorem dL_owned_125 : decode cL_owned 125 = .ok (.iload 9, 2) := by decide +kernel
theorem dL_owned_127 : decode cL_owned 127 = .ok (.sipush 256, 3) := by decide +kernel
theorem dL_owned_130 : decode cL_owned 130 = .ok (.idiv, 1) := by decide +kernel
theorem dL_owned_131 : decode cL_owned 131 = .ok (.iload 9, 2) := by decide +kernel
theorem dL_owned_133 : decode cL_owned 133 = .ok (.sipush 256, 3) := by decide +kernel
theorem dL_owned_136 : decode cL_owned 136 = .ok (.idiv, 1) := by decide +kernel
theorem dL_owned_137 : decode cL_owned 137 = .ok (.iload 9, 2) := by decide +kernel
theorem dL_owned_139 : decode cL_owned 139 = .ok (.sipush 256, 3) := by decide +kernel
theorem dL_owned_142 : decode cL_owned 142 = .ok (.irem, 1) := by decide +kernel
theorem dL_owned_143 : decode cL_owned 143 = .ok (.aload_n 2, 1) := by decide +kernel
theorem dL_owned_144 : decode cL_owned 144 = .ok (.aload_n 3, 1) := by decide +kernel
theorem dL_owned_145 : decode cL_owned 145 = .ok (.invokestatic 28, 3) := by decide +kernel
theorem dL_owned_148 : decode cL_owned 148 = .ok (.iconst 1, 1) := by decide +kernel
theorem dL_owned_149 : decode cL_owned 149 = .ok (.if_icmp .ne 7, 3) := by decide +kernel
theorem dL_owned_152 : decode cL_owned 152 = .ok (.aload_n 3, 1) := by decide +kernel
theorem dL_owned_153 : decode cL_owned 153 = .ok (.goto 4, 3) := by decide +kernel
theorem dL_owned_156 : decode cL_owned 156 = .ok (.aload_n 2, 1) := by decide +kernel
theorem dL_owned_157 : decode cL_owned 157 = .ok (.invokestatic 20, 3) := by decide +kernel
theorem dL_owned_160 : decode cL_owned 160 = .ok (.lstore 10, 2) := by decide +kernel
theorem dL_owned_162 : decode cL_owned 162 = .ok (.iconst 0, 1) := by decide +kernel
theorem dL_owned_163 : decode cL_owned 163 = .ok (.istore 12, 2) := by decide +kernel
theorem dL_owned_165 : decode cL_owned 165 = .ok (.iload 12, 2) := by decide +kernel
theorem dL_owned_167 : decode cL_owned 167 = .ok (.iconst 4, 1) := by decide +kernel
theorem dL_owned_168 : decode cL_owned 168 = .ok (.if_icmp .ge 47, 3) := by decide +kernel
theorem dL_owned_171 : decode cL_owned 171 = .ok (.lload 10, 2) := by decide +kernel
theorem dL_owned_173 : decode cL_owned 173 = .ok (.iload 12, 2) := by decide +kernel
theorem dL_owned_175 : decode cL_owned 175 = .ok (.invokestatic 12, 3) := by decide +kernel
theorem dL_owned_178 : decode cL_owned 178 = .ok (.sipush 256, 3) := by decide +kernel
theorem dL_owned_181 : decode cL_owned 181 = .ok (.idiv, 1) := by decide +kernel
theorem dL_owned_182 : decode cL_owned 182 = .ok (.istore 13, 2) := by decide +kernel
theorem dL_owned_184 : decode cL_owned 184 = .ok (.iload 13, 2) := by decide +kernel
theorem dL_owned_186 : decode cL_owned 186 = .ok (.bipush 96, 2) := by decide +kernel
theorem dL_owned_188 : decode cL_owned 188 = .ok (.if_icmp .ge 21, 3) := by decide +kernel
theorem dL_owned_191 : decode cL_owned 191 = .ok (.aload 4, 2) := by decide +kernel
theorem dL_owned_193 : decode cL_owned 193 = .ok (.iload 13, 2) := by decide +kernel
theorem dL_owned_195 : decode cL_owned 195 = .ok (.bipush 64, 2) := by decide +kernel
theorem dL_owned_197 : decode cL_owned 197 = .ok (.idiv, 1) := by decide +kernel
theorem dL_owned_198 : decode cL_owned 198 = .ok (.dup2, 1) := by decide +kernel
theorem dL_owned_199 : decode cL_owned 199 = .ok (.laload, 1) := by decide +kernel
theorem dL_owned_200 : decode cL_owned 200 = .ok (.lconst 1, 1) := by decide +kernel
theorem dL_owned_201 : decode cL_owned 201 = .ok (.iload 13, 2) := by decide +kernel
theorem dL_owned_203 : decode cL_owned 203 = .ok (.bipush 64, 2) := by decide +kernel
theorem dL_owned_205 : decode cL_owned 205 = .ok (.irem, 1) := by decide +kernel
theorem dL_owned_206 : decode cL_owned 206 = .ok (.lshl, 1) := by decide +kernel
theorem dL_owned_207 : decode cL_owned 207 = .ok (.lor, 1) := by decide +kernel
theorem dL_owned_208 : decode cL_owned 208 = .ok (.lastore, 1) := by decide +kernel
theorem dL_owned_209 : decode cL_owned 209 = .ok (.iinc 12 1, 3) := by decide +kernel
theorem dL_owned_212 : decode cL_owned 212 = .ok (.goto (-47), 3) := by decide +kernel
theorem dL_owned_215 : decode cL_owned 215 = .ok (.iinc 8 1, 3) := by decide +kernel
theorem dL_owned_218 : decode cL_owned 218 = .ok (.goto (-148), 3) := by decide +kernel
theorem dL_owned_221 : decode cL_owned 221 = .ok (.return_, 1) := by decide +kernel
theorem dL_bits_0 : decode cL_bits 0 = .ok (.iconst 0, 1) := by decide +kernel
theorem dL_bits_1 : decode cL_bits 1 = .ok (.istore_n 1, 1) := by decide +kernel
theorem dL_bits_2 : decode cL_bits 2 = .ok (.iconst 0, 1) := by decide +kernel
theorem dL_bits_3 : decode cL_bits 3 = .ok (.istore_n 2, 1) := by decide +kernel
theorem dL_bits_4 : decode cL_bits 4 = .ok (.iload_n 2, 1) := by decide +kernel
theorem dL_bits_5 : decode cL_bits 5 = .ok (.iconst 2, 1) := by decide +kernel
theorem dL_bits_6 : decode cL_bits 6 = .ok (.if_icmp .ge 31, 3) := by decide +kernel
theorem dL_bits_9 : decode cL_bits 9 = .ok (.aload_n 0, 1) := by decide +kernel
theorem dL_bits_10 : decode cL_bits 10 = .ok (.iload_n 2, 1) := by decide +kernel
theorem dL_bits_11 : decode cL_bits 11 = .ok (.laload, 1) := by decide +kernel
theorem dL_bits_12 : decode cL_bits 12 = .ok (.lstore_n 3, 1) := by decide +kernel
theorem dL_bits_13 : decode cL_bits 13 = .ok (.lload_n 3, 1) := by decide +kernel
theorem dL_bits_14 : decode cL_bits 14 = .ok (.lconst 0, 1) := by decide +kernel
theorem dL_bits_15 : decode cL_bits 15 = .ok (.lcmp, 1) := by decide +kernel
theorem dL_bits_16 : decode cL_bits 16 = .ok (.ifCond .eq 15, 3) := by decide +kernel
theorem dL_bits_19 : decode cL_bits 19 = .ok (.iinc 1 1, 3) := by decide +kernel
theorem dL_bits_22 : decode cL_bits 22 = .ok (.lload_n 3, 1) := by decide +kernel
theorem dL_bits_23 : decode cL_bits 23 = .ok (.lload_n 3, 1) := by decide +kernel
theorem dL_bits_24 : decode cL_bits 24 = .ok (.lconst 1, 1) := by decide +kernel
theorem dL_bits_25 : decode cL_bits 25 = .ok (.lsub, 1) := by decide +kernel
theorem dL_bits_26 : decode cL_bits 26 = .ok (.land, 1) := by decide +kernel
theorem dL_bits_27 : decode cL_bits 27 = .ok (.lstore_n 3, 1) := by decide +kernel
theorem dL_bits_28 : decode cL_bits 28 = .ok (.goto (-15), 3) := by decide +kernel
theorem dL_bits_31 : decode cL_bits 31 = .ok (.iinc 2 1, 3) := by decide +kernel
theorem dL_bits_34 : decode cL_bits 34 = .ok (.goto (-30), 3) := by decide +kernel
theorem dL_bits_37 : decode cL_bits 37 = .ok (.iload_n 1, 1) := by decide +kernel
theorem dL_bits_38 : decode cL_bits 38 = .ok (.ireturn, 1) := by decide +kernel
set_option maxRecDepth 20000 in
theorem ggL_letGo_L_owned : GoodIn wsL_letGo wsL_owned := goodIn_r _ [5, 6, 7, 4, 8, 9, 10, 11, 12, 13, 14, 15, 16, 17, 18] (by decide +kernel) (by decide +kernel)
set_option maxRecDepth 20000 in
theorem gL_letGo_L_owned : GoodIn wsL_letGo (va_wsS RL 54 yL_owned wsL_owned) := goodIn_app (goodIn_of _ (by decide +kernel)) ggL_letGo_L_owned
set_option maxRecDepth 20000 in
theorem ggL_letGo_L_bits : GoodIn wsL_letGo wsL_bits := goodIn_r _ [21] (by decide +kernel) (by decide +kernel)
set_option maxRecDepth 20000 in
theorem gL_letGo_L_bits : GoodIn wsL_letGo (va_wsS RL 58 yL_bits wsL_bits) := goodIn_app (goodIn_of _ (by decide +kernel)) ggL_letGo_L_bits
theorem dL_letGo_0 : decode cL_letGo 0 = .ok (.aload 6, 2) := by decide +kernel
theorem dL_letGo_2 : decode cL_letGo 2 = .ok (.iconst 0, 1) := by decide +kernel
theorem dL_letGo_3 : decode cL_letGo 3 = .ok (.lconst 0, 1) := by decide +kernel
theorem dL_letGo_4 : decode cL_letGo 4 = .ok (.lastore, 1) := by decide +kernel
theorem dL_letGo_5 : decode cL_letGo 5 = .ok (.aload 6, 2) := by decide +kernel
theorem dL_letGo_7 : decode cL_letGo 7 = .ok (.iconst 1, 1) := by decide +kernel
theorem dL_letGo_8 : decode cL_letGo 8 = .ok (.lconst 0, 1) := by decide +kernel
theorem dL_letGo_9 : decode cL_letGo 9 = .ok (.lastore, 1) := by decide +kernel
theorem dL_letGo_10 : decode cL_letGo 10 = .ok (.iconst 0, 1) := by decide +kernel
theorem dL_letGo_11 : decode cL_letGo 11 = .ok (.istore 7, 2) := by decide +kernel
theorem dL_letGo_13 : decode cL_letGo 13 = .ok (.iload 7, 2) := by decide +kernel
theorem dL_letGo_15 : decode cL_letGo 15 = .ok (.aload_n 0, 1) := by decide +kernel
theorem dL_letGo_16 : decode cL_letGo 16 = .ok (.iconst 0, 1) := by decide +kernel
theorem dL_letGo_17 : decode cL_letGo 17 = .ok (.iaload, 1) := by decide +kernel
theorem dL_letGo_18 : decode cL_letGo 18 = .ok (.if_icmp .ge 42, 3) := by decide +kernel
theorem dL_letGo_21 : decode cL_letGo 21 = .ok (.iload 7, 2) := by decide +kernel
theorem dL_letGo_23 : decode cL_letGo 23 = .ok (.aload_n 1, 1) := by decide +kernel
theorem dL_letGo_24 : decode cL_letGo 24 = .ok (.aload_n 3, 1) := by decide +kernel
theorem dL_letGo_25 : decode cL_letGo 25 = .ok (.aload 4, 2) := by decide +kernel
theorem dL_letGo_27 : decode cL_letGo 27 = .ok (.aload 5, 2) := by decide +kernel
theorem dL_letGo_29 : decode cL_letGo 29 = .ok (.invokestatic 54, 3) := by decide +kernel
theorem dL_letGo_32 : decode cL_letGo 32 = .ok (.aload 6, 2) := by decide +kernel
theorem dL_letGo_34 : decode cL_letGo 34 = .ok (.iconst 0, 1) := by decide +kernel
theorem dL_letGo_35 : decode cL_letGo 35 = .ok (.dup2, 1) := by decide +kernel
theorem dL_letGo_36 : decode cL_letGo 36 = .ok (.laload, 1) := by decide +kernel
theorem dL_letGo_37 : decode cL_letGo 37 = .ok (.aload 5, 2) := by decide +kernel
theorem dL_letGo_39 : decode cL_letGo 39 = .ok (.iconst 0, 1) := by decide +kernel
theorem dL_letGo_40 : decode cL_letGo 40 = .ok (.laload, 1) := by decide +kernel
theorem dL_letGo_41 : decode cL_letGo 41 = .ok (.lor, 1) := by decide +kernel
theorem dL_letGo_42 : decode cL_letGo 42 = .ok (.lastore, 1) := by decide +kernel
theorem dL_letGo_43 : decode cL_letGo 43 = .ok (.aload 6, 2) := by decide +kernel
theorem dL_letGo_45 : decode cL_letGo 45 = .ok (.iconst 1, 1) := by decide +kernel
theorem dL_letGo_46 : decode cL_letGo 46 = .ok (.dup2, 1) := by decide +kernel
theorem dL_letGo_47 : decode cL_letGo 47 = .ok (.laload, 1) := by decide +kernel
theorem dL_letGo_48 : decode cL_letGo 48 = .ok (.aload 5, 2) := by decide +kernel
theorem dL_letGo_50 : decode cL_letGo 50 = .ok (.iconst 1, 1) := by decide +kernel
theorem dL_letGo_51 : decode cL_letGo 51 = .ok (.laload, 1) := by decide +kernel
theorem dL_letGo_52 : decode cL_letGo 52 = .ok (.lor, 1) := by decide +kernel
theorem dL_letGo_53 : decode cL_letGo 53 = .ok (.lastore, 1) := by decide +kernel
theorem dL_letGo_54 : decode cL_letGo 54 = .ok (.iinc 7 1, 3) := by decide +kernel
theorem dL_letGo_57 : decode cL_letGo 57 = .ok (.goto (-44), 3) := by decide +kernel
theorem dL_letGo_60 : decode cL_letGo 60 = .ok (.aload 5, 2) := by decide +kernel
theorem dL_letGo_62 : decode cL_letGo 62 = .ok (.iconst 0, 1) := by decide +kernel
theorem dL_letGo_63 : decode cL_letGo 63 = .ok (.aload_n 2, 1) := by decide +kernel
theorem dL_letGo_64 : decode cL_letGo 64 = .ok (.iconst 0, 1) := by decide +kernel
theorem dL_letGo_65 : decode cL_letGo 65 = .ok (.laload, 1) := by decide +kernel
theorem dL_letGo_66 : decode cL_letGo 66 = .ok (.aload 6, 2) := by decide +kernel
theorem dL_letGo_68 : decode cL_letGo 68 = .ok (.iconst 0, 1) := by decide +kernel
theorem dL_letGo_69 : decode cL_letGo 69 = .ok (.laload, 1) := by decide +kernel
theorem dL_letGo_70 : decode cL_letGo 70 = .ok (.ldc2_w 18, 3) := by decide +kernel
theorem dL_letGo_73 : decode cL_letGo 73 = .ok (.lxor, 1) := by decide +kernel
theorem dL_letGo_74 : decode cL_letGo 74 = .ok (.land, 1) := by decide +kernel
theorem dL_letGo_75 : decode cL_letGo 75 = .ok (.lastore, 1) := by decide +kernel
theorem dL_letGo_76 : decode cL_letGo 76 = .ok (.aload 5, 2) := by decide +kernel
theorem dL_letGo_78 : decode cL_letGo 78 = .ok (.iconst 1, 1) := by decide +kernel
theorem dL_letGo_79 : decode cL_letGo 79 = .ok (.aload_n 2, 1) := by decide +kernel
theorem dL_letGo_80 : decode cL_letGo 80 = .ok (.iconst 1, 1) := by decide +kernel
theorem dL_letGo_81 : decode cL_letGo 81 = .ok (.laload, 1) := by decide +kernel
theorem dL_letGo_82 : decode cL_letGo 82 = .ok (.aload 6, 2) := by decide +kernel
theorem dL_letGo_84 : decode cL_letGo 84 = .ok (.iconst 1, 1) := by decide +kernel
theorem dL_letGo_85 : decode cL_letGo 85 = .ok (.laload, 1) := by decide +kernel
theorem dL_letGo_86 : decode cL_letGo 86 = .ok (.ldc2_w 18, 3) := by decide +kernel
theorem dL_letGo_89 : decode cL_letGo 89 = .ok (.lxor, 1) := by decide +kernel
theorem dL_letGo_90 : decode cL_letGo 90 = .ok (.land, 1) := by decide +kernel
theorem dL_letGo_91 : decode cL_letGo 91 = .ok (.lastore, 1) := by decide +kernel
theorem dL_letGo_92 : decode cL_letGo 92 = .ok (.aload_n 2, 1) := by decide +kernel
theorem dL_letGo_93 : decode cL_letGo 93 = .ok (.iconst 0, 1) := by decide +kernel
theorem dL_letGo_94 : decode cL_letGo 94 = .ok (.aload 6, 2) := by decide +kernel
theorem dL_letGo_96 : decode cL_letGo 96 = .ok (.iconst 0, 1) := by decide +kernel
theorem dL_letGo_97 : decode cL_letGo 97 = .ok (.laload, 1) := by decide +kernel
theorem dL_letGo_98 : decode cL_letGo 98 = .ok (.lastore, 1) := by decide +kernel
theorem dL_letGo_99 : decode cL_letGo 99 = .ok (.aload_n 2, 1) := by decide +kernel
theorem dL_letGo_100 : decode cL_letGo 100 = .ok (.iconst 1, 1) := by decide +kernel
theorem dL_letGo_101 : decode cL_letGo 101 = .ok (.aload 6, 2) := by decide +kernel
theorem dL_letGo_103 : decode cL_letGo 103 = .ok (.iconst 1, 1) := by decide +kernel
theorem dL_letGo_104 : decode cL_letGo 104 = .ok (.laload, 1) := by decide +kernel
theorem dL_letGo_105 : decode cL_letGo 105 = .ok (.lastore, 1) := by decide +kernel
theorem dL_letGo_106 : decode cL_letGo 106 = .ok (.aload 5, 2) := by decide +kernel
theorem dL_letGo_108 : decode cL_letGo 108 = .ok (.invokestatic 58, 3) := by decide +kernel
theorem dL_letGo_111 : decode cL_letGo 111 = .ok (.ireturn, 1) := by decide +kernel
set_option maxRecDepth 20000 in
theorem ggL_unlike_L_from : GoodIn wsL_unlike wsL_from := goodIn_r _ [5, 6, 7, 4, 8, 9, 10, 11, 12, 13, 14, 15] (by decide +kernel) (by decide +kernel)
set_option maxRecDepth 20000 in
theorem gL_unlike_L_from : GoodIn wsL_unlike (va_wsS RL 28 yL_from wsL_from) := goodIn_app (goodIn_of _ (by decide +kernel)) ggL_unlike_L_from
set_option maxRecDepth 20000 in
theorem ggL_unlike_L_content : GoodIn wsL_unlike wsL_content := goodIn_r _ [8] (by decide +kernel) (by decide +kernel)
set_option maxRecDepth 20000 in
theorem gL_unlike_L_content : GoodIn wsL_unlike (va_wsS RL 20 yL_content wsL_content) := goodIn_app (goodIn_of _ (by decide +kernel)) ggL_unlike_L_content
set_option maxRecDepth 20000 in
theorem ggL_unlike_L_number : GoodIn wsL_unlike wsL_number := goodIn_r _ [14, 15] (by decide +kernel) (by decide +kernel)
set_option maxRecDepth 20000 in
theorem gL_unlike_L_number : GoodIn wsL_unlike (va_wsS RL 12 yL_number wsL_number) := goodIn_app (goodIn_of _ (by decide +kernel)) ggL_unlike_L_number
theorem dL_unlike_0 : decode cL_unlike 0 = .ok (.aload_n 2, 1) := by decide +kernel
theorem dL_unlike_1 : decode cL_unlike 1 = .ok (.iconst 3, 1) := by decide +kernel
theorem dL_unlike_2 : decode cL_unlike 2 = .ok (.iload_n 0, 1) := by decide +kernel
theorem dL_unlike_3 : decode cL_unlike 3 = .ok (.imul, 1) := by decide +kernel
theorem dL_unlike_4 : decode cL_unlike 4 = .ok (.iconst 1, 1) := by decide +kernel
theorem dL_unlike_5 : decode cL_unlike 5 = .ok (.iadd, 1) := by decide +kernel
theorem dL_unlike_6 : decode cL_unlike 6 = .ok (.iaload, 1) := by decide +kernel
theorem dL_unlike_7 : decode cL_unlike 7 = .ok (.istore 5, 2) := by decide +kernel
theorem dL_unlike_9 : decode cL_unlike 9 = .ok (.aload_n 2, 1) := by decide +kernel
theorem dL_unlike_10 : decode cL_unlike 10 = .ok (.iconst 3, 1) := by decide +kernel
theorem dL_unlike_11 : decode cL_unlike 11 = .ok (.iload_n 1, 1) := by decide +kernel
theorem dL_unlike_12 : decode cL_unlike 12 = .ok (.imul, 1) := by decide +kernel
theorem dL_unlike_13 : decode cL_unlike 13 = .ok (.iconst 1, 1) := by decide +kernel
theorem dL_unlike_14 : decode cL_unlike 14 = .ok (.iadd, 1) := by decide +kernel
theorem dL_unlike_15 : decode cL_unlike 15 = .ok (.iaload, 1) := by decide +kernel
theorem dL_unlike_16 : decode cL_unlike 16 = .ok (.istore 6, 2) := by decide +kernel
theorem dL_unlike_18 : decode cL_unlike 18 = .ok (.iload 5, 2) := by decide +kernel
theorem dL_unlike_20 : decode cL_unlike 20 = .ok (.iload 6, 2) := by decide +kernel
theorem dL_unlike_22 : decode cL_unlike 22 = .ok (.if_icmp .ne 5, 3) := by decide +kernel
theorem dL_unlike_25 : decode cL_unlike 25 = .ok (.iconst 0, 1) := by decide +kernel
theorem dL_unlike_26 : decode cL_unlike 26 = .ok (.ireturn, 1) := by decide +kernel
theorem dL_unlike_27 : decode cL_unlike 27 = .ok (.iload 5, 2) := by decide +kernel
theorem dL_unlike_29 : decode cL_unlike 29 = .ok (.aload_n 2, 1) := by decide +kernel
theorem dL_unlike_30 : decode cL_unlike 30 = .ok (.iconst 3, 1) := by decide +kernel
theorem dL_unlike_31 : decode cL_unlike 31 = .ok (.iload_n 0, 1) := by decide +kernel
theorem dL_unlike_32 : decode cL_unlike 32 = .ok (.imul, 1) := by decide +kernel
theorem dL_unlike_33 : decode cL_unlike 33 = .ok (.iconst 2, 1) := by decide +kernel
theorem dL_unlike_34 : decode cL_unlike 34 = .ok (.iadd, 1) := by decide +kernel
theorem dL_unlike_35 : decode cL_unlike 35 = .ok (.iaload, 1) := by decide +kernel
theorem dL_unlike_36 : decode cL_unlike 36 = .ok (.aload_n 3, 1) := by decide +kernel
theorem dL_unlike_37 : decode cL_unlike 37 = .ok (.aload 4, 2) := by decide +kernel
theorem dL_unlike_39 : decode cL_unlike 39 = .ok (.invokestatic 28, 3) := by decide +kernel
theorem dL_unlike_42 : decode cL_unlike 42 = .ok (.istore 7, 2) := by decide +kernel
theorem dL_unlike_44 : decode cL_unlike 44 = .ok (.iload 6, 2) := by decide +kernel
theorem dL_unlike_46 : decode cL_unlike 46 = .ok (.aload_n 2, 1) := by decide +kernel
theorem dL_unlike_47 : decode cL_unlike 47 = .ok (.iconst 3, 1) := by decide +kernel
theorem dL_unlike_48 : decode cL_unlike 48 = .ok (.iload_n 1, 1) := by decide +kernel
theorem dL_unlike_49 : decode cL_unlike 49 = .ok (.imul, 1) := by decide +kernel
theorem dL_unlike_50 : decode cL_unlike 50 = .ok (.iconst 2, 1) := by decide +kernel
theorem dL_unlike_51 : decode cL_unlike 51 = .ok (.iadd, 1) := by decide +kernel
theorem dL_unlike_52 : decode cL_unlike 52 = .ok (.iaload, 1) := by decide +kernel
theorem dL_unlike_53 : decode cL_unlike 53 = .ok (.aload_n 3, 1) := by decide +kernel
theorem dL_unlike_54 : decode cL_unlike 54 = .ok (.aload 4, 2) := by decide +kernel
theorem dL_unlike_56 : decode cL_unlike 56 = .ok (.invokestatic 28, 3) := by decide +kernel
theorem dL_unlike_59 : decode cL_unlike 59 = .ok (.istore 8, 2) := by decide +kernel
theorem dL_unlike_61 : decode cL_unlike 61 = .ok (.iload 7, 2) := by decide +kernel
theorem dL_unlike_63 : decode cL_unlike 63 = .ok (.iconst 2, 1) := by decide +kernel
theorem dL_unlike_64 : decode cL_unlike 64 = .ok (.if_icmp .eq 9, 3) := by decide +kernel
theorem dL_unlike_67 : decode cL_unlike 67 = .ok (.iload 8, 2) := by decide +kernel
theorem dL_unlike_69 : decode cL_unlike 69 = .ok (.iconst 2, 1) := by decide +kernel
theorem dL_unlike_70 : decode cL_unlike 70 = .ok (.if_icmp .ne 6, 3) := by decide +kernel
theorem dL_unlike_73 : decode cL_unlike 73 = .ok (.ldc 42, 2) := by decide +kernel
theorem dL_unlike_75 : decode cL_unlike 75 = .ok (.ireturn, 1) := by decide +kernel
theorem dL_unlike_76 : decode cL_unlike 76 = .ok (.iconst 0, 1) := by decide +kernel
theorem dL_unlike_77 : decode cL_unlike 77 = .ok (.istore 9, 2) := by decide +kernel
theorem dL_unlike_79 : decode cL_unlike 79 = .ok (.iconst 0, 1) := by decide +kernel
theorem dL_unlike_80 : decode cL_unlike 80 = .ok (.istore 10, 2) := by decide +kernel
theorem dL_unlike_82 : decode cL_unlike 82 = .ok (.iload 10, 2) := by decide +kernel
theorem dL_unlike_84 : decode cL_unlike 84 = .ok (.iconst 4, 1) := by decide +kernel
theorem dL_unlike_85 : decode cL_unlike 85 = .ok (.if_icmp .ge 218, 3) := by decide +kernel
theorem dL_unlike_88 : decode cL_unlike 88 = .ok (.iload 5, 2) := by decide +kernel
theorem dL_unlike_90 : decode cL_unlike 90 = .ok (.iload 7, 2) := by decide +kernel
theorem dL_unlike_92 : decode cL_unlike 92 = .ok (.ifCond .ne 7, 3) := by decide +kernel
theorem dL_unlike_95 : decode cL_unlike 95 = .ok (.aload_n 3, 1) := by decide +kernel
theorem dL_unlike_96 : decode cL_unlike 96 = .ok (.goto 5, 3) := by decide +kernel
theorem dL_unlike_99 : decode cL_unlike 99 = .ok (.aload 4, 2) := by decide +kernel
theorem dL_unlike_101 : decode cL_unlike 101 = .ok (.invokestatic 20, 3) := by decide +kernel
theorem dL_unlike_104 : decode cL_unlike 104 = .ok (.iload 10, 2) := by decide +kernel
theorem dL_unlike_106 : decode cL_unlike 106 = .ok (.invokestatic 12, 3) := by decide +kernel
theorem dL_unlike_109 : decode cL_unlike 109 = .ok (.istore 11, 2) := by decide +kernel
theorem dL_unlike_111 : decode cL_unlike 111 = .ok (.iload 6, 2) := by decide +kernel
theorem dL_unlike_113 : decode cL_unlike 113 = .ok (.iload 8, 2) := by decide +kernel
theorem dL_unlike_115 : decode cL_unlike 115 = .ok (.ifCond .ne 7, 3) := by decide +kernel
theorem dL_unlike_118 : decode cL_unlike 118 = .ok (.aload_n 3, 1) := by decide +kernel
theorem dL_unlike_119 : decode cL_unlike 119 = .ok (.goto 5, 3) := by decide +kernel
theorem dL_unlike_122 : decode cL_unlike 122 = .ok (.aload 4, 2) := by decide +kernel
theorem dL_unlike_124 : decode cL_unlike 124 = .ok (.invokestatic 20, 3) := by decide +kernel
theorem dL_unlike_127 : decode cL_unlike 127 = .ok (.iload 10, 2) := by decide +kernel
theorem dL_unlike_129 : decode cL_unlike 129 = .ok (.invokestatic 12, 3) := by decide +kernel
theorem dL_unlike_132 : decode cL_unlike 132 = .ok (.istore 12, 2) := by decide +kernel
theorem dL_unlike_134 : decode cL_unlike 134 = .ok (.iload 11, 2) := by decide +kernel
theorem dL_unlike_136 : decode cL_unlike 136 = .ok (.sipush 256, 3) := by decide +kernel
theorem dL_unlike_139 : decode cL_unlike 139 = .ok (.idiv, 1) := by decide +kernel
theorem dL_unlike_140 : decode cL_unlike 140 = .ok (.iload 12, 2) := by decide +kernel
theorem dL_unlike_142 : decode cL_unlike 142 = .ok (.sipush 256, 3) := by decide +kernel
theorem dL_unlike_145 : decode cL_unlike 145 = .ok (.idiv, 1) := by decide +kernel
theorem dL_unlike_146 : decode cL_unlike 146 = .ok (.if_icmp .ne 6, 3) := by decide +kernel
theorem dL_unlike_149 : decode cL_unlike 149 = .ok (.goto 148, 3) := by decide +kernel
theorem dL_unlike_152 : decode cL_unlike 152 = .ok (.iload 11, 2) := by decide +kernel
theorem dL_unlike_154 : decode cL_unlike 154 = .ok (.sipush 256, 3) := by decide +kernel
theorem dL_unlike_157 : decode cL_unlike 157 = .ok (.idiv, 1) := by decide +kernel
theorem dL_unlike_158 : decode cL_unlike 158 = .ok (.iload 11, 2) := by decide +kernel
theorem dL_unlike_160 : decode cL_unlike 160 = .ok (.sipush 256, 3) := by decide +kernel
theorem dL_unlike_163 : decode cL_unlike 163 = .ok (.irem, 1) := by decide +kernel
theorem dL_unlike_164 : decode cL_unlike 164 = .ok (.aload_n 3, 1) := by decide +kernel
theorem dL_unlike_165 : decode cL_unlike 165 = .ok (.aload 4, 2) := by decide +kernel
theorem dL_unlike_167 : decode cL_unlike 167 = .ok (.invokestatic 28, 3) := by decide +kernel
theorem dL_unlike_170 : decode cL_unlike 170 = .ok (.istore 13, 2) := by decide +kernel
theorem dL_unlike_172 : decode cL_unlike 172 = .ok (.iload 12, 2) := by decide +kernel
theorem dL_unlike_174 : decode cL_unlike 174 = .ok (.sipush 256, 3) := by decide +kernel
theorem dL_unlike_177 : decode cL_unlike 177 = .ok (.idiv, 1) := by decide +kernel
theorem dL_unlike_178 : decode cL_unlike 178 = .ok (.iload 12, 2) := by decide +kernel
theorem dL_unlike_180 : decode cL_unlike 180 = .ok (.sipush 256, 3) := by decide +kernel
theorem dL_unlike_183 : decode cL_unlike 183 = .ok (.irem, 1) := by decide +kernel
theorem dL_unlike_184 : decode cL_unlike 184 = .ok (.aload_n 3, 1) := by decide +kernel
theorem dL_unlike_185 : decode cL_unlike 185 = .ok (.aload 4, 2) := by decide +kernel
theorem dL_unlike_187 : decode cL_unlike 187 = .ok (.invokestatic 28, 3) := by decide +kernel
theorem dL_unlike_190 : decode cL_unlike 190 = .ok (.istore 14, 2) := by decide +kernel
theorem dL_unlike_192 : decode cL_unlike 192 = .ok (.iload 13, 2) := by decide +kernel
theorem dL_unlike_194 : decode cL_unlike 194 = .ok (.iconst 2, 1) := by decide +kernel
theorem dL_unlike_195 : decode cL_unlike 195 = .ok (.if_icmp .eq 9, 3) := by decide +kernel
theorem dL_unlike_198 : decode cL_unlike 198 = .ok (.iload 14, 2) := by decide +kernel
theorem dL_unlike_200 : decode cL_unlike 200 = .ok (.iconst 2, 1) := by decide +kernel
theorem dL_unlike_201 : decode cL_unlike 201 = .ok (.if_icmp .ne 6, 3) := by decide +kernel
theorem dL_unlike_204 : decode cL_unlike 204 = .ok (.ldc 42, 2) := by decide +kernel
theorem dL_unlike_206 : decode cL_unlike 206 = .ok (.ireturn, 1) := by decide +kernel
theorem dL_unlike_207 : decode cL_unlike 207 = .ok (.iconst 0, 1) := by decide +kernel
theorem dL_unlike_208 : decode cL_unlike 208 = .ok (.istore 15, 2) := by decide +kernel
theorem dL_unlike_210 : decode cL_unlike 210 = .ok (.iload 15, 2) := by decide +kernel
theorem dL_unlike_212 : decode cL_unlike 212 = .ok (.iconst 4, 1) := by decide +kernel
theorem dL_unlike_213 : decode cL_unlike 213 = .ok (.if_icmp .ge 84, 3) := by decide +kernel
theorem dL_unlike_216 : decode cL_unlike 216 = .ok (.iload 11, 2) := by decide +kernel
theorem dL_unlike_218 : decode cL_unlike 218 = .ok (.sipush 256, 3) := by decide +kernel
theorem dL_unlike_221 : decode cL_unlike 221 = .ok (.idiv, 1) := by decide +kernel
theorem dL_unlike_222 : decode cL_unlike 222 = .ok (.iload 13, 2) := by decide +kernel
theorem dL_unlike_224 : decode cL_unlike 224 = .ok (.ifCond .ne 7, 3) := by decide +kernel
theorem dL_unlike_227 : decode cL_unlike 227 = .ok (.aload_n 3, 1) := by decide +kernel
theorem dL_unlike_228 : decode cL_unlike 228 = .ok (.goto 5, 3) := by decide +kernel
theorem dL_unlike_231 : decode cL_unlike 231 = .ok (.aload 4, 2) := by decide +kernel
theorem dL_unlike_233 : decode cL_unlike 233 = .ok (.invokestatic 20, 3) := by decide +kernel
theorem dL_unlike_236 : decode cL_unlike 236 = .ok (.iload 15, 2) := by decide +kernel
theorem dL_unlike_238 : decode cL_unlike 238 = .ok (.invokestatic 12, 3) := by decide +kernel
theorem dL_unlike_241 : decode cL_unlike 241 = .ok (.sipush 256, 3) := by decide +kernel
theorem dL_unlike_244 : decode cL_unlike 244 = .ok (.idiv, 1) := by decide +kernel
theorem dL_unlike_245 : decode cL_unlike 245 = .ok (.iload 12, 2) := by decide +kernel
theorem dL_unlike_247 : decode cL_unlike 247 = .ok (.sipush 256, 3) := by decide +kernel
theorem dL_unlike_250 : decode cL_unlike 250 = .ok (.idiv, 1) := by decide +kernel
theorem dL_unlike_251 : decode cL_unlike 251 = .ok (.iload 14, 2) := by decide +kernel
theorem dL_unlike_253 : decode cL_unlike 253 = .ok (.ifCond .ne 7, 3) := by decide +kernel
theorem dL_unlike_256 : decode cL_unlike 256 = .ok (.aload_n 3, 1) := by decide +kernel
theorem dL_unlike_257 : decode cL_unlike 257 = .ok (.goto 5, 3) := by decide +kernel
theorem dL_unlike_260 : decode cL_unlike 260 = .ok (.aload 4, 2) := by decide +kernel
theorem dL_unlike_262 : decode cL_unlike 262 = .ok (.invokestatic 20, 3) := by decide +kernel
theorem dL_unlike_265 : decode cL_unlike 265 = .ok (.iload 15, 2) := by decide +kernel
theorem dL_unlike_267 : decode cL_unlike 267 = .ok (.invokestatic 12, 3) := by decide +kernel
theorem dL_unlike_270 : decode cL_unlike 270 = .ok (.sipush 256, 3) := by decide +kernel
theorem dL_unlike_273 : decode cL_unlike 273 = .ok (.idiv, 1) := by decide +kernel
theorem dL_unlike_274 : decode cL_unlike 274 = .ok (.if_icmp .eq 17, 3) := by decide +kernel
theorem dL_unlike_277 : decode cL_unlike 277 = .ok (.iload 9, 2) := by decide +kernel
theorem dL_unlike_279 : decode cL_unlike 279 = .ok (.iconst 1, 1) := by decide +kernel
theorem dL_unlike_280 : decode cL_unlike 280 = .ok (.iconst 4, 1) := by decide +kernel
theorem dL_unlike_281 : decode cL_unlike 281 = .ok (.iload 10, 2) := by decide +kernel
theorem dL_unlike_283 : decode cL_unlike 283 = .ok (.imul, 1) := by decide +kernel
theorem dL_unlike_284 : decode cL_unlike 284 = .ok (.iload 15, 2) := by decide +kernel
theorem dL_unlike_286 : decode cL_unlike 286 = .ok (.iadd, 1) := by decide +kernel
theorem dL_unlike_287 : decode cL_unlike 287 = .ok (.ishl, 1) := by decide +kernel
theorem dL_unlike_288 : decode cL_unlike 288 = .ok (.ior, 1) := by decide +kernel
theorem dL_unlike_289 : decode cL_unlike 289 = .ok (.istore 9, 2) := by decide +kernel
theorem dL_unlike_291 : decode cL_unlike 291 = .ok (.iinc 15 1, 3) := by decide +kernel
theorem dL_unlike_294 : decode cL_unlike 294 = .ok (.goto (-84), 3) := by decide +kernel
theorem dL_unlike_297 : decode cL_unlike 297 = .ok (.iinc 10 1, 3) := by decide +kernel
theorem dL_unlike_300 : decode cL_unlike 300 = .ok (.goto (-218), 3) := by decide +kernel
theorem dL_unlike_303 : decode cL_unlike 303 = .ok (.iload 9, 2) := by decide +kernel
theorem dL_unlike_305 : decode cL_unlike 305 = .ok (.ireturn, 1) := by decide +kernel
set_option maxRecDepth 20000 in
theorem ggL_same_L_way : GoodIn wsL_same wsL_way := goodIn_r _ [7, 8, 9, 6, 10, 11, 12, 13, 14, 15, 16, 17, 18, 19, 20] (by decide +kernel) (by decide +kernel)
set_option maxRecDepth 20000 in
theorem gL_same_L_way : GoodIn wsL_same (va_wsS RL 38 yL_way wsL_way) := goodIn_app (goodIn_of _ (by decide +kernel)) ggL_same_L_way
set_option maxRecDepth 20000 in
theorem ggL_same_L_low : GoodIn wsL_same wsL_low := goodIn_r _ [23, 24] (by decide +kernel) (by decide +kernel)
set_option maxRecDepth 20000 in
theorem gL_same_L_low : GoodIn wsL_same (va_wsS RL 61 yL_low wsL_low) := goodIn_app (goodIn_of _ (by decide +kernel)) ggL_same_L_low
set_option maxRecDepth 20000 in
theorem ggL_same_X8_read : GoodIn wsL_same wsX8_read := goodIn_r _ [29, 30, 31, 32, 33, 34, 35, 36, 28, 37, 38, 39, 40, 41, 42, 43, 44, 45, 46, 47, 48, 49, 50, 51, 52, 53, 54, 55, 56, 57, 58, 59, 60, 61, 62, 63, 64, 65, 66, 67, 68, 69, 70, 71, 72, 73, 74, 75, 76, 77, 78, 79, 80, 81, 82, 83, 84, 85, 86, 87, 88, 89, 90, 91, 92, 93, 94, 95, 96, 97, 98, 99, 100, 101, 102, 103, 104, 105, 106, 107, 108, 109, 110, 111, 112, 113, 114, 115, 116, 117, 118, 119, 120, 278, 279, 280, 281, 282, 283, 284, 285, 286, 287, 288, 289, 290, 291, 292, 293, 294, 295, 296, 297, 298, 299, 300] (by decide +kernel) (by decide +kernel)
set_option maxRecDepth 20000 in
theorem gL_same_X8_read : GoodIn wsL_same (wsV RL 65 RX8 yX8_read wsX8_read) := goodIn_app (goodIn_of _ (by decide +kernel)) ggL_same_X8_read
set_option maxRecDepth 20000 in
theorem ggL_same_L_content : GoodIn wsL_same wsL_content := goodIn_r _ [13] (by decide +kernel) (by decide +kernel)
set_option maxRecDepth 20000 in
theorem gL_same_L_content : GoodIn wsL_same (va_wsS RL 20 yL_content wsL_content) := goodIn_app (goodIn_of _ (by decide +kernel)) ggL_same_L_content
set_option maxRecDepth 20000 in
theorem ggL_same_L_number : GoodIn wsL_same wsL_number := goodIn_r _ [19, 20] (by decide +kernel) (by decide +kernel)
set_option maxRecDepth 20000 in
theorem gL_same_L_number : GoodIn wsL_same (va_wsS RL 12 yL_number wsL_number) := goodIn_app (goodIn_of _ (by decide +kernel)) ggL_same_L_number
set_option maxRecDepth 20000 in
theorem ggL_same_X8_from : GoodIn wsL_same wsX8_from := goodIn_r _ [124, 30, 31, 32, 125, 34, 35, 36, 28, 37, 38, 39, 40, 41, 42, 43, 44, 45, 46, 47, 48, 49, 50, 51, 52, 53, 54, 55, 56, 57, 58, 59, 60, 61, 62, 63, 64, 65, 66, 67, 68, 69, 70, 71, 72, 73, 74, 75, 76, 77, 78, 79, 80, 81, 82, 83, 84, 85, 86, 87, 88, 89, 90, 91, 92, 93, 94, 95, 96, 97, 98, 99, 100, 101, 102, 103, 104, 105, 106, 107, 126, 117, 118, 119, 127, 113, 114, 115, 116, 278, 279, 280, 281, 282, 283, 284, 285, 286, 287, 288, 289, 290, 291, 292, 293, 294, 295, 296, 297, 298, 299, 300] (by decide +kernel) (by decide +kernel)
set_option maxRecDepth 20000 in
theorem gL_same_X8_from : GoodIn wsL_same (wsV RL 71 RX8 yX8_from wsX8_from) := goodIn_app (goodIn_of _ (by decide +kernel)) ggL_same_X8_from
set_option maxRecDepth 20000 in
theorem ggL_same_X8_way : GoodIn wsL_same wsX8_way := goodIn_r _ [131, 30, 31, 32, 125, 34, 35, 36, 28, 37, 38, 39, 40, 41, 42, 43, 44, 45, 46, 47, 48, 49, 50, 51, 52, 53, 54, 55, 56, 57, 58, 59, 60, 61, 62, 63, 64, 65, 66, 67, 68, 69, 70, 71, 72, 73, 74, 75, 76, 77, 78, 79, 80, 81, 82, 83, 84, 85, 86, 87, 88, 89, 90, 91, 92, 93, 94, 95, 96, 97, 98, 99, 100, 101, 102, 103, 104, 105, 106, 107, 126, 117, 118, 119, 132, 133, 134, 135, 116, 136, 137, 138, 139, 278, 279, 280, 281, 282, 283, 284, 285, 286, 287, 288, 289, 290, 291, 292, 293, 294, 295, 296, 297, 298, 299, 300] (by decide +kernel) (by decide +kernel)
set_option maxRecDepth 20000 in
theorem gL_same_X8_way : GoodIn wsL_same (wsV RL 73 RX8 yX8_way wsX8_way) := goodIn_app (goodIn_of _ (by decide +kernel)) ggL_same_X8_way
set_option maxRecDepth 20000 in
theorem ggL_same_X8_leaves : GoodIn wsL_same wsX8_leaves := goodIn_r _ [143, 30, 31, 32, 34, 35, 36, 28, 37, 38, 39, 40, 41, 42, 43, 44, 45, 46, 47, 48, 49, 50, 51, 52, 53, 54, 55, 56, 57, 58, 59, 60, 61, 62, 63, 64, 65, 66, 67, 68, 69, 70, 71, 72, 73, 74, 75, 76, 77, 78, 79, 80, 81, 82, 83, 84, 85, 86, 87, 88, 89, 90, 91, 92, 93, 94, 95, 96, 97, 98, 99, 100, 101, 102, 103, 104, 105, 106, 107, 144, 145, 146, 147, 108, 109, 110, 111, 112, 113, 114, 115, 116, 117, 118, 119, 148, 149, 150, 151, 152, 133, 134, 135, 153, 154, 155, 156, 157, 158, 159, 160, 161, 278, 279, 280, 281, 282, 283, 284, 285, 286, 287, 288, 289, 290, 291, 292, 293, 294, 295, 296, 297, 298, 299, 300] (by decide +kernel) (by decide +kernel)
set_option maxRecDepth 20000 in
theorem gL_same_X8_leaves : GoodIn wsL_same (wsV RL 76 RX8 yX8_leaves wsX8_leaves) := goodIn_app (goodIn_of _ (by decide +kernel)) ggL_same_X8_leaves
set_option maxRecDepth 20000 in
theorem ggL_same_L_owned : GoodIn wsL_same wsL_owned := goodIn_r _ [164, 8, 9, 6, 10, 11, 12, 13, 14, 15, 16, 17, 18, 19, 20] (by decide +kernel) (by decide +kernel)
set_option maxRecDepth 20000 in
theorem gL_same_L_owned : GoodIn wsL_same (va_wsS RL 54 yL_owned wsL_owned) := goodIn_app (goodIn_of _ (by decide +kernel)) ggL_same_L_owned
set_option maxRecDepth 20000 in
theorem ggL_same_X8_unlike : GoodIn wsL_same wsX8_unlike := goodIn_r _ [168, 30, 31, 34, 35, 36, 28, 37, 38, 39, 40, 41, 42, 43, 44, 45, 46, 169, 170, 171, 50, 172, 52, 53, 173, 60, 61, 62, 63, 64, 65, 66, 67, 68, 69, 70, 71, 72, 73, 74, 75, 76, 77, 78, 79, 80, 81, 82, 83, 84, 85, 93, 94, 95, 96, 174, 175, 176, 177, 278, 279, 280, 281, 282, 283, 284, 285, 286, 287, 288, 289, 290, 291, 292, 293, 294, 300] (by decide +kernel) (by decide +kernel)
set_option maxRecDepth 20000 in
theorem gL_same_X8_unlike : GoodIn wsL_same (wsV RL 79 RX8 yX8_unlike wsX8_unlike) := goodIn_app (goodIn_of _ (by decide +kernel)) ggL_same_X8_unlike
set_option maxRecDepth 20000 in
theorem ggL_same_L_unlike : GoodIn wsL_same wsL_unlike := goodIn_r _ [180, 1, 8, 9, 6, 10, 11, 12, 13, 14, 15, 16, 17, 18, 19, 20] (by decide +kernel) (by decide +kernel)
set_option maxRecDepth 20000 in
theorem gL_same_L_unlike : GoodIn wsL_same (va_wsS RL 82 yL_unlike wsL_unlike) := goodIn_app (goodIn_of _ (by decide +kernel)) ggL_same_L_unlike
set_option maxRecDepth 20000 in
theorem ggL_same_X8_rootOf : GoodIn wsL_same wsX8_rootOf := goodIn_r _ [184, 30, 31, 185, 186, 34, 35, 36, 28, 37, 38, 39, 40, 41, 42, 43, 44, 45, 46, 187, 188, 189, 190, 191, 192, 61, 62, 63, 64, 193, 66, 67, 68, 69, 194, 195, 196, 197, 198, 199, 200, 201, 202, 203, 204, 205, 206, 50, 207, 52, 53, 60, 65, 208, 209, 210, 211, 70, 71, 72, 73, 74, 75, 76, 77, 78, 79, 80, 81, 82, 83, 84, 85, 212, 213, 214, 215, 93, 94, 95, 96, 216, 217, 218, 219, 220, 221, 222, 223, 224, 225, 226, 227, 278, 279, 280, 281, 282, 283, 284, 285, 286, 287, 288, 289, 290, 291, 292, 293, 294, 301, 300] (by decide +kernel) (by decide +kernel)
set_option maxRecDepth 20000 in
theorem gL_same_X8_rootOf : GoodIn wsL_same (wsV RL 85 RX8 yX8_rootOf wsX8_rootOf) := goodIn_app (goodIn_of _ (by decide +kernel)) ggL_same_X8_rootOf
set_option maxRecDepth 20000 in
theorem ggL_same_L_bits : GoodIn wsL_same wsL_bits := goodIn_r _ [230] (by decide +kernel) (by decide +kernel)
set_option maxRecDepth 20000 in
theorem gL_same_L_bits : GoodIn wsL_same (va_wsS RL 58 yL_bits wsL_bits) := goodIn_app (goodIn_of _ (by decide +kernel)) ggL_same_L_bits
set_option maxRecDepth 20000 in
theorem ggL_same_X8_content : GoodIn wsL_same wsX8_content := goodIn_r _ [234, 30, 31, 44, 45, 28, 46, 235, 76, 77, 73, 78, 79, 80, 81, 82, 83, 84, 85, 236, 94, 95, 96, 278, 279, 280, 281, 282, 283, 284, 285, 286, 287, 288, 289, 290, 300] (by decide +kernel) (by decide +kernel)
set_option maxRecDepth 20000 in
theorem gL_same_X8_content : GoodIn wsL_same (wsV RL 88 RX8 yX8_content wsX8_content) := goodIn_app (goodIn_of _ (by decide +kernel)) ggL_same_X8_content
set_option maxRecDepth 20000 in
theorem ggL_same_L_sum : GoodIn wsL_same wsL_sum := goodIn_r _ [16, 17, 18, 6, 19, 20] (by decide +kernel) (by decide +kernel)
set_option maxRecDepth 20000 in
theorem gL_same_L_sum : GoodIn wsL_same (va_wsS RL 24 yL_sum wsL_sum) := goodIn_app (goodIn_of _ (by decide +kernel)) ggL_same_L_sum
set_option maxRecDepth 20000 in
theorem ggL_same_X8_count : GoodIn wsL_same wsX8_count := goodIn_r _ [240, 31, 241, 242, 30, 38, 39, 40, 41, 42, 43, 220, 221, 222, 201, 223, 203, 243, 244, 245, 50, 246, 247, 53, 248, 249, 250, 251, 45, 28, 46, 153, 154, 155, 73, 156, 157, 94, 95, 96, 79, 80, 81, 82, 83, 252, 253, 254, 255, 125, 256, 257, 258, 259, 260, 261, 262, 263, 264, 265, 266, 267, 268, 269, 270, 271, 278, 279, 280, 281, 282, 283, 284, 285, 286, 287, 288, 289, 290, 291, 292, 293, 294, 301, 300, 302, 303, 304, 305, 306, 307, 308, 309, 310] (by decide +kernel) (by decide +kernel)
set_option maxRecDepth 20000 in
theorem gL_same_X8_count : GoodIn wsL_same (wsV RL 90 RX8 yX8_count wsX8_count) := goodIn_app (goodIn_of _ (by decide +kernel)) ggL_same_X8_count
set_option maxRecDepth 20000 in
theorem ggL_same_L_free : GoodIn wsL_same wsL_free := goodIn_r _ [274] (by decide +kernel) (by decide +kernel)
set_option maxRecDepth 20000 in
theorem gL_same_L_free : GoodIn wsL_same (va_wsS RL 33 yL_free wsL_free) := goodIn_app (goodIn_of _ (by decide +kernel)) ggL_same_L_free
set_option maxRecDepth 20000 in
theorem ggL_same_L_first : GoodIn wsL_same wsL_first := goodIn_r _ [277, 2] (by decide +kernel) (by decide +kernel)
set_option maxRecDepth 20000 in
theorem gL_same_L_first : GoodIn wsL_same (va_wsS RL 47 yL_first wsL_first) := goodIn_app (goodIn_of _ (by decide +kernel)) ggL_same_L_first
theorem dL_same_0 : decode cL_same 0 = .ok (.iconst 0, 1) := by decide +kernel
theorem dL_same_1 : decode cL_same 1 = .ok (.istore 10, 2) := by decide +kernel
theorem dL_same_3 : decode cL_same 3 = .ok (.iconst 0, 1) := by decide +kernel
theorem dL_same_4 : decode cL_same 4 = .ok (.istore 11, 2) := by decide +kernel
theorem dL_same_6 : decode cL_same 6 = .ok (.iload 11, 2) := by decide +kernel
theorem dL_same_8 : decode cL_same 8 = .ok (.bipush 64, 2) := by decide +kernel
theorem dL_same_10 : decode cL_same 10 = .ok (.if_icmp .ge 47, 3) := by decide +kernel
theorem dL_same_13 : decode cL_same 13 = .ok (.iload 10, 2) := by decide +kernel
theorem dL_same_15 : decode cL_same 15 = .ok (.aload 5, 2) := by decide +kernel
theorem dL_same_17 : decode cL_same 17 = .ok (.iload 11, 2) := by decide +kernel
theorem dL_same_19 : decode cL_same 19 = .ok (.laload, 1) := by decide +kernel
theorem dL_same_20 : decode cL_same 20 = .ok (.aload 6, 2) := by decide +kernel
theorem dL_same_22 : decode cL_same 22 = .ok (.iload 11, 2) := by decide +kernel
theorem dL_same_24 : decode cL_same 24 = .ok (.laload, 1) := by decide +kernel
theorem dL_same_25 : decode cL_same 25 = .ok (.lcmp, 1) := by decide +kernel
theorem dL_same_26 : decode cL_same 26 = .ok (.ifCond .eq 21, 3) := by decide +kernel
theorem dL_same_29 : decode cL_same 29 = .ok (.aload 4, 2) := by decide +kernel
theorem dL_same_31 : decode cL_same 31 = .ok (.iconst 0, 1) := by decide +kernel
theorem dL_same_32 : decode cL_same 32 = .ok (.laload, 1) := by decide +kernel
theorem dL_same_33 : decode cL_same 33 = .ok (.iload 11, 2) := by decide +kernel
theorem dL_same_35 : decode cL_same 35 = .ok (.lushr, 1) := by decide +kernel
theorem dL_same_36 : decode cL_same 36 = .ok (.lconst 1, 1) := by decide +kernel
theorem dL_same_37 : decode cL_same 37 = .ok (.land, 1) := by decide +kernel
theorem dL_same_38 : decode cL_same 38 = .ok (.lconst 1, 1) := by decide +kernel
theorem dL_same_39 : decode cL_same 39 = .ok (.lcmp, 1) := by decide +kernel
theorem dL_same_40 : decode cL_same 40 = .ok (.ifCond .ne 7, 3) := by decide +kernel
theorem dL_same_43 : decode cL_same 43 = .ok (.iconst 1, 1) := by decide +kernel
theorem dL_same_44 : decode cL_same 44 = .ok (.goto 4, 3) := by decide +kernel
theorem dL_same_47 : decode cL_same 47 = .ok (.iconst 0, 1) := by decide +kernel
theorem dL_same_48 : decode cL_same 48 = .ok (.iadd, 1) := by decide +kernel
theorem dL_same_49 : decode cL_same 49 = .ok (.istore 10, 2) := by decide +kernel
theorem dL_same_51 : decode cL_same 51 = .ok (.iinc 11 1, 3) := by decide +kernel
theorem dL_same_54 : decode cL_same 54 = .ok (.goto (-48), 3) := by decide +kernel
theorem dL_same_57 : decode cL_same 57 = .ok (.iconst 0, 1) := by decide +kernel
theorem dL_same_58 : decode cL_same 58 = .ok (.istore 11, 2) := by decide +kernel
theorem dL_same_60 : decode cL_same 60 = .ok (.iload 11, 2) := by decide +kernel
theorem dL_same_62 : decode cL_same 62 = .ok (.aload_n 2, 1) := by decide +kernel
theorem dL_same_63 : decode cL_same 63 = .ok (.iconst 0, 1) := by decide +kernel
theorem dL_same_64 : decode cL_same 64 = .ok (.iaload, 1) := by decide +kernel
theorem dL_same_65 : decode cL_same 65 = .ok (.if_icmp .ge 646, 3) := by decide +kernel
theorem dL_same_68 : decode cL_same 68 = .ok (.iconst 0, 1) := by decide +kernel
theorem dL_same_69 : decode cL_same 69 = .ok (.istore 12, 2) := by decide +kernel
theorem dL_same_71 : decode cL_same 71 = .ok (.iconst 0, 1) := by decide +kernel
theorem dL_same_72 : decode cL_same 72 = .ok (.istore 13, 2) := by decide +kernel
theorem dL_same_74 : decode cL_same 74 = .ok (.iconst 0, 1) := by decide +kernel
theorem dL_same_75 : decode cL_same 75 = .ok (.istore 14, 2) := by decide +kernel
theorem dL_same_77 : decode cL_same 77 = .ok (.iconst 0, 1) := by decide +kernel
theorem dL_same_78 : decode cL_same 78 = .ok (.istore 15, 2) := by decide +kernel
theorem dL_same_80 : decode cL_same 80 = .ok (.iload 15, 2) := by decide +kernel
theorem dL_same_82 : decode cL_same 82 = .ok (.bipush 16, 2) := by decide +kernel
theorem dL_same_84 : decode cL_same 84 = .ok (.if_icmp .ge 384, 3) := by decide +kernel
theorem dL_same_87 : decode cL_same 87 = .ok (.iload 11, 2) := by decide +kernel
theorem dL_same_89 : decode cL_same 89 = .ok (.iload 15, 2) := by decide +kernel
theorem dL_same_91 : decode cL_same 91 = .ok (.aload_n 3, 1) := by decide +kernel
theorem dL_same_92 : decode cL_same 92 = .ok (.aload 5, 2) := by decide +kernel
theorem dL_same_94 : decode cL_same 94 = .ok (.aload 6, 2) := by decide +kernel
theorem dL_same_96 : decode cL_same 96 = .ok (.aload 7, 2) := by decide +kernel
theorem dL_same_98 : decode cL_same 98 = .ok (.invokestatic 38, 3) := by decide +kernel
theorem dL_same_101 : decode cL_same 101 = .ok (.istore 16, 2) := by decide +kernel
theorem dL_same_103 : decode cL_same 103 = .ok (.iload 12, 2) := by decide +kernel
theorem dL_same_105 : decode cL_same 105 = .ok (.iload 16, 2) := by decide +kernel
theorem dL_same_107 : decode cL_same 107 = .ok (.iconst 3, 1) := by decide +kernel
theorem dL_same_108 : decode cL_same 108 = .ok (.if_icmp .ge 10, 3) := by decide +kernel
theorem dL_same_111 : decode cL_same 111 = .ok (.iconst 1, 1) := by decide +kernel
theorem dL_same_112 : decode cL_same 112 = .ok (.iload 15, 2) := by decide +kernel
theorem dL_same_114 : decode cL_same 114 = .ok (.ishl, 1) := by decide +kernel
theorem dL_same_115 : decode cL_same 115 = .ok (.goto 4, 3) := by decide +kernel
theorem dL_same_118 : decode cL_same 118 = .ok (.iconst 0, 1) := by decide +kernel
theorem dL_same_119 : decode cL_same 119 = .ok (.ior, 1) := by decide +kernel
theorem dL_same_120 : decode cL_same 120 = .ok (.istore 12, 2) := by decide +kernel
theorem dL_same_122 : decode cL_same 122 = .ok (.iconst 0, 1) := by decide +kernel
theorem dL_same_123 : decode cL_same 123 = .ok (.istore 17, 2) := by decide +kernel
theorem dL_same_125 : decode cL_same 125 = .ok (.iconst 0, 1) := by decide +kernel
theorem dL_same_126 : decode cL_same 126 = .ok (.istore 18, 2) := by decide +kernel
theorem dL_same_128 : decode cL_same 128 = .ok (.iconst 0, 1) := by decide +kernel
theorem dL_same_129 : decode cL_same 129 = .ok (.istore 19, 2) := by decide +kernel
theorem dL_same_131 : decode cL_same 131 = .ok (.iload 19, 2) := by decide +kernel
theorem dL_same_133 : decode cL_same 133 = .ok (.iload 16, 2) := by decide +kernel
theorem dL_same_135 : decode cL_same 135 = .ok (.if_icmp .ge 75, 3) := by decide +kernel
theorem dL_same_138 : decode cL_same 138 = .ok (.iload 17, 2) := by decide +kernel
theorem dL_same_140 : decode cL_same 140 = .ok (.ifCond .ne 33, 3) := by decide +kernel
theorem dL_same_143 : decode cL_same 143 = .ok (.aload 7, 2) := by decide +kernel
theorem dL_same_145 : decode cL_same 145 = .ok (.iload 19, 2) := by decide +kernel
theorem dL_same_147 : decode cL_same 147 = .ok (.iaload, 1) := by decide +kernel
theorem dL_same_148 : decode cL_same 148 = .ok (.bipush 64, 2) := by decide +kernel
theorem dL_same_150 : decode cL_same 150 = .ok (.if_icmp .ge 27, 3) := by decide +kernel
theorem dL_same_153 : decode cL_same 153 = .ok (.aload 5, 2) := by decide +kernel
theorem dL_same_155 : decode cL_same 155 = .ok (.aload 7, 2) := by decide +kernel
theorem dL_same_157 : decode cL_same 157 = .ok (.iload 19, 2) := by decide +kernel
theorem dL_same_159 : decode cL_same 159 = .ok (.iaload, 1) := by decide +kernel
theorem dL_same_160 : decode cL_same 160 = .ok (.laload, 1) := by decide +kernel
theorem dL_same_161 : decode cL_same 161 = .ok (.aload 6, 2) := by decide +kernel
theorem dL_same_163 : decode cL_same 163 = .ok (.aload 7, 2) := by decide +kernel
theorem dL_same_165 : decode cL_same 165 = .ok (.iload 19, 2) := by decide +kernel
theorem dL_same_167 : decode cL_same 167 = .ok (.iaload, 1) := by decide +kernel
theorem dL_same_168 : decode cL_same 168 = .ok (.laload, 1) := by decide +kernel
theorem dL_same_169 : decode cL_same 169 = .ok (.lcmp, 1) := by decide +kernel
theorem dL_same_170 : decode cL_same 170 = .ok (.ifCond .eq 7, 3) := by decide +kernel
theorem dL_same_173 : decode cL_same 173 = .ok (.iconst 1, 1) := by decide +kernel
theorem dL_same_174 : decode cL_same 174 = .ok (.goto 4, 3) := by decide +kernel
theorem dL_same_177 : decode cL_same 177 = .ok (.iconst 0, 1) := by decide +kernel
theorem dL_same_178 : decode cL_same 178 = .ok (.istore 17, 2) := by decide +kernel
theorem dL_same_180 : decode cL_same 180 = .ok (.iload 18, 2) := by decide +kernel
theorem dL_same_182 : decode cL_same 182 = .ok (.ifCond .ne 15, 3) := by decide +kernel
theorem dL_same_185 : decode cL_same 185 = .ok (.aload 7, 2) := by decide +kernel
theorem dL_same_187 : decode cL_same 187 = .ok (.bipush 6, 2) := by decide +kernel
theorem dL_same_189 : decode cL_same 189 = .ok (.iload 19, 2) := by decide +kernel
theorem dL_same_191 : decode cL_same 191 = .ok (.iadd, 1) := by decide +kernel
theorem dL_same_192 : decode cL_same 192 = .ok (.iaload, 1) := by decide +kernel
theorem dL_same_193 : decode cL_same 193 = .ok (.iconst 1, 1) := by decide +kernel
theorem dL_same_194 : decode cL_same 194 = .ok (.if_icmp .ne 7, 3) := by decide +kernel
theorem dL_same_197 : decode cL_same 197 = .ok (.iconst 1, 1) := by decide +kernel
theorem dL_same_198 : decode cL_same 198 = .ok (.goto 4, 3) := by decide +kernel
theorem dL_same_201 : decode cL_same 201 = .ok (.iconst 0, 1) := by decide +kernel
theorem dL_same_202 : decode cL_same 202 = .ok (.istore 18, 2) := by decide +kernel
theorem dL_same_204 : decode cL_same 204 = .ok (.iinc 19 1, 3) := by decide +kernel
theorem dL_same_207 : decode cL_same 207 = .ok (.goto (-76), 3) := by decide +kernel
theorem dL_same_210 : decode cL_same 210 = .ok (.iload 13, 2) := by decide +kernel
theorem dL_same_212 : decode cL_same 212 = .ok (.iload 16, 2) := by decide +kernel
theorem dL_same_214 : decode cL_same 214 = .ok (.iconst 3, 1) := by decide +kernel
theorem dL_same_215 : decode cL_same 215 = .ok (.if_icmp .ne 15, 3) := by decide +kernel
theorem dL_same_218 : decode cL_same 218 = .ok (.iload 17, 2) := by decide +kernel
theorem dL_same_220 : decode cL_same 220 = .ok (.ifCond .eq 10, 3) := by decide +kernel
theorem dL_same_223 : decode cL_same 223 = .ok (.iconst 1, 1) := by decide +kernel
theorem dL_same_224 : decode cL_same 224 = .ok (.iload 15, 2) := by decide +kernel
theorem dL_same_226 : decode cL_same 226 = .ok (.ishl, 1) := by decide +kernel
theorem dL_same_227 : decode cL_same 227 = .ok (.goto 4, 3) := by decide +kernel
theorem dL_same_230 : decode cL_same 230 = .ok (.iconst 0, 1) := by decide +kernel
theorem dL_same_231 : decode cL_same 231 = .ok (.ior, 1) := by decide +kernel
theorem dL_same_232 : decode cL_same 232 = .ok (.istore 13, 2) := by decide +kernel
theorem dL_same_234 : decode cL_same 234 = .ok (.iload 14, 2) := by decide +kernel
theorem dL_same_236 : decode cL_same 236 = .ok (.iload 16, 2) := by decide +kernel
theorem dL_same_238 : decode cL_same 238 = .ok (.iconst 3, 1) := by decide +kernel
theorem dL_same_239 : decode cL_same 239 = .ok (.if_icmp .ne 15, 3) := by decide +kernel
theorem dL_same_242 : decode cL_same 242 = .ok (.iload 18, 2) := by decide +kernel
theorem dL_same_244 : decode cL_same 244 = .ok (.ifCond .eq 10, 3) := by decide +kernel
theorem dL_same_247 : decode cL_same 247 = .ok (.iconst 1, 1) := by decide +kernel
theorem dL_same_248 : decode cL_same 248 = .ok (.iload 15, 2) := by decide +kernel
theorem dL_same_250 : decode cL_same 250 = .ok (.ishl, 1) := by decide +kernel
theorem dL_same_251 : decode cL_same 251 = .ok (.goto 4, 3) := by decide +kernel
theorem dL_same_254 : decode cL_same 254 = .ok (.iconst 0, 1) := by decide +kernel
theorem dL_same_255 : decode cL_same 255 = .ok (.ior, 1) := by decide +kernel
theorem dL_same_256 : decode cL_same 256 = .ok (.istore 14, 2) := by decide +kernel
theorem dL_same_258 : decode cL_same 258 = .ok (.iload 15, 2) := by decide +kernel
theorem dL_same_260 : decode cL_same 260 = .ok (.iconst 4, 1) := by decide +kernel
theorem dL_same_261 : decode cL_same 261 = .ok (.irem, 1) := by decide +kernel
theorem dL_same_262 : decode cL_same 262 = .ok (.iload_n 1, 1) := by decide +kernel
theorem dL_same_263 : decode cL_same 263 = .ok (.iconst 4, 1) := by decide +kernel
theorem dL_same_264 : decode cL_same 264 = .ok (.invokestatic 61, 3) := by decide +kernel
theorem dL_same_267 : decode cL_same 267 = .ok (.if_icmp .eq 13, 3) := by decide +kernel
theorem dL_same_270 : decode cL_same 270 = .ok (.iload 15, 2) := by decide +kernel
theorem dL_same_272 : decode cL_same 272 = .ok (.iconst 5, 1) := by decide +kernel
theorem dL_same_273 : decode cL_same 273 = .ok (.irem, 1) := by decide +kernel
theorem dL_same_274 : decode cL_same 274 = .ok (.ifCond .eq 6, 3) := by decide +kernel
theorem dL_same_277 : decode cL_same 277 = .ok (.goto 185, 3) := by decide +kernel
theorem dL_same_280 : decode cL_same 280 = .ok (.iconst 0, 1) := by decide +kernel
theorem dL_same_281 : decode cL_same 281 = .ok (.istore 19, 2) := by decide +kernel
theorem dL_same_283 : decode cL_same 283 = .ok (.iload 19, 2) := by decide +kernel
theorem dL_same_285 : decode cL_same 285 = .ok (.iconst 4, 1) := by decide +kernel
theorem dL_same_286 : decode cL_same 286 = .ok (.if_icmp .ge 62, 3) := by decide +kernel
theorem dL_same_289 : decode cL_same 289 = .ok (.aload_n 0, 1) := by decide +kernel
theorem dL_same_290 : decode cL_same 290 = .ok (.iload 11, 2) := by decide +kernel
theorem dL_same_292 : decode cL_same 292 = .ok (.iload 15, 2) := by decide +kernel
theorem dL_same_294 : decode cL_same 294 = .ok (.iload 19, 2) := by decide +kernel
theorem dL_same_296 : decode cL_same 296 = .ok (.invokevirtual 65, 3) := by decide +kernel
theorem dL_same_299 : decode cL_same 299 = .ok (.iload 16, 2) := by decide +kernel
theorem dL_same_301 : decode cL_same 301 = .ok (.iconst 3, 1) := by decide +kernel
