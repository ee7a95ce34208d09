set_option maxRecDepth 20000 in
theorem gt_wsL_law_r1 : GoodIn lw_tbl wsL_law_r1 := goodIn_r _ [23, 24, 13, 47, 489, 604, 605, 483, 25, 26, 27, 28, 29, 30, 31, 32, 14, 214, 215, 135, 136, 18, 216, 151] (by decide +kernel) (by decide +kernel)
set_option maxRecDepth 20000 in
theorem gt_wsL_law_r2 : GoodIn lw_tbl wsL_law_r2 := goodIn_r _ [152, 19, 217, 175, 176, 20, 218, 190, 191, 21, 219, 212, 49, 16, 220, 221, 34, 35, 36, 37, 38, 15, 78, 48] (by decide +kernel) (by decide +kernel)
set_option maxRecDepth 20000 in
theorem gt_wsL_law_r3 : GoodIn lw_tbl wsL_law_r3 := goodIn_r _ [80, 59, 60, 17, 82, 84, 40, 41, 42, 43, 51, 52, 53, 58, 54, 62, 63, 64, 65, 66, 67, 99, 100, 101] (by decide +kernel) (by decide +kernel)
set_option maxRecDepth 20000 in
theorem gt_wsL_law_r4 : GoodIn lw_tbl wsL_law_r4 := goodIn_r _ [102, 103, 104, 105, 106, 107, 109, 0, 110, 112, 113, 114, 115, 116, 117, 119, 120, 121, 122, 123, 124, 126, 127, 128] (by decide +kernel) (by decide +kernel)
set_option maxRecDepth 20000 in
theorem gt_wsL_law_r5 : GoodIn lw_tbl wsL_law_r5 := goodIn_r _ [129, 68, 130, 132, 1, 133, 137, 138, 139, 140, 141, 144, 154, 155, 156, 174, 157, 178, 179, 180, 193, 194, 195, 196] (by decide +kernel) (by decide +kernel)
set_option maxRecDepth 20000 in
theorem gt_wsL_law_r6 : GoodIn lw_tbl wsL_law_r6 := goodIn_r _ [197, 198, 199, 459, 460, 12, 461, 455, 462, 456, 457, 458, 452, 453, 454, 443, 444, 445, 446, 447, 448, 449, 450, 451] (by decide +kernel) (by decide +kernel)
set_option maxRecDepth 20000 in
theorem gt_wsL_law_r7 : GoodIn lw_tbl wsL_law_r7 := goodIn_r _ [367, 368, 369, 370, 244, 243, 312, 313, 314, 315, 145, 316, 318, 2, 319, 321, 322, 323, 324, 86, 325, 326, 327, 328] (by decide +kernel) (by decide +kernel)
set_option maxRecDepth 20000 in
theorem gt_wsL_law_r8 : GoodIn lw_tbl wsL_law_r8 := goodIn_r _ [329, 331, 330, 22, 332, 333, 334, 335, 336, 337, 338, 339, 463, 464, 465, 466, 239, 240, 241, 242, 245, 246, 247, 248] (by decide +kernel) (by decide +kernel)
