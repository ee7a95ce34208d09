set_option maxRecDepth 20000 in
theorem gs_wsL_same_r7 : GoodIn wsL_law wsL_same_r7 := goodIn_r _ [412, 413, 414, 415, 416, 417, 418, 319, 323, 324, 325, 326, 327, 419, 420, 421, 422, 371, 372, 373, 423, 424, 425, 426] (by decide +kernel) (by decide +kernel)
set_option maxRecDepth 20000 in
theorem gs_wsL_same_r8 : GoodIn wsL_law wsL_same_r8 := goodIn_r _ [427, 428, 429, 430, 193, 431, 432, 433, 434, 435, 436, 437, 438, 439, 440, 441, 38, 39, 442, 443, 444, 445, 66, 446] (by decide +kernel) (by decide +kernel)
set_option maxRecDepth 20000 in
theorem gs_wsL_same_r9 : GoodIn wsL_law wsL_same_r9 := goodIn_r _ [447, 448, 449, 450, 451, 452, 349, 350, 37, 351, 62, 453, 353, 354, 355, 356, 357, 358, 359, 89, 90, 91, 92, 360] (by decide +kernel) (by decide +kernel)
set_option maxRecDepth 20000 in
theorem gs_wsL_same_r10 : GoodIn wsL_law wsL_same_r10 := goodIn_r _ [361, 362, 363, 454, 199, 200, 201, 455, 365, 366, 367, 374, 375, 376, 456, 457, 458, 459, 460, 303, 461, 462, 463, 464] (by decide +kernel) (by decide +kernel)
set_option maxRecDepth 20000 in
theorem gs_wsL_same_r11 : GoodIn wsL_law wsL_same_r11 := goodIn_r _ [22, 26, 465, 466, 467, 468, 48, 469, 470, 471, 472, 473, 474, 475, 476, 477, 263, 264, 265, 478, 479, 480, 21, 481] (by decide +kernel) (by decide +kernel)
set_option maxRecDepth 20000 in
theorem gs_wsL_same_r12 : GoodIn wsL_law wsL_same_r12 := goodIn_r _ [154, 482, 483, 484, 25, 485, 486, 286, 287, 288, 180, 181, 182] (by decide +kernel) (by decide +kernel)
set_option maxRecDepth 20000 in
theorem gs_wsX80 : GoodIn wsL_law wsX80 := goodIn_r _ [487, 488, 489, 490, 491, 492, 493, 494] (by decide +kernel) (by decide +kernel)
set_option maxRecDepth 20000 in
theorem gs_wsX50 : GoodIn wsL_law wsX50 := goodIn_r _ [495, 496, 497, 498, 499] (by decide +kernel) (by decide +kernel)
set_option maxRecDepth 20000 in
theorem gs_wsX30 : GoodIn wsL_law wsX30 := goodIn_r _ [520, 521, 522, 523] (by decide +kernel) (by decide +kernel)
set_option maxRecDepth 20000 in
theorem gs_wsX70 : GoodIn wsL_law wsX70 := goodIn_r _ [513, 514, 515, 516, 517] (by decide +kernel) (by decide +kernel)
set_option maxRecDepth 20000 in
theorem gs_wsX10 : GoodIn wsL_law wsX10 := goodIn_r _ [519] (by decide +kernel) (by decide +kernel)
set_option maxRecDepth 20000 in
theorem gs_wsX00 : GoodIn wsL_law wsX00 := goodIn_r _ [518] (by decide +kernel) (by decide +kernel)
set_option maxRecDepth 20000 in
theorem gs_wsX20 : GoodIn wsL_law wsX20 := goodIn_r _ [500, 501] (by decide +kernel) (by decide +kernel)
set_option maxRecDepth 20000 in
theorem gs_wsX40 : GoodIn wsL_law wsX40 := goodIn_r _ [502, 503, 504, 505, 506, 507, 508] (by decide +kernel) (by decide +kernel)
theorem ggL_law_L_same : GoodIn wsL_law wsL_same := (show GoodIn wsL_law ([Cond.code yL_same cL_same 20 (some .boolean)] ++ _) from goodIn_app gs_0 (goodIn_app (goodIn_app (goodIn_app (goodIn_app (goodIn_app (goodIn_app (goodIn_app (goodIn_app (goodIn_app gs_wsL_same_r1 (goodIn_app gs_wsL_same_r2 (goodIn_app gs_wsL_same_r3 (goodIn_app gs_wsL_same_r4 (goodIn_app gs_wsL_same_r5 (goodIn_app gs_wsL_same_r6 (goodIn_app gs_wsL_same_r7 (goodIn_app gs_wsL_same_r8 (goodIn_app gs_wsL_same_r9 (goodIn_app gs_wsL_same_r10 (goodIn_app gs_wsL_same_r11 gs_wsL_same_r12))))))))))) gs_wsX80) gs_wsX50) gs_wsX30) gs_wsX70) gs_wsX10) gs_wsX00) gs_wsX20) gs_wsX40))
set_option maxRecDepth 20000 in
theorem gL_law_L_same : GoodIn wsL_law (va_wsS RL 132 yL_same wsL_same) := goodIn_app (goodIn_of _ (by decide +kernel)) ggL_law_L_same
