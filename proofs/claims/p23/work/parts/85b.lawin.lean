set_option maxRecDepth 20000 in
theorem gt_wsL_law_r9 : GoodIn lw_tbl wsL_law_r9 := goodIn_r _ [257, 311, 249, 250, 251, 252, 253, 254, 255, 256, 258, 259, 260, 261, 262, 263, 264, 265, 200, 266, 267, 268, 269, 270] (by decide +kernel) (by decide +kernel)
set_option maxRecDepth 20000 in
theorem gt_wsL_law_r10 : GoodIn lw_tbl wsL_law_r10 := goodIn_r _ [271, 272, 273, 274, 275, 276, 277, 278, 279, 280, 281, 282, 283, 284, 285, 286, 287, 288, 289, 290, 293, 294, 295, 296] (by decide +kernel) (by decide +kernel)
set_option maxRecDepth 20000 in
theorem gt_wsL_law_r11 : GoodIn lw_tbl wsL_law_r11 := goodIn_r _ [297, 298, 299, 300, 301, 302, 303, 304, 305, 306, 307, 308, 309, 310, 340, 341, 342, 343, 344, 346, 3, 347, 348, 349] (by decide +kernel) (by decide +kernel)
set_option maxRecDepth 20000 in
theorem gt_wsL_law_r12 : GoodIn lw_tbl wsL_law_r12 := goodIn_r _ [350, 351, 352, 353, 354, 355, 357, 359, 4, 360, 361, 362, 363, 364, 365, 366, 467, 468, 469, 473, 484, 485, 470, 471] (by decide +kernel) (by decide +kernel)
set_option maxRecDepth 20000 in
theorem gt_wsL_law_r13 : GoodIn lw_tbl wsL_law_r13 := goodIn_r _ [472, 474, 475, 476, 477, 478, 479, 480, 481, 482, 371, 372, 373, 374, 375, 376, 377, 378, 379, 380, 381, 382, 384, 5] (by decide +kernel) (by decide +kernel)
set_option maxRecDepth 20000 in
theorem gt_wsL_law_r14 : GoodIn lw_tbl wsL_law_r14 := goodIn_r _ [385, 386, 387, 388, 389, 390, 391, 392, 393, 394, 395, 396, 397, 398, 399, 400, 486, 487, 488, 401, 402, 403, 404, 405] (by decide +kernel) (by decide +kernel)
set_option maxRecDepth 20000 in
theorem gt_wsL_law_r15 : GoodIn lw_tbl wsL_law_r15 := goodIn_r _ [406, 407, 408, 409, 410, 411, 412, 413, 414, 415, 416, 417, 418, 419, 420, 421, 422, 423, 424, 425, 426, 428, 6, 429] (by decide +kernel) (by decide +kernel)
