set_option maxRecDepth 20000 in
theorem ggL_law_X8_write : GoodIn wsL_law wsX8_write := goodIn_r _ [187, 148, 17, 34, 22, 149, 87, 2, 88, 188, 189, 190, 16, 191, 52, 48, 192, 193, 194, 195, 196, 51, 197, 97, 198, 199, 200, 37, 201, 62, 202, 203, 204, 205, 46, 206, 207, 208, 33, 209, 210, 211, 212, 213, 214, 67, 215, 216, 217, 218, 68, 219, 220, 221, 45, 222, 223, 74, 75, 76, 57, 77, 78, 79, 80, 81, 82, 224, 225, 226, 227, 119, 120, 121, 228, 229, 230, 231, 232, 233, 234, 235, 122, 236, 237, 238, 239, 240, 241, 242, 243, 244, 245, 246, 247, 248, 249, 250, 251, 252, 253, 150, 151, 152, 21, 153, 154, 107, 155, 156, 157, 158, 159, 160, 161, 162, 53, 163, 164, 165, 166, 167, 168, 169, 170, 171, 172, 173, 174, 175, 176, 177, 178, 179, 66, 254, 255, 256, 257, 258, 259, 260, 261, 262, 263, 264, 265, 89, 90, 91, 92, 266, 267, 268, 269, 270, 271, 272, 273, 274, 275, 276, 277, 278, 279, 84, 85, 86, 93, 94, 95, 96, 98, 99, 100, 101, 487, 488, 489, 490, 491, 492, 493, 494, 495, 496, 497, 498, 499, 520, 521, 522, 523, 518, 513, 514, 515, 516, 517, 519, 500, 501] (by decide +kernel) (by decide +kernel)
set_option maxRecDepth 20000 in
theorem gL_law_X8_write : GoodIn wsL_law (wsV RL 104 RX8 yX8_write wsX8_write) := goodIn_app (goodIn_of _ (by decide +kernel)) ggL_law_X8_write
set_option maxRecDepth 20000 in
theorem ggL_law_L_write : GoodIn wsL_law wsL_write := goodIn_r _ [282, 283, 7, 284, 285, 286, 287, 125, 288, 289, 290, 291, 292, 293, 294, 295, 296, 297, 129, 130, 131, 132, 133, 134, 127, 123, 124, 126, 128, 180, 181, 182, 183] (by decide +kernel) (by decide +kernel)
set_option maxRecDepth 20000 in
theorem gL_law_L_write : GoodIn wsL_law (va_wsS RL 107 yL_write wsL_write) := goodIn_app (goodIn_of _ (by decide +kernel)) ggL_law_L_write
set_option maxRecDepth 20000 in
theorem ggL_law_X8_rot : GoodIn wsL_law wsX8_rot := goodIn_r _ [301, 302, 148, 22, 17, 149, 87, 2, 88, 150, 151, 152, 21, 153, 154, 107, 155, 156, 157, 158, 159, 160, 161, 16, 162, 46, 48, 52, 53, 163, 164, 165, 166, 45, 167, 57, 168, 169, 170, 171, 172, 173, 174, 37, 175, 62, 176, 177, 178, 51, 179, 66, 67, 68, 97, 303, 229, 230, 231, 77, 78, 79, 80, 304, 84, 85, 86, 487, 488, 489, 490, 491, 492, 493, 494, 495, 496, 497, 498, 499, 500, 501, 519, 518, 520, 521, 522, 523] (by decide +kernel) (by decide +kernel)
set_option maxRecDepth 20000 in
theorem gL_law_X8_rot : GoodIn wsL_law (wsV RL 111 RX8 yX8_rot wsX8_rot) := goodIn_app (goodIn_of _ (by decide +kernel)) ggL_law_X8_rot
set_option maxRecDepth 20000 in
theorem ggL_law_L_number : GoodIn wsL_law wsL_number := goodIn_r _ [134, 127] (by decide +kernel) (by decide +kernel)
set_option maxRecDepth 20000 in
theorem gL_law_L_number : GoodIn wsL_law (va_wsS RL 12 yL_number wsL_number) := goodIn_app (goodIn_of _ (by decide +kernel)) ggL_law_L_number
set_option maxRecDepth 20000 in
theorem ggL_law_X8_mend : GoodIn wsL_law wsX8_mend := goodIn_r _ [308, 148, 22, 17, 34, 309, 310, 311, 2, 312, 313, 195, 196, 51, 197, 97, 149, 87, 88, 150, 151, 152, 21, 153, 154, 107, 155, 156, 157, 158, 159, 160, 161, 16, 162, 46, 48, 52, 53, 163, 164, 165, 166, 45, 167, 57, 168, 169, 170, 171, 172, 173, 174, 37, 175, 62, 176, 177, 178, 179, 66, 67, 68, 314, 315, 316, 317, 202, 203, 204, 205, 206, 207, 208, 33, 209, 210, 211, 212, 213, 214, 215, 216, 217, 218, 219, 220, 221, 222, 223, 74, 75, 76, 77, 78, 79, 80, 81, 82, 224, 225, 226, 227, 119, 120, 121, 228, 229, 230, 231, 232, 233, 234, 235, 122, 236, 237, 238, 239, 240, 241, 318, 247, 248, 249, 250, 251, 252, 253, 319, 320, 321, 322, 323, 324, 325, 326, 327, 274, 275, 276, 277, 278, 279, 84, 85, 86, 487, 488, 489, 490, 491, 492, 493, 494, 495, 496, 497, 498, 499, 520, 521, 522, 523, 500, 501, 519, 518, 513, 514, 515, 516, 517] (by decide +kernel) (by decide +kernel)
set_option maxRecDepth 20000 in
theorem gL_law_X8_mend : GoodIn wsL_law (wsV RL 114 RX8 yX8_mend wsX8_mend) := goodIn_app (goodIn_of _ (by decide +kernel)) ggL_law_X8_mend
set_option maxRecDepth 20000 in
theorem ggL_law_L_mend : GoodIn wsL_law wsL_mend := goodIn_r _ [330, 4, 289, 290, 125, 291, 292, 293, 294, 295, 296, 297, 129, 130, 131, 132, 133, 134, 127] (by decide +kernel) (by decide +kernel)
set_option maxRecDepth 20000 in
theorem gL_law_L_mend : GoodIn wsL_law (va_wsS RL 117 yL_mend wsL_mend) := goodIn_app (goodIn_of _ (by decide +kernel)) ggL_law_L_mend
