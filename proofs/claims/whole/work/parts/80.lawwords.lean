set_option maxRecDepth 20000 in
theorem ggL_law_X8_init : GoodIn wsL_law wsX8_init := goodIn_r _ [8, 9, 10, 11, 12, 13, 14, 15, 16, 17, 18, 19, 20, 21, 22, 23, 24, 25, 26, 27, 28, 29, 30, 31, 32, 33, 34, 35, 36, 37, 38, 39, 40, 41, 42, 43, 44, 45, 46, 47, 48, 49, 50, 51, 52, 53, 54, 55, 56, 57, 58, 59, 60, 61, 62, 63, 64, 65, 66, 67, 68, 69, 70, 71, 72, 73, 74, 75, 76, 77, 78, 79, 80, 2, 81, 82, 83, 84, 85, 86, 87, 88, 89, 90, 91, 92, 93, 94, 95, 96, 97, 98, 99, 100, 101, 102, 103, 104, 105, 106, 107, 108, 109, 110, 111, 112, 113, 114, 115, 116, 117, 118, 119, 120, 121, 816, 817, 818, 819, 820, 785, 786, 787, 788, 789, 790, 791, 792, 821, 822, 823, 824, 825, 826, 827, 828, 829, 830, 831, 832, 833, 834, 835, 836, 837, 838, 839, 840, 841, 842, 843, 844] (by decide +kernel) (by decide +kernel)
set_option maxRecDepth 20000 in
theorem gL_law_X8_init : GoodIn wsL_law (wsX8_init) := ggL_law_X8_init
set_option maxRecDepth 20000 in
theorem ggL_law_X9_init : GoodIn wsL_law wsX9_init := goodIn_r _ [124, 125, 10, 11, 55, 126, 127, 128, 129, 130, 131, 132, 133, 134, 135, 136, 137, 138, 139, 140, 141, 5, 142, 143, 144, 145, 146, 147, 148, 149, 150, 151, 152, 153, 154, 155, 156, 157, 793, 794, 795, 796, 797, 798, 799, 800, 801, 802, 803, 804, 805, 806, 807, 808, 809, 810, 811, 812, 813, 814, 815] (by decide +kernel) (by decide +kernel)
set_option maxRecDepth 20000 in
theorem gL_law_X9_init : GoodIn wsL_law (wsX9_init) := ggL_law_X9_init
set_option maxRecDepth 20000 in
theorem ggL_law_X8_write : GoodIn wsL_law wsX8_write := goodIn_r _ [161, 162, 15, 32, 20, 163, 86, 2, 87, 164, 165, 166, 14, 167, 50, 46, 168, 169, 170, 171, 172, 49, 173, 96, 174, 175, 176, 35, 177, 61, 178, 179, 180, 181, 44, 182, 183, 184, 31, 185, 186, 187, 188, 189, 190, 66, 191, 192, 193, 194, 67, 195, 196, 197, 43, 198, 199, 73, 74, 75, 56, 76, 77, 78, 79, 80, 81, 200, 201, 202, 203, 118, 119, 120, 204, 205, 206, 207, 208, 209, 210, 211, 121, 212, 213, 214, 215, 216, 217, 218, 219, 220, 221, 222, 223, 224, 225, 226, 227, 228, 229, 230, 231, 232, 19, 233, 234, 106, 235, 236, 237, 238, 239, 240, 241, 242, 51, 243, 244, 245, 246, 247, 248, 249, 250, 251, 252, 253, 254, 255, 256, 257, 258, 259, 65, 260, 261, 262, 263, 264, 265, 266, 267, 268, 269, 270, 271, 88, 89, 90, 91, 272, 273, 274, 275, 276, 277, 278, 279, 280, 281, 282, 283, 284, 285, 83, 84, 85, 92, 93, 94, 95, 97, 98, 99, 100, 785, 786, 787, 788, 789, 790, 791, 792, 816, 817, 818, 819, 820, 841, 842, 843, 844, 839, 834, 835, 836, 837, 838, 840, 821, 822] (by decide +kernel) (by decide +kernel)
set_option maxRecDepth 20000 in
theorem gL_law_X8_write : GoodIn wsL_law (wsV RL 13 RX8 yX8_write wsX8_write) := goodIn_app (goodIn_of _ (by decide +kernel)) ggL_law_X8_write
set_option maxRecDepth 20000 in
theorem ggL_law_X9_write : GoodIn wsL_law wsX9_write := goodIn_r _ [289, 290, 291, 292, 5, 293, 294, 126, 295, 296, 297, 298, 299, 300, 301, 302, 303, 304, 305, 306, 307, 308, 309, 310, 130, 131, 132, 311, 312, 313, 314, 143, 144, 145, 146, 315, 316, 317, 318, 139, 140, 141, 142, 147, 148, 149, 319, 320, 321, 322, 323, 128, 324, 325, 326, 327, 328, 329, 330, 136, 135, 134, 331, 332, 333, 334, 335, 336, 337, 338, 339, 340, 341, 342, 343, 137, 344, 345, 346, 347, 150, 151, 152, 153, 154, 155, 156, 157, 348, 349, 350, 351, 352, 353, 354, 793, 794, 795, 796, 797, 798, 799, 800, 801, 802, 803, 804, 805, 806, 807, 808, 809, 810, 811, 812, 813, 814, 815] (by decide +kernel) (by decide +kernel)
set_option maxRecDepth 20000 in
theorem gL_law_X9_write : GoodIn wsL_law (wsV RL 17 RX9 yX9_write wsX9_write) := goodIn_app (goodIn_of _ (by decide +kernel)) ggL_law_X9_write
set_option maxRecDepth 20000 in
theorem ggL_law_X8_mishap : GoodIn wsL_law wsX8_mishap := goodIn_r _ [358, 162, 20, 15, 163, 86, 2, 87, 230, 231, 232, 19, 233, 234, 106, 235, 236, 237, 238, 239, 240, 241, 14, 242, 44, 46, 50, 51, 243, 244, 245, 246, 43, 247, 56, 248, 249, 250, 251, 252, 253, 254, 35, 255, 61, 256, 257, 258, 49, 259, 65, 66, 67, 96, 785, 786, 787, 788, 789, 790, 791, 792, 816, 817, 818, 819, 820, 821, 822, 840, 839, 841, 842, 843, 844] (by decide +kernel) (by decide +kernel)
set_option maxRecDepth 20000 in
theorem gL_law_X8_mishap : GoodIn wsL_law (wsV RL 18 RX8 yX8_mishap wsX8_mishap) := goodIn_app (goodIn_of _ (by decide +kernel)) ggL_law_X8_mishap
set_option maxRecDepth 20000 in
theorem ggL_law_X9_mishap : GoodIn wsL_law wsX9_mishap := goodIn_r _ [362, 294, 126, 300, 301, 5, 302, 319, 320, 321, 322, 323, 128, 324, 325, 326, 793, 794, 795, 796, 797, 798, 799, 800, 801, 802, 803, 804, 805, 806, 807, 808, 809, 810, 811, 812, 813, 814, 815] (by decide +kernel) (by decide +kernel)
set_option maxRecDepth 20000 in
theorem gL_law_X9_mishap : GoodIn wsL_law (wsV RL 22 RX9 yX9_mishap wsX9_mishap) := goodIn_app (goodIn_of _ (by decide +kernel)) ggL_law_X9_mishap
set_option maxRecDepth 20000 in
theorem ggL_law_X8_rot : GoodIn wsL_law wsX8_rot := goodIn_r _ [366, 367, 162, 20, 15, 163, 86, 2, 87, 230, 231, 232, 19, 233, 234, 106, 235, 236, 237, 238, 239, 240, 241, 14, 242, 44, 46, 50, 51, 243, 244, 245, 246, 43, 247, 56, 248, 249, 250, 251, 252, 253, 254, 35, 255, 61, 256, 257, 258, 49, 259, 65, 66, 67, 96, 368, 205, 206, 207, 76, 77, 78, 79, 369, 83, 84, 85, 785, 786, 787, 788, 789, 790, 791, 792, 816, 817, 818, 819, 820, 821, 822, 840, 839, 841, 842, 843, 844] (by decide +kernel) (by decide +kernel)
set_option maxRecDepth 20000 in
theorem gL_law_X8_rot : GoodIn wsL_law (wsV RL 23 RX8 yX8_rot wsX8_rot) := goodIn_app (goodIn_of _ (by decide +kernel)) ggL_law_X8_rot
set_option maxRecDepth 20000 in
theorem ggL_law_X9_rot : GoodIn wsL_law wsX9_rot := goodIn_r _ [373, 374, 294, 375, 376, 5, 377, 300, 301, 302, 319, 320, 321, 322, 323, 128, 126, 324, 325, 326, 143, 144, 145, 146, 154, 155, 156, 157, 793, 794, 795, 796, 797, 798, 799, 800, 801, 802, 803, 804, 805, 806, 807, 808, 809, 810, 811, 812, 813, 814, 815] (by decide +kernel) (by decide +kernel)
set_option maxRecDepth 20000 in
theorem gL_law_X9_rot : GoodIn wsL_law (wsV RL 27 RX9 yX9_rot wsX9_rot) := goodIn_app (goodIn_of _ (by decide +kernel)) ggL_law_X9_rot
set_option maxRecDepth 20000 in
theorem ggL_law_X8_read : GoodIn wsL_law wsX8_read := goodIn_r _ [381, 162, 15, 32, 382, 383, 384, 385, 2, 386, 387, 171, 172, 49, 173, 96, 163, 86, 87, 388, 179, 180, 14, 181, 50, 44, 182, 183, 184, 31, 185, 186, 187, 188, 189, 190, 66, 191, 192, 193, 194, 67, 195, 196, 197, 43, 198, 199, 73, 74, 75, 56, 76, 77, 78, 79, 80, 81, 200, 201, 202, 203, 118, 119, 120, 204, 205, 206, 207, 208, 209, 210, 211, 121, 212, 213, 214, 215, 216, 217, 389, 219, 220, 221, 222, 223, 224, 225, 226, 227, 228, 229, 390, 785, 786, 787, 788, 789, 790, 791, 792, 816, 817, 818, 819, 820, 841, 842, 843, 844, 834, 835, 836, 837, 838, 840] (by decide +kernel) (by decide +kernel)
set_option maxRecDepth 20000 in
theorem gL_law_X8_read : GoodIn wsL_law (wsV RL 28 RX8 yX8_read wsX8_read) := goodIn_app (goodIn_of _ (by decide +kernel)) ggL_law_X8_read
set_option maxRecDepth 20000 in
theorem ggL_law_X9_read : GoodIn wsL_law wsX9_read := goodIn_r _ [394, 294, 132, 130, 296, 395, 396, 397, 5, 398, 126, 300, 301, 302, 297, 298, 299, 307, 308, 309, 310, 131, 311, 312, 313, 314, 143, 144, 145, 146, 315, 316, 317, 318, 139, 140, 141, 142, 147, 148, 149, 793, 794, 795, 796, 797, 798, 799, 800, 801, 802, 803, 804, 805, 806, 807, 808, 809, 810, 811, 812, 813, 814, 815] (by decide +kernel) (by decide +kernel)
set_option maxRecDepth 20000 in
theorem gL_law_X9_read : GoodIn wsL_law (wsV RL 31 RX9 yX9_read wsX9_read) := goodIn_app (goodIn_of _ (by decide +kernel)) ggL_law_X9_read
set_option maxRecDepth 20000 in
theorem ggL_law_X8_from : GoodIn wsL_law wsX8_from := goodIn_r _ [402, 162, 15, 32, 403, 383, 384, 385, 2, 386, 387, 171, 172, 49, 173, 96, 163, 86, 87, 388, 179, 180, 14, 181, 50, 44, 182, 183, 184, 31, 185, 186, 187, 188, 189, 190, 66, 191, 192, 193, 194, 67, 195, 196, 197, 43, 198, 199, 73, 74, 75, 56, 76, 77, 78, 79, 80, 81, 200, 201, 202, 203, 118, 119, 120, 204, 205, 206, 207, 208, 209, 210, 211, 121, 212, 213, 214, 215, 216, 217, 404, 227, 228, 229, 405, 223, 224, 225, 226, 785, 786, 787, 788, 789, 790, 791, 792, 816, 817, 818, 819, 820, 841, 842, 843, 844, 834, 835, 836, 837, 838, 840] (by decide +kernel) (by decide +kernel)
set_option maxRecDepth 20000 in
theorem gL_law_X8_from : GoodIn wsL_law (wsV RL 32 RX8 yX8_from wsX8_from) := goodIn_app (goodIn_of _ (by decide +kernel)) ggL_law_X8_from
set_option maxRecDepth 20000 in
theorem ggL_law_X9_from : GoodIn wsL_law wsX9_from := goodIn_r _ [409, 294, 132, 339, 395, 396, 397, 5, 398, 126, 300, 301, 302, 297, 298, 299, 307, 308, 309, 310, 130, 131, 311, 312, 313, 314, 143, 144, 145, 146, 315, 316, 317, 318, 139, 140, 141, 142, 147, 148, 149, 793, 794, 795, 796, 797, 798, 799, 800, 801, 802, 803, 804, 805, 806, 807, 808, 809, 810, 811, 812, 813, 814, 815] (by decide +kernel) (by decide +kernel)
set_option maxRecDepth 20000 in
theorem gL_law_X9_from : GoodIn wsL_law (wsV RL 35 RX9 yX9_from wsX9_from) := goodIn_app (goodIn_of _ (by decide +kernel)) ggL_law_X9_from
set_option maxRecDepth 20000 in
theorem ggL_law_X8_way : GoodIn wsL_law wsX8_way := goodIn_r _ [413, 162, 15, 32, 403, 383, 384, 385, 2, 386, 387, 171, 172, 49, 173, 96, 163, 86, 87, 388, 179, 180, 14, 181, 50, 44, 182, 183, 184, 31, 185, 186, 187, 188, 189, 190, 66, 191, 192, 193, 194, 67, 195, 196, 197, 43, 198, 199, 73, 74, 75, 56, 76, 77, 78, 79, 80, 81, 200, 201, 202, 203, 118, 119, 120, 204, 205, 206, 207, 208, 209, 210, 211, 121, 212, 213, 214, 215, 216, 217, 404, 227, 228, 229, 414, 415, 416, 417, 226, 418, 419, 420, 421, 785, 786, 787, 788, 789, 790, 791, 792, 816, 817, 818, 819, 820, 841, 842, 843, 844, 834, 835, 836, 837, 838, 840] (by decide +kernel) (by decide +kernel)
set_option maxRecDepth 20000 in
theorem gL_law_X8_way : GoodIn wsL_law (wsV RL 36 RX8 yX8_way wsX8_way) := goodIn_app (goodIn_of _ (by decide +kernel)) ggL_law_X8_way
set_option maxRecDepth 20000 in
theorem ggL_law_X9_way : GoodIn wsL_law wsX9_way := goodIn_r _ [425, 294, 132, 339, 130, 131, 395, 396, 397, 5, 398, 126, 300, 301, 302, 297, 298, 299, 307, 308, 309, 310, 311, 312, 313, 314, 143, 144, 145, 146, 315, 316, 317, 318, 139, 140, 141, 142, 147, 148, 149, 793, 794, 795, 796, 797, 798, 799, 800, 801, 802, 803, 804, 805, 806, 807, 808, 809, 810, 811, 812, 813, 814, 815] (by decide +kernel) (by decide +kernel)
set_option maxRecDepth 20000 in
theorem gL_law_X9_way : GoodIn wsL_law (wsV RL 39 RX9 yX9_way wsX9_way) := goodIn_app (goodIn_of _ (by decide +kernel)) ggL_law_X9_way
set_option maxRecDepth 20000 in
theorem ggL_law_X8_content : GoodIn wsL_law wsX8_content := goodIn_r _ [429, 162, 15, 163, 86, 2, 87, 430, 73, 74, 43, 75, 56, 76, 77, 78, 79, 80, 81, 368, 205, 206, 207, 785, 786, 787, 788, 789, 790, 791, 792, 816, 817, 818, 819, 820, 840] (by decide +kernel) (by decide +kernel)
set_option maxRecDepth 20000 in
theorem gL_law_X8_content : GoodIn wsL_law (wsV RL 40 RX8 yX8_content wsX8_content) := goodIn_app (goodIn_of _ (by decide +kernel)) ggL_law_X8_content
set_option maxRecDepth 20000 in
theorem ggL_law_X9_content : GoodIn wsL_law wsX9_content := goodIn_r _ [434, 294, 375, 376, 5, 377, 300, 301, 302, 139, 140, 141, 142, 143, 144, 145, 146, 126, 147, 148, 149, 793, 794, 795, 796, 797, 798, 799, 800, 801, 802, 803, 804, 805, 806, 807, 808, 809, 810, 811, 812, 813, 814, 815] (by decide +kernel) (by decide +kernel)
set_option maxRecDepth 20000 in
theorem gL_law_X9_content : GoodIn wsL_law (wsV RL 43 RX9 yX9_content wsX9_content) := goodIn_app (goodIn_of _ (by decide +kernel)) ggL_law_X9_content
set_option maxRecDepth 20000 in
theorem ggL_law_X8_mend : GoodIn wsL_law wsX8_mend := goodIn_r _ [438, 162, 20, 15, 32, 383, 384, 385, 2, 386, 387, 171, 172, 49, 173, 96, 163, 86, 87, 230, 231, 232, 19, 233, 234, 106, 235, 236, 237, 238, 239, 240, 241, 14, 242, 44, 46, 50, 51, 243, 244, 245, 246, 43, 247, 56, 248, 249, 250, 251, 252, 253, 254, 35, 255, 61, 256, 257, 258, 259, 65, 66, 67, 439, 440, 441, 442, 178, 179, 180, 181, 182, 183, 184, 31, 185, 186, 187, 188, 189, 190, 191, 192, 193, 194, 195, 196, 197, 198, 199, 73, 74, 75, 76, 77, 78, 79, 80, 81, 200, 201, 202, 203, 118, 119, 120, 204, 205, 206, 207, 208, 209, 210, 211, 121, 212, 213, 214, 215, 216, 217, 443, 223, 224, 225, 226, 227, 228, 229, 444, 415, 416, 417, 445, 446, 447, 448, 449, 280, 281, 282, 283, 284, 285, 83, 84, 85, 785, 786, 787, 788, 789, 790, 791, 792, 816, 817, 818, 819, 820, 841, 842, 843, 844, 821, 822, 840, 839, 834, 835, 836, 837, 838] (by decide +kernel) (by decide +kernel)
set_option maxRecDepth 20000 in
theorem gL_law_X8_mend : GoodIn wsL_law (wsV RL 44 RX8 yX8_mend wsX8_mend) := goodIn_app (goodIn_of _ (by decide +kernel)) ggL_law_X8_mend
set_option maxRecDepth 20000 in
theorem ggL_law_X9_mend : GoodIn wsL_law wsX9_mend := goodIn_r _ [453, 294, 395, 396, 397, 5, 398, 126, 300, 301, 302, 297, 298, 299, 319, 320, 321, 322, 323, 128, 324, 325, 326, 454, 455, 456, 457, 133, 132, 130, 307, 308, 309, 310, 131, 311, 312, 313, 314, 143, 144, 145, 146, 315, 316, 317, 318, 139, 140, 141, 142, 147, 148, 149, 458, 459, 460, 461, 462, 463, 464, 465, 150, 151, 152, 153, 154, 155, 156, 157, 793, 794, 795, 796, 797, 798, 799, 800, 801, 802, 803, 804, 805, 806, 807, 808, 809, 810, 811, 812, 813, 814, 815] (by decide +kernel) (by decide +kernel)
set_option maxRecDepth 20000 in
theorem gL_law_X9_mend : GoodIn wsL_law (wsV RL 48 RX9 yX9_mend wsX9_mend) := goodIn_app (goodIn_of _ (by decide +kernel)) ggL_law_X9_mend
set_option maxRecDepth 20000 in
theorem ggL_law_X8_scrub : GoodIn wsL_law wsX8_scrub := goodIn_r _ [469, 20, 15, 32, 230, 231, 232, 19, 233, 234, 106, 235, 236, 237, 238, 86, 2, 87, 239, 240, 241, 14, 242, 44, 46, 50, 51, 243, 244, 245, 246, 43, 247, 56, 248, 249, 250, 251, 252, 253, 254, 35, 255, 61, 256, 257, 258, 49, 259, 65, 66, 67, 96, 387, 171, 172, 173, 439, 440, 441, 442, 178, 179, 180, 181, 182, 183, 184, 31, 185, 186, 187, 188, 189, 190, 191, 192, 193, 194, 195, 196, 197, 198, 199, 73, 74, 75, 76, 77, 78, 79, 80, 81, 200, 201, 202, 203, 118, 119, 120, 204, 205, 206, 207, 208, 209, 210, 211, 121, 212, 213, 214, 215, 216, 217, 443, 223, 224, 225, 226, 227, 228, 229, 444, 415, 416, 417, 445, 446, 447, 448, 449, 280, 281, 282, 283, 284, 285, 83, 84, 85, 785, 786, 787, 788, 789, 790, 791, 792, 816, 817, 818, 819, 820, 821, 822, 840, 839, 841, 842, 843, 844, 834, 835, 836, 837, 838] (by decide +kernel) (by decide +kernel)
set_option maxRecDepth 20000 in
theorem gL_law_X8_scrub : GoodIn wsL_law (wsV RL 49 RX8 yX8_scrub wsX8_scrub) := goodIn_app (goodIn_of _ (by decide +kernel)) ggL_law_X8_scrub
set_option maxRecDepth 20000 in
theorem ggL_law_X9_scrub : GoodIn wsL_law wsX9_scrub := goodIn_r _ [473, 126, 319, 320, 321, 5, 322, 323, 128, 324, 325, 326, 454, 455, 456, 457, 133, 132, 130, 307, 308, 309, 310, 131, 311, 312, 313, 314, 300, 301, 302, 143, 144, 145, 146, 315, 316, 317, 318, 139, 140, 141, 142, 147, 148, 149, 458, 459, 460, 461, 462, 463, 464, 465, 150, 151, 152, 153, 154, 155, 156, 157, 793, 794, 795, 796, 797, 798, 799, 800, 801, 802, 803, 804, 805, 806, 807, 808, 809, 810, 811, 812, 813, 814, 815] (by decide +kernel) (by decide +kernel)
set_option maxRecDepth 20000 in
theorem gL_law_X9_scrub : GoodIn wsL_law (wsV RL 53 RX9 yX9_scrub wsX9_scrub) := goodIn_app (goodIn_of _ (by decide +kernel)) ggL_law_X9_scrub
set_option maxRecDepth 20000 in
theorem ggL_law_X8_leaves : GoodIn wsL_law wsX8_leaves := goodIn_r _ [477, 162, 15, 32, 383, 384, 385, 2, 386, 387, 171, 172, 49, 173, 96, 163, 86, 87, 388, 179, 180, 14, 181, 50, 44, 182, 183, 184, 31, 185, 186, 187, 188, 189, 190, 66, 191, 192, 193, 194, 67, 195, 196, 197, 43, 198, 199, 73, 74, 75, 56, 76, 77, 78, 79, 80, 81, 200, 201, 202, 203, 118, 119, 120, 204, 205, 206, 207, 208, 209, 210, 211, 121, 212, 213, 214, 215, 216, 217, 478, 479, 480, 481, 389, 219, 220, 221, 222, 223, 224, 225, 226, 227, 228, 229, 482, 483, 484, 485, 444, 415, 416, 417, 445, 446, 447, 448, 449, 486, 487, 488, 489, 785, 786, 787, 788, 789, 790, 791, 792, 816, 817, 818, 819, 820, 841, 842, 843, 844, 834, 835, 836, 837, 838, 840] (by decide +kernel) (by decide +kernel)
set_option maxRecDepth 20000 in
theorem gL_law_X8_leaves : GoodIn wsL_law (wsV RL 54 RX8 yX8_leaves wsX8_leaves) := goodIn_app (goodIn_of _ (by decide +kernel)) ggL_law_X8_leaves
set_option maxRecDepth 20000 in
theorem ggL_law_X9_leaves : GoodIn wsL_law wsX9_leaves := goodIn_r _ [493, 294, 132, 395, 396, 397, 5, 398, 126, 300, 301, 302, 307, 308, 309, 310, 130, 131, 311, 312, 313, 314, 143, 144, 145, 146, 315, 316, 317, 318, 139, 140, 141, 142, 147, 148, 149, 494, 495, 496, 497, 458, 459, 460, 461, 793, 794, 795, 796, 797, 798, 799, 800, 801, 802, 803, 804, 805, 806, 807, 808, 809, 810, 811, 812, 813, 814, 815] (by decide +kernel) (by decide +kernel)
set_option maxRecDepth 20000 in
theorem gL_law_X9_leaves : GoodIn wsL_law (wsV RL 57 RX9 yX9_leaves wsX9_leaves) := goodIn_app (goodIn_of _ (by decide +kernel)) ggL_law_X9_leaves
set_option maxRecDepth 20000 in
theorem ggL_law_X8_free : GoodIn wsL_law wsX8_free := goodIn_r _ [501, 162, 382, 20, 15, 36, 383, 384, 385, 2, 386, 387, 171, 172, 49, 173, 96, 163, 86, 87, 230, 231, 232, 19, 233, 234, 106, 235, 236, 237, 238, 239, 240, 241, 14, 242, 44, 46, 50, 51, 243, 244, 245, 246, 43, 247, 56, 248, 249, 250, 251, 252, 253, 254, 35, 255, 61, 256, 257, 258, 259, 65, 66, 67, 502, 503, 504, 505, 97, 98, 99, 100, 506, 507, 508, 509, 510, 511, 512, 513, 170, 514, 515, 516, 517, 187, 188, 189, 190, 191, 192, 193, 194, 518, 519, 520, 521, 195, 196, 197, 198, 199, 73, 74, 75, 76, 77, 78, 79, 80, 81, 88, 89, 90, 91, 204, 205, 206, 207, 522, 523, 524, 525, 526, 527, 528, 529, 785, 786, 787, 788, 789, 790, 791, 792, 816, 817, 818, 819, 820, 841, 842, 843, 844, 821, 822, 840, 839] (by decide +kernel) (by decide +kernel)
set_option maxRecDepth 20000 in
theorem gL_law_X8_free : GoodIn wsL_law (wsV RL 58 RX8 yX8_free wsX8_free) := goodIn_app (goodIn_of _ (by decide +kernel)) ggL_law_X8_free
set_option maxRecDepth 20000 in
theorem ggL_law_X9_free : GoodIn wsL_law wsX9_free := goodIn_r _ [533, 296, 294, 395, 396, 397, 5, 398, 126, 300, 301, 302, 319, 320, 321, 322, 323, 128, 324, 325, 326, 534, 535, 536, 537, 538, 539, 540, 541, 138, 542, 543, 544, 545, 311, 312, 313, 314, 546, 547, 548, 549, 315, 316, 317, 318, 139, 140, 141, 142, 143, 144, 145, 146, 147, 148, 149, 550, 551, 552, 553, 554, 555, 556, 557, 793, 794, 795, 796, 797, 798, 799, 800, 801, 802, 803, 804, 805, 806, 807, 808, 809, 810, 811, 812, 813, 814, 815] (by decide +kernel) (by decide +kernel)
set_option maxRecDepth 20000 in
theorem gL_law_X9_free : GoodIn wsL_law (wsV RL 61 RX9 yX9_free wsX9_free) := goodIn_app (goodIn_of _ (by decide +kernel)) ggL_law_X9_free
set_option maxRecDepth 20000 in
theorem ggL_law_X8_back : GoodIn wsL_law wsX8_back := goodIn_r _ [561, 162, 20, 15, 36, 383, 384, 385, 2, 386, 387, 171, 172, 49, 173, 96, 163, 86, 87, 230, 231, 232, 19, 233, 234, 106, 235, 236, 237, 238, 239, 240, 241, 14, 242, 44, 46, 50, 51, 243, 244, 245, 246, 43, 247, 56, 248, 249, 250, 251, 252, 253, 254, 35, 255, 61, 256, 257, 258, 259, 65, 66, 67, 502, 503, 504, 505, 97, 98, 99, 100, 506, 507, 508, 509, 510, 511, 512, 513, 170, 514, 515, 516, 517, 187, 188, 189, 190, 191, 192, 193, 194, 518, 519, 520, 521, 195, 196, 197, 198, 199, 73, 74, 75, 76, 77, 78, 79, 80, 81, 88, 89, 90, 91, 204, 205, 206, 207, 522, 523, 524, 525, 526, 527, 528, 529, 785, 786, 787, 788, 789, 790, 791, 792, 816, 817, 818, 819, 820, 841, 842, 843, 844, 821, 822, 840, 839] (by decide +kernel) (by decide +kernel)
set_option maxRecDepth 20000 in
theorem gL_law_X8_back : GoodIn wsL_law (wsV RL 62 RX8 yX8_back wsX8_back) := goodIn_app (goodIn_of _ (by decide +kernel)) ggL_law_X8_back
set_option maxRecDepth 20000 in
theorem ggL_law_X9_back : GoodIn wsL_law wsX9_back := goodIn_r _ [565, 294, 395, 396, 397, 5, 398, 126, 300, 301, 302, 319, 320, 321, 322, 323, 128, 324, 325, 326, 534, 535, 536, 537, 538, 539, 540, 541, 138, 542, 543, 544, 545, 311, 312, 313, 314, 546, 547, 548, 549, 315, 316, 317, 318, 139, 140, 141, 142, 143, 144, 145, 146, 147, 148, 149, 550, 551, 552, 553, 554, 555, 556, 557, 793, 794, 795, 796, 797, 798, 799, 800, 801, 802, 803, 804, 805, 806, 807, 808, 809, 810, 811, 812, 813, 814, 815] (by decide +kernel) (by decide +kernel)
set_option maxRecDepth 20000 in
theorem gL_law_X9_back : GoodIn wsL_law (wsV RL 65 RX9 yX9_back wsX9_back) := goodIn_app (goodIn_of _ (by decide +kernel)) ggL_law_X9_back
set_option maxRecDepth 20000 in
theorem ggL_law_X8_rootOf : GoodIn wsL_law wsX8_rootOf := goodIn_r _ [569, 162, 15, 36, 37, 383, 384, 385, 2, 386, 387, 171, 172, 49, 173, 96, 163, 86, 87, 570, 571, 572, 573, 65, 574, 188, 189, 190, 66, 575, 192, 193, 194, 67, 576, 577, 578, 579, 580, 511, 512, 35, 513, 61, 581, 515, 516, 14, 517, 50, 44, 187, 191, 518, 519, 520, 521, 195, 196, 197, 43, 198, 199, 73, 74, 75, 56, 76, 77, 78, 79, 80, 81, 88, 89, 90, 91, 204, 205, 206, 207, 522, 523, 524, 525, 582, 175, 176, 177, 583, 527, 528, 529, 785, 786, 787, 788, 789, 790, 791, 792, 816, 817, 818, 819, 820, 841, 842, 843, 844, 839, 840] (by decide +kernel) (by decide +kernel)
set_option maxRecDepth 20000 in
theorem gL_law_X8_rootOf : GoodIn wsL_law (wsV RL 66 RX8 yX8_rootOf wsX8_rootOf) := goodIn_app (goodIn_of _ (by decide +kernel)) ggL_law_X8_rootOf
set_option maxRecDepth 20000 in
theorem ggL_law_X9_rootOf : GoodIn wsL_law wsX9_rootOf := goodIn_r _ [587, 294, 395, 396, 397, 5, 398, 126, 300, 301, 302, 311, 312, 313, 314, 588, 589, 590, 591, 138, 542, 543, 544, 545, 546, 547, 548, 549, 315, 316, 317, 318, 139, 140, 141, 142, 143, 144, 145, 146, 147, 148, 149, 550, 551, 552, 553, 554, 555, 556, 557, 793, 794, 795, 796, 797, 798, 799, 800, 801, 802, 803, 804, 805, 806, 807, 808, 809, 810, 811, 812, 813, 814, 815] (by decide +kernel) (by decide +kernel)
set_option maxRecDepth 20000 in
theorem gL_law_X9_rootOf : GoodIn wsL_law (wsV RL 69 RX9 yX9_rootOf wsX9_rootOf) := goodIn_app (goodIn_of _ (by decide +kernel)) ggL_law_X9_rootOf
set_option maxRecDepth 20000 in
theorem ggL_law_X8_unlike : GoodIn wsL_law wsX8_unlike := goodIn_r _ [595, 162, 15, 383, 384, 385, 2, 386, 387, 171, 172, 49, 173, 96, 163, 86, 87, 596, 597, 598, 14, 599, 50, 44, 169, 187, 188, 189, 190, 66, 191, 192, 193, 194, 67, 195, 196, 197, 43, 198, 199, 73, 74, 75, 56, 76, 77, 78, 79, 80, 81, 204, 205, 206, 207, 600, 601, 602, 603, 785, 786, 787, 788, 789, 790, 791, 792, 816, 817, 818, 819, 820, 841, 842, 843, 844, 840] (by decide +kernel) (by decide +kernel)
set_option maxRecDepth 20000 in
theorem gL_law_X8_unlike : GoodIn wsL_law (wsV RL 70 RX8 yX8_unlike wsX8_unlike) := goodIn_app (goodIn_of _ (by decide +kernel)) ggL_law_X8_unlike
set_option maxRecDepth 20000 in
theorem ggL_law_X9_unlike : GoodIn wsL_law wsX9_unlike := goodIn_r _ [607, 294, 296, 395, 396, 397, 5, 398, 126, 300, 301, 302, 311, 312, 313, 314, 315, 316, 317, 318, 139, 140, 141, 142, 143, 144, 145, 146, 147, 148, 149, 608, 609, 610, 611, 793, 794, 795, 796, 797, 798, 799, 800, 801, 802, 803, 804, 805, 806, 807, 808, 809, 810, 811, 812, 813, 814, 815] (by decide +kernel) (by decide +kernel)
set_option maxRecDepth 20000 in
theorem gL_law_X9_unlike : GoodIn wsL_law (wsV RL 73 RX9 yX9_unlike wsX9_unlike) := goodIn_app (goodIn_of _ (by decide +kernel)) ggL_law_X9_unlike
set_option maxRecDepth 20000 in
theorem ggL_law_X8_count : GoodIn wsL_law wsX8_count := goodIn_r _ [615, 15, 20, 24, 162, 387, 171, 172, 49, 173, 96, 582, 175, 176, 35, 177, 61, 616, 617, 618, 14, 619, 46, 44, 620, 621, 622, 623, 86, 2, 87, 445, 446, 447, 43, 448, 449, 205, 206, 207, 56, 76, 77, 78, 79, 624, 625, 626, 627, 403, 628, 269, 270, 271, 629, 630, 631, 19, 632, 234, 633, 634, 635, 23, 636, 637, 785, 786, 787, 788, 789, 790, 791, 792, 816, 817, 818, 819, 820, 841, 842, 843, 844, 839, 840, 821, 822, 823, 824, 825, 826, 827, 828, 829] (by decide +kernel) (by decide +kernel)
set_option maxRecDepth 20000 in
theorem gL_law_X8_count : GoodIn wsL_law (wsV RL 74 RX8 yX8_count wsX8_count) := goodIn_app (goodIn_of _ (by decide +kernel)) ggL_law_X8_count
set_option maxRecDepth 20000 in
theorem ggL_law_X9_count : GoodIn wsL_law wsX9_count := goodIn_r _ [641, 126, 323, 642, 294, 303, 304, 305, 5, 306, 643, 644, 645, 646, 458, 459, 460, 461, 143, 144, 145, 146, 335, 336, 337, 338, 339, 793, 794, 795, 796, 797, 798, 799, 800, 801, 802, 803, 804, 805, 806, 807, 808, 809, 810, 811, 812, 813, 814, 815] (by decide +kernel) (by decide +kernel)
set_option maxRecDepth 20000 in
theorem gL_law_X9_count : GoodIn wsL_law (wsV RL 77 RX9 yX9_count wsX9_count) := goodIn_app (goodIn_of _ (by decide +kernel)) ggL_law_X9_count
set_option maxRecDepth 20000 in
theorem ggL_law_X8_undo : GoodIn wsL_law wsX8_undo := goodIn_r _ [650, 20, 382, 15, 629, 630, 631, 19, 632, 234, 651, 652, 653, 654, 106, 239, 240, 241, 14, 242, 44, 46, 50, 51, 243, 244, 245, 246, 43, 247, 56, 248, 249, 250, 251, 252, 253, 254, 35, 255, 61, 256, 257, 258, 49, 259, 65, 66, 67, 96, 785, 786, 787, 788, 789, 790, 791, 792, 821, 822, 816, 817, 818, 819, 820, 840, 839, 841, 842, 843, 844] (by decide +kernel) (by decide +kernel)
set_option maxRecDepth 20000 in
theorem gL_law_X8_undo : GoodIn wsL_law (wsV RL 78 RX8 yX8_undo wsX8_undo) := goodIn_app (goodIn_of _ (by decide +kernel)) ggL_law_X8_undo
set_option maxRecDepth 20000 in
theorem ggL_law_X9_undo : GoodIn wsL_law wsX9_undo := goodIn_r _ [658, 323, 296, 128, 126, 324, 325, 5, 326, 793, 794, 795, 796, 797, 798, 799, 800, 801, 802, 803, 804, 805, 806, 807, 808, 809, 810, 811, 812, 813, 814, 815] (by decide +kernel) (by decide +kernel)
set_option maxRecDepth 20000 in
theorem gL_law_X9_undo : GoodIn wsL_law (wsV RL 81 RX9 yX9_undo wsX9_undo) := goodIn_app (goodIn_of _ (by decide +kernel)) ggL_law_X9_undo
set_option maxRecDepth 20000 in
theorem ggL_law_X8_type : GoodIn wsL_law wsX8_type := goodIn_r _ [662, 162, 24, 663, 633, 634, 635, 23, 636, 637, 664, 665, 666, 667, 111, 86, 2, 87, 785, 786, 787, 788, 789, 790, 791, 792, 823, 824, 825, 826, 827, 828, 829] (by decide +kernel) (by decide +kernel)
set_option maxRecDepth 20000 in
theorem gL_law_X8_type : GoodIn wsL_law (wsV RL 82 RX8 yX8_type wsX8_type) := goodIn_app (goodIn_of _ (by decide +kernel)) ggL_law_X8_type
set_option maxRecDepth 20000 in
theorem ggL_law_X9_type : GoodIn wsL_law wsX9_type := goodIn_r _ [671, 294, 642, 295, 129, 300, 301, 5, 302, 793, 794, 795, 796, 797, 798, 799, 800, 801, 802, 803, 804, 805, 806, 807, 808, 809, 810, 811, 812, 813, 814, 815] (by decide +kernel) (by decide +kernel)
set_option maxRecDepth 20000 in
theorem gL_law_X9_type : GoodIn wsL_law (wsV RL 85 RX9 yX9_type wsX9_type) := goodIn_app (goodIn_of _ (by decide +kernel)) ggL_law_X9_type
set_option maxRecDepth 20000 in
theorem ggL_law_X8_clearText : GoodIn wsL_law wsX8_clearText := goodIn_r _ [675, 24, 633, 634, 635, 23, 636, 637, 676, 677, 678, 679, 785, 786, 787, 788, 789, 790, 791, 792, 823, 824, 825, 826, 827, 828, 829] (by decide +kernel) (by decide +kernel)
set_option maxRecDepth 20000 in
theorem gL_law_X8_clearText : GoodIn wsL_law (wsV RL 86 RX8 yX8_clearText wsX8_clearText) := goodIn_app (goodIn_of _ (by decide +kernel)) ggL_law_X8_clearText
set_option maxRecDepth 20000 in
theorem ggL_law_X9_clearText : GoodIn wsL_law wsX9_clearText := goodIn_r _ [683, 642, 793, 794, 795, 796, 797, 798, 799, 800, 801, 802, 803, 804, 805, 806, 807, 808, 809, 810, 811, 812, 813, 814, 815] (by decide +kernel) (by decide +kernel)
set_option maxRecDepth 20000 in
theorem gL_law_X9_clearText : GoodIn wsL_law (wsV RL 89 RX9 yX9_clearText wsX9_clearText) := goodIn_app (goodIn_of _ (by decide +kernel)) ggL_law_X9_clearText
set_option maxRecDepth 20000 in
theorem ggL_law_X8_fault : GoodIn wsL_law wsX8_fault := goodIn_r _ [687, 162, 28, 403, 163, 86, 2, 87, 688, 689, 690, 691, 16, 15, 24, 32, 692, 240, 241, 14, 242, 44, 46, 50, 51, 243, 244, 245, 246, 43, 247, 56, 248, 249, 250, 251, 252, 253, 254, 35, 255, 61, 256, 257, 258, 49, 259, 65, 66, 67, 96, 693, 694, 695, 27, 696, 697, 698, 699, 700, 701, 702, 703, 23, 704, 705, 706, 707, 708, 709, 637, 710, 711, 712, 713, 714, 715, 716, 717, 718, 719, 720, 721, 722, 723, 724, 725, 726, 727, 728, 729, 111, 730, 731, 732, 733, 734, 735, 736, 737, 738, 739, 740, 164, 165, 166, 167, 168, 169, 170, 171, 172, 173, 174, 175, 176, 177, 178, 179, 180, 181, 182, 183, 184, 31, 185, 186, 187, 188, 189, 190, 191, 192, 193, 194, 195, 196, 197, 198, 199, 73, 74, 75, 76, 77, 78, 79, 80, 81, 200, 201, 202, 203, 118, 119, 120, 204, 205, 206, 207, 208, 209, 210, 211, 121, 212, 213, 214, 215, 216, 217, 218, 219, 220, 221, 222, 223, 224, 225, 226, 227, 228, 229, 260, 261, 262, 263, 264, 265, 266, 267, 268, 269, 270, 271, 88, 89, 90, 91, 272, 273, 274, 275, 276, 277, 278, 279, 280, 281, 282, 283, 284, 285, 83, 84, 85, 92, 93, 94, 95, 97, 98, 99, 100, 785, 786, 787, 788, 789, 790, 791, 792, 830, 831, 832, 833, 823, 824, 825, 826, 827, 828, 829, 816, 817, 818, 819, 820, 840, 839, 841, 842, 843, 844, 834, 835, 836, 837, 838] (by decide +kernel) (by decide +kernel)
set_option maxRecDepth 20000 in
theorem gL_law_X8_fault : GoodIn wsL_law (wsV RL 90 RX8 yX8_fault wsX8_fault) := goodIn_app (goodIn_of _ (by decide +kernel)) ggL_law_X8_fault
set_option maxRecDepth 20000 in
theorem ggL_law_X9_fault : GoodIn wsL_law wsX9_fault := goodIn_r _ [744, 294, 745, 339, 746, 747, 300, 301, 5, 302, 748, 749, 750, 751, 126, 127, 324, 325, 326, 752, 753, 754, 755, 756, 757, 642, 758, 759, 760, 761, 762, 763, 764, 765, 766, 767, 768, 129, 769, 770, 771, 772, 773, 774, 775, 776, 297, 298, 299, 290, 291, 292, 293, 295, 296, 303, 304, 305, 306, 307, 308, 309, 310, 130, 131, 132, 311, 312, 313, 314, 143, 144, 145, 146, 315, 316, 317, 318, 139, 140, 141, 142, 147, 148, 149, 327, 328, 329, 330, 136, 135, 134, 331, 332, 333, 334, 335, 336, 337, 338, 340, 341, 342, 343, 137, 344, 345, 346, 347, 150, 151, 152, 153, 154, 155, 156, 157, 348, 349, 350, 351, 352, 353, 354, 793, 794, 795, 796, 797, 798, 799, 800, 801, 802, 803, 804, 805, 806, 807, 808, 809, 810, 811, 812, 813, 814, 815] (by decide +kernel) (by decide +kernel)
set_option maxRecDepth 20000 in
theorem gL_law_X9_fault : GoodIn wsL_law (wsV RL 93 RX9 yX9_fault wsX9_fault) := goodIn_app (goodIn_of _ (by decide +kernel)) ggL_law_X9_fault
set_option maxRecDepth 20000 in
theorem ggL_law_X8_play : GoodIn wsL_law wsX8_play := goodIn_r _ [780, 28, 382, 20, 15, 16, 688, 689, 690, 2, 691, 24, 32, 692, 240, 241, 14, 242, 44, 46, 50, 51, 243, 244, 245, 246, 43, 247, 56, 248, 249, 250, 251, 252, 253, 254, 35, 255, 61, 256, 257, 258, 49, 259, 65, 66, 67, 96, 693, 694, 695, 27, 696, 697, 698, 699, 700, 701, 702, 703, 23, 704, 705, 706, 707, 708, 709, 637, 710, 711, 712, 713, 714, 715, 716, 717, 718, 719, 720, 721, 722, 723, 724, 725, 726, 727, 728, 729, 111, 86, 87, 730, 731, 732, 733, 734, 735, 736, 737, 738, 739, 740, 163, 164, 165, 166, 167, 168, 169, 170, 171, 172, 173, 174, 175, 176, 177, 178, 179, 180, 181, 182, 183, 184, 31, 185, 186, 187, 188, 189, 190, 191, 192, 193, 194, 195, 196, 197, 198, 199, 73, 74, 75, 76, 77, 78, 79, 80, 81, 200, 201, 202, 203, 118, 119, 120, 204, 205, 206, 207, 208, 209, 210, 211, 121, 212, 213, 214, 215, 216, 217, 218, 219, 220, 221, 222, 223, 224, 225, 226, 227, 228, 229, 260, 261, 262, 263, 264, 265, 266, 267, 268, 269, 270, 271, 88, 89, 90, 91, 272, 273, 274, 275, 276, 277, 278, 279, 280, 281, 282, 283, 284, 285, 83, 84, 85, 92, 93, 94, 95, 97, 98, 99, 100, 230, 231, 232, 19, 233, 234, 106, 235, 236, 237, 238, 239, 785, 786, 787, 788, 789, 790, 791, 792, 830, 831, 832, 833, 823, 824, 825, 826, 827, 828, 829, 816, 817, 818, 819, 820, 840, 839, 841, 842, 843, 844, 834, 835, 836, 837, 838, 821, 822] (by decide +kernel) (by decide +kernel)
set_option maxRecDepth 20000 in
theorem gL_law_X8_play : GoodIn wsL_law (wsV RL 94 RX8 yX8_play wsX8_play) := goodIn_app (goodIn_of _ (by decide +kernel)) ggL_law_X8_play
set_option maxRecDepth 20000 in
theorem ggL_law_X9_play : GoodIn wsL_law wsX9_play := goodIn_r _ [784, 745, 296, 757, 748, 749, 750, 5, 751, 126, 127, 324, 325, 326, 752, 753, 754, 755, 756, 642, 758, 759, 339, 760, 761, 762, 763, 764, 765, 766, 767, 768, 129, 300, 301, 302, 769, 770, 771, 772, 773, 774, 775, 776, 746, 747, 297, 298, 299, 290, 291, 292, 293, 294, 295, 303, 304, 305, 306, 307, 308, 309, 310, 130, 131, 132, 311, 312, 313, 314, 143, 144, 145, 146, 315, 316, 317, 318, 139, 140, 141, 142, 147, 148, 149, 327, 328, 329, 330, 136, 135, 134, 331, 332, 333, 334, 335, 336, 337, 338, 340, 341, 342, 343, 137, 344, 345, 346, 347, 150, 151, 152, 153, 154, 155, 156, 157, 348, 349, 350, 351, 352, 353, 354, 319, 320, 321, 322, 323, 128, 793, 794, 795, 796, 797, 798, 799, 800, 801, 802, 803, 804, 805, 806, 807, 808, 809, 810, 811, 812, 813, 814, 815] (by decide +kernel) (by decide +kernel)
set_option maxRecDepth 20000 in
theorem gL_law_X9_play : GoodIn wsL_law (wsV RL 97 RX9 yX9_play wsX9_play) := goodIn_app (goodIn_of _ (by decide +kernel)) ggL_law_X9_play
