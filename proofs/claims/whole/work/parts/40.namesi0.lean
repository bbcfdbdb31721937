theorem dJ9_max_7cf53_0 : decode cJ9_max_7cf53 0 = .ok (.iload_n 0, 1) := by decide +kernel
theorem dJ9_max_7cf53_1 : decode cJ9_max_7cf53 1 = .ok (.iload_n 1, 1) := by decide +kernel
theorem dJ9_max_7cf53_2 : decode cJ9_max_7cf53 2 = .ok (.if_icmp .lt 7, 3) := by decide +kernel
theorem dJ9_max_7cf53_5 : decode cJ9_max_7cf53 5 = .ok (.iload_n 0, 1) := by decide +kernel
theorem dJ9_max_7cf53_6 : decode cJ9_max_7cf53 6 = .ok (.goto 4, 3) := by decide +kernel
theorem dJ9_max_7cf53_9 : decode cJ9_max_7cf53 9 = .ok (.iload_n 1, 1) := by decide +kernel
theorem dJ9_max_7cf53_10 : decode cJ9_max_7cf53 10 = .ok (.ireturn, 1) := by decide +kernel
theorem dJ9_min_7cf53_0 : decode cJ9_min_7cf53 0 = .ok (.iload_n 0, 1) := by decide +kernel
theorem dJ9_min_7cf53_1 : decode cJ9_min_7cf53 1 = .ok (.iload_n 1, 1) := by decide +kernel
theorem dJ9_min_7cf53_2 : decode cJ9_min_7cf53 2 = .ok (.if_icmp .gt 7, 3) := by decide +kernel
theorem dJ9_min_7cf53_5 : decode cJ9_min_7cf53 5 = .ok (.iload_n 0, 1) := by decide +kernel
theorem dJ9_min_7cf53_6 : decode cJ9_min_7cf53 6 = .ok (.goto 4, 3) := by decide +kernel
theorem dJ9_min_7cf53_9 : decode cJ9_min_7cf53 9 = .ok (.iload_n 1, 1) := by decide +kernel
theorem dJ9_min_7cf53_10 : decode cJ9_min_7cf53 10 = .ok (.ireturn, 1) := by decide +kernel
set_option maxRecDepth 20000 in
theorem ggL_law_X8_init : GoodIn wsL_law wsX8_init := goodIn_r _ [8, 9, 10, 11, 12, 13, 14, 15, 16, 17, 18, 19, 20, 21, 22, 23, 24, 25, 26, 27, 28, 29, 30, 31, 32, 33, 34, 35, 36, 37, 38, 39, 40, 41, 42, 43, 44, 45, 46, 47, 48, 49, 50, 51, 52, 53, 54, 55, 56, 57, 58, 59, 60, 61, 62, 63, 64, 65, 66, 67, 68, 69, 70, 71, 72, 73, 74, 75, 76, 77, 78, 79, 80, 81, 82, 83, 84, 85, 86, 87, 88, 89, 90, 91, 92, 93, 94, 95, 96, 97, 98, 99, 100, 101, 102, 103, 104, 105, 106, 107, 108, 109, 110, 111, 112, 113, 114, 115, 116, 117, 118, 119, 821, 822, 823, 824, 825, 826, 803, 804, 805, 806, 807, 827, 828, 829, 830, 831, 832, 833, 834, 835, 836, 837, 838, 839, 840, 841, 842, 843, 844, 845, 846, 847, 848, 849, 850, 851, 852, 853] (by decide +kernel) (by decide +kernel)
set_option maxRecDepth 20000 in
theorem gL_law_X8_init : GoodIn wsL_law (wsX8_init) := ggL_law_X8_init
set_option maxRecDepth 20000 in
theorem ggL_law_X9_init : GoodIn wsL_law wsX9_init := goodIn_r _ [122, 123, 10, 11, 66, 124, 125, 126, 127, 128, 129, 808, 809, 810, 811, 812, 813, 814, 815, 816, 817, 818, 819, 820] (by decide +kernel) (by decide +kernel)
set_option maxRecDepth 20000 in
theorem gL_law_X9_init : GoodIn wsL_law (wsX9_init) := ggL_law_X9_init
set_option maxRecDepth 20000 in
theorem ggL_law_X8_columns : GoodIn wsL_law wsX8_columns := goodIn_r _ [133, 19, 15, 134, 135, 2, 136, 137, 138, 139, 18, 140, 88, 87, 86, 85, 89, 141, 142, 64, 143, 144, 145, 146, 14, 147, 38, 39, 43, 44, 45, 46, 148, 149, 150, 37, 151, 51, 55, 56, 57, 152, 153, 154, 42, 155, 67, 156, 157, 158, 159, 160, 161, 162, 54, 163, 76, 77, 78, 164, 165, 166, 167, 168, 169, 170, 171, 172, 173, 174, 175, 176, 177, 178, 69, 70, 71, 803, 804, 805, 806, 807, 827, 828, 829, 830, 831, 821, 822, 823, 824, 825, 826, 846, 847, 848, 849, 850, 851, 852, 853] (by decide +kernel) (by decide +kernel)
set_option maxRecDepth 20000 in
theorem gL_law_X8_columns : GoodIn wsL_law (wsV RL 13 RX8 yX8_columns wsX8_columns) := goodIn_app (goodIn_of _ (by decide +kernel)) ggL_law_X8_columns
set_option maxRecDepth 20000 in
theorem ggL_law_X9_columns : GoodIn wsL_law wsX9_columns := goodIn_r _ [182, 124, 183, 184, 5, 185, 186, 187, 188, 189, 190, 191, 192, 193, 125, 194, 195, 196, 197, 808, 809, 810, 811, 812, 813, 814, 815, 816, 817, 818, 819, 820] (by decide +kernel) (by decide +kernel)
set_option maxRecDepth 20000 in
theorem gL_law_X9_columns : GoodIn wsL_law (wsV RL 17 RX9 yX9_columns wsX9_columns) := goodIn_app (goodIn_of _ (by decide +kernel)) ggL_law_X9_columns
set_option maxRecDepth 20000 in
theorem ggL_law_X8_card : GoodIn wsL_law wsX8_card := goodIn_r _ [201, 15, 19, 134, 135, 2, 136, 202, 203, 204, 166, 167, 168, 14, 169, 38, 39, 205, 206, 207, 37, 208, 57, 137, 138, 139, 18, 140, 88, 87, 86, 85, 89, 141, 142, 64, 143, 144, 145, 146, 147, 43, 44, 45, 46, 148, 149, 150, 151, 51, 55, 56, 152, 153, 154, 42, 155, 67, 156, 157, 158, 159, 160, 161, 162, 54, 163, 76, 77, 78, 164, 165, 209, 210, 211, 212, 213, 214, 215, 216, 803, 804, 805, 806, 807, 821, 822, 823, 824, 825, 826, 846, 847, 848, 849, 827, 828, 829, 830, 831, 850, 851, 852, 853] (by decide +kernel) (by decide +kernel)
set_option maxRecDepth 20000 in
theorem gL_law_X8_card : GoodIn wsL_law (wsV RL 18 RX8 yX8_card wsX8_card) := goodIn_app (goodIn_of _ (by decide +kernel)) ggL_law_X8_card
set_option maxRecDepth 20000 in
theorem ggL_law_X9_card : GoodIn wsL_law wsX9_card := goodIn_r _ [220, 124, 183, 184, 5, 185, 186, 187, 188, 189, 190, 191, 192, 193, 125, 221, 222, 223, 808, 809, 810, 811, 812, 813, 814, 815, 816, 817, 818, 819, 820] (by decide +kernel) (by decide +kernel)
set_option maxRecDepth 20000 in
theorem gL_law_X9_card : GoodIn wsL_law (wsV RL 22 RX9 yX9_card wsX9_card) := goodIn_app (goodIn_of _ (by decide +kernel)) ggL_law_X9_card
set_option maxRecDepth 20000 in
theorem ggL_law_X8_put : GoodIn wsL_law wsX8_put := goodIn_r _ [227, 19, 15, 228, 229, 230, 2, 231, 232, 233, 234, 235, 134, 135, 136, 166, 167, 168, 14, 169, 38, 39, 236, 237, 238, 37, 239, 56, 240, 241, 242, 243, 57, 202, 203, 204, 137, 138, 139, 18, 140, 88, 87, 86, 85, 89, 141, 142, 64, 143, 144, 145, 146, 147, 43, 44, 45, 46, 148, 149, 150, 151, 51, 55, 152, 153, 154, 42, 155, 67, 156, 157, 158, 159, 160, 161, 162, 54, 163, 76, 77, 78, 164, 165, 244, 245, 246, 247, 248, 249, 250, 251, 252, 253, 254, 213, 214, 215, 216, 803, 804, 805, 806, 807, 821, 822, 823, 824, 825, 826, 846, 847, 848, 849, 827, 828, 829, 830, 831, 850, 851, 852, 853] (by decide +kernel) (by decide +kernel)
set_option maxRecDepth 20000 in
theorem gL_law_X8_put : GoodIn wsL_law (wsV RL 23 RX8 yX8_put wsX8_put) := goodIn_app (goodIn_of _ (by decide +kernel)) ggL_law_X8_put
set_option maxRecDepth 20000 in
theorem ggL_law_X9_put : GoodIn wsL_law wsX9_put := goodIn_r _ [258, 124, 183, 184, 5, 185, 186, 187, 188, 259, 260, 261, 262, 263, 264, 265, 266, 189, 190, 191, 192, 193, 125, 221, 222, 223, 808, 809, 810, 811, 812, 813, 814, 815, 816, 817, 818, 819, 820] (by decide +kernel) (by decide +kernel)
set_option maxRecDepth 20000 in
theorem gL_law_X9_put : GoodIn wsL_law (wsV RL 27 RX9 yX9_put wsX9_put) := goodIn_app (goodIn_of _ (by decide +kernel)) ggL_law_X9_put
set_option maxRecDepth 20000 in
theorem ggL_law_X8_drop : GoodIn wsL_law wsX8_drop := goodIn_r _ [270, 15, 19, 134, 135, 2, 136, 166, 167, 168, 14, 169, 38, 39, 240, 241, 242, 37, 243, 57, 137, 138, 139, 18, 140, 88, 87, 86, 85, 89, 141, 142, 64, 143, 144, 145, 146, 147, 43, 44, 45, 46, 148, 149, 150, 151, 51, 55, 56, 152, 153, 154, 42, 155, 67, 156, 157, 158, 159, 160, 161, 162, 54, 163, 76, 77, 78, 164, 165, 271, 272, 273, 274, 254, 213, 214, 215, 216, 803, 804, 805, 806, 807, 821, 822, 823, 824, 825, 826, 846, 847, 848, 849, 827, 828, 829, 830, 831, 850, 851, 852, 853] (by decide +kernel) (by decide +kernel)
set_option maxRecDepth 20000 in
theorem gL_law_X8_drop : GoodIn wsL_law (wsV RL 28 RX8 yX8_drop wsX8_drop) := goodIn_app (goodIn_of _ (by decide +kernel)) ggL_law_X8_drop
set_option maxRecDepth 20000 in
theorem ggL_law_X9_drop : GoodIn wsL_law wsX9_drop := goodIn_r _ [278, 124, 183, 184, 5, 185, 186, 187, 188, 259, 260, 261, 262, 189, 190, 191, 192, 193, 125, 221, 222, 223, 808, 809, 810, 811, 812, 813, 814, 815, 816, 817, 818, 819, 820] (by decide +kernel) (by decide +kernel)
set_option maxRecDepth 20000 in
theorem gL_law_X9_drop : GoodIn wsL_law (wsV RL 31 RX9 yX9_drop wsX9_drop) := goodIn_app (goodIn_of _ (by decide +kernel)) ggL_law_X9_drop
set_option maxRecDepth 20000 in
theorem ggL_law_X8_valueOf : GoodIn wsL_law wsX8_valueOf := goodIn_r _ [282, 15, 228, 229, 230, 2, 231, 232, 233, 234, 235, 134, 135, 136, 166, 167, 168, 14, 169, 38, 39, 236, 237, 238, 37, 239, 56, 240, 241, 242, 243, 57, 283, 249, 250, 251, 51, 252, 253, 254, 157, 158, 42, 159, 67, 803, 804, 805, 806, 807, 821, 822, 823, 824, 825, 826, 846, 847, 848, 849, 850] (by decide +kernel) (by decide +kernel)
set_option maxRecDepth 20000 in
theorem gL_law_X8_valueOf : GoodIn wsL_law (wsV RL 32 RX8 yX8_valueOf wsX8_valueOf) := goodIn_app (goodIn_of _ (by decide +kernel)) ggL_law_X8_valueOf
set_option maxRecDepth 20000 in
theorem ggL_law_X9_valueOf : GoodIn wsL_law wsX9_valueOf := goodIn_r _ [287, 124, 183, 184, 5, 185, 186, 187, 188, 259, 260, 261, 262, 263, 264, 265, 266, 221, 222, 223, 808, 809, 810, 811, 812, 813, 814, 815, 816, 817, 818, 819, 820] (by decide +kernel) (by decide +kernel)
set_option maxRecDepth 20000 in
theorem gL_law_X9_valueOf : GoodIn wsL_law (wsV RL 36 RX9 yX9_valueOf wsX9_valueOf) := goodIn_app (goodIn_of _ (by decide +kernel)) ggL_law_X9_valueOf
set_option maxRecDepth 20000 in
theorem ggL_law_X8_cell : GoodIn wsL_law wsX8_cell := goodIn_r _ [291, 19, 15, 232, 233, 234, 2, 235, 134, 135, 136, 166, 167, 168, 14, 169, 38, 39, 236, 237, 238, 37, 239, 56, 292, 293, 294, 295, 296, 297, 137, 138, 139, 18, 140, 88, 87, 86, 85, 89, 141, 142, 64, 143, 144, 145, 146, 147, 43, 44, 45, 46, 148, 149, 150, 151, 51, 55, 57, 152, 153, 154, 42, 155, 67, 156, 157, 158, 159, 160, 161, 162, 54, 163, 76, 77, 78, 164, 165, 298, 299, 300, 301, 302, 303, 304, 305, 306, 307, 308, 309, 310, 311, 214, 215, 216, 803, 804, 805, 806, 807, 821, 822, 823, 824, 825, 826, 846, 847, 848, 849, 827, 828, 829, 830, 831, 850, 851, 852, 853] (by decide +kernel) (by decide +kernel)
set_option maxRecDepth 20000 in
theorem gL_law_X8_cell : GoodIn wsL_law (wsV RL 37 RX8 yX8_cell wsX8_cell) := goodIn_app (goodIn_of _ (by decide +kernel)) ggL_law_X8_cell
set_option maxRecDepth 20000 in
theorem ggL_law_X9_cell : GoodIn wsL_law wsX9_cell := goodIn_r _ [315, 183, 184, 5, 185, 186, 187, 188, 263, 264, 265, 266, 124, 316, 317, 318, 189, 190, 191, 192, 193, 125, 319, 320, 321, 322, 194, 195, 196, 197, 808, 809, 810, 811, 812, 813, 814, 815, 816, 817, 818, 819, 820] (by decide +kernel) (by decide +kernel)
set_option maxRecDepth 20000 in
theorem gL_law_X9_cell : GoodIn wsL_law (wsV RL 40 RX9 yX9_cell wsX9_cell) := goodIn_app (goodIn_of _ (by decide +kernel)) ggL_law_X9_cell
set_option maxRecDepth 20000 in
theorem ggL_law_X8_clear : GoodIn wsL_law wsX8_clear := goodIn_r _ [326, 19, 15, 134, 135, 2, 136, 137, 138, 139, 18, 140, 88, 87, 86, 85, 89, 141, 142, 64, 143, 144, 145, 146, 14, 147, 38, 39, 43, 44, 45, 46, 148, 149, 150, 37, 151, 51, 55, 56, 57, 152, 153, 154, 42, 155, 67, 156, 157, 158, 159, 160, 161, 162, 54, 163, 76, 77, 78, 164, 165, 166, 167, 168, 169, 298, 299, 300, 301, 327, 328, 329, 330, 306, 331, 175, 176, 177, 178, 69, 70, 71, 803, 804, 805, 806, 807, 827, 828, 829, 830, 831, 821, 822, 823, 824, 825, 826, 846, 847, 848, 849, 850, 851, 852, 853] (by decide +kernel) (by decide +kernel)
set_option maxRecDepth 20000 in
theorem gL_law_X8_clear : GoodIn wsL_law (wsV RL 41 RX8 yX8_clear wsX8_clear) := goodIn_app (goodIn_of _ (by decide +kernel)) ggL_law_X8_clear
set_option maxRecDepth 20000 in
theorem ggL_law_X9_clear : GoodIn wsL_law wsX9_clear := goodIn_r _ [335, 183, 184, 5, 185, 186, 187, 188, 189, 190, 191, 192, 193, 125, 124, 336, 337, 338, 339, 319, 320, 321, 322, 194, 195, 196, 197, 808, 809, 810, 811, 812, 813, 814, 815, 816, 817, 818, 819, 820] (by decide +kernel) (by decide +kernel)
set_option maxRecDepth 20000 in
theorem gL_law_X9_clear : GoodIn wsL_law (wsV RL 45 RX9 yX9_clear wsX9_clear) := goodIn_app (goodIn_of _ (by decide +kernel)) ggL_law_X9_clear
set_option maxRecDepth 20000 in
theorem ggL_law_X8_both : GoodIn wsL_law wsX8_both := goodIn_r _ [343, 19, 15, 134, 135, 2, 136, 137, 138, 139, 18, 140, 88, 87, 86, 85, 89, 141, 142, 64, 143, 144, 145, 146, 14, 147, 38, 39, 43, 44, 45, 46, 148, 149, 150, 37, 151, 51, 55, 56, 57, 152, 153, 154, 42, 155, 67, 156, 157, 158, 159, 160, 161, 162, 54, 163, 76, 77, 78, 164, 165, 344, 345, 346, 347, 803, 804, 805, 806, 807, 827, 828, 829, 830, 831, 821, 822, 823, 824, 825, 826, 846, 847, 848, 849, 850, 851, 852, 853] (by decide +kernel) (by decide +kernel)
set_option maxRecDepth 20000 in
theorem gL_law_X8_both : GoodIn wsL_law (wsV RL 46 RX8 yX8_both wsX8_both) := goodIn_app (goodIn_of _ (by decide +kernel)) ggL_law_X8_both
set_option maxRecDepth 20000 in
theorem ggL_law_X9_both : GoodIn wsL_law wsX9_both := goodIn_r _ [351, 124, 186, 187, 5, 188, 189, 190, 191, 192, 193, 125, 808, 809, 810, 811, 812, 813, 814, 815, 816, 817, 818, 819, 820] (by decide +kernel) (by decide +kernel)
set_option maxRecDepth 20000 in
theorem gL_law_X9_both : GoodIn wsL_law (wsV RL 49 RX9 yX9_both wsX9_both) := goodIn_app (goodIn_of _ (by decide +kernel)) ggL_law_X9_both
set_option maxRecDepth 20000 in
theorem ggL_law_X8_order : GoodIn wsL_law wsX8_order := goodIn_r _ [355, 19, 15, 23, 134, 135, 2, 136, 137, 138, 139, 18, 140, 88, 87, 86, 85, 89, 141, 142, 64, 143, 144, 145, 146, 14, 147, 38, 39, 43, 44, 45, 46, 148, 149, 150, 37, 151, 51, 55, 56, 57, 152, 153, 154, 42, 155, 67, 156, 157, 158, 159, 160, 161, 162, 54, 163, 76, 77, 78, 164, 165, 356, 357, 358, 359, 360, 214, 215, 216, 361, 362, 363, 22, 364, 98, 100, 95, 365, 366, 367, 368, 99, 97, 369, 69, 70, 71, 370, 371, 372, 373, 374, 299, 300, 301, 375, 376, 377, 378, 379, 237, 238, 239, 380, 381, 382, 383, 384, 303, 304, 305, 306, 385, 386, 387, 388, 389, 390, 167, 168, 169, 391, 206, 207, 208, 392, 393, 394, 395, 396, 397, 398, 399, 400, 401, 402, 403, 404, 405, 249, 250, 251, 252, 241, 242, 243, 253, 254, 406, 407, 408, 409, 410, 803, 804, 805, 806, 807, 827, 828, 829, 830, 831, 821, 822, 823, 824, 825, 826, 846, 847, 848, 849, 850, 851, 852, 853, 832, 833, 834, 835, 836, 837] (by decide +kernel) (by decide +kernel)
set_option maxRecDepth 20000 in
theorem gL_law_X8_order : GoodIn wsL_law (wsV RL 50 RX8 yX8_order wsX8_order) := goodIn_app (goodIn_of _ (by decide +kernel)) ggL_law_X8_order
set_option maxRecDepth 20000 in
theorem ggL_law_X9_order : GoodIn wsL_law wsX9_order := goodIn_r _ [414, 124, 415, 186, 187, 5, 188, 189, 190, 191, 192, 193, 125, 416, 417, 418, 419, 420, 421, 422, 423, 424, 425, 426, 427, 263, 264, 265, 266, 428, 429, 430, 431, 319, 320, 321, 322, 432, 433, 434, 435, 221, 222, 223, 436, 437, 438, 439, 440, 441, 442, 443, 444, 445, 446, 127, 128, 447, 448, 449, 450, 808, 809, 810, 811, 812, 813, 814, 815, 816, 817, 818, 819, 820] (by decide +kernel) (by decide +kernel)
set_option maxRecDepth 20000 in
theorem gL_law_X9_order : GoodIn wsL_law (wsV RL 53 RX9 yX9_order wsX9_order) := goodIn_app (goodIn_of _ (by decide +kernel)) ggL_law_X9_order
set_option maxRecDepth 20000 in
theorem ggL_law_X8_show : GoodIn wsL_law wsX8_show := goodIn_r _ [454, 19, 15, 23, 137, 138, 139, 18, 140, 88, 87, 86, 85, 89, 141, 142, 64, 143, 144, 145, 146, 14, 147, 38, 39, 43, 44, 45, 46, 148, 149, 150, 37, 151, 51, 55, 56, 57, 152, 153, 154, 42, 155, 67, 156, 157, 158, 159, 160, 161, 162, 54, 163, 76, 77, 78, 164, 165, 455, 456, 457, 458, 459, 460, 461, 22, 462, 96, 98, 95, 463, 362, 363, 364, 100, 365, 366, 367, 368, 99, 97, 369, 69, 70, 71, 370, 371, 372, 373, 374, 299, 300, 301, 375, 376, 377, 378, 379, 237, 238, 239, 380, 381, 382, 383, 384, 303, 304, 305, 306, 385, 386, 387, 388, 389, 214, 215, 216, 390, 167, 168, 169, 391, 206, 207, 208, 392, 393, 394, 395, 396, 397, 398, 399, 400, 401, 402, 403, 404, 405, 249, 250, 251, 252, 241, 242, 243, 253, 254, 406, 407, 408, 409, 410, 464, 465, 466, 467, 468, 469, 470, 471, 472, 473, 474, 475, 476, 477, 478, 479, 480, 481, 803, 804, 805, 806, 807, 827, 828, 829, 830, 831, 821, 822, 823, 824, 825, 826, 846, 847, 848, 849, 850, 851, 852, 853, 832, 833, 834, 835, 836, 837] (by decide +kernel) (by decide +kernel)
set_option maxRecDepth 20000 in
theorem gL_law_X8_show : GoodIn wsL_law (wsV RL 54 RX8 yX8_show wsX8_show) := goodIn_app (goodIn_of _ (by decide +kernel)) ggL_law_X8_show
set_option maxRecDepth 20000 in
theorem ggL_law_X9_show : GoodIn wsL_law wsX9_show := goodIn_r _ [485, 124, 186, 187, 5, 188, 189, 190, 191, 192, 193, 125, 486, 487, 488, 489, 415, 416, 417, 418, 419, 420, 421, 422, 423, 424, 425, 426, 427, 263, 264, 265, 266, 428, 429, 430, 431, 319, 320, 321, 322, 432, 433, 434, 435, 221, 222, 223, 436, 437, 438, 439, 440, 441, 442, 443, 444, 445, 446, 127, 128, 447, 448, 449, 450, 490, 491, 492, 493, 808, 809, 810, 811, 812, 813, 814, 815, 816, 817, 818, 819, 820] (by decide +kernel) (by decide +kernel)
set_option maxRecDepth 20000 in
theorem gL_law_X9_show : GoodIn wsL_law (wsV RL 57 RX9 yX9_show wsX9_show) := goodIn_app (goodIn_of _ (by decide +kernel)) ggL_law_X9_show
set_option maxRecDepth 20000 in
theorem ggL_law_X8_cellOf : GoodIn wsL_law wsX8_cellOf := goodIn_r _ [497, 15, 232, 233, 234, 2, 235, 134, 135, 136, 166, 167, 168, 14, 169, 38, 39, 236, 237, 238, 37, 239, 56, 298, 299, 300, 301, 55, 302, 303, 304, 54, 305, 76, 306, 157, 158, 42, 159, 67, 498, 386, 387, 388, 77, 499, 500, 501, 502, 78, 503, 504, 505, 506, 57, 248, 249, 250, 251, 51, 252, 241, 242, 243, 253, 254, 507, 407, 408, 409, 803, 804, 805, 806, 807, 821, 822, 823, 824, 825, 826, 846, 847, 848, 849, 851, 852, 853, 850] (by decide +kernel) (by decide +kernel)
set_option maxRecDepth 20000 in
theorem gL_law_X8_cellOf : GoodIn wsL_law (wsV RL 58 RX8 yX8_cellOf wsX8_cellOf) := goodIn_app (goodIn_of _ (by decide +kernel)) ggL_law_X8_cellOf
set_option maxRecDepth 20000 in
theorem ggL_law_X9_cellOf : GoodIn wsL_law wsX9_cellOf := goodIn_r _ [511, 124, 183, 184, 5, 185, 186, 187, 188, 263, 264, 265, 266, 319, 320, 321, 322, 221, 222, 223, 436, 437, 438, 808, 809, 810, 811, 812, 813, 814, 815, 816, 817, 818, 819, 820] (by decide +kernel) (by decide +kernel)
set_option maxRecDepth 20000 in
theorem gL_law_X9_cellOf : GoodIn wsL_law (wsV RL 61 RX9 yX9_cellOf wsX9_cellOf) := goodIn_app (goodIn_of _ (by decide +kernel)) ggL_law_X9_cellOf
set_option maxRecDepth 20000 in
theorem ggL_law_X8_many : GoodIn wsL_law wsX8_many := goodIn_r _ [515, 23, 361, 362, 363, 22, 364, 98, 100, 95, 365, 366, 367, 368, 99, 97, 369, 69, 70, 42, 71, 67, 370, 371, 372, 14, 373, 38, 39, 374, 299, 300, 37, 301, 55, 375, 376, 377, 378, 379, 237, 238, 239, 56, 380, 381, 382, 383, 45, 384, 303, 304, 54, 305, 76, 306, 157, 158, 159, 385, 386, 387, 388, 77, 389, 214, 215, 216, 390, 167, 168, 169, 391, 206, 207, 208, 57, 392, 393, 394, 395, 396, 397, 398, 399, 400, 401, 402, 403, 404, 405, 249, 250, 251, 51, 252, 241, 242, 243, 253, 254, 406, 407, 408, 409, 78, 410, 803, 804, 805, 806, 807, 832, 833, 834, 835, 836, 837, 850, 821, 822, 823, 824, 825, 826, 846, 847, 848, 849, 851, 852, 853] (by decide +kernel) (by decide +kernel)
set_option maxRecDepth 20000 in
theorem gL_law_X8_many : GoodIn wsL_law (wsV RL 62 RX8 yX8_many wsX8_many) := goodIn_app (goodIn_of _ (by decide +kernel)) ggL_law_X8_many
set_option maxRecDepth 20000 in
theorem ggL_law_X9_many : GoodIn wsL_law wsX9_many := goodIn_r _ [519, 415, 416, 417, 418, 5, 419, 124, 420, 421, 422, 423, 424, 425, 426, 427, 263, 264, 265, 266, 428, 429, 430, 431, 319, 320, 321, 322, 432, 433, 434, 435, 221, 222, 223, 436, 437, 438, 186, 187, 188, 439, 440, 441, 442, 443, 444, 445, 446, 127, 128, 447, 448, 449, 450, 808, 809, 810, 811, 812, 813, 814, 815, 816, 817, 818, 819, 820] (by decide +kernel) (by decide +kernel)
set_option maxRecDepth 20000 in
theorem gL_law_X9_many : GoodIn wsL_law (wsV RL 66 RX9 yX9_many wsX9_many) := goodIn_app (goodIn_of _ (by decide +kernel)) ggL_law_X9_many
set_option maxRecDepth 20000 in
theorem ggL_law_X8_row : GoodIn wsL_law wsX8_row := goodIn_r _ [523, 23, 15, 524, 525, 2, 526, 134, 135, 136, 361, 362, 363, 22, 364, 98, 100, 95, 365, 366, 367, 368, 99, 97, 369, 69, 70, 42, 71, 67, 370, 371, 372, 14, 373, 38, 39, 374, 299, 300, 37, 301, 55, 375, 376, 377, 378, 379, 237, 238, 239, 56, 380, 381, 382, 383, 45, 384, 303, 304, 54, 305, 76, 306, 157, 158, 159, 385, 386, 387, 388, 77, 389, 214, 215, 216, 390, 167, 168, 169, 391, 206, 207, 208, 57, 392, 393, 394, 395, 396, 397, 398, 399, 400, 401, 402, 403, 404, 405, 249, 250, 251, 51, 252, 241, 242, 243, 253, 254, 406, 407, 408, 409, 78, 410, 527, 528, 529, 530, 531, 532, 533, 534, 535, 536, 537, 538, 539, 540, 541, 542, 43, 543, 544, 545, 546, 547, 44, 548, 549, 550, 551, 552, 553, 554, 803, 804, 805, 806, 807, 832, 833, 834, 835, 836, 837, 850, 821, 822, 823, 824, 825, 826, 846, 847, 848, 849, 851, 852, 853] (by decide +kernel) (by decide +kernel)
set_option maxRecDepth 20000 in
theorem gL_law_X8_row : GoodIn wsL_law (wsV RL 67 RX8 yX8_row wsX8_row) := goodIn_app (goodIn_of _ (by decide +kernel)) ggL_law_X8_row
set_option maxRecDepth 20000 in
theorem ggL_law_X9_row : GoodIn wsL_law wsX9_row := goodIn_r _ [558, 415, 124, 127, 128, 186, 187, 5, 188, 416, 417, 418, 419, 420, 421, 422, 423, 424, 425, 426, 427, 263, 264, 265, 266, 428, 429, 430, 431, 319, 320, 321, 322, 432, 433, 434, 435, 221, 222, 223, 436, 437, 438, 439, 440, 441, 442, 443, 444, 445, 446, 447, 448, 449, 450, 808, 809, 810, 811, 812, 813, 814, 815, 816, 817, 818, 819, 820] (by decide +kernel) (by decide +kernel)
set_option maxRecDepth 20000 in
theorem gL_law_X9_row : GoodIn wsL_law (wsV RL 70 RX9 yX9_row wsX9_row) := goodIn_app (goodIn_of _ (by decide +kernel)) ggL_law_X9_row
set_option maxRecDepth 20000 in
theorem ggL_law_X8_total : GoodIn wsL_law wsX8_total := goodIn_r _ [562, 15, 23, 553, 376, 377, 14, 378, 38, 39, 379, 237, 238, 37, 239, 56, 380, 381, 382, 383, 45, 563, 564, 565, 22, 566, 96, 98, 100, 95, 567, 142, 64, 143, 568, 63, 65, 463, 362, 363, 364, 365, 366, 367, 368, 99, 97, 369, 69, 70, 42, 71, 67, 370, 371, 372, 373, 374, 299, 300, 301, 55, 375, 384, 303, 304, 54, 305, 76, 306, 157, 158, 159, 385, 386, 387, 388, 77, 389, 214, 215, 216, 390, 167, 168, 169, 391, 206, 207, 208, 57, 392, 393, 394, 395, 396, 397, 398, 399, 400, 401, 402, 403, 404, 405, 249, 250, 251, 51, 252, 241, 242, 243, 253, 254, 406, 407, 408, 409, 78, 410, 478, 479, 480, 481, 803, 804, 805, 806, 807, 821, 822, 823, 824, 825, 826, 846, 847, 848, 849, 832, 833, 834, 835, 836, 837, 850, 851, 852, 853] (by decide +kernel) (by decide +kernel)
set_option maxRecDepth 20000 in
theorem gL_law_X8_total : GoodIn wsL_law (wsV RL 71 RX8 yX8_total wsX8_total) := goodIn_app (goodIn_of _ (by decide +kernel)) ggL_law_X8_total
set_option maxRecDepth 20000 in
theorem ggL_law_X9_total : GoodIn wsL_law wsX9_total := goodIn_r _ [572, 415, 127, 128, 186, 187, 5, 188, 424, 425, 426, 427, 124, 263, 264, 265, 266, 416, 417, 418, 419, 420, 421, 422, 423, 428, 429, 430, 431, 319, 320, 321, 322, 432, 433, 434, 435, 221, 222, 223, 436, 437, 438, 439, 440, 441, 442, 443, 444, 445, 446, 447, 448, 449, 450, 573, 574, 575, 576, 808, 809, 810, 811, 812, 813, 814, 815, 816, 817, 818, 819, 820] (by decide +kernel) (by decide +kernel)
set_option maxRecDepth 20000 in
theorem gL_law_X9_total : GoodIn wsL_law (wsV RL 74 RX9 yX9_total wsX9_total) := goodIn_app (goodIn_of _ (by decide +kernel)) ggL_law_X9_total
set_option maxRecDepth 20000 in
theorem ggL_law_X8_unlike : GoodIn wsL_law wsX8_unlike := goodIn_r _ [580, 23, 459, 460, 461, 22, 462, 96, 98, 95, 463, 362, 363, 364, 100, 365, 366, 367, 368, 99, 97, 369, 69, 70, 42, 71, 67, 370, 371, 372, 14, 373, 38, 39, 374, 299, 300, 37, 301, 55, 375, 376, 377, 378, 379, 237, 238, 239, 56, 380, 381, 382, 383, 45, 384, 303, 304, 54, 305, 76, 306, 157, 158, 159, 385, 386, 387, 388, 77, 389, 214, 215, 216, 390, 167, 168, 169, 391, 206, 207, 208, 57, 392, 393, 394, 395, 396, 397, 398, 399, 400, 401, 402, 403, 404, 405, 249, 250, 251, 51, 252, 241, 242, 243, 253, 254, 406, 407, 408, 409, 78, 410, 464, 465, 466, 467, 468, 469, 470, 471, 472, 473, 474, 475, 476, 46, 477, 478, 479, 480, 481, 803, 804, 805, 806, 807, 832, 833, 834, 835, 836, 837, 850, 821, 822, 823, 824, 825, 826, 846, 847, 848, 849, 851, 852, 853] (by decide +kernel) (by decide +kernel)
set_option maxRecDepth 20000 in
theorem gL_law_X8_unlike : GoodIn wsL_law (wsV RL 75 RX8 yX8_unlike wsX8_unlike) := goodIn_app (goodIn_of _ (by decide +kernel)) ggL_law_X8_unlike
set_option maxRecDepth 20000 in
theorem ggL_law_X9_unlike : GoodIn wsL_law wsX9_unlike := goodIn_r _ [584, 486, 487, 488, 5, 489, 415, 416, 417, 418, 419, 124, 420, 421, 422, 423, 424, 425, 426, 427, 263, 264, 265, 266, 428, 429, 430, 431, 319, 320, 321, 322, 432, 433, 434, 435, 221, 222, 223, 436, 437, 438, 186, 187, 188, 439, 440, 441, 442, 443, 444, 445, 446, 127, 128, 447, 448, 449, 450, 490, 491, 492, 493, 808, 809, 810, 811, 812, 813, 814, 815, 816, 817, 818, 819, 820] (by decide +kernel) (by decide +kernel)
set_option maxRecDepth 20000 in
theorem gL_law_X9_unlike : GoodIn wsL_law (wsV RL 78 RX9 yX9_unlike wsX9_unlike) := goodIn_app (goodIn_of _ (by decide +kernel)) ggL_law_X9_unlike
set_option maxRecDepth 20000 in
theorem ggL_law_X8_cards : GoodIn wsL_law wsX8_cards := goodIn_r _ [588, 15, 23, 134, 135, 2, 136, 548, 381, 382, 14, 383, 45, 589, 590, 591, 22, 592, 98, 95, 463, 362, 363, 364, 100, 365, 366, 367, 368, 99, 97, 369, 69, 70, 42, 71, 67, 370, 371, 372, 373, 38, 39, 374, 299, 300, 37, 301, 55, 375, 376, 377, 378, 379, 237, 238, 239, 56, 380, 384, 303, 304, 54, 305, 76, 306, 157, 158, 159, 385, 386, 387, 388, 77, 389, 214, 215, 216, 390, 167, 168, 169, 391, 206, 207, 208, 57, 392, 393, 394, 395, 396, 397, 398, 399, 400, 401, 402, 403, 404, 405, 249, 250, 251, 51, 252, 241, 242, 243, 253, 254, 406, 407, 408, 409, 78, 410, 803, 804, 805, 806, 807, 821, 822, 823, 824, 825, 826, 832, 833, 834, 835, 836, 837, 850, 846, 847, 848, 849, 851, 852, 853] (by decide +kernel) (by decide +kernel)
set_option maxRecDepth 20000 in
theorem gL_law_X8_cards : GoodIn wsL_law (wsV RL 79 RX8 yX8_cards wsX8_cards) := goodIn_app (goodIn_of _ (by decide +kernel)) ggL_law_X8_cards
set_option maxRecDepth 20000 in
theorem ggL_law_X9_cards : GoodIn wsL_law wsX9_cards := goodIn_r _ [596, 124, 415, 127, 128, 183, 184, 5, 185, 186, 187, 188, 416, 417, 418, 419, 420, 421, 422, 423, 424, 425, 426, 427, 263, 264, 265, 266, 428, 429, 430, 431, 319, 320, 321, 322, 432, 433, 434, 435, 221, 222, 223, 436, 437, 438, 439, 440, 441, 442, 443, 444, 445, 446, 447, 448, 449, 450, 808, 809, 810, 811, 812, 813, 814, 815, 816, 817, 818, 819, 820] (by decide +kernel) (by decide +kernel)
set_option maxRecDepth 20000 in
theorem gL_law_X9_cards : GoodIn wsL_law (wsV RL 82 RX9 yX9_cards wsX9_cards) := goodIn_app (goodIn_of _ (by decide +kernel)) ggL_law_X9_cards
set_option maxRecDepth 20000 in
theorem ggL_law_X8_why : GoodIn wsL_law wsX8_why := goodIn_r _ [600, 15, 23, 548, 381, 382, 14, 383, 45, 166, 167, 168, 169, 38, 39, 240, 241, 242, 37, 243, 57, 601, 602, 603, 22, 604, 365, 366, 367, 368, 99, 97, 100, 369, 69, 70, 42, 71, 67, 370, 371, 372, 373, 374, 299, 300, 301, 55, 375, 376, 377, 378, 379, 237, 238, 239, 56, 380, 384, 303, 304, 54, 305, 76, 306, 157, 158, 159, 385, 386, 387, 388, 77, 389, 214, 215, 216, 393, 394, 395, 396, 397, 398, 399, 400, 401, 402, 403, 404, 405, 249, 250, 251, 51, 252, 253, 254, 406, 407, 408, 409, 78, 410, 803, 804, 805, 806, 807, 821, 822, 823, 824, 825, 826, 846, 847, 848, 849, 832, 833, 834, 835, 836, 837, 850, 851, 852, 853] (by decide +kernel) (by decide +kernel)
set_option maxRecDepth 20000 in
theorem gL_law_X8_why : GoodIn wsL_law (wsV RL 83 RX8 yX8_why wsX8_why) := goodIn_app (goodIn_of _ (by decide +kernel)) ggL_law_X8_why
set_option maxRecDepth 20000 in
theorem ggL_law_X9_why : GoodIn wsL_law wsX9_why := goodIn_r _ [608, 124, 259, 260, 261, 5, 262, 420, 421, 422, 423, 424, 425, 426, 427, 263, 264, 265, 266, 428, 429, 430, 431, 319, 320, 321, 322, 432, 433, 434, 435, 221, 222, 223, 436, 437, 438, 186, 187, 188, 439, 440, 441, 442, 808, 809, 810, 811, 812, 813, 814, 815, 816, 817, 818, 819, 820] (by decide +kernel) (by decide +kernel)
set_option maxRecDepth 20000 in
theorem gL_law_X9_why : GoodIn wsL_law (wsV RL 86 RX9 yX9_why wsX9_why) := goodIn_app (goodIn_of _ (by decide +kernel)) ggL_law_X9_why
set_option maxRecDepth 20000 in
theorem ggL_law_X8_tightest : GoodIn wsL_law wsX8_tightest := goodIn_r _ [612, 23, 15, 134, 135, 2, 136, 361, 362, 363, 22, 364, 98, 100, 95, 365, 366, 367, 368, 99, 97, 369, 69, 70, 42, 71, 67, 370, 371, 372, 14, 373, 38, 39, 374, 299, 300, 37, 301, 55, 375, 376, 377, 378, 379, 237, 238, 239, 56, 380, 381, 382, 383, 45, 384, 303, 304, 54, 305, 76, 306, 157, 158, 159, 385, 386, 387, 388, 77, 389, 214, 215, 216, 390, 167, 168, 169, 391, 206, 207, 208, 57, 392, 393, 394, 395, 396, 397, 398, 399, 400, 401, 402, 403, 404, 405, 249, 250, 251, 51, 252, 241, 242, 243, 253, 254, 406, 407, 408, 409, 78, 410, 553, 803, 804, 805, 806, 807, 832, 833, 834, 835, 836, 837, 850, 821, 822, 823, 824, 825, 826, 846, 847, 848, 849, 851, 852, 853] (by decide +kernel) (by decide +kernel)
set_option maxRecDepth 20000 in
theorem gL_law_X8_tightest : GoodIn wsL_law (wsV RL 87 RX8 yX8_tightest wsX8_tightest) := goodIn_app (goodIn_of _ (by decide +kernel)) ggL_law_X8_tightest
set_option maxRecDepth 20000 in
theorem ggL_law_X9_tightest : GoodIn wsL_law wsX9_tightest := goodIn_r _ [616, 124, 186, 187, 5, 188, 617, 517, 518, 519, 415, 416, 417, 418, 419, 420, 421, 422, 423, 424, 425, 426, 427, 263, 264, 265, 266, 428, 429, 430, 431, 319, 320, 321, 322, 432, 433, 434, 435, 221, 222, 223, 436, 437, 438, 439, 440, 441, 442, 443, 444, 445, 446, 127, 128, 447, 448, 449, 450, 808, 809, 810, 811, 812, 813, 814, 815, 816, 817, 818, 819, 820] (by decide +kernel) (by decide +kernel)
set_option maxRecDepth 20000 in
theorem gL_law_X9_tightest : GoodIn wsL_law (wsV RL 90 RX9 yX9_tightest wsX9_tightest) := goodIn_app (goodIn_of _ (by decide +kernel)) ggL_law_X9_tightest
set_option maxRecDepth 20000 in
theorem ggL_law_X8_count : GoodIn wsL_law wsX8_count := goodIn_r _ [621, 15, 19, 27, 166, 167, 168, 14, 169, 38, 39, 205, 206, 207, 37, 208, 57, 622, 623, 624, 625, 56, 548, 381, 382, 383, 45, 298, 299, 300, 301, 55, 327, 328, 329, 54, 330, 76, 306, 157, 158, 42, 159, 67, 626, 627, 628, 629, 46, 630, 631, 632, 18, 633, 89, 634, 635, 636, 26, 637, 107, 638, 540, 541, 542, 43, 543, 639, 545, 546, 547, 44, 803, 804, 805, 806, 807, 821, 822, 823, 824, 825, 826, 846, 847, 848, 849, 851, 852, 853, 850, 827, 828, 829, 830, 831, 838, 839] (by decide +kernel) (by decide +kernel)
set_option maxRecDepth 20000 in
theorem gL_law_X8_count : GoodIn wsL_law (wsV RL 91 RX8 yX8_count wsX8_count) := goodIn_app (goodIn_of _ (by decide +kernel)) ggL_law_X8_count
set_option maxRecDepth 20000 in
theorem ggL_law_X9_count : GoodIn wsL_law wsX9_count := goodIn_r _ [643, 124, 193, 644, 336, 337, 338, 5, 339, 319, 320, 321, 322, 808, 809, 810, 811, 812, 813, 814, 815, 816, 817, 818, 819, 820] (by decide +kernel) (by decide +kernel)
set_option maxRecDepth 20000 in
theorem gL_law_X9_count : GoodIn wsL_law (wsV RL 94 RX9 yX9_count wsX9_count) := goodIn_app (goodIn_of _ (by decide +kernel)) ggL_law_X9_count
set_option maxRecDepth 20000 in
theorem ggL_law_X8_undo : GoodIn wsL_law wsX8_undo := goodIn_r _ [648, 19, 15, 630, 631, 632, 18, 633, 89, 649, 650, 651, 652, 85, 86, 87, 88, 653, 63, 64, 65, 144, 145, 146, 14, 147, 38, 39, 43, 44, 45, 46, 148, 149, 150, 37, 151, 51, 55, 56, 57, 152, 153, 154, 42, 155, 67, 156, 157, 158, 159, 160, 161, 162, 54, 163, 76, 77, 78, 164, 165, 803, 804, 805, 806, 807, 827, 828, 829, 830, 831, 821, 822, 823, 824, 825, 826, 846, 847, 848, 849, 850, 851, 852, 853] (by decide +kernel) (by decide +kernel)
set_option maxRecDepth 20000 in
theorem gL_law_X8_undo : GoodIn wsL_law (wsV RL 95 RX8 yX8_undo wsX8_undo) := goodIn_app (goodIn_of _ (by decide +kernel)) ggL_law_X8_undo
set_option maxRecDepth 20000 in
theorem ggL_law_X9_undo : GoodIn wsL_law wsX9_undo := goodIn_r _ [657, 193, 124, 125, 808, 809, 810, 811, 812, 813, 814, 815, 816, 817, 818, 819, 820] (by decide +kernel) (by decide +kernel)
set_option maxRecDepth 20000 in
theorem gL_law_X9_undo : GoodIn wsL_law (wsV RL 98 RX9 yX9_undo wsX9_undo) := goodIn_app (goodIn_of _ (by decide +kernel)) ggL_law_X9_undo
set_option maxRecDepth 20000 in
theorem ggL_law_X8_type : GoodIn wsL_law wsX8_type := goodIn_r _ [661, 27, 634, 635, 636, 26, 637, 107, 662, 663, 664, 665, 106, 666, 214, 215, 42, 216, 67, 803, 804, 805, 806, 807, 838, 839, 850] (by decide +kernel) (by decide +kernel)
set_option maxRecDepth 20000 in
theorem gL_law_X8_type : GoodIn wsL_law (wsV RL 99 RX8 yX8_type wsX8_type) := goodIn_app (goodIn_of _ (by decide +kernel)) ggL_law_X8_type
set_option maxRecDepth 20000 in
theorem ggL_law_X9_type : GoodIn wsL_law wsX9_type := goodIn_r _ [670, 644, 126, 186, 187, 5, 188, 808, 809, 810, 811, 812, 813, 814, 815, 816, 817, 818, 819, 820] (by decide +kernel) (by decide +kernel)
set_option maxRecDepth 20000 in
theorem gL_law_X9_type : GoodIn wsL_law (wsV RL 102 RX9 yX9_type wsX9_type) := goodIn_app (goodIn_of _ (by decide +kernel)) ggL_law_X9_type
set_option maxRecDepth 20000 in
theorem ggL_law_X8_clearText : GoodIn wsL_law wsX8_clearText := goodIn_r _ [674, 27, 675, 676, 677, 26, 678, 107, 803, 804, 805, 806, 807, 838, 839] (by decide +kernel) (by decide +kernel)
set_option maxRecDepth 20000 in
theorem gL_law_X8_clearText : GoodIn wsL_law (wsV RL 103 RX8 yX8_clearText wsX8_clearText) := goodIn_app (goodIn_of _ (by decide +kernel)) ggL_law_X8_clearText
set_option maxRecDepth 20000 in
theorem ggL_law_X9_clearText : GoodIn wsL_law wsX9_clearText := goodIn_r _ [682, 644, 808, 809, 810, 811, 812, 813, 814, 815, 816, 817, 818, 819, 820] (by decide +kernel) (by decide +kernel)
set_option maxRecDepth 20000 in
theorem gL_law_X9_clearText : GoodIn wsL_law (wsV RL 106 RX9 yX9_clearText wsX9_clearText) := goodIn_app (goodIn_of _ (by decide +kernel)) ggL_law_X9_clearText
set_option maxRecDepth 20000 in
theorem ggL_law_X8_fault : GoodIn wsL_law wsX8_fault := goodIn_r _ [686, 31, 134, 135, 2, 136, 687, 688, 689, 30, 690, 114, 115, 116, 117, 118, 119, 691, 175, 176, 54, 177, 76, 77, 78, 178, 69, 70, 42, 71, 67, 692, 693, 694, 26, 695, 107, 106, 696, 157, 158, 159, 697, 698, 699, 700, 701, 702, 703, 704, 705, 706, 707, 708, 709, 710, 711, 712, 713, 714, 715, 716, 308, 309, 310, 311, 214, 215, 216, 717, 718, 719, 720, 721, 722, 723, 724, 725, 726, 727, 728, 729, 730, 731, 732, 635, 636, 637, 733, 734, 735, 736, 737, 738, 739, 740, 741, 803, 804, 805, 806, 807, 840, 841, 842, 843, 844, 845, 851, 852, 853, 850, 838, 839] (by decide +kernel) (by decide +kernel)
set_option maxRecDepth 20000 in
theorem gL_law_X8_fault : GoodIn wsL_law (wsV RL 107 RX8 yX8_fault wsX8_fault) := goodIn_app (goodIn_of _ (by decide +kernel)) ggL_law_X8_fault
set_option maxRecDepth 20000 in
theorem ggL_law_X9_fault : GoodIn wsL_law wsX9_fault := goodIn_r _ [745, 746, 747, 186, 187, 5, 188, 748, 749, 750, 751, 752, 644, 753, 754, 755, 756, 757, 126, 758, 759, 760, 761, 762, 763, 764, 765, 766, 767, 768, 769, 129, 770, 771, 772, 773, 774, 775, 776, 777, 778, 779, 780, 781, 782, 783, 784, 785, 808, 809, 810, 811, 812, 813, 814, 815, 816, 817, 818, 819, 820] (by decide +kernel) (by decide +kernel)
set_option maxRecDepth 20000 in
theorem gL_law_X9_fault : GoodIn wsL_law (wsV RL 110 RX9 yX9_fault wsX9_fault) := goodIn_app (goodIn_of _ (by decide +kernel)) ggL_law_X9_fault
set_option maxRecDepth 20000 in
theorem ggL_law_X8_read : GoodIn wsL_law wsX8_read := goodIn_r _ [789, 31, 15, 19, 23, 134, 135, 2, 136, 687, 688, 689, 30, 690, 114, 115, 116, 117, 118, 119, 691, 175, 176, 54, 177, 76, 77, 78, 178, 69, 70, 42, 71, 67, 692, 693, 694, 26, 695, 107, 106, 696, 157, 158, 159, 697, 698, 699, 700, 701, 702, 703, 704, 705, 706, 707, 708, 709, 710, 711, 712, 713, 714, 715, 716, 308, 309, 310, 311, 214, 215, 216, 717, 718, 719, 720, 721, 722, 723, 724, 725, 726, 727, 728, 729, 730, 731, 732, 635, 636, 637, 733, 790, 791, 792, 793, 166, 167, 168, 14, 169, 38, 39, 622, 623, 624, 37, 625, 56, 137, 138, 139, 18, 140, 88, 87, 86, 85, 89, 141, 142, 64, 143, 144, 145, 146, 147, 43, 44, 45, 46, 148, 149, 150, 151, 51, 55, 57, 152, 153, 154, 155, 156, 160, 161, 162, 163, 164, 165, 298, 299, 300, 301, 794, 795, 796, 797, 798, 361, 362, 363, 22, 364, 98, 100, 95, 365, 366, 367, 368, 99, 97, 369, 370, 371, 372, 373, 374, 375, 376, 377, 378, 379, 237, 238, 239, 380, 381, 382, 383, 384, 303, 304, 305, 306, 385, 386, 387, 388, 389, 390, 391, 206, 207, 208, 392, 393, 394, 395, 396, 397, 398, 399, 400, 401, 402, 403, 404, 405, 249, 250, 251, 252, 241, 242, 243, 253, 254, 406, 407, 408, 409, 410, 803, 804, 805, 806, 807, 840, 841, 842, 843, 844, 845, 851, 852, 853, 850, 838, 839, 821, 822, 823, 824, 825, 826, 846, 847, 848, 849, 827, 828, 829, 830, 831, 832, 833, 834, 835, 836, 837] (by decide +kernel) (by decide +kernel)
set_option maxRecDepth 20000 in
theorem gL_law_X8_read : GoodIn wsL_law (wsV RL 111 RX8 yX8_read wsX8_read) := goodIn_app (goodIn_of _ (by decide +kernel)) ggL_law_X8_read
set_option maxRecDepth 20000 in
theorem ggL_law_X9_read : GoodIn wsL_law wsX9_read := goodIn_r _ [802, 752, 124, 129, 415, 183, 184, 5, 185, 186, 187, 188, 748, 749, 750, 751, 746, 644, 753, 754, 755, 756, 757, 126, 758, 759, 760, 761, 762, 763, 764, 765, 766, 767, 768, 769, 770, 771, 772, 773, 774, 775, 776, 777, 747, 778, 779, 780, 781, 782, 783, 784, 785, 189, 190, 191, 192, 193, 125, 194, 195, 196, 197, 416, 417, 418, 419, 420, 421, 422, 423, 424, 425, 426, 427, 263, 264, 265, 266, 428, 429, 430, 431, 319, 320, 321, 322, 432, 433, 434, 435, 221, 222, 223, 436, 437, 438, 439, 440, 441, 442, 443, 444, 445, 446, 127, 128, 447, 448, 449, 450, 808, 809, 810, 811, 812, 813, 814, 815, 816, 817, 818, 819, 820] (by decide +kernel) (by decide +kernel)
set_option maxRecDepth 20000 in
theorem gL_law_X9_read : GoodIn wsL_law (wsV RL 114 RX9 yX9_read wsX9_read) := goodIn_app (goodIn_of _ (by decide +kernel)) ggL_law_X9_read
theorem dL_law_0 : decode cL_law 0 = .ok (.new 7, 3) := by decide +kernel
theorem dL_law_3 : decode cL_law 3 = .ok (.dup, 1) := by decide +kernel
theorem dL_law_4 : decode cL_law 4 = .ok (.invokespecial 9, 3) := by decide +kernel
theorem dL_law_7 : decode cL_law 7 = .ok (.astore_n 1, 1) := by decide +kernel
theorem dL_law_8 : decode cL_law 8 = .ok (.new 10, 3) := by decide +kernel
theorem dL_law_11 : decode cL_law 11 = .ok (.dup, 1) := by decide +kernel
theorem dL_law_12 : decode cL_law 12 = .ok (.invokespecial 12, 3) := by decide +kernel
theorem dL_law_15 : decode cL_law 15 = .ok (.astore_n 2, 1) := by decide +kernel
theorem dL_law_16 : decode cL_law 16 = .ok (.iconst 0, 1) := by decide +kernel
theorem dL_law_17 : decode cL_law 17 = .ok (.istore_n 3, 1) := by decide +kernel
theorem dL_law_18 : decode cL_law 18 = .ok (.iload_n 3, 1) := by decide +kernel
theorem dL_law_19 : decode cL_law 19 = .ok (.aload_n 0, 1) := by decide +kernel
theorem dL_law_20 : decode cL_law 20 = .ok (.arraylength, 1) := by decide +kernel
theorem dL_law_21 : decode cL_law 21 = .ok (.bipush 6, 2) := by decide +kernel
theorem dL_law_23 : decode cL_law 23 = .ok (.isub, 1) := by decide +kernel
theorem dL_law_24 : decode cL_law 24 = .ok (.if_icmp .gt 858, 3) := by decide +kernel
theorem dL_law_27 : decode cL_law 27 = .ok (.aload_n 0, 1) := by decide +kernel
theorem dL_law_28 : decode cL_law 28 = .ok (.iload_n 3, 1) := by decide +kernel
theorem dL_law_29 : decode cL_law 29 = .ok (.iaload, 1) := by decide +kernel
theorem dL_law_30 : decode cL_law 30 = .ok (.bipush 31, 2) := by decide +kernel
theorem dL_law_32 : decode cL_law 32 = .ok (.iand, 1) := by decide +kernel
theorem dL_law_33 : decode cL_law 33 = .ok (.tableswitch 843 0 23 #[111, 144, 207, 260, 293, 336, 399, 422, 445, 488, 511, 554, 567, 600, 633, 646, 669, 702, 725, 748, 761, 784, 797, 820], 111) := by decide +kernel
theorem dL_law_144 : decode cL_law 144 = .ok (.aload_n 1, 1) := by decide +kernel
theorem dL_law_145 : decode cL_law 145 = .ok (.aload_n 0, 1) := by decide +kernel
theorem dL_law_146 : decode cL_law 146 = .ok (.iload_n 3, 1) := by decide +kernel
theorem dL_law_147 : decode cL_law 147 = .ok (.iconst 1, 1) := by decide +kernel
theorem dL_law_148 : decode cL_law 148 = .ok (.iadd, 1) := by decide +kernel
theorem dL_law_149 : decode cL_law 149 = .ok (.iaload, 1) := by decide +kernel
theorem dL_law_150 : decode cL_law 150 = .ok (.aload_n 0, 1) := by decide +kernel
theorem dL_law_151 : decode cL_law 151 = .ok (.iload_n 3, 1) := by decide +kernel
theorem dL_law_152 : decode cL_law 152 = .ok (.iconst 2, 1) := by decide +kernel
theorem dL_law_153 : decode cL_law 153 = .ok (.iadd, 1) := by decide +kernel
theorem dL_law_154 : decode cL_law 154 = .ok (.iaload, 1) := by decide +kernel
theorem dL_law_155 : decode cL_law 155 = .ok (.invokevirtual 13, 3) := by decide +kernel
theorem dL_law_158 : decode cL_law 158 = .ok (.aload_n 2, 1) := by decide +kernel
theorem dL_law_159 : decode cL_law 159 = .ok (.aload_n 0, 1) := by decide +kernel
theorem dL_law_160 : decode cL_law 160 = .ok (.iload_n 3, 1) := by decide +kernel
theorem dL_law_161 : decode cL_law 161 = .ok (.iconst 1, 1) := by decide +kernel
theorem dL_law_162 : decode cL_law 162 = .ok (.iadd, 1) := by decide +kernel
theorem dL_law_163 : decode cL_law 163 = .ok (.iaload, 1) := by decide +kernel
theorem dL_law_164 : decode cL_law 164 = .ok (.aload_n 0, 1) := by decide +kernel
theorem dL_law_165 : decode cL_law 165 = .ok (.iload_n 3, 1) := by decide +kernel
theorem dL_law_166 : decode cL_law 166 = .ok (.iconst 2, 1) := by decide +kernel
theorem dL_law_167 : decode cL_law 167 = .ok (.iadd, 1) := by decide +kernel
theorem dL_law_168 : decode cL_law 168 = .ok (.iaload, 1) := by decide +kernel
theorem dL_law_169 : decode cL_law 169 = .ok (.invokevirtual 17, 3) := by decide +kernel
theorem dL_law_172 : decode cL_law 172 = .ok (.if_icmp .eq 704, 3) := by decide +kernel
theorem dL_law_175 : decode cL_law 175 = .ok (.iconst 0, 1) := by decide +kernel
theorem dL_law_176 : decode cL_law 176 = .ok (.ireturn, 1) := by decide +kernel
theorem dL_law_177 : decode cL_law 177 = .ok (.aload_n 1, 1) := by decide +kernel
theorem dL_law_178 : decode cL_law 178 = .ok (.aload_n 0, 1) := by decide +kernel
theorem dL_law_179 : decode cL_law 179 = .ok (.iload_n 3, 1) := by decide +kernel
theorem dL_law_180 : decode cL_law 180 = .ok (.iconst 1, 1) := by decide +kernel
theorem dL_law_181 : decode cL_law 181 = .ok (.iadd, 1) := by decide +kernel
theorem dL_law_182 : decode cL_law 182 = .ok (.iaload, 1) := by decide +kernel
theorem dL_law_183 : decode cL_law 183 = .ok (.aload_n 0, 1) := by decide +kernel
theorem dL_law_184 : decode cL_law 184 = .ok (.iload_n 3, 1) := by decide +kernel
theorem dL_law_185 : decode cL_law 185 = .ok (.iconst 2, 1) := by decide +kernel
theorem dL_law_186 : decode cL_law 186 = .ok (.iadd, 1) := by decide +kernel
theorem dL_law_187 : decode cL_law 187 = .ok (.iaload, 1) := by decide +kernel
theorem dL_law_188 : decode cL_law 188 = .ok (.aload_n 0, 1) := by decide +kernel
theorem dL_law_189 : decode cL_law 189 = .ok (.iload_n 3, 1) := by decide +kernel
theorem dL_law_190 : decode cL_law 190 = .ok (.iconst 3, 1) := by decide +kernel
theorem dL_law_191 : decode cL_law 191 = .ok (.iadd, 1) := by decide +kernel
theorem dL_law_192 : decode cL_law 192 = .ok (.iaload, 1) := by decide +kernel
theorem dL_law_193 : decode cL_law 193 = .ok (.aload_n 0, 1) := by decide +kernel
theorem dL_law_194 : decode cL_law 194 = .ok (.iload_n 3, 1) := by decide +kernel
theorem dL_law_195 : decode cL_law 195 = .ok (.iconst 4, 1) := by decide +kernel
theorem dL_law_196 : decode cL_law 196 = .ok (.iadd, 1) := by decide +kernel
theorem dL_law_197 : decode cL_law 197 = .ok (.iaload, 1) := by decide +kernel
theorem dL_law_198 : decode cL_law 198 = .ok (.aload_n 0, 1) := by decide +kernel
theorem dL_law_199 : decode cL_law 199 = .ok (.iload_n 3, 1) := by decide +kernel
theorem dL_law_200 : decode cL_law 200 = .ok (.iconst 5, 1) := by decide +kernel
theorem dL_law_201 : decode cL_law 201 = .ok (.iadd, 1) := by decide +kernel
theorem dL_law_202 : decode cL_law 202 = .ok (.iaload, 1) := by decide +kernel
theorem dL_law_203 : decode cL_law 203 = .ok (.invokevirtual 18, 3) := by decide +kernel
theorem dL_law_206 : decode cL_law 206 = .ok (.aload_n 2, 1) := by decide +kernel
theorem dL_law_207 : decode cL_law 207 = .ok (.aload_n 0, 1) := by decide +kernel
theorem dL_law_208 : decode cL_law 208 = .ok (.iload_n 3, 1) := by decide +kernel
theorem dL_law_209 : decode cL_law 209 = .ok (.iconst 1, 1) := by decide +kernel
theorem dL_law_210 : decode cL_law 210 = .ok (.iadd, 1) := by decide +kernel
theorem dL_law_211 : decode cL_law 211 = .ok (.iaload, 1) := by decide +kernel
theorem dL_law_212 : decode cL_law 212 = .ok (.aload_n 0, 1) := by decide +kernel
theorem dL_law_213 : decode cL_law 213 = .ok (.iload_n 3, 1) := by decide +kernel
theorem dL_law_214 : decode cL_law 214 = .ok (.iconst 2, 1) := by decide +kernel
theorem dL_law_215 : decode cL_law 215 = .ok (.iadd, 1) := by decide +kernel
theorem dL_law_216 : decode cL_law 216 = .ok (.iaload, 1) := by decide +kernel
theorem dL_law_217 : decode cL_law 217 = .ok (.aload_n 0, 1) := by decide +kernel
theorem dL_law_218 : decode cL_law 218 = .ok (.iload_n 3, 1) := by decide +kernel
theorem dL_law_219 : decode cL_law 219 = .ok (.iconst 3, 1) := by decide +kernel
theorem dL_law_220 : decode cL_law 220 = .ok (.iadd, 1) := by decide +kernel
theorem dL_law_221 : decode cL_law 221 = .ok (.iaload, 1) := by decide +kernel
theorem dL_law_222 : decode cL_law 222 = .ok (.aload_n 0, 1) := by decide +kernel
theorem dL_law_223 : decode cL_law 223 = .ok (.iload_n 3, 1) := by decide +kernel
theorem dL_law_224 : decode cL_law 224 = .ok (.iconst 4, 1) := by decide +kernel
theorem dL_law_225 : decode cL_law 225 = .ok (.iadd, 1) := by decide +kernel
theorem dL_law_226 : decode cL_law 226 = .ok (.iaload, 1) := by decide +kernel
theorem dL_law_227 : decode cL_law 227 = .ok (.aload_n 0, 1) := by decide +kernel
theorem dL_law_228 : decode cL_law 228 = .ok (.iload_n 3, 1) := by decide +kernel
theorem dL_law_229 : decode cL_law 229 = .ok (.iconst 5, 1) := by decide +kernel
theorem dL_law_230 : decode cL_law 230 = .ok (.iadd, 1) := by decide +kernel
theorem dL_law_231 : decode cL_law 231 = .ok (.iaload, 1) := by decide +kernel
theorem dL_law_232 : decode cL_law 232 = .ok (.invokevirtual 22, 3) := by decide +kernel
theorem dL_law_235 : decode cL_law 235 = .ok (.if_icmp .eq 641, 3) := by decide +kernel
theorem dL_law_238 : decode cL_law 238 = .ok (.iconst 0, 1) := by decide +kernel
theorem dL_law_239 : decode cL_law 239 = .ok (.ireturn, 1) := by decide +kernel
theorem dL_law_240 : decode cL_law 240 = .ok (.aload_n 1, 1) := by decide +kernel
theorem dL_law_241 : decode cL_law 241 = .ok (.aload_n 0, 1) := by decide +kernel
theorem dL_law_242 : decode cL_law 242 = .ok (.iload_n 3, 1) := by decide +kernel
theorem dL_law_243 : decode cL_law 243 = .ok (.iconst 1, 1) := by decide +kernel
theorem dL_law_244 : decode cL_law 244 = .ok (.iadd, 1) := by decide +kernel
theorem dL_law_245 : decode cL_law 245 = .ok (.iaload, 1) := by decide +kernel
theorem dL_law_246 : decode cL_law 246 = .ok (.aload_n 0, 1) := by decide +kernel
theorem dL_law_247 : decode cL_law 247 = .ok (.iload_n 3, 1) := by decide +kernel
theorem dL_law_248 : decode cL_law 248 = .ok (.iconst 2, 1) := by decide +kernel
theorem dL_law_249 : decode cL_law 249 = .ok (.iadd, 1) := by decide +kernel
