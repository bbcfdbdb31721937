theorem dL_drawers_444 : decode cL_drawers 444 = .ok (.irem, 1) := by decide +kernel
theorem dL_drawers_445 : decode cL_drawers 445 = .ok (.ifCond .ne 16, 3) := by decide +kernel
theorem dL_drawers_448 : decode cL_drawers 448 = .ok (.iload 7, 2) := by decide +kernel
theorem dL_drawers_450 : decode cL_drawers 450 = .ok (.bipush 96, 2) := by decide +kernel
theorem dL_drawers_452 : decode cL_drawers 452 = .ok (.idiv, 1) := by decide +kernel
theorem dL_drawers_453 : decode cL_drawers 453 = .ok (.bipush 101, 2) := by decide +kernel
theorem dL_drawers_455 : decode cL_drawers 455 = .ok (.irem, 1) := by decide +kernel
theorem dL_drawers_456 : decode cL_drawers 456 = .ok (.iconst 1, 1) := by decide +kernel
theorem dL_drawers_457 : decode cL_drawers 457 = .ok (.isub, 1) := by decide +kernel
theorem dL_drawers_458 : decode cL_drawers 458 = .ok (.goto 10, 3) := by decide +kernel
theorem dL_drawers_461 : decode cL_drawers 461 = .ok (.iload 7, 2) := by decide +kernel
theorem dL_drawers_463 : decode cL_drawers 463 = .ok (.bipush 96, 2) := by decide +kernel
theorem dL_drawers_465 : decode cL_drawers 465 = .ok (.idiv, 1) := by decide +kernel
theorem dL_drawers_466 : decode cL_drawers 466 = .ok (.iconst 5, 1) := by decide +kernel
theorem dL_drawers_467 : decode cL_drawers 467 = .ok (.irem, 1) := by decide +kernel
theorem dL_drawers_468 : decode cL_drawers 468 = .ok (.istore 12, 2) := by decide +kernel
theorem dL_drawers_470 : decode cL_drawers 470 = .ok (.aload_n 2, 1) := by decide +kernel
theorem dL_drawers_471 : decode cL_drawers 471 = .ok (.iload 8, 2) := by decide +kernel
theorem dL_drawers_473 : decode cL_drawers 473 = .ok (.iload 9, 2) := by decide +kernel
theorem dL_drawers_475 : decode cL_drawers 475 = .ok (.iload 10, 2) := by decide +kernel
theorem dL_drawers_477 : decode cL_drawers 477 = .ok (.iload 12, 2) := by decide +kernel
theorem dL_drawers_479 : decode cL_drawers 479 = .ok (.invokestatic 69, 3) := by decide +kernel
theorem dL_drawers_482 : decode cL_drawers 482 = .ok (.aload_n 0, 1) := by decide +kernel
theorem dL_drawers_483 : decode cL_drawers 483 = .ok (.iload 8, 2) := by decide +kernel
theorem dL_drawers_485 : decode cL_drawers 485 = .ok (.iload 9, 2) := by decide +kernel
theorem dL_drawers_487 : decode cL_drawers 487 = .ok (.iload 10, 2) := by decide +kernel
theorem dL_drawers_489 : decode cL_drawers 489 = .ok (.iload 12, 2) := by decide +kernel
theorem dL_drawers_491 : decode cL_drawers 491 = .ok (.invokevirtual 65, 3) := by decide +kernel
theorem dL_drawers_494 : decode cL_drawers 494 = .ok (.iload 11, 2) := by decide +kernel
theorem dL_drawers_496 : decode cL_drawers 496 = .ok (.if_icmp .ne 7, 3) := by decide +kernel
theorem dL_drawers_499 : decode cL_drawers 499 = .ok (.iconst 1, 1) := by decide +kernel
theorem dL_drawers_500 : decode cL_drawers 500 = .ok (.goto 4, 3) := by decide +kernel
theorem dL_drawers_503 : decode cL_drawers 503 = .ok (.iconst 0, 1) := by decide +kernel
theorem dL_drawers_504 : decode cL_drawers 504 = .ok (.ireturn, 1) := by decide +kernel
set_option maxRecDepth 20000 in
theorem ggL_acts_L_low : GoodIn wsL_acts wsL_low := goodIn_r _ [6, 7] (by decide +kernel) (by decide +kernel)
set_option maxRecDepth 20000 in
theorem gL_acts_L_low : GoodIn wsL_acts (va_wsS RL 74 yL_low wsL_low) := goodIn_app (goodIn_of _ (by decide +kernel)) ggL_acts_L_low
set_option maxRecDepth 20000 in
theorem ggL_acts_L_drawers_1 : GoodIn wsL_acts ((Cond.code yL_drawers cL_drawers 14 (some .boolean)) :: wsL_drawers_r1) := goodIn_r _ [10, 11, 12, 13, 14, 15, 16, 17, 18, 19, 20, 21, 22, 23, 24, 25, 26, 27, 28, 29, 30, 31, 32, 33, 34] (by decide +kernel) (by decide +kernel)
set_option maxRecDepth 20000 in
theorem ggL_acts_L_drawers_2 : GoodIn wsL_acts wsL_drawers_r2 := goodIn_r _ [35, 36, 37, 38, 39, 40, 41, 42, 43, 44, 45, 46, 47, 48, 49, 50, 51, 52, 53, 54, 55, 56, 57, 58] (by decide +kernel) (by decide +kernel)
set_option maxRecDepth 20000 in
theorem ggL_acts_L_drawers_3 : GoodIn wsL_acts wsL_drawers_r3 := goodIn_r _ [59, 60, 61, 62, 63, 64, 65, 66, 67, 68, 69, 70, 71, 72, 73, 74, 75, 76, 77, 78, 79, 80, 81, 82] (by decide +kernel) (by decide +kernel)
set_option maxRecDepth 20000 in
theorem ggL_acts_L_drawers_4 : GoodIn wsL_acts wsL_drawers_r4 := goodIn_r _ [83, 84, 85, 86, 87, 88, 89, 90, 91, 92, 93, 94, 95, 96, 97, 98, 99, 100, 101, 102, 103, 104, 105, 106] (by decide +kernel) (by decide +kernel)
set_option maxRecDepth 20000 in
theorem ggL_acts_L_drawers_5 : GoodIn wsL_acts wsL_drawers_r5 := goodIn_r _ [107, 108, 109, 110, 111, 112, 113, 114, 115, 116, 117, 118, 119, 120, 121, 122, 123, 124, 125, 126, 127, 128, 129, 130] (by decide +kernel) (by decide +kernel)
set_option maxRecDepth 20000 in
theorem ggL_acts_L_drawers_6 : GoodIn wsL_acts wsL_drawers_r6 := goodIn_r _ [131, 132, 133, 134, 135, 136, 137, 138, 139, 140, 141, 142, 143, 144, 145, 146, 147, 148, 149, 150, 5, 151, 152, 153] (by decide +kernel) (by decide +kernel)
set_option maxRecDepth 20000 in
theorem ggL_acts_L_drawers_7 : GoodIn wsL_acts wsL_drawers_r7 := goodIn_r _ [154] (by decide +kernel) (by decide +kernel)
set_option maxRecDepth 20000 in
theorem ggL_acts_L_drawers_8 : GoodIn wsL_acts wsX80 := goodIn_r _ [428, 429, 430, 431, 432] (by decide +kernel) (by decide +kernel)
set_option maxRecDepth 20000 in
theorem ggL_acts_L_drawers_9 : GoodIn wsL_acts wsX60 := goodIn_r _ [433, 434, 435, 436, 437, 438] (by decide +kernel) (by decide +kernel)
set_option maxRecDepth 20000 in
theorem ggL_acts_L_drawers_10 : GoodIn wsL_acts wsX00 := goodIn_r _ [439, 440, 441, 442] (by decide +kernel) (by decide +kernel)
set_option maxRecDepth 20000 in
theorem ggL_acts_L_drawers_11 : GoodIn wsL_acts wsX20 := goodIn_r _ [443, 444, 445, 446, 447] (by decide +kernel) (by decide +kernel)
set_option maxRecDepth 20000 in
theorem ggL_acts_L_drawers_12 : GoodIn wsL_acts wsX30 := goodIn_r _ [448] (by decide +kernel) (by decide +kernel)
set_option maxRecDepth 20000 in
theorem ggL_acts_L_drawers_13 : GoodIn wsL_acts wsX10 := goodIn_r _ [449, 450, 451] (by decide +kernel) (by decide +kernel)
theorem ggL_acts_L_drawers : GoodIn wsL_acts wsL_drawers := goodIn_ca (goodIn_ca (goodIn_ca (goodIn_ca (goodIn_ca (goodIn_ca (goodIn_ca (ggL_acts_L_drawers_1) (goodIn_app (ggL_acts_L_drawers_2) (goodIn_app (ggL_acts_L_drawers_3) (goodIn_app (ggL_acts_L_drawers_4) (goodIn_app (ggL_acts_L_drawers_5) (goodIn_app (ggL_acts_L_drawers_6) (ggL_acts_L_drawers_7))))))) (ggL_acts_L_drawers_8)) (ggL_acts_L_drawers_9)) (ggL_acts_L_drawers_10)) (ggL_acts_L_drawers_11)) (ggL_acts_L_drawers_12)) (ggL_acts_L_drawers_13)
set_option maxRecDepth 20000 in
theorem gL_acts_L_drawers : GoodIn wsL_acts (va_wsS RL 77 yL_drawers wsL_drawers) := goodIn_app (goodIn_of _ (by decide +kernel)) ggL_acts_L_drawers
set_option maxRecDepth 20000 in
theorem ggL_acts_L_reads_1 : GoodIn wsL_acts ((Cond.code yL_reads cL_reads 15 (some .boolean)) :: wsL_reads_r1) := goodIn_r _ [157, 2, 158, 159, 160, 14, 161, 162, 163, 164, 165, 166, 167, 168, 169, 170, 171, 172, 173, 174, 175, 176, 177, 178, 179] (by decide +kernel) (by decide +kernel)
set_option maxRecDepth 20000 in
theorem ggL_acts_L_reads_2 : GoodIn wsL_acts wsL_reads_r2 := goodIn_r _ [180, 181, 182, 91, 92, 69, 93, 71, 183, 184, 185, 186, 187, 18, 19, 20, 188, 189, 190, 191, 192, 193, 194, 195] (by decide +kernel) (by decide +kernel)
set_option maxRecDepth 20000 in
theorem ggL_acts_L_reads_3 : GoodIn wsL_acts wsL_reads_r3 := goodIn_r _ [196, 197, 198, 199, 103, 104, 79, 105, 81, 82, 83, 106, 107, 108, 109, 200, 201, 202, 203, 204, 73, 74, 75, 205] (by decide +kernel) (by decide +kernel)
set_option maxRecDepth 20000 in
theorem ggL_acts_L_reads_4 : GoodIn wsL_acts wsL_reads_r4 := goodIn_r _ [206, 207, 208, 209, 210, 211, 212, 213, 214, 215, 216, 217, 218, 219, 220, 221, 222, 223, 224, 225, 226, 227, 228, 229] (by decide +kernel) (by decide +kernel)
set_option maxRecDepth 20000 in
theorem ggL_acts_L_reads_5 : GoodIn wsL_acts wsL_reads_r5 := goodIn_r _ [230, 231, 232, 233, 234, 235, 236, 237, 238, 239, 240, 241, 242, 243, 244, 245, 246, 247, 248, 249, 250, 251, 252, 253] (by decide +kernel) (by decide +kernel)
set_option maxRecDepth 20000 in
theorem ggL_acts_L_reads_6 : GoodIn wsL_acts wsL_reads_r6 := goodIn_r _ [254, 255, 256, 257, 16, 17, 258, 259, 260, 261, 262, 24, 25, 26, 27, 28, 29, 30, 263, 264, 265, 34, 266, 65] (by decide +kernel) (by decide +kernel)
set_option maxRecDepth 20000 in
theorem ggL_acts_L_reads_7 : GoodIn wsL_acts wsL_reads_r7 := goodIn_r _ [37, 38, 39, 40, 41, 42, 43, 44, 45, 46, 47, 48, 49, 50, 51, 52, 53, 54, 55, 56, 57, 58, 59, 60] (by decide +kernel) (by decide +kernel)
set_option maxRecDepth 20000 in
theorem ggL_acts_L_reads_8 : GoodIn wsL_acts wsL_reads_r8 := goodIn_r _ [61, 62, 63, 64, 36, 66, 67, 68, 70, 72, 76, 77, 78, 80, 84, 85, 267, 268, 269, 270, 271, 272, 273, 274] (by decide +kernel) (by decide +kernel)
set_option maxRecDepth 20000 in
theorem ggL_acts_L_reads_9 : GoodIn wsL_acts wsL_reads_r9 := goodIn_r _ [275, 276, 277, 278, 279, 280, 281, 282, 283, 284, 285, 286, 287, 288, 289, 290, 291, 292, 293, 294, 295, 296, 297, 298] (by decide +kernel) (by decide +kernel)
set_option maxRecDepth 20000 in
theorem ggL_acts_L_reads_10 : GoodIn wsL_acts wsL_reads_r10 := goodIn_r _ [299, 300, 136, 137, 138, 301, 302, 303, 304, 305, 306, 307, 308, 309, 310, 311, 312, 313, 314, 315, 316, 32, 33, 35] (by decide +kernel) (by decide +kernel)
set_option maxRecDepth 20000 in
theorem ggL_acts_L_reads_11 : GoodIn wsL_acts wsL_reads_r11 := goodIn_r _ [317, 318, 319, 320, 321, 322, 323, 324, 325, 326, 327, 328, 329, 330, 144, 145, 146, 147, 115, 116, 117, 148, 122, 331] (by decide +kernel) (by decide +kernel)
set_option maxRecDepth 20000 in
theorem ggL_acts_L_reads_12 : GoodIn wsL_acts wsL_reads_r12 := goodIn_r _ [332, 333, 334, 335, 336, 337, 5, 338, 339, 340, 341, 342, 343, 344, 345, 346, 347, 348, 149, 150, 151, 349, 350, 351] (by decide +kernel) (by decide +kernel)
set_option maxRecDepth 20000 in
theorem ggL_acts_L_reads_13 : GoodIn wsL_acts wsX80 := goodIn_r _ [428, 429, 430, 431, 432] (by decide +kernel) (by decide +kernel)
set_option maxRecDepth 20000 in
theorem ggL_acts_L_reads_14 : GoodIn wsL_acts wsX70 := goodIn_r _ [452, 453] (by decide +kernel) (by decide +kernel)
set_option maxRecDepth 20000 in
theorem ggL_acts_L_reads_15 : GoodIn wsL_acts wsX30 := goodIn_r _ [448] (by decide +kernel) (by decide +kernel)
set_option maxRecDepth 20000 in
theorem ggL_acts_L_reads_16 : GoodIn wsL_acts wsX40 := goodIn_r _ [454, 455, 456, 457, 458, 459] (by decide +kernel) (by decide +kernel)
set_option maxRecDepth 20000 in
theorem ggL_acts_L_reads_17 : GoodIn wsL_acts wsX10 := goodIn_r _ [449, 450, 451] (by decide +kernel) (by decide +kernel)
set_option maxRecDepth 20000 in
theorem ggL_acts_L_reads_18 : GoodIn wsL_acts wsX60 := goodIn_r _ [433, 434, 435, 436, 437, 438] (by decide +kernel) (by decide +kernel)
set_option maxRecDepth 20000 in
theorem ggL_acts_L_reads_19 : GoodIn wsL_acts wsX00 := goodIn_r _ [439, 440, 441, 442] (by decide +kernel) (by decide +kernel)
set_option maxRecDepth 20000 in
theorem ggL_acts_L_reads_20 : GoodIn wsL_acts wsX20 := goodIn_r _ [443, 444, 445, 446, 447] (by decide +kernel) (by decide +kernel)
set_option maxRecDepth 20000 in
theorem ggL_acts_L_reads_21 : GoodIn wsL_acts wsX50 := goodIn_r _ [460, 461, 462, 463, 464, 465] (by decide +kernel) (by decide +kernel)
theorem ggL_acts_L_reads : GoodIn wsL_acts wsL_reads := goodIn_ca (goodIn_ca (goodIn_ca (goodIn_ca (goodIn_ca (goodIn_ca (goodIn_ca (goodIn_ca (goodIn_ca (goodIn_ca (ggL_acts_L_reads_1) (goodIn_app (ggL_acts_L_reads_2) (goodIn_app (ggL_acts_L_reads_3) (goodIn_app (ggL_acts_L_reads_4) (goodIn_app (ggL_acts_L_reads_5) (goodIn_app (ggL_acts_L_reads_6) (goodIn_app (ggL_acts_L_reads_7) (goodIn_app (ggL_acts_L_reads_8) (goodIn_app (ggL_acts_L_reads_9) (goodIn_app (ggL_acts_L_reads_10) (goodIn_app (ggL_acts_L_reads_11) (ggL_acts_L_reads_12)))))))))))) (ggL_acts_L_reads_13)) (ggL_acts_L_reads_14)) (ggL_acts_L_reads_15)) (ggL_acts_L_reads_16)) (ggL_acts_L_reads_17)) (ggL_acts_L_reads_18)) (ggL_acts_L_reads_19)) (ggL_acts_L_reads_20)) (ggL_acts_L_reads_21)
set_option maxRecDepth 20000 in
theorem gL_acts_L_reads : GoodIn wsL_acts (va_wsS RL 81 yL_reads wsL_reads) := goodIn_app (goodIn_of _ (by decide +kernel)) ggL_acts_L_reads
set_option maxRecDepth 20000 in
theorem ggL_acts_X8_cell : GoodIn wsL_acts wsX8_cell := goodIn_r _ [355, 17, 16, 131, 132, 133, 14, 134, 18, 19, 20, 24, 25, 26, 27, 28, 29, 30, 135, 136, 137, 34, 138, 65, 356, 357, 358, 359, 360, 361, 37, 38, 39, 40, 41, 42, 43, 44, 45, 46, 47, 48, 49, 50, 51, 52, 53, 54, 55, 56, 57, 58, 59, 60, 61, 62, 63, 64, 36, 66, 67, 68, 69, 70, 71, 72, 73, 74, 75, 76, 77, 78, 79, 80, 81, 82, 83, 84, 85, 267, 268, 269, 270, 362, 306, 307, 308, 309, 363, 225, 226, 227, 228, 91, 92, 93, 428, 429, 430, 431, 432, 433, 434, 435, 436, 437, 438, 439, 440, 441, 442, 443, 444, 445, 446, 447, 448, 449, 450, 451] (by decide +kernel) (by decide +kernel)
set_option maxRecDepth 20000 in
theorem gL_acts_X8_cell : GoodIn wsL_acts (wsV RL 85 RX8 yX8_cell wsX8_cell) := goodIn_app (goodIn_of _ (by decide +kernel)) ggL_acts_X8_cell
set_option maxRecDepth 20000 in
theorem ggL_acts_X8_clear : GoodIn wsL_acts wsX8_clear := goodIn_r _ [367, 17, 16, 18, 19, 14, 20, 37, 38, 39, 40, 41, 42, 43, 44, 45, 46, 47, 48, 49, 50, 51, 52, 53, 27, 54, 29, 30, 55, 56, 57, 58, 59, 60, 61, 34, 62, 63, 64, 65, 36, 66, 67, 68, 69, 70, 71, 72, 73, 74, 75, 76, 77, 78, 79, 80, 81, 82, 83, 84, 85, 24, 25, 26, 28, 267, 268, 269, 270, 368, 369, 370, 371, 309, 372, 103, 104, 105, 106, 107, 108, 109, 428, 429, 430, 431, 432, 443, 444, 445, 446, 447, 433, 434, 435, 436, 437, 438, 439, 440, 441, 442, 448, 449, 450, 451] (by decide +kernel) (by decide +kernel)
set_option maxRecDepth 20000 in
theorem gL_acts_X8_clear : GoodIn wsL_acts (wsV RL 88 RX8 yX8_clear wsX8_clear) := goodIn_app (goodIn_of _ (by decide +kernel)) ggL_acts_X8_clear
set_option maxRecDepth 20000 in
theorem ggL_acts_X8_both : GoodIn wsL_acts wsX8_both := goodIn_r _ [376, 17, 16, 18, 19, 14, 20, 37, 38, 39, 40, 41, 42, 43, 44, 45, 46, 47, 48, 49, 50, 51, 52, 53, 27, 54, 29, 30, 55, 56, 57, 58, 59, 60, 61, 34, 62, 63, 64, 65, 36, 66, 67, 68, 69, 70, 71, 72, 73, 74, 75, 76, 77, 78, 79, 80, 81, 82, 83, 84, 85, 377, 378, 379, 380, 428, 429, 430, 431, 432, 443, 444, 445, 446, 447, 433, 434, 435, 436, 437, 438, 439, 440, 441, 442, 448, 449, 450, 451] (by decide +kernel) (by decide +kernel)
set_option maxRecDepth 20000 in
theorem gL_acts_X8_both : GoodIn wsL_acts (wsV RL 91 RX8 yX8_both wsX8_both) := goodIn_app (goodIn_of _ (by decide +kernel)) ggL_acts_X8_both
set_option maxRecDepth 20000 in
theorem ggL_acts_X8_order_1 : GoodIn wsL_acts ((Cond.code yX8_order cX8_order 4 (some .int)) :: wsX8_order_r1) := goodIn_r _ [384, 17, 16, 258, 18, 19, 14, 20, 37, 38, 39, 40, 41, 42, 43, 44, 45, 46, 47, 48, 49, 50, 51, 52, 53] (by decide +kernel) (by decide +kernel)
set_option maxRecDepth 20000 in
theorem ggL_acts_X8_order_2 : GoodIn wsL_acts wsX8_order_r2 := goodIn_r _ [27, 54, 29, 30, 55, 56, 57, 58, 59, 60, 61, 34, 62, 63, 64, 65, 36, 66, 67, 68, 69, 70, 71, 72] (by decide +kernel) (by decide +kernel)
set_option maxRecDepth 20000 in
theorem ggL_acts_X8_order_3 : GoodIn wsL_acts wsX8_order_r3 := goodIn_r _ [73, 74, 75, 76, 77, 78, 79, 80, 81, 82, 83, 84, 85, 385, 386, 387, 388, 389, 91, 92, 93, 276, 277, 278] (by decide +kernel) (by decide +kernel)
set_option maxRecDepth 20000 in
theorem ggL_acts_X8_order_4 : GoodIn wsL_acts wsX8_order_r4 := goodIn_r _ [279, 280, 281, 282, 283, 284, 285, 286, 287, 288, 289, 290, 107, 108, 109, 291, 292, 293, 294, 295, 268, 269, 270, 296] (by decide +kernel) (by decide +kernel)
set_option maxRecDepth 20000 in
theorem ggL_acts_X8_order_5 : GoodIn wsL_acts wsX8_order_r5 := goodIn_r _ [297, 298, 299, 300, 136, 137, 138, 301, 302, 303, 304, 305, 306, 307, 308, 309, 310, 311, 312, 313, 314, 315, 25, 26] (by decide +kernel) (by decide +kernel)
set_option maxRecDepth 20000 in
theorem ggL_acts_X8_order_6 : GoodIn wsL_acts wsX8_order_r6 := goodIn_r _ [28, 316, 32, 33, 35, 317, 318, 319, 320, 321, 322, 323, 324, 325, 326, 327, 328, 329, 330, 144, 145, 146, 147, 115] (by decide +kernel) (by decide +kernel)
set_option maxRecDepth 20000 in
theorem ggL_acts_X8_order_7 : GoodIn wsL_acts wsX8_order_r7 := goodIn_r _ [116, 117, 148, 122, 331, 332, 333, 334, 335] (by decide +kernel) (by decide +kernel)
set_option maxRecDepth 20000 in
theorem ggL_acts_X8_order_8 : GoodIn wsL_acts wsX80 := goodIn_r _ [428, 429, 430, 431, 432] (by decide +kernel) (by decide +kernel)
set_option maxRecDepth 20000 in
theorem ggL_acts_X8_order_9 : GoodIn wsL_acts wsX20 := goodIn_r _ [443, 444, 445, 446, 447] (by decide +kernel) (by decide +kernel)
set_option maxRecDepth 20000 in
theorem ggL_acts_X8_order_10 : GoodIn wsL_acts wsX60 := goodIn_r _ [433, 434, 435, 436, 437, 438] (by decide +kernel) (by decide +kernel)
set_option maxRecDepth 20000 in
theorem ggL_acts_X8_order_11 : GoodIn wsL_acts wsX00 := goodIn_r _ [439, 440, 441, 442] (by decide +kernel) (by decide +kernel)
set_option maxRecDepth 20000 in
theorem ggL_acts_X8_order_12 : GoodIn wsL_acts wsX30 := goodIn_r _ [448] (by decide +kernel) (by decide +kernel)
set_option maxRecDepth 20000 in
theorem ggL_acts_X8_order_13 : GoodIn wsL_acts wsX10 := goodIn_r _ [449, 450, 451] (by decide +kernel) (by decide +kernel)
set_option maxRecDepth 20000 in
theorem ggL_acts_X8_order_14 : GoodIn wsL_acts wsX50 := goodIn_r _ [460, 461, 462, 463, 464, 465] (by decide +kernel) (by decide +kernel)
theorem ggL_acts_X8_order : GoodIn wsL_acts wsX8_order := goodIn_ca (goodIn_ca (goodIn_ca (goodIn_ca (goodIn_ca (goodIn_ca (goodIn_ca (goodIn_ca (ggL_acts_X8_order_1) (goodIn_app (ggL_acts_X8_order_2) (goodIn_app (ggL_acts_X8_order_3) (goodIn_app (ggL_acts_X8_order_4) (goodIn_app (ggL_acts_X8_order_5) (goodIn_app (ggL_acts_X8_order_6) (ggL_acts_X8_order_7))))))) (ggL_acts_X8_order_8)) (ggL_acts_X8_order_9)) (ggL_acts_X8_order_10)) (ggL_acts_X8_order_11)) (ggL_acts_X8_order_12)) (ggL_acts_X8_order_13)) (ggL_acts_X8_order_14)
set_option maxRecDepth 20000 in
theorem gL_acts_X8_order : GoodIn wsL_acts (wsV RL 94 RX8 yX8_order wsX8_order) := goodIn_app (goodIn_of _ (by decide +kernel)) ggL_acts_X8_order
set_option maxRecDepth 20000 in
theorem ggL_acts_L_many : GoodIn wsL_acts wsL_many := goodIn_r _ [338, 339, 340, 341, 5, 342, 343, 344, 345, 346, 347, 348, 149, 150, 151, 349, 350, 351] (by decide +kernel) (by decide +kernel)
set_option maxRecDepth 20000 in
theorem gL_acts_L_many : GoodIn wsL_acts (va_wsS RL 50 yL_many wsL_many) := goodIn_app (goodIn_of _ (by decide +kernel)) ggL_acts_L_many
set_option maxRecDepth 20000 in
theorem ggL_acts_X8_show_1 : GoodIn wsL_acts ((Cond.code yX8_show cX8_show 2 (some .int)) :: wsX8_show_r1) := goodIn_r _ [393, 17, 16, 258, 37, 38, 39, 40, 41, 42, 43, 44, 45, 46, 47, 48, 49, 50, 51, 52, 53, 27, 54, 29, 30] (by decide +kernel) (by decide +kernel)
set_option maxRecDepth 20000 in
theorem ggL_acts_X8_show_2 : GoodIn wsL_acts wsX8_show_r2 := goodIn_r _ [55, 56, 57, 58, 59, 60, 61, 34, 62, 63, 64, 65, 36, 66, 67, 68, 69, 70, 71, 72, 73, 74, 75, 76] (by decide +kernel) (by decide +kernel)
set_option maxRecDepth 20000 in
theorem ggL_acts_X8_show_3 : GoodIn wsL_acts wsX8_show_r3 := goodIn_r _ [77, 78, 79, 80, 81, 82, 83, 84, 85, 394, 395, 396, 397, 398, 399, 400, 279, 401, 402, 281, 283, 403, 277, 278] (by decide +kernel) (by decide +kernel)
set_option maxRecDepth 20000 in
theorem ggL_acts_X8_show_4 : GoodIn wsL_acts wsX8_show_r4 := goodIn_r _ [280, 282, 284, 285, 286, 287, 288, 289, 290, 107, 108, 109, 291, 292, 293, 294, 295, 268, 269, 270, 296, 297, 298, 299] (by decide +kernel) (by decide +kernel)
set_option maxRecDepth 20000 in
theorem ggL_acts_X8_show_5 : GoodIn wsL_acts wsX8_show_r5 := goodIn_r _ [300, 136, 137, 138, 301, 302, 303, 304, 305, 306, 307, 308, 309, 310, 311, 312, 313, 314, 91, 92, 93, 315, 25, 26] (by decide +kernel) (by decide +kernel)
set_option maxRecDepth 20000 in
theorem ggL_acts_X8_show_6 : GoodIn wsL_acts wsX8_show_r6 := goodIn_r _ [28, 316, 32, 33, 35, 317, 318, 319, 320, 321, 322, 323, 324, 325, 326, 327, 328, 329, 330, 144, 145, 146, 147, 115] (by decide +kernel) (by decide +kernel)
set_option maxRecDepth 20000 in
theorem ggL_acts_X8_show_7 : GoodIn wsL_acts wsX8_show_r7 := goodIn_r _ [116, 117, 148, 122, 331, 332, 333, 334, 335, 404, 405, 406, 407, 408, 409, 410, 411, 412, 413, 414, 415, 416, 417, 418] (by decide +kernel) (by decide +kernel)
set_option maxRecDepth 20000 in
theorem ggL_acts_X8_show_8 : GoodIn wsL_acts wsX8_show_r8 := goodIn_r _ [419, 420, 421] (by decide +kernel) (by decide +kernel)
set_option maxRecDepth 20000 in
theorem ggL_acts_X8_show_9 : GoodIn wsL_acts wsX80 := goodIn_r _ [428, 429, 430, 431, 432] (by decide +kernel) (by decide +kernel)
set_option maxRecDepth 20000 in
theorem ggL_acts_X8_show_10 : GoodIn wsL_acts wsX20 := goodIn_r _ [443, 444, 445, 446, 447] (by decide +kernel) (by decide +kernel)
set_option maxRecDepth 20000 in
theorem ggL_acts_X8_show_11 : GoodIn wsL_acts wsX60 := goodIn_r _ [433, 434, 435, 436, 437, 438] (by decide +kernel) (by decide +kernel)
set_option maxRecDepth 20000 in
theorem ggL_acts_X8_show_12 : GoodIn wsL_acts wsX00 := goodIn_r _ [439, 440, 441, 442] (by decide +kernel) (by decide +kernel)
set_option maxRecDepth 20000 in
theorem ggL_acts_X8_show_13 : GoodIn wsL_acts wsX30 := goodIn_r _ [448] (by decide +kernel) (by decide +kernel)
set_option maxRecDepth 20000 in
theorem ggL_acts_X8_show_14 : GoodIn wsL_acts wsX10 := goodIn_r _ [449, 450, 451] (by decide +kernel) (by decide +kernel)
set_option maxRecDepth 20000 in
theorem ggL_acts_X8_show_15 : GoodIn wsL_acts wsX50 := goodIn_r _ [460, 461, 462, 463, 464, 465] (by decide +kernel) (by decide +kernel)
theorem ggL_acts_X8_show : GoodIn wsL_acts wsX8_show := goodIn_ca (goodIn_ca (goodIn_ca (goodIn_ca (goodIn_ca (goodIn_ca (goodIn_ca (goodIn_ca (ggL_acts_X8_show_1) (goodIn_app (ggL_acts_X8_show_2) (goodIn_app (ggL_acts_X8_show_3) (goodIn_app (ggL_acts_X8_show_4) (goodIn_app (ggL_acts_X8_show_5) (goodIn_app (ggL_acts_X8_show_6) (goodIn_app (ggL_acts_X8_show_7) (ggL_acts_X8_show_8)))))))) (ggL_acts_X8_show_9)) (ggL_acts_X8_show_10)) (ggL_acts_X8_show_11)) (ggL_acts_X8_show_12)) (ggL_acts_X8_show_13)) (ggL_acts_X8_show_14)) (ggL_acts_X8_show_15)
set_option maxRecDepth 20000 in
theorem gL_acts_X8_show : GoodIn wsL_acts (wsV RL 98 RX8 yX8_show wsX8_show) := goodIn_app (goodIn_of _ (by decide +kernel)) ggL_acts_X8_show
set_option maxRecDepth 20000 in
theorem ggL_acts_L_unlike : GoodIn wsL_acts wsL_unlike := goodIn_r _ [424, 425, 426, 5, 427, 343, 344, 345, 346, 347, 348, 149, 150, 151] (by decide +kernel) (by decide +kernel)
set_option maxRecDepth 20000 in
theorem gL_acts_L_unlike : GoodIn wsL_acts (va_wsS RL 101 yL_unlike wsL_unlike) := goodIn_app (goodIn_of _ (by decide +kernel)) ggL_acts_L_unlike
theorem dL_acts_0 : decode cL_acts 0 = .ok (.iload 6, 2) := by decide +kernel
theorem dL_acts_2 : decode cL_acts 2 = .ok (.iconst 5, 1) := by decide +kernel
theorem dL_acts_3 : decode cL_acts 3 = .ok (.ishr, 1) := by decide +kernel
theorem dL_acts_4 : decode cL_acts 4 = .ok (.ldc 73, 2) := by decide +kernel
theorem dL_acts_6 : decode cL_acts 6 = .ok (.invokestatic 74, 3) := by decide +kernel
theorem dL_acts_9 : decode cL_acts 9 = .ok (.istore 7, 2) := by decide +kernel
theorem dL_acts_11 : decode cL_acts 11 = .ok (.iload 6, 2) := by decide +kernel
theorem dL_acts_13 : decode cL_acts 13 = .ok (.bipush 32, 2) := by decide +kernel
theorem dL_acts_15 : decode cL_acts 15 = .ok (.invokestatic 74, 3) := by decide +kernel
theorem dL_acts_18 : decode cL_acts 18 = .ok (.istore 8, 2) := by decide +kernel
theorem dL_acts_20 : decode cL_acts 20 = .ok (.iconst 3, 1) := by decide +kernel
theorem dL_acts_21 : decode cL_acts 21 = .ok (.newarray .long, 2) := by decide +kernel
theorem dL_acts_23 : decode cL_acts 23 = .ok (.astore 9, 2) := by decide +kernel
theorem dL_acts_25 : decode cL_acts 25 = .ok (.iload 8, 2) := by decide +kernel
theorem dL_acts_27 : decode cL_acts 27 = .ok (.bipush 13, 2) := by decide +kernel
theorem dL_acts_29 : decode cL_acts 29 = .ok (.if_icmp .ge 62, 3) := by decide +kernel
theorem dL_acts_32 : decode cL_acts 32 = .ok (.aload_n 0, 1) := by decide +kernel
theorem dL_acts_33 : decode cL_acts 33 = .ok (.aload_n 1, 1) := by decide +kernel
theorem dL_acts_34 : decode cL_acts 34 = .ok (.aload_n 2, 1) := by decide +kernel
theorem dL_acts_35 : decode cL_acts 35 = .ok (.aload_n 3, 1) := by decide +kernel
theorem dL_acts_36 : decode cL_acts 36 = .ok (.aload 4, 2) := by decide +kernel
theorem dL_acts_38 : decode cL_acts 38 = .ok (.aload 5, 2) := by decide +kernel
theorem dL_acts_40 : decode cL_acts 40 = .ok (.iload 8, 2) := by decide +kernel
theorem dL_acts_42 : decode cL_acts 42 = .ok (.bipush 9, 2) := by decide +kernel
theorem dL_acts_44 : decode cL_acts 44 = .ok (.if_icmp .ge 7, 3) := by decide +kernel
theorem dL_acts_47 : decode cL_acts 47 = .ok (.iconst 0, 1) := by decide +kernel
theorem dL_acts_48 : decode cL_acts 48 = .ok (.goto 37, 3) := by decide +kernel
theorem dL_acts_51 : decode cL_acts 51 = .ok (.iload 8, 2) := by decide +kernel
theorem dL_acts_53 : decode cL_acts 53 = .ok (.bipush 11, 2) := by decide +kernel
theorem dL_acts_55 : decode cL_acts 55 = .ok (.if_icmp .ge 7, 3) := by decide +kernel
theorem dL_acts_58 : decode cL_acts 58 = .ok (.iconst 3, 1) := by decide +kernel
theorem dL_acts_59 : decode cL_acts 59 = .ok (.goto 26, 3) := by decide +kernel
theorem dL_acts_62 : decode cL_acts 62 = .ok (.iload 8, 2) := by decide +kernel
theorem dL_acts_64 : decode cL_acts 64 = .ok (.bipush 11, 2) := by decide +kernel
theorem dL_acts_66 : decode cL_acts 66 = .ok (.if_icmp .ne 7, 3) := by decide +kernel
theorem dL_acts_69 : decode cL_acts 69 = .ok (.iconst 2, 1) := by decide +kernel
theorem dL_acts_70 : decode cL_acts 70 = .ok (.goto 15, 3) := by decide +kernel
theorem dL_acts_73 : decode cL_acts 73 = .ok (.iload 7, 2) := by decide +kernel
theorem dL_acts_75 : decode cL_acts 75 = .ok (.iconst 3, 1) := by decide +kernel
theorem dL_acts_76 : decode cL_acts 76 = .ok (.irem, 1) := by decide +kernel
theorem dL_acts_77 : decode cL_acts 77 = .ok (.ifCond .ne 7, 3) := by decide +kernel
theorem dL_acts_80 : decode cL_acts 80 = .ok (.iconst 1, 1) := by decide +kernel
theorem dL_acts_81 : decode cL_acts 81 = .ok (.goto 4, 3) := by decide +kernel
theorem dL_acts_84 : decode cL_acts 84 = .ok (.iconst 0, 1) := by decide +kernel
theorem dL_acts_85 : decode cL_acts 85 = .ok (.iload 7, 2) := by decide +kernel
theorem dL_acts_87 : decode cL_acts 87 = .ok (.invokestatic 77, 3) := by decide +kernel
theorem dL_acts_90 : decode cL_acts 90 = .ok (.ireturn, 1) := by decide +kernel
theorem dL_acts_91 : decode cL_acts 91 = .ok (.iload 8, 2) := by decide +kernel
theorem dL_acts_93 : decode cL_acts 93 = .ok (.bipush 16, 2) := by decide +kernel
theorem dL_acts_95 : decode cL_acts 95 = .ok (.if_icmp .ge 17, 3) := by decide +kernel
theorem dL_acts_98 : decode cL_acts 98 = .ok (.aload_n 0, 1) := by decide +kernel
theorem dL_acts_99 : decode cL_acts 99 = .ok (.aload_n 1, 1) := by decide +kernel
theorem dL_acts_100 : decode cL_acts 100 = .ok (.aload_n 2, 1) := by decide +kernel
theorem dL_acts_101 : decode cL_acts 101 = .ok (.aload_n 3, 1) := by decide +kernel
theorem dL_acts_102 : decode cL_acts 102 = .ok (.aload 4, 2) := by decide +kernel
theorem dL_acts_104 : decode cL_acts 104 = .ok (.aload 5, 2) := by decide +kernel
theorem dL_acts_106 : decode cL_acts 106 = .ok (.iload 7, 2) := by decide +kernel
theorem dL_acts_108 : decode cL_acts 108 = .ok (.invokestatic 81, 3) := by decide +kernel
theorem dL_acts_111 : decode cL_acts 111 = .ok (.ireturn, 1) := by decide +kernel
theorem dL_acts_112 : decode cL_acts 112 = .ok (.iload 7, 2) := by decide +kernel
theorem dL_acts_114 : decode cL_acts 114 = .ok (.iconst 2, 1) := by decide +kernel
theorem dL_acts_115 : decode cL_acts 115 = .ok (.irem, 1) := by decide +kernel
theorem dL_acts_116 : decode cL_acts 116 = .ok (.istore 10, 2) := by decide +kernel
theorem dL_acts_118 : decode cL_acts 118 = .ok (.iload 8, 2) := by decide +kernel
theorem dL_acts_120 : decode cL_acts 120 = .ok (.bipush 25, 2) := by decide +kernel
theorem dL_acts_122 : decode cL_acts 122 = .ok (.if_icmp .ge 156, 3) := by decide +kernel
theorem dL_acts_125 : decode cL_acts 125 = .ok (.iload 7, 2) := by decide +kernel
theorem dL_acts_127 : decode cL_acts 127 = .ok (.iconst 2, 1) := by decide +kernel
theorem dL_acts_128 : decode cL_acts 128 = .ok (.idiv, 1) := by decide +kernel
theorem dL_acts_129 : decode cL_acts 129 = .ok (.aload_n 1, 1) := by decide +kernel
theorem dL_acts_130 : decode cL_acts 130 = .ok (.iload 10, 2) := by decide +kernel
theorem dL_acts_132 : decode cL_acts 132 = .ok (.iaload, 1) := by decide +kernel
theorem dL_acts_133 : decode cL_acts 133 = .ok (.irem, 1) := by decide +kernel
theorem dL_acts_134 : decode cL_acts 134 = .ok (.istore 11, 2) := by decide +kernel
theorem dL_acts_136 : decode cL_acts 136 = .ok (.iload 7, 2) := by decide +kernel
theorem dL_acts_138 : decode cL_acts 138 = .ok (.bipush 8, 2) := by decide +kernel
theorem dL_acts_140 : decode cL_acts 140 = .ok (.idiv, 1) := by decide +kernel
theorem dL_acts_141 : decode cL_acts 141 = .ok (.bipush 11, 2) := by decide +kernel
theorem dL_acts_143 : decode cL_acts 143 = .ok (.irem, 1) := by decide +kernel
theorem dL_acts_144 : decode cL_acts 144 = .ok (.istore 12, 2) := by decide +kernel
theorem dL_acts_146 : decode cL_acts 146 = .ok (.iload 12, 2) := by decide +kernel
theorem dL_acts_148 : decode cL_acts 148 = .ok (.iconst 3, 1) := by decide +kernel
theorem dL_acts_149 : decode cL_acts 149 = .ok (.if_icmp .ge 7, 3) := by decide +kernel
theorem dL_acts_152 : decode cL_acts 152 = .ok (.iconst 0, 1) := by decide +kernel
theorem dL_acts_153 : decode cL_acts 153 = .ok (.goto 28, 3) := by decide +kernel
theorem dL_acts_156 : decode cL_acts 156 = .ok (.iload 12, 2) := by decide +kernel
theorem dL_acts_158 : decode cL_acts 158 = .ok (.bipush 7, 2) := by decide +kernel
theorem dL_acts_160 : decode cL_acts 160 = .ok (.if_icmp .le 13, 3) := by decide +kernel
theorem dL_acts_163 : decode cL_acts 163 = .ok (.iload 7, 2) := by decide +kernel
theorem dL_acts_165 : decode cL_acts 165 = .ok (.bipush 88, 2) := by decide +kernel
theorem dL_acts_167 : decode cL_acts 167 = .ok (.idiv, 1) := by decide +kernel
theorem dL_acts_168 : decode cL_acts 168 = .ok (.iconst 4, 1) := by decide +kernel
theorem dL_acts_169 : decode cL_acts 169 = .ok (.irem, 1) := by decide +kernel
theorem dL_acts_170 : decode cL_acts 170 = .ok (.goto 11, 3) := by decide +kernel
theorem dL_acts_173 : decode cL_acts 173 = .ok (.iload 7, 2) := by decide +kernel
theorem dL_acts_175 : decode cL_acts 175 = .ok (.bipush 88, 2) := by decide +kernel
theorem dL_acts_177 : decode cL_acts 177 = .ok (.idiv, 1) := by decide +kernel
theorem dL_acts_178 : decode cL_acts 178 = .ok (.bipush 7, 2) := by decide +kernel
theorem dL_acts_180 : decode cL_acts 180 = .ok (.irem, 1) := by decide +kernel
theorem dL_acts_181 : decode cL_acts 181 = .ok (.istore 13, 2) := by decide +kernel
theorem dL_acts_183 : decode cL_acts 183 = .ok (.iload 12, 2) := by decide +kernel
theorem dL_acts_185 : decode cL_acts 185 = .ok (.bipush 7, 2) := by decide +kernel
theorem dL_acts_187 : decode cL_acts 187 = .ok (.if_icmp .ne 17, 3) := by decide +kernel
theorem dL_acts_190 : decode cL_acts 190 = .ok (.iload 13, 2) := by decide +kernel
theorem dL_acts_192 : decode cL_acts 192 = .ok (.iload 7, 2) := by decide +kernel
theorem dL_acts_194 : decode cL_acts 194 = .ok (.sipush 616, 3) := by decide +kernel
theorem dL_acts_197 : decode cL_acts 197 = .ok (.idiv, 1) := by decide +kernel
theorem dL_acts_198 : decode cL_acts 198 = .ok (.iconst 5, 1) := by decide +kernel
theorem dL_acts_199 : decode cL_acts 199 = .ok (.irem, 1) := by decide +kernel
theorem dL_acts_200 : decode cL_acts 200 = .ok (.iadd, 1) := by decide +kernel
theorem dL_acts_201 : decode cL_acts 201 = .ok (.goto 4, 3) := by decide +kernel
theorem dL_acts_204 : decode cL_acts 204 = .ok (.iconst 0, 1) := by decide +kernel
theorem dL_acts_205 : decode cL_acts 205 = .ok (.istore 14, 2) := by decide +kernel
theorem dL_acts_207 : decode cL_acts 207 = .ok (.aload_n 3, 1) := by decide +kernel
theorem dL_acts_208 : decode cL_acts 208 = .ok (.iconst 4, 1) := by decide +kernel
theorem dL_acts_209 : decode cL_acts 209 = .ok (.iload 10, 2) := by decide +kernel
theorem dL_acts_211 : decode cL_acts 211 = .ok (.imul, 1) := by decide +kernel
theorem dL_acts_212 : decode cL_acts 212 = .ok (.iload 11, 2) := by decide +kernel
theorem dL_acts_214 : decode cL_acts 214 = .ok (.iadd, 1) := by decide +kernel
theorem dL_acts_215 : decode cL_acts 215 = .ok (.iaload, 1) := by decide +kernel
theorem dL_acts_216 : decode cL_acts 216 = .ok (.istore 15, 2) := by decide +kernel
theorem dL_acts_218 : decode cL_acts 218 = .ok (.aload_n 3, 1) := by decide +kernel
theorem dL_acts_219 : decode cL_acts 219 = .ok (.iconst 4, 1) := by decide +kernel
theorem dL_acts_220 : decode cL_acts 220 = .ok (.iload 10, 2) := by decide +kernel
theorem dL_acts_222 : decode cL_acts 222 = .ok (.imul, 1) := by decide +kernel
theorem dL_acts_223 : decode cL_acts 223 = .ok (.iload 11, 2) := by decide +kernel
theorem dL_acts_225 : decode cL_acts 225 = .ok (.iadd, 1) := by decide +kernel
theorem dL_acts_226 : decode cL_acts 226 = .ok (.iload 12, 2) := by decide +kernel
theorem dL_acts_228 : decode cL_acts 228 = .ok (.iastore, 1) := by decide +kernel
theorem dL_acts_229 : decode cL_acts 229 = .ok (.aload 4, 2) := by decide +kernel
theorem dL_acts_231 : decode cL_acts 231 = .ok (.iconst 4, 1) := by decide +kernel
theorem dL_acts_232 : decode cL_acts 232 = .ok (.iload 10, 2) := by decide +kernel
theorem dL_acts_234 : decode cL_acts 234 = .ok (.imul, 1) := by decide +kernel
theorem dL_acts_235 : decode cL_acts 235 = .ok (.iload 11, 2) := by decide +kernel
theorem dL_acts_237 : decode cL_acts 237 = .ok (.iadd, 1) := by decide +kernel
theorem dL_acts_238 : decode cL_acts 238 = .ok (.iload 13, 2) := by decide +kernel
theorem dL_acts_240 : decode cL_acts 240 = .ok (.iastore, 1) := by decide +kernel
theorem dL_acts_241 : decode cL_acts 241 = .ok (.aload 5, 2) := by decide +kernel
theorem dL_acts_243 : decode cL_acts 243 = .ok (.iconst 4, 1) := by decide +kernel
theorem dL_acts_244 : decode cL_acts 244 = .ok (.iload 10, 2) := by decide +kernel
theorem dL_acts_246 : decode cL_acts 246 = .ok (.imul, 1) := by decide +kernel
theorem dL_acts_247 : decode cL_acts 247 = .ok (.iload 11, 2) := by decide +kernel
theorem dL_acts_249 : decode cL_acts 249 = .ok (.iadd, 1) := by decide +kernel
theorem dL_acts_250 : decode cL_acts 250 = .ok (.iload 14, 2) := by decide +kernel
theorem dL_acts_252 : decode cL_acts 252 = .ok (.iastore, 1) := by decide +kernel
theorem dL_acts_253 : decode cL_acts 253 = .ok (.aload_n 0, 1) := by decide +kernel
theorem dL_acts_254 : decode cL_acts 254 = .ok (.iload 10, 2) := by decide +kernel
theorem dL_acts_256 : decode cL_acts 256 = .ok (.iload 11, 2) := by decide +kernel
theorem dL_acts_258 : decode cL_acts 258 = .ok (.iload 12, 2) := by decide +kernel
theorem dL_acts_260 : decode cL_acts 260 = .ok (.iload 13, 2) := by decide +kernel
theorem dL_acts_262 : decode cL_acts 262 = .ok (.iload 14, 2) := by decide +kernel
theorem dL_acts_264 : decode cL_acts 264 = .ok (.invokevirtual 85, 3) := by decide +kernel
theorem dL_acts_267 : decode cL_acts 267 = .ok (.iload 15, 2) := by decide +kernel
theorem dL_acts_269 : decode cL_acts 269 = .ok (.if_icmp .ne 7, 3) := by decide +kernel
theorem dL_acts_272 : decode cL_acts 272 = .ok (.iconst 1, 1) := by decide +kernel
theorem dL_acts_273 : decode cL_acts 273 = .ok (.goto 4, 3) := by decide +kernel
theorem dL_acts_276 : decode cL_acts 276 = .ok (.iconst 0, 1) := by decide +kernel
theorem dL_acts_277 : decode cL_acts 277 = .ok (.ireturn, 1) := by decide +kernel
theorem dL_acts_278 : decode cL_acts 278 = .ok (.iload 8, 2) := by decide +kernel
theorem dL_acts_280 : decode cL_acts 280 = .ok (.bipush 25, 2) := by decide +kernel
theorem dL_acts_282 : decode cL_acts 282 = .ok (.if_icmp .ne 80, 3) := by decide +kernel
theorem dL_acts_285 : decode cL_acts 285 = .ok (.iconst 0, 1) := by decide +kernel
theorem dL_acts_286 : decode cL_acts 286 = .ok (.istore 11, 2) := by decide +kernel
theorem dL_acts_288 : decode cL_acts 288 = .ok (.iconst 4, 1) := by decide +kernel
theorem dL_acts_289 : decode cL_acts 289 = .ok (.iload 10, 2) := by decide +kernel
theorem dL_acts_291 : decode cL_acts 291 = .ok (.imul, 1) := by decide +kernel
theorem dL_acts_292 : decode cL_acts 292 = .ok (.istore 12, 2) := by decide +kernel
theorem dL_acts_294 : decode cL_acts 294 = .ok (.iload 12, 2) := by decide +kernel
theorem dL_acts_296 : decode cL_acts 296 = .ok (.iconst 4, 1) := by decide +kernel
theorem dL_acts_297 : decode cL_acts 297 = .ok (.iload 10, 2) := by decide +kernel
theorem dL_acts_299 : decode cL_acts 299 = .ok (.imul, 1) := by decide +kernel
theorem dL_acts_300 : decode cL_acts 300 = .ok (.iconst 4, 1) := by decide +kernel
theorem dL_acts_301 : decode cL_acts 301 = .ok (.iadd, 1) := by decide +kernel
theorem dL_acts_302 : decode cL_acts 302 = .ok (.if_icmp .ge 43, 3) := by decide +kernel
theorem dL_acts_305 : decode cL_acts 305 = .ok (.iload 11, 2) := by decide +kernel
theorem dL_acts_307 : decode cL_acts 307 = .ok (.aload_n 3, 1) := by decide +kernel
theorem dL_acts_308 : decode cL_acts 308 = .ok (.iload 12, 2) := by decide +kernel
theorem dL_acts_310 : decode cL_acts 310 = .ok (.iaload, 1) := by decide +kernel
theorem dL_acts_311 : decode cL_acts 311 = .ok (.ifCond .eq 7, 3) := by decide +kernel
theorem dL_acts_314 : decode cL_acts 314 = .ok (.iconst 1, 1) := by decide +kernel
theorem dL_acts_315 : decode cL_acts 315 = .ok (.goto 4, 3) := by decide +kernel
theorem dL_acts_318 : decode cL_acts 318 = .ok (.iconst 0, 1) := by decide +kernel
theorem dL_acts_319 : decode cL_acts 319 = .ok (.iadd, 1) := by decide +kernel
theorem dL_acts_320 : decode cL_acts 320 = .ok (.istore 11, 2) := by decide +kernel
theorem dL_acts_322 : decode cL_acts 322 = .ok (.aload_n 3, 1) := by decide +kernel
theorem dL_acts_323 : decode cL_acts 323 = .ok (.iload 12, 2) := by decide +kernel
theorem dL_acts_325 : decode cL_acts 325 = .ok (.iconst 0, 1) := by decide +kernel
theorem dL_acts_326 : decode cL_acts 326 = .ok (.iastore, 1) := by decide +kernel
theorem dL_acts_327 : decode cL_acts 327 = .ok (.aload 4, 2) := by decide +kernel
theorem dL_acts_329 : decode cL_acts 329 = .ok (.iload 12, 2) := by decide +kernel
theorem dL_acts_331 : decode cL_acts 331 = .ok (.iconst 0, 1) := by decide +kernel
theorem dL_acts_332 : decode cL_acts 332 = .ok (.iastore, 1) := by decide +kernel
theorem dL_acts_333 : decode cL_acts 333 = .ok (.aload 5, 2) := by decide +kernel
theorem dL_acts_335 : decode cL_acts 335 = .ok (.iload 12, 2) := by decide +kernel
theorem dL_acts_337 : decode cL_acts 337 = .ok (.iconst 0, 1) := by decide +kernel
theorem dL_acts_338 : decode cL_acts 338 = .ok (.iastore, 1) := by decide +kernel
theorem dL_acts_339 : decode cL_acts 339 = .ok (.iinc 12 1, 3) := by decide +kernel
theorem dL_acts_342 : decode cL_acts 342 = .ok (.goto (-48), 3) := by decide +kernel
theorem dL_acts_345 : decode cL_acts 345 = .ok (.aload_n 0, 1) := by decide +kernel
theorem dL_acts_346 : decode cL_acts 346 = .ok (.iload 10, 2) := by decide +kernel
theorem dL_acts_348 : decode cL_acts 348 = .ok (.invokevirtual 88, 3) := by decide +kernel
theorem dL_acts_351 : decode cL_acts 351 = .ok (.iload 11, 2) := by decide +kernel
theorem dL_acts_353 : decode cL_acts 353 = .ok (.if_icmp .ne 7, 3) := by decide +kernel
theorem dL_acts_356 : decode cL_acts 356 = .ok (.iconst 1, 1) := by decide +kernel
theorem dL_acts_357 : decode cL_acts 357 = .ok (.goto 4, 3) := by decide +kernel
theorem dL_acts_360 : decode cL_acts 360 = .ok (.iconst 0, 1) := by decide +kernel
theorem dL_acts_361 : decode cL_acts 361 = .ok (.ireturn, 1) := by decide +kernel
theorem dL_acts_362 : decode cL_acts 362 = .ok (.iload 8, 2) := by decide +kernel
theorem dL_acts_364 : decode cL_acts 364 = .ok (.bipush 28, 2) := by decide +kernel
theorem dL_acts_366 : decode cL_acts 366 = .ok (.if_icmp .ge 41, 3) := by decide +kernel
theorem dL_acts_369 : decode cL_acts 369 = .ok (.aload_n 1, 1) := by decide +kernel
theorem dL_acts_370 : decode cL_acts 370 = .ok (.iconst 4, 1) := by decide +kernel
theorem dL_acts_371 : decode cL_acts 371 = .ok (.iaload, 1) := by decide +kernel
theorem dL_acts_372 : decode cL_acts 372 = .ok (.istore 11, 2) := by decide +kernel
theorem dL_acts_374 : decode cL_acts 374 = .ok (.aload_n 1, 1) := by decide +kernel
theorem dL_acts_375 : decode cL_acts 375 = .ok (.iconst 4, 1) := by decide +kernel
theorem dL_acts_376 : decode cL_acts 376 = .ok (.iload 7, 2) := by decide +kernel
theorem dL_acts_378 : decode cL_acts 378 = .ok (.iconst 3, 1) := by decide +kernel
theorem dL_acts_379 : decode cL_acts 379 = .ok (.irem, 1) := by decide +kernel
theorem dL_acts_380 : decode cL_acts 380 = .ok (.ifCond .le 7, 3) := by decide +kernel
theorem dL_acts_383 : decode cL_acts 383 = .ok (.iconst 1, 1) := by decide +kernel
theorem dL_acts_384 : decode cL_acts 384 = .ok (.goto 4, 3) := by decide +kernel
theorem dL_acts_387 : decode cL_acts 387 = .ok (.iconst 0, 1) := by decide +kernel
theorem dL_acts_388 : decode cL_acts 388 = .ok (.iastore, 1) := by decide +kernel
theorem dL_acts_389 : decode cL_acts 389 = .ok (.aload_n 0, 1) := by decide +kernel
theorem dL_acts_390 : decode cL_acts 390 = .ok (.aload_n 1, 1) := by decide +kernel
theorem dL_acts_391 : decode cL_acts 391 = .ok (.iconst 4, 1) := by decide +kernel
theorem dL_acts_392 : decode cL_acts 392 = .ok (.iaload, 1) := by decide +kernel
theorem dL_acts_393 : decode cL_acts 393 = .ok (.invokevirtual 91, 3) := by decide +kernel
theorem dL_acts_396 : decode cL_acts 396 = .ok (.iload 11, 2) := by decide +kernel
theorem dL_acts_398 : decode cL_acts 398 = .ok (.if_icmp .ne 7, 3) := by decide +kernel
theorem dL_acts_401 : decode cL_acts 401 = .ok (.iconst 1, 1) := by decide +kernel
theorem dL_acts_402 : decode cL_acts 402 = .ok (.goto 4, 3) := by decide +kernel
theorem dL_acts_405 : decode cL_acts 405 = .ok (.iconst 0, 1) := by decide +kernel
theorem dL_acts_406 : decode cL_acts 406 = .ok (.ireturn, 1) := by decide +kernel
theorem dL_acts_407 : decode cL_acts 407 = .ok (.iload 8, 2) := by decide +kernel
theorem dL_acts_409 : decode cL_acts 409 = .ok (.bipush 31, 2) := by decide +kernel
theorem dL_acts_411 : decode cL_acts 411 = .ok (.if_icmp .ge 86, 3) := by decide +kernel
theorem dL_acts_414 : decode cL_acts 414 = .ok (.iload 7, 2) := by decide +kernel
theorem dL_acts_416 : decode cL_acts 416 = .ok (.iconst 2, 1) := by decide +kernel
theorem dL_acts_417 : decode cL_acts 417 = .ok (.irem, 1) := by decide +kernel
theorem dL_acts_418 : decode cL_acts 418 = .ok (.istore 11, 2) := by decide +kernel
theorem dL_acts_420 : decode cL_acts 420 = .ok (.aload_n 1, 1) := by decide +kernel
theorem dL_acts_421 : decode cL_acts 421 = .ok (.iconst 5, 1) := by decide +kernel
theorem dL_acts_422 : decode cL_acts 422 = .ok (.iconst 2, 1) := by decide +kernel
theorem dL_acts_423 : decode cL_acts 423 = .ok (.iload 11, 2) := by decide +kernel
theorem dL_acts_425 : decode cL_acts 425 = .ok (.imul, 1) := by decide +kernel
theorem dL_acts_426 : decode cL_acts 426 = .ok (.iadd, 1) := by decide +kernel
theorem dL_acts_427 : decode cL_acts 427 = .ok (.iload 7, 2) := by decide +kernel
theorem dL_acts_429 : decode cL_acts 429 = .ok (.iconst 2, 1) := by decide +kernel
theorem dL_acts_430 : decode cL_acts 430 = .ok (.idiv, 1) := by decide +kernel
theorem dL_acts_431 : decode cL_acts 431 = .ok (.bipush 9, 2) := by decide +kernel
theorem dL_acts_433 : decode cL_acts 433 = .ok (.irem, 1) := by decide +kernel
theorem dL_acts_434 : decode cL_acts 434 = .ok (.iconst 1, 1) := by decide +kernel
theorem dL_acts_435 : decode cL_acts 435 = .ok (.isub, 1) := by decide +kernel
theorem dL_acts_436 : decode cL_acts 436 = .ok (.iastore, 1) := by decide +kernel
theorem dL_acts_437 : decode cL_acts 437 = .ok (.aload_n 1, 1) := by decide +kernel
theorem dL_acts_438 : decode cL_acts 438 = .ok (.bipush 6, 2) := by decide +kernel
theorem dL_acts_440 : decode cL_acts 440 = .ok (.iconst 2, 1) := by decide +kernel
theorem dL_acts_441 : decode cL_acts 441 = .ok (.iload 11, 2) := by decide +kernel
theorem dL_acts_443 : decode cL_acts 443 = .ok (.imul, 1) := by decide +kernel
theorem dL_acts_444 : decode cL_acts 444 = .ok (.iadd, 1) := by decide +kernel
theorem dL_acts_445 : decode cL_acts 445 = .ok (.iload 7, 2) := by decide +kernel
theorem dL_acts_447 : decode cL_acts 447 = .ok (.bipush 18, 2) := by decide +kernel
theorem dL_acts_449 : decode cL_acts 449 = .ok (.idiv, 1) := by decide +kernel
theorem dL_acts_450 : decode cL_acts 450 = .ok (.iconst 2, 1) := by decide +kernel
theorem dL_acts_451 : decode cL_acts 451 = .ok (.irem, 1) := by decide +kernel
theorem dL_acts_452 : decode cL_acts 452 = .ok (.iastore, 1) := by decide +kernel
theorem dL_acts_453 : decode cL_acts 453 = .ok (.aload_n 0, 1) := by decide +kernel
theorem dL_acts_454 : decode cL_acts 454 = .ok (.iload 11, 2) := by decide +kernel
theorem dL_acts_456 : decode cL_acts 456 = .ok (.aload_n 1, 1) := by decide +kernel
theorem dL_acts_457 : decode cL_acts 457 = .ok (.iconst 5, 1) := by decide +kernel
theorem dL_acts_458 : decode cL_acts 458 = .ok (.iconst 2, 1) := by decide +kernel
theorem dL_acts_459 : decode cL_acts 459 = .ok (.iload 11, 2) := by decide +kernel
theorem dL_acts_461 : decode cL_acts 461 = .ok (.imul, 1) := by decide +kernel
theorem dL_acts_462 : decode cL_acts 462 = .ok (.iadd, 1) := by decide +kernel
theorem dL_acts_463 : decode cL_acts 463 = .ok (.iaload, 1) := by decide +kernel
theorem dL_acts_464 : decode cL_acts 464 = .ok (.aload_n 1, 1) := by decide +kernel
theorem dL_acts_465 : decode cL_acts 465 = .ok (.bipush 6, 2) := by decide +kernel
theorem dL_acts_467 : decode cL_acts 467 = .ok (.iconst 2, 1) := by decide +kernel
theorem dL_acts_468 : decode cL_acts 468 = .ok (.iload 11, 2) := by decide +kernel
theorem dL_acts_470 : decode cL_acts 470 = .ok (.imul, 1) := by decide +kernel
theorem dL_acts_471 : decode cL_acts 471 = .ok (.iadd, 1) := by decide +kernel
theorem dL_acts_472 : decode cL_acts 472 = .ok (.iaload, 1) := by decide +kernel
theorem dL_acts_473 : decode cL_acts 473 = .ok (.invokevirtual 94, 3) := by decide +kernel
theorem dL_acts_476 : decode cL_acts 476 = .ok (.aload_n 1, 1) := by decide +kernel
theorem dL_acts_477 : decode cL_acts 477 = .ok (.aload_n 2, 1) := by decide +kernel
theorem dL_acts_478 : decode cL_acts 478 = .ok (.aload_n 3, 1) := by decide +kernel
theorem dL_acts_479 : decode cL_acts 479 = .ok (.aload 4, 2) := by decide +kernel
theorem dL_acts_481 : decode cL_acts 481 = .ok (.aload 5, 2) := by decide +kernel
theorem dL_acts_483 : decode cL_acts 483 = .ok (.aload 9, 2) := by decide +kernel
theorem dL_acts_485 : decode cL_acts 485 = .ok (.invokestatic 50, 3) := by decide +kernel
theorem dL_acts_488 : decode cL_acts 488 = .ok (.if_icmp .ne 7, 3) := by decide +kernel
theorem dL_acts_491 : decode cL_acts 491 = .ok (.iconst 1, 1) := by decide +kernel
theorem dL_acts_492 : decode cL_acts 492 = .ok (.goto 4, 3) := by decide +kernel
theorem dL_acts_495 : decode cL_acts 495 = .ok (.iconst 0, 1) := by decide +kernel
theorem dL_acts_496 : decode cL_acts 496 = .ok (.ireturn, 1) := by decide +kernel
theorem dL_acts_497 : decode cL_acts 497 = .ok (.aload_n 1, 1) := by decide +kernel
theorem dL_acts_498 : decode cL_acts 498 = .ok (.bipush 9, 2) := by decide +kernel
theorem dL_acts_500 : decode cL_acts 500 = .ok (.iload 7, 2) := by decide +kernel
theorem dL_acts_502 : decode cL_acts 502 = .ok (.sipush 256, 3) := by decide +kernel
theorem dL_acts_505 : decode cL_acts 505 = .ok (.irem, 1) := by decide +kernel
theorem dL_acts_506 : decode cL_acts 506 = .ok (.iastore, 1) := by decide +kernel
theorem dL_acts_507 : decode cL_acts 507 = .ok (.aload_n 1, 1) := by decide +kernel
theorem dL_acts_508 : decode cL_acts 508 = .ok (.aload_n 2, 1) := by decide +kernel
theorem dL_acts_509 : decode cL_acts 509 = .ok (.aload_n 3, 1) := by decide +kernel
theorem dL_acts_510 : decode cL_acts 510 = .ok (.aload 4, 2) := by decide +kernel
theorem dL_acts_512 : decode cL_acts 512 = .ok (.aload 5, 2) := by decide +kernel
theorem dL_acts_514 : decode cL_acts 514 = .ok (.aload 9, 2) := by decide +kernel
theorem dL_acts_516 : decode cL_acts 516 = .ok (.invokestatic 50, 3) := by decide +kernel
theorem dL_acts_519 : decode cL_acts 519 = .ok (.istore 11, 2) := by decide +kernel
theorem dL_acts_521 : decode cL_acts 521 = .ok (.iload 11, 2) := by decide +kernel
theorem dL_acts_523 : decode cL_acts 523 = .ok (.ifCond .lt 25, 3) := by decide +kernel
theorem dL_acts_526 : decode cL_acts 526 = .ok (.aload_n 0, 1) := by decide +kernel
theorem dL_acts_527 : decode cL_acts 527 = .ok (.aload_n 1, 1) := by decide +kernel
theorem dL_acts_528 : decode cL_acts 528 = .ok (.bipush 9, 2) := by decide +kernel
theorem dL_acts_530 : decode cL_acts 530 = .ok (.iaload, 1) := by decide +kernel
theorem dL_acts_531 : decode cL_acts 531 = .ok (.invokevirtual 98, 3) := by decide +kernel
theorem dL_acts_534 : decode cL_acts 534 = .ok (.aload_n 1, 1) := by decide +kernel
theorem dL_acts_535 : decode cL_acts 535 = .ok (.aload_n 2, 1) := by decide +kernel
theorem dL_acts_536 : decode cL_acts 536 = .ok (.aload 9, 2) := by decide +kernel
theorem dL_acts_538 : decode cL_acts 538 = .ok (.invokestatic 101, 3) := by decide +kernel
theorem dL_acts_541 : decode cL_acts 541 = .ok (.if_icmp .ne 7, 3) := by decide +kernel
theorem dL_acts_544 : decode cL_acts 544 = .ok (.iconst 1, 1) := by decide +kernel
theorem dL_acts_545 : decode cL_acts 545 = .ok (.goto 4, 3) := by decide +kernel
theorem dL_acts_548 : decode cL_acts 548 = .ok (.iconst 0, 1) := by decide +kernel
theorem dL_acts_549 : decode cL_acts 549 = .ok (.ireturn, 1) := by decide +kernel
set_option maxRecDepth 20000 in
theorem ggL_isSo_X8_valueOf : GoodIn wsL_isSo wsX8_valueOf := goodIn_r _ [5, 6, 7, 8, 9, 4, 10, 11, 12, 13, 14, 15, 16, 17, 18, 19, 20, 21, 22, 23, 24, 25, 26, 27, 28, 29, 30, 31, 32, 33, 34, 35, 36, 37, 38, 39, 40, 41, 42, 43, 44, 45, 46, 47, 48, 142, 143, 144, 145, 146, 147, 148, 149, 150, 151, 152, 153, 154, 155, 156, 157] (by decide +kernel) (by decide +kernel)
set_option maxRecDepth 20000 in
theorem gL_isSo_X8_valueOf : GoodIn wsL_isSo (wsV RL 105 RX8 yX8_valueOf wsX8_valueOf) := goodIn_app (goodIn_of _ (by decide +kernel)) ggL_isSo_X8_valueOf
set_option maxRecDepth 20000 in
theorem ggL_isSo_L_get : GoodIn wsL_isSo wsL_get := goodIn_r _ [52] (by decide +kernel) (by decide +kernel)
set_option maxRecDepth 20000 in
theorem gL_isSo_L_get : GoodIn wsL_isSo (va_wsS RL 9 yL_get wsL_get) := goodIn_app (goodIn_of _ (by decide +kernel)) ggL_isSo_L_get
set_option maxRecDepth 20000 in
theorem ggL_isSo_L_plain : GoodIn wsL_isSo wsL_plain := goodIn_r _ [55] (by decide +kernel) (by decide +kernel)
set_option maxRecDepth 20000 in
theorem gL_isSo_L_plain : GoodIn wsL_isSo (va_wsS RL 22 yL_plain wsL_plain) := goodIn_app (goodIn_of _ (by decide +kernel)) ggL_isSo_L_plain
set_option maxRecDepth 20000 in
theorem ggL_isSo_X8_cellOf : GoodIn wsL_isSo wsX8_cellOf := goodIn_r _ [59, 6, 11, 12, 13, 4, 14, 15, 16, 17, 18, 19, 20, 21, 22, 23, 24, 25, 26, 27, 28, 29, 30, 60, 61, 62, 63, 64, 65, 66, 67, 68, 69, 70, 71, 44, 45, 46, 47, 48, 72, 73, 74, 75, 76, 77, 78, 79, 80, 81, 82, 83, 84, 85, 35, 86, 37, 38, 39, 40, 41, 32, 33, 34, 42, 43, 87, 88, 89, 90, 142, 143, 144, 145, 146, 147, 148, 149, 150, 151, 152, 153, 154, 155, 156, 158, 159, 160, 157] (by decide +kernel) (by decide +kernel)
set_option maxRecDepth 20000 in
theorem gL_isSo_X8_cellOf : GoodIn wsL_isSo (wsV RL 108 RX8 yX8_cellOf wsX8_cellOf) := goodIn_app (goodIn_of _ (by decide +kernel)) ggL_isSo_X8_cellOf
set_option maxRecDepth 20000 in
theorem ggL_isSo_X8_count : GoodIn wsL_isSo wsX8_count := goodIn_r _ [94, 6, 95, 96, 18, 19, 20, 21, 22, 23, 24, 97, 98, 99, 28, 100, 35, 101, 102, 103, 104, 30, 105, 106, 107, 108, 109, 60, 61, 62, 63, 64, 110, 111, 112, 68, 113, 70, 71, 44, 45, 46, 47, 48, 114, 115, 116, 117, 118, 119, 120, 121, 122, 123, 124, 125, 126, 127, 128, 129, 130, 131, 132, 133, 134, 135, 136, 137, 138, 139, 140, 141, 142, 143, 144, 145, 146, 147, 148, 149, 150, 151, 152, 153, 154, 155, 156, 158, 159, 160, 157, 161, 162, 163, 164, 165, 166, 167] (by decide +kernel) (by decide +kernel)
set_option maxRecDepth 20000 in
theorem gL_isSo_X8_count : GoodIn wsL_isSo (wsV RL 111 RX8 yX8_count wsX8_count) := goodIn_app (goodIn_of _ (by decide +kernel)) ggL_isSo_X8_count
