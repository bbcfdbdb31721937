theorem dL_areRows_184 : decode cL_areRows 184 = .ok (.iconst 1, 1) := by decide +kernel
theorem dL_areRows_185 : decode cL_areRows 185 = .ok (.goto 4, 3) := by decide +kernel
theorem dL_areRows_188 : decode cL_areRows 188 = .ok (.iconst 0, 1) := by decide +kernel
theorem dL_areRows_189 : decode cL_areRows 189 = .ok (.istore 10, 2) := by decide +kernel
theorem dL_areRows_191 : decode cL_areRows 191 = .ok (.iload 10, 2) := by decide +kernel
theorem dL_areRows_193 : decode cL_areRows 193 = .ok (.ifCond .eq 41, 3) := by decide +kernel
theorem dL_areRows_196 : decode cL_areRows 196 = .ok (.aload_n 1, 1) := by decide +kernel
theorem dL_areRows_197 : decode cL_areRows 197 = .ok (.aload_n 2, 1) := by decide +kernel
theorem dL_areRows_198 : decode cL_areRows 198 = .ok (.aload_n 3, 1) := by decide +kernel
theorem dL_areRows_199 : decode cL_areRows 199 = .ok (.aload 4, 2) := by decide +kernel
theorem dL_areRows_201 : decode cL_areRows 201 = .ok (.aload 5, 2) := by decide +kernel
theorem dL_areRows_203 : decode cL_areRows 203 = .ok (.iload 12, 2) := by decide +kernel
theorem dL_areRows_205 : decode cL_areRows 205 = .ok (.iload 13, 2) := by decide +kernel
theorem dL_areRows_207 : decode cL_areRows 207 = .ok (.aload 7, 2) := by decide +kernel
theorem dL_areRows_209 : decode cL_areRows 209 = .ok (.invokestatic 26, 3) := by decide +kernel
theorem dL_areRows_212 : decode cL_areRows 212 = .ok (.bipush (-14), 2) := by decide +kernel
theorem dL_areRows_214 : decode cL_areRows 214 = .ok (.if_icmp .ne 20, 3) := by decide +kernel
theorem dL_areRows_217 : decode cL_areRows 217 = .ok (.aload_n 0, 1) := by decide +kernel
theorem dL_areRows_218 : decode cL_areRows 218 = .ok (.iload 12, 2) := by decide +kernel
theorem dL_areRows_220 : decode cL_areRows 220 = .ok (.iload 13, 2) := by decide +kernel
theorem dL_areRows_222 : decode cL_areRows 222 = .ok (.invokevirtual 122, 3) := by decide +kernel
theorem dL_areRows_225 : decode cL_areRows 225 = .ok (.bipush (-14), 2) := by decide +kernel
theorem dL_areRows_227 : decode cL_areRows 227 = .ok (.if_icmp .ne 7, 3) := by decide +kernel
theorem dL_areRows_230 : decode cL_areRows 230 = .ok (.iconst 1, 1) := by decide +kernel
theorem dL_areRows_231 : decode cL_areRows 231 = .ok (.goto 4, 3) := by decide +kernel
theorem dL_areRows_234 : decode cL_areRows 234 = .ok (.iconst 0, 1) := by decide +kernel
theorem dL_areRows_235 : decode cL_areRows 235 = .ok (.istore 10, 2) := by decide +kernel
theorem dL_areRows_237 : decode cL_areRows 237 = .ok (.iconst 0, 1) := by decide +kernel
theorem dL_areRows_238 : decode cL_areRows 238 = .ok (.istore 15, 2) := by decide +kernel
theorem dL_areRows_240 : decode cL_areRows 240 = .ok (.iload 15, 2) := by decide +kernel
theorem dL_areRows_242 : decode cL_areRows 242 = .ok (.bipush 8, 2) := by decide +kernel
theorem dL_areRows_244 : decode cL_areRows 244 = .ok (.if_icmp .ge 84, 3) := by decide +kernel
theorem dL_areRows_247 : decode cL_areRows 247 = .ok (.iload 10, 2) := by decide +kernel
theorem dL_areRows_249 : decode cL_areRows 249 = .ok (.ifCond .eq 79, 3) := by decide +kernel
theorem dL_areRows_252 : decode cL_areRows 252 = .ok (.aload_n 0, 1) := by decide +kernel
theorem dL_areRows_253 : decode cL_areRows 253 = .ok (.iload 11, 2) := by decide +kernel
theorem dL_areRows_255 : decode cL_areRows 255 = .ok (.bipush 10, 2) := by decide +kernel
theorem dL_areRows_257 : decode cL_areRows 257 = .ok (.iload 15, 2) := by decide +kernel
theorem dL_areRows_259 : decode cL_areRows 259 = .ok (.iadd, 1) := by decide +kernel
theorem dL_areRows_260 : decode cL_areRows 260 = .ok (.invokevirtual 116, 3) := by decide +kernel
theorem dL_areRows_263 : decode cL_areRows 263 = .ok (.aload_n 1, 1) := by decide +kernel
theorem dL_areRows_264 : decode cL_areRows 264 = .ok (.iload 15, 2) := by decide +kernel
theorem dL_areRows_266 : decode cL_areRows 266 = .ok (.invokestatic 15, 3) := by decide +kernel
theorem dL_areRows_269 : decode cL_areRows 269 = .ok (.ifCond .eq 16, 3) := by decide +kernel
theorem dL_areRows_272 : decode cL_areRows 272 = .ok (.aload_n 2, 1) := by decide +kernel
theorem dL_areRows_273 : decode cL_areRows 273 = .ok (.iload 12, 2) := by decide +kernel
theorem dL_areRows_275 : decode cL_areRows 275 = .ok (.iload 13, 2) := by decide +kernel
theorem dL_areRows_277 : decode cL_areRows 277 = .ok (.iload 15, 2) := by decide +kernel
theorem dL_areRows_279 : decode cL_areRows 279 = .ok (.invokestatic 19, 3) := by decide +kernel
theorem dL_areRows_282 : decode cL_areRows 282 = .ok (.goto 5, 3) := by decide +kernel
theorem dL_areRows_285 : decode cL_areRows 285 = .ok (.bipush (-14), 2) := by decide +kernel
theorem dL_areRows_287 : decode cL_areRows 287 = .ok (.if_icmp .ne 32, 3) := by decide +kernel
theorem dL_areRows_290 : decode cL_areRows 290 = .ok (.iload 15, 2) := by decide +kernel
theorem dL_areRows_292 : decode cL_areRows 292 = .ok (.iconst 3, 1) := by decide +kernel
theorem dL_areRows_293 : decode cL_areRows 293 = .ok (.if_icmp .gt 22, 3) := by decide +kernel
theorem dL_areRows_296 : decode cL_areRows 296 = .ok (.aload_n 0, 1) := by decide +kernel
theorem dL_areRows_297 : decode cL_areRows 297 = .ok (.iload 11, 2) := by decide +kernel
theorem dL_areRows_299 : decode cL_areRows 299 = .ok (.bipush 20, 2) := by decide +kernel
theorem dL_areRows_301 : decode cL_areRows 301 = .ok (.iload 15, 2) := by decide +kernel
theorem dL_areRows_303 : decode cL_areRows 303 = .ok (.iadd, 1) := by decide +kernel
theorem dL_areRows_304 : decode cL_areRows 304 = .ok (.invokevirtual 116, 3) := by decide +kernel
theorem dL_areRows_307 : decode cL_areRows 307 = .ok (.aload 7, 2) := by decide +kernel
theorem dL_areRows_309 : decode cL_areRows 309 = .ok (.iload 15, 2) := by decide +kernel
theorem dL_areRows_311 : decode cL_areRows 311 = .ok (.iaload, 1) := by decide +kernel
theorem dL_areRows_312 : decode cL_areRows 312 = .ok (.if_icmp .ne 7, 3) := by decide +kernel
theorem dL_areRows_315 : decode cL_areRows 315 = .ok (.iconst 1, 1) := by decide +kernel
theorem dL_areRows_316 : decode cL_areRows 316 = .ok (.goto 4, 3) := by decide +kernel
theorem dL_areRows_319 : decode cL_areRows 319 = .ok (.iconst 0, 1) := by decide +kernel
theorem dL_areRows_320 : decode cL_areRows 320 = .ok (.istore 10, 2) := by decide +kernel
theorem dL_areRows_322 : decode cL_areRows 322 = .ok (.iinc 15 1, 3) := by decide +kernel
theorem dL_areRows_325 : decode cL_areRows 325 = .ok (.goto (-85), 3) := by decide +kernel
theorem dL_areRows_328 : decode cL_areRows 328 = .ok (.iload 14, 2) := by decide +kernel
theorem dL_areRows_330 : decode cL_areRows 330 = .ok (.istore 9, 2) := by decide +kernel
theorem dL_areRows_332 : decode cL_areRows 332 = .ok (.iinc 11 1, 3) := by decide +kernel
theorem dL_areRows_335 : decode cL_areRows 335 = .ok (.goto (-289), 3) := by decide +kernel
theorem dL_areRows_338 : decode cL_areRows 338 = .ok (.iload 10, 2) := by decide +kernel
theorem dL_areRows_340 : decode cL_areRows 340 = .ok (.ifCond .eq 79, 3) := by decide +kernel
theorem dL_areRows_343 : decode cL_areRows 343 = .ok (.aload_n 0, 1) := by decide +kernel
theorem dL_areRows_344 : decode cL_areRows 344 = .ok (.iload 8, 2) := by decide +kernel
theorem dL_areRows_346 : decode cL_areRows 346 = .ok (.iconst 0, 1) := by decide +kernel
theorem dL_areRows_347 : decode cL_areRows 347 = .ok (.invokevirtual 116, 3) := by decide +kernel
theorem dL_areRows_350 : decode cL_areRows 350 = .ok (.bipush (-14), 2) := by decide +kernel
theorem dL_areRows_352 : decode cL_areRows 352 = .ok (.if_icmp .ne 67, 3) := by decide +kernel
theorem dL_areRows_355 : decode cL_areRows 355 = .ok (.aload_n 0, 1) := by decide +kernel
theorem dL_areRows_356 : decode cL_areRows 356 = .ok (.iconst (-1), 1) := by decide +kernel
theorem dL_areRows_357 : decode cL_areRows 357 = .ok (.iconst 0, 1) := by decide +kernel
theorem dL_areRows_358 : decode cL_areRows 358 = .ok (.invokevirtual 116, 3) := by decide +kernel
theorem dL_areRows_361 : decode cL_areRows 361 = .ok (.bipush (-11), 2) := by decide +kernel
theorem dL_areRows_363 : decode cL_areRows 363 = .ok (.if_icmp .ne 56, 3) := by decide +kernel
theorem dL_areRows_366 : decode cL_areRows 366 = .ok (.aload_n 0, 1) := by decide +kernel
theorem dL_areRows_367 : decode cL_areRows 367 = .ok (.iconst 0, 1) := by decide +kernel
theorem dL_areRows_368 : decode cL_areRows 368 = .ok (.iconst 2, 1) := by decide +kernel
theorem dL_areRows_369 : decode cL_areRows 369 = .ok (.invokevirtual 116, 3) := by decide +kernel
theorem dL_areRows_372 : decode cL_areRows 372 = .ok (.bipush (-11), 2) := by decide +kernel
theorem dL_areRows_374 : decode cL_areRows 374 = .ok (.if_icmp .ne 45, 3) := by decide +kernel
theorem dL_areRows_377 : decode cL_areRows 377 = .ok (.aload_n 0, 1) := by decide +kernel
theorem dL_areRows_378 : decode cL_areRows 378 = .ok (.iconst 0, 1) := by decide +kernel
theorem dL_areRows_379 : decode cL_areRows 379 = .ok (.bipush 18, 2) := by decide +kernel
theorem dL_areRows_381 : decode cL_areRows 381 = .ok (.invokevirtual 116, 3) := by decide +kernel
theorem dL_areRows_384 : decode cL_areRows 384 = .ok (.bipush (-11), 2) := by decide +kernel
theorem dL_areRows_386 : decode cL_areRows 386 = .ok (.if_icmp .ne 33, 3) := by decide +kernel
theorem dL_areRows_389 : decode cL_areRows 389 = .ok (.aload_n 0, 1) := by decide +kernel
theorem dL_areRows_390 : decode cL_areRows 390 = .ok (.iconst 0, 1) := by decide +kernel
theorem dL_areRows_391 : decode cL_areRows 391 = .ok (.bipush 24, 2) := by decide +kernel
theorem dL_areRows_393 : decode cL_areRows 393 = .ok (.invokevirtual 116, 3) := by decide +kernel
theorem dL_areRows_396 : decode cL_areRows 396 = .ok (.bipush (-11), 2) := by decide +kernel
theorem dL_areRows_398 : decode cL_areRows 398 = .ok (.if_icmp .ne 21, 3) := by decide +kernel
theorem dL_areRows_401 : decode cL_areRows 401 = .ok (.aload_n 0, 1) := by decide +kernel
theorem dL_areRows_402 : decode cL_areRows 402 = .ok (.invokevirtual 125, 3) := by decide +kernel
theorem dL_areRows_405 : decode cL_areRows 405 = .ok (.aload_n 1, 1) := by decide +kernel
theorem dL_areRows_406 : decode cL_areRows 406 = .ok (.aload_n 2, 1) := by decide +kernel
theorem dL_areRows_407 : decode cL_areRows 407 = .ok (.aload 6, 2) := by decide +kernel
theorem dL_areRows_409 : decode cL_areRows 409 = .ok (.invokestatic 101, 3) := by decide +kernel
theorem dL_areRows_412 : decode cL_areRows 412 = .ok (.if_icmp .ne 7, 3) := by decide +kernel
theorem dL_areRows_415 : decode cL_areRows 415 = .ok (.iconst 1, 1) := by decide +kernel
theorem dL_areRows_416 : decode cL_areRows 416 = .ok (.goto 4, 3) := by decide +kernel
theorem dL_areRows_419 : decode cL_areRows 419 = .ok (.iconst 0, 1) := by decide +kernel
theorem dL_areRows_420 : decode cL_areRows 420 = .ok (.ireturn, 1) := by decide +kernel
set_option maxRecDepth 20000 in
theorem ggL_law_X8_init : GoodIn wsL_law wsX8_init := goodIn_r _ [7, 8, 9, 10, 11, 12, 13, 14, 15, 16, 17, 18, 19, 20, 21, 22, 23, 24, 25, 26, 27, 28, 29, 30, 31, 32, 33, 34, 35, 36, 37, 38, 39, 40, 41, 42, 43, 44, 45, 46, 47, 48, 49, 50, 51, 52, 53, 54, 55, 56, 57, 58, 59, 60, 61, 62, 63, 64, 3, 65, 66, 67, 68, 69, 70, 71, 72, 73, 74, 75, 76, 77, 78, 79, 80, 81, 82, 83, 84, 85, 86, 87, 88, 89, 90, 91, 92, 93, 94, 95, 96, 97, 98, 99, 100, 101, 102, 103, 104, 105, 106, 107, 108, 109, 110, 111, 112, 113, 114, 115, 116, 117, 597, 598, 599, 600, 601, 602, 592, 593, 594, 595, 596, 603, 604, 605, 606, 607, 608, 609, 610, 611, 612, 613, 614, 615, 616, 617, 618, 619, 620, 621, 622, 623, 624, 625, 626, 627, 628, 629] (by decide +kernel) (by decide +kernel)
set_option maxRecDepth 20000 in
theorem gL_law_X8_init : GoodIn wsL_law (wsX8_init) := ggL_law_X8_init
set_option maxRecDepth 20000 in
theorem ggL_law_X8_many : GoodIn wsL_law wsX8_many := goodIn_r _ [121, 22, 122, 123, 124, 21, 125, 96, 98, 93, 126, 127, 128, 129, 97, 95, 130, 67, 68, 41, 69, 65, 131, 132, 133, 13, 134, 37, 38, 135, 136, 137, 36, 138, 54, 139, 140, 141, 142, 143, 144, 145, 146, 55, 147, 148, 149, 150, 44, 151, 152, 153, 53, 154, 74, 155, 156, 157, 158, 159, 160, 161, 162, 75, 163, 164, 165, 166, 167, 168, 169, 170, 171, 172, 173, 174, 56, 175, 176, 177, 178, 179, 180, 181, 182, 183, 184, 185, 186, 187, 188, 189, 190, 191, 50, 192, 193, 194, 195, 196, 197, 198, 199, 200, 201, 76, 202, 592, 593, 594, 595, 596, 608, 609, 610, 611, 612, 613, 626, 597, 598, 599, 600, 601, 602, 622, 623, 624, 625, 627, 628, 629] (by decide +kernel) (by decide +kernel)
set_option maxRecDepth 20000 in
theorem gL_law_X8_many : GoodIn wsL_law (wsV RL 114 RX8 yX8_many wsX8_many) := goodIn_app (goodIn_of _ (by decide +kernel)) ggL_law_X8_many
set_option maxRecDepth 20000 in
theorem ggL_law_L_cell : GoodIn wsL_law wsL_cell := goodIn_r _ [206, 207] (by decide +kernel) (by decide +kernel)
set_option maxRecDepth 20000 in
theorem gL_law_L_cell : GoodIn wsL_law (va_wsS RL 128 yL_cell wsL_cell) := goodIn_app (goodIn_of _ (by decide +kernel)) ggL_law_L_cell
set_option maxRecDepth 20000 in
theorem ggL_law_L_acts : GoodIn wsL_law wsL_acts := goodIn_r _ [210, 211, 212, 213, 214, 205, 215, 4, 216, 217, 218, 219, 220, 221, 2, 222, 14, 18, 223, 224, 225, 226, 227, 228, 229, 168, 169, 13, 170, 37, 38, 230, 172, 173, 36, 174, 56, 231, 232, 233, 17, 234, 86, 85, 84, 83, 87, 235, 236, 63, 237, 238, 239, 240, 241, 42, 43, 44, 45, 242, 243, 244, 245, 50, 54, 55, 246, 247, 248, 41, 249, 65, 250, 156, 157, 158, 251, 252, 253, 53, 254, 74, 75, 76, 255, 256, 257, 258, 259, 260, 261, 164, 165, 166, 262, 263, 264, 265, 266, 267, 268, 269, 270, 271, 272, 273, 274, 67, 68, 69, 275, 276, 277, 278, 279, 193, 194, 195, 280, 281, 282, 283, 197, 284, 285, 286, 287, 288, 289, 290, 291, 292, 293, 294, 295, 296, 144, 145, 146, 297, 298, 299, 300, 301, 189, 190, 191, 192, 196, 302, 303, 304, 305, 306, 307, 308, 309, 310, 311, 312, 313, 314, 26, 315, 316, 317, 25, 318, 105, 319, 320, 321, 322, 323, 324, 325, 326, 327, 328, 329, 330, 104, 331, 332, 333, 334, 335, 30, 336, 337, 338, 29, 339, 112, 113, 114, 115, 116, 117, 340, 341, 342, 343, 344, 345, 346, 347, 348, 349, 350, 351, 352, 353, 354, 355, 356, 357, 358, 359, 360, 361, 362, 363, 364, 365, 366, 367, 368, 369, 370, 371, 372, 373, 374, 375, 376, 377, 378, 379, 380, 381, 382, 383, 384, 385, 386, 387, 388, 389, 390, 391, 392, 393, 394, 395, 396, 397, 398, 22, 399, 400, 401, 402, 403, 404, 405, 406, 407, 136, 137, 138, 408, 409, 410, 411, 412, 122, 123, 124, 21, 125, 96, 98, 93, 126, 127, 128, 129, 97, 95, 130, 131, 132, 133, 134, 135, 139, 140, 141, 142, 143, 147, 148, 149, 150, 151, 152, 153, 154, 155, 159, 160, 161, 162, 163, 167, 171, 175, 176, 177, 178, 179, 180, 181, 182, 183, 184, 185, 186, 187, 188, 198, 199, 200, 201, 202, 413, 414, 415, 3, 416, 417, 418, 419, 420, 421, 422, 423, 424, 425, 426, 427, 428, 429, 430, 431, 432, 433, 434, 435, 436, 437, 438, 439, 440, 441, 442, 443, 444, 445, 446, 447, 448, 449, 450, 451, 452, 453, 454, 455, 456, 457, 458, 459, 460, 461, 462, 463, 464, 465, 466, 467, 468, 469, 470, 471, 472, 473, 474, 475, 476, 477, 94, 478, 479, 480, 481, 482, 483, 484, 485, 486, 487, 488, 489, 490, 491, 492, 493, 494, 495, 496, 497, 498, 499, 500, 501, 502, 592, 593, 594, 595, 596, 597, 598, 599, 600, 601, 602, 622, 623, 624, 625, 603, 604, 605, 606, 607, 626, 627, 628, 629, 614, 615, 616, 617, 618, 619, 620, 621, 608, 609, 610, 611, 612, 613] (by decide +kernel) (by decide +kernel)
set_option maxRecDepth 20000 in
theorem gL_law_L_acts : GoodIn wsL_law (va_wsS RL 131 yL_acts wsL_acts) := goodIn_app (goodIn_of _ (by decide +kernel)) ggL_law_L_acts
set_option maxRecDepth 20000 in
theorem ggL_law_L_isSo : GoodIn wsL_law wsL_isSo := goodIn_r _ [505, 506, 507, 508, 2, 509, 14, 288, 289, 290, 291, 292, 293, 294, 295, 223, 224, 225, 229, 168, 169, 13, 170, 37, 38, 296, 144, 145, 36, 146, 55, 279, 193, 194, 195, 56, 510, 189, 190, 191, 50, 192, 196, 197, 156, 157, 41, 158, 65, 302, 303, 205, 304, 425, 426, 427, 511, 512, 513, 514, 407, 136, 137, 138, 54, 438, 152, 153, 53, 154, 74, 155, 515, 160, 161, 162, 75, 516, 517, 518, 519, 76, 520, 521, 522, 523, 301, 524, 199, 200, 201, 525, 526, 527, 528, 18, 26, 230, 172, 173, 174, 403, 404, 405, 406, 529, 148, 149, 150, 44, 444, 445, 446, 447, 530, 531, 532, 533, 45, 534, 535, 536, 17, 537, 87, 323, 324, 325, 25, 326, 105, 538, 539, 540, 541, 42, 542, 543, 544, 545, 546, 43, 592, 593, 594, 595, 596, 597, 598, 599, 600, 601, 602, 622, 623, 624, 625, 626, 627, 628, 629, 603, 604, 605, 606, 607, 614, 615] (by decide +kernel) (by decide +kernel)
set_option maxRecDepth 20000 in
theorem gL_law_L_isSo : GoodIn wsL_law (va_wsS RL 134 yL_isSo wsL_isSo) := goodIn_app (goodIn_of _ (by decide +kernel)) ggL_law_L_isSo
set_option maxRecDepth 20000 in
theorem ggL_law_L_areRows : GoodIn wsL_law wsL_areRows := goodIn_r _ [549, 212, 3, 413, 414, 205, 415, 416, 417, 418, 419, 420, 421, 422, 423, 424, 302, 303, 304, 425, 426, 427, 118, 119, 120, 2, 121, 22, 122, 123, 124, 21, 125, 96, 98, 93, 126, 127, 128, 129, 97, 95, 130, 67, 68, 41, 69, 65, 131, 132, 133, 13, 134, 37, 38, 135, 136, 137, 36, 138, 54, 139, 140, 141, 142, 143, 144, 145, 146, 55, 147, 148, 149, 150, 44, 151, 152, 153, 53, 154, 74, 155, 156, 157, 158, 159, 160, 161, 162, 75, 163, 164, 165, 166, 167, 168, 169, 170, 171, 172, 173, 174, 56, 175, 176, 177, 178, 179, 180, 181, 182, 183, 184, 185, 186, 187, 188, 189, 190, 191, 50, 192, 193, 194, 195, 196, 197, 198, 199, 200, 201, 76, 202, 550, 551, 552, 553, 14, 554, 555, 556, 223, 224, 225, 557, 558, 559, 560, 561, 562, 563, 564, 565, 566, 567, 568, 569, 539, 540, 541, 42, 542, 570, 544, 545, 546, 43, 529, 571, 572, 573, 574, 575, 576, 577, 578, 579, 580, 581, 582, 583, 229, 279, 584, 585, 586, 587, 588, 589, 590, 591, 474, 475, 476, 477, 94, 478, 479, 480, 481, 482, 483, 484, 485, 486, 487, 488, 489, 490, 491, 45, 492, 493, 494, 495, 496, 497, 498, 499, 500, 501, 502, 592, 593, 594, 595, 596, 608, 609, 610, 611, 612, 613, 626, 597, 598, 599, 600, 601, 602, 622, 623, 624, 625, 627, 628, 629] (by decide +kernel) (by decide +kernel)
set_option maxRecDepth 20000 in
theorem gL_law_L_areRows : GoodIn wsL_law (va_wsS RL 138 yL_areRows wsL_areRows) := goodIn_app (goodIn_of _ (by decide +kernel)) ggL_law_L_areRows
set_option maxRecDepth 20000 in
theorem ggL_law_L_low : GoodIn wsL_law wsL_low := goodIn_r _ [215, 4] (by decide +kernel) (by decide +kernel)
set_option maxRecDepth 20000 in
theorem gL_law_L_low : GoodIn wsL_law (va_wsS RL 74 yL_low wsL_low) := goodIn_app (goodIn_of _ (by decide +kernel)) ggL_law_L_low
set_option maxRecDepth 20000 in
theorem ggL_law_X8_count : GoodIn wsL_law wsX8_count := goodIn_r _ [528, 14, 18, 26, 229, 168, 169, 13, 170, 37, 38, 230, 172, 173, 36, 174, 56, 403, 404, 405, 406, 55, 529, 148, 149, 150, 44, 407, 136, 137, 138, 54, 444, 445, 446, 53, 447, 74, 155, 156, 157, 41, 158, 65, 530, 531, 532, 533, 45, 534, 535, 536, 17, 537, 87, 323, 324, 325, 25, 326, 105, 538, 539, 540, 541, 42, 542, 543, 544, 545, 546, 43, 592, 593, 594, 595, 596, 597, 598, 599, 600, 601, 602, 622, 623, 624, 625, 627, 628, 629, 626, 603, 604, 605, 606, 607, 614, 615] (by decide +kernel) (by decide +kernel)
set_option maxRecDepth 20000 in
theorem gL_law_X8_count : GoodIn wsL_law (wsV RL 111 RX8 yX8_count wsX8_count) := goodIn_app (goodIn_of _ (by decide +kernel)) ggL_law_X8_count
theorem dL_law_0 : decode cL_law 0 = .ok (.new 35, 3) := by decide +kernel
theorem dL_law_3 : decode cL_law 3 = .ok (.dup, 1) := by decide +kernel
theorem dL_law_4 : decode cL_law 4 = .ok (.invokespecial 127, 3) := by decide +kernel
theorem dL_law_7 : decode cL_law 7 = .ok (.astore_n 1, 1) := by decide +kernel
theorem dL_law_8 : decode cL_law 8 = .ok (.bipush 10, 2) := by decide +kernel
theorem dL_law_10 : decode cL_law 10 = .ok (.newarray .int, 2) := by decide +kernel
theorem dL_law_12 : decode cL_law 12 = .ok (.astore_n 2, 1) := by decide +kernel
theorem dL_law_13 : decode cL_law 13 = .ok (.bipush 24, 2) := by decide +kernel
theorem dL_law_15 : decode cL_law 15 = .ok (.newarray .int, 2) := by decide +kernel
theorem dL_law_17 : decode cL_law 17 = .ok (.astore_n 3, 1) := by decide +kernel
theorem dL_law_18 : decode cL_law 18 = .ok (.bipush 8, 2) := by decide +kernel
theorem dL_law_20 : decode cL_law 20 = .ok (.newarray .int, 2) := by decide +kernel
theorem dL_law_22 : decode cL_law 22 = .ok (.astore 4, 2) := by decide +kernel
theorem dL_law_24 : decode cL_law 24 = .ok (.bipush 8, 2) := by decide +kernel
theorem dL_law_26 : decode cL_law 26 = .ok (.newarray .int, 2) := by decide +kernel
theorem dL_law_28 : decode cL_law 28 = .ok (.astore 5, 2) := by decide +kernel
theorem dL_law_30 : decode cL_law 30 = .ok (.bipush 8, 2) := by decide +kernel
theorem dL_law_32 : decode cL_law 32 = .ok (.newarray .int, 2) := by decide +kernel
theorem dL_law_34 : decode cL_law 34 = .ok (.astore 6, 2) := by decide +kernel
theorem dL_law_36 : decode cL_law 36 = .ok (.aload_n 2, 1) := by decide +kernel
theorem dL_law_37 : decode cL_law 37 = .ok (.iconst 0, 1) := by decide +kernel
theorem dL_law_38 : decode cL_law 38 = .ok (.iconst 3, 1) := by decide +kernel
theorem dL_law_39 : decode cL_law 39 = .ok (.iastore, 1) := by decide +kernel
theorem dL_law_40 : decode cL_law 40 = .ok (.aload_n 2, 1) := by decide +kernel
theorem dL_law_41 : decode cL_law 41 = .ok (.iconst 1, 1) := by decide +kernel
theorem dL_law_42 : decode cL_law 42 = .ok (.iconst 3, 1) := by decide +kernel
theorem dL_law_43 : decode cL_law 43 = .ok (.iastore, 1) := by decide +kernel
theorem dL_law_44 : decode cL_law 44 = .ok (.aload_n 2, 1) := by decide +kernel
theorem dL_law_45 : decode cL_law 45 = .ok (.iconst 5, 1) := by decide +kernel
theorem dL_law_46 : decode cL_law 46 = .ok (.iconst (-1), 1) := by decide +kernel
theorem dL_law_47 : decode cL_law 47 = .ok (.iastore, 1) := by decide +kernel
theorem dL_law_48 : decode cL_law 48 = .ok (.aload_n 2, 1) := by decide +kernel
theorem dL_law_49 : decode cL_law 49 = .ok (.bipush 7, 2) := by decide +kernel
theorem dL_law_51 : decode cL_law 51 = .ok (.iconst (-1), 1) := by decide +kernel
theorem dL_law_52 : decode cL_law 52 = .ok (.iastore, 1) := by decide +kernel
theorem dL_law_53 : decode cL_law 53 = .ok (.aload_n 2, 1) := by decide +kernel
theorem dL_law_54 : decode cL_law 54 = .ok (.bipush 9, 2) := by decide +kernel
theorem dL_law_56 : decode cL_law 56 = .ok (.sipush 255, 3) := by decide +kernel
theorem dL_law_59 : decode cL_law 59 = .ok (.iastore, 1) := by decide +kernel
theorem dL_law_60 : decode cL_law 60 = .ok (.aload_n 1, 1) := by decide +kernel
theorem dL_law_61 : decode cL_law 61 = .ok (.invokevirtual 114, 3) := by decide +kernel
theorem dL_law_64 : decode cL_law 64 = .ok (.ifCond .ne 7, 3) := by decide +kernel
theorem dL_law_67 : decode cL_law 67 = .ok (.iconst 1, 1) := by decide +kernel
theorem dL_law_68 : decode cL_law 68 = .ok (.goto 4, 3) := by decide +kernel
theorem dL_law_71 : decode cL_law 71 = .ok (.iconst 0, 1) := by decide +kernel
theorem dL_law_72 : decode cL_law 72 = .ok (.istore 7, 2) := by decide +kernel
theorem dL_law_74 : decode cL_law 74 = .ok (.iconst 0, 1) := by decide +kernel
theorem dL_law_75 : decode cL_law 75 = .ok (.istore 8, 2) := by decide +kernel
theorem dL_law_77 : decode cL_law 77 = .ok (.iload 8, 2) := by decide +kernel
theorem dL_law_79 : decode cL_law 79 = .ok (.bipush 8, 2) := by decide +kernel
theorem dL_law_81 : decode cL_law 81 = .ok (.if_icmp .ge 73, 3) := by decide +kernel
theorem dL_law_84 : decode cL_law 84 = .ok (.iload 7, 2) := by decide +kernel
theorem dL_law_86 : decode cL_law 86 = .ok (.ifCond .eq 68, 3) := by decide +kernel
theorem dL_law_89 : decode cL_law 89 = .ok (.aload_n 1, 1) := by decide +kernel
theorem dL_law_90 : decode cL_law 90 = .ok (.aload_n 2, 1) := by decide +kernel
theorem dL_law_91 : decode cL_law 91 = .ok (.aload_n 3, 1) := by decide +kernel
theorem dL_law_92 : decode cL_law 92 = .ok (.aload 4, 2) := by decide +kernel
theorem dL_law_94 : decode cL_law 94 = .ok (.aload 5, 2) := by decide +kernel
theorem dL_law_96 : decode cL_law 96 = .ok (.aload 6, 2) := by decide +kernel
theorem dL_law_98 : decode cL_law 98 = .ok (.aload_n 0, 1) := by decide +kernel
theorem dL_law_99 : decode cL_law 99 = .ok (.iconst 1, 1) := by decide +kernel
theorem dL_law_100 : decode cL_law 100 = .ok (.iload 8, 2) := by decide +kernel
theorem dL_law_102 : decode cL_law 102 = .ok (.iadd, 1) := by decide +kernel
theorem dL_law_103 : decode cL_law 103 = .ok (.invokestatic 128, 3) := by decide +kernel
theorem dL_law_106 : decode cL_law 106 = .ok (.ldc 8, 2) := by decide +kernel
theorem dL_law_108 : decode cL_law 108 = .ok (.iand, 1) := by decide +kernel
theorem dL_law_109 : decode cL_law 109 = .ok (.sipush 1024, 3) := by decide +kernel
theorem dL_law_112 : decode cL_law 112 = .ok (.idiv, 1) := by decide +kernel
theorem dL_law_113 : decode cL_law 113 = .ok (.sipush 1024, 3) := by decide +kernel
theorem dL_law_116 : decode cL_law 116 = .ok (.imul, 1) := by decide +kernel
theorem dL_law_117 : decode cL_law 117 = .ok (.iload 8, 2) := by decide +kernel
theorem dL_law_119 : decode cL_law 119 = .ok (.bipush 6, 2) := by decide +kernel
theorem dL_law_121 : decode cL_law 121 = .ok (.if_icmp .ge 7, 3) := by decide +kernel
theorem dL_law_124 : decode cL_law 124 = .ok (.iconst 0, 1) := by decide +kernel
theorem dL_law_125 : decode cL_law 125 = .ok (.goto 17, 3) := by decide +kernel
theorem dL_law_128 : decode cL_law 128 = .ok (.iload 8, 2) := by decide +kernel
theorem dL_law_130 : decode cL_law 130 = .ok (.bipush 6, 2) := by decide +kernel
theorem dL_law_132 : decode cL_law 132 = .ok (.if_icmp .ne 8, 3) := by decide +kernel
theorem dL_law_135 : decode cL_law 135 = .ok (.bipush 26, 2) := by decide +kernel
theorem dL_law_137 : decode cL_law 137 = .ok (.goto 5, 3) := by decide +kernel
theorem dL_law_140 : decode cL_law 140 = .ok (.bipush 20, 2) := by decide +kernel
theorem dL_law_142 : decode cL_law 142 = .ok (.iadd, 1) := by decide +kernel
theorem dL_law_143 : decode cL_law 143 = .ok (.invokestatic 131, 3) := by decide +kernel
theorem dL_law_146 : decode cL_law 146 = .ok (.istore 7, 2) := by decide +kernel
theorem dL_law_148 : decode cL_law 148 = .ok (.iinc 8 1, 3) := by decide +kernel
theorem dL_law_151 : decode cL_law 151 = .ok (.goto (-74), 3) := by decide +kernel
theorem dL_law_154 : decode cL_law 154 = .ok (.iload 7, 2) := by decide +kernel
theorem dL_law_156 : decode cL_law 156 = .ok (.ifCond .eq 37, 3) := by decide +kernel
theorem dL_law_159 : decode cL_law 159 = .ok (.aload_n 1, 1) := by decide +kernel
theorem dL_law_160 : decode cL_law 160 = .ok (.aload_n 2, 1) := by decide +kernel
theorem dL_law_161 : decode cL_law 161 = .ok (.aload_n 3, 1) := by decide +kernel
theorem dL_law_162 : decode cL_law 162 = .ok (.aload 4, 2) := by decide +kernel
theorem dL_law_164 : decode cL_law 164 = .ok (.aload 5, 2) := by decide +kernel
theorem dL_law_166 : decode cL_law 166 = .ok (.aload 6, 2) := by decide +kernel
theorem dL_law_168 : decode cL_law 168 = .ok (.invokestatic 134, 3) := by decide +kernel
theorem dL_law_171 : decode cL_law 171 = .ok (.ifCond .eq 22, 3) := by decide +kernel
theorem dL_law_174 : decode cL_law 174 = .ok (.aload_n 1, 1) := by decide +kernel
theorem dL_law_175 : decode cL_law 175 = .ok (.aload_n 2, 1) := by decide +kernel
theorem dL_law_176 : decode cL_law 176 = .ok (.aload_n 3, 1) := by decide +kernel
theorem dL_law_177 : decode cL_law 177 = .ok (.aload 4, 2) := by decide +kernel
theorem dL_law_179 : decode cL_law 179 = .ok (.aload 5, 2) := by decide +kernel
theorem dL_law_181 : decode cL_law 181 = .ok (.aload 6, 2) := by decide +kernel
theorem dL_law_183 : decode cL_law 183 = .ok (.invokestatic 138, 3) := by decide +kernel
theorem dL_law_186 : decode cL_law 186 = .ok (.ifCond .eq 7, 3) := by decide +kernel
theorem dL_law_189 : decode cL_law 189 = .ok (.iconst 1, 1) := by decide +kernel
theorem dL_law_190 : decode cL_law 190 = .ok (.goto 4, 3) := by decide +kernel
theorem dL_law_193 : decode cL_law 193 = .ok (.iconst 0, 1) := by decide +kernel
theorem dL_law_194 : decode cL_law 194 = .ok (.istore 7, 2) := by decide +kernel
theorem dL_law_196 : decode cL_law 196 = .ok (.bipush 12, 2) := by decide +kernel
theorem dL_law_198 : decode cL_law 198 = .ok (.aload_n 0, 1) := by decide +kernel
theorem dL_law_199 : decode cL_law 199 = .ok (.iconst 0, 1) := by decide +kernel
theorem dL_law_200 : decode cL_law 200 = .ok (.invokestatic 128, 3) := by decide +kernel
theorem dL_law_203 : decode cL_law 203 = .ok (.bipush 46, 2) := by decide +kernel
theorem dL_law_205 : decode cL_law 205 = .ok (.invokestatic 74, 3) := by decide +kernel
theorem dL_law_208 : decode cL_law 208 = .ok (.iadd, 1) := by decide +kernel
theorem dL_law_209 : decode cL_law 209 = .ok (.istore 8, 2) := by decide +kernel
theorem dL_law_211 : decode cL_law 211 = .ok (.iconst 0, 1) := by decide +kernel
theorem dL_law_212 : decode cL_law 212 = .ok (.istore 9, 2) := by decide +kernel
theorem dL_law_214 : decode cL_law 214 = .ok (.iload 9, 2) := by decide +kernel
theorem dL_law_216 : decode cL_law 216 = .ok (.iload 8, 2) := by decide +kernel
theorem dL_law_218 : decode cL_law 218 = .ok (.if_icmp .ge 82, 3) := by decide +kernel
theorem dL_law_221 : decode cL_law 221 = .ok (.iload 7, 2) := by decide +kernel
theorem dL_law_223 : decode cL_law 223 = .ok (.ifCond .eq 77, 3) := by decide +kernel
theorem dL_law_226 : decode cL_law 226 = .ok (.aload_n 1, 1) := by decide +kernel
theorem dL_law_227 : decode cL_law 227 = .ok (.aload_n 2, 1) := by decide +kernel
theorem dL_law_228 : decode cL_law 228 = .ok (.aload_n 3, 1) := by decide +kernel
theorem dL_law_229 : decode cL_law 229 = .ok (.aload 4, 2) := by decide +kernel
theorem dL_law_231 : decode cL_law 231 = .ok (.aload 5, 2) := by decide +kernel
theorem dL_law_233 : decode cL_law 233 = .ok (.aload 6, 2) := by decide +kernel
theorem dL_law_235 : decode cL_law 235 = .ok (.aload_n 0, 1) := by decide +kernel
theorem dL_law_236 : decode cL_law 236 = .ok (.bipush 9, 2) := by decide +kernel
theorem dL_law_238 : decode cL_law 238 = .ok (.iload 9, 2) := by decide +kernel
theorem dL_law_240 : decode cL_law 240 = .ok (.iadd, 1) := by decide +kernel
theorem dL_law_241 : decode cL_law 241 = .ok (.invokestatic 128, 3) := by decide +kernel
theorem dL_law_244 : decode cL_law 244 = .ok (.sipush 7919, 3) := by decide +kernel
theorem dL_law_247 : decode cL_law 247 = .ok (.iload 9, 2) := by decide +kernel
theorem dL_law_249 : decode cL_law 249 = .ok (.imul, 1) := by decide +kernel
theorem dL_law_250 : decode cL_law 250 = .ok (.ixor, 1) := by decide +kernel
theorem dL_law_251 : decode cL_law 251 = .ok (.invokestatic 131, 3) := by decide +kernel
theorem dL_law_254 : decode cL_law 254 = .ok (.ifCond .eq 37, 3) := by decide +kernel
theorem dL_law_257 : decode cL_law 257 = .ok (.aload_n 1, 1) := by decide +kernel
theorem dL_law_258 : decode cL_law 258 = .ok (.aload_n 2, 1) := by decide +kernel
theorem dL_law_259 : decode cL_law 259 = .ok (.aload_n 3, 1) := by decide +kernel
theorem dL_law_260 : decode cL_law 260 = .ok (.aload 4, 2) := by decide +kernel
theorem dL_law_262 : decode cL_law 262 = .ok (.aload 5, 2) := by decide +kernel
theorem dL_law_264 : decode cL_law 264 = .ok (.aload 6, 2) := by decide +kernel
theorem dL_law_266 : decode cL_law 266 = .ok (.invokestatic 134, 3) := by decide +kernel
theorem dL_law_269 : decode cL_law 269 = .ok (.ifCond .eq 22, 3) := by decide +kernel
theorem dL_law_272 : decode cL_law 272 = .ok (.aload_n 1, 1) := by decide +kernel
theorem dL_law_273 : decode cL_law 273 = .ok (.aload_n 2, 1) := by decide +kernel
theorem dL_law_274 : decode cL_law 274 = .ok (.aload_n 3, 1) := by decide +kernel
theorem dL_law_275 : decode cL_law 275 = .ok (.aload 4, 2) := by decide +kernel
theorem dL_law_277 : decode cL_law 277 = .ok (.aload 5, 2) := by decide +kernel
theorem dL_law_279 : decode cL_law 279 = .ok (.aload 6, 2) := by decide +kernel
theorem dL_law_281 : decode cL_law 281 = .ok (.invokestatic 138, 3) := by decide +kernel
theorem dL_law_284 : decode cL_law 284 = .ok (.ifCond .eq 7, 3) := by decide +kernel
theorem dL_law_287 : decode cL_law 287 = .ok (.iconst 1, 1) := by decide +kernel
theorem dL_law_288 : decode cL_law 288 = .ok (.goto 4, 3) := by decide +kernel
theorem dL_law_291 : decode cL_law 291 = .ok (.iconst 0, 1) := by decide +kernel
theorem dL_law_292 : decode cL_law 292 = .ok (.istore 7, 2) := by decide +kernel
theorem dL_law_294 : decode cL_law 294 = .ok (.iinc 9 1, 3) := by decide +kernel
theorem dL_law_297 : decode cL_law 297 = .ok (.goto (-83), 3) := by decide +kernel
theorem dL_law_300 : decode cL_law 300 = .ok (.iload 7, 2) := by decide +kernel
theorem dL_law_302 : decode cL_law 302 = .ok (.ifCond .eq 29, 3) := by decide +kernel
theorem dL_law_305 : decode cL_law 305 = .ok (.aload_n 1, 1) := by decide +kernel
theorem dL_law_306 : decode cL_law 306 = .ok (.bipush 9, 2) := by decide +kernel
theorem dL_law_308 : decode cL_law 308 = .ok (.invokevirtual 111, 3) := by decide +kernel
theorem dL_law_311 : decode cL_law 311 = .ok (.bipush (-11), 2) := by decide +kernel
theorem dL_law_313 : decode cL_law 313 = .ok (.if_icmp .ne 18, 3) := by decide +kernel
theorem dL_law_316 : decode cL_law 316 = .ok (.aload_n 1, 1) := by decide +kernel
theorem dL_law_317 : decode cL_law 317 = .ok (.bipush 14, 2) := by decide +kernel
theorem dL_law_319 : decode cL_law 319 = .ok (.invokevirtual 111, 3) := by decide +kernel
theorem dL_law_322 : decode cL_law 322 = .ok (.bipush (-11), 2) := by decide +kernel
theorem dL_law_324 : decode cL_law 324 = .ok (.if_icmp .ne 7, 3) := by decide +kernel
theorem dL_law_327 : decode cL_law 327 = .ok (.iconst 1, 1) := by decide +kernel
theorem dL_law_328 : decode cL_law 328 = .ok (.goto 4, 3) := by decide +kernel
theorem dL_law_331 : decode cL_law 331 = .ok (.iconst 0, 1) := by decide +kernel
theorem dL_law_332 : decode cL_law 332 = .ok (.ireturn, 1) := by decide +kernel
