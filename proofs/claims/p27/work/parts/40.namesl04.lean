theorem dL_isSo_0 : decode cL_isSo 0 = .ok (.iconst 1, 1) := by decide +kernel
theorem dL_isSo_1 : decode cL_isSo 1 = .ok (.istore 6, 2) := by decide +kernel
theorem dL_isSo_3 : decode cL_isSo 3 = .ok (.iconst 0, 1) := by decide +kernel
theorem dL_isSo_4 : decode cL_isSo 4 = .ok (.istore 7, 2) := by decide +kernel
theorem dL_isSo_6 : decode cL_isSo 6 = .ok (.iconst 0, 1) := by decide +kernel
theorem dL_isSo_7 : decode cL_isSo 7 = .ok (.istore 8, 2) := by decide +kernel
theorem dL_isSo_9 : decode cL_isSo 9 = .ok (.iload 8, 2) := by decide +kernel
theorem dL_isSo_11 : decode cL_isSo 11 = .ok (.bipush 96, 2) := by decide +kernel
theorem dL_isSo_13 : decode cL_isSo 13 = .ok (.if_icmp .ge 91, 3) := by decide +kernel
theorem dL_isSo_16 : decode cL_isSo 16 = .ok (.iload 6, 2) := by decide +kernel
theorem dL_isSo_18 : decode cL_isSo 18 = .ok (.ifCond .eq 86, 3) := by decide +kernel
theorem dL_isSo_21 : decode cL_isSo 21 = .ok (.iload 8, 2) := by decide +kernel
theorem dL_isSo_23 : decode cL_isSo 23 = .ok (.bipush 48, 2) := by decide +kernel
theorem dL_isSo_25 : decode cL_isSo 25 = .ok (.idiv, 1) := by decide +kernel
theorem dL_isSo_26 : decode cL_isSo 26 = .ok (.istore 9, 2) := by decide +kernel
theorem dL_isSo_28 : decode cL_isSo 28 = .ok (.iload 8, 2) := by decide +kernel
theorem dL_isSo_30 : decode cL_isSo 30 = .ok (.iconst 4, 1) := by decide +kernel
theorem dL_isSo_31 : decode cL_isSo 31 = .ok (.idiv, 1) := by decide +kernel
theorem dL_isSo_32 : decode cL_isSo 32 = .ok (.bipush 12, 2) := by decide +kernel
theorem dL_isSo_34 : decode cL_isSo 34 = .ok (.irem, 1) := by decide +kernel
theorem dL_isSo_35 : decode cL_isSo 35 = .ok (.istore 10, 2) := by decide +kernel
theorem dL_isSo_37 : decode cL_isSo 37 = .ok (.iload 8, 2) := by decide +kernel
theorem dL_isSo_39 : decode cL_isSo 39 = .ok (.iconst 4, 1) := by decide +kernel
theorem dL_isSo_40 : decode cL_isSo 40 = .ok (.irem, 1) := by decide +kernel
theorem dL_isSo_41 : decode cL_isSo 41 = .ok (.istore 11, 2) := by decide +kernel
theorem dL_isSo_43 : decode cL_isSo 43 = .ok (.aload_n 0, 1) := by decide +kernel
theorem dL_isSo_44 : decode cL_isSo 44 = .ok (.iload 9, 2) := by decide +kernel
theorem dL_isSo_46 : decode cL_isSo 46 = .ok (.iload 10, 2) := by decide +kernel
theorem dL_isSo_48 : decode cL_isSo 48 = .ok (.iload 11, 2) := by decide +kernel
theorem dL_isSo_50 : decode cL_isSo 50 = .ok (.invokevirtual 105, 3) := by decide +kernel
theorem dL_isSo_53 : decode cL_isSo 53 = .ok (.iload 10, 2) := by decide +kernel
theorem dL_isSo_55 : decode cL_isSo 55 = .ok (.aload_n 1, 1) := by decide +kernel
theorem dL_isSo_56 : decode cL_isSo 56 = .ok (.iconst 2, 1) := by decide +kernel
theorem dL_isSo_57 : decode cL_isSo 57 = .ok (.iload 9, 2) := by decide +kernel
theorem dL_isSo_59 : decode cL_isSo 59 = .ok (.iadd, 1) := by decide +kernel
theorem dL_isSo_60 : decode cL_isSo 60 = .ok (.iaload, 1) := by decide +kernel
theorem dL_isSo_61 : decode cL_isSo 61 = .ok (.if_icmp .ge 25, 3) := by decide +kernel
theorem dL_isSo_64 : decode cL_isSo 64 = .ok (.iload 11, 2) := by decide +kernel
theorem dL_isSo_66 : decode cL_isSo 66 = .ok (.aload_n 1, 1) := by decide +kernel
theorem dL_isSo_67 : decode cL_isSo 67 = .ok (.iload 9, 2) := by decide +kernel
theorem dL_isSo_69 : decode cL_isSo 69 = .ok (.iaload, 1) := by decide +kernel
theorem dL_isSo_70 : decode cL_isSo 70 = .ok (.if_icmp .ge 16, 3) := by decide +kernel
theorem dL_isSo_73 : decode cL_isSo 73 = .ok (.aload_n 2, 1) := by decide +kernel
theorem dL_isSo_74 : decode cL_isSo 74 = .ok (.iload 9, 2) := by decide +kernel
theorem dL_isSo_76 : decode cL_isSo 76 = .ok (.iload 10, 2) := by decide +kernel
theorem dL_isSo_78 : decode cL_isSo 78 = .ok (.iload 11, 2) := by decide +kernel
theorem dL_isSo_80 : decode cL_isSo 80 = .ok (.invokestatic 9, 3) := by decide +kernel
theorem dL_isSo_83 : decode cL_isSo 83 = .ok (.goto 5, 3) := by decide +kernel
theorem dL_isSo_86 : decode cL_isSo 86 = .ok (.bipush (-11), 2) := by decide +kernel
theorem dL_isSo_88 : decode cL_isSo 88 = .ok (.if_icmp .ne 7, 3) := by decide +kernel
theorem dL_isSo_91 : decode cL_isSo 91 = .ok (.iconst 1, 1) := by decide +kernel
theorem dL_isSo_92 : decode cL_isSo 92 = .ok (.goto 4, 3) := by decide +kernel
theorem dL_isSo_95 : decode cL_isSo 95 = .ok (.iconst 0, 1) := by decide +kernel
theorem dL_isSo_96 : decode cL_isSo 96 = .ok (.istore 6, 2) := by decide +kernel
theorem dL_isSo_98 : decode cL_isSo 98 = .ok (.iinc 8 1, 3) := by decide +kernel
theorem dL_isSo_101 : decode cL_isSo 101 = .ok (.goto (-92), 3) := by decide +kernel
theorem dL_isSo_104 : decode cL_isSo 104 = .ok (.iconst 0, 1) := by decide +kernel
theorem dL_isSo_105 : decode cL_isSo 105 = .ok (.istore 8, 2) := by decide +kernel
theorem dL_isSo_107 : decode cL_isSo 107 = .ok (.iload 8, 2) := by decide +kernel
theorem dL_isSo_109 : decode cL_isSo 109 = .ok (.bipush 8, 2) := by decide +kernel
theorem dL_isSo_111 : decode cL_isSo 111 = .ok (.if_icmp .ge 248, 3) := by decide +kernel
theorem dL_isSo_114 : decode cL_isSo 114 = .ok (.iload 6, 2) := by decide +kernel
theorem dL_isSo_116 : decode cL_isSo 116 = .ok (.ifCond .eq 243, 3) := by decide +kernel
theorem dL_isSo_119 : decode cL_isSo 119 = .ok (.iload 8, 2) := by decide +kernel
theorem dL_isSo_121 : decode cL_isSo 121 = .ok (.iconst 4, 1) := by decide +kernel
theorem dL_isSo_122 : decode cL_isSo 122 = .ok (.idiv, 1) := by decide +kernel
theorem dL_isSo_123 : decode cL_isSo 123 = .ok (.istore 9, 2) := by decide +kernel
theorem dL_isSo_125 : decode cL_isSo 125 = .ok (.iload 7, 2) := by decide +kernel
theorem dL_isSo_127 : decode cL_isSo 127 = .ok (.aload_n 3, 1) := by decide +kernel
theorem dL_isSo_128 : decode cL_isSo 128 = .ok (.iload 8, 2) := by decide +kernel
theorem dL_isSo_130 : decode cL_isSo 130 = .ok (.iaload, 1) := by decide +kernel
theorem dL_isSo_131 : decode cL_isSo 131 = .ok (.ifCond .ne 7, 3) := by decide +kernel
theorem dL_isSo_134 : decode cL_isSo 134 = .ok (.iconst 0, 1) := by decide +kernel
theorem dL_isSo_135 : decode cL_isSo 135 = .ok (.goto 4, 3) := by decide +kernel
theorem dL_isSo_138 : decode cL_isSo 138 = .ok (.iconst 1, 1) := by decide +kernel
theorem dL_isSo_139 : decode cL_isSo 139 = .ok (.iadd, 1) := by decide +kernel
theorem dL_isSo_140 : decode cL_isSo 140 = .ok (.istore 7, 2) := by decide +kernel
theorem dL_isSo_142 : decode cL_isSo 142 = .ok (.iconst 0, 1) := by decide +kernel
theorem dL_isSo_143 : decode cL_isSo 143 = .ok (.istore 10, 2) := by decide +kernel
theorem dL_isSo_145 : decode cL_isSo 145 = .ok (.iconst 0, 1) := by decide +kernel
theorem dL_isSo_146 : decode cL_isSo 146 = .ok (.istore 11, 2) := by decide +kernel
theorem dL_isSo_148 : decode cL_isSo 148 = .ok (.iload 11, 2) := by decide +kernel
theorem dL_isSo_150 : decode cL_isSo 150 = .ok (.aload_n 1, 1) := by decide +kernel
theorem dL_isSo_151 : decode cL_isSo 151 = .ok (.iconst 2, 1) := by decide +kernel
theorem dL_isSo_152 : decode cL_isSo 152 = .ok (.iload 9, 2) := by decide +kernel
theorem dL_isSo_154 : decode cL_isSo 154 = .ok (.iadd, 1) := by decide +kernel
theorem dL_isSo_155 : decode cL_isSo 155 = .ok (.iaload, 1) := by decide +kernel
theorem dL_isSo_156 : decode cL_isSo 156 = .ok (.if_icmp .ge 60, 3) := by decide +kernel
theorem dL_isSo_159 : decode cL_isSo 159 = .ok (.iload 10, 2) := by decide +kernel
theorem dL_isSo_161 : decode cL_isSo 161 = .ok (.aload_n 3, 1) := by decide +kernel
theorem dL_isSo_162 : decode cL_isSo 162 = .ok (.iload 8, 2) := by decide +kernel
theorem dL_isSo_164 : decode cL_isSo 164 = .ok (.iaload, 1) := by decide +kernel
theorem dL_isSo_165 : decode cL_isSo 165 = .ok (.bipush 9, 2) := by decide +kernel
theorem dL_isSo_167 : decode cL_isSo 167 = .ok (.if_icmp .ge 39, 3) := by decide +kernel
theorem dL_isSo_170 : decode cL_isSo 170 = .ok (.aload_n 3, 1) := by decide +kernel
theorem dL_isSo_171 : decode cL_isSo 171 = .ok (.iload 8, 2) := by decide +kernel
theorem dL_isSo_173 : decode cL_isSo 173 = .ok (.iaload, 1) := by decide +kernel
theorem dL_isSo_174 : decode cL_isSo 174 = .ok (.aload 4, 2) := by decide +kernel
theorem dL_isSo_176 : decode cL_isSo 176 = .ok (.iload 8, 2) := by decide +kernel
theorem dL_isSo_178 : decode cL_isSo 178 = .ok (.iaload, 1) := by decide +kernel
theorem dL_isSo_179 : decode cL_isSo 179 = .ok (.aload 5, 2) := by decide +kernel
theorem dL_isSo_181 : decode cL_isSo 181 = .ok (.iload 8, 2) := by decide +kernel
theorem dL_isSo_183 : decode cL_isSo 183 = .ok (.iaload, 1) := by decide +kernel
theorem dL_isSo_184 : decode cL_isSo 184 = .ok (.aload_n 2, 1) := by decide +kernel
theorem dL_isSo_185 : decode cL_isSo 185 = .ok (.iload 9, 2) := by decide +kernel
theorem dL_isSo_187 : decode cL_isSo 187 = .ok (.iload 11, 2) := by decide +kernel
theorem dL_isSo_189 : decode cL_isSo 189 = .ok (.iload 8, 2) := by decide +kernel
theorem dL_isSo_191 : decode cL_isSo 191 = .ok (.iconst 4, 1) := by decide +kernel
theorem dL_isSo_192 : decode cL_isSo 192 = .ok (.irem, 1) := by decide +kernel
theorem dL_isSo_193 : decode cL_isSo 193 = .ok (.invokestatic 9, 3) := by decide +kernel
theorem dL_isSo_196 : decode cL_isSo 196 = .ok (.invokestatic 22, 3) := by decide +kernel
theorem dL_isSo_199 : decode cL_isSo 199 = .ok (.ifCond .eq 7, 3) := by decide +kernel
theorem dL_isSo_202 : decode cL_isSo 202 = .ok (.iconst 1, 1) := by decide +kernel
theorem dL_isSo_203 : decode cL_isSo 203 = .ok (.goto 4, 3) := by decide +kernel
theorem dL_isSo_206 : decode cL_isSo 206 = .ok (.iconst 0, 1) := by decide +kernel
theorem dL_isSo_207 : decode cL_isSo 207 = .ok (.iadd, 1) := by decide +kernel
theorem dL_isSo_208 : decode cL_isSo 208 = .ok (.istore 10, 2) := by decide +kernel
theorem dL_isSo_210 : decode cL_isSo 210 = .ok (.iinc 11 1, 3) := by decide +kernel
theorem dL_isSo_213 : decode cL_isSo 213 = .ok (.goto (-65), 3) := by decide +kernel
theorem dL_isSo_216 : decode cL_isSo 216 = .ok (.iload 8, 2) := by decide +kernel
theorem dL_isSo_218 : decode cL_isSo 218 = .ok (.iconst 4, 1) := by decide +kernel
theorem dL_isSo_219 : decode cL_isSo 219 = .ok (.irem, 1) := by decide +kernel
theorem dL_isSo_220 : decode cL_isSo 220 = .ok (.aload_n 1, 1) := by decide +kernel
theorem dL_isSo_221 : decode cL_isSo 221 = .ok (.iload 9, 2) := by decide +kernel
theorem dL_isSo_223 : decode cL_isSo 223 = .ok (.iaload, 1) := by decide +kernel
theorem dL_isSo_224 : decode cL_isSo 224 = .ok (.if_icmp .ge 7, 3) := by decide +kernel
theorem dL_isSo_227 : decode cL_isSo 227 = .ok (.iconst 1, 1) := by decide +kernel
theorem dL_isSo_228 : decode cL_isSo 228 = .ok (.goto 4, 3) := by decide +kernel
theorem dL_isSo_231 : decode cL_isSo 231 = .ok (.iconst 0, 1) := by decide +kernel
theorem dL_isSo_232 : decode cL_isSo 232 = .ok (.istore 11, 2) := by decide +kernel
theorem dL_isSo_234 : decode cL_isSo 234 = .ok (.aload_n 0, 1) := by decide +kernel
theorem dL_isSo_235 : decode cL_isSo 235 = .ok (.iload 9, 2) := by decide +kernel
theorem dL_isSo_237 : decode cL_isSo 237 = .ok (.iload 8, 2) := by decide +kernel
theorem dL_isSo_239 : decode cL_isSo 239 = .ok (.iconst 4, 1) := by decide +kernel
theorem dL_isSo_240 : decode cL_isSo 240 = .ok (.irem, 1) := by decide +kernel
theorem dL_isSo_241 : decode cL_isSo 241 = .ok (.iconst 0, 1) := by decide +kernel
theorem dL_isSo_242 : decode cL_isSo 242 = .ok (.invokevirtual 108, 3) := by decide +kernel
theorem dL_isSo_245 : decode cL_isSo 245 = .ok (.iload 11, 2) := by decide +kernel
theorem dL_isSo_247 : decode cL_isSo 247 = .ok (.ifCond .eq 10, 3) := by decide +kernel
theorem dL_isSo_250 : decode cL_isSo 250 = .ok (.aload_n 3, 1) := by decide +kernel
theorem dL_isSo_251 : decode cL_isSo 251 = .ok (.iload 8, 2) := by decide +kernel
theorem dL_isSo_253 : decode cL_isSo 253 = .ok (.iaload, 1) := by decide +kernel
theorem dL_isSo_254 : decode cL_isSo 254 = .ok (.goto 5, 3) := by decide +kernel
theorem dL_isSo_257 : decode cL_isSo 257 = .ok (.bipush (-11), 2) := by decide +kernel
theorem dL_isSo_259 : decode cL_isSo 259 = .ok (.if_icmp .ne 91, 3) := by decide +kernel
theorem dL_isSo_262 : decode cL_isSo 262 = .ok (.aload_n 0, 1) := by decide +kernel
theorem dL_isSo_263 : decode cL_isSo 263 = .ok (.iload 9, 2) := by decide +kernel
theorem dL_isSo_265 : decode cL_isSo 265 = .ok (.iload 8, 2) := by decide +kernel
theorem dL_isSo_267 : decode cL_isSo 267 = .ok (.iconst 4, 1) := by decide +kernel
theorem dL_isSo_268 : decode cL_isSo 268 = .ok (.irem, 1) := by decide +kernel
theorem dL_isSo_269 : decode cL_isSo 269 = .ok (.iconst 1, 1) := by decide +kernel
theorem dL_isSo_270 : decode cL_isSo 270 = .ok (.invokevirtual 108, 3) := by decide +kernel
theorem dL_isSo_273 : decode cL_isSo 273 = .ok (.iload 11, 2) := by decide +kernel
theorem dL_isSo_275 : decode cL_isSo 275 = .ok (.ifCond .eq 11, 3) := by decide +kernel
theorem dL_isSo_278 : decode cL_isSo 278 = .ok (.aload 4, 2) := by decide +kernel
theorem dL_isSo_280 : decode cL_isSo 280 = .ok (.iload 8, 2) := by decide +kernel
theorem dL_isSo_282 : decode cL_isSo 282 = .ok (.iaload, 1) := by decide +kernel
theorem dL_isSo_283 : decode cL_isSo 283 = .ok (.goto 5, 3) := by decide +kernel
theorem dL_isSo_286 : decode cL_isSo 286 = .ok (.bipush (-11), 2) := by decide +kernel
theorem dL_isSo_288 : decode cL_isSo 288 = .ok (.if_icmp .ne 62, 3) := by decide +kernel
theorem dL_isSo_291 : decode cL_isSo 291 = .ok (.aload_n 0, 1) := by decide +kernel
theorem dL_isSo_292 : decode cL_isSo 292 = .ok (.iload 9, 2) := by decide +kernel
theorem dL_isSo_294 : decode cL_isSo 294 = .ok (.iload 8, 2) := by decide +kernel
theorem dL_isSo_296 : decode cL_isSo 296 = .ok (.iconst 4, 1) := by decide +kernel
theorem dL_isSo_297 : decode cL_isSo 297 = .ok (.irem, 1) := by decide +kernel
theorem dL_isSo_298 : decode cL_isSo 298 = .ok (.iconst 2, 1) := by decide +kernel
theorem dL_isSo_299 : decode cL_isSo 299 = .ok (.invokevirtual 108, 3) := by decide +kernel
theorem dL_isSo_302 : decode cL_isSo 302 = .ok (.iload 11, 2) := by decide +kernel
theorem dL_isSo_304 : decode cL_isSo 304 = .ok (.ifCond .eq 11, 3) := by decide +kernel
theorem dL_isSo_307 : decode cL_isSo 307 = .ok (.aload 5, 2) := by decide +kernel
theorem dL_isSo_309 : decode cL_isSo 309 = .ok (.iload 8, 2) := by decide +kernel
theorem dL_isSo_311 : decode cL_isSo 311 = .ok (.iaload, 1) := by decide +kernel
theorem dL_isSo_312 : decode cL_isSo 312 = .ok (.goto 5, 3) := by decide +kernel
theorem dL_isSo_315 : decode cL_isSo 315 = .ok (.bipush (-11), 2) := by decide +kernel
theorem dL_isSo_317 : decode cL_isSo 317 = .ok (.if_icmp .ne 33, 3) := by decide +kernel
theorem dL_isSo_320 : decode cL_isSo 320 = .ok (.aload_n 0, 1) := by decide +kernel
theorem dL_isSo_321 : decode cL_isSo 321 = .ok (.iload 9, 2) := by decide +kernel
theorem dL_isSo_323 : decode cL_isSo 323 = .ok (.iload 8, 2) := by decide +kernel
theorem dL_isSo_325 : decode cL_isSo 325 = .ok (.iconst 4, 1) := by decide +kernel
theorem dL_isSo_326 : decode cL_isSo 326 = .ok (.irem, 1) := by decide +kernel
theorem dL_isSo_327 : decode cL_isSo 327 = .ok (.iconst 3, 1) := by decide +kernel
theorem dL_isSo_328 : decode cL_isSo 328 = .ok (.invokevirtual 108, 3) := by decide +kernel
theorem dL_isSo_331 : decode cL_isSo 331 = .ok (.iload 11, 2) := by decide +kernel
theorem dL_isSo_333 : decode cL_isSo 333 = .ok (.ifCond .eq 8, 3) := by decide +kernel
theorem dL_isSo_336 : decode cL_isSo 336 = .ok (.iload 10, 2) := by decide +kernel
theorem dL_isSo_338 : decode cL_isSo 338 = .ok (.goto 5, 3) := by decide +kernel
theorem dL_isSo_341 : decode cL_isSo 341 = .ok (.bipush (-11), 2) := by decide +kernel
theorem dL_isSo_343 : decode cL_isSo 343 = .ok (.if_icmp .ne 7, 3) := by decide +kernel
theorem dL_isSo_346 : decode cL_isSo 346 = .ok (.iconst 1, 1) := by decide +kernel
theorem dL_isSo_347 : decode cL_isSo 347 = .ok (.goto 4, 3) := by decide +kernel
theorem dL_isSo_350 : decode cL_isSo 350 = .ok (.iconst 0, 1) := by decide +kernel
theorem dL_isSo_351 : decode cL_isSo 351 = .ok (.istore 6, 2) := by decide +kernel
theorem dL_isSo_353 : decode cL_isSo 353 = .ok (.iinc 8 1, 3) := by decide +kernel
theorem dL_isSo_356 : decode cL_isSo 356 = .ok (.goto (-249), 3) := by decide +kernel
theorem dL_isSo_359 : decode cL_isSo 359 = .ok (.iload 6, 2) := by decide +kernel
theorem dL_isSo_361 : decode cL_isSo 361 = .ok (.ifCond .eq 145, 3) := by decide +kernel
theorem dL_isSo_364 : decode cL_isSo 364 = .ok (.aload_n 0, 1) := by decide +kernel
theorem dL_isSo_365 : decode cL_isSo 365 = .ok (.iconst 0, 1) := by decide +kernel
theorem dL_isSo_366 : decode cL_isSo 366 = .ok (.invokevirtual 111, 3) := by decide +kernel
theorem dL_isSo_369 : decode cL_isSo 369 = .ok (.aload_n 1, 1) := by decide +kernel
theorem dL_isSo_370 : decode cL_isSo 370 = .ok (.iconst 2, 1) := by decide +kernel
theorem dL_isSo_371 : decode cL_isSo 371 = .ok (.iaload, 1) := by decide +kernel
theorem dL_isSo_372 : decode cL_isSo 372 = .ok (.if_icmp .ne 134, 3) := by decide +kernel
theorem dL_isSo_375 : decode cL_isSo 375 = .ok (.aload_n 0, 1) := by decide +kernel
theorem dL_isSo_376 : decode cL_isSo 376 = .ok (.iconst 1, 1) := by decide +kernel
theorem dL_isSo_377 : decode cL_isSo 377 = .ok (.invokevirtual 111, 3) := by decide +kernel
theorem dL_isSo_380 : decode cL_isSo 380 = .ok (.aload_n 1, 1) := by decide +kernel
theorem dL_isSo_381 : decode cL_isSo 381 = .ok (.iconst 3, 1) := by decide +kernel
theorem dL_isSo_382 : decode cL_isSo 382 = .ok (.iaload, 1) := by decide +kernel
theorem dL_isSo_383 : decode cL_isSo 383 = .ok (.if_icmp .ne 123, 3) := by decide +kernel
theorem dL_isSo_386 : decode cL_isSo 386 = .ok (.aload_n 0, 1) := by decide +kernel
theorem dL_isSo_387 : decode cL_isSo 387 = .ok (.iconst 2, 1) := by decide +kernel
theorem dL_isSo_388 : decode cL_isSo 388 = .ok (.invokevirtual 111, 3) := by decide +kernel
theorem dL_isSo_391 : decode cL_isSo 391 = .ok (.aload_n 1, 1) := by decide +kernel
theorem dL_isSo_392 : decode cL_isSo 392 = .ok (.iconst 0, 1) := by decide +kernel
theorem dL_isSo_393 : decode cL_isSo 393 = .ok (.iaload, 1) := by decide +kernel
theorem dL_isSo_394 : decode cL_isSo 394 = .ok (.if_icmp .ne 112, 3) := by decide +kernel
theorem dL_isSo_397 : decode cL_isSo 397 = .ok (.aload_n 0, 1) := by decide +kernel
theorem dL_isSo_398 : decode cL_isSo 398 = .ok (.iconst 3, 1) := by decide +kernel
theorem dL_isSo_399 : decode cL_isSo 399 = .ok (.invokevirtual 111, 3) := by decide +kernel
theorem dL_isSo_402 : decode cL_isSo 402 = .ok (.aload_n 1, 1) := by decide +kernel
theorem dL_isSo_403 : decode cL_isSo 403 = .ok (.iconst 1, 1) := by decide +kernel
theorem dL_isSo_404 : decode cL_isSo 404 = .ok (.iaload, 1) := by decide +kernel
theorem dL_isSo_405 : decode cL_isSo 405 = .ok (.if_icmp .ne 101, 3) := by decide +kernel
theorem dL_isSo_408 : decode cL_isSo 408 = .ok (.aload_n 0, 1) := by decide +kernel
theorem dL_isSo_409 : decode cL_isSo 409 = .ok (.iconst 4, 1) := by decide +kernel
theorem dL_isSo_410 : decode cL_isSo 410 = .ok (.invokevirtual 111, 3) := by decide +kernel
theorem dL_isSo_413 : decode cL_isSo 413 = .ok (.aload_n 1, 1) := by decide +kernel
theorem dL_isSo_414 : decode cL_isSo 414 = .ok (.iconst 4, 1) := by decide +kernel
theorem dL_isSo_415 : decode cL_isSo 415 = .ok (.iaload, 1) := by decide +kernel
theorem dL_isSo_416 : decode cL_isSo 416 = .ok (.if_icmp .ne 90, 3) := by decide +kernel
theorem dL_isSo_419 : decode cL_isSo 419 = .ok (.aload_n 0, 1) := by decide +kernel
theorem dL_isSo_420 : decode cL_isSo 420 = .ok (.iconst 5, 1) := by decide +kernel
theorem dL_isSo_421 : decode cL_isSo 421 = .ok (.invokevirtual 111, 3) := by decide +kernel
theorem dL_isSo_424 : decode cL_isSo 424 = .ok (.iload 7, 2) := by decide +kernel
theorem dL_isSo_426 : decode cL_isSo 426 = .ok (.if_icmp .ne 80, 3) := by decide +kernel
theorem dL_isSo_429 : decode cL_isSo 429 = .ok (.aload_n 0, 1) := by decide +kernel
theorem dL_isSo_430 : decode cL_isSo 430 = .ok (.bipush 6, 2) := by decide +kernel
theorem dL_isSo_432 : decode cL_isSo 432 = .ok (.invokevirtual 111, 3) := by decide +kernel
theorem dL_isSo_435 : decode cL_isSo 435 = .ok (.aload_n 1, 1) := by decide +kernel
theorem dL_isSo_436 : decode cL_isSo 436 = .ok (.bipush 9, 2) := by decide +kernel
theorem dL_isSo_438 : decode cL_isSo 438 = .ok (.iaload, 1) := by decide +kernel
theorem dL_isSo_439 : decode cL_isSo 439 = .ok (.if_icmp .ne 67, 3) := by decide +kernel
theorem dL_isSo_442 : decode cL_isSo 442 = .ok (.aload_n 0, 1) := by decide +kernel
theorem dL_isSo_443 : decode cL_isSo 443 = .ok (.bipush 8, 2) := by decide +kernel
theorem dL_isSo_445 : decode cL_isSo 445 = .ok (.invokevirtual 111, 3) := by decide +kernel
theorem dL_isSo_448 : decode cL_isSo 448 = .ok (.ifCond .ne 58, 3) := by decide +kernel
theorem dL_isSo_451 : decode cL_isSo 451 = .ok (.aload_n 0, 1) := by decide +kernel
theorem dL_isSo_452 : decode cL_isSo 452 = .ok (.bipush 10, 2) := by decide +kernel
theorem dL_isSo_454 : decode cL_isSo 454 = .ok (.invokevirtual 111, 3) := by decide +kernel
theorem dL_isSo_457 : decode cL_isSo 457 = .ok (.aload_n 1, 1) := by decide +kernel
theorem dL_isSo_458 : decode cL_isSo 458 = .ok (.iconst 5, 1) := by decide +kernel
theorem dL_isSo_459 : decode cL_isSo 459 = .ok (.iaload, 1) := by decide +kernel
theorem dL_isSo_460 : decode cL_isSo 460 = .ok (.if_icmp .ne 46, 3) := by decide +kernel
theorem dL_isSo_463 : decode cL_isSo 463 = .ok (.aload_n 0, 1) := by decide +kernel
theorem dL_isSo_464 : decode cL_isSo 464 = .ok (.bipush 11, 2) := by decide +kernel
theorem dL_isSo_466 : decode cL_isSo 466 = .ok (.invokevirtual 111, 3) := by decide +kernel
theorem dL_isSo_469 : decode cL_isSo 469 = .ok (.aload_n 1, 1) := by decide +kernel
theorem dL_isSo_470 : decode cL_isSo 470 = .ok (.bipush 7, 2) := by decide +kernel
theorem dL_isSo_472 : decode cL_isSo 472 = .ok (.iaload, 1) := by decide +kernel
theorem dL_isSo_473 : decode cL_isSo 473 = .ok (.if_icmp .ne 33, 3) := by decide +kernel
theorem dL_isSo_476 : decode cL_isSo 476 = .ok (.aload_n 0, 1) := by decide +kernel
theorem dL_isSo_477 : decode cL_isSo 477 = .ok (.bipush 12, 2) := by decide +kernel
theorem dL_isSo_479 : decode cL_isSo 479 = .ok (.invokevirtual 111, 3) := by decide +kernel
theorem dL_isSo_482 : decode cL_isSo 482 = .ok (.aload_n 1, 1) := by decide +kernel
theorem dL_isSo_483 : decode cL_isSo 483 = .ok (.bipush 6, 2) := by decide +kernel
theorem dL_isSo_485 : decode cL_isSo 485 = .ok (.iaload, 1) := by decide +kernel
theorem dL_isSo_486 : decode cL_isSo 486 = .ok (.if_icmp .ne 20, 3) := by decide +kernel
theorem dL_isSo_489 : decode cL_isSo 489 = .ok (.aload_n 0, 1) := by decide +kernel
theorem dL_isSo_490 : decode cL_isSo 490 = .ok (.bipush 13, 2) := by decide +kernel
theorem dL_isSo_492 : decode cL_isSo 492 = .ok (.invokevirtual 111, 3) := by decide +kernel
theorem dL_isSo_495 : decode cL_isSo 495 = .ok (.aload_n 1, 1) := by decide +kernel
theorem dL_isSo_496 : decode cL_isSo 496 = .ok (.bipush 8, 2) := by decide +kernel
theorem dL_isSo_498 : decode cL_isSo 498 = .ok (.iaload, 1) := by decide +kernel
theorem dL_isSo_499 : decode cL_isSo 499 = .ok (.if_icmp .ne 7, 3) := by decide +kernel
theorem dL_isSo_502 : decode cL_isSo 502 = .ok (.iconst 1, 1) := by decide +kernel
theorem dL_isSo_503 : decode cL_isSo 503 = .ok (.goto 4, 3) := by decide +kernel
theorem dL_isSo_506 : decode cL_isSo 506 = .ok (.iconst 0, 1) := by decide +kernel
theorem dL_isSo_507 : decode cL_isSo 507 = .ok (.ireturn, 1) := by decide +kernel
set_option maxRecDepth 20000 in
theorem ggL_areRows_L_many : GoodIn wsL_areRows wsL_many := goodIn_r _ [6, 2, 7, 8, 5, 9, 10, 11, 12, 13, 14, 15, 16, 17, 18, 19, 20, 21] (by decide +kernel) (by decide +kernel)
set_option maxRecDepth 20000 in
theorem gL_areRows_L_many : GoodIn wsL_areRows (va_wsS RL 50 yL_many wsL_many) := goodIn_app (goodIn_of _ (by decide +kernel)) ggL_areRows_L_many
set_option maxRecDepth 20000 in
theorem ggL_areRows_X8_many : GoodIn wsL_areRows wsX8_many := goodIn_r _ [26, 27, 28, 29, 30, 31, 32, 33, 34, 35, 36, 37, 38, 39, 40, 41, 42, 43, 44, 45, 46, 47, 48, 49, 50, 51, 52, 53, 54, 55, 56, 57, 58, 59, 60, 61, 62, 63, 64, 65, 66, 67, 68, 69, 70, 71, 72, 73, 74, 75, 76, 77, 78, 79, 80, 81, 82, 83, 84, 85, 86, 87, 88, 89, 90, 91, 92, 93, 94, 95, 96, 97, 98, 99, 100, 101, 102, 103, 104, 105, 106, 107, 108, 109, 110, 111, 112, 113, 114, 115, 116, 117, 118, 119, 120, 121, 122, 123, 124, 125, 126, 127, 128, 129, 130, 131, 132, 222, 223, 224, 225, 226, 227, 228, 229, 230, 231, 232, 233, 234, 235, 236, 237, 238, 239, 240, 241, 242, 243, 244, 245, 246] (by decide +kernel) (by decide +kernel)
set_option maxRecDepth 20000 in
theorem gL_areRows_X8_many : GoodIn wsL_areRows (wsV RL 114 RX8 yX8_many wsX8_many) := goodIn_app (goodIn_of _ (by decide +kernel)) ggL_areRows_X8_many
set_option maxRecDepth 20000 in
theorem ggL_areRows_X8_row_1 : GoodIn wsL_areRows ((Cond.code yX8_row cX8_row 5 (some .int)) :: wsX8_row_r1) := goodIn_r _ [136, 27, 137, 138, 139, 25, 140, 141, 142, 143, 28, 29, 30, 31, 32, 33, 34, 35, 36, 37, 38, 39, 40, 41, 42] (by decide +kernel) (by decide +kernel)
set_option maxRecDepth 20000 in
theorem ggL_areRows_X8_row_2 : GoodIn wsL_areRows wsX8_row_r2 := goodIn_r _ [43, 44, 45, 46, 47, 48, 49, 50, 51, 52, 53, 54, 55, 56, 57, 58, 59, 60, 61, 62, 63, 64, 65, 66] (by decide +kernel) (by decide +kernel)
set_option maxRecDepth 20000 in
theorem ggL_areRows_X8_row_3 : GoodIn wsL_areRows wsX8_row_r3 := goodIn_r _ [67, 68, 69, 70, 71, 72, 73, 74, 75, 76, 77, 78, 79, 80, 81, 82, 83, 84, 85, 86, 87, 88, 89, 90] (by decide +kernel) (by decide +kernel)
set_option maxRecDepth 20000 in
theorem ggL_areRows_X8_row_4 : GoodIn wsL_areRows wsX8_row_r4 := goodIn_r _ [91, 92, 93, 94, 95, 96, 97, 98, 99, 100, 101, 102, 103, 104, 105, 106, 107, 108, 109, 110, 111, 112, 113, 114] (by decide +kernel) (by decide +kernel)
set_option maxRecDepth 20000 in
theorem ggL_areRows_X8_row_5 : GoodIn wsL_areRows wsX8_row_r5 := goodIn_r _ [115, 116, 117, 118, 119, 120, 121, 122, 123, 124, 125, 126, 127, 128, 129, 130, 131, 132, 144, 145, 146, 147, 148, 149] (by decide +kernel) (by decide +kernel)
set_option maxRecDepth 20000 in
theorem ggL_areRows_X8_row_6 : GoodIn wsL_areRows wsX8_row_r6 := goodIn_r _ [150, 151, 152, 153, 154, 155, 156, 157, 158, 159, 160, 161, 162, 163, 164, 165, 166, 167, 168, 169, 170, 171, 172, 173] (by decide +kernel) (by decide +kernel)
set_option maxRecDepth 20000 in
theorem ggL_areRows_X8_row_7 : GoodIn wsL_areRows wsX80 := goodIn_r _ [222, 223, 224, 225, 226] (by decide +kernel) (by decide +kernel)
set_option maxRecDepth 20000 in
theorem ggL_areRows_X8_row_8 : GoodIn wsL_areRows wsX50 := goodIn_r _ [227, 228, 229, 230, 231, 232] (by decide +kernel) (by decide +kernel)
set_option maxRecDepth 20000 in
theorem ggL_areRows_X8_row_9 : GoodIn wsL_areRows wsX30 := goodIn_r _ [233] (by decide +kernel) (by decide +kernel)
set_option maxRecDepth 20000 in
theorem ggL_areRows_X8_row_10 : GoodIn wsL_areRows wsX60 := goodIn_r _ [234, 235, 236, 237, 238, 239] (by decide +kernel) (by decide +kernel)
set_option maxRecDepth 20000 in
theorem ggL_areRows_X8_row_11 : GoodIn wsL_areRows wsX00 := goodIn_r _ [240, 241, 242, 243] (by decide +kernel) (by decide +kernel)
set_option maxRecDepth 20000 in
theorem ggL_areRows_X8_row_12 : GoodIn wsL_areRows wsX10 := goodIn_r _ [244, 245, 246] (by decide +kernel) (by decide +kernel)
theorem ggL_areRows_X8_row : GoodIn wsL_areRows wsX8_row := goodIn_ca (goodIn_ca (goodIn_ca (goodIn_ca (goodIn_ca (goodIn_ca (goodIn_ca (ggL_areRows_X8_row_1) (goodIn_app (ggL_areRows_X8_row_2) (goodIn_app (ggL_areRows_X8_row_3) (goodIn_app (ggL_areRows_X8_row_4) (goodIn_app (ggL_areRows_X8_row_5) (ggL_areRows_X8_row_6)))))) (ggL_areRows_X8_row_7)) (ggL_areRows_X8_row_8)) (ggL_areRows_X8_row_9)) (ggL_areRows_X8_row_10)) (ggL_areRows_X8_row_11)) (ggL_areRows_X8_row_12)
set_option maxRecDepth 20000 in
theorem gL_areRows_X8_row : GoodIn wsL_areRows (wsV RL 116 RX8 yX8_row wsX8_row) := goodIn_app (goodIn_of _ (by decide +kernel)) ggL_areRows_X8_row
set_option maxRecDepth 20000 in
theorem ggL_areRows_L_ahead : GoodIn wsL_areRows wsL_ahead := goodIn_r _ [176, 10, 11, 5, 12, 13, 14, 15, 16, 17, 18] (by decide +kernel) (by decide +kernel)
set_option maxRecDepth 20000 in
theorem gL_areRows_L_ahead : GoodIn wsL_areRows (va_wsS RL 119 yL_ahead wsL_ahead) := goodIn_app (goodIn_of _ (by decide +kernel)) ggL_areRows_L_ahead
set_option maxRecDepth 20000 in
theorem ggL_areRows_L_unfit : GoodIn wsL_areRows wsL_unfit := goodIn_r _ [9, 10, 11, 5, 12, 13, 14, 15, 16, 17, 18, 19, 20, 21] (by decide +kernel) (by decide +kernel)
set_option maxRecDepth 20000 in
theorem gL_areRows_L_unfit : GoodIn wsL_areRows (va_wsS RL 26 yL_unfit wsL_unfit) := goodIn_app (goodIn_of _ (by decide +kernel)) ggL_areRows_L_unfit
set_option maxRecDepth 20000 in
theorem ggL_areRows_X8_why : GoodIn wsL_areRows wsX8_why := goodIn_r _ [180, 137, 27, 167, 71, 72, 51, 73, 74, 181, 95, 96, 97, 53, 54, 182, 122, 123, 58, 124, 102, 183, 184, 185, 31, 186, 36, 37, 38, 39, 40, 41, 34, 42, 43, 44, 45, 46, 47, 48, 49, 50, 52, 55, 56, 57, 59, 60, 61, 62, 63, 64, 65, 66, 67, 68, 69, 70, 75, 76, 77, 78, 79, 80, 81, 82, 83, 84, 85, 86, 87, 88, 89, 90, 91, 92, 93, 104, 105, 106, 107, 108, 109, 110, 111, 112, 113, 114, 115, 116, 117, 118, 119, 120, 121, 125, 126, 127, 128, 129, 130, 131, 132, 222, 223, 224, 225, 226, 234, 235, 236, 237, 238, 239, 240, 241, 242, 243, 227, 228, 229, 230, 231, 232, 233, 244, 245, 246] (by decide +kernel) (by decide +kernel)
set_option maxRecDepth 20000 in
theorem gL_areRows_X8_why : GoodIn wsL_areRows (wsV RL 122 RX8 yX8_why wsX8_why) := goodIn_app (goodIn_of _ (by decide +kernel)) ggL_areRows_X8_why
set_option maxRecDepth 20000 in
theorem ggL_areRows_L_asked : GoodIn wsL_areRows wsL_asked := goodIn_r _ [12] (by decide +kernel) (by decide +kernel)
set_option maxRecDepth 20000 in
theorem gL_areRows_L_asked : GoodIn wsL_areRows (va_wsS RL 15 yL_asked wsL_asked) := goodIn_app (goodIn_of _ (by decide +kernel)) ggL_areRows_L_asked
set_option maxRecDepth 20000 in
theorem ggL_areRows_L_of : GoodIn wsL_areRows wsL_of := goodIn_r _ [15, 16, 17, 5, 18] (by decide +kernel) (by decide +kernel)
set_option maxRecDepth 20000 in
theorem gL_areRows_L_of : GoodIn wsL_areRows (va_wsS RL 19 yL_of wsL_of) := goodIn_app (goodIn_of _ (by decide +kernel)) ggL_areRows_L_of
set_option maxRecDepth 20000 in
theorem ggL_areRows_X8_unlike : GoodIn wsL_areRows wsX8_unlike := goodIn_r _ [190, 27, 191, 192, 193, 31, 194, 195, 33, 35, 196, 29, 30, 32, 34, 36, 37, 38, 39, 40, 41, 42, 43, 44, 45, 46, 47, 48, 49, 50, 51, 52, 53, 54, 55, 56, 57, 58, 59, 60, 61, 62, 63, 64, 65, 66, 67, 68, 69, 70, 71, 72, 73, 74, 75, 76, 77, 78, 79, 80, 81, 82, 83, 84, 85, 86, 87, 88, 89, 90, 91, 92, 93, 94, 95, 96, 97, 98, 99, 100, 101, 102, 103, 104, 105, 106, 107, 108, 109, 110, 111, 112, 113, 114, 115, 116, 117, 118, 119, 120, 121, 122, 123, 124, 125, 126, 127, 128, 129, 130, 131, 132, 197, 198, 199, 200, 201, 202, 203, 204, 205, 206, 207, 208, 209, 210, 211, 212, 213, 214, 215, 222, 223, 224, 225, 226, 227, 228, 229, 230, 231, 232, 233, 234, 235, 236, 237, 238, 239, 240, 241, 242, 243, 244, 245, 246] (by decide +kernel) (by decide +kernel)
set_option maxRecDepth 20000 in
theorem gL_areRows_X8_unlike : GoodIn wsL_areRows (wsV RL 125 RX8 yX8_unlike wsX8_unlike) := goodIn_app (goodIn_of _ (by decide +kernel)) ggL_areRows_X8_unlike
set_option maxRecDepth 20000 in
theorem ggL_areRows_L_unlike : GoodIn wsL_areRows wsL_unlike := goodIn_r _ [218, 219, 220, 5, 221, 10, 11, 12, 13, 14, 15, 16, 17, 18] (by decide +kernel) (by decide +kernel)
set_option maxRecDepth 20000 in
theorem gL_areRows_L_unlike : GoodIn wsL_areRows (va_wsS RL 101 yL_unlike wsL_unlike) := goodIn_app (goodIn_of _ (by decide +kernel)) ggL_areRows_L_unlike
theorem dL_areRows_0 : decode cL_areRows 0 = .ok (.iconst 3, 1) := by decide +kernel
theorem dL_areRows_1 : decode cL_areRows 1 = .ok (.newarray .long, 2) := by decide +kernel
theorem dL_areRows_3 : decode cL_areRows 3 = .ok (.astore 6, 2) := by decide +kernel
theorem dL_areRows_5 : decode cL_areRows 5 = .ok (.iconst 4, 1) := by decide +kernel
theorem dL_areRows_6 : decode cL_areRows 6 = .ok (.newarray .int, 2) := by decide +kernel
theorem dL_areRows_8 : decode cL_areRows 8 = .ok (.astore 7, 2) := by decide +kernel
theorem dL_areRows_10 : decode cL_areRows 10 = .ok (.aload_n 1, 1) := by decide +kernel
theorem dL_areRows_11 : decode cL_areRows 11 = .ok (.aload_n 2, 1) := by decide +kernel
theorem dL_areRows_12 : decode cL_areRows 12 = .ok (.aload_n 3, 1) := by decide +kernel
theorem dL_areRows_13 : decode cL_areRows 13 = .ok (.aload 4, 2) := by decide +kernel
theorem dL_areRows_15 : decode cL_areRows 15 = .ok (.aload 5, 2) := by decide +kernel
theorem dL_areRows_17 : decode cL_areRows 17 = .ok (.aload 6, 2) := by decide +kernel
theorem dL_areRows_19 : decode cL_areRows 19 = .ok (.invokestatic 50, 3) := by decide +kernel
theorem dL_areRows_22 : decode cL_areRows 22 = .ok (.istore 8, 2) := by decide +kernel
theorem dL_areRows_24 : decode cL_areRows 24 = .ok (.iconst (-1), 1) := by decide +kernel
theorem dL_areRows_25 : decode cL_areRows 25 = .ok (.istore 9, 2) := by decide +kernel
theorem dL_areRows_27 : decode cL_areRows 27 = .ok (.aload_n 0, 1) := by decide +kernel
theorem dL_areRows_28 : decode cL_areRows 28 = .ok (.invokevirtual 114, 3) := by decide +kernel
theorem dL_areRows_31 : decode cL_areRows 31 = .ok (.iload 8, 2) := by decide +kernel
theorem dL_areRows_33 : decode cL_areRows 33 = .ok (.if_icmp .ne 7, 3) := by decide +kernel
theorem dL_areRows_36 : decode cL_areRows 36 = .ok (.iconst 1, 1) := by decide +kernel
theorem dL_areRows_37 : decode cL_areRows 37 = .ok (.goto 4, 3) := by decide +kernel
theorem dL_areRows_40 : decode cL_areRows 40 = .ok (.iconst 0, 1) := by decide +kernel
theorem dL_areRows_41 : decode cL_areRows 41 = .ok (.istore 10, 2) := by decide +kernel
theorem dL_areRows_43 : decode cL_areRows 43 = .ok (.iconst 0, 1) := by decide +kernel
theorem dL_areRows_44 : decode cL_areRows 44 = .ok (.istore 11, 2) := by decide +kernel
theorem dL_areRows_46 : decode cL_areRows 46 = .ok (.iload 11, 2) := by decide +kernel
theorem dL_areRows_48 : decode cL_areRows 48 = .ok (.iload 8, 2) := by decide +kernel
theorem dL_areRows_50 : decode cL_areRows 50 = .ok (.if_icmp .ge 288, 3) := by decide +kernel
theorem dL_areRows_53 : decode cL_areRows 53 = .ok (.iload 10, 2) := by decide +kernel
theorem dL_areRows_55 : decode cL_areRows 55 = .ok (.ifCond .eq 283, 3) := by decide +kernel
theorem dL_areRows_58 : decode cL_areRows 58 = .ok (.aload_n 0, 1) := by decide +kernel
theorem dL_areRows_59 : decode cL_areRows 59 = .ok (.iload 11, 2) := by decide +kernel
theorem dL_areRows_61 : decode cL_areRows 61 = .ok (.iconst 0, 1) := by decide +kernel
theorem dL_areRows_62 : decode cL_areRows 62 = .ok (.invokevirtual 116, 3) := by decide +kernel
theorem dL_areRows_65 : decode cL_areRows 65 = .ok (.istore 12, 2) := by decide +kernel
theorem dL_areRows_67 : decode cL_areRows 67 = .ok (.aload_n 1, 1) := by decide +kernel
theorem dL_areRows_68 : decode cL_areRows 68 = .ok (.iconst 4, 1) := by decide +kernel
theorem dL_areRows_69 : decode cL_areRows 69 = .ok (.iaload, 1) := by decide +kernel
theorem dL_areRows_70 : decode cL_areRows 70 = .ok (.iconst 1, 1) := by decide +kernel
theorem dL_areRows_71 : decode cL_areRows 71 = .ok (.if_icmp .ne 13, 3) := by decide +kernel
theorem dL_areRows_74 : decode cL_areRows 74 = .ok (.aload_n 0, 1) := by decide +kernel
theorem dL_areRows_75 : decode cL_areRows 75 = .ok (.iload 11, 2) := by decide +kernel
theorem dL_areRows_77 : decode cL_areRows 77 = .ok (.iconst 1, 1) := by decide +kernel
theorem dL_areRows_78 : decode cL_areRows 78 = .ok (.invokevirtual 116, 3) := by decide +kernel
theorem dL_areRows_81 : decode cL_areRows 81 = .ok (.goto 4, 3) := by decide +kernel
theorem dL_areRows_84 : decode cL_areRows 84 = .ok (.iconst 0, 1) := by decide +kernel
theorem dL_areRows_85 : decode cL_areRows 85 = .ok (.istore 13, 2) := by decide +kernel
theorem dL_areRows_87 : decode cL_areRows 87 = .ok (.bipush 12, 2) := by decide +kernel
theorem dL_areRows_89 : decode cL_areRows 89 = .ok (.iload 12, 2) := by decide +kernel
theorem dL_areRows_91 : decode cL_areRows 91 = .ok (.imul, 1) := by decide +kernel
theorem dL_areRows_92 : decode cL_areRows 92 = .ok (.iload 13, 2) := by decide +kernel
theorem dL_areRows_94 : decode cL_areRows 94 = .ok (.iadd, 1) := by decide +kernel
theorem dL_areRows_95 : decode cL_areRows 95 = .ok (.istore 14, 2) := by decide +kernel
theorem dL_areRows_97 : decode cL_areRows 97 = .ok (.iload 12, 2) := by decide +kernel
theorem dL_areRows_99 : decode cL_areRows 99 = .ok (.ifCond .lt 89, 3) := by decide +kernel
theorem dL_areRows_102 : decode cL_areRows 102 = .ok (.iload 12, 2) := by decide +kernel
theorem dL_areRows_104 : decode cL_areRows 104 = .ok (.aload_n 1, 1) := by decide +kernel
theorem dL_areRows_105 : decode cL_areRows 105 = .ok (.iconst 2, 1) := by decide +kernel
theorem dL_areRows_106 : decode cL_areRows 106 = .ok (.iaload, 1) := by decide +kernel
theorem dL_areRows_107 : decode cL_areRows 107 = .ok (.if_icmp .ge 81, 3) := by decide +kernel
theorem dL_areRows_110 : decode cL_areRows 110 = .ok (.iload 13, 2) := by decide +kernel
theorem dL_areRows_112 : decode cL_areRows 112 = .ok (.ifCond .lt 76, 3) := by decide +kernel
theorem dL_areRows_115 : decode cL_areRows 115 = .ok (.iload 13, 2) := by decide +kernel
theorem dL_areRows_117 : decode cL_areRows 117 = .ok (.bipush 12, 2) := by decide +kernel
theorem dL_areRows_119 : decode cL_areRows 119 = .ok (.if_icmp .ge 69, 3) := by decide +kernel
theorem dL_areRows_122 : decode cL_areRows 122 = .ok (.aload 6, 2) := by decide +kernel
theorem dL_areRows_124 : decode cL_areRows 124 = .ok (.iload 14, 2) := by decide +kernel
theorem dL_areRows_126 : decode cL_areRows 126 = .ok (.bipush 48, 2) := by decide +kernel
theorem dL_areRows_128 : decode cL_areRows 128 = .ok (.idiv, 1) := by decide +kernel
theorem dL_areRows_129 : decode cL_areRows 129 = .ok (.laload, 1) := by decide +kernel
theorem dL_areRows_130 : decode cL_areRows 130 = .ok (.iload 14, 2) := by decide +kernel
theorem dL_areRows_132 : decode cL_areRows 132 = .ok (.bipush 48, 2) := by decide +kernel
theorem dL_areRows_134 : decode cL_areRows 134 = .ok (.irem, 1) := by decide +kernel
theorem dL_areRows_135 : decode cL_areRows 135 = .ok (.lshr, 1) := by decide +kernel
theorem dL_areRows_136 : decode cL_areRows 136 = .ok (.lconst 1, 1) := by decide +kernel
theorem dL_areRows_137 : decode cL_areRows 137 = .ok (.land, 1) := by decide +kernel
theorem dL_areRows_138 : decode cL_areRows 138 = .ok (.lconst 1, 1) := by decide +kernel
theorem dL_areRows_139 : decode cL_areRows 139 = .ok (.lcmp, 1) := by decide +kernel
theorem dL_areRows_140 : decode cL_areRows 140 = .ok (.ifCond .ne 48, 3) := by decide +kernel
theorem dL_areRows_143 : decode cL_areRows 143 = .ok (.iload 9, 2) := by decide +kernel
theorem dL_areRows_145 : decode cL_areRows 145 = .ok (.ifCond .lt 15, 3) := by decide +kernel
theorem dL_areRows_148 : decode cL_areRows 148 = .ok (.aload_n 1, 1) := by decide +kernel
theorem dL_areRows_149 : decode cL_areRows 149 = .ok (.aload_n 2, 1) := by decide +kernel
theorem dL_areRows_150 : decode cL_areRows 150 = .ok (.iload 9, 2) := by decide +kernel
theorem dL_areRows_152 : decode cL_areRows 152 = .ok (.iload 14, 2) := by decide +kernel
theorem dL_areRows_154 : decode cL_areRows 154 = .ok (.invokestatic 119, 3) := by decide +kernel
theorem dL_areRows_157 : decode cL_areRows 157 = .ok (.ifCond .eq 31, 3) := by decide +kernel
theorem dL_areRows_160 : decode cL_areRows 160 = .ok (.aload_n 0, 1) := by decide +kernel
theorem dL_areRows_161 : decode cL_areRows 161 = .ok (.iload 11, 2) := by decide +kernel
theorem dL_areRows_163 : decode cL_areRows 163 = .ok (.iconst 1, 1) := by decide +kernel
theorem dL_areRows_164 : decode cL_areRows 164 = .ok (.invokevirtual 116, 3) := by decide +kernel
theorem dL_areRows_167 : decode cL_areRows 167 = .ok (.aload_n 1, 1) := by decide +kernel
theorem dL_areRows_168 : decode cL_areRows 168 = .ok (.iconst 4, 1) := by decide +kernel
theorem dL_areRows_169 : decode cL_areRows 169 = .ok (.iaload, 1) := by decide +kernel
theorem dL_areRows_170 : decode cL_areRows 170 = .ok (.iconst 1, 1) := by decide +kernel
theorem dL_areRows_171 : decode cL_areRows 171 = .ok (.if_icmp .ne 8, 3) := by decide +kernel
theorem dL_areRows_174 : decode cL_areRows 174 = .ok (.iload 13, 2) := by decide +kernel
theorem dL_areRows_176 : decode cL_areRows 176 = .ok (.goto 5, 3) := by decide +kernel
theorem dL_areRows_179 : decode cL_areRows 179 = .ok (.bipush (-14), 2) := by decide +kernel
theorem dL_areRows_181 : decode cL_areRows 181 = .ok (.if_icmp .ne 7, 3) := by decide +kernel
