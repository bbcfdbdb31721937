theorem dL_areRows_184 : decode cL_areRows 184 = .ok (.iconst 1, 1) := by decide +kernel
theorem dL_areRows_185 : decode cL_areRows 185 = .ok (.goto 4, 3) := by decide +kernel
theorem dL_areRows_188 : decode cL_areRows 188 = .ok (.iconst 0, 1) := by decide +kernel
theorem dL_areRows_189 : decode cL_areRows 189 = .ok (.istore 10, 2) := by decide +kernel
theorem dL_areRows_191 : decode cL_areRows 191 = .ok (.iload 10, 2) := by decide +kernel
theorem dL_areRows_193 : decode cL_areRows 193 = .ok (.ifCond .eq 41, 3) := by decide +kernel
theorem dL_areRows_196 : decode cL_areRows 196 = .ok (.aload_n 1, 1) := by decide +kernel
theorem dL_areRows_197 : decode cL_areRows 197 = .ok (.aload_n 2, 1) := by decide +kernel
theorem dL_areRows_198 : decode cL_areRows 198 = .ok (.aload_n 3, 1) := by decide +kernel
theorem dL_areRows_199 : decode cL_areRows 199 = .ok (.aload 4, 2) := by decide +kernel
theorem dL_areRows_201 : decode cL_areRows 201 = .ok (.aload 5, 2) := by decide +kernel
theorem dL_areRows_203 : decode cL_areRows 203 = .ok (.iload 12, 2) := by decide +kernel
theorem dL_areRows_205 : decode cL_areRows 205 = .ok (.iload 13, 2) := by decide +kernel
theorem dL_areRows_207 : decode cL_areRows 207 = .ok (.aload 7, 2) := by decide +kernel
theorem dL_areRows_209 : decode cL_areRows 209 = .ok (.invokestatic 26, 3) := by decide +kernel
theorem dL_areRows_212 : decode cL_areRows 212 = .ok (.bipush (-14), 2) := by decide +kernel
theorem dL_areRows_214 : decode cL_areRows 214 = .ok (.if_icmp .ne 20, 3) := by decide +kernel
theorem dL_areRows_217 : decode cL_areRows 217 = .ok (.aload_n 0, 1) := by decide +kernel
theorem dL_areRows_218 : decode cL_areRows 218 = .ok (.iload 12, 2) := by decide +kernel
theorem dL_areRows_220 : decode cL_areRows 220 = .ok (.iload 13, 2) := by decide +kernel
theorem dL_areRows_222 : decode cL_areRows 222 = .ok (.invokevirtual 122, 3) := by decide +kernel
theorem dL_areRows_225 : decode cL_areRows 225 = .ok (.bipush (-14), 2) := by decide +kernel
theorem dL_areRows_227 : decode cL_areRows 227 = .ok (.if_icmp .ne 7, 3) := by decide +kernel
theorem dL_areRows_230 : decode cL_areRows 230 = .ok (.iconst 1, 1) := by decide +kernel
theorem dL_areRows_231 : decode cL_areRows 231 = .ok (.goto 4, 3) := by decide +kernel
theorem dL_areRows_234 : decode cL_areRows 234 = .ok (.iconst 0, 1) := by decide +kernel
theorem dL_areRows_235 : decode cL_areRows 235 = .ok (.istore 10, 2) := by decide +kernel
theorem dL_areRows_237 : decode cL_areRows 237 = .ok (.iconst 0, 1) := by decide +kernel
theorem dL_areRows_238 : decode cL_areRows 238 = .ok (.istore 15, 2) := by decide +kernel
theorem dL_areRows_240 : decode cL_areRows 240 = .ok (.iload 15, 2) := by decide +kernel
theorem dL_areRows_242 : decode cL_areRows 242 = .ok (.bipush 8, 2) := by decide +kernel
theorem dL_areRows_244 : decode cL_areRows 244 = .ok (.if_icmp .ge 84, 3) := by decide +kernel
theorem dL_areRows_247 : decode cL_areRows 247 = .ok (.iload 10, 2) := by decide +kernel
theorem dL_areRows_249 : decode cL_areRows 249 = .ok (.ifCond .eq 79, 3) := by decide +kernel
theorem dL_areRows_252 : decode cL_areRows 252 = .ok (.aload_n 0, 1) := by decide +kernel
theorem dL_areRows_253 : decode cL_areRows 253 = .ok (.iload 11, 2) := by decide +kernel
theorem dL_areRows_255 : decode cL_areRows 255 = .ok (.bipush 10, 2) := by decide +kernel
theorem dL_areRows_257 : decode cL_areRows 257 = .ok (.iload 15, 2) := by decide +kernel
theorem dL_areRows_259 : decode cL_areRows 259 = .ok (.iadd, 1) := by decide +kernel
theorem dL_areRows_260 : decode cL_areRows 260 = .ok (.invokevirtual 116, 3) := by decide +kernel
theorem dL_areRows_263 : decode cL_areRows 263 = .ok (.aload_n 1, 1) := by decide +kernel
theorem dL_areRows_264 : decode cL_areRows 264 = .ok (.iload 15, 2) := by decide +kernel
theorem dL_areRows_266 : decode cL_areRows 266 = .ok (.invokestatic 15, 3) := by decide +kernel
theorem dL_areRows_269 : decode cL_areRows 269 = .ok (.ifCond .eq 16, 3) := by decide +kernel
theorem dL_areRows_272 : decode cL_areRows 272 = .ok (.aload_n 2, 1) := by decide +kernel
theorem dL_areRows_273 : decode cL_areRows 273 = .ok (.iload 12, 2) := by decide +kernel
theorem dL_areRows_275 : decode cL_areRows 275 = .ok (.iload 13, 2) := by decide +kernel
theorem dL_areRows_277 : decode cL_areRows 277 = .ok (.iload 15, 2) := by decide +kernel
theorem dL_areRows_279 : decode cL_areRows 279 = .ok (.invokestatic 19, 3) := by decide +kernel
theorem dL_areRows_282 : decode cL_areRows 282 = .ok (.goto 5, 3) := by decide +kernel
theorem dL_areRows_285 : decode cL_areRows 285 = .ok (.bipush (-14), 2) := by decide +kernel
theorem dL_areRows_287 : decode cL_areRows 287 = .ok (.if_icmp .ne 32, 3) := by decide +kernel
theorem dL_areRows_290 : decode cL_areRows 290 = .ok (.iload 15, 2) := by decide +kernel
theorem dL_areRows_292 : decode cL_areRows 292 = .ok (.iconst 3, 1) := by decide +kernel
theorem dL_areRows_293 : decode cL_areRows 293 = .ok (.if_icmp .gt 22, 3) := by decide +kernel
theorem dL_areRows_296 : decode cL_areRows 296 = .ok (.aload_n 0, 1) := by decide +kernel
theorem dL_areRows_297 : decode cL_areRows 297 = .ok (.iload 11, 2) := by decide +kernel
theorem dL_areRows_299 : decode cL_areRows 299 = .ok (.bipush 20, 2) := by decide +kernel
theorem dL_areRows_301 : decode cL_areRows 301 = .ok (.iload 15, 2) := by decide +kernel
theorem dL_areRows_303 : decode cL_areRows 303 = .ok (.iadd, 1) := by decide +kernel
theorem dL_areRows_304 : decode cL_areRows 304 = .ok (.invokevirtual 116, 3) := by decide +kernel
theorem dL_areRows_307 : decode cL_areRows 307 = .ok (.aload 7, 2) := by decide +kernel
theorem dL_areRows_309 : decode cL_areRows 309 = .ok (.iload 15, 2) := by decide +kernel
theorem dL_areRows_311 : decode cL_areRows 311 = .ok (.iaload, 1) := by decide +kernel
theorem dL_areRows_312 : decode cL_areRows 312 = .ok (.if_icmp .ne 7, 3) := by decide +kernel
theorem dL_areRows_315 : decode cL_areRows 315 = .ok (.iconst 1, 1) := by decide +kernel
theorem dL_areRows_316 : decode cL_areRows 316 = .ok (.goto 4, 3) := by decide +kernel
theorem dL_areRows_319 : decode cL_areRows 319 = .ok (.iconst 0, 1) := by decide +kernel
theorem dL_areRows_320 : decode cL_areRows 320 = .ok (.istore 10, 2) := by decide +kernel
theorem dL_areRows_322 : decode cL_areRows 322 = .ok (.iinc 15 1, 3) := by decide +kernel
theorem dL_areRows_325 : decode cL_areRows 325 = .ok (.goto (-85), 3) := by decide +kernel
theorem dL_areRows_328 : decode cL_areRows 328 = .ok (.iload 14, 2) := by decide +kernel
theorem dL_areRows_330 : decode cL_areRows 330 = .ok (.istore 9, 2) := by decide +kernel
theorem dL_areRows_332 : decode cL_areRows 332 = .ok (.iinc 11 1, 3) := by decide +kernel
theorem dL_areRows_335 : decode cL_areRows 335 = .ok (.goto (-289), 3) := by decide +kernel
theorem dL_areRows_338 : decode cL_areRows 338 = .ok (.iload 10, 2) := by decide +kernel
theorem dL_areRows_340 : decode cL_areRows 340 = .ok (.ifCond .eq 79, 3) := by decide +kernel
theorem dL_areRows_343 : decode cL_areRows 343 = .ok (.aload_n 0, 1) := by decide +kernel
theorem dL_areRows_344 : decode cL_areRows 344 = .ok (.iload 8, 2) := by decide +kernel
theorem dL_areRows_346 : decode cL_areRows 346 = .ok (.iconst 0, 1) := by decide +kernel
theorem dL_areRows_347 : decode cL_areRows 347 = .ok (.invokevirtual 116, 3) := by decide +kernel
theorem dL_areRows_350 : decode cL_areRows 350 = .ok (.bipush (-14), 2) := by decide +kernel
theorem dL_areRows_352 : decode cL_areRows 352 = .ok (.if_icmp .ne 67, 3) := by decide +kernel
theorem dL_areRows_355 : decode cL_areRows 355 = .ok (.aload_n 0, 1) := by decide +kernel
theorem dL_areRows_356 : decode cL_areRows 356 = .ok (.iconst (-1), 1) := by decide +kernel
theorem dL_areRows_357 : decode cL_areRows 357 = .ok (.iconst 0, 1) := by decide +kernel
theorem dL_areRows_358 : decode cL_areRows 358 = .ok (.invokevirtual 116, 3) := by decide +kernel
theorem dL_areRows_361 : decode cL_areRows 361 = .ok (.bipush (-11), 2) := by decide +kernel
theorem dL_areRows_363 : decode cL_areRows 363 = .ok (.if_icmp .ne 56, 3) := by decide +kernel
theorem dL_areRows_366 : decode cL_areRows 366 = .ok (.aload_n 0, 1) := by decide +kernel
theorem dL_areRows_367 : decode cL_areRows 367 = .ok (.iconst 0, 1) := by decide +kernel
theorem dL_areRows_368 : decode cL_areRows 368 = .ok (.iconst 2, 1) := by decide +kernel
theorem dL_areRows_369 : decode cL_areRows 369 = .ok (.invokevirtual 116, 3) := by decide +kernel
theorem dL_areRows_372 : decode cL_areRows 372 = .ok (.bipush (-11), 2) := by decide +kernel
theorem dL_areRows_374 : decode cL_areRows 374 = .ok (.if_icmp .ne 45, 3) := by decide +kernel
theorem dL_areRows_377 : decode cL_areRows 377 = .ok (.aload_n 0, 1) := by decide +kernel
theorem dL_areRows_378 : decode cL_areRows 378 = .ok (.iconst 0, 1) := by decide +kernel
theorem dL_areRows_379 : decode cL_areRows 379 = .ok (.bipush 18, 2) := by decide +kernel
theorem dL_areRows_381 : decode cL_areRows 381 = .ok (.invokevirtual 116, 3) := by decide +kernel
theorem dL_areRows_384 : decode cL_areRows 384 = .ok (.bipush (-11), 2) := by decide +kernel
theorem dL_areRows_386 : decode cL_areRows 386 = .ok (.if_icmp .ne 33, 3) := by decide +kernel
theorem dL_areRows_389 : decode cL_areRows 389 = .ok (.aload_n 0, 1) := by decide +kernel
theorem dL_areRows_390 : decode cL_areRows 390 = .ok (.iconst 0, 1) := by decide +kernel
theorem dL_areRows_391 : decode cL_areRows 391 = .ok (.bipush 24, 2) := by decide +kernel
theorem dL_areRows_393 : decode cL_areRows 393 = .ok (.invokevirtual 116, 3) := by decide +kernel
theorem dL_areRows_396 : decode cL_areRows 396 = .ok (.bipush (-11), 2) := by decide +kernel
theorem dL_areRows_398 : decode cL_areRows 398 = .ok (.if_icmp .ne 21, 3) := by decide +kernel
theorem dL_areRows_401 : decode cL_areRows 401 = .ok (.aload_n 0, 1) := by decide +kernel
theorem dL_areRows_402 : decode cL_areRows 402 = .ok (.invokevirtual 125, 3) := by decide +kernel
theorem dL_areRows_405 : decode cL_areRows 405 = .ok (.aload_n 1, 1) := by decide +kernel
theorem dL_areRows_406 : decode cL_areRows 406 = .ok (.aload_n 2, 1) := by decide +kernel
theorem dL_areRows_407 : decode cL_areRows 407 = .ok (.aload 6, 2) := by decide +kernel
theorem dL_areRows_409 : decode cL_areRows 409 = .ok (.invokestatic 101, 3) := by decide +kernel
theorem dL_areRows_412 : decode cL_areRows 412 = .ok (.if_icmp .ne 7, 3) := by decide +kernel
theorem dL_areRows_415 : decode cL_areRows 415 = .ok (.iconst 1, 1) := by decide +kernel
theorem dL_areRows_416 : decode cL_areRows 416 = .ok (.goto 4, 3) := by decide +kernel
theorem dL_areRows_419 : decode cL_areRows 419 = .ok (.iconst 0, 1) := by decide +kernel
theorem dL_areRows_420 : decode cL_areRows 420 = .ok (.ireturn, 1) := by decide +kernel
