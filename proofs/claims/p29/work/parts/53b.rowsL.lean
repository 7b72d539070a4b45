theorem dL_isStep_0 : decode cL_isStep 0 = .ok (.iload_n 2, 1) := by decide +kernel
theorem dL_isStep_1 : decode cL_isStep 1 = .ok (.iconst 4, 1) := by decide +kernel
theorem dL_isStep_2 : decode cL_isStep 2 = .ok (.ishr, 1) := by decide +kernel
theorem dL_isStep_3 : decode cL_isStep 3 = .ok (.istore 4, 2) := by decide +kernel
theorem dL_isStep_5 : decode cL_isStep 5 = .ok (.iload 4, 2) := by decide +kernel
theorem dL_isStep_7 : decode cL_isStep 7 = .ok (.bipush 12, 2) := by decide +kernel
theorem dL_isStep_9 : decode cL_isStep 9 = .ok (.invokestatic 21, 3) := by decide +kernel
theorem dL_isStep_12 : decode cL_isStep 12 = .ok (.istore 5, 2) := by decide +kernel
theorem dL_isStep_14 : decode cL_isStep 14 = .ok (.aload_n 0, 1) := by decide +kernel
theorem dL_isStep_15 : decode cL_isStep 15 = .ok (.iload 5, 2) := by decide +kernel
theorem dL_isStep_17 : decode cL_isStep 17 = .ok (.iconst 0, 1) := by decide +kernel
theorem dL_isStep_18 : decode cL_isStep 18 = .ok (.invokevirtual 27, 3) := by decide +kernel
theorem dL_isStep_21 : decode cL_isStep 21 = .ok (.istore 6, 2) := by decide +kernel
theorem dL_isStep_23 : decode cL_isStep 23 = .ok (.iload 6, 2) := by decide +kernel
theorem dL_isStep_25 : decode cL_isStep 25 = .ok (.sipush (-10001), 3) := by decide +kernel
theorem dL_isStep_28 : decode cL_isStep 28 = .ok (.if_icmp .eq 7, 3) := by decide +kernel
theorem dL_isStep_31 : decode cL_isStep 31 = .ok (.iconst 1, 1) := by decide +kernel
theorem dL_isStep_32 : decode cL_isStep 32 = .ok (.goto 4, 3) := by decide +kernel
theorem dL_isStep_35 : decode cL_isStep 35 = .ok (.iconst 0, 1) := by decide +kernel
theorem dL_isStep_36 : decode cL_isStep 36 = .ok (.istore 7, 2) := by decide +kernel
theorem dL_isStep_38 : decode cL_isStep 38 = .ok (.aload_n 0, 1) := by decide +kernel
theorem dL_isStep_39 : decode cL_isStep 39 = .ok (.iconst 0, 1) := by decide +kernel
theorem dL_isStep_40 : decode cL_isStep 40 = .ok (.invokevirtual 30, 3) := by decide +kernel
theorem dL_isStep_43 : decode cL_isStep 43 = .ok (.istore 8, 2) := by decide +kernel
theorem dL_isStep_45 : decode cL_isStep 45 = .ok (.iload_n 2, 1) := by decide +kernel
theorem dL_isStep_46 : decode cL_isStep 46 = .ok (.bipush 13, 2) := by decide +kernel
theorem dL_isStep_48 : decode cL_isStep 48 = .ok (.invokestatic 21, 3) := by decide +kernel
theorem dL_isStep_51 : decode cL_isStep 51 = .ok (.tableswitch 903 0 11 #[61, 61, 61, 251, 336, 336, 336, 336, 498, 602, 708, 796], 61) := by decide +kernel
theorem dL_isStep_112 : decode cL_isStep 112 = .ok (.iload_n 3, 1) := by decide +kernel
theorem dL_isStep_113 : decode cL_isStep 113 = .ok (.iconst 4, 1) := by decide +kernel
theorem dL_isStep_114 : decode cL_isStep 114 = .ok (.invokestatic 21, 3) := by decide +kernel
theorem dL_isStep_117 : decode cL_isStep 117 = .ok (.istore 9, 2) := by decide +kernel
theorem dL_isStep_119 : decode cL_isStep 119 = .ok (.iload_n 3, 1) := by decide +kernel
theorem dL_isStep_120 : decode cL_isStep 120 = .ok (.iconst 3, 1) := by decide +kernel
theorem dL_isStep_121 : decode cL_isStep 121 = .ok (.ishr, 1) := by decide +kernel
theorem dL_isStep_122 : decode cL_isStep 122 = .ok (.sipush 1999, 3) := by decide +kernel
theorem dL_isStep_125 : decode cL_isStep 125 = .ok (.invokestatic 21, 3) := by decide +kernel
theorem dL_isStep_128 : decode cL_isStep 128 = .ok (.sipush 999, 3) := by decide +kernel
theorem dL_isStep_131 : decode cL_isStep 131 = .ok (.isub, 1) := by decide +kernel
theorem dL_isStep_132 : decode cL_isStep 132 = .ok (.istore 10, 2) := by decide +kernel
theorem dL_isStep_134 : decode cL_isStep 134 = .ok (.aload_n 0, 1) := by decide +kernel
theorem dL_isStep_135 : decode cL_isStep 135 = .ok (.iload 9, 2) := by decide +kernel
theorem dL_isStep_137 : decode cL_isStep 137 = .ok (.iload 10, 2) := by decide +kernel
theorem dL_isStep_139 : decode cL_isStep 139 = .ok (.invokevirtual 34, 3) := by decide +kernel
theorem dL_isStep_142 : decode cL_isStep 142 = .ok (.istore 11, 2) := by decide +kernel
theorem dL_isStep_144 : decode cL_isStep 144 = .ok (.aload_n 1, 1) := by decide +kernel
theorem dL_isStep_145 : decode cL_isStep 145 = .ok (.ldc2_w 37, 3) := by decide +kernel
theorem dL_isStep_148 : decode cL_isStep 148 = .ok (.invokestatic 39, 3) := by decide +kernel
theorem dL_isStep_151 : decode cL_isStep 151 = .ok (.ifCond .eq 29, 3) := by decide +kernel
theorem dL_isStep_154 : decode cL_isStep 154 = .ok (.aload_n 1, 1) := by decide +kernel
theorem dL_isStep_155 : decode cL_isStep 155 = .ok (.iload 9, 2) := by decide +kernel
theorem dL_isStep_157 : decode cL_isStep 157 = .ok (.invokestatic 43, 3) := by decide +kernel
theorem dL_isStep_160 : decode cL_isStep 160 = .ok (.invokestatic 46, 3) := by decide +kernel
theorem dL_isStep_163 : decode cL_isStep 163 = .ok (.ifCond .eq 17, 3) := by decide +kernel
theorem dL_isStep_166 : decode cL_isStep 166 = .ok (.aload_n 1, 1) := by decide +kernel
theorem dL_isStep_167 : decode cL_isStep 167 = .ok (.iload 10, 2) := by decide +kernel
theorem dL_isStep_169 : decode cL_isStep 169 = .ok (.ineg, 1) := by decide +kernel
theorem dL_isStep_170 : decode cL_isStep 170 = .ok (.invokestatic 46, 3) := by decide +kernel
theorem dL_isStep_173 : decode cL_isStep 173 = .ok (.ifCond .eq 7, 3) := by decide +kernel
theorem dL_isStep_176 : decode cL_isStep 176 = .ok (.iconst 1, 1) := by decide +kernel
theorem dL_isStep_177 : decode cL_isStep 177 = .ok (.goto 4, 3) := by decide +kernel
theorem dL_isStep_180 : decode cL_isStep 180 = .ok (.iconst 0, 1) := by decide +kernel
theorem dL_isStep_181 : decode cL_isStep 181 = .ok (.istore 12, 2) := by decide +kernel
theorem dL_isStep_183 : decode cL_isStep 183 = .ok (.iload 8, 2) := by decide +kernel
theorem dL_isStep_185 : decode cL_isStep 185 = .ok (.bipush 12, 2) := by decide +kernel
theorem dL_isStep_187 : decode cL_isStep 187 = .ok (.if_icmp .ne 50, 3) := by decide +kernel
theorem dL_isStep_190 : decode cL_isStep 190 = .ok (.iload 12, 2) := by decide +kernel
theorem dL_isStep_192 : decode cL_isStep 192 = .ok (.ifCond .eq 43, 3) := by decide +kernel
theorem dL_isStep_195 : decode cL_isStep 195 = .ok (.iload 11, 2) := by decide +kernel
theorem dL_isStep_197 : decode cL_isStep 197 = .ok (.sipush (-10003), 3) := by decide +kernel
theorem dL_isStep_200 : decode cL_isStep 200 = .ok (.if_icmp .ne 35, 3) := by decide +kernel
theorem dL_isStep_203 : decode cL_isStep 203 = .ok (.aload_n 1, 1) := by decide +kernel
theorem dL_isStep_204 : decode cL_isStep 204 = .ok (.invokevirtual 50, 3) := by decide +kernel
theorem dL_isStep_207 : decode cL_isStep 207 = .ok (.sipush (-10004), 3) := by decide +kernel
theorem dL_isStep_210 : decode cL_isStep 210 = .ok (.if_icmp .ne 25, 3) := by decide +kernel
theorem dL_isStep_213 : decode cL_isStep 213 = .ok (.aload_n 1, 1) := by decide +kernel
theorem dL_isStep_214 : decode cL_isStep 214 = .ok (.iconst 0, 1) := by decide +kernel
theorem dL_isStep_215 : decode cL_isStep 215 = .ok (.invokevirtual 53, 3) := by decide +kernel
theorem dL_isStep_218 : decode cL_isStep 218 = .ok (.ifCond .ne 17, 3) := by decide +kernel
theorem dL_isStep_221 : decode cL_isStep 221 = .ok (.aload_n 1, 1) := by decide +kernel
theorem dL_isStep_222 : decode cL_isStep 222 = .ok (.iconst 1, 1) := by decide +kernel
theorem dL_isStep_223 : decode cL_isStep 223 = .ok (.invokevirtual 53, 3) := by decide +kernel
theorem dL_isStep_226 : decode cL_isStep 226 = .ok (.iload 11, 2) := by decide +kernel
theorem dL_isStep_228 : decode cL_isStep 228 = .ok (.if_icmp .ne 7, 3) := by decide +kernel
theorem dL_isStep_231 : decode cL_isStep 231 = .ok (.iconst 1, 1) := by decide +kernel
theorem dL_isStep_232 : decode cL_isStep 232 = .ok (.goto 4, 3) := by decide +kernel
theorem dL_isStep_235 : decode cL_isStep 235 = .ok (.iconst 0, 1) := by decide +kernel
theorem dL_isStep_236 : decode cL_isStep 236 = .ok (.ireturn, 1) := by decide +kernel
theorem dL_isStep_237 : decode cL_isStep 237 = .ok (.iload 12, 2) := by decide +kernel
theorem dL_isStep_239 : decode cL_isStep 239 = .ok (.ifCond .eq 61, 3) := by decide +kernel
theorem dL_isStep_242 : decode cL_isStep 242 = .ok (.aload_n 1, 1) := by decide +kernel
theorem dL_isStep_243 : decode cL_isStep 243 = .ok (.invokevirtual 50, 3) := by decide +kernel
theorem dL_isStep_246 : decode cL_isStep 246 = .ok (.iconst 1, 1) := by decide +kernel
theorem dL_isStep_247 : decode cL_isStep 247 = .ok (.if_icmp .ne 53, 3) := by decide +kernel
theorem dL_isStep_250 : decode cL_isStep 250 = .ok (.aload_n 0, 1) := by decide +kernel
theorem dL_isStep_251 : decode cL_isStep 251 = .ok (.iload 11, 2) := by decide +kernel
theorem dL_isStep_253 : decode cL_isStep 253 = .ok (.iconst 0, 1) := by decide +kernel
theorem dL_isStep_254 : decode cL_isStep 254 = .ok (.invokevirtual 27, 3) := by decide +kernel
theorem dL_isStep_257 : decode cL_isStep 257 = .ok (.iload 10, 2) := by decide +kernel
theorem dL_isStep_259 : decode cL_isStep 259 = .ok (.if_icmp .ne 41, 3) := by decide +kernel
theorem dL_isStep_262 : decode cL_isStep 262 = .ok (.aload_n 0, 1) := by decide +kernel
theorem dL_isStep_263 : decode cL_isStep 263 = .ok (.iload 11, 2) := by decide +kernel
theorem dL_isStep_265 : decode cL_isStep 265 = .ok (.iconst 1, 1) := by decide +kernel
theorem dL_isStep_266 : decode cL_isStep 266 = .ok (.invokevirtual 27, 3) := by decide +kernel
theorem dL_isStep_269 : decode cL_isStep 269 = .ok (.iload 9, 2) := by decide +kernel
theorem dL_isStep_271 : decode cL_isStep 271 = .ok (.if_icmp .ne 29, 3) := by decide +kernel
theorem dL_isStep_274 : decode cL_isStep 274 = .ok (.aload_n 0, 1) := by decide +kernel
theorem dL_isStep_275 : decode cL_isStep 275 = .ok (.iload 11, 2) := by decide +kernel
theorem dL_isStep_277 : decode cL_isStep 277 = .ok (.iconst 4, 1) := by decide +kernel
theorem dL_isStep_278 : decode cL_isStep 278 = .ok (.invokevirtual 27, 3) := by decide +kernel
theorem dL_isStep_281 : decode cL_isStep 281 = .ok (.ifCond .ne 19, 3) := by decide +kernel
theorem dL_isStep_284 : decode cL_isStep 284 = .ok (.aload_n 0, 1) := by decide +kernel
theorem dL_isStep_285 : decode cL_isStep 285 = .ok (.iconst 0, 1) := by decide +kernel
theorem dL_isStep_286 : decode cL_isStep 286 = .ok (.invokevirtual 30, 3) := by decide +kernel
theorem dL_isStep_289 : decode cL_isStep 289 = .ok (.iload 8, 2) := by decide +kernel
theorem dL_isStep_291 : decode cL_isStep 291 = .ok (.iconst 1, 1) := by decide +kernel
theorem dL_isStep_292 : decode cL_isStep 292 = .ok (.iadd, 1) := by decide +kernel
theorem dL_isStep_293 : decode cL_isStep 293 = .ok (.if_icmp .ne 7, 3) := by decide +kernel
theorem dL_isStep_296 : decode cL_isStep 296 = .ok (.iconst 1, 1) := by decide +kernel
theorem dL_isStep_297 : decode cL_isStep 297 = .ok (.goto 4, 3) := by decide +kernel
theorem dL_isStep_300 : decode cL_isStep 300 = .ok (.iconst 0, 1) := by decide +kernel
theorem dL_isStep_301 : decode cL_isStep 301 = .ok (.ireturn, 1) := by decide +kernel
theorem dL_isStep_302 : decode cL_isStep 302 = .ok (.iload_n 3, 1) := by decide +kernel
theorem dL_isStep_303 : decode cL_isStep 303 = .ok (.iconst 3, 1) := by decide +kernel
theorem dL_isStep_304 : decode cL_isStep 304 = .ok (.invokestatic 21, 3) := by decide +kernel
theorem dL_isStep_307 : decode cL_isStep 307 = .ok (.ifCond .le 5, 3) := by decide +kernel
theorem dL_isStep_310 : decode cL_isStep 310 = .ok (.iconst 1, 1) := by decide +kernel
theorem dL_isStep_311 : decode cL_isStep 311 = .ok (.ireturn, 1) := by decide +kernel
theorem dL_isStep_312 : decode cL_isStep 312 = .ok (.aload_n 0, 1) := by decide +kernel
theorem dL_isStep_313 : decode cL_isStep 313 = .ok (.iload 5, 2) := by decide +kernel
theorem dL_isStep_315 : decode cL_isStep 315 = .ok (.invokevirtual 56, 3) := by decide +kernel
theorem dL_isStep_318 : decode cL_isStep 318 = .ok (.istore 9, 2) := by decide +kernel
theorem dL_isStep_320 : decode cL_isStep 320 = .ok (.iload 9, 2) := by decide +kernel
theorem dL_isStep_322 : decode cL_isStep 322 = .ok (.iload 7, 2) := by decide +kernel
theorem dL_isStep_324 : decode cL_isStep 324 = .ok (.ifCond .eq 8, 3) := by decide +kernel
theorem dL_isStep_327 : decode cL_isStep 327 = .ok (.iload 6, 2) := by decide +kernel
theorem dL_isStep_329 : decode cL_isStep 329 = .ok (.goto 6, 3) := by decide +kernel
theorem dL_isStep_332 : decode cL_isStep 332 = .ok (.sipush (-10001), 3) := by decide +kernel
theorem dL_isStep_335 : decode cL_isStep 335 = .ok (.if_icmp .ne 50, 3) := by decide +kernel
theorem dL_isStep_338 : decode cL_isStep 338 = .ok (.aload_n 1, 1) := by decide +kernel
theorem dL_isStep_339 : decode cL_isStep 339 = .ok (.iload 5, 2) := by decide +kernel
theorem dL_isStep_341 : decode cL_isStep 341 = .ok (.invokevirtual 56, 3) := by decide +kernel
theorem dL_isStep_344 : decode cL_isStep 344 = .ok (.iload 7, 2) := by decide +kernel
theorem dL_isStep_346 : decode cL_isStep 346 = .ok (.ifCond .eq 9, 3) := by decide +kernel
theorem dL_isStep_349 : decode cL_isStep 349 = .ok (.iload 9, 2) := by decide +kernel
theorem dL_isStep_351 : decode cL_isStep 351 = .ok (.ineg, 1) := by decide +kernel
theorem dL_isStep_352 : decode cL_isStep 352 = .ok (.goto 5, 3) := by decide +kernel
theorem dL_isStep_355 : decode cL_isStep 355 = .ok (.iload 9, 2) := by decide +kernel
theorem dL_isStep_357 : decode cL_isStep 357 = .ok (.if_icmp .ne 28, 3) := by decide +kernel
theorem dL_isStep_360 : decode cL_isStep 360 = .ok (.aload_n 0, 1) := by decide +kernel
theorem dL_isStep_361 : decode cL_isStep 361 = .ok (.iconst 0, 1) := by decide +kernel
theorem dL_isStep_362 : decode cL_isStep 362 = .ok (.invokevirtual 30, 3) := by decide +kernel
theorem dL_isStep_365 : decode cL_isStep 365 = .ok (.iload 8, 2) := by decide +kernel
theorem dL_isStep_367 : decode cL_isStep 367 = .ok (.iload 7, 2) := by decide +kernel
theorem dL_isStep_369 : decode cL_isStep 369 = .ok (.ifCond .eq 7, 3) := by decide +kernel
theorem dL_isStep_372 : decode cL_isStep 372 = .ok (.iconst 1, 1) := by decide +kernel
theorem dL_isStep_373 : decode cL_isStep 373 = .ok (.goto 4, 3) := by decide +kernel
theorem dL_isStep_376 : decode cL_isStep 376 = .ok (.iconst 0, 1) := by decide +kernel
theorem dL_isStep_377 : decode cL_isStep 377 = .ok (.isub, 1) := by decide +kernel
theorem dL_isStep_378 : decode cL_isStep 378 = .ok (.if_icmp .ne 7, 3) := by decide +kernel
theorem dL_isStep_381 : decode cL_isStep 381 = .ok (.iconst 1, 1) := by decide +kernel
theorem dL_isStep_382 : decode cL_isStep 382 = .ok (.goto 4, 3) := by decide +kernel
theorem dL_isStep_385 : decode cL_isStep 385 = .ok (.iconst 0, 1) := by decide +kernel
theorem dL_isStep_386 : decode cL_isStep 386 = .ok (.ireturn, 1) := by decide +kernel
theorem dL_isStep_387 : decode cL_isStep 387 = .ok (.aload_n 0, 1) := by decide +kernel
theorem dL_isStep_388 : decode cL_isStep 388 = .ok (.iload 5, 2) := by decide +kernel
theorem dL_isStep_390 : decode cL_isStep 390 = .ok (.iconst 1, 1) := by decide +kernel
theorem dL_isStep_391 : decode cL_isStep 391 = .ok (.invokevirtual 59, 3) := by decide +kernel
theorem dL_isStep_394 : decode cL_isStep 394 = .ok (.istore 9, 2) := by decide +kernel
theorem dL_isStep_396 : decode cL_isStep 396 = .ok (.aload_n 0, 1) := by decide +kernel
theorem dL_isStep_397 : decode cL_isStep 397 = .ok (.iconst 3, 1) := by decide +kernel
theorem dL_isStep_398 : decode cL_isStep 398 = .ok (.invokevirtual 30, 3) := by decide +kernel
theorem dL_isStep_401 : decode cL_isStep 401 = .ok (.istore 10, 2) := by decide +kernel
theorem dL_isStep_403 : decode cL_isStep 403 = .ok (.aload_n 0, 1) := by decide +kernel
theorem dL_isStep_404 : decode cL_isStep 404 = .ok (.iload 5, 2) := by decide +kernel
theorem dL_isStep_406 : decode cL_isStep 406 = .ok (.invokevirtual 62, 3) := by decide +kernel
theorem dL_isStep_409 : decode cL_isStep 409 = .ok (.istore 11, 2) := by decide +kernel
theorem dL_isStep_411 : decode cL_isStep 411 = .ok (.aload_n 1, 1) := by decide +kernel
theorem dL_isStep_412 : decode cL_isStep 412 = .ok (.ldc2_w 65, 3) := by decide +kernel
theorem dL_isStep_415 : decode cL_isStep 415 = .ok (.invokestatic 39, 3) := by decide +kernel
theorem dL_isStep_418 : decode cL_isStep 418 = .ok (.ifCond .eq 16, 3) := by decide +kernel
theorem dL_isStep_421 : decode cL_isStep 421 = .ok (.aload_n 1, 1) := by decide +kernel
theorem dL_isStep_422 : decode cL_isStep 422 = .ok (.iload 5, 2) := by decide +kernel
theorem dL_isStep_424 : decode cL_isStep 424 = .ok (.invokestatic 46, 3) := by decide +kernel
theorem dL_isStep_427 : decode cL_isStep 427 = .ok (.ifCond .eq 7, 3) := by decide +kernel
theorem dL_isStep_430 : decode cL_isStep 430 = .ok (.iconst 1, 1) := by decide +kernel
theorem dL_isStep_431 : decode cL_isStep 431 = .ok (.goto 4, 3) := by decide +kernel
theorem dL_isStep_434 : decode cL_isStep 434 = .ok (.iconst 0, 1) := by decide +kernel
theorem dL_isStep_435 : decode cL_isStep 435 = .ok (.istore 12, 2) := by decide +kernel
theorem dL_isStep_437 : decode cL_isStep 437 = .ok (.iload 7, 2) := by decide +kernel
theorem dL_isStep_439 : decode cL_isStep 439 = .ok (.ifCond .ne 49, 3) := by decide +kernel
theorem dL_isStep_442 : decode cL_isStep 442 = .ok (.iload 12, 2) := by decide +kernel
theorem dL_isStep_444 : decode cL_isStep 444 = .ok (.ifCond .eq 42, 3) := by decide +kernel
theorem dL_isStep_447 : decode cL_isStep 447 = .ok (.iload 11, 2) := by decide +kernel
theorem dL_isStep_449 : decode cL_isStep 449 = .ok (.sipush (-10001), 3) := by decide +kernel
theorem dL_isStep_452 : decode cL_isStep 452 = .ok (.if_icmp .ne 34, 3) := by decide +kernel
theorem dL_isStep_455 : decode cL_isStep 455 = .ok (.iload 9, 2) := by decide +kernel
theorem dL_isStep_457 : decode cL_isStep 457 = .ok (.iload 11, 2) := by decide +kernel
theorem dL_isStep_459 : decode cL_isStep 459 = .ok (.if_icmp .ne 27, 3) := by decide +kernel
theorem dL_isStep_462 : decode cL_isStep 462 = .ok (.aload_n 1, 1) := by decide +kernel
theorem dL_isStep_463 : decode cL_isStep 463 = .ok (.invokevirtual 50, 3) := by decide +kernel
theorem dL_isStep_466 : decode cL_isStep 466 = .ok (.sipush (-10004), 3) := by decide +kernel
theorem dL_isStep_469 : decode cL_isStep 469 = .ok (.if_icmp .ne 17, 3) := by decide +kernel
theorem dL_isStep_472 : decode cL_isStep 472 = .ok (.aload_n 1, 1) := by decide +kernel
theorem dL_isStep_473 : decode cL_isStep 473 = .ok (.iconst 1, 1) := by decide +kernel
theorem dL_isStep_474 : decode cL_isStep 474 = .ok (.invokevirtual 53, 3) := by decide +kernel
theorem dL_isStep_477 : decode cL_isStep 477 = .ok (.iload 11, 2) := by decide +kernel
theorem dL_isStep_479 : decode cL_isStep 479 = .ok (.if_icmp .ne 7, 3) := by decide +kernel
theorem dL_isStep_482 : decode cL_isStep 482 = .ok (.iconst 1, 1) := by decide +kernel
theorem dL_isStep_483 : decode cL_isStep 483 = .ok (.goto 4, 3) := by decide +kernel
theorem dL_isStep_486 : decode cL_isStep 486 = .ok (.iconst 0, 1) := by decide +kernel
theorem dL_isStep_487 : decode cL_isStep 487 = .ok (.ireturn, 1) := by decide +kernel
theorem dL_isStep_488 : decode cL_isStep 488 = .ok (.iload 12, 2) := by decide +kernel
theorem dL_isStep_490 : decode cL_isStep 490 = .ok (.ifCond .eq 57, 3) := by decide +kernel
theorem dL_isStep_493 : decode cL_isStep 493 = .ok (.aload_n 1, 1) := by decide +kernel
theorem dL_isStep_494 : decode cL_isStep 494 = .ok (.invokevirtual 50, 3) := by decide +kernel
theorem dL_isStep_497 : decode cL_isStep 497 = .ok (.iconst 1, 1) := by decide +kernel
theorem dL_isStep_498 : decode cL_isStep 498 = .ok (.if_icmp .ne 49, 3) := by decide +kernel
theorem dL_isStep_501 : decode cL_isStep 501 = .ok (.iload 11, 2) := by decide +kernel
theorem dL_isStep_503 : decode cL_isStep 503 = .ok (.iload 6, 2) := by decide +kernel
theorem dL_isStep_505 : decode cL_isStep 505 = .ok (.if_icmp .ne 42, 3) := by decide +kernel
theorem dL_isStep_508 : decode cL_isStep 508 = .ok (.aload_n 0, 1) := by decide +kernel
theorem dL_isStep_509 : decode cL_isStep 509 = .ok (.iload 5, 2) := by decide +kernel
theorem dL_isStep_511 : decode cL_isStep 511 = .ok (.iconst 2, 1) := by decide +kernel
theorem dL_isStep_512 : decode cL_isStep 512 = .ok (.invokevirtual 27, 3) := by decide +kernel
theorem dL_isStep_515 : decode cL_isStep 515 = .ok (.iload 9, 2) := by decide +kernel
theorem dL_isStep_517 : decode cL_isStep 517 = .ok (.if_icmp .ne 30, 3) := by decide +kernel
theorem dL_isStep_520 : decode cL_isStep 520 = .ok (.aload_n 0, 1) := by decide +kernel
theorem dL_isStep_521 : decode cL_isStep 521 = .ok (.iconst 3, 1) := by decide +kernel
theorem dL_isStep_522 : decode cL_isStep 522 = .ok (.invokevirtual 30, 3) := by decide +kernel
theorem dL_isStep_525 : decode cL_isStep 525 = .ok (.iload 10, 2) := by decide +kernel
theorem dL_isStep_527 : decode cL_isStep 527 = .ok (.iconst 1, 1) := by decide +kernel
theorem dL_isStep_528 : decode cL_isStep 528 = .ok (.iadd, 1) := by decide +kernel
theorem dL_isStep_529 : decode cL_isStep 529 = .ok (.if_icmp .ne 18, 3) := by decide +kernel
theorem dL_isStep_532 : decode cL_isStep 532 = .ok (.aload_n 0, 1) := by decide +kernel
theorem dL_isStep_533 : decode cL_isStep 533 = .ok (.iload 5, 2) := by decide +kernel
theorem dL_isStep_535 : decode cL_isStep 535 = .ok (.iconst 3, 1) := by decide +kernel
theorem dL_isStep_536 : decode cL_isStep 536 = .ok (.invokevirtual 27, 3) := by decide +kernel
theorem dL_isStep_539 : decode cL_isStep 539 = .ok (.iconst 1, 1) := by decide +kernel
theorem dL_isStep_540 : decode cL_isStep 540 = .ok (.if_icmp .ne 7, 3) := by decide +kernel
theorem dL_isStep_543 : decode cL_isStep 543 = .ok (.iconst 1, 1) := by decide +kernel
theorem dL_isStep_544 : decode cL_isStep 544 = .ok (.goto 4, 3) := by decide +kernel
theorem dL_isStep_547 : decode cL_isStep 547 = .ok (.iconst 0, 1) := by decide +kernel
theorem dL_isStep_548 : decode cL_isStep 548 = .ok (.ireturn, 1) := by decide +kernel
theorem dL_isStep_549 : decode cL_isStep 549 = .ok (.iload_n 3, 1) := by decide +kernel
theorem dL_isStep_550 : decode cL_isStep 550 = .ok (.sipush 1999, 3) := by decide +kernel
theorem dL_isStep_553 : decode cL_isStep 553 = .ok (.invokestatic 21, 3) := by decide +kernel
theorem dL_isStep_556 : decode cL_isStep 556 = .ok (.sipush 999, 3) := by decide +kernel
theorem dL_isStep_559 : decode cL_isStep 559 = .ok (.isub, 1) := by decide +kernel
theorem dL_isStep_560 : decode cL_isStep 560 = .ok (.istore 9, 2) := by decide +kernel
theorem dL_isStep_562 : decode cL_isStep 562 = .ok (.aload_n 0, 1) := by decide +kernel
theorem dL_isStep_563 : decode cL_isStep 563 = .ok (.iload 5, 2) := by decide +kernel
theorem dL_isStep_565 : decode cL_isStep 565 = .ok (.iload 9, 2) := by decide +kernel
theorem dL_isStep_567 : decode cL_isStep 567 = .ok (.invokevirtual 67, 3) := by decide +kernel
theorem dL_isStep_570 : decode cL_isStep 570 = .ok (.istore 10, 2) := by decide +kernel
theorem dL_isStep_572 : decode cL_isStep 572 = .ok (.iload 7, 2) := by decide +kernel
theorem dL_isStep_574 : decode cL_isStep 574 = .ok (.ifCond .ne 17, 3) := by decide +kernel
theorem dL_isStep_577 : decode cL_isStep 577 = .ok (.iload 10, 2) := by decide +kernel
theorem dL_isStep_579 : decode cL_isStep 579 = .ok (.sipush (-10001), 3) := by decide +kernel
theorem dL_isStep_582 : decode cL_isStep 582 = .ok (.if_icmp .ne 7, 3) := by decide +kernel
theorem dL_isStep_585 : decode cL_isStep 585 = .ok (.iconst 1, 1) := by decide +kernel
theorem dL_isStep_586 : decode cL_isStep 586 = .ok (.goto 4, 3) := by decide +kernel
theorem dL_isStep_589 : decode cL_isStep 589 = .ok (.iconst 0, 1) := by decide +kernel
theorem dL_isStep_590 : decode cL_isStep 590 = .ok (.ireturn, 1) := by decide +kernel
theorem dL_isStep_591 : decode cL_isStep 591 = .ok (.iload 10, 2) := by decide +kernel
theorem dL_isStep_593 : decode cL_isStep 593 = .ok (.iload 6, 2) := by decide +kernel
theorem dL_isStep_595 : decode cL_isStep 595 = .ok (.if_icmp .ne 56, 3) := by decide +kernel
theorem dL_isStep_598 : decode cL_isStep 598 = .ok (.aload_n 1, 1) := by decide +kernel
theorem dL_isStep_599 : decode cL_isStep 599 = .ok (.ldc2_w 70, 3) := by decide +kernel
theorem dL_isStep_602 : decode cL_isStep 602 = .ok (.invokestatic 39, 3) := by decide +kernel
theorem dL_isStep_605 : decode cL_isStep 605 = .ok (.ifCond .eq 46, 3) := by decide +kernel
theorem dL_isStep_608 : decode cL_isStep 608 = .ok (.aload_n 1, 1) := by decide +kernel
theorem dL_isStep_609 : decode cL_isStep 609 = .ok (.iload 5, 2) := by decide +kernel
theorem dL_isStep_611 : decode cL_isStep 611 = .ok (.invokestatic 46, 3) := by decide +kernel
theorem dL_isStep_614 : decode cL_isStep 614 = .ok (.ifCond .eq 37, 3) := by decide +kernel
theorem dL_isStep_617 : decode cL_isStep 617 = .ok (.aload_n 1, 1) := by decide +kernel
theorem dL_isStep_618 : decode cL_isStep 618 = .ok (.iload 9, 2) := by decide +kernel
theorem dL_isStep_620 : decode cL_isStep 620 = .ok (.ineg, 1) := by decide +kernel
theorem dL_isStep_621 : decode cL_isStep 621 = .ok (.invokestatic 46, 3) := by decide +kernel
theorem dL_isStep_624 : decode cL_isStep 624 = .ok (.ifCond .eq 27, 3) := by decide +kernel
theorem dL_isStep_627 : decode cL_isStep 627 = .ok (.aload_n 1, 1) := by decide +kernel
theorem dL_isStep_628 : decode cL_isStep 628 = .ok (.invokevirtual 50, 3) := by decide +kernel
theorem dL_isStep_631 : decode cL_isStep 631 = .ok (.iconst 1, 1) := by decide +kernel
theorem dL_isStep_632 : decode cL_isStep 632 = .ok (.if_icmp .ne 19, 3) := by decide +kernel
theorem dL_isStep_635 : decode cL_isStep 635 = .ok (.aload_n 0, 1) := by decide +kernel
theorem dL_isStep_636 : decode cL_isStep 636 = .ok (.iload 5, 2) := by decide +kernel
theorem dL_isStep_638 : decode cL_isStep 638 = .ok (.iconst 0, 1) := by decide +kernel
theorem dL_isStep_639 : decode cL_isStep 639 = .ok (.invokevirtual 27, 3) := by decide +kernel
theorem dL_isStep_642 : decode cL_isStep 642 = .ok (.iload 9, 2) := by decide +kernel
theorem dL_isStep_644 : decode cL_isStep 644 = .ok (.if_icmp .ne 7, 3) := by decide +kernel
theorem dL_isStep_647 : decode cL_isStep 647 = .ok (.iconst 1, 1) := by decide +kernel
theorem dL_isStep_648 : decode cL_isStep 648 = .ok (.goto 4, 3) := by decide +kernel
theorem dL_isStep_651 : decode cL_isStep 651 = .ok (.iconst 0, 1) := by decide +kernel
theorem dL_isStep_652 : decode cL_isStep 652 = .ok (.ireturn, 1) := by decide +kernel
theorem dL_isStep_653 : decode cL_isStep 653 = .ok (.iload_n 3, 1) := by decide +kernel
theorem dL_isStep_654 : decode cL_isStep 654 = .ok (.iconst 4, 1) := by decide +kernel
theorem dL_isStep_655 : decode cL_isStep 655 = .ok (.invokestatic 21, 3) := by decide +kernel
theorem dL_isStep_658 : decode cL_isStep 658 = .ok (.istore 9, 2) := by decide +kernel
theorem dL_isStep_660 : decode cL_isStep 660 = .ok (.aload_n 0, 1) := by decide +kernel
theorem dL_isStep_661 : decode cL_isStep 661 = .ok (.iload 5, 2) := by decide +kernel
theorem dL_isStep_663 : decode cL_isStep 663 = .ok (.iconst 1, 1) := by decide +kernel
theorem dL_isStep_664 : decode cL_isStep 664 = .ok (.invokevirtual 27, 3) := by decide +kernel
theorem dL_isStep_667 : decode cL_isStep 667 = .ok (.istore 10, 2) := by decide +kernel
theorem dL_isStep_669 : decode cL_isStep 669 = .ok (.aload_n 0, 1) := by decide +kernel
theorem dL_isStep_670 : decode cL_isStep 670 = .ok (.iload 5, 2) := by decide +kernel
theorem dL_isStep_672 : decode cL_isStep 672 = .ok (.iload 9, 2) := by decide +kernel
theorem dL_isStep_674 : decode cL_isStep 674 = .ok (.invokevirtual 72, 3) := by decide +kernel
theorem dL_isStep_677 : decode cL_isStep 677 = .ok (.istore 11, 2) := by decide +kernel
theorem dL_isStep_679 : decode cL_isStep 679 = .ok (.iload 11, 2) := by decide +kernel
theorem dL_isStep_681 : decode cL_isStep 681 = .ok (.aload_n 1, 1) := by decide +kernel
theorem dL_isStep_682 : decode cL_isStep 682 = .ok (.iload 5, 2) := by decide +kernel
theorem dL_isStep_684 : decode cL_isStep 684 = .ok (.iload 9, 2) := by decide +kernel
theorem dL_isStep_686 : decode cL_isStep 686 = .ok (.invokestatic 43, 3) := by decide +kernel
theorem dL_isStep_689 : decode cL_isStep 689 = .ok (.invokevirtual 72, 3) := by decide +kernel
theorem dL_isStep_692 : decode cL_isStep 692 = .ok (.if_icmp .ne 65, 3) := by decide +kernel
theorem dL_isStep_695 : decode cL_isStep 695 = .ok (.iload 7, 2) := by decide +kernel
theorem dL_isStep_697 : decode cL_isStep 697 = .ok (.ifCond .ne 14, 3) := by decide +kernel
theorem dL_isStep_700 : decode cL_isStep 700 = .ok (.iload 11, 2) := by decide +kernel
theorem dL_isStep_702 : decode cL_isStep 702 = .ok (.sipush (-10001), 3) := by decide +kernel
theorem dL_isStep_705 : decode cL_isStep 705 = .ok (.if_icmp .ne 52, 3) := by decide +kernel
theorem dL_isStep_708 : decode cL_isStep 708 = .ok (.goto 45, 3) := by decide +kernel
theorem dL_isStep_711 : decode cL_isStep 711 = .ok (.iload 10, 2) := by decide +kernel
theorem dL_isStep_713 : decode cL_isStep 713 = .ok (.iload 9, 2) := by decide +kernel
theorem dL_isStep_715 : decode cL_isStep 715 = .ok (.if_icmp .ne 14, 3) := by decide +kernel
theorem dL_isStep_718 : decode cL_isStep 718 = .ok (.iload 11, 2) := by decide +kernel
theorem dL_isStep_720 : decode cL_isStep 720 = .ok (.sipush (-10005), 3) := by decide +kernel
theorem dL_isStep_723 : decode cL_isStep 723 = .ok (.if_icmp .ne 34, 3) := by decide +kernel
theorem dL_isStep_726 : decode cL_isStep 726 = .ok (.goto 27, 3) := by decide +kernel
theorem dL_isStep_729 : decode cL_isStep 729 = .ok (.iload 11, 2) := by decide +kernel
theorem dL_isStep_731 : decode cL_isStep 731 = .ok (.aload_n 0, 1) := by decide +kernel
theorem dL_isStep_732 : decode cL_isStep 732 = .ok (.iload 5, 2) := by decide +kernel
theorem dL_isStep_734 : decode cL_isStep 734 = .ok (.iconst 2, 1) := by decide +kernel
theorem dL_isStep_735 : decode cL_isStep 735 = .ok (.invokevirtual 27, 3) := by decide +kernel
theorem dL_isStep_738 : decode cL_isStep 738 = .ok (.if_icmp .ne 19, 3) := by decide +kernel
theorem dL_isStep_741 : decode cL_isStep 741 = .ok (.aload_n 0, 1) := by decide +kernel
theorem dL_isStep_742 : decode cL_isStep 742 = .ok (.iload 5, 2) := by decide +kernel
theorem dL_isStep_744 : decode cL_isStep 744 = .ok (.iconst 1, 1) := by decide +kernel
theorem dL_isStep_745 : decode cL_isStep 745 = .ok (.invokevirtual 27, 3) := by decide +kernel
theorem dL_isStep_748 : decode cL_isStep 748 = .ok (.iload 9, 2) := by decide +kernel
theorem dL_isStep_750 : decode cL_isStep 750 = .ok (.if_icmp .ne 7, 3) := by decide +kernel
theorem dL_isStep_753 : decode cL_isStep 753 = .ok (.iconst 1, 1) := by decide +kernel
theorem dL_isStep_754 : decode cL_isStep 754 = .ok (.goto 4, 3) := by decide +kernel
theorem dL_isStep_757 : decode cL_isStep 757 = .ok (.iconst 0, 1) := by decide +kernel
theorem dL_isStep_758 : decode cL_isStep 758 = .ok (.ireturn, 1) := by decide +kernel
theorem dL_isStep_759 : decode cL_isStep 759 = .ok (.iconst 1, 1) := by decide +kernel
theorem dL_isStep_760 : decode cL_isStep 760 = .ok (.iload_n 3, 1) := by decide +kernel
theorem dL_isStep_761 : decode cL_isStep 761 = .ok (.iload 4, 2) := by decide +kernel
theorem dL_isStep_763 : decode cL_isStep 763 = .ok (.iconst 4, 1) := by decide +kernel
theorem dL_isStep_764 : decode cL_isStep 764 = .ok (.invokestatic 21, 3) := by decide +kernel
theorem dL_isStep_767 : decode cL_isStep 767 = .ok (.ifCond .ne 8, 3) := by decide +kernel
theorem dL_isStep_770 : decode cL_isStep 770 = .ok (.bipush 20, 2) := by decide +kernel
theorem dL_isStep_772 : decode cL_isStep 772 = .ok (.goto 4, 3) := by decide +kernel
theorem dL_isStep_775 : decode cL_isStep 775 = .ok (.iconst 3, 1) := by decide +kernel
theorem dL_isStep_776 : decode cL_isStep 776 = .ok (.invokestatic 21, 3) := by decide +kernel
theorem dL_isStep_779 : decode cL_isStep 779 = .ok (.iadd, 1) := by decide +kernel
theorem dL_isStep_780 : decode cL_isStep 780 = .ok (.istore 9, 2) := by decide +kernel
theorem dL_isStep_782 : decode cL_isStep 782 = .ok (.aload_n 0, 1) := by decide +kernel
theorem dL_isStep_783 : decode cL_isStep 783 = .ok (.iconst 1, 1) := by decide +kernel
theorem dL_isStep_784 : decode cL_isStep 784 = .ok (.invokevirtual 30, 3) := by decide +kernel
theorem dL_isStep_787 : decode cL_isStep 787 = .ok (.istore 10, 2) := by decide +kernel
theorem dL_isStep_789 : decode cL_isStep 789 = .ok (.aload_n 0, 1) := by decide +kernel
theorem dL_isStep_790 : decode cL_isStep 790 = .ok (.iload 9, 2) := by decide +kernel
theorem dL_isStep_792 : decode cL_isStep 792 = .ok (.invokevirtual 75, 3) := by decide +kernel
theorem dL_isStep_795 : decode cL_isStep 795 = .ok (.iload 10, 2) := by decide +kernel
theorem dL_isStep_797 : decode cL_isStep 797 = .ok (.iload 9, 2) := by decide +kernel
theorem dL_isStep_799 : decode cL_isStep 799 = .ok (.iadd, 1) := by decide +kernel
theorem dL_isStep_800 : decode cL_isStep 800 = .ok (.bipush 8, 2) := by decide +kernel
theorem dL_isStep_802 : decode cL_isStep 802 = .ok (.irem, 1) := by decide +kernel
theorem dL_isStep_803 : decode cL_isStep 803 = .ok (.if_icmp .ne 42, 3) := by decide +kernel
theorem dL_isStep_806 : decode cL_isStep 806 = .ok (.aload_n 1, 1) := by decide +kernel
theorem dL_isStep_807 : decode cL_isStep 807 = .ok (.ldc2_w 78, 3) := by decide +kernel
theorem dL_isStep_810 : decode cL_isStep 810 = .ok (.invokestatic 39, 3) := by decide +kernel
theorem dL_isStep_813 : decode cL_isStep 813 = .ok (.ifCond .eq 32, 3) := by decide +kernel
theorem dL_isStep_816 : decode cL_isStep 816 = .ok (.aload_n 1, 1) := by decide +kernel
theorem dL_isStep_817 : decode cL_isStep 817 = .ok (.iload 9, 2) := by decide +kernel
theorem dL_isStep_819 : decode cL_isStep 819 = .ok (.invokestatic 46, 3) := by decide +kernel
theorem dL_isStep_822 : decode cL_isStep 822 = .ok (.ifCond .eq 23, 3) := by decide +kernel
theorem dL_isStep_825 : decode cL_isStep 825 = .ok (.aload_n 1, 1) := by decide +kernel
theorem dL_isStep_826 : decode cL_isStep 826 = .ok (.invokevirtual 50, 3) := by decide +kernel
theorem dL_isStep_829 : decode cL_isStep 829 = .ok (.iconst 1, 1) := by decide +kernel
theorem dL_isStep_830 : decode cL_isStep 830 = .ok (.if_icmp .ne 15, 3) := by decide +kernel
theorem dL_isStep_833 : decode cL_isStep 833 = .ok (.aload_n 0, 1) := by decide +kernel
theorem dL_isStep_834 : decode cL_isStep 834 = .ok (.iconst 5, 1) := by decide +kernel
theorem dL_isStep_835 : decode cL_isStep 835 = .ok (.invokevirtual 30, 3) := by decide +kernel
theorem dL_isStep_838 : decode cL_isStep 838 = .ok (.ifCond .ne 7, 3) := by decide +kernel
theorem dL_isStep_841 : decode cL_isStep 841 = .ok (.iconst 1, 1) := by decide +kernel
theorem dL_isStep_842 : decode cL_isStep 842 = .ok (.goto 4, 3) := by decide +kernel
theorem dL_isStep_845 : decode cL_isStep 845 = .ok (.iconst 0, 1) := by decide +kernel
theorem dL_isStep_846 : decode cL_isStep 846 = .ok (.ireturn, 1) := by decide +kernel
theorem dL_isStep_847 : decode cL_isStep 847 = .ok (.iload 4, 2) := by decide +kernel
theorem dL_isStep_849 : decode cL_isStep 849 = .ok (.bipush 8, 2) := by decide +kernel
theorem dL_isStep_851 : decode cL_isStep 851 = .ok (.invokestatic 21, 3) := by decide +kernel
theorem dL_isStep_854 : decode cL_isStep 854 = .ok (.istore 9, 2) := by decide +kernel
theorem dL_isStep_856 : decode cL_isStep 856 = .ok (.iload_n 3, 1) := by decide +kernel
theorem dL_isStep_857 : decode cL_isStep 857 = .ok (.bipush 10, 2) := by decide +kernel
theorem dL_isStep_859 : decode cL_isStep 859 = .ok (.invokestatic 21, 3) := by decide +kernel
theorem dL_isStep_862 : decode cL_isStep 862 = .ok (.istore 10, 2) := by decide +kernel
theorem dL_isStep_864 : decode cL_isStep 864 = .ok (.aload_n 0, 1) := by decide +kernel
theorem dL_isStep_865 : decode cL_isStep 865 = .ok (.iload 9, 2) := by decide +kernel
theorem dL_isStep_867 : decode cL_isStep 867 = .ok (.iload 10, 2) := by decide +kernel
theorem dL_isStep_869 : decode cL_isStep 869 = .ok (.invokevirtual 80, 3) := by decide +kernel
theorem dL_isStep_872 : decode cL_isStep 872 = .ok (.istore 11, 2) := by decide +kernel
theorem dL_isStep_874 : decode cL_isStep 874 = .ok (.aload_n 1, 1) := by decide +kernel
theorem dL_isStep_875 : decode cL_isStep 875 = .ok (.ldc2_w 83, 3) := by decide +kernel
theorem dL_isStep_878 : decode cL_isStep 878 = .ok (.invokestatic 39, 3) := by decide +kernel
theorem dL_isStep_881 : decode cL_isStep 881 = .ok (.ifCond .eq 71, 3) := by decide +kernel
theorem dL_isStep_884 : decode cL_isStep 884 = .ok (.aload_n 1, 1) := by decide +kernel
theorem dL_isStep_885 : decode cL_isStep 885 = .ok (.iload 9, 2) := by decide +kernel
theorem dL_isStep_887 : decode cL_isStep 887 = .ok (.invokestatic 46, 3) := by decide +kernel
theorem dL_isStep_890 : decode cL_isStep 890 = .ok (.ifCond .eq 62, 3) := by decide +kernel
theorem dL_isStep_893 : decode cL_isStep 893 = .ok (.aload_n 1, 1) := by decide +kernel
theorem dL_isStep_894 : decode cL_isStep 894 = .ok (.iload 10, 2) := by decide +kernel
theorem dL_isStep_896 : decode cL_isStep 896 = .ok (.invokestatic 46, 3) := by decide +kernel
theorem dL_isStep_899 : decode cL_isStep 899 = .ok (.ifCond .eq 53, 3) := by decide +kernel
theorem dL_isStep_902 : decode cL_isStep 902 = .ok (.aload_n 1, 1) := by decide +kernel
theorem dL_isStep_903 : decode cL_isStep 903 = .ok (.invokevirtual 50, 3) := by decide +kernel
theorem dL_isStep_906 : decode cL_isStep 906 = .ok (.iconst 1, 1) := by decide +kernel
theorem dL_isStep_907 : decode cL_isStep 907 = .ok (.if_icmp .ne 45, 3) := by decide +kernel
theorem dL_isStep_910 : decode cL_isStep 910 = .ok (.aload_n 0, 1) := by decide +kernel
theorem dL_isStep_911 : decode cL_isStep 911 = .ok (.iload 9, 2) := by decide +kernel
theorem dL_isStep_913 : decode cL_isStep 913 = .ok (.invokevirtual 85, 3) := by decide +kernel
theorem dL_isStep_916 : decode cL_isStep 916 = .ok (.iload 10, 2) := by decide +kernel
theorem dL_isStep_918 : decode cL_isStep 918 = .ok (.if_icmp .ne 34, 3) := by decide +kernel
theorem dL_isStep_921 : decode cL_isStep 921 = .ok (.iload 11, 2) := by decide +kernel
theorem dL_isStep_923 : decode cL_isStep 923 = .ok (.sipush (-10005), 3) := by decide +kernel
theorem dL_isStep_926 : decode cL_isStep 926 = .ok (.if_icmp .eq 22, 3) := by decide +kernel
theorem dL_isStep_929 : decode cL_isStep 929 = .ok (.iload 11, 2) := by decide +kernel
theorem dL_isStep_931 : decode cL_isStep 931 = .ok (.ifCond .lt 21, 3) := by decide +kernel
theorem dL_isStep_934 : decode cL_isStep 934 = .ok (.iload 11, 2) := by decide +kernel
theorem dL_isStep_936 : decode cL_isStep 936 = .ok (.bipush 10, 2) := by decide +kernel
theorem dL_isStep_938 : decode cL_isStep 938 = .ok (.if_icmp .ge 14, 3) := by decide +kernel
theorem dL_isStep_941 : decode cL_isStep 941 = .ok (.iload 11, 2) := by decide +kernel
theorem dL_isStep_943 : decode cL_isStep 943 = .ok (.iload 10, 2) := by decide +kernel
theorem dL_isStep_945 : decode cL_isStep 945 = .ok (.if_icmp .eq 7, 3) := by decide +kernel
theorem dL_isStep_948 : decode cL_isStep 948 = .ok (.iconst 1, 1) := by decide +kernel
theorem dL_isStep_949 : decode cL_isStep 949 = .ok (.goto 4, 3) := by decide +kernel
theorem dL_isStep_952 : decode cL_isStep 952 = .ok (.iconst 0, 1) := by decide +kernel
theorem dL_isStep_953 : decode cL_isStep 953 = .ok (.ireturn, 1) := by decide +kernel
theorem dL_isStep_954 : decode cL_isStep 954 = .ok (.iload 4, 2) := by decide +kernel
theorem dL_isStep_956 : decode cL_isStep 956 = .ok (.iconst 2, 1) := by decide +kernel
theorem dL_isStep_957 : decode cL_isStep 957 = .ok (.invokestatic 21, 3) := by decide +kernel
theorem dL_isStep_960 : decode cL_isStep 960 = .ok (.istore 9, 2) := by decide +kernel
theorem dL_isStep_962 : decode cL_isStep 962 = .ok (.iload 9, 2) := by decide +kernel
theorem dL_isStep_964 : decode cL_isStep 964 = .ok (.ifCond .ne 14, 3) := by decide +kernel
theorem dL_isStep_967 : decode cL_isStep 967 = .ok (.iconst 5, 1) := by decide +kernel
theorem dL_isStep_968 : decode cL_isStep 968 = .ok (.iload_n 3, 1) := by decide +kernel
theorem dL_isStep_969 : decode cL_isStep 969 = .ok (.bipush 40, 2) := by decide +kernel
theorem dL_isStep_971 : decode cL_isStep 971 = .ok (.invokestatic 21, 3) := by decide +kernel
theorem dL_isStep_974 : decode cL_isStep 974 = .ok (.iadd, 1) := by decide +kernel
theorem dL_isStep_975 : decode cL_isStep 975 = .ok (.goto 9, 3) := by decide +kernel
theorem dL_isStep_978 : decode cL_isStep 978 = .ok (.iload_n 3, 1) := by decide +kernel
theorem dL_isStep_979 : decode cL_isStep 979 = .ok (.bipush 10, 2) := by decide +kernel
theorem dL_isStep_981 : decode cL_isStep 981 = .ok (.invokestatic 21, 3) := by decide +kernel
theorem dL_isStep_984 : decode cL_isStep 984 = .ok (.istore 10, 2) := by decide +kernel
theorem dL_isStep_986 : decode cL_isStep 986 = .ok (.aload_n 0, 1) := by decide +kernel
theorem dL_isStep_987 : decode cL_isStep 987 = .ok (.iload 9, 2) := by decide +kernel
theorem dL_isStep_989 : decode cL_isStep 989 = .ok (.iload 10, 2) := by decide +kernel
theorem dL_isStep_991 : decode cL_isStep 991 = .ok (.invokevirtual 88, 3) := by decide +kernel
theorem dL_isStep_994 : decode cL_isStep 994 = .ok (.aload_n 1, 1) := by decide +kernel
theorem dL_isStep_995 : decode cL_isStep 995 = .ok (.iload 9, 2) := by decide +kernel
theorem dL_isStep_997 : decode cL_isStep 997 = .ok (.iload 10, 2) := by decide +kernel
theorem dL_isStep_999 : decode cL_isStep 999 = .ok (.invokevirtual 88, 3) := by decide +kernel
theorem dL_isStep_1002 : decode cL_isStep 1002 = .ok (.if_icmp .ne 21, 3) := by decide +kernel
theorem dL_isStep_1005 : decode cL_isStep 1005 = .ok (.aload_n 0, 1) := by decide +kernel
theorem dL_isStep_1006 : decode cL_isStep 1006 = .ok (.bipush 8, 2) := by decide +kernel
theorem dL_isStep_1008 : decode cL_isStep 1008 = .ok (.iload 9, 2) := by decide +kernel
theorem dL_isStep_1010 : decode cL_isStep 1010 = .ok (.iadd, 1) := by decide +kernel
theorem dL_isStep_1011 : decode cL_isStep 1011 = .ok (.invokevirtual 30, 3) := by decide +kernel
theorem dL_isStep_1014 : decode cL_isStep 1014 = .ok (.iload 10, 2) := by decide +kernel
theorem dL_isStep_1016 : decode cL_isStep 1016 = .ok (.if_icmp .ne 7, 3) := by decide +kernel
theorem dL_isStep_1019 : decode cL_isStep 1019 = .ok (.iconst 1, 1) := by decide +kernel
theorem dL_isStep_1020 : decode cL_isStep 1020 = .ok (.goto 4, 3) := by decide +kernel
theorem dL_isStep_1023 : decode cL_isStep 1023 = .ok (.iconst 0, 1) := by decide +kernel
theorem dL_isStep_1024 : decode cL_isStep 1024 = .ok (.ireturn, 1) := by decide +kernel
set_option maxRecDepth 20000 in
theorem ggL_areAlike_X3_safeWind : GoodIn wsL_areAlike wsX3_safeWind := goodIn_r _ [5, 6, 7, 8, 9, 10, 11, 12, 13, 14, 15, 16, 17, 18, 19, 20, 21, 22, 23, 24, 25, 26, 27, 28, 29, 189, 190, 191, 192, 193, 194, 195, 196, 197, 198, 199, 200, 201, 202, 203, 204, 205, 206, 207, 208, 209] (by decide +kernel) (by decide +kernel)
set_option maxRecDepth 20000 in
theorem gL_areAlike_X3_safeWind : GoodIn wsL_areAlike (wsV RL 91 RX3 yX3_safeWind wsX3_safeWind) := goodIn_app (goodIn_of _ (by decide +kernel)) ggL_areAlike_X3_safeWind
set_option maxRecDepth 20000 in
theorem ggL_areAlike_X3_count : GoodIn wsL_areAlike wsX3_count := goodIn_r _ [33, 34, 35, 6, 36, 8, 37, 38, 39, 17, 40, 41, 42, 43, 44, 45, 15, 46, 47, 48, 49, 50, 51, 52, 53, 54, 55, 56, 57, 58, 59, 60, 61, 62, 63, 4, 64, 65, 66, 67, 68, 69, 70, 71, 72, 73, 74, 75, 76, 77, 78, 16, 79, 80, 81, 82, 83, 84, 85, 86, 87, 88, 89, 90, 189, 190, 191, 192, 193, 194, 195, 196, 197, 210, 211, 212, 213, 214, 215, 216, 217, 218, 219, 220, 221, 198, 199, 200, 201, 202, 203, 204, 205, 206, 207, 208, 209] (by decide +kernel) (by decide +kernel)
set_option maxRecDepth 20000 in
theorem gL_areAlike_X3_count : GoodIn wsL_areAlike (wsV RL 30 RX3 yX3_count wsX3_count) := goodIn_app (goodIn_of _ (by decide +kernel)) ggL_areAlike_X3_count
set_option maxRecDepth 20000 in
theorem ggL_areAlike_X3_kite : GoodIn wsL_areAlike wsX3_kite := goodIn_r _ [94, 6, 95, 8, 96, 97, 98, 15, 16, 74, 99, 100, 101, 102, 103, 104, 105, 106, 107, 108, 109, 110, 111, 112, 113, 114, 115, 116, 117, 189, 190, 191, 192, 193, 194, 195, 196, 197, 198, 199, 200, 201, 202, 203, 204, 205, 206, 207, 208, 209] (by decide +kernel) (by decide +kernel)
set_option maxRecDepth 20000 in
theorem gL_areAlike_X3_kite : GoodIn wsL_areAlike (wsV RL 27 RX3 yX3_kite wsX3_kite) := goodIn_app (goodIn_of _ (by decide +kernel)) ggL_areAlike_X3_kite
set_option maxRecDepth 20000 in
theorem ggL_areAlike_L_there : GoodIn wsL_areAlike wsL_there := goodIn_r _ [121] (by decide +kernel) (by decide +kernel)
set_option maxRecDepth 20000 in
theorem gL_areAlike_L_there : GoodIn wsL_areAlike (va_wsS RL 43 yL_there wsL_there) := goodIn_app (goodIn_of _ (by decide +kernel)) ggL_areAlike_L_there
set_option maxRecDepth 20000 in
theorem ggL_areAlike_X3_ifRead : GoodIn wsL_areAlike wsX3_ifRead := goodIn_r _ [125, 6, 126, 8, 127, 128, 15, 16, 17, 102, 103, 104, 105, 54, 55, 56, 57, 46, 47, 48, 49, 41, 50, 51, 52, 53, 58, 59, 60, 61, 62, 63, 4, 64, 18, 19, 20, 21, 22, 23, 24, 25, 26, 27, 28, 29, 129, 130, 131, 106, 107, 108, 109, 189, 190, 191, 192, 193, 194, 195, 196, 197, 198, 199, 200, 201, 202, 203, 204, 205, 206, 207, 208, 209] (by decide +kernel) (by decide +kernel)
set_option maxRecDepth 20000 in
theorem gL_areAlike_X3_ifRead : GoodIn wsL_areAlike (wsV RL 59 RX3 yX3_ifRead wsX3_ifRead) := goodIn_app (goodIn_of _ (by decide +kernel)) ggL_areAlike_X3_ifRead
set_option maxRecDepth 20000 in
theorem ggL_areAlike_X3_share : GoodIn wsL_areAlike wsX3_share := goodIn_r _ [135, 6, 136, 8, 137, 138, 15, 16, 102, 103, 104, 105, 87, 88, 89, 90, 189, 190, 191, 192, 193, 194, 195, 196, 197, 198, 199, 200, 201, 202, 203, 204, 205, 206, 207, 208, 209] (by decide +kernel) (by decide +kernel)
set_option maxRecDepth 20000 in
theorem gL_areAlike_X3_share : GoodIn wsL_areAlike (wsV RL 94 RX3 yX3_share wsX3_share) := goodIn_app (goodIn_of _ (by decide +kernel)) ggL_areAlike_X3_share
set_option maxRecDepth 20000 in
theorem ggL_areAlike_X3_readsToCut : GoodIn wsL_areAlike wsX3_readsToCut := goodIn_r _ [142, 6, 143, 8, 144, 145, 16, 15, 17, 102, 103, 104, 105, 54, 55, 56, 57, 46, 47, 48, 49, 41, 50, 51, 52, 53, 58, 59, 60, 61, 62, 63, 4, 64, 18, 19, 20, 21, 22, 23, 24, 25, 26, 27, 28, 29, 189, 190, 191, 192, 193, 194, 195, 196, 197, 198, 199, 200, 201, 202, 203, 204, 205, 206, 207, 208, 209] (by decide +kernel) (by decide +kernel)
set_option maxRecDepth 20000 in
theorem gL_areAlike_X3_readsToCut : GoodIn wsL_areAlike (wsV RL 97 RX3 yX3_readsToCut wsX3_readsToCut) := goodIn_app (goodIn_of _ (by decide +kernel)) ggL_areAlike_X3_readsToCut
set_option maxRecDepth 20000 in
theorem ggL_areAlike_L_up : GoodIn wsL_areAlike wsL_up := goodIn_r _ [148, 149] (by decide +kernel) (by decide +kernel)
set_option maxRecDepth 20000 in
theorem gL_areAlike_L_up : GoodIn wsL_areAlike (va_wsS RL 21 yL_up wsL_up) := goodIn_app (goodIn_of _ (by decide +kernel)) ggL_areAlike_L_up
set_option maxRecDepth 20000 in
theorem ggL_areAlike_X3_downIn : GoodIn wsL_areAlike wsX3_downIn := goodIn_r _ [153, 154, 6, 155, 8, 156, 157, 98, 15, 16, 74, 99, 100, 62, 69, 41, 39, 17, 40, 158, 159, 160, 102, 103, 104, 105, 161, 162, 163, 164, 79, 80, 81, 82, 110, 111, 112, 113, 101, 165, 166, 167, 168, 189, 190, 191, 192, 193, 194, 195, 196, 197, 198, 199, 200, 201, 202, 203, 204, 205, 206, 207, 208, 209] (by decide +kernel) (by decide +kernel)
set_option maxRecDepth 20000 in
theorem gL_areAlike_X3_downIn : GoodIn wsL_areAlike (wsV RL 100 RX3 yX3_downIn wsX3_downIn) := goodIn_app (goodIn_of _ (by decide +kernel)) ggL_areAlike_X3_downIn
set_option maxRecDepth 20000 in
theorem ggL_areAlike_X3_string : GoodIn wsL_areAlike wsX3_string := goodIn_r _ [172, 6, 173, 8, 174, 175, 101, 69, 176, 4, 177, 106, 107, 108, 109, 15, 16, 87, 88, 89, 90, 114, 115, 116, 117, 110, 111, 112, 113, 178, 179, 180, 181, 98, 189, 190, 191, 192, 193, 194, 195, 196, 197, 198, 199, 200, 201, 202, 203, 204, 205, 206, 207, 208, 209] (by decide +kernel) (by decide +kernel)
set_option maxRecDepth 20000 in
theorem gL_areAlike_X3_string : GoodIn wsL_areAlike (wsV RL 103 RX3 yX3_string wsX3_string) := goodIn_app (goodIn_of _ (by decide +kernel)) ggL_areAlike_X3_string
set_option maxRecDepth 20000 in
theorem ggL_areAlike_X3_drawn : GoodIn wsL_areAlike wsX3_drawn := goodIn_r _ [185, 6, 186, 8, 187, 188, 15, 16, 176, 4, 177, 189, 190, 191, 192, 193, 194, 195, 196, 197, 198, 199, 200, 201, 202, 203, 204, 205, 206, 207, 208, 209] (by decide +kernel) (by decide +kernel)
set_option maxRecDepth 20000 in
theorem gL_areAlike_X3_drawn : GoodIn wsL_areAlike (wsV RL 106 RX3 yX3_drawn wsX3_drawn) := goodIn_app (goodIn_of _ (by decide +kernel)) ggL_areAlike_X3_drawn
