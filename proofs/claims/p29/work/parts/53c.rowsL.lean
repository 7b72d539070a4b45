theorem dL_areAlike_0 : decode cL_areAlike 0 = .ok (.aload_n 0, 1) := by decide +kernel
theorem dL_areAlike_1 : decode cL_areAlike 1 = .ok (.invokevirtual 91, 3) := by decide +kernel
theorem dL_areAlike_4 : decode cL_areAlike 4 = .ok (.aload_n 1, 1) := by decide +kernel
theorem dL_areAlike_5 : decode cL_areAlike 5 = .ok (.invokevirtual 91, 3) := by decide +kernel
theorem dL_areAlike_8 : decode cL_areAlike 8 = .ok (.if_icmp .ne 7, 3) := by decide +kernel
theorem dL_areAlike_11 : decode cL_areAlike 11 = .ok (.iconst 1, 1) := by decide +kernel
theorem dL_areAlike_12 : decode cL_areAlike 12 = .ok (.goto 4, 3) := by decide +kernel
theorem dL_areAlike_15 : decode cL_areAlike 15 = .ok (.iconst 0, 1) := by decide +kernel
theorem dL_areAlike_16 : decode cL_areAlike 16 = .ok (.istore_n 3, 1) := by decide +kernel
theorem dL_areAlike_17 : decode cL_areAlike 17 = .ok (.iconst 0, 1) := by decide +kernel
theorem dL_areAlike_18 : decode cL_areAlike 18 = .ok (.istore 4, 2) := by decide +kernel
theorem dL_areAlike_20 : decode cL_areAlike 20 = .ok (.iload 4, 2) := by decide +kernel
theorem dL_areAlike_22 : decode cL_areAlike 22 = .ok (.bipush 11, 2) := by decide +kernel
theorem dL_areAlike_24 : decode cL_areAlike 24 = .ok (.if_icmp .ge 34, 3) := by decide +kernel
theorem dL_areAlike_27 : decode cL_areAlike 27 = .ok (.iload_n 3, 1) := by decide +kernel
theorem dL_areAlike_28 : decode cL_areAlike 28 = .ok (.ifCond .eq 22, 3) := by decide +kernel
theorem dL_areAlike_31 : decode cL_areAlike 31 = .ok (.aload_n 0, 1) := by decide +kernel
theorem dL_areAlike_32 : decode cL_areAlike 32 = .ok (.iload 4, 2) := by decide +kernel
theorem dL_areAlike_34 : decode cL_areAlike 34 = .ok (.invokevirtual 30, 3) := by decide +kernel
theorem dL_areAlike_37 : decode cL_areAlike 37 = .ok (.aload_n 1, 1) := by decide +kernel
theorem dL_areAlike_38 : decode cL_areAlike 38 = .ok (.iload 4, 2) := by decide +kernel
theorem dL_areAlike_40 : decode cL_areAlike 40 = .ok (.invokevirtual 30, 3) := by decide +kernel
theorem dL_areAlike_43 : decode cL_areAlike 43 = .ok (.if_icmp .ne 7, 3) := by decide +kernel
theorem dL_areAlike_46 : decode cL_areAlike 46 = .ok (.iconst 1, 1) := by decide +kernel
theorem dL_areAlike_47 : decode cL_areAlike 47 = .ok (.goto 4, 3) := by decide +kernel
theorem dL_areAlike_50 : decode cL_areAlike 50 = .ok (.iconst 0, 1) := by decide +kernel
theorem dL_areAlike_51 : decode cL_areAlike 51 = .ok (.istore_n 3, 1) := by decide +kernel
theorem dL_areAlike_52 : decode cL_areAlike 52 = .ok (.iinc 4 1, 3) := by decide +kernel
theorem dL_areAlike_55 : decode cL_areAlike 55 = .ok (.goto (-35), 3) := by decide +kernel
theorem dL_areAlike_58 : decode cL_areAlike 58 = .ok (.iconst 0, 1) := by decide +kernel
theorem dL_areAlike_59 : decode cL_areAlike 59 = .ok (.istore 4, 2) := by decide +kernel
theorem dL_areAlike_61 : decode cL_areAlike 61 = .ok (.iload 4, 2) := by decide +kernel
theorem dL_areAlike_63 : decode cL_areAlike 63 = .ok (.bipush 12, 2) := by decide +kernel
theorem dL_areAlike_65 : decode cL_areAlike 65 = .ok (.if_icmp .ge 276, 3) := by decide +kernel
theorem dL_areAlike_68 : decode cL_areAlike 68 = .ok (.aload_n 0, 1) := by decide +kernel
theorem dL_areAlike_69 : decode cL_areAlike 69 = .ok (.iload 4, 2) := by decide +kernel
theorem dL_areAlike_71 : decode cL_areAlike 71 = .ok (.iconst 0, 1) := by decide +kernel
theorem dL_areAlike_72 : decode cL_areAlike 72 = .ok (.invokevirtual 27, 3) := by decide +kernel
theorem dL_areAlike_75 : decode cL_areAlike 75 = .ok (.sipush (-10001), 3) := by decide +kernel
theorem dL_areAlike_78 : decode cL_areAlike 78 = .ok (.if_icmp .eq 7, 3) := by decide +kernel
theorem dL_areAlike_81 : decode cL_areAlike 81 = .ok (.iconst 1, 1) := by decide +kernel
theorem dL_areAlike_82 : decode cL_areAlike 82 = .ok (.goto 4, 3) := by decide +kernel
theorem dL_areAlike_85 : decode cL_areAlike 85 = .ok (.iconst 0, 1) := by decide +kernel
theorem dL_areAlike_86 : decode cL_areAlike 86 = .ok (.istore 5, 2) := by decide +kernel
theorem dL_areAlike_88 : decode cL_areAlike 88 = .ok (.iconst 0, 1) := by decide +kernel
theorem dL_areAlike_89 : decode cL_areAlike 89 = .ok (.istore 6, 2) := by decide +kernel
theorem dL_areAlike_91 : decode cL_areAlike 91 = .ok (.iload 6, 2) := by decide +kernel
theorem dL_areAlike_93 : decode cL_areAlike 93 = .ok (.bipush 9, 2) := by decide +kernel
theorem dL_areAlike_95 : decode cL_areAlike 95 = .ok (.if_icmp .ge 96, 3) := by decide +kernel
theorem dL_areAlike_98 : decode cL_areAlike 98 = .ok (.aload_n 0, 1) := by decide +kernel
theorem dL_areAlike_99 : decode cL_areAlike 99 = .ok (.iload 4, 2) := by decide +kernel
theorem dL_areAlike_101 : decode cL_areAlike 101 = .ok (.iload 6, 2) := by decide +kernel
theorem dL_areAlike_103 : decode cL_areAlike 103 = .ok (.invokevirtual 27, 3) := by decide +kernel
theorem dL_areAlike_106 : decode cL_areAlike 106 = .ok (.istore 7, 2) := by decide +kernel
theorem dL_areAlike_108 : decode cL_areAlike 108 = .ok (.aload_n 1, 1) := by decide +kernel
theorem dL_areAlike_109 : decode cL_areAlike 109 = .ok (.iload 4, 2) := by decide +kernel
theorem dL_areAlike_111 : decode cL_areAlike 111 = .ok (.iload 6, 2) := by decide +kernel
theorem dL_areAlike_113 : decode cL_areAlike 113 = .ok (.invokevirtual 27, 3) := by decide +kernel
theorem dL_areAlike_116 : decode cL_areAlike 116 = .ok (.istore 8, 2) := by decide +kernel
theorem dL_areAlike_118 : decode cL_areAlike 118 = .ok (.iload_n 3, 1) := by decide +kernel
theorem dL_areAlike_119 : decode cL_areAlike 119 = .ok (.ifCond .eq 64, 3) := by decide +kernel
theorem dL_areAlike_122 : decode cL_areAlike 122 = .ok (.iload 5, 2) := by decide +kernel
theorem dL_areAlike_124 : decode cL_areAlike 124 = .ok (.ifCond .ne 13, 3) := by decide +kernel
theorem dL_areAlike_127 : decode cL_areAlike 127 = .ok (.iload 7, 2) := by decide +kernel
theorem dL_areAlike_129 : decode cL_areAlike 129 = .ok (.iload 8, 2) := by decide +kernel
theorem dL_areAlike_131 : decode cL_areAlike 131 = .ok (.if_icmp .ne 52, 3) := by decide +kernel
theorem dL_areAlike_134 : decode cL_areAlike 134 = .ok (.goto 45, 3) := by decide +kernel
theorem dL_areAlike_137 : decode cL_areAlike 137 = .ok (.iload 6, 2) := by decide +kernel
theorem dL_areAlike_139 : decode cL_areAlike 139 = .ok (.ifCond .ne 14, 3) := by decide +kernel
theorem dL_areAlike_142 : decode cL_areAlike 142 = .ok (.iload 7, 2) := by decide +kernel
theorem dL_areAlike_144 : decode cL_areAlike 144 = .ok (.iload 8, 2) := by decide +kernel
theorem dL_areAlike_146 : decode cL_areAlike 146 = .ok (.ineg, 1) := by decide +kernel
theorem dL_areAlike_147 : decode cL_areAlike 147 = .ok (.if_icmp .ne 36, 3) := by decide +kernel
theorem dL_areAlike_150 : decode cL_areAlike 150 = .ok (.goto 29, 3) := by decide +kernel
theorem dL_areAlike_153 : decode cL_areAlike 153 = .ok (.iload 6, 2) := by decide +kernel
theorem dL_areAlike_155 : decode cL_areAlike 155 = .ok (.iconst 1, 1) := by decide +kernel
theorem dL_areAlike_156 : decode cL_areAlike 156 = .ok (.if_icmp .ne 16, 3) := by decide +kernel
theorem dL_areAlike_159 : decode cL_areAlike 159 = .ok (.iload 7, 2) := by decide +kernel
theorem dL_areAlike_161 : decode cL_areAlike 161 = .ok (.invokestatic 43, 3) := by decide +kernel
theorem dL_areAlike_164 : decode cL_areAlike 164 = .ok (.iload 8, 2) := by decide +kernel
theorem dL_areAlike_166 : decode cL_areAlike 166 = .ok (.if_icmp .ne 17, 3) := by decide +kernel
theorem dL_areAlike_169 : decode cL_areAlike 169 = .ok (.goto 10, 3) := by decide +kernel
theorem dL_areAlike_172 : decode cL_areAlike 172 = .ok (.iload 7, 2) := by decide +kernel
theorem dL_areAlike_174 : decode cL_areAlike 174 = .ok (.iload 8, 2) := by decide +kernel
theorem dL_areAlike_176 : decode cL_areAlike 176 = .ok (.if_icmp .ne 7, 3) := by decide +kernel
theorem dL_areAlike_179 : decode cL_areAlike 179 = .ok (.iconst 1, 1) := by decide +kernel
theorem dL_areAlike_180 : decode cL_areAlike 180 = .ok (.goto 4, 3) := by decide +kernel
theorem dL_areAlike_183 : decode cL_areAlike 183 = .ok (.iconst 0, 1) := by decide +kernel
theorem dL_areAlike_184 : decode cL_areAlike 184 = .ok (.istore_n 3, 1) := by decide +kernel
theorem dL_areAlike_185 : decode cL_areAlike 185 = .ok (.iinc 6 1, 3) := by decide +kernel
theorem dL_areAlike_188 : decode cL_areAlike 188 = .ok (.goto (-97), 3) := by decide +kernel
theorem dL_areAlike_191 : decode cL_areAlike 191 = .ok (.iconst 0, 1) := by decide +kernel
theorem dL_areAlike_192 : decode cL_areAlike 192 = .ok (.istore 6, 2) := by decide +kernel
theorem dL_areAlike_194 : decode cL_areAlike 194 = .ok (.iload 6, 2) := by decide +kernel
theorem dL_areAlike_196 : decode cL_areAlike 196 = .ok (.iconst 4, 1) := by decide +kernel
theorem dL_areAlike_197 : decode cL_areAlike 197 = .ok (.if_icmp .ge 71, 3) := by decide +kernel
theorem dL_areAlike_200 : decode cL_areAlike 200 = .ok (.iload_n 3, 1) := by decide +kernel
theorem dL_areAlike_201 : decode cL_areAlike 201 = .ok (.ifCond .eq 59, 3) := by decide +kernel
theorem dL_areAlike_204 : decode cL_areAlike 204 = .ok (.iload 6, 2) := by decide +kernel
theorem dL_areAlike_206 : decode cL_areAlike 206 = .ok (.ifCond .ne 31, 3) := by decide +kernel
theorem dL_areAlike_209 : decode cL_areAlike 209 = .ok (.iload 5, 2) := by decide +kernel
theorem dL_areAlike_211 : decode cL_areAlike 211 = .ok (.ifCond .eq 26, 3) := by decide +kernel
theorem dL_areAlike_214 : decode cL_areAlike 214 = .ok (.aload_n 0, 1) := by decide +kernel
theorem dL_areAlike_215 : decode cL_areAlike 215 = .ok (.iload 4, 2) := by decide +kernel
theorem dL_areAlike_217 : decode cL_areAlike 217 = .ok (.iconst 0, 1) := by decide +kernel
theorem dL_areAlike_218 : decode cL_areAlike 218 = .ok (.invokevirtual 59, 3) := by decide +kernel
theorem dL_areAlike_221 : decode cL_areAlike 221 = .ok (.invokestatic 43, 3) := by decide +kernel
theorem dL_areAlike_224 : decode cL_areAlike 224 = .ok (.aload_n 1, 1) := by decide +kernel
theorem dL_areAlike_225 : decode cL_areAlike 225 = .ok (.iload 4, 2) := by decide +kernel
theorem dL_areAlike_227 : decode cL_areAlike 227 = .ok (.iconst 0, 1) := by decide +kernel
theorem dL_areAlike_228 : decode cL_areAlike 228 = .ok (.invokevirtual 59, 3) := by decide +kernel
theorem dL_areAlike_231 : decode cL_areAlike 231 = .ok (.if_icmp .ne 29, 3) := by decide +kernel
theorem dL_areAlike_234 : decode cL_areAlike 234 = .ok (.goto 22, 3) := by decide +kernel
theorem dL_areAlike_237 : decode cL_areAlike 237 = .ok (.aload_n 0, 1) := by decide +kernel
theorem dL_areAlike_238 : decode cL_areAlike 238 = .ok (.iload 4, 2) := by decide +kernel
theorem dL_areAlike_240 : decode cL_areAlike 240 = .ok (.iload 6, 2) := by decide +kernel
theorem dL_areAlike_242 : decode cL_areAlike 242 = .ok (.invokevirtual 59, 3) := by decide +kernel
theorem dL_areAlike_245 : decode cL_areAlike 245 = .ok (.aload_n 1, 1) := by decide +kernel
theorem dL_areAlike_246 : decode cL_areAlike 246 = .ok (.iload 4, 2) := by decide +kernel
theorem dL_areAlike_248 : decode cL_areAlike 248 = .ok (.iload 6, 2) := by decide +kernel
theorem dL_areAlike_250 : decode cL_areAlike 250 = .ok (.invokevirtual 59, 3) := by decide +kernel
theorem dL_areAlike_253 : decode cL_areAlike 253 = .ok (.if_icmp .ne 7, 3) := by decide +kernel
theorem dL_areAlike_256 : decode cL_areAlike 256 = .ok (.iconst 1, 1) := by decide +kernel
theorem dL_areAlike_257 : decode cL_areAlike 257 = .ok (.goto 4, 3) := by decide +kernel
theorem dL_areAlike_260 : decode cL_areAlike 260 = .ok (.iconst 0, 1) := by decide +kernel
theorem dL_areAlike_261 : decode cL_areAlike 261 = .ok (.istore_n 3, 1) := by decide +kernel
theorem dL_areAlike_262 : decode cL_areAlike 262 = .ok (.iinc 6 1, 3) := by decide +kernel
theorem dL_areAlike_265 : decode cL_areAlike 265 = .ok (.goto (-71), 3) := by decide +kernel
theorem dL_areAlike_268 : decode cL_areAlike 268 = .ok (.iload_n 3, 1) := by decide +kernel
theorem dL_areAlike_269 : decode cL_areAlike 269 = .ok (.ifCond .eq 64, 3) := by decide +kernel
theorem dL_areAlike_272 : decode cL_areAlike 272 = .ok (.aload_n 0, 1) := by decide +kernel
theorem dL_areAlike_273 : decode cL_areAlike 273 = .ok (.iload 4, 2) := by decide +kernel
theorem dL_areAlike_275 : decode cL_areAlike 275 = .ok (.invokevirtual 94, 3) := by decide +kernel
theorem dL_areAlike_278 : decode cL_areAlike 278 = .ok (.aload_n 1, 1) := by decide +kernel
theorem dL_areAlike_279 : decode cL_areAlike 279 = .ok (.iload 4, 2) := by decide +kernel
theorem dL_areAlike_281 : decode cL_areAlike 281 = .ok (.invokevirtual 94, 3) := by decide +kernel
theorem dL_areAlike_284 : decode cL_areAlike 284 = .ok (.if_icmp .ne 49, 3) := by decide +kernel
theorem dL_areAlike_287 : decode cL_areAlike 287 = .ok (.aload_n 0, 1) := by decide +kernel
theorem dL_areAlike_288 : decode cL_areAlike 288 = .ok (.iload 4, 2) := by decide +kernel
theorem dL_areAlike_290 : decode cL_areAlike 290 = .ok (.invokevirtual 97, 3) := by decide +kernel
theorem dL_areAlike_293 : decode cL_areAlike 293 = .ok (.aload_n 1, 1) := by decide +kernel
theorem dL_areAlike_294 : decode cL_areAlike 294 = .ok (.iload 4, 2) := by decide +kernel
theorem dL_areAlike_296 : decode cL_areAlike 296 = .ok (.invokevirtual 97, 3) := by decide +kernel
theorem dL_areAlike_299 : decode cL_areAlike 299 = .ok (.if_icmp .ne 34, 3) := by decide +kernel
theorem dL_areAlike_302 : decode cL_areAlike 302 = .ok (.aload_n 0, 1) := by decide +kernel
theorem dL_areAlike_303 : decode cL_areAlike 303 = .ok (.iload 4, 2) := by decide +kernel
theorem dL_areAlike_305 : decode cL_areAlike 305 = .ok (.iload_n 2, 1) := by decide +kernel
theorem dL_areAlike_306 : decode cL_areAlike 306 = .ok (.bipush 9, 2) := by decide +kernel
theorem dL_areAlike_308 : decode cL_areAlike 308 = .ok (.invokestatic 21, 3) := by decide +kernel
theorem dL_areAlike_311 : decode cL_areAlike 311 = .ok (.invokevirtual 100, 3) := by decide +kernel
theorem dL_areAlike_314 : decode cL_areAlike 314 = .ok (.aload_n 1, 1) := by decide +kernel
theorem dL_areAlike_315 : decode cL_areAlike 315 = .ok (.iload 4, 2) := by decide +kernel
theorem dL_areAlike_317 : decode cL_areAlike 317 = .ok (.iload_n 2, 1) := by decide +kernel
theorem dL_areAlike_318 : decode cL_areAlike 318 = .ok (.bipush 9, 2) := by decide +kernel
theorem dL_areAlike_320 : decode cL_areAlike 320 = .ok (.invokestatic 21, 3) := by decide +kernel
theorem dL_areAlike_323 : decode cL_areAlike 323 = .ok (.invokevirtual 100, 3) := by decide +kernel
theorem dL_areAlike_326 : decode cL_areAlike 326 = .ok (.if_icmp .ne 7, 3) := by decide +kernel
theorem dL_areAlike_329 : decode cL_areAlike 329 = .ok (.iconst 1, 1) := by decide +kernel
theorem dL_areAlike_330 : decode cL_areAlike 330 = .ok (.goto 4, 3) := by decide +kernel
theorem dL_areAlike_333 : decode cL_areAlike 333 = .ok (.iconst 0, 1) := by decide +kernel
theorem dL_areAlike_334 : decode cL_areAlike 334 = .ok (.istore_n 3, 1) := by decide +kernel
theorem dL_areAlike_335 : decode cL_areAlike 335 = .ok (.iinc 4 1, 3) := by decide +kernel
theorem dL_areAlike_338 : decode cL_areAlike 338 = .ok (.goto (-277), 3) := by decide +kernel
theorem dL_areAlike_341 : decode cL_areAlike 341 = .ok (.iconst 0, 1) := by decide +kernel
theorem dL_areAlike_342 : decode cL_areAlike 342 = .ok (.istore 4, 2) := by decide +kernel
theorem dL_areAlike_344 : decode cL_areAlike 344 = .ok (.iload 4, 2) := by decide +kernel
theorem dL_areAlike_346 : decode cL_areAlike 346 = .ok (.iconst 4, 1) := by decide +kernel
theorem dL_areAlike_347 : decode cL_areAlike 347 = .ok (.if_icmp .ge 131, 3) := by decide +kernel
theorem dL_areAlike_350 : decode cL_areAlike 350 = .ok (.iconst 0, 1) := by decide +kernel
theorem dL_areAlike_351 : decode cL_areAlike 351 = .ok (.istore 5, 2) := by decide +kernel
theorem dL_areAlike_353 : decode cL_areAlike 353 = .ok (.iload 5, 2) := by decide +kernel
theorem dL_areAlike_355 : decode cL_areAlike 355 = .ok (.bipush 6, 2) := by decide +kernel
theorem dL_areAlike_357 : decode cL_areAlike 357 = .ok (.if_icmp .ge 71, 3) := by decide +kernel
theorem dL_areAlike_360 : decode cL_areAlike 360 = .ok (.iload_n 3, 1) := by decide +kernel
theorem dL_areAlike_361 : decode cL_areAlike 361 = .ok (.ifCond .eq 59, 3) := by decide +kernel
theorem dL_areAlike_364 : decode cL_areAlike 364 = .ok (.iload 5, 2) := by decide +kernel
theorem dL_areAlike_366 : decode cL_areAlike 366 = .ok (.iconst 4, 1) := by decide +kernel
theorem dL_areAlike_367 : decode cL_areAlike 367 = .ok (.if_icmp .ne 27, 3) := by decide +kernel
theorem dL_areAlike_370 : decode cL_areAlike 370 = .ok (.aload_n 0, 1) := by decide +kernel
theorem dL_areAlike_371 : decode cL_areAlike 371 = .ok (.iload 4, 2) := by decide +kernel
theorem dL_areAlike_373 : decode cL_areAlike 373 = .ok (.iconst 4, 1) := by decide +kernel
theorem dL_areAlike_374 : decode cL_areAlike 374 = .ok (.invokevirtual 103, 3) := by decide +kernel
theorem dL_areAlike_377 : decode cL_areAlike 377 = .ok (.aload_n 1, 1) := by decide +kernel
theorem dL_areAlike_378 : decode cL_areAlike 378 = .ok (.iload 4, 2) := by decide +kernel
theorem dL_areAlike_380 : decode cL_areAlike 380 = .ok (.invokestatic 43, 3) := by decide +kernel
theorem dL_areAlike_383 : decode cL_areAlike 383 = .ok (.iconst 4, 1) := by decide +kernel
theorem dL_areAlike_384 : decode cL_areAlike 384 = .ok (.invokevirtual 103, 3) := by decide +kernel
theorem dL_areAlike_387 : decode cL_areAlike 387 = .ok (.ineg, 1) := by decide +kernel
theorem dL_areAlike_388 : decode cL_areAlike 388 = .ok (.if_icmp .ne 32, 3) := by decide +kernel
theorem dL_areAlike_391 : decode cL_areAlike 391 = .ok (.goto 25, 3) := by decide +kernel
theorem dL_areAlike_394 : decode cL_areAlike 394 = .ok (.aload_n 0, 1) := by decide +kernel
theorem dL_areAlike_395 : decode cL_areAlike 395 = .ok (.iload 4, 2) := by decide +kernel
theorem dL_areAlike_397 : decode cL_areAlike 397 = .ok (.iload 5, 2) := by decide +kernel
theorem dL_areAlike_399 : decode cL_areAlike 399 = .ok (.invokevirtual 103, 3) := by decide +kernel
theorem dL_areAlike_402 : decode cL_areAlike 402 = .ok (.aload_n 1, 1) := by decide +kernel
theorem dL_areAlike_403 : decode cL_areAlike 403 = .ok (.iload 4, 2) := by decide +kernel
theorem dL_areAlike_405 : decode cL_areAlike 405 = .ok (.invokestatic 43, 3) := by decide +kernel
theorem dL_areAlike_408 : decode cL_areAlike 408 = .ok (.iload 5, 2) := by decide +kernel
theorem dL_areAlike_410 : decode cL_areAlike 410 = .ok (.invokevirtual 103, 3) := by decide +kernel
theorem dL_areAlike_413 : decode cL_areAlike 413 = .ok (.if_icmp .ne 7, 3) := by decide +kernel
theorem dL_areAlike_416 : decode cL_areAlike 416 = .ok (.iconst 1, 1) := by decide +kernel
theorem dL_areAlike_417 : decode cL_areAlike 417 = .ok (.goto 4, 3) := by decide +kernel
theorem dL_areAlike_420 : decode cL_areAlike 420 = .ok (.iconst 0, 1) := by decide +kernel
theorem dL_areAlike_421 : decode cL_areAlike 421 = .ok (.istore_n 3, 1) := by decide +kernel
theorem dL_areAlike_422 : decode cL_areAlike 422 = .ok (.iinc 5 1, 3) := by decide +kernel
theorem dL_areAlike_425 : decode cL_areAlike 425 = .ok (.goto (-72), 3) := by decide +kernel
theorem dL_areAlike_428 : decode cL_areAlike 428 = .ok (.iload_n 3, 1) := by decide +kernel
theorem dL_areAlike_429 : decode cL_areAlike 429 = .ok (.ifCond .eq 41, 3) := by decide +kernel
theorem dL_areAlike_432 : decode cL_areAlike 432 = .ok (.aload_n 0, 1) := by decide +kernel
theorem dL_areAlike_433 : decode cL_areAlike 433 = .ok (.iload 4, 2) := by decide +kernel
theorem dL_areAlike_435 : decode cL_areAlike 435 = .ok (.iload_n 2, 1) := by decide +kernel
theorem dL_areAlike_436 : decode cL_areAlike 436 = .ok (.iconst 3, 1) := by decide +kernel
theorem dL_areAlike_437 : decode cL_areAlike 437 = .ok (.ishr, 1) := by decide +kernel
theorem dL_areAlike_438 : decode cL_areAlike 438 = .ok (.bipush 40, 2) := by decide +kernel
theorem dL_areAlike_440 : decode cL_areAlike 440 = .ok (.invokestatic 21, 3) := by decide +kernel
theorem dL_areAlike_443 : decode cL_areAlike 443 = .ok (.invokevirtual 106, 3) := by decide +kernel
theorem dL_areAlike_446 : decode cL_areAlike 446 = .ok (.aload_n 1, 1) := by decide +kernel
theorem dL_areAlike_447 : decode cL_areAlike 447 = .ok (.iload 4, 2) := by decide +kernel
theorem dL_areAlike_449 : decode cL_areAlike 449 = .ok (.invokestatic 43, 3) := by decide +kernel
theorem dL_areAlike_452 : decode cL_areAlike 452 = .ok (.iload_n 2, 1) := by decide +kernel
theorem dL_areAlike_453 : decode cL_areAlike 453 = .ok (.iconst 3, 1) := by decide +kernel
theorem dL_areAlike_454 : decode cL_areAlike 454 = .ok (.ishr, 1) := by decide +kernel
theorem dL_areAlike_455 : decode cL_areAlike 455 = .ok (.bipush 40, 2) := by decide +kernel
theorem dL_areAlike_457 : decode cL_areAlike 457 = .ok (.invokestatic 21, 3) := by decide +kernel
theorem dL_areAlike_460 : decode cL_areAlike 460 = .ok (.invokevirtual 106, 3) := by decide +kernel
theorem dL_areAlike_463 : decode cL_areAlike 463 = .ok (.if_icmp .ne 7, 3) := by decide +kernel
theorem dL_areAlike_466 : decode cL_areAlike 466 = .ok (.iconst 1, 1) := by decide +kernel
theorem dL_areAlike_467 : decode cL_areAlike 467 = .ok (.goto 4, 3) := by decide +kernel
theorem dL_areAlike_470 : decode cL_areAlike 470 = .ok (.iconst 0, 1) := by decide +kernel
theorem dL_areAlike_471 : decode cL_areAlike 471 = .ok (.istore_n 3, 1) := by decide +kernel
theorem dL_areAlike_472 : decode cL_areAlike 472 = .ok (.iinc 4 1, 3) := by decide +kernel
theorem dL_areAlike_475 : decode cL_areAlike 475 = .ok (.goto (-131), 3) := by decide +kernel
theorem dL_areAlike_478 : decode cL_areAlike 478 = .ok (.iload_n 3, 1) := by decide +kernel
theorem dL_areAlike_479 : decode cL_areAlike 479 = .ok (.ireturn, 1) := by decide +kernel
set_option maxRecDepth 20000 in
theorem ggL_isWell_X3_kite : GoodIn wsL_isWell wsX3_kite := goodIn_r _ [5, 6, 7, 8, 9, 10, 11, 12, 13, 14, 15, 16, 17, 18, 19, 20, 21, 22, 23, 24, 25, 26, 27, 28, 29, 30, 31, 32, 33, 148, 149, 150, 151, 152, 153, 154, 155, 156, 157, 158, 159, 160, 161, 162, 163, 164, 165, 166, 167, 168] (by decide +kernel) (by decide +kernel)
set_option maxRecDepth 20000 in
theorem gL_isWell_X3_kite : GoodIn wsL_isWell (wsV RL 27 RX3 yX3_kite wsX3_kite) := goodIn_app (goodIn_of _ (by decide +kernel)) ggL_isWell_X3_kite
set_option maxRecDepth 20000 in
theorem ggL_isWell_X3_count : GoodIn wsL_isWell wsX3_count := goodIn_r _ [37, 38, 39, 6, 40, 8, 41, 42, 43, 44, 45, 46, 47, 48, 49, 50, 12, 51, 52, 53, 54, 55, 56, 57, 58, 59, 60, 61, 62, 63, 64, 65, 66, 67, 68, 4, 69, 70, 71, 72, 73, 74, 75, 76, 77, 78, 14, 79, 80, 81, 82, 13, 83, 84, 85, 86, 87, 88, 89, 90, 91, 92, 93, 94, 148, 149, 150, 151, 152, 153, 154, 155, 156, 169, 170, 171, 172, 173, 174, 175, 176, 177, 178, 179, 180, 157, 158, 159, 160, 161, 162, 163, 164, 165, 166, 167, 168] (by decide +kernel) (by decide +kernel)
set_option maxRecDepth 20000 in
theorem gL_isWell_X3_count : GoodIn wsL_isWell (wsV RL 30 RX3 yX3_count wsX3_count) := goodIn_app (goodIn_of _ (by decide +kernel)) ggL_isWell_X3_count
set_option maxRecDepth 20000 in
theorem ggL_isWell_X3_string : GoodIn wsL_isWell wsX3_string := goodIn_r _ [98, 6, 99, 8, 100, 101, 17, 74, 102, 4, 103, 22, 23, 24, 25, 12, 13, 91, 92, 93, 94, 30, 31, 32, 33, 26, 27, 28, 29, 104, 105, 106, 107, 11, 148, 149, 150, 151, 152, 153, 154, 155, 156, 157, 158, 159, 160, 161, 162, 163, 164, 165, 166, 167, 168] (by decide +kernel) (by decide +kernel)
set_option maxRecDepth 20000 in
theorem gL_isWell_X3_string : GoodIn wsL_isWell (wsV RL 103 RX3 yX3_string wsX3_string) := goodIn_app (goodIn_of _ (by decide +kernel)) ggL_isWell_X3_string
set_option maxRecDepth 20000 in
theorem ggL_isWell_X3_share : GoodIn wsL_isWell wsX3_share := goodIn_r _ [111, 6, 112, 8, 113, 114, 12, 13, 18, 19, 20, 21, 91, 92, 93, 94, 148, 149, 150, 151, 152, 153, 154, 155, 156, 157, 158, 159, 160, 161, 162, 163, 164, 165, 166, 167, 168] (by decide +kernel) (by decide +kernel)
set_option maxRecDepth 20000 in
theorem gL_isWell_X3_share : GoodIn wsL_isWell (wsV RL 94 RX3 yX3_share wsX3_share) := goodIn_app (goodIn_of _ (by decide +kernel)) ggL_isWell_X3_share
set_option maxRecDepth 20000 in
theorem ggL_isWell_X3_ifRead : GoodIn wsL_isWell wsX3_ifRead := goodIn_r _ [118, 6, 119, 8, 120, 121, 12, 13, 44, 18, 19, 20, 21, 59, 60, 61, 62, 51, 52, 53, 54, 46, 55, 56, 57, 58, 63, 64, 65, 66, 67, 68, 4, 69, 122, 123, 124, 125, 126, 127, 128, 129, 130, 131, 132, 133, 134, 135, 136, 22, 23, 24, 25, 148, 149, 150, 151, 152, 153, 154, 155, 156, 157, 158, 159, 160, 161, 162, 163, 164, 165, 166, 167, 168] (by decide +kernel) (by decide +kernel)
set_option maxRecDepth 20000 in
theorem gL_isWell_X3_ifRead : GoodIn wsL_isWell (wsV RL 59 RX3 yX3_ifRead wsX3_ifRead) := goodIn_app (goodIn_of _ (by decide +kernel)) ggL_isWell_X3_ifRead
set_option maxRecDepth 20000 in
theorem ggL_isWell_X3_readsToCut : GoodIn wsL_isWell wsX3_readsToCut := goodIn_r _ [140, 6, 141, 8, 142, 143, 13, 12, 44, 18, 19, 20, 21, 59, 60, 61, 62, 51, 52, 53, 54, 46, 55, 56, 57, 58, 63, 64, 65, 66, 67, 68, 4, 69, 122, 123, 124, 125, 126, 127, 128, 129, 130, 131, 132, 133, 148, 149, 150, 151, 152, 153, 154, 155, 156, 157, 158, 159, 160, 161, 162, 163, 164, 165, 166, 167, 168] (by decide +kernel) (by decide +kernel)
set_option maxRecDepth 20000 in
theorem gL_isWell_X3_readsToCut : GoodIn wsL_isWell (wsV RL 97 RX3 yX3_readsToCut wsX3_readsToCut) := goodIn_app (goodIn_of _ (by decide +kernel)) ggL_isWell_X3_readsToCut
set_option maxRecDepth 20000 in
theorem ggL_isWell_X3_windOf : GoodIn wsL_isWell wsX3_windOf := goodIn_r _ [147, 6, 64, 8, 65, 66, 67, 68, 4, 69, 148, 149, 150, 151, 152, 153, 154, 155, 156, 157, 158, 159, 160, 161, 162, 163, 164, 165, 166, 167, 168] (by decide +kernel) (by decide +kernel)
set_option maxRecDepth 20000 in
theorem gL_isWell_X3_windOf : GoodIn wsL_isWell (wsV RL 85 RX3 yX3_windOf wsX3_windOf) := goodIn_app (goodIn_of _ (by decide +kernel)) ggL_isWell_X3_windOf
