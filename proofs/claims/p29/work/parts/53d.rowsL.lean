theorem dL_isWell_0 : decode cL_isWell 0 = .ok (.iconst 0, 1) := by decide +kernel
theorem dL_isWell_1 : decode cL_isWell 1 = .ok (.istore_n 1, 1) := by decide +kernel
theorem dL_isWell_2 : decode cL_isWell 2 = .ok (.iconst 0, 1) := by decide +kernel
theorem dL_isWell_3 : decode cL_isWell 3 = .ok (.istore_n 2, 1) := by decide +kernel
theorem dL_isWell_4 : decode cL_isWell 4 = .ok (.iconst 0, 1) := by decide +kernel
theorem dL_isWell_5 : decode cL_isWell 5 = .ok (.istore_n 3, 1) := by decide +kernel
theorem dL_isWell_6 : decode cL_isWell 6 = .ok (.iconst 0, 1) := by decide +kernel
theorem dL_isWell_7 : decode cL_isWell 7 = .ok (.istore 4, 2) := by decide +kernel
theorem dL_isWell_9 : decode cL_isWell 9 = .ok (.iconst 1, 1) := by decide +kernel
theorem dL_isWell_10 : decode cL_isWell 10 = .ok (.istore 5, 2) := by decide +kernel
theorem dL_isWell_12 : decode cL_isWell 12 = .ok (.iconst 0, 1) := by decide +kernel
theorem dL_isWell_13 : decode cL_isWell 13 = .ok (.istore 6, 2) := by decide +kernel
theorem dL_isWell_15 : decode cL_isWell 15 = .ok (.iload 6, 2) := by decide +kernel
theorem dL_isWell_17 : decode cL_isWell 17 = .ok (.bipush 12, 2) := by decide +kernel
theorem dL_isWell_19 : decode cL_isWell 19 = .ok (.if_icmp .ge 396, 3) := by decide +kernel
theorem dL_isWell_22 : decode cL_isWell 22 = .ok (.iload 5, 2) := by decide +kernel
theorem dL_isWell_24 : decode cL_isWell 24 = .ok (.ifCond .eq 391, 3) := by decide +kernel
theorem dL_isWell_27 : decode cL_isWell 27 = .ok (.aload_n 0, 1) := by decide +kernel
theorem dL_isWell_28 : decode cL_isWell 28 = .ok (.iload 6, 2) := by decide +kernel
theorem dL_isWell_30 : decode cL_isWell 30 = .ok (.iconst 0, 1) := by decide +kernel
theorem dL_isWell_31 : decode cL_isWell 31 = .ok (.invokevirtual 27, 3) := by decide +kernel
theorem dL_isWell_34 : decode cL_isWell 34 = .ok (.sipush (-10001), 3) := by decide +kernel
theorem dL_isWell_37 : decode cL_isWell 37 = .ok (.if_icmp .eq 372, 3) := by decide +kernel
theorem dL_isWell_40 : decode cL_isWell 40 = .ok (.aload_n 0, 1) := by decide +kernel
theorem dL_isWell_41 : decode cL_isWell 41 = .ok (.iload 6, 2) := by decide +kernel
theorem dL_isWell_43 : decode cL_isWell 43 = .ok (.iconst 1, 1) := by decide +kernel
theorem dL_isWell_44 : decode cL_isWell 44 = .ok (.invokevirtual 27, 3) := by decide +kernel
theorem dL_isWell_47 : decode cL_isWell 47 = .ok (.istore 7, 2) := by decide +kernel
theorem dL_isWell_49 : decode cL_isWell 49 = .ok (.aload_n 0, 1) := by decide +kernel
theorem dL_isWell_50 : decode cL_isWell 50 = .ok (.iload 6, 2) := by decide +kernel
theorem dL_isWell_52 : decode cL_isWell 52 = .ok (.iconst 2, 1) := by decide +kernel
theorem dL_isWell_53 : decode cL_isWell 53 = .ok (.invokevirtual 27, 3) := by decide +kernel
theorem dL_isWell_56 : decode cL_isWell 56 = .ok (.istore 8, 2) := by decide +kernel
theorem dL_isWell_58 : decode cL_isWell 58 = .ok (.aload_n 0, 1) := by decide +kernel
theorem dL_isWell_59 : decode cL_isWell 59 = .ok (.iload 6, 2) := by decide +kernel
theorem dL_isWell_61 : decode cL_isWell 61 = .ok (.bipush 7, 2) := by decide +kernel
theorem dL_isWell_63 : decode cL_isWell 63 = .ok (.invokevirtual 27, 3) := by decide +kernel
theorem dL_isWell_66 : decode cL_isWell 66 = .ok (.istore 9, 2) := by decide +kernel
theorem dL_isWell_68 : decode cL_isWell 68 = .ok (.aload_n 0, 1) := by decide +kernel
theorem dL_isWell_69 : decode cL_isWell 69 = .ok (.iload 6, 2) := by decide +kernel
theorem dL_isWell_71 : decode cL_isWell 71 = .ok (.bipush 8, 2) := by decide +kernel
theorem dL_isWell_73 : decode cL_isWell 73 = .ok (.invokevirtual 27, 3) := by decide +kernel
theorem dL_isWell_76 : decode cL_isWell 76 = .ok (.istore 10, 2) := by decide +kernel
theorem dL_isWell_78 : decode cL_isWell 78 = .ok (.iinc 1 1, 3) := by decide +kernel
theorem dL_isWell_81 : decode cL_isWell 81 = .ok (.iload_n 2, 1) := by decide +kernel
theorem dL_isWell_82 : decode cL_isWell 82 = .ok (.iload 8, 2) := by decide +kernel
theorem dL_isWell_84 : decode cL_isWell 84 = .ok (.iconst 1, 1) := by decide +kernel
theorem dL_isWell_85 : decode cL_isWell 85 = .ok (.iadd, 1) := by decide +kernel
theorem dL_isWell_86 : decode cL_isWell 86 = .ok (.iadd, 1) := by decide +kernel
theorem dL_isWell_87 : decode cL_isWell 87 = .ok (.istore_n 2, 1) := by decide +kernel
theorem dL_isWell_88 : decode cL_isWell 88 = .ok (.iload_n 3, 1) := by decide +kernel
theorem dL_isWell_89 : decode cL_isWell 89 = .ok (.aload_n 0, 1) := by decide +kernel
theorem dL_isWell_90 : decode cL_isWell 90 = .ok (.iload 6, 2) := by decide +kernel
theorem dL_isWell_92 : decode cL_isWell 92 = .ok (.iconst 3, 1) := by decide +kernel
theorem dL_isWell_93 : decode cL_isWell 93 = .ok (.invokevirtual 27, 3) := by decide +kernel
theorem dL_isWell_96 : decode cL_isWell 96 = .ok (.iadd, 1) := by decide +kernel
theorem dL_isWell_97 : decode cL_isWell 97 = .ok (.istore_n 3, 1) := by decide +kernel
theorem dL_isWell_98 : decode cL_isWell 98 = .ok (.iload 8, 2) := by decide +kernel
theorem dL_isWell_100 : decode cL_isWell 100 = .ok (.ifCond .lt 254, 3) := by decide +kernel
theorem dL_isWell_103 : decode cL_isWell 103 = .ok (.iload 8, 2) := by decide +kernel
theorem dL_isWell_105 : decode cL_isWell 105 = .ok (.aload_n 0, 1) := by decide +kernel
theorem dL_isWell_106 : decode cL_isWell 106 = .ok (.bipush 6, 2) := by decide +kernel
theorem dL_isWell_108 : decode cL_isWell 108 = .ok (.invokevirtual 30, 3) := by decide +kernel
theorem dL_isWell_111 : decode cL_isWell 111 = .ok (.if_icmp .gt 243, 3) := by decide +kernel
theorem dL_isWell_114 : decode cL_isWell 114 = .ok (.iload 9, 2) := by decide +kernel
theorem dL_isWell_116 : decode cL_isWell 116 = .ok (.sipush (-10005), 3) := by decide +kernel
theorem dL_isWell_119 : decode cL_isWell 119 = .ok (.if_icmp .ne 29, 3) := by decide +kernel
theorem dL_isWell_122 : decode cL_isWell 122 = .ok (.aload_n 0, 1) := by decide +kernel
theorem dL_isWell_123 : decode cL_isWell 123 = .ok (.iload 6, 2) := by decide +kernel
theorem dL_isWell_125 : decode cL_isWell 125 = .ok (.bipush 6, 2) := by decide +kernel
theorem dL_isWell_127 : decode cL_isWell 127 = .ok (.invokevirtual 27, 3) := by decide +kernel
theorem dL_isWell_130 : decode cL_isWell 130 = .ok (.ifCond .ne 224, 3) := by decide +kernel
theorem dL_isWell_133 : decode cL_isWell 133 = .ok (.aload_n 0, 1) := by decide +kernel
theorem dL_isWell_134 : decode cL_isWell 134 = .ok (.iload 7, 2) := by decide +kernel
theorem dL_isWell_136 : decode cL_isWell 136 = .ok (.iconst 2, 1) := by decide +kernel
theorem dL_isWell_137 : decode cL_isWell 137 = .ok (.invokevirtual 103, 3) := by decide +kernel
theorem dL_isWell_140 : decode cL_isWell 140 = .ok (.iload 6, 2) := by decide +kernel
theorem dL_isWell_142 : decode cL_isWell 142 = .ok (.if_icmp .ne 212, 3) := by decide +kernel
theorem dL_isWell_145 : decode cL_isWell 145 = .ok (.goto 61, 3) := by decide +kernel
theorem dL_isWell_148 : decode cL_isWell 148 = .ok (.aload_n 0, 1) := by decide +kernel
theorem dL_isWell_149 : decode cL_isWell 149 = .ok (.iload 9, 2) := by decide +kernel
theorem dL_isWell_151 : decode cL_isWell 151 = .ok (.bipush 8, 2) := by decide +kernel
theorem dL_isWell_153 : decode cL_isWell 153 = .ok (.invokevirtual 27, 3) := by decide +kernel
theorem dL_isWell_156 : decode cL_isWell 156 = .ok (.iload 6, 2) := by decide +kernel
theorem dL_isWell_158 : decode cL_isWell 158 = .ok (.if_icmp .ne 196, 3) := by decide +kernel
theorem dL_isWell_161 : decode cL_isWell 161 = .ok (.aload_n 0, 1) := by decide +kernel
theorem dL_isWell_162 : decode cL_isWell 162 = .ok (.iload 9, 2) := by decide +kernel
theorem dL_isWell_164 : decode cL_isWell 164 = .ok (.iconst 2, 1) := by decide +kernel
theorem dL_isWell_165 : decode cL_isWell 165 = .ok (.invokevirtual 27, 3) := by decide +kernel
theorem dL_isWell_168 : decode cL_isWell 168 = .ok (.iload 8, 2) := by decide +kernel
theorem dL_isWell_170 : decode cL_isWell 170 = .ok (.if_icmp .le 184, 3) := by decide +kernel
theorem dL_isWell_173 : decode cL_isWell 173 = .ok (.aload_n 0, 1) := by decide +kernel
theorem dL_isWell_174 : decode cL_isWell 174 = .ok (.iload 9, 2) := by decide +kernel
theorem dL_isWell_176 : decode cL_isWell 176 = .ok (.iconst 1, 1) := by decide +kernel
theorem dL_isWell_177 : decode cL_isWell 177 = .ok (.invokevirtual 27, 3) := by decide +kernel
theorem dL_isWell_180 : decode cL_isWell 180 = .ok (.iload 7, 2) := by decide +kernel
theorem dL_isWell_182 : decode cL_isWell 182 = .ok (.if_icmp .ne 172, 3) := by decide +kernel
theorem dL_isWell_185 : decode cL_isWell 185 = .ok (.aload_n 0, 1) := by decide +kernel
theorem dL_isWell_186 : decode cL_isWell 186 = .ok (.iload 9, 2) := by decide +kernel
theorem dL_isWell_188 : decode cL_isWell 188 = .ok (.bipush 6, 2) := by decide +kernel
theorem dL_isWell_190 : decode cL_isWell 190 = .ok (.invokevirtual 27, 3) := by decide +kernel
theorem dL_isWell_193 : decode cL_isWell 193 = .ok (.aload_n 0, 1) := by decide +kernel
theorem dL_isWell_194 : decode cL_isWell 194 = .ok (.iload 6, 2) := by decide +kernel
theorem dL_isWell_196 : decode cL_isWell 196 = .ok (.bipush 6, 2) := by decide +kernel
theorem dL_isWell_198 : decode cL_isWell 198 = .ok (.invokevirtual 27, 3) := by decide +kernel
theorem dL_isWell_201 : decode cL_isWell 201 = .ok (.iconst 1, 1) := by decide +kernel
theorem dL_isWell_202 : decode cL_isWell 202 = .ok (.isub, 1) := by decide +kernel
theorem dL_isWell_203 : decode cL_isWell 203 = .ok (.if_icmp .ne 151, 3) := by decide +kernel
theorem dL_isWell_206 : decode cL_isWell 206 = .ok (.iload 10, 2) := by decide +kernel
theorem dL_isWell_208 : decode cL_isWell 208 = .ok (.sipush (-10005), 3) := by decide +kernel
theorem dL_isWell_211 : decode cL_isWell 211 = .ok (.if_icmp .ne 38, 3) := by decide +kernel
theorem dL_isWell_214 : decode cL_isWell 214 = .ok (.aload_n 0, 1) := by decide +kernel
theorem dL_isWell_215 : decode cL_isWell 215 = .ok (.iload 7, 2) := by decide +kernel
theorem dL_isWell_217 : decode cL_isWell 217 = .ok (.iconst 3, 1) := by decide +kernel
theorem dL_isWell_218 : decode cL_isWell 218 = .ok (.invokevirtual 103, 3) := by decide +kernel
theorem dL_isWell_221 : decode cL_isWell 221 = .ok (.iload 6, 2) := by decide +kernel
theorem dL_isWell_223 : decode cL_isWell 223 = .ok (.if_icmp .ne 131, 3) := by decide +kernel
theorem dL_isWell_226 : decode cL_isWell 226 = .ok (.aload_n 0, 1) := by decide +kernel
theorem dL_isWell_227 : decode cL_isWell 227 = .ok (.iload 6, 2) := by decide +kernel
theorem dL_isWell_229 : decode cL_isWell 229 = .ok (.bipush 6, 2) := by decide +kernel
theorem dL_isWell_231 : decode cL_isWell 231 = .ok (.invokevirtual 27, 3) := by decide +kernel
theorem dL_isWell_234 : decode cL_isWell 234 = .ok (.aload_n 0, 1) := by decide +kernel
theorem dL_isWell_235 : decode cL_isWell 235 = .ok (.iload 7, 2) := by decide +kernel
theorem dL_isWell_237 : decode cL_isWell 237 = .ok (.iconst 0, 1) := by decide +kernel
theorem dL_isWell_238 : decode cL_isWell 238 = .ok (.invokevirtual 103, 3) := by decide +kernel
theorem dL_isWell_241 : decode cL_isWell 241 = .ok (.iconst 1, 1) := by decide +kernel
theorem dL_isWell_242 : decode cL_isWell 242 = .ok (.isub, 1) := by decide +kernel
theorem dL_isWell_243 : decode cL_isWell 243 = .ok (.if_icmp .ne 111, 3) := by decide +kernel
theorem dL_isWell_246 : decode cL_isWell 246 = .ok (.goto 28, 3) := by decide +kernel
theorem dL_isWell_249 : decode cL_isWell 249 = .ok (.aload_n 0, 1) := by decide +kernel
theorem dL_isWell_250 : decode cL_isWell 250 = .ok (.iload 10, 2) := by decide +kernel
theorem dL_isWell_252 : decode cL_isWell 252 = .ok (.bipush 7, 2) := by decide +kernel
theorem dL_isWell_254 : decode cL_isWell 254 = .ok (.invokevirtual 27, 3) := by decide +kernel
theorem dL_isWell_257 : decode cL_isWell 257 = .ok (.iload 6, 2) := by decide +kernel
theorem dL_isWell_259 : decode cL_isWell 259 = .ok (.if_icmp .ne 95, 3) := by decide +kernel
theorem dL_isWell_262 : decode cL_isWell 262 = .ok (.aload_n 0, 1) := by decide +kernel
theorem dL_isWell_263 : decode cL_isWell 263 = .ok (.iload 10, 2) := by decide +kernel
theorem dL_isWell_265 : decode cL_isWell 265 = .ok (.iconst 2, 1) := by decide +kernel
theorem dL_isWell_266 : decode cL_isWell 266 = .ok (.invokevirtual 27, 3) := by decide +kernel
theorem dL_isWell_269 : decode cL_isWell 269 = .ok (.iload 8, 2) := by decide +kernel
theorem dL_isWell_271 : decode cL_isWell 271 = .ok (.if_icmp .ge 83, 3) := by decide +kernel
theorem dL_isWell_274 : decode cL_isWell 274 = .ok (.aload_n 0, 1) := by decide +kernel
theorem dL_isWell_275 : decode cL_isWell 275 = .ok (.iload 6, 2) := by decide +kernel
theorem dL_isWell_277 : decode cL_isWell 277 = .ok (.invokevirtual 94, 3) := by decide +kernel
theorem dL_isWell_280 : decode cL_isWell 280 = .ok (.sipush 1000, 3) := by decide +kernel
theorem dL_isWell_283 : decode cL_isWell 283 = .ok (.iload 8, 2) := by decide +kernel
theorem dL_isWell_285 : decode cL_isWell 285 = .ok (.iconst 1, 1) := by decide +kernel
theorem dL_isWell_286 : decode cL_isWell 286 = .ok (.iadd, 1) := by decide +kernel
theorem dL_isWell_287 : decode cL_isWell 287 = .ok (.imul, 1) := by decide +kernel
theorem dL_isWell_288 : decode cL_isWell 288 = .ok (.aload_n 0, 1) := by decide +kernel
theorem dL_isWell_289 : decode cL_isWell 289 = .ok (.iload 7, 2) := by decide +kernel
theorem dL_isWell_291 : decode cL_isWell 291 = .ok (.iconst 1, 1) := by decide +kernel
theorem dL_isWell_292 : decode cL_isWell 292 = .ok (.invokevirtual 103, 3) := by decide +kernel
theorem dL_isWell_295 : decode cL_isWell 295 = .ok (.idiv, 1) := by decide +kernel
theorem dL_isWell_296 : decode cL_isWell 296 = .ok (.if_icmp .ne 58, 3) := by decide +kernel
theorem dL_isWell_299 : decode cL_isWell 299 = .ok (.aload_n 0, 1) := by decide +kernel
theorem dL_isWell_300 : decode cL_isWell 300 = .ok (.iload 6, 2) := by decide +kernel
theorem dL_isWell_302 : decode cL_isWell 302 = .ok (.iconst 2, 1) := by decide +kernel
theorem dL_isWell_303 : decode cL_isWell 303 = .ok (.invokevirtual 59, 3) := by decide +kernel
theorem dL_isWell_306 : decode cL_isWell 306 = .ok (.iconst 1, 1) := by decide +kernel
theorem dL_isWell_307 : decode cL_isWell 307 = .ok (.if_icmp .ne 7, 3) := by decide +kernel
theorem dL_isWell_310 : decode cL_isWell 310 = .ok (.iconst 1, 1) := by decide +kernel
theorem dL_isWell_311 : decode cL_isWell 311 = .ok (.goto 4, 3) := by decide +kernel
theorem dL_isWell_314 : decode cL_isWell 314 = .ok (.iconst 0, 1) := by decide +kernel
theorem dL_isWell_315 : decode cL_isWell 315 = .ok (.aload_n 0, 1) := by decide +kernel
theorem dL_isWell_316 : decode cL_isWell 316 = .ok (.iload 6, 2) := by decide +kernel
theorem dL_isWell_318 : decode cL_isWell 318 = .ok (.invokevirtual 97, 3) := by decide +kernel
theorem dL_isWell_321 : decode cL_isWell 321 = .ok (.iconst 1, 1) := by decide +kernel
theorem dL_isWell_322 : decode cL_isWell 322 = .ok (.if_icmp .ne 7, 3) := by decide +kernel
theorem dL_isWell_325 : decode cL_isWell 325 = .ok (.iconst 1, 1) := by decide +kernel
theorem dL_isWell_326 : decode cL_isWell 326 = .ok (.goto 4, 3) := by decide +kernel
theorem dL_isWell_329 : decode cL_isWell 329 = .ok (.iconst 0, 1) := by decide +kernel
theorem dL_isWell_330 : decode cL_isWell 330 = .ok (.if_icmp .ne 24, 3) := by decide +kernel
theorem dL_isWell_333 : decode cL_isWell 333 = .ok (.aload_n 0, 1) := by decide +kernel
theorem dL_isWell_334 : decode cL_isWell 334 = .ok (.iload 6, 2) := by decide +kernel
theorem dL_isWell_336 : decode cL_isWell 336 = .ok (.iconst 5, 1) := by decide +kernel
theorem dL_isWell_337 : decode cL_isWell 337 = .ok (.invokevirtual 27, 3) := by decide +kernel
theorem dL_isWell_340 : decode cL_isWell 340 = .ok (.aload_n 0, 1) := by decide +kernel
theorem dL_isWell_341 : decode cL_isWell 341 = .ok (.iload 6, 2) := by decide +kernel
theorem dL_isWell_343 : decode cL_isWell 343 = .ok (.iconst 4, 1) := by decide +kernel
theorem dL_isWell_344 : decode cL_isWell 344 = .ok (.invokevirtual 27, 3) := by decide +kernel
theorem dL_isWell_347 : decode cL_isWell 347 = .ok (.if_icmp .gt 7, 3) := by decide +kernel
theorem dL_isWell_350 : decode cL_isWell 350 = .ok (.iconst 1, 1) := by decide +kernel
theorem dL_isWell_351 : decode cL_isWell 351 = .ok (.goto 4, 3) := by decide +kernel
theorem dL_isWell_354 : decode cL_isWell 354 = .ok (.iconst 0, 1) := by decide +kernel
theorem dL_isWell_355 : decode cL_isWell 355 = .ok (.istore 5, 2) := by decide +kernel
theorem dL_isWell_357 : decode cL_isWell 357 = .ok (.iconst 0, 1) := by decide +kernel
theorem dL_isWell_358 : decode cL_isWell 358 = .ok (.istore 11, 2) := by decide +kernel
theorem dL_isWell_360 : decode cL_isWell 360 = .ok (.iload 11, 2) := by decide +kernel
theorem dL_isWell_362 : decode cL_isWell 362 = .ok (.iload 6, 2) := by decide +kernel
theorem dL_isWell_364 : decode cL_isWell 364 = .ok (.if_icmp .ge 45, 3) := by decide +kernel
theorem dL_isWell_367 : decode cL_isWell 367 = .ok (.iload 5, 2) := by decide +kernel
theorem dL_isWell_369 : decode cL_isWell 369 = .ok (.ifCond .eq 31, 3) := by decide +kernel
theorem dL_isWell_372 : decode cL_isWell 372 = .ok (.aload_n 0, 1) := by decide +kernel
theorem dL_isWell_373 : decode cL_isWell 373 = .ok (.iload 11, 2) := by decide +kernel
theorem dL_isWell_375 : decode cL_isWell 375 = .ok (.iconst 1, 1) := by decide +kernel
theorem dL_isWell_376 : decode cL_isWell 376 = .ok (.invokevirtual 27, 3) := by decide +kernel
theorem dL_isWell_379 : decode cL_isWell 379 = .ok (.iload 7, 2) := by decide +kernel
theorem dL_isWell_381 : decode cL_isWell 381 = .ok (.if_icmp .ne 15, 3) := by decide +kernel
theorem dL_isWell_384 : decode cL_isWell 384 = .ok (.aload_n 0, 1) := by decide +kernel
theorem dL_isWell_385 : decode cL_isWell 385 = .ok (.iload 11, 2) := by decide +kernel
theorem dL_isWell_387 : decode cL_isWell 387 = .ok (.iconst 2, 1) := by decide +kernel
theorem dL_isWell_388 : decode cL_isWell 388 = .ok (.invokevirtual 27, 3) := by decide +kernel
theorem dL_isWell_391 : decode cL_isWell 391 = .ok (.iload 8, 2) := by decide +kernel
theorem dL_isWell_393 : decode cL_isWell 393 = .ok (.if_icmp .eq 7, 3) := by decide +kernel
theorem dL_isWell_396 : decode cL_isWell 396 = .ok (.iconst 1, 1) := by decide +kernel
theorem dL_isWell_397 : decode cL_isWell 397 = .ok (.goto 4, 3) := by decide +kernel
theorem dL_isWell_400 : decode cL_isWell 400 = .ok (.iconst 0, 1) := by decide +kernel
theorem dL_isWell_401 : decode cL_isWell 401 = .ok (.istore 5, 2) := by decide +kernel
theorem dL_isWell_403 : decode cL_isWell 403 = .ok (.iinc 11 1, 3) := by decide +kernel
theorem dL_isWell_406 : decode cL_isWell 406 = .ok (.goto (-46), 3) := by decide +kernel
theorem dL_isWell_409 : decode cL_isWell 409 = .ok (.iinc 6 1, 3) := by decide +kernel
theorem dL_isWell_412 : decode cL_isWell 412 = .ok (.goto (-397), 3) := by decide +kernel
theorem dL_isWell_415 : decode cL_isWell 415 = .ok (.iconst 0, 1) := by decide +kernel
theorem dL_isWell_416 : decode cL_isWell 416 = .ok (.istore 6, 2) := by decide +kernel
theorem dL_isWell_418 : decode cL_isWell 418 = .ok (.iconst 0, 1) := by decide +kernel
theorem dL_isWell_419 : decode cL_isWell 419 = .ok (.istore 7, 2) := by decide +kernel
theorem dL_isWell_421 : decode cL_isWell 421 = .ok (.iconst 0, 1) := by decide +kernel
theorem dL_isWell_422 : decode cL_isWell 422 = .ok (.istore 8, 2) := by decide +kernel
theorem dL_isWell_424 : decode cL_isWell 424 = .ok (.iload 8, 2) := by decide +kernel
theorem dL_isWell_426 : decode cL_isWell 426 = .ok (.iconst 4, 1) := by decide +kernel
theorem dL_isWell_427 : decode cL_isWell 427 = .ok (.if_icmp .ge 45, 3) := by decide +kernel
theorem dL_isWell_430 : decode cL_isWell 430 = .ok (.iload 6, 2) := by decide +kernel
theorem dL_isWell_432 : decode cL_isWell 432 = .ok (.aload_n 0, 1) := by decide +kernel
theorem dL_isWell_433 : decode cL_isWell 433 = .ok (.iload 8, 2) := by decide +kernel
theorem dL_isWell_435 : decode cL_isWell 435 = .ok (.iconst 0, 1) := by decide +kernel
theorem dL_isWell_436 : decode cL_isWell 436 = .ok (.invokevirtual 103, 3) := by decide +kernel
theorem dL_isWell_439 : decode cL_isWell 439 = .ok (.iadd, 1) := by decide +kernel
theorem dL_isWell_440 : decode cL_isWell 440 = .ok (.istore 6, 2) := by decide +kernel
theorem dL_isWell_442 : decode cL_isWell 442 = .ok (.iload 7, 2) := by decide +kernel
theorem dL_isWell_444 : decode cL_isWell 444 = .ok (.aload_n 0, 1) := by decide +kernel
theorem dL_isWell_445 : decode cL_isWell 445 = .ok (.iload 8, 2) := by decide +kernel
theorem dL_isWell_447 : decode cL_isWell 447 = .ok (.iconst 1, 1) := by decide +kernel
theorem dL_isWell_448 : decode cL_isWell 448 = .ok (.invokevirtual 103, 3) := by decide +kernel
theorem dL_isWell_451 : decode cL_isWell 451 = .ok (.iadd, 1) := by decide +kernel
theorem dL_isWell_452 : decode cL_isWell 452 = .ok (.istore 7, 2) := by decide +kernel
theorem dL_isWell_454 : decode cL_isWell 454 = .ok (.iload 4, 2) := by decide +kernel
theorem dL_isWell_456 : decode cL_isWell 456 = .ok (.aload_n 0, 1) := by decide +kernel
theorem dL_isWell_457 : decode cL_isWell 457 = .ok (.iload 8, 2) := by decide +kernel
theorem dL_isWell_459 : decode cL_isWell 459 = .ok (.iconst 5, 1) := by decide +kernel
theorem dL_isWell_460 : decode cL_isWell 460 = .ok (.invokevirtual 103, 3) := by decide +kernel
theorem dL_isWell_463 : decode cL_isWell 463 = .ok (.iadd, 1) := by decide +kernel
theorem dL_isWell_464 : decode cL_isWell 464 = .ok (.istore 4, 2) := by decide +kernel
theorem dL_isWell_466 : decode cL_isWell 466 = .ok (.iinc 8 1, 3) := by decide +kernel
theorem dL_isWell_469 : decode cL_isWell 469 = .ok (.goto (-45), 3) := by decide +kernel
theorem dL_isWell_472 : decode cL_isWell 472 = .ok (.iload 5, 2) := by decide +kernel
theorem dL_isWell_474 : decode cL_isWell 474 = .ok (.ifCond .eq 104, 3) := by decide +kernel
theorem dL_isWell_477 : decode cL_isWell 477 = .ok (.iload_n 1, 1) := by decide +kernel
theorem dL_isWell_478 : decode cL_isWell 478 = .ok (.aload_n 0, 1) := by decide +kernel
theorem dL_isWell_479 : decode cL_isWell 479 = .ok (.iconst 0, 1) := by decide +kernel
theorem dL_isWell_480 : decode cL_isWell 480 = .ok (.invokevirtual 30, 3) := by decide +kernel
theorem dL_isWell_483 : decode cL_isWell 483 = .ok (.if_icmp .ne 95, 3) := by decide +kernel
theorem dL_isWell_486 : decode cL_isWell 486 = .ok (.iload 6, 2) := by decide +kernel
theorem dL_isWell_488 : decode cL_isWell 488 = .ok (.iload_n 1, 1) := by decide +kernel
theorem dL_isWell_489 : decode cL_isWell 489 = .ok (.if_icmp .ne 89, 3) := by decide +kernel
theorem dL_isWell_492 : decode cL_isWell 492 = .ok (.iload 7, 2) := by decide +kernel
theorem dL_isWell_494 : decode cL_isWell 494 = .ok (.iload_n 2, 1) := by decide +kernel
theorem dL_isWell_495 : decode cL_isWell 495 = .ok (.if_icmp .ne 83, 3) := by decide +kernel
theorem dL_isWell_498 : decode cL_isWell 498 = .ok (.iload_n 2, 1) := by decide +kernel
theorem dL_isWell_499 : decode cL_isWell 499 = .ok (.aload_n 0, 1) := by decide +kernel
theorem dL_isWell_500 : decode cL_isWell 500 = .ok (.bipush 7, 2) := by decide +kernel
theorem dL_isWell_502 : decode cL_isWell 502 = .ok (.invokevirtual 30, 3) := by decide +kernel
theorem dL_isWell_505 : decode cL_isWell 505 = .ok (.if_icmp .ne 73, 3) := by decide +kernel
theorem dL_isWell_508 : decode cL_isWell 508 = .ok (.iload_n 3, 1) := by decide +kernel
theorem dL_isWell_509 : decode cL_isWell 509 = .ok (.aload_n 0, 1) := by decide +kernel
theorem dL_isWell_510 : decode cL_isWell 510 = .ok (.iconst 5, 1) := by decide +kernel
theorem dL_isWell_511 : decode cL_isWell 511 = .ok (.invokevirtual 30, 3) := by decide +kernel
theorem dL_isWell_514 : decode cL_isWell 514 = .ok (.if_icmp .ne 64, 3) := by decide +kernel
theorem dL_isWell_517 : decode cL_isWell 517 = .ok (.iload 4, 2) := by decide +kernel
theorem dL_isWell_519 : decode cL_isWell 519 = .ok (.aload_n 0, 1) := by decide +kernel
theorem dL_isWell_520 : decode cL_isWell 520 = .ok (.iconst 4, 1) := by decide +kernel
theorem dL_isWell_521 : decode cL_isWell 521 = .ok (.invokevirtual 30, 3) := by decide +kernel
theorem dL_isWell_524 : decode cL_isWell 524 = .ok (.if_icmp .ne 54, 3) := by decide +kernel
theorem dL_isWell_527 : decode cL_isWell 527 = .ok (.aload_n 0, 1) := by decide +kernel
theorem dL_isWell_528 : decode cL_isWell 528 = .ok (.iconst 4, 1) := by decide +kernel
theorem dL_isWell_529 : decode cL_isWell 529 = .ok (.invokevirtual 30, 3) := by decide +kernel
theorem dL_isWell_532 : decode cL_isWell 532 = .ok (.aload_n 0, 1) := by decide +kernel
theorem dL_isWell_533 : decode cL_isWell 533 = .ok (.iconst 3, 1) := by decide +kernel
theorem dL_isWell_534 : decode cL_isWell 534 = .ok (.invokevirtual 30, 3) := by decide +kernel
theorem dL_isWell_537 : decode cL_isWell 537 = .ok (.if_icmp .gt 41, 3) := by decide +kernel
theorem dL_isWell_540 : decode cL_isWell 540 = .ok (.aload_n 0, 1) := by decide +kernel
theorem dL_isWell_541 : decode cL_isWell 541 = .ok (.bipush 10, 2) := by decide +kernel
theorem dL_isWell_543 : decode cL_isWell 543 = .ok (.invokevirtual 30, 3) := by decide +kernel
theorem dL_isWell_546 : decode cL_isWell 546 = .ok (.bipush 8, 2) := by decide +kernel
theorem dL_isWell_548 : decode cL_isWell 548 = .ok (.irem, 1) := by decide +kernel
theorem dL_isWell_549 : decode cL_isWell 549 = .ok (.aload_n 0, 1) := by decide +kernel
theorem dL_isWell_550 : decode cL_isWell 550 = .ok (.iconst 1, 1) := by decide +kernel
theorem dL_isWell_551 : decode cL_isWell 551 = .ok (.invokevirtual 30, 3) := by decide +kernel
theorem dL_isWell_554 : decode cL_isWell 554 = .ok (.if_icmp .ne 24, 3) := by decide +kernel
theorem dL_isWell_557 : decode cL_isWell 557 = .ok (.aload_n 0, 1) := by decide +kernel
theorem dL_isWell_558 : decode cL_isWell 558 = .ok (.aload_n 0, 1) := by decide +kernel
theorem dL_isWell_559 : decode cL_isWell 559 = .ok (.iconst 1, 1) := by decide +kernel
theorem dL_isWell_560 : decode cL_isWell 560 = .ok (.invokevirtual 30, 3) := by decide +kernel
theorem dL_isWell_563 : decode cL_isWell 563 = .ok (.invokevirtual 85, 3) := by decide +kernel
theorem dL_isWell_566 : decode cL_isWell 566 = .ok (.aload_n 0, 1) := by decide +kernel
theorem dL_isWell_567 : decode cL_isWell 567 = .ok (.iconst 2, 1) := by decide +kernel
theorem dL_isWell_568 : decode cL_isWell 568 = .ok (.invokevirtual 30, 3) := by decide +kernel
theorem dL_isWell_571 : decode cL_isWell 571 = .ok (.if_icmp .ne 7, 3) := by decide +kernel
theorem dL_isWell_574 : decode cL_isWell 574 = .ok (.iconst 1, 1) := by decide +kernel
theorem dL_isWell_575 : decode cL_isWell 575 = .ok (.goto 4, 3) := by decide +kernel
theorem dL_isWell_578 : decode cL_isWell 578 = .ok (.iconst 0, 1) := by decide +kernel
theorem dL_isWell_579 : decode cL_isWell 579 = .ok (.ireturn, 1) := by decide +kernel
set_option maxRecDepth 20000 in
theorem ggL_law_X3_init : GoodIn wsL_law wsX3_init := goodIn_r _ [5, 6, 7, 8, 9, 10, 11, 12, 13, 14, 15, 16, 17, 18, 19, 20, 21, 22, 23, 24, 25, 26, 27, 28, 29, 30, 31, 32, 33, 34, 35, 36, 37, 38, 39, 40, 41, 42, 43, 44, 45, 46, 47, 48, 49, 50, 51, 52, 53, 54, 55, 56, 57, 58, 59, 60, 61, 62, 63, 494, 495, 496, 497, 498, 499, 500, 501, 502, 503, 504, 505, 485, 486, 487, 488, 489, 490, 491, 492, 493, 506, 507, 508, 509, 510, 511, 512, 513, 514, 515, 516, 517] (by decide +kernel) (by decide +kernel)
set_option maxRecDepth 20000 in
theorem gL_law_X3_init : GoodIn wsL_law (wsX3_init) := ggL_law_X3_init
set_option maxRecDepth 20000 in
theorem ggL_law_L_cell : GoodIn wsL_law wsL_cell := goodIn_r _ [67, 68] (by decide +kernel) (by decide +kernel)
set_option maxRecDepth 20000 in
theorem gL_law_L_cell : GoodIn wsL_law (va_wsS RL 110 yL_cell wsL_cell) := goodIn_app (goodIn_of _ (by decide +kernel)) ggL_law_L_cell
theorem goodIn_c {big ws : List Cond} {w0 : Cond} (h0 : w0 ∈ big) (hg : goodWord w0 = true) (hT : GoodIn big ws) : GoodIn big (w0 :: ws) := by
  intro w hw
  rcases List.mem_cons.mp hw with rfl | h
  · exact ⟨h0, good_of_word hg⟩
  · exact hT w h
set_option maxRecDepth 100000 in
theorem ggL_law_L_isStep : GoodIn wsL_law wsL_isStep := goodIn_c (List.mem_of_getElem? (i := 71) rfl) (by decide +kernel) (goodIn_r _ [72, 73, 74, 75, 76, 77, 78, 66, 79, 80, 81, 82, 83, 2, 84, 12, 85, 11, 86, 87, 31, 32, 33, 35, 36, 37, 88, 89, 90, 91, 92, 93, 94, 95, 96, 97, 98, 99, 100, 101, 102, 103, 104, 105, 106, 107, 108, 20, 24, 109, 110, 111, 41, 42, 43, 40, 112, 113, 114, 115, 116, 117, 118, 119, 120, 121, 122, 123, 124, 125, 126, 127, 128, 129, 130, 131, 38, 132, 133, 134, 135, 136, 137, 39, 138, 139, 140, 141, 142, 143, 144, 145, 146, 147, 148, 149, 150, 151, 152, 153, 154, 155, 156, 157, 158, 159, 160, 161, 13, 162, 163, 164, 165, 166, 167, 168, 169, 170, 171, 172, 173, 174, 175, 176, 177, 178, 179, 180, 181, 182, 183, 184, 185, 186, 187, 19, 188, 189, 49, 50, 190, 191, 192, 193, 194, 195, 196, 48, 197, 198, 199, 200, 201, 202, 203, 204, 205, 23, 206, 207, 56, 208, 209, 210, 211, 212, 213, 214, 55, 215, 216, 217, 218, 219, 220, 221, 222, 223, 224, 25, 26, 225, 226, 227, 61, 60, 228, 229, 230, 231, 57, 62, 58, 63, 59, 232, 233, 234, 235, 236, 237, 238, 239, 240, 241, 242, 243, 244, 245, 246, 247, 248, 249, 250, 251, 252, 253, 254, 255, 256, 257, 258, 259, 260, 261, 262, 263, 264, 265, 266, 267, 268, 269, 270, 271, 272, 273, 274, 275, 276, 277, 278, 279, 280, 281, 282, 283, 284, 285, 286, 287, 288, 289, 290, 291, 292, 293, 294, 295, 296, 297, 298, 299, 300, 301, 302, 303, 304, 305, 306, 307, 308, 309, 310, 311, 312, 313, 314, 315, 316, 317, 318, 319, 320, 321, 322, 323, 324, 325, 326, 327, 328, 329, 330, 331, 332, 333, 334, 335, 336, 337, 338, 339, 340, 341, 342, 343, 344, 345, 346, 347, 348, 349, 350, 351, 352, 353, 354, 355, 356, 357, 358, 359, 360, 361, 362, 363, 364, 365, 366, 367, 368, 369, 370, 371, 372, 373, 374, 375, 376, 377, 378, 379, 380, 381, 382, 383, 384, 385, 386, 387, 388, 389, 390, 391, 392, 393, 394, 395, 396, 397, 398, 399, 400, 401, 402, 403, 404, 405, 406, 407, 408, 409, 410, 411, 412, 413, 414, 415, 416, 417, 418, 419, 420, 421, 422, 423, 424, 425, 426, 427, 428, 485, 486, 487, 488, 489, 490, 491, 492, 493, 494, 495, 496, 497, 498, 499, 500, 501, 502, 503, 504, 505, 506, 507, 508, 509, 510, 511, 512, 513, 514, 515, 516, 517] (by decide +kernel) (by decide +kernel))
set_option maxRecDepth 20000 in
theorem gL_law_L_isStep : GoodIn wsL_law (va_wsS RL 114 yL_isStep wsL_isStep) := goodIn_app (goodIn_of _ (by decide +kernel)) ggL_law_L_isStep
set_option maxRecDepth 100000 in
theorem ggL_law_L_isWell : GoodIn wsL_law wsL_isWell := goodIn_c (List.mem_of_getElem? (i := 431) rfl) (by decide +kernel) (goodIn_r _ [81, 82, 83, 2, 84, 12, 85, 11, 86, 87, 31, 32, 33, 35, 36, 37, 88, 89, 90, 91, 92, 93, 94, 95, 96, 97, 98, 99, 100, 101, 102, 103, 104, 105, 106, 107, 108, 20, 24, 109, 110, 111, 41, 42, 43, 40, 112, 113, 114, 115, 116, 117, 118, 119, 120, 121, 122, 123, 124, 125, 126, 127, 128, 129, 130, 131, 38, 132, 133, 134, 135, 136, 137, 39, 138, 139, 140, 141, 142, 143, 144, 145, 146, 147, 148, 149, 150, 151, 152, 153, 154, 155, 156, 157, 432, 433, 434, 435, 436, 437, 438, 168, 169, 439, 440, 441, 442, 443, 444, 445, 446, 447, 448, 449, 380, 381, 382, 383, 384, 385, 386, 338, 339, 340, 341, 172, 173, 174, 175, 176, 177, 178, 179, 346, 347, 348, 450, 451, 452, 453, 454, 455, 456, 410, 411, 412, 413, 485, 486, 487, 488, 489, 490, 491, 492, 493, 494, 495, 496, 497, 498, 499, 500, 501, 502, 503, 504, 505, 506, 507, 508, 509, 510, 511, 512, 513, 514, 515, 516, 517] (by decide +kernel) (by decide +kernel))
set_option maxRecDepth 20000 in
theorem gL_law_L_isWell : GoodIn wsL_law (va_wsS RL 118 yL_isWell wsL_isWell) := goodIn_app (goodIn_of _ (by decide +kernel)) ggL_law_L_isWell
set_option maxRecDepth 100000 in
theorem ggL_law_L_areAlike : GoodIn wsL_law wsL_areAlike := goodIn_c (List.mem_of_getElem? (i := 459) rfl) (by decide +kernel) (goodIn_r _ [460, 461, 462, 2, 463, 12, 464, 11, 465, 466, 467, 468, 469, 470, 32, 33, 42, 338, 339, 340, 341, 172, 173, 174, 175, 176, 177, 178, 179, 105, 106, 107, 108, 20, 24, 109, 110, 111, 41, 43, 40, 112, 113, 114, 115, 116, 117, 118, 119, 120, 121, 122, 123, 124, 125, 126, 127, 128, 129, 130, 131, 38, 132, 133, 134, 135, 136, 137, 39, 138, 139, 140, 141, 35, 142, 143, 144, 145, 146, 147, 148, 149, 150, 151, 152, 153, 154, 155, 156, 157, 81, 82, 83, 84, 85, 86, 87, 31, 36, 37, 88, 89, 90, 91, 92, 93, 94, 95, 96, 97, 98, 99, 100, 101, 102, 103, 104, 215, 216, 66, 217, 380, 381, 382, 383, 384, 385, 386, 346, 347, 348, 443, 444, 445, 446, 447, 448, 449, 450, 451, 452, 453, 454, 455, 456, 77, 78, 79, 80, 471, 472, 473, 474, 14, 162, 163, 164, 475, 476, 477, 357, 358, 359, 360, 361, 362, 363, 364, 432, 433, 434, 435, 436, 437, 438, 168, 169, 439, 440, 441, 442, 478, 479, 480, 481, 482, 483, 484, 485, 486, 487, 488, 489, 490, 491, 492, 493, 494, 495, 496, 497, 498, 499, 500, 501, 502, 503, 504, 505, 506, 507, 508, 509, 510, 511, 512, 513, 514, 515, 516, 517] (by decide +kernel) (by decide +kernel))
set_option maxRecDepth 20000 in
theorem gL_law_L_areAlike : GoodIn wsL_law (va_wsS RL 122 yL_areAlike wsL_areAlike) := goodIn_app (goodIn_of _ (by decide +kernel)) ggL_law_L_areAlike
