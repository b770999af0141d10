theorem dX7_sentence_2 : decode cX7_sentence 2 = .ok (.putfield 120, 3) := by decide +kernel
theorem dX7_sentence_5 : decode cX7_sentence 5 = .ok (.aload_n 0, 1) := by decide +kernel
theorem dX7_sentence_6 : decode cX7_sentence 6 = .ok (.iconst 0, 1) := by decide +kernel
theorem dX7_sentence_7 : decode cX7_sentence 7 = .ok (.invokevirtual 135, 3) := by decide +kernel
theorem dX7_sentence_10 : decode cX7_sentence 10 = .ok (.ifCond .ne 5, 3) := by decide +kernel
theorem dX7_sentence_13 : decode cX7_sentence 13 = .ok (.iconst 0, 1) := by decide +kernel
theorem dX7_sentence_14 : decode cX7_sentence 14 = .ok (.ireturn, 1) := by decide +kernel
theorem dX7_sentence_15 : decode cX7_sentence 15 = .ok (.aload_n 0, 1) := by decide +kernel
theorem dX7_sentence_16 : decode cX7_sentence 16 = .ok (.ldc 139, 2) := by decide +kernel
theorem dX7_sentence_18 : decode cX7_sentence 18 = .ok (.invokevirtual 141, 3) := by decide +kernel
theorem dX7_sentence_21 : decode cX7_sentence 21 = .ok (.ifCond .eq 54, 3) := by decide +kernel
theorem dX7_sentence_24 : decode cX7_sentence 24 = .ok (.aload_n 0, 1) := by decide +kernel
theorem dX7_sentence_25 : decode cX7_sentence 25 = .ok (.iconst 4, 1) := by decide +kernel
theorem dX7_sentence_26 : decode cX7_sentence 26 = .ok (.putfield 144, 3) := by decide +kernel
theorem dX7_sentence_29 : decode cX7_sentence 29 = .ok (.aload_n 0, 1) := by decide +kernel
theorem dX7_sentence_30 : decode cX7_sentence 30 = .ok (.iconst 1, 1) := by decide +kernel
theorem dX7_sentence_31 : decode cX7_sentence 31 = .ok (.invokevirtual 135, 3) := by decide +kernel
theorem dX7_sentence_34 : decode cX7_sentence 34 = .ok (.ifCond .eq 39, 3) := by decide +kernel
theorem dX7_sentence_37 : decode cX7_sentence 37 = .ok (.aload_n 0, 1) := by decide +kernel
theorem dX7_sentence_38 : decode cX7_sentence 38 = .ok (.ldc 147, 2) := by decide +kernel
theorem dX7_sentence_40 : decode cX7_sentence 40 = .ok (.invokevirtual 141, 3) := by decide +kernel
theorem dX7_sentence_43 : decode cX7_sentence 43 = .ok (.ifCond .eq 30, 3) := by decide +kernel
theorem dX7_sentence_46 : decode cX7_sentence 46 = .ok (.aload_n 0, 1) := by decide +kernel
theorem dX7_sentence_47 : decode cX7_sentence 47 = .ok (.invokevirtual 149, 3) := by decide +kernel
theorem dX7_sentence_50 : decode cX7_sentence 50 = .ok (.ifCond .eq 23, 3) := by decide +kernel
theorem dX7_sentence_53 : decode cX7_sentence 53 = .ok (.aload_n 0, 1) := by decide +kernel
theorem dX7_sentence_54 : decode cX7_sentence 54 = .ok (.invokevirtual 153, 3) := by decide +kernel
theorem dX7_sentence_57 : decode cX7_sentence 57 = .ok (.ifCond .eq 16, 3) := by decide +kernel
theorem dX7_sentence_60 : decode cX7_sentence 60 = .ok (.aload_n 0, 1) := by decide +kernel
theorem dX7_sentence_61 : decode cX7_sentence 61 = .ok (.ldc 156, 2) := by decide +kernel
theorem dX7_sentence_63 : decode cX7_sentence 63 = .ok (.invokevirtual 141, 3) := by decide +kernel
theorem dX7_sentence_66 : decode cX7_sentence 66 = .ok (.ifCond .eq 7, 3) := by decide +kernel
theorem dX7_sentence_69 : decode cX7_sentence 69 = .ok (.iconst 1, 1) := by decide +kernel
theorem dX7_sentence_70 : decode cX7_sentence 70 = .ok (.goto 4, 3) := by decide +kernel
theorem dX7_sentence_73 : decode cX7_sentence 73 = .ok (.iconst 0, 1) := by decide +kernel
theorem dX7_sentence_74 : decode cX7_sentence 74 = .ok (.ireturn, 1) := by decide +kernel
theorem dX7_sentence_75 : decode cX7_sentence 75 = .ok (.aload_n 0, 1) := by decide +kernel
theorem dX7_sentence_76 : decode cX7_sentence 76 = .ok (.ldc 158, 2) := by decide +kernel
theorem dX7_sentence_78 : decode cX7_sentence 78 = .ok (.invokevirtual 141, 3) := by decide +kernel
theorem dX7_sentence_81 : decode cX7_sentence 81 = .ok (.ifCond .eq 54, 3) := by decide +kernel
theorem dX7_sentence_84 : decode cX7_sentence 84 = .ok (.aload_n 0, 1) := by decide +kernel
theorem dX7_sentence_85 : decode cX7_sentence 85 = .ok (.iconst 5, 1) := by decide +kernel
theorem dX7_sentence_86 : decode cX7_sentence 86 = .ok (.putfield 144, 3) := by decide +kernel
theorem dX7_sentence_89 : decode cX7_sentence 89 = .ok (.aload_n 0, 1) := by decide +kernel
theorem dX7_sentence_90 : decode cX7_sentence 90 = .ok (.invokevirtual 149, 3) := by decide +kernel
theorem dX7_sentence_93 : decode cX7_sentence 93 = .ok (.ifCond .eq 40, 3) := by decide +kernel
theorem dX7_sentence_96 : decode cX7_sentence 96 = .ok (.aload_n 0, 1) := by decide +kernel
theorem dX7_sentence_97 : decode cX7_sentence 97 = .ok (.invokevirtual 153, 3) := by decide +kernel
theorem dX7_sentence_100 : decode cX7_sentence 100 = .ok (.ifCond .eq 33, 3) := by decide +kernel
theorem dX7_sentence_103 : decode cX7_sentence 103 = .ok (.aload_n 0, 1) := by decide +kernel
theorem dX7_sentence_104 : decode cX7_sentence 104 = .ok (.ldc 160, 2) := by decide +kernel
theorem dX7_sentence_106 : decode cX7_sentence 106 = .ok (.invokevirtual 141, 3) := by decide +kernel
theorem dX7_sentence_109 : decode cX7_sentence 109 = .ok (.ifCond .eq 24, 3) := by decide +kernel
theorem dX7_sentence_112 : decode cX7_sentence 112 = .ok (.aload_n 0, 1) := by decide +kernel
theorem dX7_sentence_113 : decode cX7_sentence 113 = .ok (.iconst 1, 1) := by decide +kernel
theorem dX7_sentence_114 : decode cX7_sentence 114 = .ok (.invokevirtual 135, 3) := by decide +kernel
theorem dX7_sentence_117 : decode cX7_sentence 117 = .ok (.ifCond .eq 16, 3) := by decide +kernel
theorem dX7_sentence_120 : decode cX7_sentence 120 = .ok (.aload_n 0, 1) := by decide +kernel
theorem dX7_sentence_121 : decode cX7_sentence 121 = .ok (.ldc 156, 2) := by decide +kernel
theorem dX7_sentence_123 : decode cX7_sentence 123 = .ok (.invokevirtual 141, 3) := by decide +kernel
theorem dX7_sentence_126 : decode cX7_sentence 126 = .ok (.ifCond .eq 7, 3) := by decide +kernel
theorem dX7_sentence_129 : decode cX7_sentence 129 = .ok (.iconst 1, 1) := by decide +kernel
theorem dX7_sentence_130 : decode cX7_sentence 130 = .ok (.goto 4, 3) := by decide +kernel
theorem dX7_sentence_133 : decode cX7_sentence 133 = .ok (.iconst 0, 1) := by decide +kernel
theorem dX7_sentence_134 : decode cX7_sentence 134 = .ok (.ireturn, 1) := by decide +kernel
theorem dX7_sentence_135 : decode cX7_sentence 135 = .ok (.aload_n 0, 1) := by decide +kernel
theorem dX7_sentence_136 : decode cX7_sentence 136 = .ok (.ldc 162, 2) := by decide +kernel
theorem dX7_sentence_138 : decode cX7_sentence 138 = .ok (.invokevirtual 79, 3) := by decide +kernel
theorem dX7_sentence_141 : decode cX7_sentence 141 = .ok (.istore_n 1, 1) := by decide +kernel
theorem dX7_sentence_142 : decode cX7_sentence 142 = .ok (.iload_n 1, 1) := by decide +kernel
theorem dX7_sentence_143 : decode cX7_sentence 143 = .ok (.ifCond .ne 12, 3) := by decide +kernel
theorem dX7_sentence_146 : decode cX7_sentence 146 = .ok (.aload_n 0, 1) := by decide +kernel
theorem dX7_sentence_147 : decode cX7_sentence 147 = .ok (.ldc 164, 2) := by decide +kernel
theorem dX7_sentence_149 : decode cX7_sentence 149 = .ok (.invokevirtual 79, 3) := by decide +kernel
theorem dX7_sentence_152 : decode cX7_sentence 152 = .ok (.ifCond .eq 51, 3) := by decide +kernel
theorem dX7_sentence_155 : decode cX7_sentence 155 = .ok (.aload_n 0, 1) := by decide +kernel
theorem dX7_sentence_156 : decode cX7_sentence 156 = .ok (.invokevirtual 83, 3) := by decide +kernel
theorem dX7_sentence_159 : decode cX7_sentence 159 = .ok (.aload_n 0, 1) := by decide +kernel
theorem dX7_sentence_160 : decode cX7_sentence 160 = .ok (.iload_n 1, 1) := by decide +kernel
theorem dX7_sentence_161 : decode cX7_sentence 161 = .ok (.ifCond .eq 8, 3) := by decide +kernel
theorem dX7_sentence_164 : decode cX7_sentence 164 = .ok (.bipush 6, 2) := by decide +kernel
theorem dX7_sentence_166 : decode cX7_sentence 166 = .ok (.goto 5, 3) := by decide +kernel
theorem dX7_sentence_169 : decode cX7_sentence 169 = .ok (.bipush 7, 2) := by decide +kernel
theorem dX7_sentence_171 : decode cX7_sentence 171 = .ok (.putfield 144, 3) := by decide +kernel
theorem dX7_sentence_174 : decode cX7_sentence 174 = .ok (.aload_n 0, 1) := by decide +kernel
theorem dX7_sentence_175 : decode cX7_sentence 175 = .ok (.invokevirtual 149, 3) := by decide +kernel
theorem dX7_sentence_178 : decode cX7_sentence 178 = .ok (.ifCond .eq 23, 3) := by decide +kernel
theorem dX7_sentence_181 : decode cX7_sentence 181 = .ok (.aload_n 0, 1) := by decide +kernel
theorem dX7_sentence_182 : decode cX7_sentence 182 = .ok (.invokevirtual 153, 3) := by decide +kernel
theorem dX7_sentence_185 : decode cX7_sentence 185 = .ok (.ifCond .eq 16, 3) := by decide +kernel
theorem dX7_sentence_188 : decode cX7_sentence 188 = .ok (.aload_n 0, 1) := by decide +kernel
theorem dX7_sentence_189 : decode cX7_sentence 189 = .ok (.ldc 156, 2) := by decide +kernel
theorem dX7_sentence_191 : decode cX7_sentence 191 = .ok (.invokevirtual 141, 3) := by decide +kernel
theorem dX7_sentence_194 : decode cX7_sentence 194 = .ok (.ifCond .eq 7, 3) := by decide +kernel
theorem dX7_sentence_197 : decode cX7_sentence 197 = .ok (.iconst 1, 1) := by decide +kernel
theorem dX7_sentence_198 : decode cX7_sentence 198 = .ok (.goto 4, 3) := by decide +kernel
theorem dX7_sentence_201 : decode cX7_sentence 201 = .ok (.iconst 0, 1) := by decide +kernel
theorem dX7_sentence_202 : decode cX7_sentence 202 = .ok (.ireturn, 1) := by decide +kernel
theorem dX7_sentence_203 : decode cX7_sentence 203 = .ok (.aload_n 0, 1) := by decide +kernel
theorem dX7_sentence_204 : decode cX7_sentence 204 = .ok (.ldc 166, 2) := by decide +kernel
theorem dX7_sentence_206 : decode cX7_sentence 206 = .ok (.invokevirtual 141, 3) := by decide +kernel
theorem dX7_sentence_209 : decode cX7_sentence 209 = .ok (.ifCond .eq 10, 3) := by decide +kernel
theorem dX7_sentence_212 : decode cX7_sentence 212 = .ok (.aload_n 0, 1) := by decide +kernel
theorem dX7_sentence_213 : decode cX7_sentence 213 = .ok (.invokevirtual 149, 3) := by decide +kernel
theorem dX7_sentence_216 : decode cX7_sentence 216 = .ok (.ifCond .ne 5, 3) := by decide +kernel
theorem dX7_sentence_219 : decode cX7_sentence 219 = .ok (.iconst 0, 1) := by decide +kernel
theorem dX7_sentence_220 : decode cX7_sentence 220 = .ok (.ireturn, 1) := by decide +kernel
theorem dX7_sentence_221 : decode cX7_sentence 221 = .ok (.aload_n 0, 1) := by decide +kernel
theorem dX7_sentence_222 : decode cX7_sentence 222 = .ok (.ldc 168, 2) := by decide +kernel
theorem dX7_sentence_224 : decode cX7_sentence 224 = .ok (.invokevirtual 79, 3) := by decide +kernel
theorem dX7_sentence_227 : decode cX7_sentence 227 = .ok (.ifCond .ne 12, 3) := by decide +kernel
theorem dX7_sentence_230 : decode cX7_sentence 230 = .ok (.aload_n 0, 1) := by decide +kernel
theorem dX7_sentence_231 : decode cX7_sentence 231 = .ok (.ldc 170, 2) := by decide +kernel
theorem dX7_sentence_233 : decode cX7_sentence 233 = .ok (.invokevirtual 79, 3) := by decide +kernel
theorem dX7_sentence_236 : decode cX7_sentence 236 = .ok (.ifCond .eq 64, 3) := by decide +kernel
theorem dX7_sentence_239 : decode cX7_sentence 239 = .ok (.aload_n 0, 1) := by decide +kernel
theorem dX7_sentence_240 : decode cX7_sentence 240 = .ok (.aload_n 0, 1) := by decide +kernel
theorem dX7_sentence_241 : decode cX7_sentence 241 = .ok (.ldc 168, 2) := by decide +kernel
theorem dX7_sentence_243 : decode cX7_sentence 243 = .ok (.invokevirtual 79, 3) := by decide +kernel
theorem dX7_sentence_246 : decode cX7_sentence 246 = .ok (.ifCond .eq 7, 3) := by decide +kernel
theorem dX7_sentence_249 : decode cX7_sentence 249 = .ok (.iconst 1, 1) := by decide +kernel
theorem dX7_sentence_250 : decode cX7_sentence 250 = .ok (.goto 4, 3) := by decide +kernel
theorem dX7_sentence_253 : decode cX7_sentence 253 = .ok (.iconst 2, 1) := by decide +kernel
theorem dX7_sentence_254 : decode cX7_sentence 254 = .ok (.putfield 144, 3) := by decide +kernel
theorem dX7_sentence_257 : decode cX7_sentence 257 = .ok (.aload_n 0, 1) := by decide +kernel
theorem dX7_sentence_258 : decode cX7_sentence 258 = .ok (.invokevirtual 83, 3) := by decide +kernel
theorem dX7_sentence_261 : decode cX7_sentence 261 = .ok (.aload_n 0, 1) := by decide +kernel
theorem dX7_sentence_262 : decode cX7_sentence 262 = .ok (.invokevirtual 153, 3) := by decide +kernel
theorem dX7_sentence_265 : decode cX7_sentence 265 = .ok (.ifCond .eq 33, 3) := by decide +kernel
theorem dX7_sentence_268 : decode cX7_sentence 268 = .ok (.aload_n 0, 1) := by decide +kernel
theorem dX7_sentence_269 : decode cX7_sentence 269 = .ok (.ldc 172, 2) := by decide +kernel
theorem dX7_sentence_271 : decode cX7_sentence 271 = .ok (.invokevirtual 141, 3) := by decide +kernel
theorem dX7_sentence_274 : decode cX7_sentence 274 = .ok (.ifCond .eq 24, 3) := by decide +kernel
theorem dX7_sentence_277 : decode cX7_sentence 277 = .ok (.aload_n 0, 1) := by decide +kernel
theorem dX7_sentence_278 : decode cX7_sentence 278 = .ok (.iconst 1, 1) := by decide +kernel
theorem dX7_sentence_279 : decode cX7_sentence 279 = .ok (.invokevirtual 135, 3) := by decide +kernel
theorem dX7_sentence_282 : decode cX7_sentence 282 = .ok (.ifCond .eq 16, 3) := by decide +kernel
theorem dX7_sentence_285 : decode cX7_sentence 285 = .ok (.aload_n 0, 1) := by decide +kernel
theorem dX7_sentence_286 : decode cX7_sentence 286 = .ok (.ldc 156, 2) := by decide +kernel
theorem dX7_sentence_288 : decode cX7_sentence 288 = .ok (.invokevirtual 141, 3) := by decide +kernel
theorem dX7_sentence_291 : decode cX7_sentence 291 = .ok (.ifCond .eq 7, 3) := by decide +kernel
theorem dX7_sentence_294 : decode cX7_sentence 294 = .ok (.iconst 1, 1) := by decide +kernel
theorem dX7_sentence_295 : decode cX7_sentence 295 = .ok (.goto 4, 3) := by decide +kernel
theorem dX7_sentence_298 : decode cX7_sentence 298 = .ok (.iconst 0, 1) := by decide +kernel
theorem dX7_sentence_299 : decode cX7_sentence 299 = .ok (.ireturn, 1) := by decide +kernel
theorem dX7_sentence_300 : decode cX7_sentence 300 = .ok (.aload_n 0, 1) := by decide +kernel
theorem dX7_sentence_301 : decode cX7_sentence 301 = .ok (.ldc 174, 2) := by decide +kernel
theorem dX7_sentence_303 : decode cX7_sentence 303 = .ok (.invokevirtual 79, 3) := by decide +kernel
theorem dX7_sentence_306 : decode cX7_sentence 306 = .ok (.ifCond .eq 84, 3) := by decide +kernel
theorem dX7_sentence_309 : decode cX7_sentence 309 = .ok (.aload_n 0, 1) := by decide +kernel
theorem dX7_sentence_310 : decode cX7_sentence 310 = .ok (.getfield 132, 3) := by decide +kernel
theorem dX7_sentence_313 : decode cX7_sentence 313 = .ok (.iconst 2, 1) := by decide +kernel
theorem dX7_sentence_314 : decode cX7_sentence 314 = .ok (.bipush 9, 2) := by decide +kernel
theorem dX7_sentence_316 : decode cX7_sentence 316 = .ok (.invokestatic 176, 3) := by decide +kernel
theorem dX7_sentence_319 : decode cX7_sentence 319 = .ok (.ifCond .ne 5, 3) := by decide +kernel
theorem dX7_sentence_322 : decode cX7_sentence 322 = .ok (.iconst 0, 1) := by decide +kernel
theorem dX7_sentence_323 : decode cX7_sentence 323 = .ok (.ireturn, 1) := by decide +kernel
theorem dX7_sentence_324 : decode cX7_sentence 324 = .ok (.aload_n 0, 1) := by decide +kernel
theorem dX7_sentence_325 : decode cX7_sentence 325 = .ok (.invokevirtual 83, 3) := by decide +kernel
theorem dX7_sentence_328 : decode cX7_sentence 328 = .ok (.aload_n 0, 1) := by decide +kernel
theorem dX7_sentence_329 : decode cX7_sentence 329 = .ok (.iconst 3, 1) := by decide +kernel
theorem dX7_sentence_330 : decode cX7_sentence 330 = .ok (.putfield 144, 3) := by decide +kernel
theorem dX7_sentence_333 : decode cX7_sentence 333 = .ok (.aload_n 0, 1) := by decide +kernel
theorem dX7_sentence_334 : decode cX7_sentence 334 = .ok (.ldc 180, 2) := by decide +kernel
theorem dX7_sentence_336 : decode cX7_sentence 336 = .ok (.invokevirtual 141, 3) := by decide +kernel
theorem dX7_sentence_339 : decode cX7_sentence 339 = .ok (.ifCond .eq 49, 3) := by decide +kernel
theorem dX7_sentence_342 : decode cX7_sentence 342 = .ok (.aload_n 0, 1) := by decide +kernel
theorem dX7_sentence_343 : decode cX7_sentence 343 = .ok (.ldc 182, 2) := by decide +kernel
theorem dX7_sentence_345 : decode cX7_sentence 345 = .ok (.invokevirtual 141, 3) := by decide +kernel
theorem dX7_sentence_348 : decode cX7_sentence 348 = .ok (.ifCond .eq 40, 3) := by decide +kernel
theorem dX7_sentence_351 : decode cX7_sentence 351 = .ok (.aload_n 0, 1) := by decide +kernel
theorem dX7_sentence_352 : decode cX7_sentence 352 = .ok (.invokevirtual 153, 3) := by decide +kernel
theorem dX7_sentence_355 : decode cX7_sentence 355 = .ok (.ifCond .eq 33, 3) := by decide +kernel
theorem dX7_sentence_358 : decode cX7_sentence 358 = .ok (.aload_n 0, 1) := by decide +kernel
theorem dX7_sentence_359 : decode cX7_sentence 359 = .ok (.ldc 180, 2) := by decide +kernel
theorem dX7_sentence_361 : decode cX7_sentence 361 = .ok (.invokevirtual 141, 3) := by decide +kernel
theorem dX7_sentence_364 : decode cX7_sentence 364 = .ok (.ifCond .eq 24, 3) := by decide +kernel
theorem dX7_sentence_367 : decode cX7_sentence 367 = .ok (.aload_n 0, 1) := by decide +kernel
theorem dX7_sentence_368 : decode cX7_sentence 368 = .ok (.iconst 1, 1) := by decide +kernel
theorem dX7_sentence_369 : decode cX7_sentence 369 = .ok (.invokevirtual 135, 3) := by decide +kernel
theorem dX7_sentence_372 : decode cX7_sentence 372 = .ok (.ifCond .eq 16, 3) := by decide +kernel
theorem dX7_sentence_375 : decode cX7_sentence 375 = .ok (.aload_n 0, 1) := by decide +kernel
theorem dX7_sentence_376 : decode cX7_sentence 376 = .ok (.ldc 156, 2) := by decide +kernel
theorem dX7_sentence_378 : decode cX7_sentence 378 = .ok (.invokevirtual 141, 3) := by decide +kernel
theorem dX7_sentence_381 : decode cX7_sentence 381 = .ok (.ifCond .eq 7, 3) := by decide +kernel
theorem dX7_sentence_384 : decode cX7_sentence 384 = .ok (.iconst 1, 1) := by decide +kernel
theorem dX7_sentence_385 : decode cX7_sentence 385 = .ok (.goto 4, 3) := by decide +kernel
theorem dX7_sentence_388 : decode cX7_sentence 388 = .ok (.iconst 0, 1) := by decide +kernel
theorem dX7_sentence_389 : decode cX7_sentence 389 = .ok (.ireturn, 1) := by decide +kernel
theorem dX7_sentence_390 : decode cX7_sentence 390 = .ok (.aload_n 0, 1) := by decide +kernel
theorem dX7_sentence_391 : decode cX7_sentence 391 = .ok (.iconst 0, 1) := by decide +kernel
theorem dX7_sentence_392 : decode cX7_sentence 392 = .ok (.putfield 144, 3) := by decide +kernel
theorem dX7_sentence_395 : decode cX7_sentence 395 = .ok (.aload_n 0, 1) := by decide +kernel
theorem dX7_sentence_396 : decode cX7_sentence 396 = .ok (.invokevirtual 153, 3) := by decide +kernel
theorem dX7_sentence_399 : decode cX7_sentence 399 = .ok (.ifCond .eq 16, 3) := by decide +kernel
theorem dX7_sentence_402 : decode cX7_sentence 402 = .ok (.aload_n 0, 1) := by decide +kernel
theorem dX7_sentence_403 : decode cX7_sentence 403 = .ok (.ldc 156, 2) := by decide +kernel
theorem dX7_sentence_405 : decode cX7_sentence 405 = .ok (.invokevirtual 141, 3) := by decide +kernel
theorem dX7_sentence_408 : decode cX7_sentence 408 = .ok (.ifCond .eq 7, 3) := by decide +kernel
theorem dX7_sentence_411 : decode cX7_sentence 411 = .ok (.iconst 1, 1) := by decide +kernel
theorem dX7_sentence_412 : decode cX7_sentence 412 = .ok (.goto 4, 3) := by decide +kernel
theorem dX7_sentence_415 : decode cX7_sentence 415 = .ok (.iconst 0, 1) := by decide +kernel
theorem dX7_sentence_416 : decode cX7_sentence 416 = .ok (.ireturn, 1) := by decide +kernel
set_option maxRecDepth 20000 in
theorem ggX7_asks_X7_takes : GoodIn wsX7_asks wsX7_takes := goodIn_r _ [12, 13, 14, 15, 11, 16, 17, 6, 18, 19, 20, 21, 22, 23, 24, 25, 26, 27, 28, 29, 30, 31, 32, 33, 34, 35, 36, 37, 38, 39, 40, 41, 42, 43, 44, 45, 46, 47, 48, 49, 50, 51, 52, 53, 54, 55, 56, 57, 58, 59, 60, 61, 62, 63, 64, 65, 66, 67, 68, 69, 70, 71, 7, 72, 73, 74, 75, 76, 77, 97, 98, 99, 100, 101, 102, 103, 104, 105, 106, 107, 108, 109, 110, 111, 112, 113, 114, 115, 116, 117, 118, 119, 120, 121, 122, 123] (by decide +kernel) (by decide +kernel)
set_option maxRecDepth 20000 in
theorem gX7_asks_X7_takes : GoodIn wsX7_asks (wsV RX7 141 RX7 yX7_takes wsX7_takes) := goodIn_app (goodIn_of _ (by decide +kernel)) ggX7_asks_X7_takes
set_option maxRecDepth 20000 in
theorem ggX7_asks_X7_takesUnit : GoodIn wsX7_asks wsX7_takesUnit := goodIn_r _ [81, 4, 82, 83, 84, 11, 85, 13, 14, 15, 16, 17, 6, 18, 19, 20, 21, 22, 23, 24, 25, 26, 27, 28, 29, 30, 31, 32, 33, 34, 35, 36, 37, 38, 39, 40, 41, 42, 43, 44, 45, 46, 47, 48, 49, 50, 51, 52, 53, 54, 55, 56, 57, 58, 59, 60, 61, 62, 63, 64, 65, 66, 67, 86, 87, 88, 68, 69, 70, 71, 7, 72, 73, 74, 75, 76, 77, 97, 98, 99, 100, 101, 102, 103, 104, 105, 106, 107, 108, 109, 110, 111, 112, 113, 114, 115, 116, 117, 118, 119, 120, 121, 122, 123] (by decide +kernel) (by decide +kernel)
set_option maxRecDepth 20000 in
theorem gX7_asks_X7_takesUnit : GoodIn wsX7_asks (wsV RX7 153 RX7 yX7_takesUnit wsX7_takesUnit) := goodIn_app (goodIn_of _ (by decide +kernel)) ggX7_asks_X7_takesUnit
set_option maxRecDepth 20000 in
theorem ggX7_asks_X7_is : GoodIn wsX7_asks wsX7_is := goodIn_r _ [16, 17, 6, 18, 19, 20, 21, 22, 23, 24, 25, 26, 27, 28, 29, 30, 31, 32, 33, 34, 35, 36, 37, 38, 39, 40, 41, 42, 43, 44, 45, 46, 47, 48, 49, 50, 51, 52, 53, 54, 55, 56, 57, 58, 59, 60, 61, 62, 63, 64, 65, 66, 67, 97, 98, 99, 100, 101, 102, 103, 104, 105, 106, 107, 108, 109, 110, 111, 112, 113, 114, 115, 116, 117, 118, 119, 120, 121, 122, 123] (by decide +kernel) (by decide +kernel)
set_option maxRecDepth 20000 in
theorem gX7_asks_X7_is : GoodIn wsX7_asks (wsV RX7 79 RX7 yX7_is wsX7_is) := goodIn_app (goodIn_of _ (by decide +kernel)) ggX7_asks_X7_is
set_option maxRecDepth 20000 in
theorem ggX7_asks_X7_next : GoodIn wsX7_asks wsX7_next := goodIn_r _ [71, 17, 6, 7, 18, 72, 73, 11, 74, 75, 76, 77, 97, 98, 99, 100, 101, 102, 103, 104, 105, 106, 107, 108, 109, 110, 111, 112, 113, 114, 115, 116, 117, 118, 119, 120, 121, 122, 123] (by decide +kernel) (by decide +kernel)
set_option maxRecDepth 20000 in
theorem gX7_asks_X7_next : GoodIn wsX7_asks (wsV RX7 83 RX7 yX7_next wsX7_next) := goodIn_app (goodIn_of _ (by decide +kernel)) ggX7_asks_X7_next
set_option maxRecDepth 20000 in
theorem ggX7_asks_X7_takesName : GoodIn wsX7_asks wsX7_takesName := goodIn_r _ [92, 3, 1, 93, 94, 95, 11, 96, 13, 14, 15, 16, 17, 6, 18, 19, 20, 21, 22, 23, 24, 25, 26, 27, 28, 29, 30, 31, 32, 33, 34, 35, 36, 37, 38, 39, 40, 41, 42, 43, 44, 45, 46, 47, 48, 49, 50, 51, 52, 53, 54, 55, 56, 57, 58, 59, 60, 61, 62, 63, 64, 65, 66, 67, 86, 87, 88, 68, 69, 70, 71, 7, 72, 73, 74, 75, 76, 77, 97, 98, 99, 100, 101, 102, 103, 104, 105, 106, 107, 108, 109, 110, 111, 112, 113, 114, 115, 116, 117, 118, 119, 120, 121, 122, 123] (by decide +kernel) (by decide +kernel)
set_option maxRecDepth 20000 in
theorem gX7_asks_X7_takesName : GoodIn wsX7_asks (wsV RX7 135 RX7 yX7_takesName wsX7_takesName) := goodIn_app (goodIn_of _ (by decide +kernel)) ggX7_asks_X7_takesName
theorem dX7_asks_0 : decode cX7_asks 0 = .ok (.aload_n 0, 1) := by decide +kernel
theorem dX7_asks_1 : decode cX7_asks 1 = .ok (.ldc 184, 2) := by decide +kernel
theorem dX7_asks_3 : decode cX7_asks 3 = .ok (.invokevirtual 141, 3) := by decide +kernel
theorem dX7_asks_6 : decode cX7_asks 6 = .ok (.ifCond .eq 19, 3) := by decide +kernel
theorem dX7_asks_9 : decode cX7_asks 9 = .ok (.aload_n 0, 1) := by decide +kernel
theorem dX7_asks_10 : decode cX7_asks 10 = .ok (.ldc 182, 2) := by decide +kernel
theorem dX7_asks_12 : decode cX7_asks 12 = .ok (.invokevirtual 141, 3) := by decide +kernel
theorem dX7_asks_15 : decode cX7_asks 15 = .ok (.ifCond .eq 10, 3) := by decide +kernel
theorem dX7_asks_18 : decode cX7_asks 18 = .ok (.aload_n 0, 1) := by decide +kernel
theorem dX7_asks_19 : decode cX7_asks 19 = .ok (.invokevirtual 153, 3) := by decide +kernel
theorem dX7_asks_22 : decode cX7_asks 22 = .ok (.ifCond .ne 5, 3) := by decide +kernel
theorem dX7_asks_25 : decode cX7_asks 25 = .ok (.iconst 0, 1) := by decide +kernel
theorem dX7_asks_26 : decode cX7_asks 26 = .ok (.ireturn, 1) := by decide +kernel
theorem dX7_asks_27 : decode cX7_asks 27 = .ok (.aload_n 0, 1) := by decide +kernel
theorem dX7_asks_28 : decode cX7_asks 28 = .ok (.iconst (-1), 1) := by decide +kernel
theorem dX7_asks_29 : decode cX7_asks 29 = .ok (.putfield 120, 3) := by decide +kernel
theorem dX7_asks_32 : decode cX7_asks 32 = .ok (.aload_n 0, 1) := by decide +kernel
theorem dX7_asks_33 : decode cX7_asks 33 = .ok (.ldc 166, 2) := by decide +kernel
theorem dX7_asks_35 : decode cX7_asks 35 = .ok (.invokevirtual 79, 3) := by decide +kernel
theorem dX7_asks_38 : decode cX7_asks 38 = .ok (.ifCond .eq 7, 3) := by decide +kernel
theorem dX7_asks_41 : decode cX7_asks 41 = .ok (.iconst 0, 1) := by decide +kernel
theorem dX7_asks_42 : decode cX7_asks 42 = .ok (.goto 30, 3) := by decide +kernel
theorem dX7_asks_45 : decode cX7_asks 45 = .ok (.aload_n 0, 1) := by decide +kernel
theorem dX7_asks_46 : decode cX7_asks 46 = .ok (.ldc 147, 2) := by decide +kernel
theorem dX7_asks_48 : decode cX7_asks 48 = .ok (.invokevirtual 79, 3) := by decide +kernel
theorem dX7_asks_51 : decode cX7_asks 51 = .ok (.ifCond .eq 7, 3) := by decide +kernel
theorem dX7_asks_54 : decode cX7_asks 54 = .ok (.iconst 1, 1) := by decide +kernel
theorem dX7_asks_55 : decode cX7_asks 55 = .ok (.goto 17, 3) := by decide +kernel
theorem dX7_asks_58 : decode cX7_asks 58 = .ok (.aload_n 0, 1) := by decide +kernel
theorem dX7_asks_59 : decode cX7_asks 59 = .ok (.ldc 186, 2) := by decide +kernel
theorem dX7_asks_61 : decode cX7_asks 61 = .ok (.invokevirtual 79, 3) := by decide +kernel
theorem dX7_asks_64 : decode cX7_asks 64 = .ok (.ifCond .eq 7, 3) := by decide +kernel
theorem dX7_asks_67 : decode cX7_asks 67 = .ok (.iconst 2, 1) := by decide +kernel
theorem dX7_asks_68 : decode cX7_asks 68 = .ok (.goto 4, 3) := by decide +kernel
theorem dX7_asks_71 : decode cX7_asks 71 = .ok (.iconst (-1), 1) := by decide +kernel
theorem dX7_asks_72 : decode cX7_asks 72 = .ok (.istore_n 1, 1) := by decide +kernel
theorem dX7_asks_73 : decode cX7_asks 73 = .ok (.iload_n 1, 1) := by decide +kernel
theorem dX7_asks_74 : decode cX7_asks 74 = .ok (.iconst (-1), 1) := by decide +kernel
theorem dX7_asks_75 : decode cX7_asks 75 = .ok (.if_icmp .ne 5, 3) := by decide +kernel
theorem dX7_asks_78 : decode cX7_asks 78 = .ok (.iconst 0, 1) := by decide +kernel
theorem dX7_asks_79 : decode cX7_asks 79 = .ok (.ireturn, 1) := by decide +kernel
theorem dX7_asks_80 : decode cX7_asks 80 = .ok (.aload_n 0, 1) := by decide +kernel
theorem dX7_asks_81 : decode cX7_asks 81 = .ok (.invokevirtual 83, 3) := by decide +kernel
theorem dX7_asks_84 : decode cX7_asks 84 = .ok (.aload_n 0, 1) := by decide +kernel
theorem dX7_asks_85 : decode cX7_asks 85 = .ok (.iconst 0, 1) := by decide +kernel
theorem dX7_asks_86 : decode cX7_asks 86 = .ok (.invokevirtual 135, 3) := by decide +kernel
theorem dX7_asks_89 : decode cX7_asks 89 = .ok (.ifCond .eq 34, 3) := by decide +kernel
theorem dX7_asks_92 : decode cX7_asks 92 = .ok (.iload_n 1, 1) := by decide +kernel
theorem dX7_asks_93 : decode cX7_asks 93 = .ok (.iconst 1, 1) := by decide +kernel
theorem dX7_asks_94 : decode cX7_asks 94 = .ok (.if_icmp .ne 20, 3) := by decide +kernel
theorem dX7_asks_97 : decode cX7_asks 97 = .ok (.aload_n 0, 1) := by decide +kernel
theorem dX7_asks_98 : decode cX7_asks 98 = .ok (.ldc 139, 2) := by decide +kernel
theorem dX7_asks_100 : decode cX7_asks 100 = .ok (.invokevirtual 141, 3) := by decide +kernel
theorem dX7_asks_103 : decode cX7_asks 103 = .ok (.ifCond .eq 20, 3) := by decide +kernel
theorem dX7_asks_106 : decode cX7_asks 106 = .ok (.aload_n 0, 1) := by decide +kernel
theorem dX7_asks_107 : decode cX7_asks 107 = .ok (.iconst 1, 1) := by decide +kernel
theorem dX7_asks_108 : decode cX7_asks 108 = .ok (.invokevirtual 135, 3) := by decide +kernel
theorem dX7_asks_111 : decode cX7_asks 111 = .ok (.ifCond .eq 12, 3) := by decide +kernel
theorem dX7_asks_114 : decode cX7_asks 114 = .ok (.aload_n 0, 1) := by decide +kernel
theorem dX7_asks_115 : decode cX7_asks 115 = .ok (.ldc 188, 2) := by decide +kernel
theorem dX7_asks_117 : decode cX7_asks 117 = .ok (.invokevirtual 141, 3) := by decide +kernel
theorem dX7_asks_120 : decode cX7_asks 120 = .ok (.ifCond .ne 5, 3) := by decide +kernel
theorem dX7_asks_123 : decode cX7_asks 123 = .ok (.iconst 0, 1) := by decide +kernel
theorem dX7_asks_124 : decode cX7_asks 124 = .ok (.ireturn, 1) := by decide +kernel
theorem dX7_asks_125 : decode cX7_asks 125 = .ok (.aload_n 0, 1) := by decide +kernel
theorem dX7_asks_126 : decode cX7_asks 126 = .ok (.getfield 23, 3) := by decide +kernel
theorem dX7_asks_129 : decode cX7_asks 129 = .ok (.iconst 0, 1) := by decide +kernel
theorem dX7_asks_130 : decode cX7_asks 130 = .ok (.iload_n 1, 1) := by decide +kernel
theorem dX7_asks_131 : decode cX7_asks 131 = .ok (.iastore, 1) := by decide +kernel
theorem dX7_asks_132 : decode cX7_asks 132 = .ok (.aload_n 0, 1) := by decide +kernel
theorem dX7_asks_133 : decode cX7_asks 133 = .ok (.getfield 23, 3) := by decide +kernel
theorem dX7_asks_136 : decode cX7_asks 136 = .ok (.iconst 1, 1) := by decide +kernel
theorem dX7_asks_137 : decode cX7_asks 137 = .ok (.aload_n 0, 1) := by decide +kernel
theorem dX7_asks_138 : decode cX7_asks 138 = .ok (.getfield 117, 3) := by decide +kernel
theorem dX7_asks_141 : decode cX7_asks 141 = .ok (.iastore, 1) := by decide +kernel
theorem dX7_asks_142 : decode cX7_asks 142 = .ok (.aload_n 0, 1) := by decide +kernel
theorem dX7_asks_143 : decode cX7_asks 143 = .ok (.getfield 23, 3) := by decide +kernel
theorem dX7_asks_146 : decode cX7_asks 146 = .ok (.iconst 2, 1) := by decide +kernel
theorem dX7_asks_147 : decode cX7_asks 147 = .ok (.aload_n 0, 1) := by decide +kernel
theorem dX7_asks_148 : decode cX7_asks 148 = .ok (.getfield 120, 3) := by decide +kernel
theorem dX7_asks_151 : decode cX7_asks 151 = .ok (.iastore, 1) := by decide +kernel
theorem dX7_asks_152 : decode cX7_asks 152 = .ok (.aload_n 0, 1) := by decide +kernel
theorem dX7_asks_153 : decode cX7_asks 153 = .ok (.getfield 23, 3) := by decide +kernel
theorem dX7_asks_156 : decode cX7_asks 156 = .ok (.iconst 3, 1) := by decide +kernel
theorem dX7_asks_157 : decode cX7_asks 157 = .ok (.aload_n 0, 1) := by decide +kernel
theorem dX7_asks_158 : decode cX7_asks 158 = .ok (.getfield 126, 3) := by decide +kernel
theorem dX7_asks_161 : decode cX7_asks 161 = .ok (.iastore, 1) := by decide +kernel
theorem dX7_asks_162 : decode cX7_asks 162 = .ok (.aload_n 0, 1) := by decide +kernel
theorem dX7_asks_163 : decode cX7_asks 163 = .ok (.getfield 23, 3) := by decide +kernel
theorem dX7_asks_166 : decode cX7_asks 166 = .ok (.iconst 4, 1) := by decide +kernel
theorem dX7_asks_167 : decode cX7_asks 167 = .ok (.iload_n 1, 1) := by decide +kernel
theorem dX7_asks_168 : decode cX7_asks 168 = .ok (.iconst 2, 1) := by decide +kernel
theorem dX7_asks_169 : decode cX7_asks 169 = .ok (.if_icmp .ne 7, 3) := by decide +kernel
theorem dX7_asks_172 : decode cX7_asks 172 = .ok (.iconst 0, 1) := by decide +kernel
theorem dX7_asks_173 : decode cX7_asks 173 = .ok (.goto 7, 3) := by decide +kernel
theorem dX7_asks_176 : decode cX7_asks 176 = .ok (.aload_n 0, 1) := by decide +kernel
theorem dX7_asks_177 : decode cX7_asks 177 = .ok (.getfield 190, 3) := by decide +kernel
theorem dX7_asks_180 : decode cX7_asks 180 = .ok (.iastore, 1) := by decide +kernel
theorem dX7_asks_181 : decode cX7_asks 181 = .ok (.aload_n 0, 1) := by decide +kernel
theorem dX7_asks_182 : decode cX7_asks 182 = .ok (.getfield 60, 3) := by decide +kernel
theorem dX7_asks_185 : decode cX7_asks 185 = .ok (.aload_n 0, 1) := by decide +kernel
theorem dX7_asks_186 : decode cX7_asks 186 = .ok (.getfield 46, 3) := by decide +kernel
theorem dX7_asks_189 : decode cX7_asks 189 = .ok (.if_icmp .ne 7, 3) := by decide +kernel
theorem dX7_asks_192 : decode cX7_asks 192 = .ok (.iconst 1, 1) := by decide +kernel
theorem dX7_asks_193 : decode cX7_asks 193 = .ok (.goto 4, 3) := by decide +kernel
theorem dX7_asks_196 : decode cX7_asks 196 = .ok (.iconst 0, 1) := by decide +kernel
theorem dX7_asks_197 : decode cX7_asks 197 = .ok (.ireturn, 1) := by decide +kernel
set_option maxRecDepth 20000 in
theorem ggX7_reads_X7_next : GoodIn wsX7_reads wsX7_next := goodIn_r _ [16, 1, 4, 17, 18, 19, 20, 15, 21, 22, 23, 24, 121, 122, 123, 124, 125, 126, 127, 128, 129, 130, 131, 132, 133, 134, 135, 136, 137, 138, 139, 140, 141, 142, 143, 144, 145, 146, 147] (by decide +kernel) (by decide +kernel)
set_option maxRecDepth 20000 in
theorem gX7_reads_X7_next : GoodIn wsX7_reads (wsV RX7 83 RX7 yX7_next wsX7_next) := goodIn_app (goodIn_of _ (by decide +kernel)) ggX7_reads_X7_next
set_option maxRecDepth 20000 in
theorem ggX7_reads_X7_is : GoodIn wsX7_reads wsX7_is := goodIn_r _ [28, 1, 4, 18, 29, 30, 31, 32, 33, 34, 35, 36, 37, 38, 39, 40, 41, 42, 43, 44, 45, 46, 47, 48, 49, 50, 51, 52, 53, 54, 55, 56, 57, 58, 59, 60, 61, 62, 63, 64, 65, 66, 67, 68, 69, 70, 71, 72, 73, 74, 75, 76, 77, 121, 122, 123, 124, 125, 126, 127, 128, 129, 130, 131, 132, 133, 134, 135, 136, 137, 138, 139, 140, 141, 142, 143, 144, 145, 146, 147] (by decide +kernel) (by decide +kernel)
set_option maxRecDepth 20000 in
theorem gX7_reads_X7_is : GoodIn wsX7_reads (wsV RX7 79 RX7 yX7_is wsX7_is) := goodIn_app (goodIn_of _ (by decide +kernel)) ggX7_reads_X7_is
set_option maxRecDepth 20000 in
theorem ggX7_reads_X7_name : GoodIn wsX7_reads wsX7_name := goodIn_r _ [81, 25, 26, 27, 15, 28, 1, 4, 18, 29, 30, 31, 32, 33, 34, 35, 36, 37, 38, 39, 40, 41, 42, 43, 44, 45, 46, 47, 48, 49, 50, 51, 52, 53, 54, 55, 56, 57, 58, 59, 60, 61, 62, 63, 64, 65, 66, 67, 68, 69, 70, 71, 72, 73, 74, 75, 76, 77, 82, 83, 84, 121, 122, 123, 124, 125, 126, 127, 128, 129, 130, 131, 132, 133, 134, 135, 136, 137, 138, 139, 140, 141, 142, 143, 144, 145, 146, 147] (by decide +kernel) (by decide +kernel)
set_option maxRecDepth 20000 in
theorem gX7_reads_X7_name : GoodIn wsX7_reads (wsV RX7 114 RX7 yX7_name wsX7_name) := goodIn_app (goodIn_of _ (by decide +kernel)) ggX7_reads_X7_name
set_option maxRecDepth 20000 in
theorem ggX7_reads_X7_sentence : GoodIn wsX7_reads wsX7_sentence := goodIn_r _ [88, 8, 6, 10, 89, 90, 91, 15, 92, 7, 78, 79, 80, 81, 25, 26, 27, 28, 1, 4, 18, 29, 30, 31, 32, 33, 34, 35, 36, 37, 38, 39, 40, 41, 42, 43, 44, 45, 46, 47, 48, 49, 50, 51, 52, 53, 54, 55, 56, 57, 58, 59, 60, 61, 62, 63, 64, 65, 66, 67, 68, 69, 70, 71, 72, 73, 74, 75, 76, 77, 82, 83, 84, 12, 13, 14, 16, 17, 19, 20, 21, 22, 23, 24, 93, 94, 95, 96, 97, 98, 99, 100, 101, 102, 103, 104, 105, 106, 107, 108, 9, 109, 110, 111, 112, 113, 114, 115, 121, 122, 123, 124, 125, 126, 127, 128, 129, 130, 131, 132, 133, 134, 135, 136, 137, 138, 139, 140, 141, 142, 143, 144, 145, 146, 147] (by decide +kernel) (by decide +kernel)
set_option maxRecDepth 20000 in
theorem gX7_reads_X7_sentence : GoodIn wsX7_reads (wsV RX7 196 RX7 yX7_sentence wsX7_sentence) := goodIn_app (goodIn_of _ (by decide +kernel)) ggX7_reads_X7_sentence
set_option maxRecDepth 20000 in
theorem ggX7_reads_X7_asks : GoodIn wsX7_reads wsX7_asks := goodIn_r _ [119, 8, 120, 7, 9, 3, 4, 17, 93, 94, 95, 15, 96, 25, 26, 27, 28, 1, 18, 29, 30, 31, 32, 33, 34, 35, 36, 37, 38, 39, 40, 41, 42, 43, 44, 45, 46, 47, 48, 49, 50, 51, 52, 53, 54, 55, 56, 57, 58, 59, 60, 61, 62, 63, 64, 65, 66, 67, 68, 69, 70, 71, 72, 73, 74, 75, 76, 77, 12, 13, 14, 16, 19, 20, 21, 22, 23, 24, 105, 106, 107, 108, 109, 110, 111, 112, 82, 83, 84, 89, 90, 91, 92, 78, 79, 80, 81, 121, 122, 123, 124, 125, 126, 127, 128, 129, 130, 131, 132, 133, 134, 135, 136, 137, 138, 139, 140, 141, 142, 143, 144, 145, 146, 147] (by decide +kernel) (by decide +kernel)
set_option maxRecDepth 20000 in
theorem gX7_reads_X7_asks : GoodIn wsX7_reads (wsV RX7 199 RX7 yX7_asks wsX7_asks) := goodIn_app (goodIn_of _ (by decide +kernel)) ggX7_reads_X7_asks
theorem dX7_reads_0 : decode cX7_reads 0 = .ok (.aload_n 0, 1) := by decide +kernel
theorem dX7_reads_1 : decode cX7_reads 1 = .ok (.iconst 0, 1) := by decide +kernel
theorem dX7_reads_2 : decode cX7_reads 2 = .ok (.putfield 57, 3) := by decide +kernel
theorem dX7_reads_5 : decode cX7_reads 5 = .ok (.aload_n 0, 1) := by decide +kernel
theorem dX7_reads_6 : decode cX7_reads 6 = .ok (.iconst 0, 1) := by decide +kernel
theorem dX7_reads_7 : decode cX7_reads 7 = .ok (.putfield 193, 3) := by decide +kernel
theorem dX7_reads_10 : decode cX7_reads 10 = .ok (.aload_n 0, 1) := by decide +kernel
theorem dX7_reads_11 : decode cX7_reads 11 = .ok (.iconst 0, 1) := by decide +kernel
theorem dX7_reads_12 : decode cX7_reads 12 = .ok (.putfield 190, 3) := by decide +kernel
theorem dX7_reads_15 : decode cX7_reads 15 = .ok (.aload_n 0, 1) := by decide +kernel
theorem dX7_reads_16 : decode cX7_reads 16 = .ok (.invokevirtual 83, 3) := by decide +kernel
theorem dX7_reads_19 : decode cX7_reads 19 = .ok (.aload_n 0, 1) := by decide +kernel
theorem dX7_reads_20 : decode cX7_reads 20 = .ok (.ldc 184, 2) := by decide +kernel
theorem dX7_reads_22 : decode cX7_reads 22 = .ok (.invokevirtual 79, 3) := by decide +kernel
theorem dX7_reads_25 : decode cX7_reads 25 = .ok (.ifCond .ne 160, 3) := by decide +kernel
theorem dX7_reads_28 : decode cX7_reads 28 = .ok (.aload_n 0, 1) := by decide +kernel
theorem dX7_reads_29 : decode cX7_reads 29 = .ok (.invokevirtual 114, 3) := by decide +kernel
theorem dX7_reads_32 : decode cX7_reads 32 = .ok (.iconst (-1), 1) := by decide +kernel
theorem dX7_reads_33 : decode cX7_reads 33 = .ok (.if_icmp .eq 12, 3) := by decide +kernel
theorem dX7_reads_36 : decode cX7_reads 36 = .ok (.aload_n 0, 1) := by decide +kernel
theorem dX7_reads_37 : decode cX7_reads 37 = .ok (.getfield 193, 3) := by decide +kernel
theorem dX7_reads_40 : decode cX7_reads 40 = .ok (.bipush 10, 2) := by decide +kernel
theorem dX7_reads_42 : decode cX7_reads 42 = .ok (.if_icmp .ne 8, 3) := by decide +kernel
theorem dX7_reads_45 : decode cX7_reads 45 = .ok (.aload_n 0, 1) := by decide +kernel
theorem dX7_reads_46 : decode cX7_reads 46 = .ok (.getfield 60, 3) := by decide +kernel
theorem dX7_reads_49 : decode cX7_reads 49 = .ok (.ireturn, 1) := by decide +kernel
theorem dX7_reads_50 : decode cX7_reads 50 = .ok (.aload_n 0, 1) := by decide +kernel
theorem dX7_reads_51 : decode cX7_reads 51 = .ok (.getfield 60, 3) := by decide +kernel
theorem dX7_reads_54 : decode cX7_reads 54 = .ok (.istore_n 1, 1) := by decide +kernel
theorem dX7_reads_55 : decode cX7_reads 55 = .ok (.aload_n 0, 1) := by decide +kernel
theorem dX7_reads_56 : decode cX7_reads 56 = .ok (.invokevirtual 196, 3) := by decide +kernel
theorem dX7_reads_59 : decode cX7_reads 59 = .ok (.ifCond .ne 8, 3) := by decide +kernel
theorem dX7_reads_62 : decode cX7_reads 62 = .ok (.aload_n 0, 1) := by decide +kernel
theorem dX7_reads_63 : decode cX7_reads 63 = .ok (.getfield 60, 3) := by decide +kernel
theorem dX7_reads_66 : decode cX7_reads 66 = .ok (.ireturn, 1) := by decide +kernel
theorem dX7_reads_67 : decode cX7_reads 67 = .ok (.bipush 7, 2) := by decide +kernel
theorem dX7_reads_69 : decode cX7_reads 69 = .ok (.newarray .int, 2) := by decide +kernel
theorem dX7_reads_71 : decode cX7_reads 71 = .ok (.dup, 1) := by decide +kernel
theorem dX7_reads_72 : decode cX7_reads 72 = .ok (.iconst 0, 1) := by decide +kernel
theorem dX7_reads_73 : decode cX7_reads 73 = .ok (.aload_n 0, 1) := by decide +kernel
theorem dX7_reads_74 : decode cX7_reads 74 = .ok (.getfield 144, 3) := by decide +kernel
theorem dX7_reads_77 : decode cX7_reads 77 = .ok (.iastore, 1) := by decide +kernel
theorem dX7_reads_78 : decode cX7_reads 78 = .ok (.dup, 1) := by decide +kernel
theorem dX7_reads_79 : decode cX7_reads 79 = .ok (.iconst 1, 1) := by decide +kernel
theorem dX7_reads_80 : decode cX7_reads 80 = .ok (.aload_n 0, 1) := by decide +kernel
theorem dX7_reads_81 : decode cX7_reads 81 = .ok (.getfield 117, 3) := by decide +kernel
theorem dX7_reads_84 : decode cX7_reads 84 = .ok (.iastore, 1) := by decide +kernel
theorem dX7_reads_85 : decode cX7_reads 85 = .ok (.dup, 1) := by decide +kernel
theorem dX7_reads_86 : decode cX7_reads 86 = .ok (.iconst 2, 1) := by decide +kernel
theorem dX7_reads_87 : decode cX7_reads 87 = .ok (.aload_n 0, 1) := by decide +kernel
theorem dX7_reads_88 : decode cX7_reads 88 = .ok (.getfield 120, 3) := by decide +kernel
theorem dX7_reads_91 : decode cX7_reads 91 = .ok (.iastore, 1) := by decide +kernel
theorem dX7_reads_92 : decode cX7_reads 92 = .ok (.dup, 1) := by decide +kernel
theorem dX7_reads_93 : decode cX7_reads 93 = .ok (.iconst 3, 1) := by decide +kernel
theorem dX7_reads_94 : decode cX7_reads 94 = .ok (.aload_n 0, 1) := by decide +kernel
theorem dX7_reads_95 : decode cX7_reads 95 = .ok (.getfield 126, 3) := by decide +kernel
theorem dX7_reads_98 : decode cX7_reads 98 = .ok (.iastore, 1) := by decide +kernel
theorem dX7_reads_99 : decode cX7_reads 99 = .ok (.dup, 1) := by decide +kernel
theorem dX7_reads_100 : decode cX7_reads 100 = .ok (.iconst 4, 1) := by decide +kernel
theorem dX7_reads_101 : decode cX7_reads 101 = .ok (.aload_n 0, 1) := by decide +kernel
theorem dX7_reads_102 : decode cX7_reads 102 = .ok (.getfield 132, 3) := by decide +kernel
theorem dX7_reads_105 : decode cX7_reads 105 = .ok (.iastore, 1) := by decide +kernel
theorem dX7_reads_106 : decode cX7_reads 106 = .ok (.dup, 1) := by decide +kernel
theorem dX7_reads_107 : decode cX7_reads 107 = .ok (.iconst 5, 1) := by decide +kernel
theorem dX7_reads_108 : decode cX7_reads 108 = .ok (.aload_n 0, 1) := by decide +kernel
theorem dX7_reads_109 : decode cX7_reads 109 = .ok (.getfield 190, 3) := by decide +kernel
theorem dX7_reads_112 : decode cX7_reads 112 = .ok (.iastore, 1) := by decide +kernel
theorem dX7_reads_113 : decode cX7_reads 113 = .ok (.dup, 1) := by decide +kernel
theorem dX7_reads_114 : decode cX7_reads 114 = .ok (.bipush 6, 2) := by decide +kernel
theorem dX7_reads_116 : decode cX7_reads 116 = .ok (.iload_n 1, 1) := by decide +kernel
theorem dX7_reads_117 : decode cX7_reads 117 = .ok (.iastore, 1) := by decide +kernel
theorem dX7_reads_118 : decode cX7_reads 118 = .ok (.astore_n 2, 1) := by decide +kernel
theorem dX7_reads_119 : decode cX7_reads 119 = .ok (.iconst 0, 1) := by decide +kernel
theorem dX7_reads_120 : decode cX7_reads 120 = .ok (.istore_n 3, 1) := by decide +kernel
theorem dX7_reads_121 : decode cX7_reads 121 = .ok (.iload_n 3, 1) := by decide +kernel
theorem dX7_reads_122 : decode cX7_reads 122 = .ok (.bipush 7, 2) := by decide +kernel
theorem dX7_reads_124 : decode cX7_reads 124 = .ok (.if_icmp .ge 26, 3) := by decide +kernel
theorem dX7_reads_127 : decode cX7_reads 127 = .ok (.aload_n 0, 1) := by decide +kernel
theorem dX7_reads_128 : decode cX7_reads 128 = .ok (.getfield 17, 3) := by decide +kernel
theorem dX7_reads_131 : decode cX7_reads 131 = .ok (.bipush 7, 2) := by decide +kernel
theorem dX7_reads_133 : decode cX7_reads 133 = .ok (.aload_n 0, 1) := by decide +kernel
theorem dX7_reads_134 : decode cX7_reads 134 = .ok (.getfield 193, 3) := by decide +kernel
theorem dX7_reads_137 : decode cX7_reads 137 = .ok (.imul, 1) := by decide +kernel
theorem dX7_reads_138 : decode cX7_reads 138 = .ok (.iload_n 3, 1) := by decide +kernel
theorem dX7_reads_139 : decode cX7_reads 139 = .ok (.iadd, 1) := by decide +kernel
theorem dX7_reads_140 : decode cX7_reads 140 = .ok (.aload_n 2, 1) := by decide +kernel
theorem dX7_reads_141 : decode cX7_reads 141 = .ok (.iload_n 3, 1) := by decide +kernel
theorem dX7_reads_142 : decode cX7_reads 142 = .ok (.iaload, 1) := by decide +kernel
theorem dX7_reads_143 : decode cX7_reads 143 = .ok (.iastore, 1) := by decide +kernel
theorem dX7_reads_144 : decode cX7_reads 144 = .ok (.iinc 3 1, 3) := by decide +kernel
theorem dX7_reads_147 : decode cX7_reads 147 = .ok (.goto (-26), 3) := by decide +kernel
theorem dX7_reads_150 : decode cX7_reads 150 = .ok (.aload_n 0, 1) := by decide +kernel
theorem dX7_reads_151 : decode cX7_reads 151 = .ok (.dup, 1) := by decide +kernel
theorem dX7_reads_152 : decode cX7_reads 152 = .ok (.getfield 193, 3) := by decide +kernel
theorem dX7_reads_155 : decode cX7_reads 155 = .ok (.iconst 1, 1) := by decide +kernel
theorem dX7_reads_156 : decode cX7_reads 156 = .ok (.iadd, 1) := by decide +kernel
theorem dX7_reads_157 : decode cX7_reads 157 = .ok (.putfield 193, 3) := by decide +kernel
theorem dX7_reads_160 : decode cX7_reads 160 = .ok (.aload_n 0, 1) := by decide +kernel
theorem dX7_reads_161 : decode cX7_reads 161 = .ok (.dup, 1) := by decide +kernel
theorem dX7_reads_162 : decode cX7_reads 162 = .ok (.getfield 190, 3) := by decide +kernel
theorem dX7_reads_165 : decode cX7_reads 165 = .ok (.aload_n 0, 1) := by decide +kernel
theorem dX7_reads_166 : decode cX7_reads 166 = .ok (.getfield 144, 3) := by decide +kernel
theorem dX7_reads_169 : decode cX7_reads 169 = .ok (.iconst 5, 1) := by decide +kernel
theorem dX7_reads_170 : decode cX7_reads 170 = .ok (.if_icmp .lt 7, 3) := by decide +kernel
theorem dX7_reads_173 : decode cX7_reads 173 = .ok (.iconst 1, 1) := by decide +kernel
theorem dX7_reads_174 : decode cX7_reads 174 = .ok (.goto 4, 3) := by decide +kernel
theorem dX7_reads_177 : decode cX7_reads 177 = .ok (.iconst 0, 1) := by decide +kernel
theorem dX7_reads_178 : decode cX7_reads 178 = .ok (.iadd, 1) := by decide +kernel
theorem dX7_reads_179 : decode cX7_reads 179 = .ok (.putfield 190, 3) := by decide +kernel
theorem dX7_reads_182 : decode cX7_reads 182 = .ok (.goto (-163), 3) := by decide +kernel
theorem dX7_reads_185 : decode cX7_reads 185 = .ok (.aload_n 0, 1) := by decide +kernel
theorem dX7_reads_186 : decode cX7_reads 186 = .ok (.invokevirtual 199, 3) := by decide +kernel
theorem dX7_reads_189 : decode cX7_reads 189 = .ok (.ifCond .eq 7, 3) := by decide +kernel
theorem dX7_reads_192 : decode cX7_reads 192 = .ok (.iconst (-1), 1) := by decide +kernel
theorem dX7_reads_193 : decode cX7_reads 193 = .ok (.goto 7, 3) := by decide +kernel
theorem dX7_reads_196 : decode cX7_reads 196 = .ok (.aload_n 0, 1) := by decide +kernel
theorem dX7_reads_197 : decode cX7_reads 197 = .ok (.getfield 60, 3) := by decide +kernel
theorem dX7_reads_200 : decode cX7_reads 200 = .ok (.ireturn, 1) := by decide +kernel
set_option maxRecDepth 20000 in
theorem ggX7_fault_X7_reads : GoodIn wsX7_fault wsX7_reads := goodIn_r _ [6, 7, 8, 9, 10, 11, 12, 13, 14, 15, 16, 17, 18, 19, 20, 5, 21, 22, 23, 24, 25, 26, 27, 28, 29, 30, 31, 32, 33, 34, 35, 36, 37, 38, 39, 40, 41, 42, 43, 44, 45, 46, 47, 48, 49, 50, 51, 52, 53, 54, 55, 56, 57, 58, 59, 60, 61, 62, 63, 64, 65, 66, 67, 68, 69, 70, 71, 72, 73, 74, 75, 76, 77, 78, 79, 80, 81, 82, 83, 84, 85, 86, 87, 88, 89, 90, 91, 92, 93, 94, 95, 96, 97, 98, 99, 100, 101, 102, 103, 104, 105, 106, 107, 108, 109, 110, 111, 112, 113, 114, 115, 116, 117, 118, 119, 120, 121, 122, 123, 124, 125, 126, 127, 128, 129, 130, 131, 132, 133, 134, 135, 136, 137, 138, 139, 140, 141, 142, 143, 144, 145, 146, 147, 148, 149, 150, 151, 152] (by decide +kernel) (by decide +kernel)
set_option maxRecDepth 20000 in
theorem gX7_fault_X7_reads : GoodIn wsX7_fault (wsV RX7 202 RX7 yX7_reads wsX7_reads) := goodIn_app (goodIn_of _ (by decide +kernel)) ggX7_fault_X7_reads
theorem dX7_fault_0 : decode cX7_fault 0 = .ok (.aload_n 0, 1) := by decide +kernel
theorem dX7_fault_1 : decode cX7_fault 1 = .ok (.iconst 0, 1) := by decide +kernel
theorem dX7_fault_2 : decode cX7_fault 2 = .ok (.putfield 42, 3) := by decide +kernel
theorem dX7_fault_5 : decode cX7_fault 5 = .ok (.aload_n 0, 1) := by decide +kernel
theorem dX7_fault_6 : decode cX7_fault 6 = .ok (.invokevirtual 202, 3) := by decide +kernel
theorem dX7_fault_9 : decode cX7_fault 9 = .ok (.ireturn, 1) := by decide +kernel
set_option maxRecDepth 20000 in
theorem ggX7_tale_X7_reads : GoodIn wsX7_tale wsX7_reads := goodIn_r _ [15, 16, 2, 17, 18, 19, 20, 21, 22, 23, 24, 5, 25, 26, 27, 14, 28, 10, 29, 30, 31, 32, 33, 34, 35, 36, 37, 38, 39, 40, 41, 42, 43, 44, 45, 46, 47, 48, 49, 50, 51, 52, 53, 54, 55, 56, 57, 58, 59, 60, 61, 62, 63, 64, 65, 66, 67, 68, 69, 70, 71, 72, 73, 74, 75, 76, 77, 78, 79, 80, 81, 82, 83, 84, 85, 86, 87, 88, 89, 90, 91, 92, 93, 94, 95, 96, 97, 98, 99, 100, 101, 102, 103, 104, 105, 106, 107, 108, 109, 110, 111, 112, 113, 114, 115, 116, 117, 118, 119, 120, 121, 122, 123, 124, 125, 126, 127, 128, 129, 130, 7, 131, 132, 133, 134, 135, 136, 137, 138, 139, 140, 141, 142, 143, 144, 145, 146, 147, 148, 149, 150, 151, 152, 153, 154, 155, 156, 157] (by decide +kernel) (by decide +kernel)
set_option maxRecDepth 20000 in
theorem gX7_tale_X7_reads : GoodIn wsX7_tale (wsV RX7 202 RX7 yX7_reads wsX7_reads) := goodIn_app (goodIn_of _ (by decide +kernel)) ggX7_tale_X7_reads
theorem dX7_tale_0 : decode cX7_tale 0 = .ok (.aload_n 0, 1) := by decide +kernel
theorem dX7_tale_1 : decode cX7_tale 1 = .ok (.iconst 0, 1) := by decide +kernel
theorem dX7_tale_2 : decode cX7_tale 2 = .ok (.putfield 42, 3) := by decide +kernel
theorem dX7_tale_5 : decode cX7_tale 5 = .ok (.aload_n 0, 1) := by decide +kernel
theorem dX7_tale_6 : decode cX7_tale 6 = .ok (.invokevirtual 202, 3) := by decide +kernel
theorem dX7_tale_9 : decode cX7_tale 9 = .ok (.iconst (-1), 1) := by decide +kernel
theorem dX7_tale_10 : decode cX7_tale 10 = .ok (.if_icmp .eq 5, 3) := by decide +kernel
theorem dX7_tale_13 : decode cX7_tale 13 = .ok (.iconst 0, 1) := by decide +kernel
theorem dX7_tale_14 : decode cX7_tale 14 = .ok (.ireturn, 1) := by decide +kernel
theorem dX7_tale_15 : decode cX7_tale 15 = .ok (.aload_n 0, 1) := by decide +kernel
theorem dX7_tale_16 : decode cX7_tale 16 = .ok (.aload_n 0, 1) := by decide +kernel
theorem dX7_tale_17 : decode cX7_tale 17 = .ok (.getfield 193, 3) := by decide +kernel
theorem dX7_tale_20 : decode cX7_tale 20 = .ok (.putfield 205, 3) := by decide +kernel
theorem dX7_tale_23 : decode cX7_tale 23 = .ok (.iconst 0, 1) := by decide +kernel
theorem dX7_tale_24 : decode cX7_tale 24 = .ok (.istore_n 1, 1) := by decide +kernel
theorem dX7_tale_25 : decode cX7_tale 25 = .ok (.iload_n 1, 1) := by decide +kernel
theorem dX7_tale_26 : decode cX7_tale 26 = .ok (.bipush 7, 2) := by decide +kernel
theorem dX7_tale_28 : decode cX7_tale 28 = .ok (.aload_n 0, 1) := by decide +kernel
theorem dX7_tale_29 : decode cX7_tale 29 = .ok (.getfield 205, 3) := by decide +kernel
theorem dX7_tale_32 : decode cX7_tale 32 = .ok (.imul, 1) := by decide +kernel
theorem dX7_tale_33 : decode cX7_tale 33 = .ok (.if_icmp .ge 21, 3) := by decide +kernel
theorem dX7_tale_36 : decode cX7_tale 36 = .ok (.aload_n 0, 1) := by decide +kernel
theorem dX7_tale_37 : decode cX7_tale 37 = .ok (.getfield 13, 3) := by decide +kernel
theorem dX7_tale_40 : decode cX7_tale 40 = .ok (.iload_n 1, 1) := by decide +kernel
theorem dX7_tale_41 : decode cX7_tale 41 = .ok (.aload_n 0, 1) := by decide +kernel
theorem dX7_tale_42 : decode cX7_tale 42 = .ok (.getfield 17, 3) := by decide +kernel
theorem dX7_tale_45 : decode cX7_tale 45 = .ok (.iload_n 1, 1) := by decide +kernel
theorem dX7_tale_46 : decode cX7_tale 46 = .ok (.iaload, 1) := by decide +kernel
theorem dX7_tale_47 : decode cX7_tale 47 = .ok (.iastore, 1) := by decide +kernel
theorem dX7_tale_48 : decode cX7_tale 48 = .ok (.iinc 1 1, 3) := by decide +kernel
theorem dX7_tale_51 : decode cX7_tale 51 = .ok (.goto (-26), 3) := by decide +kernel
theorem dX7_tale_54 : decode cX7_tale 54 = .ok (.iconst 0, 1) := by decide +kernel
theorem dX7_tale_55 : decode cX7_tale 55 = .ok (.istore_n 1, 1) := by decide +kernel
theorem dX7_tale_56 : decode cX7_tale 56 = .ok (.iload_n 1, 1) := by decide +kernel
theorem dX7_tale_57 : decode cX7_tale 57 = .ok (.iconst 5, 1) := by decide +kernel
theorem dX7_tale_58 : decode cX7_tale 58 = .ok (.if_icmp .ge 21, 3) := by decide +kernel
theorem dX7_tale_61 : decode cX7_tale 61 = .ok (.aload_n 0, 1) := by decide +kernel
theorem dX7_tale_62 : decode cX7_tale 62 = .ok (.getfield 20, 3) := by decide +kernel
theorem dX7_tale_65 : decode cX7_tale 65 = .ok (.iload_n 1, 1) := by decide +kernel
theorem dX7_tale_66 : decode cX7_tale 66 = .ok (.aload_n 0, 1) := by decide +kernel
theorem dX7_tale_67 : decode cX7_tale 67 = .ok (.getfield 23, 3) := by decide +kernel
theorem dX7_tale_70 : decode cX7_tale 70 = .ok (.iload_n 1, 1) := by decide +kernel
theorem dX7_tale_71 : decode cX7_tale 71 = .ok (.iaload, 1) := by decide +kernel
theorem dX7_tale_72 : decode cX7_tale 72 = .ok (.iastore, 1) := by decide +kernel
theorem dX7_tale_73 : decode cX7_tale 73 = .ok (.iinc 1 1, 3) := by decide +kernel
theorem dX7_tale_76 : decode cX7_tale 76 = .ok (.goto (-20), 3) := by decide +kernel
theorem dX7_tale_79 : decode cX7_tale 79 = .ok (.aload_n 0, 1) := by decide +kernel
theorem dX7_tale_80 : decode cX7_tale 80 = .ok (.iconst 1, 1) := by decide +kernel
theorem dX7_tale_81 : decode cX7_tale 81 = .ok (.putfield 207, 3) := by decide +kernel
theorem dX7_tale_84 : decode cX7_tale 84 = .ok (.aload_n 0, 1) := by decide +kernel
theorem dX7_tale_85 : decode cX7_tale 85 = .ok (.iconst 0, 1) := by decide +kernel
theorem dX7_tale_86 : decode cX7_tale 86 = .ok (.putfield 211, 3) := by decide +kernel
theorem dX7_tale_89 : decode cX7_tale 89 = .ok (.aload_n 0, 1) := by decide +kernel
theorem dX7_tale_90 : decode cX7_tale 90 = .ok (.iconst 0, 1) := by decide +kernel
theorem dX7_tale_91 : decode cX7_tale 91 = .ok (.putfield 46, 3) := by decide +kernel
theorem dX7_tale_94 : decode cX7_tale 94 = .ok (.iconst 1, 1) := by decide +kernel
theorem dX7_tale_95 : decode cX7_tale 95 = .ok (.ireturn, 1) := by decide +kernel
theorem dX7_sentences_0 : decode cX7_sentences 0 = .ok (.aload_n 0, 1) := by decide +kernel
theorem dX7_sentences_1 : decode cX7_sentences 1 = .ok (.iconst 0, 1) := by decide +kernel
theorem dX7_sentences_2 : decode cX7_sentences 2 = .ok (.putfield 42, 3) := by decide +kernel
theorem dX7_sentences_5 : decode cX7_sentences 5 = .ok (.aload_n 0, 1) := by decide +kernel
theorem dX7_sentences_6 : decode cX7_sentences 6 = .ok (.getfield 205, 3) := by decide +kernel
theorem dX7_sentences_9 : decode cX7_sentences 9 = .ok (.ireturn, 1) := by decide +kernel
theorem dX7_of_0 : decode cX7_of 0 = .ok (.aload_n 0, 1) := by decide +kernel
theorem dX7_of_1 : decode cX7_of 1 = .ok (.getfield 13, 3) := by decide +kernel
theorem dX7_of_4 : decode cX7_of 4 = .ok (.bipush 7, 2) := by decide +kernel
theorem dX7_of_6 : decode cX7_of 6 = .ok (.iload_n 1, 1) := by decide +kernel
theorem dX7_of_7 : decode cX7_of 7 = .ok (.imul, 1) := by decide +kernel
theorem dX7_of_8 : decode cX7_of 8 = .ok (.iload_n 2, 1) := by decide +kernel
theorem dX7_of_9 : decode cX7_of 9 = .ok (.iadd, 1) := by decide +kernel
theorem dX7_of_10 : decode cX7_of 10 = .ok (.iaload, 1) := by decide +kernel
theorem dX7_of_11 : decode cX7_of 11 = .ok (.ireturn, 1) := by decide +kernel
set_option maxRecDepth 20000 in
theorem ggX7_sentence__X7_isIn : GoodIn wsX7_sentence_ wsX7_isIn := goodIn_r _ [6] (by decide +kernel) (by decide +kernel)
set_option maxRecDepth 20000 in
theorem gX7_sentence__X7_isIn : GoodIn wsX7_sentence_ (va_wsS RX7 176 yX7_isIn wsX7_isIn) := goodIn_app (goodIn_of _ (by decide +kernel)) ggX7_sentence__X7_isIn
set_option maxRecDepth 20000 in
theorem ggX7_sentence__X7_of : GoodIn wsX7_sentence_ wsX7_of := goodIn_r _ [10, 11, 12, 13, 14, 15, 16, 17, 18, 19, 20, 21, 22, 23, 24, 25, 26, 27, 28, 29, 30, 31, 32, 33, 34, 35, 36, 37, 38] (by decide +kernel) (by decide +kernel)
set_option maxRecDepth 20000 in
theorem gX7_sentence__X7_of : GoodIn wsX7_sentence_ (wsV RX7 214 RX7 yX7_of wsX7_of) := goodIn_app (goodIn_of _ (by decide +kernel)) ggX7_sentence__X7_of
theorem dX7_sentence__0 : decode cX7_sentence_ 0 = .ok (.aload_n 0, 1) := by decide +kernel
theorem dX7_sentence__1 : decode cX7_sentence_ 1 = .ok (.iload_n 1, 1) := by decide +kernel
theorem dX7_sentence__2 : decode cX7_sentence_ 2 = .ok (.iconst 0, 1) := by decide +kernel
theorem dX7_sentence__3 : decode cX7_sentence_ 3 = .ok (.aload_n 0, 1) := by decide +kernel
theorem dX7_sentence__4 : decode cX7_sentence_ 4 = .ok (.getfield 205, 3) := by decide +kernel
theorem dX7_sentence__7 : decode cX7_sentence_ 7 = .ok (.iconst 1, 1) := by decide +kernel
theorem dX7_sentence__8 : decode cX7_sentence_ 8 = .ok (.isub, 1) := by decide +kernel
theorem dX7_sentence__9 : decode cX7_sentence_ 9 = .ok (.invokestatic 176, 3) := by decide +kernel
theorem dX7_sentence__12 : decode cX7_sentence_ 12 = .ok (.ifCond .eq 13, 3) := by decide +kernel
theorem dX7_sentence__15 : decode cX7_sentence_ 15 = .ok (.iload_n 2, 1) := by decide +kernel
theorem dX7_sentence__16 : decode cX7_sentence_ 16 = .ok (.iconst 0, 1) := by decide +kernel
theorem dX7_sentence__17 : decode cX7_sentence_ 17 = .ok (.bipush 6, 2) := by decide +kernel
theorem dX7_sentence__19 : decode cX7_sentence_ 19 = .ok (.invokestatic 176, 3) := by decide +kernel
theorem dX7_sentence__22 : decode cX7_sentence_ 22 = .ok (.ifCond .ne 7, 3) := by decide +kernel
theorem dX7_sentence__25 : decode cX7_sentence_ 25 = .ok (.iconst 1, 1) := by decide +kernel
theorem dX7_sentence__26 : decode cX7_sentence_ 26 = .ok (.goto 4, 3) := by decide +kernel
theorem dX7_sentence__29 : decode cX7_sentence_ 29 = .ok (.iconst 0, 1) := by decide +kernel
theorem dX7_sentence__30 : decode cX7_sentence_ 30 = .ok (.putfield 42, 3) := by decide +kernel
theorem dX7_sentence__33 : decode cX7_sentence_ 33 = .ok (.aload_n 0, 1) := by decide +kernel
theorem dX7_sentence__34 : decode cX7_sentence_ 34 = .ok (.getfield 42, 3) := by decide +kernel
theorem dX7_sentence__37 : decode cX7_sentence_ 37 = .ok (.ifCond .le 7, 3) := by decide +kernel
theorem dX7_sentence__40 : decode cX7_sentence_ 40 = .ok (.iconst 0, 1) := by decide +kernel
theorem dX7_sentence__41 : decode cX7_sentence_ 41 = .ok (.goto 9, 3) := by decide +kernel
theorem dX7_sentence__44 : decode cX7_sentence_ 44 = .ok (.aload_n 0, 1) := by decide +kernel
theorem dX7_sentence__45 : decode cX7_sentence_ 45 = .ok (.iload_n 1, 1) := by decide +kernel
theorem dX7_sentence__46 : decode cX7_sentence_ 46 = .ok (.iload_n 2, 1) := by decide +kernel
theorem dX7_sentence__47 : decode cX7_sentence_ 47 = .ok (.invokevirtual 214, 3) := by decide +kernel
theorem dX7_sentence__50 : decode cX7_sentence_ 50 = .ok (.ireturn, 1) := by decide +kernel
set_option maxRecDepth 20000 in
theorem ggX7_question_X7_isIn : GoodIn wsX7_question wsX7_isIn := goodIn_r _ [7] (by decide +kernel) (by decide +kernel)
set_option maxRecDepth 20000 in
theorem gX7_question_X7_isIn : GoodIn wsX7_question (va_wsS RX7 176 yX7_isIn wsX7_isIn) := goodIn_app (goodIn_of _ (by decide +kernel)) ggX7_question_X7_isIn
theorem dX7_question_0 : decode cX7_question 0 = .ok (.aload_n 0, 1) := by decide +kernel
theorem dX7_question_1 : decode cX7_question 1 = .ok (.iconst 0, 1) := by decide +kernel
theorem dX7_question_2 : decode cX7_question 2 = .ok (.putfield 42, 3) := by decide +kernel
theorem dX7_question_5 : decode cX7_question 5 = .ok (.aload_n 0, 1) := by decide +kernel
theorem dX7_question_6 : decode cX7_question 6 = .ok (.getfield 207, 3) := by decide +kernel
theorem dX7_question_9 : decode cX7_question 9 = .ok (.ifCond .eq 21, 3) := by decide +kernel
theorem dX7_question_12 : decode cX7_question 12 = .ok (.iload_n 1, 1) := by decide +kernel
theorem dX7_question_13 : decode cX7_question 13 = .ok (.iconst 0, 1) := by decide +kernel
theorem dX7_question_14 : decode cX7_question 14 = .ok (.iconst 4, 1) := by decide +kernel
theorem dX7_question_15 : decode cX7_question 15 = .ok (.invokestatic 176, 3) := by decide +kernel
theorem dX7_question_18 : decode cX7_question 18 = .ok (.ifCond .eq 12, 3) := by decide +kernel
theorem dX7_question_21 : decode cX7_question 21 = .ok (.aload_n 0, 1) := by decide +kernel
theorem dX7_question_22 : decode cX7_question 22 = .ok (.getfield 20, 3) := by decide +kernel
theorem dX7_question_25 : decode cX7_question 25 = .ok (.iload_n 1, 1) := by decide +kernel
theorem dX7_question_26 : decode cX7_question 26 = .ok (.iaload, 1) := by decide +kernel
theorem dX7_question_27 : decode cX7_question 27 = .ok (.goto 4, 3) := by decide +kernel
theorem dX7_question_30 : decode cX7_question 30 = .ok (.iconst (-1), 1) := by decide +kernel
theorem dX7_question_31 : decode cX7_question 31 = .ok (.ireturn, 1) := by decide +kernel
set_option maxRecDepth 20000 in
theorem ggX7_more_X7_of : GoodIn wsX7_more wsX7_of := goodIn_r _ [6, 7, 8, 9, 10, 11, 12, 13, 14, 15, 16, 17, 18, 19, 20, 21, 22, 23, 24, 25, 26, 27, 28, 29, 30, 31, 32, 33, 34] (by decide +kernel) (by decide +kernel)
set_option maxRecDepth 20000 in
theorem gX7_more_X7_of : GoodIn wsX7_more (wsV RX7 214 RX7 yX7_of wsX7_of) := goodIn_app (goodIn_of _ (by decide +kernel)) ggX7_more_X7_of
theorem dX7_more_0 : decode cX7_more 0 = .ok (.iconst 0, 1) := by decide +kernel
theorem dX7_more_1 : decode cX7_more 1 = .ok (.istore 4, 2) := by decide +kernel
theorem dX7_more_3 : decode cX7_more 3 = .ok (.iconst 0, 1) := by decide +kernel
theorem dX7_more_4 : decode cX7_more 4 = .ok (.istore 5, 2) := by decide +kernel
theorem dX7_more_6 : decode cX7_more 6 = .ok (.iload 5, 2) := by decide +kernel
theorem dX7_more_8 : decode cX7_more 8 = .ok (.aload_n 0, 1) := by decide +kernel
theorem dX7_more_9 : decode cX7_more 9 = .ok (.getfield 205, 3) := by decide +kernel
theorem dX7_more_12 : decode cX7_more 12 = .ok (.if_icmp .ge 119, 3) := by decide +kernel
theorem dX7_more_15 : decode cX7_more 15 = .ok (.aload_n 0, 1) := by decide +kernel
theorem dX7_more_16 : decode cX7_more 16 = .ok (.iload 5, 2) := by decide +kernel
theorem dX7_more_18 : decode cX7_more 18 = .ok (.iconst 0, 1) := by decide +kernel
theorem dX7_more_19 : decode cX7_more 19 = .ok (.invokevirtual 214, 3) := by decide +kernel
theorem dX7_more_22 : decode cX7_more 22 = .ok (.iconst 5, 1) := by decide +kernel
theorem dX7_more_23 : decode cX7_more 23 = .ok (.if_icmp .lt 102, 3) := by decide +kernel
theorem dX7_more_26 : decode cX7_more 26 = .ok (.aload_n 0, 1) := by decide +kernel
theorem dX7_more_27 : decode cX7_more 27 = .ok (.iload 5, 2) := by decide +kernel
theorem dX7_more_29 : decode cX7_more 29 = .ok (.iconst 3, 1) := by decide +kernel
theorem dX7_more_30 : decode cX7_more 30 = .ok (.invokevirtual 214, 3) := by decide +kernel
theorem dX7_more_33 : decode cX7_more 33 = .ok (.iload_n 2, 1) := by decide +kernel
theorem dX7_more_34 : decode cX7_more 34 = .ok (.if_icmp .ne 91, 3) := by decide +kernel
theorem dX7_more_37 : decode cX7_more 37 = .ok (.aload_n 0, 1) := by decide +kernel
theorem dX7_more_38 : decode cX7_more 38 = .ok (.iload 5, 2) := by decide +kernel
theorem dX7_more_40 : decode cX7_more 40 = .ok (.iconst 5, 1) := by decide +kernel
theorem dX7_more_41 : decode cX7_more 41 = .ok (.invokevirtual 214, 3) := by decide +kernel
theorem dX7_more_44 : decode cX7_more 44 = .ok (.iload_n 3, 1) := by decide +kernel
theorem dX7_more_45 : decode cX7_more 45 = .ok (.if_icmp .lt 6, 3) := by decide +kernel
theorem dX7_more_48 : decode cX7_more 48 = .ok (.goto 77, 3) := by decide +kernel
theorem dX7_more_51 : decode cX7_more 51 = .ok (.aload_n 0, 1) := by decide +kernel
theorem dX7_more_52 : decode cX7_more 52 = .ok (.iload 5, 2) := by decide +kernel
theorem dX7_more_54 : decode cX7_more 54 = .ok (.iconst 4, 1) := by decide +kernel
theorem dX7_more_55 : decode cX7_more 55 = .ok (.invokevirtual 214, 3) := by decide +kernel
theorem dX7_more_58 : decode cX7_more 58 = .ok (.istore 6, 2) := by decide +kernel
theorem dX7_more_60 : decode cX7_more 60 = .ok (.aload_n 0, 1) := by decide +kernel
theorem dX7_more_61 : decode cX7_more 61 = .ok (.iload 5, 2) := by decide +kernel
theorem dX7_more_63 : decode cX7_more 63 = .ok (.iconst 1, 1) := by decide +kernel
theorem dX7_more_64 : decode cX7_more 64 = .ok (.invokevirtual 214, 3) := by decide +kernel
theorem dX7_more_67 : decode cX7_more 67 = .ok (.iload_n 1, 1) := by decide +kernel
theorem dX7_more_68 : decode cX7_more 68 = .ok (.if_icmp .ne 28, 3) := by decide +kernel
theorem dX7_more_71 : decode cX7_more 71 = .ok (.iload 4, 2) := by decide +kernel
theorem dX7_more_73 : decode cX7_more 73 = .ok (.aload_n 0, 1) := by decide +kernel
theorem dX7_more_74 : decode cX7_more 74 = .ok (.iload 5, 2) := by decide +kernel
theorem dX7_more_76 : decode cX7_more 76 = .ok (.iconst 0, 1) := by decide +kernel
theorem dX7_more_77 : decode cX7_more 77 = .ok (.invokevirtual 214, 3) := by decide +kernel
theorem dX7_more_80 : decode cX7_more 80 = .ok (.bipush 6, 2) := by decide +kernel
theorem dX7_more_82 : decode cX7_more 82 = .ok (.if_icmp .ne 8, 3) := by decide +kernel
theorem dX7_more_85 : decode cX7_more 85 = .ok (.iload 6, 2) := by decide +kernel
theorem dX7_more_87 : decode cX7_more 87 = .ok (.goto 6, 3) := by decide +kernel
theorem dX7_more_90 : decode cX7_more 90 = .ok (.iload 6, 2) := by decide +kernel
theorem dX7_more_92 : decode cX7_more 92 = .ok (.ineg, 1) := by decide +kernel
theorem dX7_more_93 : decode cX7_more 93 = .ok (.iadd, 1) := by decide +kernel
theorem dX7_more_94 : decode cX7_more 94 = .ok (.istore 4, 2) := by decide +kernel
theorem dX7_more_96 : decode cX7_more 96 = .ok (.aload_n 0, 1) := by decide +kernel
theorem dX7_more_97 : decode cX7_more 97 = .ok (.iload 5, 2) := by decide +kernel
theorem dX7_more_99 : decode cX7_more 99 = .ok (.iconst 0, 1) := by decide +kernel
theorem dX7_more_100 : decode cX7_more 100 = .ok (.invokevirtual 214, 3) := by decide +kernel
theorem dX7_more_103 : decode cX7_more 103 = .ok (.iconst 5, 1) := by decide +kernel
theorem dX7_more_104 : decode cX7_more 104 = .ok (.if_icmp .ne 21, 3) := by decide +kernel
theorem dX7_more_107 : decode cX7_more 107 = .ok (.aload_n 0, 1) := by decide +kernel
theorem dX7_more_108 : decode cX7_more 108 = .ok (.iload 5, 2) := by decide +kernel
theorem dX7_more_110 : decode cX7_more 110 = .ok (.iconst 2, 1) := by decide +kernel
theorem dX7_more_111 : decode cX7_more 111 = .ok (.invokevirtual 214, 3) := by decide +kernel
theorem dX7_more_114 : decode cX7_more 114 = .ok (.iload_n 1, 1) := by decide +kernel
theorem dX7_more_115 : decode cX7_more 115 = .ok (.if_icmp .ne 10, 3) := by decide +kernel
theorem dX7_more_118 : decode cX7_more 118 = .ok (.iload 4, 2) := by decide +kernel
theorem dX7_more_120 : decode cX7_more 120 = .ok (.iload 6, 2) := by decide +kernel
theorem dX7_more_122 : decode cX7_more 122 = .ok (.iadd, 1) := by decide +kernel
theorem dX7_more_123 : decode cX7_more 123 = .ok (.istore 4, 2) := by decide +kernel
theorem dX7_more_125 : decode cX7_more 125 = .ok (.iinc 5 1, 3) := by decide +kernel
theorem dX7_more_128 : decode cX7_more 128 = .ok (.goto (-122), 3) := by decide +kernel
theorem dX7_more_131 : decode cX7_more 131 = .ok (.iload 4, 2) := by decide +kernel
theorem dX7_more_133 : decode cX7_more 133 = .ok (.ireturn, 1) := by decide +kernel
theorem dX7_common_0 : decode cX7_common 0 = .ok (.lload_n 0, 1) := by decide +kernel
theorem dX7_common_1 : decode cX7_common 1 = .ok (.invokestatic 217, 3) := by decide +kernel
theorem dX7_common_4 : decode cX7_common 4 = .ok (.lstore 4, 2) := by decide +kernel
theorem dX7_common_6 : decode cX7_common 6 = .ok (.lload_n 2, 1) := by decide +kernel
theorem dX7_common_7 : decode cX7_common 7 = .ok (.invokestatic 217, 3) := by decide +kernel
theorem dX7_common_10 : decode cX7_common 10 = .ok (.lstore 6, 2) := by decide +kernel
theorem dX7_common_12 : decode cX7_common 12 = .ok (.lload 6, 2) := by decide +kernel
theorem dX7_common_14 : decode cX7_common 14 = .ok (.lconst 0, 1) := by decide +kernel
theorem dX7_common_15 : decode cX7_common 15 = .ok (.lcmp, 1) := by decide +kernel
theorem dX7_common_16 : decode cX7_common 16 = .ok (.ifCond .eq 21, 3) := by decide +kernel
theorem dX7_common_19 : decode cX7_common 19 = .ok (.lload 4, 2) := by decide +kernel
theorem dX7_common_21 : decode cX7_common 21 = .ok (.lload 6, 2) := by decide +kernel
theorem dX7_common_23 : decode cX7_common 23 = .ok (.lrem, 1) := by decide +kernel
theorem dX7_common_24 : decode cX7_common 24 = .ok (.lstore 8, 2) := by decide +kernel
theorem dX7_common_26 : decode cX7_common 26 = .ok (.lload 6, 2) := by decide +kernel
theorem dX7_common_28 : decode cX7_common 28 = .ok (.lstore 4, 2) := by decide +kernel
theorem dX7_common_30 : decode cX7_common 30 = .ok (.lload 8, 2) := by decide +kernel
theorem dX7_common_32 : decode cX7_common 32 = .ok (.lstore 6, 2) := by decide +kernel
theorem dX7_common_34 : decode cX7_common 34 = .ok (.goto (-22), 3) := by decide +kernel
theorem dX7_common_37 : decode cX7_common 37 = .ok (.lload 4, 2) := by decide +kernel
theorem dX7_common_39 : decode cX7_common 39 = .ok (.lreturn, 1) := by decide +kernel
set_option maxRecDepth 20000 in
theorem ggX7_law_X7_of : GoodIn wsX7_law wsX7_of := goodIn_r _ [7, 8, 14, 15, 16, 17, 18, 19, 20, 21, 22, 23, 24, 25, 26, 27, 28, 29, 30, 31, 32, 33, 34, 35, 36, 37, 38, 39, 40] (by decide +kernel) (by decide +kernel)
set_option maxRecDepth 20000 in
theorem gX7_law_X7_of : GoodIn wsX7_law (wsV RX7 214 RX7 yX7_of wsX7_of) := goodIn_app (goodIn_of _ (by decide +kernel)) ggX7_law_X7_of
set_option maxRecDepth 20000 in
theorem ggX7_law_X7_more : GoodIn wsX7_law wsX7_more := goodIn_r _ [12, 13, 3, 4, 5, 6, 7, 8, 14, 15, 16, 17, 18, 19, 20, 21, 22, 23, 24, 25, 26, 27, 28, 29, 30, 31, 32, 33, 34, 35, 36, 37, 38, 39, 40] (by decide +kernel) (by decide +kernel)
set_option maxRecDepth 20000 in
theorem gX7_law_X7_more : GoodIn wsX7_law (wsV RX7 223 RX7 yX7_more wsX7_more) := goodIn_app (goodIn_of _ (by decide +kernel)) ggX7_law_X7_more
theorem dX7_law_0 : decode cX7_law 0 = .ok (.iconst 0, 1) := by decide +kernel
theorem dX7_law_1 : decode cX7_law 1 = .ok (.istore_n 2, 1) := by decide +kernel
theorem dX7_law_2 : decode cX7_law 2 = .ok (.iload_n 2, 1) := by decide +kernel
theorem dX7_law_3 : decode cX7_law 3 = .ok (.bipush 9, 2) := by decide +kernel
theorem dX7_law_5 : decode cX7_law 5 = .ok (.if_icmp .ge 16, 3) := by decide +kernel
theorem dX7_law_8 : decode cX7_law 8 = .ok (.aload_n 0, 1) := by decide +kernel
theorem dX7_law_9 : decode cX7_law 9 = .ok (.getfield 36, 3) := by decide +kernel
theorem dX7_law_12 : decode cX7_law 12 = .ok (.iload_n 2, 1) := by decide +kernel
theorem dX7_law_13 : decode cX7_law 13 = .ok (.lconst 0, 1) := by decide +kernel
theorem dX7_law_14 : decode cX7_law 14 = .ok (.lastore, 1) := by decide +kernel
theorem dX7_law_15 : decode cX7_law 15 = .ok (.iinc 2 1, 3) := by decide +kernel
theorem dX7_law_18 : decode cX7_law 18 = .ok (.goto (-16), 3) := by decide +kernel
theorem dX7_law_21 : decode cX7_law 21 = .ok (.aload_n 0, 1) := by decide +kernel
theorem dX7_law_22 : decode cX7_law 22 = .ok (.iload_n 1, 1) := by decide +kernel
theorem dX7_law_23 : decode cX7_law 23 = .ok (.iconst 3, 1) := by decide +kernel
theorem dX7_law_24 : decode cX7_law 24 = .ok (.invokevirtual 214, 3) := by decide +kernel
theorem dX7_law_27 : decode cX7_law 27 = .ok (.istore_n 2, 1) := by decide +kernel
theorem dX7_law_28 : decode cX7_law 28 = .ok (.aload_n 0, 1) := by decide +kernel
theorem dX7_law_29 : decode cX7_law 29 = .ok (.iload_n 1, 1) := by decide +kernel
theorem dX7_law_30 : decode cX7_law 30 = .ok (.iconst 5, 1) := by decide +kernel
theorem dX7_law_31 : decode cX7_law 31 = .ok (.invokevirtual 214, 3) := by decide +kernel
theorem dX7_law_34 : decode cX7_law 34 = .ok (.istore_n 3, 1) := by decide +kernel
theorem dX7_law_35 : decode cX7_law 35 = .ok (.aload_n 0, 1) := by decide +kernel
theorem dX7_law_36 : decode cX7_law 36 = .ok (.iload_n 1, 1) := by decide +kernel
theorem dX7_law_37 : decode cX7_law 37 = .ok (.iconst 1, 1) := by decide +kernel
theorem dX7_law_38 : decode cX7_law 38 = .ok (.invokevirtual 214, 3) := by decide +kernel
theorem dX7_law_41 : decode cX7_law 41 = .ok (.istore 4, 2) := by decide +kernel
theorem dX7_law_43 : decode cX7_law 43 = .ok (.aload_n 0, 1) := by decide +kernel
theorem dX7_law_44 : decode cX7_law 44 = .ok (.iload_n 1, 1) := by decide +kernel
theorem dX7_law_45 : decode cX7_law 45 = .ok (.iconst 2, 1) := by decide +kernel
theorem dX7_law_46 : decode cX7_law 46 = .ok (.invokevirtual 214, 3) := by decide +kernel
theorem dX7_law_49 : decode cX7_law 49 = .ok (.istore 5, 2) := by decide +kernel
theorem dX7_law_51 : decode cX7_law 51 = .ok (.aload_n 0, 1) := by decide +kernel
theorem dX7_law_52 : decode cX7_law 52 = .ok (.iload_n 1, 1) := by decide +kernel
theorem dX7_law_53 : decode cX7_law 53 = .ok (.iconst 4, 1) := by decide +kernel
theorem dX7_law_54 : decode cX7_law 54 = .ok (.invokevirtual 214, 3) := by decide +kernel
theorem dX7_law_57 : decode cX7_law 57 = .ok (.i2l, 1) := by decide +kernel
theorem dX7_law_58 : decode cX7_law 58 = .ok (.lstore 6, 2) := by decide +kernel
theorem dX7_law_60 : decode cX7_law 60 = .ok (.aload_n 0, 1) := by decide +kernel
theorem dX7_law_61 : decode cX7_law 61 = .ok (.iload 4, 2) := by decide +kernel
theorem dX7_law_63 : decode cX7_law 63 = .ok (.iload_n 2, 1) := by decide +kernel
theorem dX7_law_64 : decode cX7_law 64 = .ok (.iload_n 3, 1) := by decide +kernel
theorem dX7_law_65 : decode cX7_law 65 = .ok (.invokevirtual 223, 3) := by decide +kernel
theorem dX7_law_68 : decode cX7_law 68 = .ok (.i2l, 1) := by decide +kernel
theorem dX7_law_69 : decode cX7_law 69 = .ok (.lstore 8, 2) := by decide +kernel
theorem dX7_law_71 : decode cX7_law 71 = .ok (.iload 5, 2) := by decide +kernel
theorem dX7_law_73 : decode cX7_law 73 = .ok (.iconst (-1), 1) := by decide +kernel
theorem dX7_law_74 : decode cX7_law 74 = .ok (.if_icmp .ne 7, 3) := by decide +kernel
theorem dX7_law_77 : decode cX7_law 77 = .ok (.lconst 0, 1) := by decide +kernel
theorem dX7_law_78 : decode cX7_law 78 = .ok (.goto 12, 3) := by decide +kernel
theorem dX7_law_81 : decode cX7_law 81 = .ok (.aload_n 0, 1) := by decide +kernel
theorem dX7_law_82 : decode cX7_law 82 = .ok (.iload 5, 2) := by decide +kernel
theorem dX7_law_84 : decode cX7_law 84 = .ok (.iload_n 2, 1) := by decide +kernel
theorem dX7_law_85 : decode cX7_law 85 = .ok (.iload_n 3, 1) := by decide +kernel
theorem dX7_law_86 : decode cX7_law 86 = .ok (.invokevirtual 223, 3) := by decide +kernel
theorem dX7_law_89 : decode cX7_law 89 = .ok (.i2l, 1) := by decide +kernel
theorem dX7_law_90 : decode cX7_law 90 = .ok (.lstore 10, 2) := by decide +kernel
theorem dX7_law_92 : decode cX7_law 92 = .ok (.aload_n 0, 1) := by decide +kernel
theorem dX7_law_93 : decode cX7_law 93 = .ok (.getfield 36, 3) := by decide +kernel
theorem dX7_law_96 : decode cX7_law 96 = .ok (.iload 4, 2) := by decide +kernel
theorem dX7_law_98 : decode cX7_law 98 = .ok (.lconst 1, 1) := by decide +kernel
theorem dX7_law_99 : decode cX7_law 99 = .ok (.lastore, 1) := by decide +kernel
theorem dX7_law_100 : decode cX7_law 100 = .ok (.aload_n 0, 1) := by decide +kernel
theorem dX7_law_101 : decode cX7_law 101 = .ok (.iload_n 1, 1) := by decide +kernel
theorem dX7_law_102 : decode cX7_law 102 = .ok (.iconst 0, 1) := by decide +kernel
theorem dX7_law_103 : decode cX7_law 103 = .ok (.invokevirtual 214, 3) := by decide +kernel
theorem dX7_law_106 : decode cX7_law 106 = .ok (.tableswitch 117 0 3 #[30, 45, 45, 89], 30) := by decide +kernel
theorem dX7_law_136 : decode cX7_law 136 = .ok (.aload_n 0, 1) := by decide +kernel
theorem dX7_law_137 : decode cX7_law 137 = .ok (.getfield 36, 3) := by decide +kernel
theorem dX7_law_140 : decode cX7_law 140 = .ok (.bipush 8, 2) := by decide +kernel
theorem dX7_law_142 : decode cX7_law 142 = .ok (.lload 6, 2) := by decide +kernel
theorem dX7_law_144 : decode cX7_law 144 = .ok (.lload 8, 2) := by decide +kernel
theorem dX7_law_146 : decode cX7_law 146 = .ok (.lsub, 1) := by decide +kernel
theorem dX7_law_147 : decode cX7_law 147 = .ok (.lastore, 1) := by decide +kernel
theorem dX7_law_148 : decode cX7_law 148 = .ok (.goto 98, 3) := by decide +kernel
theorem dX7_law_151 : decode cX7_law 151 = .ok (.aload_n 0, 1) := by decide +kernel
theorem dX7_law_152 : decode cX7_law 152 = .ok (.getfield 36, 3) := by decide +kernel
theorem dX7_law_155 : decode cX7_law 155 = .ok (.iload 5, 2) := by decide +kernel
theorem dX7_law_157 : decode cX7_law 157 = .ok (.ldc2_w 226, 3) := by decide +kernel
theorem dX7_law_160 : decode cX7_law 160 = .ok (.lastore, 1) := by decide +kernel
theorem dX7_law_161 : decode cX7_law 161 = .ok (.aload_n 0, 1) := by decide +kernel
theorem dX7_law_162 : decode cX7_law 162 = .ok (.getfield 36, 3) := by decide +kernel
theorem dX7_law_165 : decode cX7_law 165 = .ok (.bipush 8, 2) := by decide +kernel
theorem dX7_law_167 : decode cX7_law 167 = .ok (.aload_n 0, 1) := by decide +kernel
theorem dX7_law_168 : decode cX7_law 168 = .ok (.iload_n 1, 1) := by decide +kernel
theorem dX7_law_169 : decode cX7_law 169 = .ok (.iconst 0, 1) := by decide +kernel
theorem dX7_law_170 : decode cX7_law 170 = .ok (.invokevirtual 214, 3) := by decide +kernel
theorem dX7_law_173 : decode cX7_law 173 = .ok (.iconst 1, 1) := by decide +kernel
theorem dX7_law_174 : decode cX7_law 174 = .ok (.if_icmp .ne 8, 3) := by decide +kernel
theorem dX7_law_177 : decode cX7_law 177 = .ok (.lload 6, 2) := by decide +kernel
theorem dX7_law_179 : decode cX7_law 179 = .ok (.goto 6, 3) := by decide +kernel
theorem dX7_law_182 : decode cX7_law 182 = .ok (.lload 6, 2) := by decide +kernel
theorem dX7_law_184 : decode cX7_law 184 = .ok (.lneg, 1) := by decide +kernel
theorem dX7_law_185 : decode cX7_law 185 = .ok (.lload 10, 2) := by decide +kernel
theorem dX7_law_187 : decode cX7_law 187 = .ok (.ladd, 1) := by decide +kernel
theorem dX7_law_188 : decode cX7_law 188 = .ok (.lload 8, 2) := by decide +kernel
theorem dX7_law_190 : decode cX7_law 190 = .ok (.lsub, 1) := by decide +kernel
theorem dX7_law_191 : decode cX7_law 191 = .ok (.lastore, 1) := by decide +kernel
theorem dX7_law_192 : decode cX7_law 192 = .ok (.goto 54, 3) := by decide +kernel
theorem dX7_law_195 : decode cX7_law 195 = .ok (.aload_n 0, 1) := by decide +kernel
theorem dX7_law_196 : decode cX7_law 196 = .ok (.getfield 36, 3) := by decide +kernel
theorem dX7_law_199 : decode cX7_law 199 = .ok (.iload 5, 2) := by decide +kernel
theorem dX7_law_201 : decode cX7_law 201 = .ok (.lload 6, 2) := by decide +kernel
theorem dX7_law_203 : decode cX7_law 203 = .ok (.lneg, 1) := by decide +kernel
theorem dX7_law_204 : decode cX7_law 204 = .ok (.lastore, 1) := by decide +kernel
theorem dX7_law_205 : decode cX7_law 205 = .ok (.aload_n 0, 1) := by decide +kernel
theorem dX7_law_206 : decode cX7_law 206 = .ok (.getfield 36, 3) := by decide +kernel
theorem dX7_law_209 : decode cX7_law 209 = .ok (.bipush 8, 2) := by decide +kernel
theorem dX7_law_211 : decode cX7_law 211 = .ok (.lload 6, 2) := by decide +kernel
theorem dX7_law_213 : decode cX7_law 213 = .ok (.lload 10, 2) := by decide +kernel
theorem dX7_law_215 : decode cX7_law 215 = .ok (.lmul, 1) := by decide +kernel
theorem dX7_law_216 : decode cX7_law 216 = .ok (.lload 8, 2) := by decide +kernel
theorem dX7_law_218 : decode cX7_law 218 = .ok (.lsub, 1) := by decide +kernel
theorem dX7_law_219 : decode cX7_law 219 = .ok (.lastore, 1) := by decide +kernel
theorem dX7_law_220 : decode cX7_law 220 = .ok (.goto 26, 3) := by decide +kernel
theorem dX7_law_223 : decode cX7_law 223 = .ok (.aload_n 0, 1) := by decide +kernel
theorem dX7_law_224 : decode cX7_law 224 = .ok (.getfield 36, 3) := by decide +kernel
theorem dX7_law_227 : decode cX7_law 227 = .ok (.iload 5, 2) := by decide +kernel
theorem dX7_law_229 : decode cX7_law 229 = .ok (.lconst 1, 1) := by decide +kernel
theorem dX7_law_230 : decode cX7_law 230 = .ok (.lastore, 1) := by decide +kernel
theorem dX7_law_231 : decode cX7_law 231 = .ok (.aload_n 0, 1) := by decide +kernel
theorem dX7_law_232 : decode cX7_law 232 = .ok (.getfield 36, 3) := by decide +kernel
theorem dX7_law_235 : decode cX7_law 235 = .ok (.bipush 8, 2) := by decide +kernel
theorem dX7_law_237 : decode cX7_law 237 = .ok (.lload 6, 2) := by decide +kernel
theorem dX7_law_239 : decode cX7_law 239 = .ok (.lload 8, 2) := by decide +kernel
theorem dX7_law_241 : decode cX7_law 241 = .ok (.lsub, 1) := by decide +kernel
theorem dX7_law_242 : decode cX7_law 242 = .ok (.lload 10, 2) := by decide +kernel
theorem dX7_law_244 : decode cX7_law 244 = .ok (.lsub, 1) := by decide +kernel
theorem dX7_law_245 : decode cX7_law 245 = .ok (.lastore, 1) := by decide +kernel
theorem dX7_law_246 : decode cX7_law 246 = .ok (.return_, 1) := by decide +kernel
set_option maxRecDepth 20000 in
theorem ggX7_adds_X7_common : GoodIn wsX7_adds wsX7_common := goodIn_r _ [8, 9, 10, 11, 12] (by decide +kernel) (by decide +kernel)
set_option maxRecDepth 20000 in
theorem gX7_adds_X7_common : GoodIn wsX7_adds (va_wsS RX7 231 yX7_common wsX7_common) := goodIn_app (goodIn_of _ (by decide +kernel)) ggX7_adds_X7_common
theorem dX7_adds_0 : decode cX7_adds 0 = .ok (.iconst 0, 1) := by decide +kernel
theorem dX7_adds_1 : decode cX7_adds 1 = .ok (.istore_n 1, 1) := by decide +kernel
theorem dX7_adds_2 : decode cX7_adds 2 = .ok (.iload_n 1, 1) := by decide +kernel
theorem dX7_adds_3 : decode cX7_adds 3 = .ok (.aload_n 0, 1) := by decide +kernel
theorem dX7_adds_4 : decode cX7_adds 4 = .ok (.getfield 228, 3) := by decide +kernel
theorem dX7_adds_7 : decode cX7_adds 7 = .ok (.if_icmp .ge 148, 3) := by decide +kernel
theorem dX7_adds_10 : decode cX7_adds 10 = .ok (.aload_n 0, 1) := by decide +kernel
theorem dX7_adds_11 : decode cX7_adds 11 = .ok (.getfield 36, 3) := by decide +kernel
theorem dX7_adds_14 : decode cX7_adds 14 = .ok (.aload_n 0, 1) := by decide +kernel
theorem dX7_adds_15 : decode cX7_adds 15 = .ok (.getfield 39, 3) := by decide +kernel
theorem dX7_adds_18 : decode cX7_adds 18 = .ok (.iload_n 1, 1) := by decide +kernel
theorem dX7_adds_19 : decode cX7_adds 19 = .ok (.iaload, 1) := by decide +kernel
theorem dX7_adds_20 : decode cX7_adds 20 = .ok (.laload, 1) := by decide +kernel
theorem dX7_adds_21 : decode cX7_adds 21 = .ok (.lstore_n 2, 1) := by decide +kernel
theorem dX7_adds_22 : decode cX7_adds 22 = .ok (.lload_n 2, 1) := by decide +kernel
theorem dX7_adds_23 : decode cX7_adds 23 = .ok (.lconst 0, 1) := by decide +kernel
theorem dX7_adds_24 : decode cX7_adds 24 = .ok (.lcmp, 1) := by decide +kernel
theorem dX7_adds_25 : decode cX7_adds 25 = .ok (.ifCond .ne 6, 3) := by decide +kernel
theorem dX7_adds_28 : decode cX7_adds 28 = .ok (.goto 121, 3) := by decide +kernel
theorem dX7_adds_31 : decode cX7_adds 31 = .ok (.aload_n 0, 1) := by decide +kernel
theorem dX7_adds_32 : decode cX7_adds 32 = .ok (.getfield 32, 3) := by decide +kernel
theorem dX7_adds_35 : decode cX7_adds 35 = .ok (.bipush 9, 2) := by decide +kernel
theorem dX7_adds_37 : decode cX7_adds 37 = .ok (.iload_n 1, 1) := by decide +kernel
theorem dX7_adds_38 : decode cX7_adds 38 = .ok (.imul, 1) := by decide +kernel
theorem dX7_adds_39 : decode cX7_adds 39 = .ok (.aload_n 0, 1) := by decide +kernel
theorem dX7_adds_40 : decode cX7_adds 40 = .ok (.getfield 39, 3) := by decide +kernel
theorem dX7_adds_43 : decode cX7_adds 43 = .ok (.iload_n 1, 1) := by decide +kernel
theorem dX7_adds_44 : decode cX7_adds 44 = .ok (.iaload, 1) := by decide +kernel
theorem dX7_adds_45 : decode cX7_adds 45 = .ok (.iadd, 1) := by decide +kernel
theorem dX7_adds_46 : decode cX7_adds 46 = .ok (.laload, 1) := by decide +kernel
theorem dX7_adds_47 : decode cX7_adds 47 = .ok (.lstore 4, 2) := by decide +kernel
theorem dX7_adds_49 : decode cX7_adds 49 = .ok (.lconst 0, 1) := by decide +kernel
theorem dX7_adds_50 : decode cX7_adds 50 = .ok (.lstore 6, 2) := by decide +kernel
theorem dX7_adds_52 : decode cX7_adds 52 = .ok (.iconst 0, 1) := by decide +kernel
theorem dX7_adds_53 : decode cX7_adds 53 = .ok (.istore 8, 2) := by decide +kernel
theorem dX7_adds_55 : decode cX7_adds 55 = .ok (.iload 8, 2) := by decide +kernel
theorem dX7_adds_57 : decode cX7_adds 57 = .ok (.bipush 9, 2) := by decide +kernel
theorem dX7_adds_59 : decode cX7_adds 59 = .ok (.if_icmp .ge 55, 3) := by decide +kernel
theorem dX7_adds_62 : decode cX7_adds 62 = .ok (.aload_n 0, 1) := by decide +kernel
theorem dX7_adds_63 : decode cX7_adds 63 = .ok (.getfield 36, 3) := by decide +kernel
theorem dX7_adds_66 : decode cX7_adds 66 = .ok (.iload 8, 2) := by decide +kernel
theorem dX7_adds_68 : decode cX7_adds 68 = .ok (.aload_n 0, 1) := by decide +kernel
theorem dX7_adds_69 : decode cX7_adds 69 = .ok (.getfield 36, 3) := by decide +kernel
theorem dX7_adds_72 : decode cX7_adds 72 = .ok (.iload 8, 2) := by decide +kernel
theorem dX7_adds_74 : decode cX7_adds 74 = .ok (.laload, 1) := by decide +kernel
theorem dX7_adds_75 : decode cX7_adds 75 = .ok (.lload 4, 2) := by decide +kernel
theorem dX7_adds_77 : decode cX7_adds 77 = .ok (.lmul, 1) := by decide +kernel
theorem dX7_adds_78 : decode cX7_adds 78 = .ok (.aload_n 0, 1) := by decide +kernel
theorem dX7_adds_79 : decode cX7_adds 79 = .ok (.getfield 32, 3) := by decide +kernel
theorem dX7_adds_82 : decode cX7_adds 82 = .ok (.bipush 9, 2) := by decide +kernel
theorem dX7_adds_84 : decode cX7_adds 84 = .ok (.iload_n 1, 1) := by decide +kernel
theorem dX7_adds_85 : decode cX7_adds 85 = .ok (.imul, 1) := by decide +kernel
theorem dX7_adds_86 : decode cX7_adds 86 = .ok (.iload 8, 2) := by decide +kernel
theorem dX7_adds_88 : decode cX7_adds 88 = .ok (.iadd, 1) := by decide +kernel
theorem dX7_adds_89 : decode cX7_adds 89 = .ok (.laload, 1) := by decide +kernel
theorem dX7_adds_90 : decode cX7_adds 90 = .ok (.lload_n 2, 1) := by decide +kernel
theorem dX7_adds_91 : decode cX7_adds 91 = .ok (.lmul, 1) := by decide +kernel
theorem dX7_adds_92 : decode cX7_adds 92 = .ok (.lsub, 1) := by decide +kernel
theorem dX7_adds_93 : decode cX7_adds 93 = .ok (.lastore, 1) := by decide +kernel
theorem dX7_adds_94 : decode cX7_adds 94 = .ok (.lload 6, 2) := by decide +kernel
theorem dX7_adds_96 : decode cX7_adds 96 = .ok (.aload_n 0, 1) := by decide +kernel
theorem dX7_adds_97 : decode cX7_adds 97 = .ok (.getfield 36, 3) := by decide +kernel
theorem dX7_adds_100 : decode cX7_adds 100 = .ok (.iload 8, 2) := by decide +kernel
theorem dX7_adds_102 : decode cX7_adds 102 = .ok (.laload, 1) := by decide +kernel
theorem dX7_adds_103 : decode cX7_adds 103 = .ok (.invokestatic 231, 3) := by decide +kernel
theorem dX7_adds_106 : decode cX7_adds 106 = .ok (.lstore 6, 2) := by decide +kernel
theorem dX7_adds_108 : decode cX7_adds 108 = .ok (.iinc 8 1, 3) := by decide +kernel
theorem dX7_adds_111 : decode cX7_adds 111 = .ok (.goto (-56), 3) := by decide +kernel
theorem dX7_adds_114 : decode cX7_adds 114 = .ok (.iconst 0, 1) := by decide +kernel
theorem dX7_adds_115 : decode cX7_adds 115 = .ok (.istore 8, 2) := by decide +kernel
theorem dX7_adds_117 : decode cX7_adds 117 = .ok (.iload 8, 2) := by decide +kernel
theorem dX7_adds_119 : decode cX7_adds 119 = .ok (.bipush 9, 2) := by decide +kernel
theorem dX7_adds_121 : decode cX7_adds 121 = .ok (.if_icmp .ge 28, 3) := by decide +kernel
theorem dX7_adds_124 : decode cX7_adds 124 = .ok (.lload 6, 2) := by decide +kernel
theorem dX7_adds_126 : decode cX7_adds 126 = .ok (.lconst 1, 1) := by decide +kernel
theorem dX7_adds_127 : decode cX7_adds 127 = .ok (.lcmp, 1) := by decide +kernel
theorem dX7_adds_128 : decode cX7_adds 128 = .ok (.ifCond .le 21, 3) := by decide +kernel
theorem dX7_adds_131 : decode cX7_adds 131 = .ok (.aload_n 0, 1) := by decide +kernel
theorem dX7_adds_132 : decode cX7_adds 132 = .ok (.getfield 36, 3) := by decide +kernel
theorem dX7_adds_135 : decode cX7_adds 135 = .ok (.iload 8, 2) := by decide +kernel
theorem dX7_adds_137 : decode cX7_adds 137 = .ok (.dup2, 1) := by decide +kernel
theorem dX7_adds_138 : decode cX7_adds 138 = .ok (.laload, 1) := by decide +kernel
theorem dX7_adds_139 : decode cX7_adds 139 = .ok (.lload 6, 2) := by decide +kernel
theorem dX7_adds_141 : decode cX7_adds 141 = .ok (.ldiv, 1) := by decide +kernel
theorem dX7_adds_142 : decode cX7_adds 142 = .ok (.lastore, 1) := by decide +kernel
theorem dX7_adds_143 : decode cX7_adds 143 = .ok (.iinc 8 1, 3) := by decide +kernel
theorem dX7_adds_146 : decode cX7_adds 146 = .ok (.goto (-29), 3) := by decide +kernel
theorem dX7_adds_149 : decode cX7_adds 149 = .ok (.iinc 1 1, 3) := by decide +kernel
theorem dX7_adds_152 : decode cX7_adds 152 = .ok (.goto (-150), 3) := by decide +kernel
theorem dX7_adds_155 : decode cX7_adds 155 = .ok (.iconst 0, 1) := by decide +kernel
theorem dX7_adds_156 : decode cX7_adds 156 = .ok (.istore_n 1, 1) := by decide +kernel
theorem dX7_adds_157 : decode cX7_adds 157 = .ok (.iload_n 1, 1) := by decide +kernel
theorem dX7_adds_158 : decode cX7_adds 158 = .ok (.bipush 8, 2) := by decide +kernel
theorem dX7_adds_160 : decode cX7_adds 160 = .ok (.if_icmp .ge 20, 3) := by decide +kernel
theorem dX7_adds_163 : decode cX7_adds 163 = .ok (.aload_n 0, 1) := by decide +kernel
theorem dX7_adds_164 : decode cX7_adds 164 = .ok (.getfield 36, 3) := by decide +kernel
theorem dX7_adds_167 : decode cX7_adds 167 = .ok (.iload_n 1, 1) := by decide +kernel
theorem dX7_adds_168 : decode cX7_adds 168 = .ok (.laload, 1) := by decide +kernel
theorem dX7_adds_169 : decode cX7_adds 169 = .ok (.lconst 0, 1) := by decide +kernel
theorem dX7_adds_170 : decode cX7_adds 170 = .ok (.lcmp, 1) := by decide +kernel
theorem dX7_adds_171 : decode cX7_adds 171 = .ok (.ifCond .ne 9, 3) := by decide +kernel
theorem dX7_adds_174 : decode cX7_adds 174 = .ok (.iinc 1 1, 3) := by decide +kernel
theorem dX7_adds_177 : decode cX7_adds 177 = .ok (.goto (-20), 3) := by decide +kernel
theorem dX7_adds_180 : decode cX7_adds 180 = .ok (.iload_n 1, 1) := by decide +kernel
theorem dX7_adds_181 : decode cX7_adds 181 = .ok (.bipush 8, 2) := by decide +kernel
theorem dX7_adds_183 : decode cX7_adds 183 = .ok (.if_icmp .ne 21, 3) := by decide +kernel
theorem dX7_adds_186 : decode cX7_adds 186 = .ok (.aload_n 0, 1) := by decide +kernel
theorem dX7_adds_187 : decode cX7_adds 187 = .ok (.getfield 36, 3) := by decide +kernel
theorem dX7_adds_190 : decode cX7_adds 190 = .ok (.bipush 8, 2) := by decide +kernel
theorem dX7_adds_192 : decode cX7_adds 192 = .ok (.laload, 1) := by decide +kernel
theorem dX7_adds_193 : decode cX7_adds 193 = .ok (.lconst 0, 1) := by decide +kernel
theorem dX7_adds_194 : decode cX7_adds 194 = .ok (.lcmp, 1) := by decide +kernel
theorem dX7_adds_195 : decode cX7_adds 195 = .ok (.ifCond .ne 7, 3) := by decide +kernel
theorem dX7_adds_198 : decode cX7_adds 198 = .ok (.iconst 1, 1) := by decide +kernel
theorem dX7_adds_199 : decode cX7_adds 199 = .ok (.goto 4, 3) := by decide +kernel
theorem dX7_adds_202 : decode cX7_adds 202 = .ok (.iconst 0, 1) := by decide +kernel
theorem dX7_adds_203 : decode cX7_adds 203 = .ok (.ireturn, 1) := by decide +kernel
theorem dX7_adds_204 : decode cX7_adds 204 = .ok (.iconst 0, 1) := by decide +kernel
theorem dX7_adds_205 : decode cX7_adds 205 = .ok (.istore_n 2, 1) := by decide +kernel
theorem dX7_adds_206 : decode cX7_adds 206 = .ok (.iload_n 2, 1) := by decide +kernel
theorem dX7_adds_207 : decode cX7_adds 207 = .ok (.bipush 9, 2) := by decide +kernel
theorem dX7_adds_209 : decode cX7_adds 209 = .ok (.if_icmp .ge 29, 3) := by decide +kernel
theorem dX7_adds_212 : decode cX7_adds 212 = .ok (.aload_n 0, 1) := by decide +kernel
theorem dX7_adds_213 : decode cX7_adds 213 = .ok (.getfield 32, 3) := by decide +kernel
theorem dX7_adds_216 : decode cX7_adds 216 = .ok (.bipush 9, 2) := by decide +kernel
theorem dX7_adds_218 : decode cX7_adds 218 = .ok (.aload_n 0, 1) := by decide +kernel
theorem dX7_adds_219 : decode cX7_adds 219 = .ok (.getfield 228, 3) := by decide +kernel
theorem dX7_adds_222 : decode cX7_adds 222 = .ok (.imul, 1) := by decide +kernel
theorem dX7_adds_223 : decode cX7_adds 223 = .ok (.iload_n 2, 1) := by decide +kernel
theorem dX7_adds_224 : decode cX7_adds 224 = .ok (.iadd, 1) := by decide +kernel
theorem dX7_adds_225 : decode cX7_adds 225 = .ok (.aload_n 0, 1) := by decide +kernel
theorem dX7_adds_226 : decode cX7_adds 226 = .ok (.getfield 36, 3) := by decide +kernel
theorem dX7_adds_229 : decode cX7_adds 229 = .ok (.iload_n 2, 1) := by decide +kernel
theorem dX7_adds_230 : decode cX7_adds 230 = .ok (.laload, 1) := by decide +kernel
theorem dX7_adds_231 : decode cX7_adds 231 = .ok (.lastore, 1) := by decide +kernel
theorem dX7_adds_232 : decode cX7_adds 232 = .ok (.iinc 2 1, 3) := by decide +kernel
theorem dX7_adds_235 : decode cX7_adds 235 = .ok (.goto (-29), 3) := by decide +kernel
theorem dX7_adds_238 : decode cX7_adds 238 = .ok (.aload_n 0, 1) := by decide +kernel
theorem dX7_adds_239 : decode cX7_adds 239 = .ok (.getfield 39, 3) := by decide +kernel
theorem dX7_adds_242 : decode cX7_adds 242 = .ok (.aload_n 0, 1) := by decide +kernel
theorem dX7_adds_243 : decode cX7_adds 243 = .ok (.getfield 228, 3) := by decide +kernel
theorem dX7_adds_246 : decode cX7_adds 246 = .ok (.iload_n 1, 1) := by decide +kernel
theorem dX7_adds_247 : decode cX7_adds 247 = .ok (.iastore, 1) := by decide +kernel
theorem dX7_adds_248 : decode cX7_adds 248 = .ok (.aload_n 0, 1) := by decide +kernel
theorem dX7_adds_249 : decode cX7_adds 249 = .ok (.dup, 1) := by decide +kernel
theorem dX7_adds_250 : decode cX7_adds 250 = .ok (.getfield 228, 3) := by decide +kernel
theorem dX7_adds_253 : decode cX7_adds 253 = .ok (.iconst 1, 1) := by decide +kernel
theorem dX7_adds_254 : decode cX7_adds 254 = .ok (.iadd, 1) := by decide +kernel
theorem dX7_adds_255 : decode cX7_adds 255 = .ok (.putfield 228, 3) := by decide +kernel
theorem dX7_adds_258 : decode cX7_adds 258 = .ok (.iconst 1, 1) := by decide +kernel
theorem dX7_adds_259 : decode cX7_adds 259 = .ok (.ireturn, 1) := by decide +kernel
set_option maxRecDepth 20000 in
theorem ggX7_isFact_X7_of : GoodIn wsX7_isFact wsX7_of := goodIn_r _ [5, 6, 7, 8, 9, 10, 11, 12, 13, 14, 15, 16, 17, 18, 19, 20, 21, 22, 23, 24, 25, 26, 27, 28, 29, 30, 31, 32, 33] (by decide +kernel) (by decide +kernel)
set_option maxRecDepth 20000 in
theorem gX7_isFact_X7_of : GoodIn wsX7_isFact (wsV RX7 214 RX7 yX7_of wsX7_of) := goodIn_app (goodIn_of _ (by decide +kernel)) ggX7_isFact_X7_of
theorem dX7_isFact_0 : decode cX7_isFact 0 = .ok (.aload_n 0, 1) := by decide +kernel
theorem dX7_isFact_1 : decode cX7_isFact 1 = .ok (.iload_n 1, 1) := by decide +kernel
theorem dX7_isFact_2 : decode cX7_isFact 2 = .ok (.iconst 0, 1) := by decide +kernel
theorem dX7_isFact_3 : decode cX7_isFact 3 = .ok (.invokevirtual 214, 3) := by decide +kernel
theorem dX7_isFact_6 : decode cX7_isFact 6 = .ok (.iconst 5, 1) := by decide +kernel
theorem dX7_isFact_7 : decode cX7_isFact 7 = .ok (.if_icmp .ge 7, 3) := by decide +kernel
theorem dX7_isFact_10 : decode cX7_isFact 10 = .ok (.iconst 1, 1) := by decide +kernel
theorem dX7_isFact_11 : decode cX7_isFact 11 = .ok (.goto 4, 3) := by decide +kernel
theorem dX7_isFact_14 : decode cX7_isFact 14 = .ok (.iconst 0, 1) := by decide +kernel
theorem dX7_isFact_15 : decode cX7_isFact 15 = .ok (.ireturn, 1) := by decide +kernel
set_option maxRecDepth 20000 in
theorem ggX7_gather_X7_isFact : GoodIn wsX7_gather wsX7_isFact := goodIn_r _ [7, 8, 9, 10, 6, 11, 12, 36, 37, 38, 39, 40, 41, 42, 43, 44, 45, 46, 47, 48, 49, 50, 51, 52, 53, 54, 55, 56, 57, 58, 59, 60, 61, 62] (by decide +kernel) (by decide +kernel)
set_option maxRecDepth 20000 in
theorem gX7_gather_X7_isFact : GoodIn wsX7_gather (wsV RX7 235 RX7 yX7_isFact wsX7_isFact) := goodIn_app (goodIn_of _ (by decide +kernel)) ggX7_gather_X7_isFact
set_option maxRecDepth 20000 in
theorem ggX7_gather_X7_of : GoodIn wsX7_gather wsX7_of := goodIn_r _ [11, 12, 36, 37, 38, 39, 40, 41, 42, 43, 44, 45, 46, 47, 48, 49, 50, 51, 52, 53, 54, 55, 56, 57, 58, 59, 60, 61, 62] (by decide +kernel) (by decide +kernel)
set_option maxRecDepth 20000 in
theorem gX7_gather_X7_of : GoodIn wsX7_gather (wsV RX7 214 RX7 yX7_of wsX7_of) := goodIn_app (goodIn_of _ (by decide +kernel)) ggX7_gather_X7_of
set_option maxRecDepth 20000 in
theorem ggX7_gather_X7_law : GoodIn wsX7_gather wsX7_law := goodIn_r _ [16, 17, 18, 8, 9, 10, 6, 11, 12, 19, 20, 21, 22, 2, 36, 37, 38, 39, 40, 41, 42, 43, 44, 45, 46, 47, 48, 49, 50, 51, 52, 53, 54, 55, 56, 57, 58, 59, 60, 61, 62] (by decide +kernel) (by decide +kernel)
set_option maxRecDepth 20000 in
theorem gX7_gather_X7_law : GoodIn wsX7_gather (wsV RX7 238 RX7 yX7_law wsX7_law) := goodIn_app (goodIn_of _ (by decide +kernel)) ggX7_gather_X7_law
set_option maxRecDepth 20000 in
theorem ggX7_gather_X7_adds : GoodIn wsX7_gather wsX7_adds := goodIn_r _ [26, 1, 17, 27, 28, 29, 30, 6, 31, 32, 33, 34, 35, 36, 37, 38, 39, 40, 41, 42, 43, 44, 45, 46, 47, 48, 49, 50, 51, 52, 53, 54, 55, 56, 57, 58, 59, 60, 61, 62] (by decide +kernel) (by decide +kernel)
set_option maxRecDepth 20000 in
theorem gX7_gather_X7_adds : GoodIn wsX7_gather (wsV RX7 241 RX7 yX7_adds wsX7_adds) := goodIn_app (goodIn_of _ (by decide +kernel)) ggX7_gather_X7_adds
theorem dX7_gather_0 : decode cX7_gather 0 = .ok (.aload_n 0, 1) := by decide +kernel
theorem dX7_gather_1 : decode cX7_gather 1 = .ok (.iconst 0, 1) := by decide +kernel
theorem dX7_gather_2 : decode cX7_gather 2 = .ok (.putfield 228, 3) := by decide +kernel
theorem dX7_gather_5 : decode cX7_gather 5 = .ok (.iconst 1, 1) := by decide +kernel
theorem dX7_gather_6 : decode cX7_gather 6 = .ok (.istore_n 3, 1) := by decide +kernel
theorem dX7_gather_7 : decode cX7_gather 7 = .ok (.iconst 0, 1) := by decide +kernel
theorem dX7_gather_8 : decode cX7_gather 8 = .ok (.istore 4, 2) := by decide +kernel
theorem dX7_gather_10 : decode cX7_gather 10 = .ok (.iload 4, 2) := by decide +kernel
theorem dX7_gather_12 : decode cX7_gather 12 = .ok (.aload_n 0, 1) := by decide +kernel
theorem dX7_gather_13 : decode cX7_gather 13 = .ok (.getfield 205, 3) := by decide +kernel
theorem dX7_gather_16 : decode cX7_gather 16 = .ok (.if_icmp .ge 56, 3) := by decide +kernel
theorem dX7_gather_19 : decode cX7_gather 19 = .ok (.iload_n 3, 1) := by decide +kernel
theorem dX7_gather_20 : decode cX7_gather 20 = .ok (.ifCond .eq 52, 3) := by decide +kernel
theorem dX7_gather_23 : decode cX7_gather 23 = .ok (.iload_n 2, 1) := by decide +kernel
theorem dX7_gather_24 : decode cX7_gather 24 = .ok (.iload 4, 2) := by decide +kernel
theorem dX7_gather_26 : decode cX7_gather 26 = .ok (.ishr, 1) := by decide +kernel
theorem dX7_gather_27 : decode cX7_gather 27 = .ok (.iconst 1, 1) := by decide +kernel
theorem dX7_gather_28 : decode cX7_gather 28 = .ok (.iand, 1) := by decide +kernel
theorem dX7_gather_29 : decode cX7_gather 29 = .ok (.ifCond .eq 37, 3) := by decide +kernel
theorem dX7_gather_32 : decode cX7_gather 32 = .ok (.aload_n 0, 1) := by decide +kernel
theorem dX7_gather_33 : decode cX7_gather 33 = .ok (.iload 4, 2) := by decide +kernel
theorem dX7_gather_35 : decode cX7_gather 35 = .ok (.invokevirtual 235, 3) := by decide +kernel
theorem dX7_gather_38 : decode cX7_gather 38 = .ok (.ifCond .eq 28, 3) := by decide +kernel
theorem dX7_gather_41 : decode cX7_gather 41 = .ok (.aload_n 0, 1) := by decide +kernel
theorem dX7_gather_42 : decode cX7_gather 42 = .ok (.iload 4, 2) := by decide +kernel
theorem dX7_gather_44 : decode cX7_gather 44 = .ok (.iconst 3, 1) := by decide +kernel
theorem dX7_gather_45 : decode cX7_gather 45 = .ok (.invokevirtual 214, 3) := by decide +kernel
theorem dX7_gather_48 : decode cX7_gather 48 = .ok (.iload_n 1, 1) := by decide +kernel
theorem dX7_gather_49 : decode cX7_gather 49 = .ok (.if_icmp .eq 6, 3) := by decide +kernel
theorem dX7_gather_52 : decode cX7_gather 52 = .ok (.goto 14, 3) := by decide +kernel
theorem dX7_gather_55 : decode cX7_gather 55 = .ok (.aload_n 0, 1) := by decide +kernel
theorem dX7_gather_56 : decode cX7_gather 56 = .ok (.iload 4, 2) := by decide +kernel
theorem dX7_gather_58 : decode cX7_gather 58 = .ok (.invokevirtual 238, 3) := by decide +kernel
theorem dX7_gather_61 : decode cX7_gather 61 = .ok (.aload_n 0, 1) := by decide +kernel
theorem dX7_gather_62 : decode cX7_gather 62 = .ok (.invokevirtual 241, 3) := by decide +kernel
theorem dX7_gather_65 : decode cX7_gather 65 = .ok (.istore_n 3, 1) := by decide +kernel
theorem dX7_gather_66 : decode cX7_gather 66 = .ok (.iinc 4 1, 3) := by decide +kernel
theorem dX7_gather_69 : decode cX7_gather 69 = .ok (.goto (-59), 3) := by decide +kernel
theorem dX7_gather_72 : decode cX7_gather 72 = .ok (.iload_n 3, 1) := by decide +kernel
theorem dX7_gather_73 : decode cX7_gather 73 = .ok (.ireturn, 1) := by decide +kernel
set_option maxRecDepth 20000 in
theorem ggX7_settles_X7_common : GoodIn wsX7_settles wsX7_common := goodIn_r _ [10, 11, 12, 13, 14] (by decide +kernel) (by decide +kernel)
set_option maxRecDepth 20000 in
theorem gX7_settles_X7_common : GoodIn wsX7_settles (va_wsS RX7 231 yX7_common wsX7_common) := goodIn_app (goodIn_of _ (by decide +kernel)) ggX7_settles_X7_common
theorem dX7_settles_0 : decode cX7_settles 0 = .ok (.iconst 0, 1) := by decide +kernel
theorem dX7_settles_1 : decode cX7_settles 1 = .ok (.istore_n 3, 1) := by decide +kernel
theorem dX7_settles_2 : decode cX7_settles 2 = .ok (.iload_n 3, 1) := by decide +kernel
theorem dX7_settles_3 : decode cX7_settles 3 = .ok (.bipush 9, 2) := by decide +kernel
theorem dX7_settles_5 : decode cX7_settles 5 = .ok (.if_icmp .ge 16, 3) := by decide +kernel
theorem dX7_settles_8 : decode cX7_settles 8 = .ok (.aload_n 0, 1) := by decide +kernel
theorem dX7_settles_9 : decode cX7_settles 9 = .ok (.getfield 36, 3) := by decide +kernel
theorem dX7_settles_12 : decode cX7_settles 12 = .ok (.iload_n 3, 1) := by decide +kernel
theorem dX7_settles_13 : decode cX7_settles 13 = .ok (.lconst 0, 1) := by decide +kernel
theorem dX7_settles_14 : decode cX7_settles 14 = .ok (.lastore, 1) := by decide +kernel
theorem dX7_settles_15 : decode cX7_settles 15 = .ok (.iinc 3 1, 3) := by decide +kernel
theorem dX7_settles_18 : decode cX7_settles 18 = .ok (.goto (-16), 3) := by decide +kernel
theorem dX7_settles_21 : decode cX7_settles 21 = .ok (.aload_n 0, 1) := by decide +kernel
theorem dX7_settles_22 : decode cX7_settles 22 = .ok (.getfield 36, 3) := by decide +kernel
theorem dX7_settles_25 : decode cX7_settles 25 = .ok (.iload_n 1, 1) := by decide +kernel
theorem dX7_settles_26 : decode cX7_settles 26 = .ok (.lconst 1, 1) := by decide +kernel
theorem dX7_settles_27 : decode cX7_settles 27 = .ok (.lastore, 1) := by decide +kernel
theorem dX7_settles_28 : decode cX7_settles 28 = .ok (.iload_n 2, 1) := by decide +kernel
theorem dX7_settles_29 : decode cX7_settles 29 = .ok (.iconst (-1), 1) := by decide +kernel
theorem dX7_settles_30 : decode cX7_settles 30 = .ok (.if_icmp .eq 10, 3) := by decide +kernel
theorem dX7_settles_33 : decode cX7_settles 33 = .ok (.aload_n 0, 1) := by decide +kernel
theorem dX7_settles_34 : decode cX7_settles 34 = .ok (.getfield 36, 3) := by decide +kernel
theorem dX7_settles_37 : decode cX7_settles 37 = .ok (.iload_n 2, 1) := by decide +kernel
theorem dX7_settles_38 : decode cX7_settles 38 = .ok (.lconst 1, 1) := by decide +kernel
theorem dX7_settles_39 : decode cX7_settles 39 = .ok (.lastore, 1) := by decide +kernel
theorem dX7_settles_40 : decode cX7_settles 40 = .ok (.aload_n 0, 1) := by decide +kernel
theorem dX7_settles_41 : decode cX7_settles 41 = .ok (.lconst 0, 1) := by decide +kernel
theorem dX7_settles_42 : decode cX7_settles 42 = .ok (.putfield 244, 3) := by decide +kernel
theorem dX7_settles_45 : decode cX7_settles 45 = .ok (.aload_n 0, 1) := by decide +kernel
theorem dX7_settles_46 : decode cX7_settles 46 = .ok (.lconst 1, 1) := by decide +kernel
theorem dX7_settles_47 : decode cX7_settles 47 = .ok (.putfield 248, 3) := by decide +kernel
theorem dX7_settles_50 : decode cX7_settles 50 = .ok (.iconst 0, 1) := by decide +kernel
theorem dX7_settles_51 : decode cX7_settles 51 = .ok (.istore_n 3, 1) := by decide +kernel
theorem dX7_settles_52 : decode cX7_settles 52 = .ok (.iload_n 3, 1) := by decide +kernel
theorem dX7_settles_53 : decode cX7_settles 53 = .ok (.aload_n 0, 1) := by decide +kernel
theorem dX7_settles_54 : decode cX7_settles 54 = .ok (.getfield 228, 3) := by decide +kernel
theorem dX7_settles_57 : decode cX7_settles 57 = .ok (.if_icmp .ge 214, 3) := by decide +kernel
theorem dX7_settles_60 : decode cX7_settles 60 = .ok (.aload_n 0, 1) := by decide +kernel
theorem dX7_settles_61 : decode cX7_settles 61 = .ok (.getfield 36, 3) := by decide +kernel
theorem dX7_settles_64 : decode cX7_settles 64 = .ok (.aload_n 0, 1) := by decide +kernel
theorem dX7_settles_65 : decode cX7_settles 65 = .ok (.getfield 39, 3) := by decide +kernel
theorem dX7_settles_68 : decode cX7_settles 68 = .ok (.iload_n 3, 1) := by decide +kernel
theorem dX7_settles_69 : decode cX7_settles 69 = .ok (.iaload, 1) := by decide +kernel
theorem dX7_settles_70 : decode cX7_settles 70 = .ok (.laload, 1) := by decide +kernel
theorem dX7_settles_71 : decode cX7_settles 71 = .ok (.lstore 4, 2) := by decide +kernel
theorem dX7_settles_73 : decode cX7_settles 73 = .ok (.lload 4, 2) := by decide +kernel
theorem dX7_settles_75 : decode cX7_settles 75 = .ok (.lconst 0, 1) := by decide +kernel
theorem dX7_settles_76 : decode cX7_settles 76 = .ok (.lcmp, 1) := by decide +kernel
theorem dX7_settles_77 : decode cX7_settles 77 = .ok (.ifCond .ne 6, 3) := by decide +kernel
theorem dX7_settles_80 : decode cX7_settles 80 = .ok (.goto 185, 3) := by decide +kernel
theorem dX7_settles_83 : decode cX7_settles 83 = .ok (.aload_n 0, 1) := by decide +kernel
theorem dX7_settles_84 : decode cX7_settles 84 = .ok (.getfield 32, 3) := by decide +kernel
theorem dX7_settles_87 : decode cX7_settles 87 = .ok (.bipush 9, 2) := by decide +kernel
theorem dX7_settles_89 : decode cX7_settles 89 = .ok (.iload_n 3, 1) := by decide +kernel
theorem dX7_settles_90 : decode cX7_settles 90 = .ok (.imul, 1) := by decide +kernel
theorem dX7_settles_91 : decode cX7_settles 91 = .ok (.aload_n 0, 1) := by decide +kernel
theorem dX7_settles_92 : decode cX7_settles 92 = .ok (.getfield 39, 3) := by decide +kernel
theorem dX7_settles_95 : decode cX7_settles 95 = .ok (.iload_n 3, 1) := by decide +kernel
theorem dX7_settles_96 : decode cX7_settles 96 = .ok (.iaload, 1) := by decide +kernel
theorem dX7_settles_97 : decode cX7_settles 97 = .ok (.iadd, 1) := by decide +kernel
theorem dX7_settles_98 : decode cX7_settles 98 = .ok (.laload, 1) := by decide +kernel
theorem dX7_settles_99 : decode cX7_settles 99 = .ok (.lstore 6, 2) := by decide +kernel
theorem dX7_settles_101 : decode cX7_settles 101 = .ok (.aload_n 0, 1) := by decide +kernel
theorem dX7_settles_102 : decode cX7_settles 102 = .ok (.aload_n 0, 1) := by decide +kernel
theorem dX7_settles_103 : decode cX7_settles 103 = .ok (.getfield 244, 3) := by decide +kernel
theorem dX7_settles_106 : decode cX7_settles 106 = .ok (.lload 6, 2) := by decide +kernel
theorem dX7_settles_108 : decode cX7_settles 108 = .ok (.lmul, 1) := by decide +kernel
theorem dX7_settles_109 : decode cX7_settles 109 = .ok (.lload 4, 2) := by decide +kernel
theorem dX7_settles_111 : decode cX7_settles 111 = .ok (.aload_n 0, 1) := by decide +kernel
theorem dX7_settles_112 : decode cX7_settles 112 = .ok (.getfield 32, 3) := by decide +kernel
theorem dX7_settles_115 : decode cX7_settles 115 = .ok (.bipush 9, 2) := by decide +kernel
theorem dX7_settles_117 : decode cX7_settles 117 = .ok (.iload_n 3, 1) := by decide +kernel
theorem dX7_settles_118 : decode cX7_settles 118 = .ok (.imul, 1) := by decide +kernel
theorem dX7_settles_119 : decode cX7_settles 119 = .ok (.bipush 8, 2) := by decide +kernel
theorem dX7_settles_121 : decode cX7_settles 121 = .ok (.iadd, 1) := by decide +kernel
theorem dX7_settles_122 : decode cX7_settles 122 = .ok (.laload, 1) := by decide +kernel
theorem dX7_settles_123 : decode cX7_settles 123 = .ok (.lmul, 1) := by decide +kernel
theorem dX7_settles_124 : decode cX7_settles 124 = .ok (.ladd, 1) := by decide +kernel
theorem dX7_settles_125 : decode cX7_settles 125 = .ok (.putfield 244, 3) := by decide +kernel
theorem dX7_settles_128 : decode cX7_settles 128 = .ok (.aload_n 0, 1) := by decide +kernel
theorem dX7_settles_129 : decode cX7_settles 129 = .ok (.dup, 1) := by decide +kernel
theorem dX7_settles_130 : decode cX7_settles 130 = .ok (.getfield 248, 3) := by decide +kernel
theorem dX7_settles_133 : decode cX7_settles 133 = .ok (.lload 6, 2) := by decide +kernel
theorem dX7_settles_135 : decode cX7_settles 135 = .ok (.lmul, 1) := by decide +kernel
theorem dX7_settles_136 : decode cX7_settles 136 = .ok (.putfield 248, 3) := by decide +kernel
theorem dX7_settles_139 : decode cX7_settles 139 = .ok (.aload_n 0, 1) := by decide +kernel
theorem dX7_settles_140 : decode cX7_settles 140 = .ok (.getfield 244, 3) := by decide +kernel
theorem dX7_settles_143 : decode cX7_settles 143 = .ok (.aload_n 0, 1) := by decide +kernel
theorem dX7_settles_144 : decode cX7_settles 144 = .ok (.getfield 248, 3) := by decide +kernel
theorem dX7_settles_147 : decode cX7_settles 147 = .ok (.invokestatic 231, 3) := by decide +kernel
theorem dX7_settles_150 : decode cX7_settles 150 = .ok (.lstore 8, 2) := by decide +kernel
theorem dX7_settles_152 : decode cX7_settles 152 = .ok (.iconst 0, 1) := by decide +kernel
theorem dX7_settles_153 : decode cX7_settles 153 = .ok (.istore 10, 2) := by decide +kernel
theorem dX7_settles_155 : decode cX7_settles 155 = .ok (.iload 10, 2) := by decide +kernel
theorem dX7_settles_157 : decode cX7_settles 157 = .ok (.bipush 8, 2) := by decide +kernel
theorem dX7_settles_159 : decode cX7_settles 159 = .ok (.if_icmp .ge 56, 3) := by decide +kernel
theorem dX7_settles_162 : decode cX7_settles 162 = .ok (.aload_n 0, 1) := by decide +kernel
theorem dX7_settles_163 : decode cX7_settles 163 = .ok (.getfield 36, 3) := by decide +kernel
theorem dX7_settles_166 : decode cX7_settles 166 = .ok (.iload 10, 2) := by decide +kernel
theorem dX7_settles_168 : decode cX7_settles 168 = .ok (.aload_n 0, 1) := by decide +kernel
theorem dX7_settles_169 : decode cX7_settles 169 = .ok (.getfield 36, 3) := by decide +kernel
theorem dX7_settles_172 : decode cX7_settles 172 = .ok (.iload 10, 2) := by decide +kernel
theorem dX7_settles_174 : decode cX7_settles 174 = .ok (.laload, 1) := by decide +kernel
theorem dX7_settles_175 : decode cX7_settles 175 = .ok (.lload 6, 2) := by decide +kernel
theorem dX7_settles_177 : decode cX7_settles 177 = .ok (.lmul, 1) := by decide +kernel
theorem dX7_settles_178 : decode cX7_settles 178 = .ok (.aload_n 0, 1) := by decide +kernel
theorem dX7_settles_179 : decode cX7_settles 179 = .ok (.getfield 32, 3) := by decide +kernel
theorem dX7_settles_182 : decode cX7_settles 182 = .ok (.bipush 9, 2) := by decide +kernel
theorem dX7_settles_184 : decode cX7_settles 184 = .ok (.iload_n 3, 1) := by decide +kernel
theorem dX7_settles_185 : decode cX7_settles 185 = .ok (.imul, 1) := by decide +kernel
theorem dX7_settles_186 : decode cX7_settles 186 = .ok (.iload 10, 2) := by decide +kernel
theorem dX7_settles_188 : decode cX7_settles 188 = .ok (.iadd, 1) := by decide +kernel
theorem dX7_settles_189 : decode cX7_settles 189 = .ok (.laload, 1) := by decide +kernel
theorem dX7_settles_190 : decode cX7_settles 190 = .ok (.lload 4, 2) := by decide +kernel
theorem dX7_settles_192 : decode cX7_settles 192 = .ok (.lmul, 1) := by decide +kernel
theorem dX7_settles_193 : decode cX7_settles 193 = .ok (.lsub, 1) := by decide +kernel
theorem dX7_settles_194 : decode cX7_settles 194 = .ok (.lastore, 1) := by decide +kernel
theorem dX7_settles_195 : decode cX7_settles 195 = .ok (.lload 8, 2) := by decide +kernel
theorem dX7_settles_197 : decode cX7_settles 197 = .ok (.aload_n 0, 1) := by decide +kernel
theorem dX7_settles_198 : decode cX7_settles 198 = .ok (.getfield 36, 3) := by decide +kernel
theorem dX7_settles_201 : decode cX7_settles 201 = .ok (.iload 10, 2) := by decide +kernel
theorem dX7_settles_203 : decode cX7_settles 203 = .ok (.laload, 1) := by decide +kernel
theorem dX7_settles_204 : decode cX7_settles 204 = .ok (.invokestatic 231, 3) := by decide +kernel
theorem dX7_settles_207 : decode cX7_settles 207 = .ok (.lstore 8, 2) := by decide +kernel
theorem dX7_settles_209 : decode cX7_settles 209 = .ok (.iinc 10 1, 3) := by decide +kernel
theorem dX7_settles_212 : decode cX7_settles 212 = .ok (.goto (-57), 3) := by decide +kernel
theorem dX7_settles_215 : decode cX7_settles 215 = .ok (.aload_n 0, 1) := by decide +kernel
theorem dX7_settles_216 : decode cX7_settles 216 = .ok (.dup, 1) := by decide +kernel
theorem dX7_settles_217 : decode cX7_settles 217 = .ok (.getfield 244, 3) := by decide +kernel
theorem dX7_settles_220 : decode cX7_settles 220 = .ok (.lload 8, 2) := by decide +kernel
theorem dX7_settles_222 : decode cX7_settles 222 = .ok (.ldiv, 1) := by decide +kernel
theorem dX7_settles_223 : decode cX7_settles 223 = .ok (.putfield 244, 3) := by decide +kernel
theorem dX7_settles_226 : decode cX7_settles 226 = .ok (.aload_n 0, 1) := by decide +kernel
theorem dX7_settles_227 : decode cX7_settles 227 = .ok (.dup, 1) := by decide +kernel
theorem dX7_settles_228 : decode cX7_settles 228 = .ok (.getfield 248, 3) := by decide +kernel
theorem dX7_settles_231 : decode cX7_settles 231 = .ok (.lload 8, 2) := by decide +kernel
theorem dX7_settles_233 : decode cX7_settles 233 = .ok (.ldiv, 1) := by decide +kernel
theorem dX7_settles_234 : decode cX7_settles 234 = .ok (.putfield 248, 3) := by decide +kernel
theorem dX7_settles_237 : decode cX7_settles 237 = .ok (.iconst 0, 1) := by decide +kernel
theorem dX7_settles_238 : decode cX7_settles 238 = .ok (.istore 10, 2) := by decide +kernel
theorem dX7_settles_240 : decode cX7_settles 240 = .ok (.iload 10, 2) := by decide +kernel
theorem dX7_settles_242 : decode cX7_settles 242 = .ok (.bipush 8, 2) := by decide +kernel
theorem dX7_settles_244 : decode cX7_settles 244 = .ok (.if_icmp .ge 21, 3) := by decide +kernel
theorem dX7_settles_247 : decode cX7_settles 247 = .ok (.aload_n 0, 1) := by decide +kernel
theorem dX7_settles_248 : decode cX7_settles 248 = .ok (.getfield 36, 3) := by decide +kernel
theorem dX7_settles_251 : decode cX7_settles 251 = .ok (.iload 10, 2) := by decide +kernel
theorem dX7_settles_253 : decode cX7_settles 253 = .ok (.dup2, 1) := by decide +kernel
theorem dX7_settles_254 : decode cX7_settles 254 = .ok (.laload, 1) := by decide +kernel
theorem dX7_settles_255 : decode cX7_settles 255 = .ok (.lload 8, 2) := by decide +kernel
theorem dX7_settles_257 : decode cX7_settles 257 = .ok (.ldiv, 1) := by decide +kernel
theorem dX7_settles_258 : decode cX7_settles 258 = .ok (.lastore, 1) := by decide +kernel
theorem dX7_settles_259 : decode cX7_settles 259 = .ok (.iinc 10 1, 3) := by decide +kernel
theorem dX7_settles_262 : decode cX7_settles 262 = .ok (.goto (-22), 3) := by decide +kernel
theorem dX7_settles_265 : decode cX7_settles 265 = .ok (.iinc 3 1, 3) := by decide +kernel
theorem dX7_settles_268 : decode cX7_settles 268 = .ok (.goto (-216), 3) := by decide +kernel
theorem dX7_settles_271 : decode cX7_settles 271 = .ok (.iconst 1, 1) := by decide +kernel
theorem dX7_settles_272 : decode cX7_settles 272 = .ok (.istore_n 3, 1) := by decide +kernel
theorem dX7_settles_273 : decode cX7_settles 273 = .ok (.iconst 0, 1) := by decide +kernel
theorem dX7_settles_274 : decode cX7_settles 274 = .ok (.istore 4, 2) := by decide +kernel
theorem dX7_settles_276 : decode cX7_settles 276 = .ok (.iload 4, 2) := by decide +kernel
theorem dX7_settles_278 : decode cX7_settles 278 = .ok (.bipush 8, 2) := by decide +kernel
theorem dX7_settles_280 : decode cX7_settles 280 = .ok (.if_icmp .ge 31, 3) := by decide +kernel
theorem dX7_settles_283 : decode cX7_settles 283 = .ok (.iload_n 3, 1) := by decide +kernel
theorem dX7_settles_284 : decode cX7_settles 284 = .ok (.ifCond .eq 19, 3) := by decide +kernel
theorem dX7_settles_287 : decode cX7_settles 287 = .ok (.aload_n 0, 1) := by decide +kernel
theorem dX7_settles_288 : decode cX7_settles 288 = .ok (.getfield 36, 3) := by decide +kernel
theorem dX7_settles_291 : decode cX7_settles 291 = .ok (.iload 4, 2) := by decide +kernel
theorem dX7_settles_293 : decode cX7_settles 293 = .ok (.laload, 1) := by decide +kernel
theorem dX7_settles_294 : decode cX7_settles 294 = .ok (.lconst 0, 1) := by decide +kernel
theorem dX7_settles_295 : decode cX7_settles 295 = .ok (.lcmp, 1) := by decide +kernel
theorem dX7_settles_296 : decode cX7_settles 296 = .ok (.ifCond .ne 7, 3) := by decide +kernel
theorem dX7_settles_299 : decode cX7_settles 299 = .ok (.iconst 1, 1) := by decide +kernel
theorem dX7_settles_300 : decode cX7_settles 300 = .ok (.goto 4, 3) := by decide +kernel
theorem dX7_settles_303 : decode cX7_settles 303 = .ok (.iconst 0, 1) := by decide +kernel
theorem dX7_settles_304 : decode cX7_settles 304 = .ok (.istore_n 3, 1) := by decide +kernel
theorem dX7_settles_305 : decode cX7_settles 305 = .ok (.iinc 4 1, 3) := by decide +kernel
theorem dX7_settles_308 : decode cX7_settles 308 = .ok (.goto (-32), 3) := by decide +kernel
theorem dX7_settles_311 : decode cX7_settles 311 = .ok (.iload_n 3, 1) := by decide +kernel
theorem dX7_settles_312 : decode cX7_settles 312 = .ok (.ireturn, 1) := by decide +kernel
set_option maxRecDepth 20000 in
theorem ggX7_part_X7_common : GoodIn wsX7_part wsX7_common := goodIn_r _ [6, 7, 8, 9, 10] (by decide +kernel) (by decide +kernel)
set_option maxRecDepth 20000 in
theorem gX7_part_X7_common : GoodIn wsX7_part (va_wsS RX7 231 yX7_common wsX7_common) := goodIn_app (goodIn_of _ (by decide +kernel)) ggX7_part_X7_common
theorem dX7_part_0 : decode cX7_part 0 = .ok (.aload_n 0, 1) := by decide +kernel
theorem dX7_part_1 : decode cX7_part 1 = .ok (.getfield 244, 3) := by decide +kernel
theorem dX7_part_4 : decode cX7_part 4 = .ok (.aload_n 0, 1) := by decide +kernel
theorem dX7_part_5 : decode cX7_part 5 = .ok (.getfield 248, 3) := by decide +kernel
theorem dX7_part_8 : decode cX7_part 8 = .ok (.invokestatic 231, 3) := by decide +kernel
theorem dX7_part_11 : decode cX7_part 11 = .ok (.lstore_n 2, 1) := by decide +kernel
theorem dX7_part_12 : decode cX7_part 12 = .ok (.aload_n 0, 1) := by decide +kernel
theorem dX7_part_13 : decode cX7_part 13 = .ok (.getfield 248, 3) := by decide +kernel
theorem dX7_part_16 : decode cX7_part 16 = .ok (.lconst 0, 1) := by decide +kernel
theorem dX7_part_17 : decode cX7_part 17 = .ok (.lcmp, 1) := by decide +kernel
theorem dX7_part_18 : decode cX7_part 18 = .ok (.ifCond .ge 6, 3) := by decide +kernel
theorem dX7_part_21 : decode cX7_part 21 = .ok (.lload_n 2, 1) := by decide +kernel
theorem dX7_part_22 : decode cX7_part 22 = .ok (.lneg, 1) := by decide +kernel
theorem dX7_part_23 : decode cX7_part 23 = .ok (.lstore_n 2, 1) := by decide +kernel
theorem dX7_part_24 : decode cX7_part 24 = .ok (.iload_n 1, 1) := by decide +kernel
theorem dX7_part_25 : decode cX7_part 25 = .ok (.ifCond .ne 12, 3) := by decide +kernel
theorem dX7_part_28 : decode cX7_part 28 = .ok (.aload_n 0, 1) := by decide +kernel
theorem dX7_part_29 : decode cX7_part 29 = .ok (.getfield 244, 3) := by decide +kernel
theorem dX7_part_32 : decode cX7_part 32 = .ok (.lload_n 2, 1) := by decide +kernel
theorem dX7_part_33 : decode cX7_part 33 = .ok (.ldiv, 1) := by decide +kernel
theorem dX7_part_34 : decode cX7_part 34 = .ok (.goto 9, 3) := by decide +kernel
theorem dX7_part_37 : decode cX7_part 37 = .ok (.aload_n 0, 1) := by decide +kernel
theorem dX7_part_38 : decode cX7_part 38 = .ok (.getfield 248, 3) := by decide +kernel
theorem dX7_part_41 : decode cX7_part 41 = .ok (.lload_n 2, 1) := by decide +kernel
theorem dX7_part_42 : decode cX7_part 42 = .ok (.ldiv, 1) := by decide +kernel
theorem dX7_part_43 : decode cX7_part 43 = .ok (.lreturn, 1) := by decide +kernel
theorem dX7_all_0 : decode cX7_all 0 = .ok (.iconst 1, 1) := by decide +kernel
theorem dX7_all_1 : decode cX7_all 1 = .ok (.aload_n 0, 1) := by decide +kernel
theorem dX7_all_2 : decode cX7_all 2 = .ok (.getfield 205, 3) := by decide +kernel
theorem dX7_all_5 : decode cX7_all 5 = .ok (.ishl, 1) := by decide +kernel
theorem dX7_all_6 : decode cX7_all 6 = .ok (.iconst 1, 1) := by decide +kernel
theorem dX7_all_7 : decode cX7_all 7 = .ok (.isub, 1) := by decide +kernel
theorem dX7_all_8 : decode cX7_all 8 = .ok (.ireturn, 1) := by decide +kernel
set_option maxRecDepth 20000 in
theorem ggX7_quarrelAt_X7_isFact : GoodIn wsX7_quarrelAt wsX7_isFact := goodIn_r _ [6, 7, 8, 9, 5, 10, 11, 40, 41, 42, 43, 44, 45, 46, 47, 48, 49, 50, 51, 52, 53, 54, 55, 56, 57, 58, 59, 60, 61, 62, 63, 64, 65, 66] (by decide +kernel) (by decide +kernel)
set_option maxRecDepth 20000 in
theorem gX7_quarrelAt_X7_isFact : GoodIn wsX7_quarrelAt (wsV RX7 235 RX7 yX7_isFact wsX7_isFact) := goodIn_app (goodIn_of _ (by decide +kernel)) ggX7_quarrelAt_X7_isFact
set_option maxRecDepth 20000 in
theorem ggX7_quarrelAt_X7_of : GoodIn wsX7_quarrelAt wsX7_of := goodIn_r _ [10, 11, 40, 41, 42, 43, 44, 45, 46, 47, 48, 49, 50, 51, 52, 53, 54, 55, 56, 57, 58, 59, 60, 61, 62, 63, 64, 65, 66] (by decide +kernel) (by decide +kernel)
set_option maxRecDepth 20000 in
theorem gX7_quarrelAt_X7_of : GoodIn wsX7_quarrelAt (wsV RX7 214 RX7 yX7_of wsX7_of) := goodIn_app (goodIn_of _ (by decide +kernel)) ggX7_quarrelAt_X7_of
set_option maxRecDepth 20000 in
theorem ggX7_quarrelAt_X7_gather : GoodIn wsX7_quarrelAt wsX7_gather := goodIn_r _ [15, 16, 1, 2, 3, 4, 5, 6, 7, 8, 9, 10, 11, 17, 18, 19, 20, 21, 22, 23, 24, 25, 26, 27, 28, 29, 30, 31, 32, 33, 34, 35, 36, 37, 38, 39, 40, 41, 42, 43, 44, 45, 46, 47, 48, 49, 50, 51, 52, 53, 54, 55, 56, 57, 58, 59, 60, 61, 62, 63, 64, 65, 66] (by decide +kernel) (by decide +kernel)
set_option maxRecDepth 20000 in
theorem gX7_quarrelAt_X7_gather : GoodIn wsX7_quarrelAt (wsV RX7 251 RX7 yX7_gather wsX7_gather) := goodIn_app (goodIn_of _ (by decide +kernel)) ggX7_quarrelAt_X7_gather
theorem dX7_quarrelAt_0 : decode cX7_quarrelAt 0 = .ok (.iconst 0, 1) := by decide +kernel
theorem dX7_quarrelAt_1 : decode cX7_quarrelAt 1 = .ok (.istore_n 1, 1) := by decide +kernel
theorem dX7_quarrelAt_2 : decode cX7_quarrelAt 2 = .ok (.iload_n 1, 1) := by decide +kernel
theorem dX7_quarrelAt_3 : decode cX7_quarrelAt 3 = .ok (.aload_n 0, 1) := by decide +kernel
theorem dX7_quarrelAt_4 : decode cX7_quarrelAt 4 = .ok (.getfield 205, 3) := by decide +kernel
theorem dX7_quarrelAt_7 : decode cX7_quarrelAt 7 = .ok (.if_icmp .ge 39, 3) := by decide +kernel
theorem dX7_quarrelAt_10 : decode cX7_quarrelAt 10 = .ok (.aload_n 0, 1) := by decide +kernel
theorem dX7_quarrelAt_11 : decode cX7_quarrelAt 11 = .ok (.iload_n 1, 1) := by decide +kernel
theorem dX7_quarrelAt_12 : decode cX7_quarrelAt 12 = .ok (.invokevirtual 235, 3) := by decide +kernel
theorem dX7_quarrelAt_15 : decode cX7_quarrelAt 15 = .ok (.ifCond .eq 25, 3) := by decide +kernel
theorem dX7_quarrelAt_18 : decode cX7_quarrelAt 18 = .ok (.aload_n 0, 1) := by decide +kernel
theorem dX7_quarrelAt_19 : decode cX7_quarrelAt 19 = .ok (.aload_n 0, 1) := by decide +kernel
theorem dX7_quarrelAt_20 : decode cX7_quarrelAt 20 = .ok (.iload_n 1, 1) := by decide +kernel
theorem dX7_quarrelAt_21 : decode cX7_quarrelAt 21 = .ok (.iconst 3, 1) := by decide +kernel
theorem dX7_quarrelAt_22 : decode cX7_quarrelAt 22 = .ok (.invokevirtual 214, 3) := by decide +kernel
theorem dX7_quarrelAt_25 : decode cX7_quarrelAt 25 = .ok (.iconst 1, 1) := by decide +kernel
theorem dX7_quarrelAt_26 : decode cX7_quarrelAt 26 = .ok (.iload_n 1, 1) := by decide +kernel
theorem dX7_quarrelAt_27 : decode cX7_quarrelAt 27 = .ok (.iconst 1, 1) := by decide +kernel
theorem dX7_quarrelAt_28 : decode cX7_quarrelAt 28 = .ok (.iadd, 1) := by decide +kernel
theorem dX7_quarrelAt_29 : decode cX7_quarrelAt 29 = .ok (.ishl, 1) := by decide +kernel
theorem dX7_quarrelAt_30 : decode cX7_quarrelAt 30 = .ok (.iconst 1, 1) := by decide +kernel
theorem dX7_quarrelAt_31 : decode cX7_quarrelAt 31 = .ok (.isub, 1) := by decide +kernel
theorem dX7_quarrelAt_32 : decode cX7_quarrelAt 32 = .ok (.invokevirtual 251, 3) := by decide +kernel
theorem dX7_quarrelAt_35 : decode cX7_quarrelAt 35 = .ok (.ifCond .ne 5, 3) := by decide +kernel
theorem dX7_quarrelAt_38 : decode cX7_quarrelAt 38 = .ok (.iload_n 1, 1) := by decide +kernel
theorem dX7_quarrelAt_39 : decode cX7_quarrelAt 39 = .ok (.ireturn, 1) := by decide +kernel
theorem dX7_quarrelAt_40 : decode cX7_quarrelAt 40 = .ok (.iinc 1 1, 3) := by decide +kernel
theorem dX7_quarrelAt_43 : decode cX7_quarrelAt 43 = .ok (.goto (-41), 3) := by decide +kernel
theorem dX7_quarrelAt_46 : decode cX7_quarrelAt 46 = .ok (.iconst (-1), 1) := by decide +kernel
theorem dX7_quarrelAt_47 : decode cX7_quarrelAt 47 = .ok (.ireturn, 1) := by decide +kernel
set_option maxRecDepth 20000 in
theorem ggX7_quarrel_X7_quarrelAt : GoodIn wsX7_quarrel wsX7_quarrelAt := goodIn_r _ [6, 7, 8, 9, 10, 5, 11, 12, 13, 14, 15, 16, 17, 18, 19, 20, 21, 22, 23, 24, 25, 26, 27, 28, 29, 30, 31, 32, 33, 34, 35, 36, 37, 38, 39, 40, 41, 42, 43, 44, 45, 46, 47, 48, 49, 50, 51, 52, 53, 54, 55, 56, 57, 58, 59, 60, 61, 62, 63, 64, 65, 66, 67, 68, 69, 70, 71] (by decide +kernel) (by decide +kernel)
set_option maxRecDepth 20000 in
theorem gX7_quarrel_X7_quarrelAt : GoodIn wsX7_quarrel (wsV RX7 255 RX7 yX7_quarrelAt wsX7_quarrelAt) := goodIn_app (goodIn_of _ (by decide +kernel)) ggX7_quarrel_X7_quarrelAt
theorem dX7_quarrel_0 : decode cX7_quarrel 0 = .ok (.aload_n 0, 1) := by decide +kernel
theorem dX7_quarrel_1 : decode cX7_quarrel 1 = .ok (.iconst 0, 1) := by decide +kernel
theorem dX7_quarrel_2 : decode cX7_quarrel 2 = .ok (.putfield 42, 3) := by decide +kernel
theorem dX7_quarrel_5 : decode cX7_quarrel 5 = .ok (.aload_n 0, 1) := by decide +kernel
theorem dX7_quarrel_6 : decode cX7_quarrel 6 = .ok (.invokevirtual 255, 3) := by decide +kernel
theorem dX7_quarrel_9 : decode cX7_quarrel 9 = .ok (.ireturn, 1) := by decide +kernel
set_option maxRecDepth 20000 in
theorem ggX7_answersBy_X7_gather : GoodIn wsX7_answersBy wsX7_gather := goodIn_r _ [6, 7, 8, 9, 10, 11, 5, 12, 13, 14, 15, 16, 17, 18, 19, 20, 21, 22, 23, 24, 25, 26, 27, 28, 29, 30, 31, 32, 33, 34, 35, 36, 37, 38, 39, 40, 47, 48, 49, 50, 51, 52, 53, 54, 55, 56, 57, 58, 59, 60, 61, 62, 63, 64, 65, 66, 67, 68, 69, 70, 71, 72, 73] (by decide +kernel) (by decide +kernel)
set_option maxRecDepth 20000 in
theorem gX7_answersBy_X7_gather : GoodIn wsX7_answersBy (wsV RX7 251 RX7 yX7_gather wsX7_gather) := goodIn_app (goodIn_of _ (by decide +kernel)) ggX7_answersBy_X7_gather
set_option maxRecDepth 20000 in
theorem ggX7_answersBy_X7_settles : GoodIn wsX7_answersBy wsX7_settles := goodIn_r _ [44, 22, 45, 46, 7, 32, 33, 34, 35, 5, 36, 37, 38, 39, 40, 47, 48, 49, 50, 51, 52, 53, 54, 55, 56, 57, 58, 59, 60, 61, 62, 63, 64, 65, 66, 67, 68, 69, 70, 71, 72, 73] (by decide +kernel) (by decide +kernel)
set_option maxRecDepth 20000 in
theorem gX7_answersBy_X7_settles : GoodIn wsX7_answersBy (wsV RX7 258 RX7 yX7_settles wsX7_settles) := goodIn_app (goodIn_of _ (by decide +kernel)) ggX7_answersBy_X7_settles
theorem dX7_answersBy_0 : decode cX7_answersBy 0 = .ok (.aload_n 0, 1) := by decide +kernel
theorem dX7_answersBy_1 : decode cX7_answersBy 1 = .ok (.aload_n 0, 1) := by decide +kernel
theorem dX7_answersBy_2 : decode cX7_answersBy 2 = .ok (.getfield 20, 3) := by decide +kernel
theorem dX7_answersBy_5 : decode cX7_answersBy 5 = .ok (.iconst 3, 1) := by decide +kernel
theorem dX7_answersBy_6 : decode cX7_answersBy 6 = .ok (.iaload, 1) := by decide +kernel
theorem dX7_answersBy_7 : decode cX7_answersBy 7 = .ok (.iload_n 1, 1) := by decide +kernel
theorem dX7_answersBy_8 : decode cX7_answersBy 8 = .ok (.invokevirtual 251, 3) := by decide +kernel
theorem dX7_answersBy_11 : decode cX7_answersBy 11 = .ok (.ifCond .eq 26, 3) := by decide +kernel
theorem dX7_answersBy_14 : decode cX7_answersBy 14 = .ok (.aload_n 0, 1) := by decide +kernel
theorem dX7_answersBy_15 : decode cX7_answersBy 15 = .ok (.aload_n 0, 1) := by decide +kernel
theorem dX7_answersBy_16 : decode cX7_answersBy 16 = .ok (.getfield 20, 3) := by decide +kernel
theorem dX7_answersBy_19 : decode cX7_answersBy 19 = .ok (.iconst 1, 1) := by decide +kernel
theorem dX7_answersBy_20 : decode cX7_answersBy 20 = .ok (.iaload, 1) := by decide +kernel
theorem dX7_answersBy_21 : decode cX7_answersBy 21 = .ok (.aload_n 0, 1) := by decide +kernel
theorem dX7_answersBy_22 : decode cX7_answersBy 22 = .ok (.getfield 20, 3) := by decide +kernel
theorem dX7_answersBy_25 : decode cX7_answersBy 25 = .ok (.iconst 2, 1) := by decide +kernel
theorem dX7_answersBy_26 : decode cX7_answersBy 26 = .ok (.iaload, 1) := by decide +kernel
theorem dX7_answersBy_27 : decode cX7_answersBy 27 = .ok (.invokevirtual 258, 3) := by decide +kernel
theorem dX7_answersBy_30 : decode cX7_answersBy 30 = .ok (.ifCond .eq 7, 3) := by decide +kernel
theorem dX7_answersBy_33 : decode cX7_answersBy 33 = .ok (.iconst 1, 1) := by decide +kernel
theorem dX7_answersBy_34 : decode cX7_answersBy 34 = .ok (.goto 4, 3) := by decide +kernel
theorem dX7_answersBy_37 : decode cX7_answersBy 37 = .ok (.iconst 0, 1) := by decide +kernel
theorem dX7_answersBy_38 : decode cX7_answersBy 38 = .ok (.ireturn, 1) := by decide +kernel
set_option maxRecDepth 20000 in
theorem ggX7_hasAnswer_X7_quarrelAt : GoodIn wsX7_hasAnswer wsX7_quarrelAt := goodIn_r _ [6, 7, 8, 9, 10, 5, 11, 12, 13, 14, 15, 16, 17, 18, 19, 20, 21, 22, 23, 24, 25, 26, 27, 28, 29, 30, 31, 32, 33, 34, 35, 36, 37, 38, 39, 40, 41, 42, 43, 44, 60, 61, 62, 63, 64, 65, 66, 67, 68, 69, 70, 71, 72, 73, 74, 75, 76, 77, 78, 79, 80, 81, 82, 83, 84, 85, 86] (by decide +kernel) (by decide +kernel)
set_option maxRecDepth 20000 in
theorem gX7_hasAnswer_X7_quarrelAt : GoodIn wsX7_hasAnswer (wsV RX7 255 RX7 yX7_quarrelAt wsX7_quarrelAt) := goodIn_app (goodIn_of _ (by decide +kernel)) ggX7_hasAnswer_X7_quarrelAt
set_option maxRecDepth 20000 in
theorem ggX7_hasAnswer_X7_all : GoodIn wsX7_hasAnswer wsX7_all := goodIn_r _ [48, 7, 60, 61, 62, 63, 64, 65, 66, 67, 68, 69, 70, 71, 72, 73, 74, 75, 76, 77, 78, 79, 80, 81, 82, 83, 84, 85, 86] (by decide +kernel) (by decide +kernel)
set_option maxRecDepth 20000 in
theorem gX7_hasAnswer_X7_all : GoodIn wsX7_hasAnswer (wsV RX7 261 RX7 yX7_all wsX7_all) := goodIn_app (goodIn_of _ (by decide +kernel)) ggX7_hasAnswer_X7_all
set_option maxRecDepth 20000 in
theorem ggX7_hasAnswer_X7_answersBy : GoodIn wsX7_hasAnswer wsX7_answersBy := goodIn_r _ [52, 53, 17, 18, 19, 5, 20, 21, 7, 8, 9, 10, 11, 12, 13, 14, 15, 16, 22, 23, 24, 25, 26, 27, 28, 29, 30, 31, 32, 33, 34, 35, 36, 37, 38, 39, 40, 41, 42, 43, 44, 54, 55, 56, 57, 58, 59, 60, 61, 62, 63, 64, 65, 66, 67, 68, 69, 70, 71, 72, 73, 74, 75, 76, 77, 78, 79, 80, 81, 82, 83, 84, 85, 86] (by decide +kernel) (by decide +kernel)
set_option maxRecDepth 20000 in
theorem gX7_hasAnswer_X7_answersBy : GoodIn wsX7_hasAnswer (wsV RX7 264 RX7 yX7_answersBy wsX7_answersBy) := goodIn_app (goodIn_of _ (by decide +kernel)) ggX7_hasAnswer_X7_answersBy
theorem dX7_hasAnswer_0 : decode cX7_hasAnswer 0 = .ok (.aload_n 0, 1) := by decide +kernel
theorem dX7_hasAnswer_1 : decode cX7_hasAnswer 1 = .ok (.getfield 207, 3) := by decide +kernel
theorem dX7_hasAnswer_4 : decode cX7_hasAnswer 4 = .ok (.ifCond .eq 26, 3) := by decide +kernel
theorem dX7_hasAnswer_7 : decode cX7_hasAnswer 7 = .ok (.aload_n 0, 1) := by decide +kernel
theorem dX7_hasAnswer_8 : decode cX7_hasAnswer 8 = .ok (.invokevirtual 255, 3) := by decide +kernel
theorem dX7_hasAnswer_11 : decode cX7_hasAnswer 11 = .ok (.iconst (-1), 1) := by decide +kernel
theorem dX7_hasAnswer_12 : decode cX7_hasAnswer 12 = .ok (.if_icmp .ne 18, 3) := by decide +kernel
theorem dX7_hasAnswer_15 : decode cX7_hasAnswer 15 = .ok (.aload_n 0, 1) := by decide +kernel
theorem dX7_hasAnswer_16 : decode cX7_hasAnswer 16 = .ok (.aload_n 0, 1) := by decide +kernel
theorem dX7_hasAnswer_17 : decode cX7_hasAnswer 17 = .ok (.invokevirtual 261, 3) := by decide +kernel
theorem dX7_hasAnswer_20 : decode cX7_hasAnswer 20 = .ok (.invokevirtual 264, 3) := by decide +kernel
theorem dX7_hasAnswer_23 : decode cX7_hasAnswer 23 = .ok (.ifCond .eq 7, 3) := by decide +kernel
theorem dX7_hasAnswer_26 : decode cX7_hasAnswer 26 = .ok (.iconst 1, 1) := by decide +kernel
theorem dX7_hasAnswer_27 : decode cX7_hasAnswer 27 = .ok (.goto 4, 3) := by decide +kernel
theorem dX7_hasAnswer_30 : decode cX7_hasAnswer 30 = .ok (.iconst 0, 1) := by decide +kernel
theorem dX7_hasAnswer_31 : decode cX7_hasAnswer 31 = .ok (.ireturn, 1) := by decide +kernel
set_option maxRecDepth 20000 in
theorem ggX7_answer_X7_isIn : GoodIn wsX7_answer wsX7_isIn := goodIn_r _ [9] (by decide +kernel) (by decide +kernel)
set_option maxRecDepth 20000 in
theorem gX7_answer_X7_isIn : GoodIn wsX7_answer (va_wsS RX7 176 yX7_isIn wsX7_isIn) := goodIn_app (goodIn_of _ (by decide +kernel)) ggX7_answer_X7_isIn
set_option maxRecDepth 20000 in
theorem ggX7_answer_X7_hasAnswer : GoodIn wsX7_answer wsX7_hasAnswer := goodIn_r _ [13, 14, 15, 16, 17, 8, 18, 19, 20, 21, 22, 23, 24, 25, 26, 27, 28, 29, 30, 31, 32, 33, 34, 35, 36, 37, 38, 39, 40, 41, 42, 43, 44, 45, 46, 47, 48, 49, 50, 51, 52, 53, 54, 55, 56, 57, 58, 59, 60, 61, 62, 63, 64, 5, 65, 66, 67, 68, 3, 4, 73, 74, 75, 76, 77, 78, 79, 80, 81, 82, 83, 84, 85, 86, 87, 88, 89, 90, 91, 92, 93, 94, 95, 96, 97, 98, 99] (by decide +kernel) (by decide +kernel)
set_option maxRecDepth 20000 in
theorem gX7_answer_X7_hasAnswer : GoodIn wsX7_answer (wsV RX7 267 RX7 yX7_hasAnswer wsX7_hasAnswer) := goodIn_app (goodIn_of _ (by decide +kernel)) ggX7_answer_X7_hasAnswer
set_option maxRecDepth 20000 in
theorem ggX7_answer_X7_more : GoodIn wsX7_answer wsX7_more := goodIn_r _ [43, 19, 24, 25, 26, 8, 27, 28, 73, 74, 75, 76, 77, 78, 79, 80, 81, 82, 83, 84, 85, 86, 87, 88, 89, 90, 91, 92, 93, 94, 95, 96, 97, 98, 99] (by decide +kernel) (by decide +kernel)
set_option maxRecDepth 20000 in
theorem gX7_answer_X7_more : GoodIn wsX7_answer (wsV RX7 223 RX7 yX7_more wsX7_more) := goodIn_app (goodIn_of _ (by decide +kernel)) ggX7_answer_X7_more
set_option maxRecDepth 20000 in
theorem ggX7_answer_X7_part : GoodIn wsX7_answer wsX7_part := goodIn_r _ [72, 3, 4, 50, 51, 8, 52, 53, 54, 55, 56, 73, 74, 75, 76, 77, 78, 79, 80, 81, 82, 83, 84, 85, 86, 87, 88, 89, 90, 91, 92, 93, 94, 95, 96, 97, 98, 99] (by decide +kernel) (by decide +kernel)
set_option maxRecDepth 20000 in
theorem gX7_answer_X7_part : GoodIn wsX7_answer (wsV RX7 272 RX7 yX7_part wsX7_part) := goodIn_app (goodIn_of _ (by decide +kernel)) ggX7_answer_X7_part
theorem dX7_answer_0 : decode cX7_answer 0 = .ok (.aload_n 0, 1) := by decide +kernel
theorem dX7_answer_1 : decode cX7_answer 1 = .ok (.iconst 0, 1) := by decide +kernel
theorem dX7_answer_2 : decode cX7_answer 2 = .ok (.putfield 42, 3) := by decide +kernel
theorem dX7_answer_5 : decode cX7_answer 5 = .ok (.iload_n 1, 1) := by decide +kernel
theorem dX7_answer_6 : decode cX7_answer 6 = .ok (.iconst 0, 1) := by decide +kernel
theorem dX7_answer_7 : decode cX7_answer 7 = .ok (.iconst 1, 1) := by decide +kernel
theorem dX7_answer_8 : decode cX7_answer 8 = .ok (.invokestatic 176, 3) := by decide +kernel
theorem dX7_answer_11 : decode cX7_answer 11 = .ok (.ifCond .eq 10, 3) := by decide +kernel
theorem dX7_answer_14 : decode cX7_answer 14 = .ok (.aload_n 0, 1) := by decide +kernel
theorem dX7_answer_15 : decode cX7_answer 15 = .ok (.invokevirtual 267, 3) := by decide +kernel
theorem dX7_answer_18 : decode cX7_answer 18 = .ok (.ifCond .ne 7, 3) := by decide +kernel
theorem dX7_answer_21 : decode cX7_answer 21 = .ok (.ldc2_w 270, 3) := by decide +kernel
theorem dX7_answer_24 : decode cX7_answer 24 = .ok (.lreturn, 1) := by decide +kernel
theorem dX7_answer_25 : decode cX7_answer 25 = .ok (.aload_n 0, 1) := by decide +kernel
theorem dX7_answer_26 : decode cX7_answer 26 = .ok (.dup, 1) := by decide +kernel
theorem dX7_answer_27 : decode cX7_answer 27 = .ok (.getfield 244, 3) := by decide +kernel
theorem dX7_answer_30 : decode cX7_answer 30 = .ok (.aload_n 0, 1) := by decide +kernel
theorem dX7_answer_31 : decode cX7_answer 31 = .ok (.getfield 248, 3) := by decide +kernel
theorem dX7_answer_34 : decode cX7_answer 34 = .ok (.aload_n 0, 1) := by decide +kernel
theorem dX7_answer_35 : decode cX7_answer 35 = .ok (.aload_n 0, 1) := by decide +kernel
theorem dX7_answer_36 : decode cX7_answer 36 = .ok (.getfield 20, 3) := by decide +kernel
theorem dX7_answer_39 : decode cX7_answer 39 = .ok (.iconst 1, 1) := by decide +kernel
theorem dX7_answer_40 : decode cX7_answer 40 = .ok (.iaload, 1) := by decide +kernel
theorem dX7_answer_41 : decode cX7_answer 41 = .ok (.aload_n 0, 1) := by decide +kernel
theorem dX7_answer_42 : decode cX7_answer 42 = .ok (.getfield 20, 3) := by decide +kernel
theorem dX7_answer_45 : decode cX7_answer 45 = .ok (.iconst 3, 1) := by decide +kernel
theorem dX7_answer_46 : decode cX7_answer 46 = .ok (.iaload, 1) := by decide +kernel
theorem dX7_answer_47 : decode cX7_answer 47 = .ok (.aload_n 0, 1) := by decide +kernel
theorem dX7_answer_48 : decode cX7_answer 48 = .ok (.getfield 20, 3) := by decide +kernel
theorem dX7_answer_51 : decode cX7_answer 51 = .ok (.iconst 4, 1) := by decide +kernel
theorem dX7_answer_52 : decode cX7_answer 52 = .ok (.iaload, 1) := by decide +kernel
theorem dX7_answer_53 : decode cX7_answer 53 = .ok (.invokevirtual 223, 3) := by decide +kernel
theorem dX7_answer_56 : decode cX7_answer 56 = .ok (.i2l, 1) := by decide +kernel
theorem dX7_answer_57 : decode cX7_answer 57 = .ok (.lmul, 1) := by decide +kernel
theorem dX7_answer_58 : decode cX7_answer 58 = .ok (.ladd, 1) := by decide +kernel
theorem dX7_answer_59 : decode cX7_answer 59 = .ok (.putfield 244, 3) := by decide +kernel
theorem dX7_answer_62 : decode cX7_answer 62 = .ok (.aload_n 0, 1) := by decide +kernel
theorem dX7_answer_63 : decode cX7_answer 63 = .ok (.getfield 20, 3) := by decide +kernel
theorem dX7_answer_66 : decode cX7_answer 66 = .ok (.iconst 2, 1) := by decide +kernel
theorem dX7_answer_67 : decode cX7_answer 67 = .ok (.iaload, 1) := by decide +kernel
theorem dX7_answer_68 : decode cX7_answer 68 = .ok (.iconst (-1), 1) := by decide +kernel
theorem dX7_answer_69 : decode cX7_answer 69 = .ok (.if_icmp .eq 40, 3) := by decide +kernel
theorem dX7_answer_72 : decode cX7_answer 72 = .ok (.aload_n 0, 1) := by decide +kernel
theorem dX7_answer_73 : decode cX7_answer 73 = .ok (.dup, 1) := by decide +kernel
theorem dX7_answer_74 : decode cX7_answer 74 = .ok (.getfield 244, 3) := by decide +kernel
theorem dX7_answer_77 : decode cX7_answer 77 = .ok (.aload_n 0, 1) := by decide +kernel
theorem dX7_answer_78 : decode cX7_answer 78 = .ok (.getfield 248, 3) := by decide +kernel
theorem dX7_answer_81 : decode cX7_answer 81 = .ok (.aload_n 0, 1) := by decide +kernel
theorem dX7_answer_82 : decode cX7_answer 82 = .ok (.aload_n 0, 1) := by decide +kernel
theorem dX7_answer_83 : decode cX7_answer 83 = .ok (.getfield 20, 3) := by decide +kernel
theorem dX7_answer_86 : decode cX7_answer 86 = .ok (.iconst 2, 1) := by decide +kernel
theorem dX7_answer_87 : decode cX7_answer 87 = .ok (.iaload, 1) := by decide +kernel
theorem dX7_answer_88 : decode cX7_answer 88 = .ok (.aload_n 0, 1) := by decide +kernel
theorem dX7_answer_89 : decode cX7_answer 89 = .ok (.getfield 20, 3) := by decide +kernel
theorem dX7_answer_92 : decode cX7_answer 92 = .ok (.iconst 3, 1) := by decide +kernel
theorem dX7_answer_93 : decode cX7_answer 93 = .ok (.iaload, 1) := by decide +kernel
theorem dX7_answer_94 : decode cX7_answer 94 = .ok (.aload_n 0, 1) := by decide +kernel
theorem dX7_answer_95 : decode cX7_answer 95 = .ok (.getfield 20, 3) := by decide +kernel
theorem dX7_answer_98 : decode cX7_answer 98 = .ok (.iconst 4, 1) := by decide +kernel
theorem dX7_answer_99 : decode cX7_answer 99 = .ok (.iaload, 1) := by decide +kernel
theorem dX7_answer_100 : decode cX7_answer 100 = .ok (.invokevirtual 223, 3) := by decide +kernel
theorem dX7_answer_103 : decode cX7_answer 103 = .ok (.i2l, 1) := by decide +kernel
theorem dX7_answer_104 : decode cX7_answer 104 = .ok (.lmul, 1) := by decide +kernel
theorem dX7_answer_105 : decode cX7_answer 105 = .ok (.ladd, 1) := by decide +kernel
theorem dX7_answer_106 : decode cX7_answer 106 = .ok (.putfield 244, 3) := by decide +kernel
theorem dX7_answer_109 : decode cX7_answer 109 = .ok (.aload_n 0, 1) := by decide +kernel
theorem dX7_answer_110 : decode cX7_answer 110 = .ok (.iload_n 1, 1) := by decide +kernel
theorem dX7_answer_111 : decode cX7_answer 111 = .ok (.invokevirtual 272, 3) := by decide +kernel
theorem dX7_answer_114 : decode cX7_answer 114 = .ok (.lreturn, 1) := by decide +kernel
set_option maxRecDepth 20000 in
theorem ggX7_stages_X7_isFact : GoodIn wsX7_stages wsX7_isFact := goodIn_r _ [7, 8, 9, 10, 6, 11, 12, 13, 14, 15, 16, 17, 18, 19, 20, 21, 22, 23, 24, 25, 26, 27, 28, 29, 30, 31, 32, 33, 34, 35, 36, 37, 38, 39] (by decide +kernel) (by decide +kernel)
set_option maxRecDepth 20000 in
theorem gX7_stages_X7_isFact : GoodIn wsX7_stages (wsV RX7 235 RX7 yX7_isFact wsX7_isFact) := goodIn_app (goodIn_of _ (by decide +kernel)) ggX7_stages_X7_isFact
theorem dX7_stages_0 : decode cX7_stages 0 = .ok (.aload_n 0, 1) := by decide +kernel
theorem dX7_stages_1 : decode cX7_stages 1 = .ok (.getfield 207, 3) := by decide +kernel
theorem dX7_stages_4 : decode cX7_stages 4 = .ok (.ifCond .eq 7, 3) := by decide +kernel
theorem dX7_stages_7 : decode cX7_stages 7 = .ok (.iconst 1, 1) := by decide +kernel
theorem dX7_stages_8 : decode cX7_stages 8 = .ok (.goto 4, 3) := by decide +kernel
theorem dX7_stages_11 : decode cX7_stages 11 = .ok (.iconst 0, 1) := by decide +kernel
theorem dX7_stages_12 : decode cX7_stages 12 = .ok (.istore_n 1, 1) := by decide +kernel
theorem dX7_stages_13 : decode cX7_stages 13 = .ok (.iconst 0, 1) := by decide +kernel
theorem dX7_stages_14 : decode cX7_stages 14 = .ok (.istore_n 2, 1) := by decide +kernel
