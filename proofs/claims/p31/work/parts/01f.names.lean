theorem dL_law_35 : decode cL_law 35 = .ok (.ifCond .eq 47, 3) := by decide +kernel
theorem dL_law_38 : decode cL_law 38 = .ok (.aload_n 1, 1) := by decide +kernel
theorem dL_law_39 : decode cL_law 39 = .ok (.aload_n 0, 1) := by decide +kernel
theorem dL_law_40 : decode cL_law 40 = .ok (.iconst 0, 1) := by decide +kernel
theorem dL_law_41 : decode cL_law 41 = .ok (.invokestatic 81, 3) := by decide +kernel
theorem dL_law_44 : decode cL_law 44 = .ok (.aload_n 2, 1) := by decide +kernel
theorem dL_law_45 : decode cL_law 45 = .ok (.aload_n 3, 1) := by decide +kernel
theorem dL_law_46 : decode cL_law 46 = .ok (.invokestatic 85, 3) := by decide +kernel
theorem dL_law_49 : decode cL_law 49 = .ok (.ifCond .eq 33, 3) := by decide +kernel
theorem dL_law_52 : decode cL_law 52 = .ok (.aload_n 1, 1) := by decide +kernel
theorem dL_law_53 : decode cL_law 53 = .ok (.aload_n 0, 1) := by decide +kernel
theorem dL_law_54 : decode cL_law 54 = .ok (.iconst 1, 1) := by decide +kernel
theorem dL_law_55 : decode cL_law 55 = .ok (.invokestatic 81, 3) := by decide +kernel
theorem dL_law_58 : decode cL_law 58 = .ok (.aload_n 2, 1) := by decide +kernel
theorem dL_law_59 : decode cL_law 59 = .ok (.aload_n 3, 1) := by decide +kernel
theorem dL_law_60 : decode cL_law 60 = .ok (.invokestatic 85, 3) := by decide +kernel
theorem dL_law_63 : decode cL_law 63 = .ok (.ifCond .eq 19, 3) := by decide +kernel
theorem dL_law_66 : decode cL_law 66 = .ok (.aload_n 1, 1) := by decide +kernel
theorem dL_law_67 : decode cL_law 67 = .ok (.bipush 16, 2) := by decide +kernel
theorem dL_law_69 : decode cL_law 69 = .ok (.iconst 0, 1) := by decide +kernel
theorem dL_law_70 : decode cL_law 70 = .ok (.bipush 60, 2) := by decide +kernel
theorem dL_law_72 : decode cL_law 72 = .ok (.invokestatic 77, 3) := by decide +kernel
theorem dL_law_75 : decode cL_law 75 = .ok (.ifCond .eq 7, 3) := by decide +kernel
theorem dL_law_78 : decode cL_law 78 = .ok (.iconst 1, 1) := by decide +kernel
theorem dL_law_79 : decode cL_law 79 = .ok (.goto 4, 3) := by decide +kernel
theorem dL_law_82 : decode cL_law 82 = .ok (.iconst 0, 1) := by decide +kernel
theorem dL_law_83 : decode cL_law 83 = .ok (.istore 4, 2) := by decide +kernel
theorem dL_law_85 : decode cL_law 85 = .ok (.iconst 1, 1) := by decide +kernel
theorem dL_law_86 : decode cL_law 86 = .ok (.aload_n 0, 1) := by decide +kernel
theorem dL_law_87 : decode cL_law 87 = .ok (.iconst 2, 1) := by decide +kernel
theorem dL_law_88 : decode cL_law 88 = .ok (.invokestatic 81, 3) := by decide +kernel
theorem dL_law_91 : decode cL_law 91 = .ok (.bipush 9, 2) := by decide +kernel
theorem dL_law_93 : decode cL_law 93 = .ok (.irem, 1) := by decide +kernel
theorem dL_law_94 : decode cL_law 94 = .ok (.iadd, 1) := by decide +kernel
theorem dL_law_95 : decode cL_law 95 = .ok (.istore 5, 2) := by decide +kernel
theorem dL_law_97 : decode cL_law 97 = .ok (.iconst 1, 1) := by decide +kernel
theorem dL_law_98 : decode cL_law 98 = .ok (.aload_n 0, 1) := by decide +kernel
theorem dL_law_99 : decode cL_law 99 = .ok (.iconst 2, 1) := by decide +kernel
theorem dL_law_100 : decode cL_law 100 = .ok (.invokestatic 81, 3) := by decide +kernel
theorem dL_law_103 : decode cL_law 103 = .ok (.iconst 4, 1) := by decide +kernel
theorem dL_law_104 : decode cL_law 104 = .ok (.ishr, 1) := by decide +kernel
theorem dL_law_105 : decode cL_law 105 = .ok (.bipush 120, 2) := by decide +kernel
theorem dL_law_107 : decode cL_law 107 = .ok (.irem, 1) := by decide +kernel
theorem dL_law_108 : decode cL_law 108 = .ok (.iadd, 1) := by decide +kernel
theorem dL_law_109 : decode cL_law 109 = .ok (.istore 6, 2) := by decide +kernel
theorem dL_law_111 : decode cL_law 111 = .ok (.iload 4, 2) := by decide +kernel
theorem dL_law_113 : decode cL_law 113 = .ok (.ifCond .eq 28, 3) := by decide +kernel
theorem dL_law_116 : decode cL_law 116 = .ok (.aload_n 1, 1) := by decide +kernel
theorem dL_law_117 : decode cL_law 117 = .ok (.iload 5, 2) := by decide +kernel
theorem dL_law_119 : decode cL_law 119 = .ok (.invokevirtual 89, 3) := by decide +kernel
theorem dL_law_122 : decode cL_law 122 = .ok (.iconst 2, 1) := by decide +kernel
theorem dL_law_123 : decode cL_law 123 = .ok (.if_icmp .ne 18, 3) := by decide +kernel
theorem dL_law_126 : decode cL_law 126 = .ok (.aload_n 1, 1) := by decide +kernel
theorem dL_law_127 : decode cL_law 127 = .ok (.iload 6, 2) := by decide +kernel
theorem dL_law_129 : decode cL_law 129 = .ok (.invokevirtual 92, 3) := by decide +kernel
theorem dL_law_132 : decode cL_law 132 = .ok (.bipush 60, 2) := by decide +kernel
theorem dL_law_134 : decode cL_law 134 = .ok (.if_icmp .ne 7, 3) := by decide +kernel
theorem dL_law_137 : decode cL_law 137 = .ok (.iconst 1, 1) := by decide +kernel
theorem dL_law_138 : decode cL_law 138 = .ok (.goto 4, 3) := by decide +kernel
theorem dL_law_141 : decode cL_law 141 = .ok (.iconst 0, 1) := by decide +kernel
theorem dL_law_142 : decode cL_law 142 = .ok (.istore 4, 2) := by decide +kernel
theorem dL_law_144 : decode cL_law 144 = .ok (.iconst 0, 1) := by decide +kernel
theorem dL_law_145 : decode cL_law 145 = .ok (.istore 7, 2) := by decide +kernel
theorem dL_law_147 : decode cL_law 147 = .ok (.iload 7, 2) := by decide +kernel
theorem dL_law_149 : decode cL_law 149 = .ok (.iconst 5, 1) := by decide +kernel
theorem dL_law_150 : decode cL_law 150 = .ok (.if_icmp .ge 538, 3) := by decide +kernel
theorem dL_law_153 : decode cL_law 153 = .ok (.iload 4, 2) := by decide +kernel
theorem dL_law_155 : decode cL_law 155 = .ok (.ifCond .eq 533, 3) := by decide +kernel
theorem dL_law_158 : decode cL_law 158 = .ok (.aload_n 0, 1) := by decide +kernel
theorem dL_law_159 : decode cL_law 159 = .ok (.iconst 3, 1) := by decide +kernel
theorem dL_law_160 : decode cL_law 160 = .ok (.iload 7, 2) := by decide +kernel
theorem dL_law_162 : decode cL_law 162 = .ok (.iadd, 1) := by decide +kernel
theorem dL_law_163 : decode cL_law 163 = .ok (.invokestatic 81, 3) := by decide +kernel
theorem dL_law_166 : decode cL_law 166 = .ok (.istore 8, 2) := by decide +kernel
theorem dL_law_168 : decode cL_law 168 = .ok (.aload_n 1, 1) := by decide +kernel
theorem dL_law_169 : decode cL_law 169 = .ok (.iload 8, 2) := by decide +kernel
theorem dL_law_171 : decode cL_law 171 = .ok (.bipush 70, 2) := by decide +kernel
theorem dL_law_173 : decode cL_law 173 = .ok (.irem, 1) := by decide +kernel
theorem dL_law_174 : decode cL_law 174 = .ok (.invokevirtual 95, 3) := by decide +kernel
theorem dL_law_177 : decode cL_law 177 = .ok (.istore 9, 2) := by decide +kernel
theorem dL_law_179 : decode cL_law 179 = .ok (.aload_n 1, 1) := by decide +kernel
theorem dL_law_180 : decode cL_law 180 = .ok (.invokevirtual 54, 3) := by decide +kernel
theorem dL_law_183 : decode cL_law 183 = .ok (.istore 10, 2) := by decide +kernel
theorem dL_law_185 : decode cL_law 185 = .ok (.aload_n 1, 1) := by decide +kernel
theorem dL_law_186 : decode cL_law 186 = .ok (.aload_n 1, 1) := by decide +kernel
theorem dL_law_187 : decode cL_law 187 = .ok (.invokevirtual 98, 3) := by decide +kernel
theorem dL_law_190 : decode cL_law 190 = .ok (.invokevirtual 95, 3) := by decide +kernel
theorem dL_law_193 : decode cL_law 193 = .ok (.iload 9, 2) := by decide +kernel
theorem dL_law_195 : decode cL_law 195 = .ok (.if_icmp .ne 28, 3) := by decide +kernel
theorem dL_law_198 : decode cL_law 198 = .ok (.aload_n 1, 1) := by decide +kernel
theorem dL_law_199 : decode cL_law 199 = .ok (.invokevirtual 54, 3) := by decide +kernel
theorem dL_law_202 : decode cL_law 202 = .ok (.iload 10, 2) := by decide +kernel
theorem dL_law_204 : decode cL_law 204 = .ok (.if_icmp .ne 19, 3) := by decide +kernel
theorem dL_law_207 : decode cL_law 207 = .ok (.aload_n 1, 1) := by decide +kernel
theorem dL_law_208 : decode cL_law 208 = .ok (.bipush 16, 2) := by decide +kernel
theorem dL_law_210 : decode cL_law 210 = .ok (.iconst 0, 1) := by decide +kernel
theorem dL_law_211 : decode cL_law 211 = .ok (.iload 6, 2) := by decide +kernel
theorem dL_law_213 : decode cL_law 213 = .ok (.invokestatic 77, 3) := by decide +kernel
theorem dL_law_216 : decode cL_law 216 = .ok (.ifCond .eq 7, 3) := by decide +kernel
theorem dL_law_219 : decode cL_law 219 = .ok (.iconst 1, 1) := by decide +kernel
theorem dL_law_220 : decode cL_law 220 = .ok (.goto 4, 3) := by decide +kernel
theorem dL_law_223 : decode cL_law 223 = .ok (.iconst 0, 1) := by decide +kernel
theorem dL_law_224 : decode cL_law 224 = .ok (.istore 4, 2) := by decide +kernel
theorem dL_law_226 : decode cL_law 226 = .ok (.iload 8, 2) := by decide +kernel
theorem dL_law_228 : decode cL_law 228 = .ok (.bipush 7, 2) := by decide +kernel
theorem dL_law_230 : decode cL_law 230 = .ok (.ishr, 1) := by decide +kernel
theorem dL_law_231 : decode cL_law 231 = .ok (.iconst 2, 1) := by decide +kernel
theorem dL_law_232 : decode cL_law 232 = .ok (.irem, 1) := by decide +kernel
theorem dL_law_233 : decode cL_law 233 = .ok (.istore 11, 2) := by decide +kernel
theorem dL_law_235 : decode cL_law 235 = .ok (.iload 4, 2) := by decide +kernel
theorem dL_law_237 : decode cL_law 237 = .ok (.ifCond .eq 12, 3) := by decide +kernel
theorem dL_law_240 : decode cL_law 240 = .ok (.aload_n 1, 1) := by decide +kernel
theorem dL_law_241 : decode cL_law 241 = .ok (.iload 11, 2) := by decide +kernel
theorem dL_law_243 : decode cL_law 243 = .ok (.invokevirtual 101, 3) := by decide +kernel
theorem dL_law_246 : decode cL_law 246 = .ok (.goto 4, 3) := by decide +kernel
theorem dL_law_249 : decode cL_law 249 = .ok (.iconst 0, 1) := by decide +kernel
theorem dL_law_250 : decode cL_law 250 = .ok (.istore 12, 2) := by decide +kernel
theorem dL_law_252 : decode cL_law 252 = .ok (.iload 4, 2) := by decide +kernel
theorem dL_law_254 : decode cL_law 254 = .ok (.ifCond .eq 12, 3) := by decide +kernel
theorem dL_law_257 : decode cL_law 257 = .ok (.aload_n 1, 1) := by decide +kernel
theorem dL_law_258 : decode cL_law 258 = .ok (.iload 11, 2) := by decide +kernel
theorem dL_law_260 : decode cL_law 260 = .ok (.invokevirtual 45, 3) := by decide +kernel
theorem dL_law_263 : decode cL_law 263 = .ok (.goto 4, 3) := by decide +kernel
theorem dL_law_266 : decode cL_law 266 = .ok (.iconst 0, 1) := by decide +kernel
theorem dL_law_267 : decode cL_law 267 = .ok (.istore 13, 2) := by decide +kernel
theorem dL_law_269 : decode cL_law 269 = .ok (.iload 4, 2) := by decide +kernel
theorem dL_law_271 : decode cL_law 271 = .ok (.ifCond .eq 12, 3) := by decide +kernel
theorem dL_law_274 : decode cL_law 274 = .ok (.aload_n 1, 1) := by decide +kernel
theorem dL_law_275 : decode cL_law 275 = .ok (.iload 11, 2) := by decide +kernel
theorem dL_law_277 : decode cL_law 277 = .ok (.invokevirtual 48, 3) := by decide +kernel
theorem dL_law_280 : decode cL_law 280 = .ok (.goto 4, 3) := by decide +kernel
theorem dL_law_283 : decode cL_law 283 = .ok (.iconst 0, 1) := by decide +kernel
theorem dL_law_284 : decode cL_law 284 = .ok (.istore 14, 2) := by decide +kernel
theorem dL_law_286 : decode cL_law 286 = .ok (.iload 4, 2) := by decide +kernel
theorem dL_law_288 : decode cL_law 288 = .ok (.ifCond .eq 115, 3) := by decide +kernel
theorem dL_law_291 : decode cL_law 291 = .ok (.iload 13, 2) := by decide +kernel
theorem dL_law_293 : decode cL_law 293 = .ok (.bipush 16, 2) := by decide +kernel
theorem dL_law_295 : decode cL_law 295 = .ok (.if_icmp .gt 108, 3) := by decide +kernel
theorem dL_law_298 : decode cL_law 298 = .ok (.iload 12, 2) := by decide +kernel
theorem dL_law_300 : decode cL_law 300 = .ok (.ifCond .lt 25, 3) := by decide +kernel
theorem dL_law_303 : decode cL_law 303 = .ok (.aload_n 1, 1) := by decide +kernel
theorem dL_law_304 : decode cL_law 304 = .ok (.iload 12, 2) := by decide +kernel
theorem dL_law_306 : decode cL_law 306 = .ok (.invokevirtual 95, 3) := by decide +kernel
theorem dL_law_309 : decode cL_law 309 = .ok (.ifCond .lt 16, 3) := by decide +kernel
theorem dL_law_312 : decode cL_law 312 = .ok (.aload_n 1, 1) := by decide +kernel
theorem dL_law_313 : decode cL_law 313 = .ok (.iload 11, 2) := by decide +kernel
theorem dL_law_315 : decode cL_law 315 = .ok (.invokevirtual 101, 3) := by decide +kernel
theorem dL_law_318 : decode cL_law 318 = .ok (.ifCond .ne 7, 3) := by decide +kernel
theorem dL_law_321 : decode cL_law 321 = .ok (.iconst 1, 1) := by decide +kernel
theorem dL_law_322 : decode cL_law 322 = .ok (.goto 4, 3) := by decide +kernel
theorem dL_law_325 : decode cL_law 325 = .ok (.iconst 0, 1) := by decide +kernel
theorem dL_law_326 : decode cL_law 326 = .ok (.istore 4, 2) := by decide +kernel
theorem dL_law_328 : decode cL_law 328 = .ok (.aload_n 1, 1) := by decide +kernel
theorem dL_law_329 : decode cL_law 329 = .ok (.invokevirtual 57, 3) := by decide +kernel
theorem dL_law_332 : decode cL_law 332 = .ok (.istore 15, 2) := by decide +kernel
theorem dL_law_334 : decode cL_law 334 = .ok (.iconst 0, 1) := by decide +kernel
theorem dL_law_335 : decode cL_law 335 = .ok (.istore 16, 2) := by decide +kernel
theorem dL_law_337 : decode cL_law 337 = .ok (.iconst 0, 1) := by decide +kernel
theorem dL_law_338 : decode cL_law 338 = .ok (.istore 17, 2) := by decide +kernel
theorem dL_law_340 : decode cL_law 340 = .ok (.iload 17, 2) := by decide +kernel
theorem dL_law_342 : decode cL_law 342 = .ok (.iload 13, 2) := by decide +kernel
theorem dL_law_344 : decode cL_law 344 = .ok (.iadd, 1) := by decide +kernel
theorem dL_law_345 : decode cL_law 345 = .ok (.bipush 16, 2) := by decide +kernel
theorem dL_law_347 : decode cL_law 347 = .ok (.if_icmp .gt 36, 3) := by decide +kernel
theorem dL_law_350 : decode cL_law 350 = .ok (.iload 16, 2) := by decide +kernel
theorem dL_law_352 : decode cL_law 352 = .ok (.ifCond .ne 18, 3) := by decide +kernel
theorem dL_law_355 : decode cL_law 355 = .ok (.aload_n 1, 1) := by decide +kernel
theorem dL_law_356 : decode cL_law 356 = .ok (.invokevirtual 66, 3) := by decide +kernel
theorem dL_law_359 : decode cL_law 359 = .ok (.iload 17, 2) := by decide +kernel
theorem dL_law_361 : decode cL_law 361 = .ok (.iadd, 1) := by decide +kernel
theorem dL_law_362 : decode cL_law 362 = .ok (.iload 15, 2) := by decide +kernel
theorem dL_law_364 : decode cL_law 364 = .ok (.irem, 1) := by decide +kernel
theorem dL_law_365 : decode cL_law 365 = .ok (.iload 14, 2) := by decide +kernel
theorem dL_law_367 : decode cL_law 367 = .ok (.if_icmp .ne 7, 3) := by decide +kernel
theorem dL_law_370 : decode cL_law 370 = .ok (.iconst 1, 1) := by decide +kernel
theorem dL_law_371 : decode cL_law 371 = .ok (.goto 4, 3) := by decide +kernel
theorem dL_law_374 : decode cL_law 374 = .ok (.iconst 0, 1) := by decide +kernel
theorem dL_law_375 : decode cL_law 375 = .ok (.istore 16, 2) := by decide +kernel
theorem dL_law_377 : decode cL_law 377 = .ok (.iinc 17 1, 3) := by decide +kernel
theorem dL_law_380 : decode cL_law 380 = .ok (.goto (-40), 3) := by decide +kernel
theorem dL_law_383 : decode cL_law 383 = .ok (.iload 4, 2) := by decide +kernel
theorem dL_law_385 : decode cL_law 385 = .ok (.ifCond .eq 12, 3) := by decide +kernel
theorem dL_law_388 : decode cL_law 388 = .ok (.iload 16, 2) := by decide +kernel
theorem dL_law_390 : decode cL_law 390 = .ok (.ifCond .eq 7, 3) := by decide +kernel
theorem dL_law_393 : decode cL_law 393 = .ok (.iconst 1, 1) := by decide +kernel
theorem dL_law_394 : decode cL_law 394 = .ok (.goto 4, 3) := by decide +kernel
theorem dL_law_397 : decode cL_law 397 = .ok (.iconst 0, 1) := by decide +kernel
theorem dL_law_398 : decode cL_law 398 = .ok (.istore 4, 2) := by decide +kernel
theorem dL_law_400 : decode cL_law 400 = .ok (.goto 22, 3) := by decide +kernel
theorem dL_law_403 : decode cL_law 403 = .ok (.iload 4, 2) := by decide +kernel
theorem dL_law_405 : decode cL_law 405 = .ok (.ifCond .eq 14, 3) := by decide +kernel
theorem dL_law_408 : decode cL_law 408 = .ok (.iload 12, 2) := by decide +kernel
theorem dL_law_410 : decode cL_law 410 = .ok (.bipush (-14), 2) := by decide +kernel
theorem dL_law_412 : decode cL_law 412 = .ok (.if_icmp .ne 7, 3) := by decide +kernel
theorem dL_law_415 : decode cL_law 415 = .ok (.iconst 1, 1) := by decide +kernel
theorem dL_law_416 : decode cL_law 416 = .ok (.goto 4, 3) := by decide +kernel
theorem dL_law_419 : decode cL_law 419 = .ok (.iconst 0, 1) := by decide +kernel
theorem dL_law_420 : decode cL_law 420 = .ok (.istore 4, 2) := by decide +kernel
theorem dL_law_422 : decode cL_law 422 = .ok (.iload 8, 2) := by decide +kernel
theorem dL_law_424 : decode cL_law 424 = .ok (.bipush 9, 2) := by decide +kernel
theorem dL_law_426 : decode cL_law 426 = .ok (.ishr, 1) := by decide +kernel
theorem dL_law_427 : decode cL_law 427 = .ok (.bipush 8, 2) := by decide +kernel
theorem dL_law_429 : decode cL_law 429 = .ok (.irem, 1) := by decide +kernel
theorem dL_law_430 : decode cL_law 430 = .ok (.istore 15, 2) := by decide +kernel
theorem dL_law_432 : decode cL_law 432 = .ok (.iload 8, 2) := by decide +kernel
theorem dL_law_434 : decode cL_law 434 = .ok (.bipush 12, 2) := by decide +kernel
theorem dL_law_436 : decode cL_law 436 = .ok (.ishr, 1) := by decide +kernel
theorem dL_law_437 : decode cL_law 437 = .ok (.bipush 16, 2) := by decide +kernel
theorem dL_law_439 : decode cL_law 439 = .ok (.irem, 1) := by decide +kernel
theorem dL_law_440 : decode cL_law 440 = .ok (.istore 16, 2) := by decide +kernel
theorem dL_law_442 : decode cL_law 442 = .ok (.iload 4, 2) := by decide +kernel
theorem dL_law_444 : decode cL_law 444 = .ok (.ifCond .eq 14, 3) := by decide +kernel
theorem dL_law_447 : decode cL_law 447 = .ok (.aload_n 1, 1) := by decide +kernel
theorem dL_law_448 : decode cL_law 448 = .ok (.iload 15, 2) := by decide +kernel
theorem dL_law_450 : decode cL_law 450 = .ok (.iload 16, 2) := by decide +kernel
theorem dL_law_452 : decode cL_law 452 = .ok (.invokevirtual 51, 3) := by decide +kernel
theorem dL_law_455 : decode cL_law 455 = .ok (.goto 4, 3) := by decide +kernel
theorem dL_law_458 : decode cL_law 458 = .ok (.iconst 0, 1) := by decide +kernel
theorem dL_law_459 : decode cL_law 459 = .ok (.istore 17, 2) := by decide +kernel
theorem dL_law_461 : decode cL_law 461 = .ok (.iload 4, 2) := by decide +kernel
theorem dL_law_463 : decode cL_law 463 = .ok (.ifCond .eq 10, 3) := by decide +kernel
theorem dL_law_466 : decode cL_law 466 = .ok (.aload_n 1, 1) := by decide +kernel
theorem dL_law_467 : decode cL_law 467 = .ok (.invokevirtual 54, 3) := by decide +kernel
theorem dL_law_470 : decode cL_law 470 = .ok (.goto 4, 3) := by decide +kernel
theorem dL_law_473 : decode cL_law 473 = .ok (.iconst 0, 1) := by decide +kernel
theorem dL_law_474 : decode cL_law 474 = .ok (.istore 18, 2) := by decide +kernel
theorem dL_law_476 : decode cL_law 476 = .ok (.iload 4, 2) := by decide +kernel
theorem dL_law_478 : decode cL_law 478 = .ok (.ifCond .eq 79, 3) := by decide +kernel
theorem dL_law_481 : decode cL_law 481 = .ok (.aload_n 1, 1) := by decide +kernel
theorem dL_law_482 : decode cL_law 482 = .ok (.iload 15, 2) := by decide +kernel
theorem dL_law_484 : decode cL_law 484 = .ok (.iload 16, 2) := by decide +kernel
theorem dL_law_486 : decode cL_law 486 = .ok (.iconst 1, 1) := by decide +kernel
theorem dL_law_487 : decode cL_law 487 = .ok (.invokevirtual 104, 3) := by decide +kernel
theorem dL_law_490 : decode cL_law 490 = .ok (.iconst 1, 1) := by decide +kernel
theorem dL_law_491 : decode cL_law 491 = .ok (.if_icmp .ne 66, 3) := by decide +kernel
theorem dL_law_494 : decode cL_law 494 = .ok (.aload_n 1, 1) := by decide +kernel
theorem dL_law_495 : decode cL_law 495 = .ok (.iload 15, 2) := by decide +kernel
theorem dL_law_497 : decode cL_law 497 = .ok (.iload 16, 2) := by decide +kernel
theorem dL_law_499 : decode cL_law 499 = .ok (.invokevirtual 51, 3) := by decide +kernel
theorem dL_law_502 : decode cL_law 502 = .ok (.ifCond .ne 55, 3) := by decide +kernel
theorem dL_law_505 : decode cL_law 505 = .ok (.aload_n 1, 1) := by decide +kernel
theorem dL_law_506 : decode cL_law 506 = .ok (.invokevirtual 54, 3) := by decide +kernel
theorem dL_law_509 : decode cL_law 509 = .ok (.iload 18, 2) := by decide +kernel
theorem dL_law_511 : decode cL_law 511 = .ok (.iload 17, 2) := by decide +kernel
theorem dL_law_513 : decode cL_law 513 = .ok (.iconst 3, 1) := by decide +kernel
theorem dL_law_514 : decode cL_law 514 = .ok (.if_icmp .ne 7, 3) := by decide +kernel
theorem dL_law_517 : decode cL_law 517 = .ok (.iconst 2, 1) := by decide +kernel
theorem dL_law_518 : decode cL_law 518 = .ok (.goto 13, 3) := by decide +kernel
theorem dL_law_521 : decode cL_law 521 = .ok (.iload 17, 2) := by decide +kernel
theorem dL_law_523 : decode cL_law 523 = .ok (.ifCond .le 7, 3) := by decide +kernel
theorem dL_law_526 : decode cL_law 526 = .ok (.iconst 1, 1) := by decide +kernel
theorem dL_law_527 : decode cL_law 527 = .ok (.goto 4, 3) := by decide +kernel
theorem dL_law_530 : decode cL_law 530 = .ok (.iconst 0, 1) := by decide +kernel
theorem dL_law_531 : decode cL_law 531 = .ok (.isub, 1) := by decide +kernel
theorem dL_law_532 : decode cL_law 532 = .ok (.if_icmp .ne 25, 3) := by decide +kernel
theorem dL_law_535 : decode cL_law 535 = .ok (.aload_n 1, 1) := by decide +kernel
theorem dL_law_536 : decode cL_law 536 = .ok (.iconst 0, 1) := by decide +kernel
theorem dL_law_537 : decode cL_law 537 = .ok (.invokevirtual 108, 3) := by decide +kernel
theorem dL_law_540 : decode cL_law 540 = .ok (.iload 17, 2) := by decide +kernel
theorem dL_law_542 : decode cL_law 542 = .ok (.ifCond .le 7, 3) := by decide +kernel
theorem dL_law_545 : decode cL_law 545 = .ok (.iconst 1, 1) := by decide +kernel
theorem dL_law_546 : decode cL_law 546 = .ok (.goto 4, 3) := by decide +kernel
theorem dL_law_549 : decode cL_law 549 = .ok (.iconst 0, 1) := by decide +kernel
theorem dL_law_550 : decode cL_law 550 = .ok (.if_icmp .lt 7, 3) := by decide +kernel
theorem dL_law_553 : decode cL_law 553 = .ok (.iconst 1, 1) := by decide +kernel
theorem dL_law_554 : decode cL_law 554 = .ok (.goto 4, 3) := by decide +kernel
theorem dL_law_557 : decode cL_law 557 = .ok (.iconst 0, 1) := by decide +kernel
theorem dL_law_558 : decode cL_law 558 = .ok (.istore 4, 2) := by decide +kernel
theorem dL_law_560 : decode cL_law 560 = .ok (.iload 4, 2) := by decide +kernel
theorem dL_law_562 : decode cL_law 562 = .ok (.ifCond .eq 10, 3) := by decide +kernel
theorem dL_law_565 : decode cL_law 565 = .ok (.aload_n 1, 1) := by decide +kernel
theorem dL_law_566 : decode cL_law 566 = .ok (.invokevirtual 111, 3) := by decide +kernel
theorem dL_law_569 : decode cL_law 569 = .ok (.goto 4, 3) := by decide +kernel
theorem dL_law_572 : decode cL_law 572 = .ok (.iconst 0, 1) := by decide +kernel
theorem dL_law_573 : decode cL_law 573 = .ok (.istore 19, 2) := by decide +kernel
theorem dL_law_575 : decode cL_law 575 = .ok (.bipush (-2), 2) := by decide +kernel
theorem dL_law_577 : decode cL_law 577 = .ok (.istore 20, 2) := by decide +kernel
theorem dL_law_579 : decode cL_law 579 = .ok (.iload 20, 2) := by decide +kernel
theorem dL_law_581 : decode cL_law 581 = .ok (.iconst 3, 1) := by decide +kernel
theorem dL_law_582 : decode cL_law 582 = .ok (.if_icmp .ge 32, 3) := by decide +kernel
theorem dL_law_585 : decode cL_law 585 = .ok (.iload 4, 2) := by decide +kernel
theorem dL_law_587 : decode cL_law 587 = .ok (.ifCond .eq 27, 3) := by decide +kernel
theorem dL_law_590 : decode cL_law 590 = .ok (.aload_n 1, 1) := by decide +kernel
theorem dL_law_591 : decode cL_law 591 = .ok (.iload 20, 2) := by decide +kernel
theorem dL_law_593 : decode cL_law 593 = .ok (.invokevirtual 108, 3) := by decide +kernel
theorem dL_law_596 : decode cL_law 596 = .ok (.iload 19, 2) := by decide +kernel
theorem dL_law_598 : decode cL_law 598 = .ok (.if_icmp .lt 7, 3) := by decide +kernel
theorem dL_law_601 : decode cL_law 601 = .ok (.iconst 1, 1) := by decide +kernel
theorem dL_law_602 : decode cL_law 602 = .ok (.goto 4, 3) := by decide +kernel
theorem dL_law_605 : decode cL_law 605 = .ok (.iconst 0, 1) := by decide +kernel
theorem dL_law_606 : decode cL_law 606 = .ok (.istore 4, 2) := by decide +kernel
theorem dL_law_608 : decode cL_law 608 = .ok (.iinc 20 1, 3) := by decide +kernel
theorem dL_law_611 : decode cL_law 611 = .ok (.goto (-32), 3) := by decide +kernel
theorem dL_law_614 : decode cL_law 614 = .ok (.iload 4, 2) := by decide +kernel
theorem dL_law_616 : decode cL_law 616 = .ok (.ifCond .eq 63, 3) := by decide +kernel
theorem dL_law_619 : decode cL_law 619 = .ok (.aload_n 1, 1) := by decide +kernel
theorem dL_law_620 : decode cL_law 620 = .ok (.bipush 16, 2) := by decide +kernel
theorem dL_law_622 : decode cL_law 622 = .ok (.iconst 1, 1) := by decide +kernel
theorem dL_law_623 : decode cL_law 623 = .ok (.iload 6, 2) := by decide +kernel
theorem dL_law_625 : decode cL_law 625 = .ok (.invokestatic 77, 3) := by decide +kernel
theorem dL_law_628 : decode cL_law 628 = .ok (.ifCond .eq 51, 3) := by decide +kernel
theorem dL_law_631 : decode cL_law 631 = .ok (.aload_n 1, 1) := by decide +kernel
theorem dL_law_632 : decode cL_law 632 = .ok (.iload 15, 2) := by decide +kernel
theorem dL_law_634 : decode cL_law 634 = .ok (.iload 16, 2) := by decide +kernel
theorem dL_law_636 : decode cL_law 636 = .ok (.iconst 0, 1) := by decide +kernel
theorem dL_law_637 : decode cL_law 637 = .ok (.invokevirtual 104, 3) := by decide +kernel
theorem dL_law_640 : decode cL_law 640 = .ok (.ifCond .ne 39, 3) := by decide +kernel
theorem dL_law_643 : decode cL_law 643 = .ok (.aload_n 1, 1) := by decide +kernel
theorem dL_law_644 : decode cL_law 644 = .ok (.iconst 0, 1) := by decide +kernel
theorem dL_law_645 : decode cL_law 645 = .ok (.invokevirtual 114, 3) := by decide +kernel
theorem dL_law_648 : decode cL_law 648 = .ok (.bipush (-2), 2) := by decide +kernel
theorem dL_law_650 : decode cL_law 650 = .ok (.if_icmp .lt 29, 3) := by decide +kernel
theorem dL_law_653 : decode cL_law 653 = .ok (.aload_n 1, 1) := by decide +kernel
theorem dL_law_654 : decode cL_law 654 = .ok (.iload 15, 2) := by decide +kernel
theorem dL_law_656 : decode cL_law 656 = .ok (.iload 16, 2) := by decide +kernel
theorem dL_law_658 : decode cL_law 658 = .ok (.invokevirtual 51, 3) := by decide +kernel
theorem dL_law_661 : decode cL_law 661 = .ok (.iload 17, 2) := by decide +kernel
theorem dL_law_663 : decode cL_law 663 = .ok (.if_icmp .ne 16, 3) := by decide +kernel
theorem dL_law_666 : decode cL_law 666 = .ok (.aload_n 1, 1) := by decide +kernel
theorem dL_law_667 : decode cL_law 667 = .ok (.invokevirtual 54, 3) := by decide +kernel
theorem dL_law_670 : decode cL_law 670 = .ok (.iload 18, 2) := by decide +kernel
theorem dL_law_672 : decode cL_law 672 = .ok (.if_icmp .ne 7, 3) := by decide +kernel
theorem dL_law_675 : decode cL_law 675 = .ok (.iconst 1, 1) := by decide +kernel
theorem dL_law_676 : decode cL_law 676 = .ok (.goto 4, 3) := by decide +kernel
theorem dL_law_679 : decode cL_law 679 = .ok (.iconst 0, 1) := by decide +kernel
theorem dL_law_680 : decode cL_law 680 = .ok (.istore 4, 2) := by decide +kernel
theorem dL_law_682 : decode cL_law 682 = .ok (.iinc 7 1, 3) := by decide +kernel
theorem dL_law_685 : decode cL_law 685 = .ok (.goto (-538), 3) := by decide +kernel
theorem dL_law_688 : decode cL_law 688 = .ok (.iload 4, 2) := by decide +kernel
theorem dL_law_690 : decode cL_law 690 = .ok (.ifCond .eq 10, 3) := by decide +kernel
theorem dL_law_693 : decode cL_law 693 = .ok (.aload_n 1, 1) := by decide +kernel
theorem dL_law_694 : decode cL_law 694 = .ok (.invokevirtual 57, 3) := by decide +kernel
theorem dL_law_697 : decode cL_law 697 = .ok (.goto 4, 3) := by decide +kernel
theorem dL_law_700 : decode cL_law 700 = .ok (.iconst 0, 1) := by decide +kernel
theorem dL_law_701 : decode cL_law 701 = .ok (.istore 7, 2) := by decide +kernel
theorem dL_law_703 : decode cL_law 703 = .ok (.iload 4, 2) := by decide +kernel
theorem dL_law_705 : decode cL_law 705 = .ok (.ifCond .eq 11, 3) := by decide +kernel
theorem dL_law_708 : decode cL_law 708 = .ok (.aload_n 1, 1) := by decide +kernel
theorem dL_law_709 : decode cL_law 709 = .ok (.iconst 1, 1) := by decide +kernel
theorem dL_law_710 : decode cL_law 710 = .ok (.invokevirtual 48, 3) := by decide +kernel
theorem dL_law_713 : decode cL_law 713 = .ok (.goto 4, 3) := by decide +kernel
theorem dL_law_716 : decode cL_law 716 = .ok (.iconst 0, 1) := by decide +kernel
theorem dL_law_717 : decode cL_law 717 = .ok (.istore 8, 2) := by decide +kernel
theorem dL_law_719 : decode cL_law 719 = .ok (.iload 4, 2) := by decide +kernel
theorem dL_law_721 : decode cL_law 721 = .ok (.ifCond .eq 72, 3) := by decide +kernel
theorem dL_law_724 : decode cL_law 724 = .ok (.aload_n 1, 1) := by decide +kernel
theorem dL_law_725 : decode cL_law 725 = .ok (.iconst 0, 1) := by decide +kernel
theorem dL_law_726 : decode cL_law 726 = .ok (.iconst 3, 1) := by decide +kernel
theorem dL_law_727 : decode cL_law 727 = .ok (.invokevirtual 39, 3) := by decide +kernel
theorem dL_law_730 : decode cL_law 730 = .ok (.iload 7, 2) := by decide +kernel
theorem dL_law_732 : decode cL_law 732 = .ok (.aload_n 1, 1) := by decide +kernel
theorem dL_law_733 : decode cL_law 733 = .ok (.iconst 0, 1) := by decide +kernel
theorem dL_law_734 : decode cL_law 734 = .ok (.invokevirtual 45, 3) := by decide +kernel
theorem dL_law_737 : decode cL_law 737 = .ok (.iadd, 1) := by decide +kernel
theorem dL_law_738 : decode cL_law 738 = .ok (.iconst 4, 1) := by decide +kernel
theorem dL_law_739 : decode cL_law 739 = .ok (.iadd, 1) := by decide +kernel
theorem dL_law_740 : decode cL_law 740 = .ok (.if_icmp .ne 53, 3) := by decide +kernel
theorem dL_law_743 : decode cL_law 743 = .ok (.aload_n 1, 1) := by decide +kernel
theorem dL_law_744 : decode cL_law 744 = .ok (.iconst 0, 1) := by decide +kernel
theorem dL_law_745 : decode cL_law 745 = .ok (.invokevirtual 48, 3) := by decide +kernel
theorem dL_law_748 : decode cL_law 748 = .ok (.ifCond .ne 45, 3) := by decide +kernel
theorem dL_law_751 : decode cL_law 751 = .ok (.aload_n 1, 1) := by decide +kernel
theorem dL_law_752 : decode cL_law 752 = .ok (.iconst 2, 1) := by decide +kernel
theorem dL_law_753 : decode cL_law 753 = .ok (.invokevirtual 48, 3) := by decide +kernel
theorem dL_law_756 : decode cL_law 756 = .ok (.iload 8, 2) := by decide +kernel
theorem dL_law_758 : decode cL_law 758 = .ok (.aload_n 1, 1) := by decide +kernel
theorem dL_law_759 : decode cL_law 759 = .ok (.iconst 0, 1) := by decide +kernel
theorem dL_law_760 : decode cL_law 760 = .ok (.invokevirtual 45, 3) := by decide +kernel
theorem dL_law_763 : decode cL_law 763 = .ok (.iadd, 1) := by decide +kernel
theorem dL_law_764 : decode cL_law 764 = .ok (.iconst 4, 1) := by decide +kernel
theorem dL_law_765 : decode cL_law 765 = .ok (.iadd, 1) := by decide +kernel
theorem dL_law_766 : decode cL_law 766 = .ok (.if_icmp .ne 27, 3) := by decide +kernel
theorem dL_law_769 : decode cL_law 769 = .ok (.aload_n 1, 1) := by decide +kernel
theorem dL_law_770 : decode cL_law 770 = .ok (.iconst 0, 1) := by decide +kernel
theorem dL_law_771 : decode cL_law 771 = .ok (.invokevirtual 117, 3) := by decide +kernel
theorem dL_law_774 : decode cL_law 774 = .ok (.iload 7, 2) := by decide +kernel
theorem dL_law_776 : decode cL_law 776 = .ok (.if_icmp .ne 17, 3) := by decide +kernel
theorem dL_law_779 : decode cL_law 779 = .ok (.aload_n 1, 1) := by decide +kernel
theorem dL_law_780 : decode cL_law 780 = .ok (.iconst 1, 1) := by decide +kernel
theorem dL_law_781 : decode cL_law 781 = .ok (.invokevirtual 48, 3) := by decide +kernel
theorem dL_law_784 : decode cL_law 784 = .ok (.iload 8, 2) := by decide +kernel
theorem dL_law_786 : decode cL_law 786 = .ok (.if_icmp .ne 7, 3) := by decide +kernel
theorem dL_law_789 : decode cL_law 789 = .ok (.iconst 1, 1) := by decide +kernel
theorem dL_law_790 : decode cL_law 790 = .ok (.goto 4, 3) := by decide +kernel
theorem dL_law_793 : decode cL_law 793 = .ok (.iconst 0, 1) := by decide +kernel
theorem dL_law_794 : decode cL_law 794 = .ok (.istore 4, 2) := by decide +kernel
theorem dL_law_796 : decode cL_law 796 = .ok (.iconst 1, 1) := by decide +kernel
theorem dL_law_797 : decode cL_law 797 = .ok (.aload_n 0, 1) := by decide +kernel
theorem dL_law_798 : decode cL_law 798 = .ok (.bipush 8, 2) := by decide +kernel
theorem dL_law_800 : decode cL_law 800 = .ok (.invokestatic 81, 3) := by decide +kernel
theorem dL_law_803 : decode cL_law 803 = .ok (.iconst 3, 1) := by decide +kernel
theorem dL_law_804 : decode cL_law 804 = .ok (.irem, 1) := by decide +kernel
theorem dL_law_805 : decode cL_law 805 = .ok (.iadd, 1) := by decide +kernel
theorem dL_law_806 : decode cL_law 806 = .ok (.istore 9, 2) := by decide +kernel
theorem dL_law_808 : decode cL_law 808 = .ok (.iload 4, 2) := by decide +kernel
theorem dL_law_810 : decode cL_law 810 = .ok (.ifCond .eq 28, 3) := by decide +kernel
theorem dL_law_813 : decode cL_law 813 = .ok (.aload_n 1, 1) := by decide +kernel
theorem dL_law_814 : decode cL_law 814 = .ok (.iconst 0, 1) := by decide +kernel
theorem dL_law_815 : decode cL_law 815 = .ok (.iload 9, 2) := by decide +kernel
theorem dL_law_817 : decode cL_law 817 = .ok (.invokevirtual 120, 3) := by decide +kernel
theorem dL_law_820 : decode cL_law 820 = .ok (.ifCond .le 18, 3) := by decide +kernel
theorem dL_law_823 : decode cL_law 823 = .ok (.aload_n 1, 1) := by decide +kernel
theorem dL_law_824 : decode cL_law 824 = .ok (.iconst 0, 1) := by decide +kernel
theorem dL_law_825 : decode cL_law 825 = .ok (.iconst 1, 1) := by decide +kernel
theorem dL_law_826 : decode cL_law 826 = .ok (.invokevirtual 120, 3) := by decide +kernel
theorem dL_law_829 : decode cL_law 829 = .ok (.iload 9, 2) := by decide +kernel
theorem dL_law_831 : decode cL_law 831 = .ok (.if_icmp .ne 7, 3) := by decide +kernel
theorem dL_law_834 : decode cL_law 834 = .ok (.iconst 1, 1) := by decide +kernel
theorem dL_law_835 : decode cL_law 835 = .ok (.goto 4, 3) := by decide +kernel
theorem dL_law_838 : decode cL_law 838 = .ok (.iconst 0, 1) := by decide +kernel
theorem dL_law_839 : decode cL_law 839 = .ok (.istore 4, 2) := by decide +kernel
theorem dL_law_841 : decode cL_law 841 = .ok (.iload 4, 2) := by decide +kernel
theorem dL_law_843 : decode cL_law 843 = .ok (.ifCond .eq 67, 3) := by decide +kernel
theorem dL_law_846 : decode cL_law 846 = .ok (.aload_n 1, 1) := by decide +kernel
theorem dL_law_847 : decode cL_law 847 = .ok (.bipush 16, 2) := by decide +kernel
theorem dL_law_849 : decode cL_law 849 = .ok (.iconst 0, 1) := by decide +kernel
theorem dL_law_850 : decode cL_law 850 = .ok (.iload 6, 2) := by decide +kernel
theorem dL_law_852 : decode cL_law 852 = .ok (.invokestatic 77, 3) := by decide +kernel
theorem dL_law_855 : decode cL_law 855 = .ok (.ifCond .eq 55, 3) := by decide +kernel
theorem dL_law_858 : decode cL_law 858 = .ok (.aload_n 2, 1) := by decide +kernel
theorem dL_law_859 : decode cL_law 859 = .ok (.aload_n 3, 1) := by decide +kernel
theorem dL_law_860 : decode cL_law 860 = .ok (.iconst 0, 1) := by decide +kernel
theorem dL_law_861 : decode cL_law 861 = .ok (.invokestatic 28, 3) := by decide +kernel
theorem dL_law_864 : decode cL_law 864 = .ok (.aload_n 1, 1) := by decide +kernel
theorem dL_law_865 : decode cL_law 865 = .ok (.iconst 0, 1) := by decide +kernel
theorem dL_law_866 : decode cL_law 866 = .ok (.invokevirtual 45, 3) := by decide +kernel
theorem dL_law_869 : decode cL_law 869 = .ok (.if_icmp .ne 41, 3) := by decide +kernel
theorem dL_law_872 : decode cL_law 872 = .ok (.aload_n 2, 1) := by decide +kernel
theorem dL_law_873 : decode cL_law 873 = .ok (.aload_n 3, 1) := by decide +kernel
theorem dL_law_874 : decode cL_law 874 = .ok (.iconst 0, 1) := by decide +kernel
theorem dL_law_875 : decode cL_law 875 = .ok (.invokestatic 123, 3) := by decide +kernel
theorem dL_law_878 : decode cL_law 878 = .ok (.ifCond .lt 32, 3) := by decide +kernel
theorem dL_law_881 : decode cL_law 881 = .ok (.sipush 256, 3) := by decide +kernel
theorem dL_law_884 : decode cL_law 884 = .ok (.bipush 8, 2) := by decide +kernel
theorem dL_law_886 : decode cL_law 886 = .ok (.invokestatic 126, 3) := by decide +kernel
theorem dL_law_889 : decode cL_law 889 = .ok (.ifCond .ne 21, 3) := by decide +kernel
theorem dL_law_892 : decode cL_law 892 = .ok (.aload_n 1, 1) := by decide +kernel
theorem dL_law_893 : decode cL_law 893 = .ok (.aload_n 0, 1) := by decide +kernel
theorem dL_law_894 : decode cL_law 894 = .ok (.bipush 9, 2) := by decide +kernel
theorem dL_law_896 : decode cL_law 896 = .ok (.invokestatic 81, 3) := by decide +kernel
theorem dL_law_899 : decode cL_law 899 = .ok (.aload_n 2, 1) := by decide +kernel
theorem dL_law_900 : decode cL_law 900 = .ok (.invokestatic 130, 3) := by decide +kernel
theorem dL_law_903 : decode cL_law 903 = .ok (.ifCond .eq 7, 3) := by decide +kernel
theorem dL_law_906 : decode cL_law 906 = .ok (.iconst 1, 1) := by decide +kernel
theorem dL_law_907 : decode cL_law 907 = .ok (.goto 4, 3) := by decide +kernel
theorem dL_law_910 : decode cL_law 910 = .ok (.iconst 0, 1) := by decide +kernel
theorem dL_law_911 : decode cL_law 911 = .ok (.ireturn, 1) := by decide +kernel
