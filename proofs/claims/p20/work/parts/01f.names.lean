theorem dL_isPlan_320 : decode cL_isPlan 320 = .ok (.iconst 2, 1) := by decide +kernel
theorem dL_isPlan_321 : decode cL_isPlan 321 = .ok (.iload 13, 2) := by decide +kernel
theorem dL_isPlan_323 : decode cL_isPlan 323 = .ok (.imul, 1) := by decide +kernel
theorem dL_isPlan_324 : decode cL_isPlan 324 = .ok (.iconst 1, 1) := by decide +kernel
theorem dL_isPlan_325 : decode cL_isPlan 325 = .ok (.iadd, 1) := by decide +kernel
theorem dL_isPlan_326 : decode cL_isPlan 326 = .ok (.iaload, 1) := by decide +kernel
theorem dL_isPlan_327 : decode cL_isPlan 327 = .ok (.iload 15, 2) := by decide +kernel
theorem dL_isPlan_329 : decode cL_isPlan 329 = .ok (.ishl, 1) := by decide +kernel
theorem dL_isPlan_330 : decode cL_isPlan 330 = .ok (.istore 17, 2) := by decide +kernel
theorem dL_isPlan_332 : decode cL_isPlan 332 = .ok (.iload 16, 2) := by decide +kernel
theorem dL_isPlan_334 : decode cL_isPlan 334 = .ok (.ifCond .lt 20, 3) := by decide +kernel
theorem dL_isPlan_337 : decode cL_isPlan 337 = .ok (.iload 14, 2) := by decide +kernel
theorem dL_isPlan_339 : decode cL_isPlan 339 = .ok (.ifCond .lt 13, 3) := by decide +kernel
theorem dL_isPlan_342 : decode cL_isPlan 342 = .ok (.iload 16, 2) := by decide +kernel
theorem dL_isPlan_344 : decode cL_isPlan 344 = .ok (.iload 14, 2) := by decide +kernel
theorem dL_isPlan_346 : decode cL_isPlan 346 = .ok (.iload 17, 2) := by decide +kernel
theorem dL_isPlan_348 : decode cL_isPlan 348 = .ok (.iadd, 1) := by decide +kernel
theorem dL_isPlan_349 : decode cL_isPlan 349 = .ok (.if_icmp .ge 5, 3) := by decide +kernel
theorem dL_isPlan_352 : decode cL_isPlan 352 = .ok (.iconst 0, 1) := by decide +kernel
theorem dL_isPlan_353 : decode cL_isPlan 353 = .ok (.ireturn, 1) := by decide +kernel
theorem dL_isPlan_354 : decode cL_isPlan 354 = .ok (.iload 9, 2) := by decide +kernel
theorem dL_isPlan_356 : decode cL_isPlan 356 = .ok (.iload 16, 2) := by decide +kernel
theorem dL_isPlan_358 : decode cL_isPlan 358 = .ok (.ifCond .lt 19, 3) := by decide +kernel
theorem dL_isPlan_361 : decode cL_isPlan 361 = .ok (.iload 16, 2) := by decide +kernel
theorem dL_isPlan_363 : decode cL_isPlan 363 = .ok (.iload 14, 2) := by decide +kernel
theorem dL_isPlan_365 : decode cL_isPlan 365 = .ok (.iconst 2, 1) := by decide +kernel
theorem dL_isPlan_366 : decode cL_isPlan 366 = .ok (.iload 17, 2) := by decide +kernel
theorem dL_isPlan_368 : decode cL_isPlan 368 = .ok (.imul, 1) := by decide +kernel
theorem dL_isPlan_369 : decode cL_isPlan 369 = .ok (.iadd, 1) := by decide +kernel
theorem dL_isPlan_370 : decode cL_isPlan 370 = .ok (.if_icmp .lt 7, 3) := by decide +kernel
theorem dL_isPlan_373 : decode cL_isPlan 373 = .ok (.iconst 1, 1) := by decide +kernel
theorem dL_isPlan_374 : decode cL_isPlan 374 = .ok (.goto 4, 3) := by decide +kernel
theorem dL_isPlan_377 : decode cL_isPlan 377 = .ok (.iconst 0, 1) := by decide +kernel
theorem dL_isPlan_378 : decode cL_isPlan 378 = .ok (.iadd, 1) := by decide +kernel
theorem dL_isPlan_379 : decode cL_isPlan 379 = .ok (.istore 9, 2) := by decide +kernel
theorem dL_isPlan_381 : decode cL_isPlan 381 = .ok (.iload 16, 2) := by decide +kernel
theorem dL_isPlan_383 : decode cL_isPlan 383 = .ok (.istore 14, 2) := by decide +kernel
theorem dL_isPlan_385 : decode cL_isPlan 385 = .ok (.iinc 15 1, 3) := by decide +kernel
theorem dL_isPlan_388 : decode cL_isPlan 388 = .ok (.goto (-92), 3) := by decide +kernel
theorem dL_isPlan_391 : decode cL_isPlan 391 = .ok (.iinc 13 1, 3) := by decide +kernel
theorem dL_isPlan_394 : decode cL_isPlan 394 = .ok (.goto (-127), 3) := by decide +kernel
theorem dL_isPlan_397 : decode cL_isPlan 397 = .ok (.aload_n 0, 1) := by decide +kernel
theorem dL_isPlan_398 : decode cL_isPlan 398 = .ok (.invokevirtual 65, 3) := by decide +kernel
theorem dL_isPlan_401 : decode cL_isPlan 401 = .ok (.iload 8, 2) := by decide +kernel
theorem dL_isPlan_403 : decode cL_isPlan 403 = .ok (.if_icmp .ne 25, 3) := by decide +kernel
theorem dL_isPlan_406 : decode cL_isPlan 406 = .ok (.aload_n 0, 1) := by decide +kernel
theorem dL_isPlan_407 : decode cL_isPlan 407 = .ok (.invokevirtual 68, 3) := by decide +kernel
theorem dL_isPlan_410 : decode cL_isPlan 410 = .ok (.iload 9, 2) := by decide +kernel
theorem dL_isPlan_412 : decode cL_isPlan 412 = .ok (.if_icmp .ne 16, 3) := by decide +kernel
theorem dL_isPlan_415 : decode cL_isPlan 415 = .ok (.aload_n 0, 1) := by decide +kernel
theorem dL_isPlan_416 : decode cL_isPlan 416 = .ok (.invokevirtual 71, 3) := by decide +kernel
theorem dL_isPlan_419 : decode cL_isPlan 419 = .ok (.iload 10, 2) := by decide +kernel
theorem dL_isPlan_421 : decode cL_isPlan 421 = .ok (.if_icmp .ne 7, 3) := by decide +kernel
theorem dL_isPlan_424 : decode cL_isPlan 424 = .ok (.iconst 1, 1) := by decide +kernel
theorem dL_isPlan_425 : decode cL_isPlan 425 = .ok (.goto 4, 3) := by decide +kernel
theorem dL_isPlan_428 : decode cL_isPlan 428 = .ok (.iconst 0, 1) := by decide +kernel
theorem dL_isPlan_429 : decode cL_isPlan 429 = .ok (.ireturn, 1) := by decide +kernel
set_option maxRecDepth 20000 in
theorem ggL_isBusy_L_thing : GoodIn wsL_isBusy wsL_thing := goodIn_r _ [4] (by decide +kernel) (by decide +kernel)
set_option maxRecDepth 20000 in
theorem gL_isBusy_L_thing : GoodIn wsL_isBusy (va_wsS RL 50 yL_thing wsL_thing) := goodIn_app (goodIn_of _ (by decide +kernel)) ggL_isBusy_L_thing
theorem dL_isBusy_0 : decode cL_isBusy 0 = .ok (.iconst (-1), 1) := by decide +kernel
theorem dL_isBusy_1 : decode cL_isBusy 1 = .ok (.istore 8, 2) := by decide +kernel
theorem dL_isBusy_3 : decode cL_isBusy 3 = .ok (.aload_n 2, 1) := by decide +kernel
theorem dL_isBusy_4 : decode cL_isBusy 4 = .ok (.iconst 0, 1) := by decide +kernel
theorem dL_isBusy_5 : decode cL_isBusy 5 = .ok (.iaload, 1) := by decide +kernel
theorem dL_isBusy_6 : decode cL_isBusy 6 = .ok (.iconst 1, 1) := by decide +kernel
theorem dL_isBusy_7 : decode cL_isBusy 7 = .ok (.isub, 1) := by decide +kernel
theorem dL_isBusy_8 : decode cL_isBusy 8 = .ok (.istore 9, 2) := by decide +kernel
theorem dL_isBusy_10 : decode cL_isBusy 10 = .ok (.iload 9, 2) := by decide +kernel
theorem dL_isBusy_12 : decode cL_isBusy 12 = .ok (.ifCond .lt 56, 3) := by decide +kernel
theorem dL_isBusy_15 : decode cL_isBusy 15 = .ok (.aload_n 3, 1) := by decide +kernel
theorem dL_isBusy_16 : decode cL_isBusy 16 = .ok (.iconst 5, 1) := by decide +kernel
theorem dL_isBusy_17 : decode cL_isBusy 17 = .ok (.aload 5, 2) := by decide +kernel
theorem dL_isBusy_19 : decode cL_isBusy 19 = .ok (.iload 9, 2) := by decide +kernel
theorem dL_isBusy_21 : decode cL_isBusy 21 = .ok (.iaload, 1) := by decide +kernel
theorem dL_isBusy_22 : decode cL_isBusy 22 = .ok (.imul, 1) := by decide +kernel
theorem dL_isBusy_23 : decode cL_isBusy 23 = .ok (.aload_n 0, 1) := by decide +kernel
theorem dL_isBusy_24 : decode cL_isBusy 24 = .ok (.iconst 5, 1) := by decide +kernel
theorem dL_isBusy_25 : decode cL_isBusy 25 = .ok (.aload 5, 2) := by decide +kernel
theorem dL_isBusy_27 : decode cL_isBusy 27 = .ok (.iload 9, 2) := by decide +kernel
theorem dL_isBusy_29 : decode cL_isBusy 29 = .ok (.iaload, 1) := by decide +kernel
theorem dL_isBusy_30 : decode cL_isBusy 30 = .ok (.imul, 1) := by decide +kernel
theorem dL_isBusy_31 : decode cL_isBusy 31 = .ok (.iaload, 1) := by decide +kernel
theorem dL_isBusy_32 : decode cL_isBusy 32 = .ok (.iadd, 1) := by decide +kernel
theorem dL_isBusy_33 : decode cL_isBusy 33 = .ok (.iconst 1, 1) := by decide +kernel
theorem dL_isBusy_34 : decode cL_isBusy 34 = .ok (.isub, 1) := by decide +kernel
theorem dL_isBusy_35 : decode cL_isBusy 35 = .ok (.iaload, 1) := by decide +kernel
theorem dL_isBusy_36 : decode cL_isBusy 36 = .ok (.istore 10, 2) := by decide +kernel
theorem dL_isBusy_38 : decode cL_isBusy 38 = .ok (.iload 10, 2) := by decide +kernel
theorem dL_isBusy_40 : decode cL_isBusy 40 = .ok (.ifCond .lt 10, 3) := by decide +kernel
theorem dL_isBusy_43 : decode cL_isBusy 43 = .ok (.iload 10, 2) := by decide +kernel
theorem dL_isBusy_45 : decode cL_isBusy 45 = .ok (.iload 6, 2) := by decide +kernel
theorem dL_isBusy_47 : decode cL_isBusy 47 = .ok (.if_icmp .lt 11, 3) := by decide +kernel
theorem dL_isBusy_50 : decode cL_isBusy 50 = .ok (.aload 5, 2) := by decide +kernel
theorem dL_isBusy_52 : decode cL_isBusy 52 = .ok (.iload 9, 2) := by decide +kernel
theorem dL_isBusy_54 : decode cL_isBusy 54 = .ok (.iaload, 1) := by decide +kernel
theorem dL_isBusy_55 : decode cL_isBusy 55 = .ok (.goto 5, 3) := by decide +kernel
theorem dL_isBusy_58 : decode cL_isBusy 58 = .ok (.iload 8, 2) := by decide +kernel
theorem dL_isBusy_60 : decode cL_isBusy 60 = .ok (.istore 8, 2) := by decide +kernel
theorem dL_isBusy_62 : decode cL_isBusy 62 = .ok (.iinc 9 (-1), 3) := by decide +kernel
theorem dL_isBusy_65 : decode cL_isBusy 65 = .ok (.goto (-55), 3) := by decide +kernel
theorem dL_isBusy_68 : decode cL_isBusy 68 = .ok (.sipush 1000, 3) := by decide +kernel
theorem dL_isBusy_71 : decode cL_isBusy 71 = .ok (.istore 9, 2) := by decide +kernel
theorem dL_isBusy_73 : decode cL_isBusy 73 = .ok (.iconst (-1), 1) := by decide +kernel
theorem dL_isBusy_74 : decode cL_isBusy 74 = .ok (.istore 10, 2) := by decide +kernel
theorem dL_isBusy_76 : decode cL_isBusy 76 = .ok (.aload_n 2, 1) := by decide +kernel
theorem dL_isBusy_77 : decode cL_isBusy 77 = .ok (.iconst 0, 1) := by decide +kernel
theorem dL_isBusy_78 : decode cL_isBusy 78 = .ok (.iaload, 1) := by decide +kernel
theorem dL_isBusy_79 : decode cL_isBusy 79 = .ok (.iconst 1, 1) := by decide +kernel
theorem dL_isBusy_80 : decode cL_isBusy 80 = .ok (.isub, 1) := by decide +kernel
theorem dL_isBusy_81 : decode cL_isBusy 81 = .ok (.istore 11, 2) := by decide +kernel
theorem dL_isBusy_83 : decode cL_isBusy 83 = .ok (.iload 11, 2) := by decide +kernel
theorem dL_isBusy_85 : decode cL_isBusy 85 = .ok (.ifCond .lt 161, 3) := by decide +kernel
theorem dL_isBusy_88 : decode cL_isBusy 88 = .ok (.aload_n 3, 1) := by decide +kernel
theorem dL_isBusy_89 : decode cL_isBusy 89 = .ok (.iconst 5, 1) := by decide +kernel
theorem dL_isBusy_90 : decode cL_isBusy 90 = .ok (.iload 11, 2) := by decide +kernel
theorem dL_isBusy_92 : decode cL_isBusy 92 = .ok (.imul, 1) := by decide +kernel
theorem dL_isBusy_93 : decode cL_isBusy 93 = .ok (.aload_n 0, 1) := by decide +kernel
theorem dL_isBusy_94 : decode cL_isBusy 94 = .ok (.iconst 5, 1) := by decide +kernel
theorem dL_isBusy_95 : decode cL_isBusy 95 = .ok (.iload 11, 2) := by decide +kernel
theorem dL_isBusy_97 : decode cL_isBusy 97 = .ok (.imul, 1) := by decide +kernel
theorem dL_isBusy_98 : decode cL_isBusy 98 = .ok (.iaload, 1) := by decide +kernel
theorem dL_isBusy_99 : decode cL_isBusy 99 = .ok (.iadd, 1) := by decide +kernel
theorem dL_isBusy_100 : decode cL_isBusy 100 = .ok (.iconst 1, 1) := by decide +kernel
theorem dL_isBusy_101 : decode cL_isBusy 101 = .ok (.isub, 1) := by decide +kernel
theorem dL_isBusy_102 : decode cL_isBusy 102 = .ok (.iaload, 1) := by decide +kernel
theorem dL_isBusy_103 : decode cL_isBusy 103 = .ok (.istore 12, 2) := by decide +kernel
theorem dL_isBusy_105 : decode cL_isBusy 105 = .ok (.iconst 0, 1) := by decide +kernel
theorem dL_isBusy_106 : decode cL_isBusy 106 = .ok (.istore 13, 2) := by decide +kernel
theorem dL_isBusy_108 : decode cL_isBusy 108 = .ok (.iload 13, 2) := by decide +kernel
theorem dL_isBusy_110 : decode cL_isBusy 110 = .ok (.aload_n 1, 1) := by decide +kernel
theorem dL_isBusy_111 : decode cL_isBusy 111 = .ok (.iconst 2, 1) := by decide +kernel
theorem dL_isBusy_112 : decode cL_isBusy 112 = .ok (.iload 11, 2) := by decide +kernel
theorem dL_isBusy_114 : decode cL_isBusy 114 = .ok (.imul, 1) := by decide +kernel
theorem dL_isBusy_115 : decode cL_isBusy 115 = .ok (.iaload, 1) := by decide +kernel
theorem dL_isBusy_116 : decode cL_isBusy 116 = .ok (.if_icmp .ge 124, 3) := by decide +kernel
theorem dL_isBusy_119 : decode cL_isBusy 119 = .ok (.iload 12, 2) := by decide +kernel
theorem dL_isBusy_121 : decode cL_isBusy 121 = .ok (.ifCond .lt 119, 3) := by decide +kernel
theorem dL_isBusy_124 : decode cL_isBusy 124 = .ok (.iload 12, 2) := by decide +kernel
theorem dL_isBusy_126 : decode cL_isBusy 126 = .ok (.iload 6, 2) := by decide +kernel
theorem dL_isBusy_128 : decode cL_isBusy 128 = .ok (.if_icmp .ge 112, 3) := by decide +kernel
theorem dL_isBusy_131 : decode cL_isBusy 131 = .ok (.aload 4, 2) := by decide +kernel
theorem dL_isBusy_133 : decode cL_isBusy 133 = .ok (.iconst 3, 1) := by decide +kernel
theorem dL_isBusy_134 : decode cL_isBusy 134 = .ok (.iload 11, 2) := by decide +kernel
theorem dL_isBusy_136 : decode cL_isBusy 136 = .ok (.imul, 1) := by decide +kernel
theorem dL_isBusy_137 : decode cL_isBusy 137 = .ok (.iload 13, 2) := by decide +kernel
theorem dL_isBusy_139 : decode cL_isBusy 139 = .ok (.iadd, 1) := by decide +kernel
theorem dL_isBusy_140 : decode cL_isBusy 140 = .ok (.iaload, 1) := by decide +kernel
theorem dL_isBusy_141 : decode cL_isBusy 141 = .ok (.istore 14, 2) := by decide +kernel
theorem dL_isBusy_143 : decode cL_isBusy 143 = .ok (.aload_n 1, 1) := by decide +kernel
theorem dL_isBusy_144 : decode cL_isBusy 144 = .ok (.iconst 2, 1) := by decide +kernel
theorem dL_isBusy_145 : decode cL_isBusy 145 = .ok (.iload 11, 2) := by decide +kernel
theorem dL_isBusy_147 : decode cL_isBusy 147 = .ok (.imul, 1) := by decide +kernel
theorem dL_isBusy_148 : decode cL_isBusy 148 = .ok (.iconst 1, 1) := by decide +kernel
theorem dL_isBusy_149 : decode cL_isBusy 149 = .ok (.iadd, 1) := by decide +kernel
theorem dL_isBusy_150 : decode cL_isBusy 150 = .ok (.iaload, 1) := by decide +kernel
theorem dL_isBusy_151 : decode cL_isBusy 151 = .ok (.iload 13, 2) := by decide +kernel
theorem dL_isBusy_153 : decode cL_isBusy 153 = .ok (.ishl, 1) := by decide +kernel
theorem dL_isBusy_154 : decode cL_isBusy 154 = .ok (.istore 15, 2) := by decide +kernel
theorem dL_isBusy_156 : decode cL_isBusy 156 = .ok (.iload 14, 2) := by decide +kernel
theorem dL_isBusy_158 : decode cL_isBusy 158 = .ok (.ifCond .lt 10, 3) := by decide +kernel
theorem dL_isBusy_161 : decode cL_isBusy 161 = .ok (.iload 14, 2) := by decide +kernel
theorem dL_isBusy_163 : decode cL_isBusy 163 = .ok (.iload 6, 2) := by decide +kernel
theorem dL_isBusy_165 : decode cL_isBusy 165 = .ok (.if_icmp .lt 29, 3) := by decide +kernel
theorem dL_isBusy_168 : decode cL_isBusy 168 = .ok (.iload 12, 2) := by decide +kernel
theorem dL_isBusy_170 : decode cL_isBusy 170 = .ok (.iload 15, 2) := by decide +kernel
theorem dL_isBusy_172 : decode cL_isBusy 172 = .ok (.iadd, 1) := by decide +kernel
theorem dL_isBusy_173 : decode cL_isBusy 173 = .ok (.iload 6, 2) := by decide +kernel
theorem dL_isBusy_175 : decode cL_isBusy 175 = .ok (.if_icmp .gt 19, 3) := by decide +kernel
theorem dL_isBusy_178 : decode cL_isBusy 178 = .ok (.iload 12, 2) := by decide +kernel
theorem dL_isBusy_180 : decode cL_isBusy 180 = .ok (.iconst 2, 1) := by decide +kernel
theorem dL_isBusy_181 : decode cL_isBusy 181 = .ok (.iload 15, 2) := by decide +kernel
theorem dL_isBusy_183 : decode cL_isBusy 183 = .ok (.imul, 1) := by decide +kernel
theorem dL_isBusy_184 : decode cL_isBusy 184 = .ok (.iadd, 1) := by decide +kernel
theorem dL_isBusy_185 : decode cL_isBusy 185 = .ok (.iload 9, 2) := by decide +kernel
theorem dL_isBusy_187 : decode cL_isBusy 187 = .ok (.if_icmp .gt 7, 3) := by decide +kernel
theorem dL_isBusy_190 : decode cL_isBusy 190 = .ok (.iconst 1, 1) := by decide +kernel
theorem dL_isBusy_191 : decode cL_isBusy 191 = .ok (.goto 4, 3) := by decide +kernel
theorem dL_isBusy_194 : decode cL_isBusy 194 = .ok (.iconst 0, 1) := by decide +kernel
theorem dL_isBusy_195 : decode cL_isBusy 195 = .ok (.istore 16, 2) := by decide +kernel
theorem dL_isBusy_197 : decode cL_isBusy 197 = .ok (.iload 16, 2) := by decide +kernel
theorem dL_isBusy_199 : decode cL_isBusy 199 = .ok (.ifCond .eq 8, 3) := by decide +kernel
theorem dL_isBusy_202 : decode cL_isBusy 202 = .ok (.iload 11, 2) := by decide +kernel
theorem dL_isBusy_204 : decode cL_isBusy 204 = .ok (.goto 5, 3) := by decide +kernel
theorem dL_isBusy_207 : decode cL_isBusy 207 = .ok (.iload 10, 2) := by decide +kernel
theorem dL_isBusy_209 : decode cL_isBusy 209 = .ok (.istore 10, 2) := by decide +kernel
theorem dL_isBusy_211 : decode cL_isBusy 211 = .ok (.iload 16, 2) := by decide +kernel
theorem dL_isBusy_213 : decode cL_isBusy 213 = .ok (.ifCond .eq 13, 3) := by decide +kernel
theorem dL_isBusy_216 : decode cL_isBusy 216 = .ok (.iload 12, 2) := by decide +kernel
theorem dL_isBusy_218 : decode cL_isBusy 218 = .ok (.iconst 2, 1) := by decide +kernel
theorem dL_isBusy_219 : decode cL_isBusy 219 = .ok (.iload 15, 2) := by decide +kernel
theorem dL_isBusy_221 : decode cL_isBusy 221 = .ok (.imul, 1) := by decide +kernel
theorem dL_isBusy_222 : decode cL_isBusy 222 = .ok (.iadd, 1) := by decide +kernel
theorem dL_isBusy_223 : decode cL_isBusy 223 = .ok (.goto 5, 3) := by decide +kernel
theorem dL_isBusy_226 : decode cL_isBusy 226 = .ok (.iload 9, 2) := by decide +kernel
theorem dL_isBusy_228 : decode cL_isBusy 228 = .ok (.istore 9, 2) := by decide +kernel
theorem dL_isBusy_230 : decode cL_isBusy 230 = .ok (.iload 14, 2) := by decide +kernel
theorem dL_isBusy_232 : decode cL_isBusy 232 = .ok (.istore 12, 2) := by decide +kernel
theorem dL_isBusy_234 : decode cL_isBusy 234 = .ok (.iinc 13 1, 3) := by decide +kernel
theorem dL_isBusy_237 : decode cL_isBusy 237 = .ok (.goto (-129), 3) := by decide +kernel
theorem dL_isBusy_240 : decode cL_isBusy 240 = .ok (.iinc 11 (-1), 3) := by decide +kernel
theorem dL_isBusy_243 : decode cL_isBusy 243 = .ok (.goto (-160), 3) := by decide +kernel
theorem dL_isBusy_246 : decode cL_isBusy 246 = .ok (.iconst 0, 1) := by decide +kernel
theorem dL_isBusy_247 : decode cL_isBusy 247 = .ok (.istore 11, 2) := by decide +kernel
theorem dL_isBusy_249 : decode cL_isBusy 249 = .ok (.iload 6, 2) := by decide +kernel
theorem dL_isBusy_251 : decode cL_isBusy 251 = .ok (.iconst 2, 1) := by decide +kernel
theorem dL_isBusy_252 : decode cL_isBusy 252 = .ok (.if_icmp .ge 7, 3) := by decide +kernel
theorem dL_isBusy_255 : decode cL_isBusy 255 = .ok (.iconst 0, 1) := by decide +kernel
theorem dL_isBusy_256 : decode cL_isBusy 256 = .ok (.goto 7, 3) := by decide +kernel
theorem dL_isBusy_259 : decode cL_isBusy 259 = .ok (.iload 6, 2) := by decide +kernel
theorem dL_isBusy_261 : decode cL_isBusy 261 = .ok (.iconst 2, 1) := by decide +kernel
theorem dL_isBusy_262 : decode cL_isBusy 262 = .ok (.isub, 1) := by decide +kernel
theorem dL_isBusy_263 : decode cL_isBusy 263 = .ok (.istore 12, 2) := by decide +kernel
theorem dL_isBusy_265 : decode cL_isBusy 265 = .ok (.iload 12, 2) := by decide +kernel
theorem dL_isBusy_267 : decode cL_isBusy 267 = .ok (.iload 6, 2) := by decide +kernel
theorem dL_isBusy_269 : decode cL_isBusy 269 = .ok (.if_icmp .ge 85, 3) := by decide +kernel
theorem dL_isBusy_272 : decode cL_isBusy 272 = .ok (.iload 8, 2) := by decide +kernel
theorem dL_isBusy_274 : decode cL_isBusy 274 = .ok (.ifCond .lt 80, 3) := by decide +kernel
theorem dL_isBusy_277 : decode cL_isBusy 277 = .ok (.aload_n 3, 1) := by decide +kernel
theorem dL_isBusy_278 : decode cL_isBusy 278 = .ok (.aload 4, 2) := by decide +kernel
theorem dL_isBusy_280 : decode cL_isBusy 280 = .ok (.iload 12, 2) := by decide +kernel
theorem dL_isBusy_282 : decode cL_isBusy 282 = .ok (.invokestatic 50, 3) := by decide +kernel
theorem dL_isBusy_285 : decode cL_isBusy 285 = .ok (.istore 13, 2) := by decide +kernel
theorem dL_isBusy_287 : decode cL_isBusy 287 = .ok (.iload 11, 2) := by decide +kernel
theorem dL_isBusy_289 : decode cL_isBusy 289 = .ok (.ifCond .ne 52, 3) := by decide +kernel
theorem dL_isBusy_292 : decode cL_isBusy 292 = .ok (.iload 13, 2) := by decide +kernel
theorem dL_isBusy_294 : decode cL_isBusy 294 = .ok (.ifCond .lt 51, 3) := by decide +kernel
theorem dL_isBusy_297 : decode cL_isBusy 297 = .ok (.iload 13, 2) := by decide +kernel
theorem dL_isBusy_299 : decode cL_isBusy 299 = .ok (.bipush 100, 2) := by decide +kernel
theorem dL_isBusy_301 : decode cL_isBusy 301 = .ok (.if_icmp .ge 44, 3) := by decide +kernel
theorem dL_isBusy_304 : decode cL_isBusy 304 = .ok (.iload 13, 2) := by decide +kernel
theorem dL_isBusy_306 : decode cL_isBusy 306 = .ok (.iload 8, 2) := by decide +kernel
theorem dL_isBusy_308 : decode cL_isBusy 308 = .ok (.if_icmp .eq 37, 3) := by decide +kernel
theorem dL_isBusy_311 : decode cL_isBusy 311 = .ok (.aload_n 0, 1) := by decide +kernel
theorem dL_isBusy_312 : decode cL_isBusy 312 = .ok (.iconst 5, 1) := by decide +kernel
theorem dL_isBusy_313 : decode cL_isBusy 313 = .ok (.iload 8, 2) := by decide +kernel
theorem dL_isBusy_315 : decode cL_isBusy 315 = .ok (.imul, 1) := by decide +kernel
theorem dL_isBusy_316 : decode cL_isBusy 316 = .ok (.iconst 3, 1) := by decide +kernel
theorem dL_isBusy_317 : decode cL_isBusy 317 = .ok (.iadd, 1) := by decide +kernel
theorem dL_isBusy_318 : decode cL_isBusy 318 = .ok (.iaload, 1) := by decide +kernel
theorem dL_isBusy_319 : decode cL_isBusy 319 = .ok (.ifCond .lt 26, 3) := by decide +kernel
theorem dL_isBusy_322 : decode cL_isBusy 322 = .ok (.aload_n 0, 1) := by decide +kernel
theorem dL_isBusy_323 : decode cL_isBusy 323 = .ok (.iconst 5, 1) := by decide +kernel
theorem dL_isBusy_324 : decode cL_isBusy 324 = .ok (.iload 13, 2) := by decide +kernel
theorem dL_isBusy_326 : decode cL_isBusy 326 = .ok (.imul, 1) := by decide +kernel
theorem dL_isBusy_327 : decode cL_isBusy 327 = .ok (.iconst 3, 1) := by decide +kernel
theorem dL_isBusy_328 : decode cL_isBusy 328 = .ok (.iadd, 1) := by decide +kernel
theorem dL_isBusy_329 : decode cL_isBusy 329 = .ok (.iaload, 1) := by decide +kernel
theorem dL_isBusy_330 : decode cL_isBusy 330 = .ok (.aload_n 0, 1) := by decide +kernel
theorem dL_isBusy_331 : decode cL_isBusy 331 = .ok (.iconst 5, 1) := by decide +kernel
theorem dL_isBusy_332 : decode cL_isBusy 332 = .ok (.iload 8, 2) := by decide +kernel
theorem dL_isBusy_334 : decode cL_isBusy 334 = .ok (.imul, 1) := by decide +kernel
theorem dL_isBusy_335 : decode cL_isBusy 335 = .ok (.iconst 3, 1) := by decide +kernel
theorem dL_isBusy_336 : decode cL_isBusy 336 = .ok (.iadd, 1) := by decide +kernel
theorem dL_isBusy_337 : decode cL_isBusy 337 = .ok (.iaload, 1) := by decide +kernel
theorem dL_isBusy_338 : decode cL_isBusy 338 = .ok (.if_icmp .ne 7, 3) := by decide +kernel
theorem dL_isBusy_341 : decode cL_isBusy 341 = .ok (.iconst 1, 1) := by decide +kernel
theorem dL_isBusy_342 : decode cL_isBusy 342 = .ok (.goto 4, 3) := by decide +kernel
theorem dL_isBusy_345 : decode cL_isBusy 345 = .ok (.iconst 0, 1) := by decide +kernel
theorem dL_isBusy_346 : decode cL_isBusy 346 = .ok (.istore 11, 2) := by decide +kernel
theorem dL_isBusy_348 : decode cL_isBusy 348 = .ok (.iinc 12 1, 3) := by decide +kernel
theorem dL_isBusy_351 : decode cL_isBusy 351 = .ok (.goto (-86), 3) := by decide +kernel
theorem dL_isBusy_354 : decode cL_isBusy 354 = .ok (.iload 7, 2) := by decide +kernel
theorem dL_isBusy_356 : decode cL_isBusy 356 = .ok (.iload 10, 2) := by decide +kernel
theorem dL_isBusy_358 : decode cL_isBusy 358 = .ok (.ifCond .lt 11, 3) := by decide +kernel
theorem dL_isBusy_361 : decode cL_isBusy 361 = .ok (.bipush 100, 2) := by decide +kernel
theorem dL_isBusy_363 : decode cL_isBusy 363 = .ok (.iload 10, 2) := by decide +kernel
theorem dL_isBusy_365 : decode cL_isBusy 365 = .ok (.iadd, 1) := by decide +kernel
theorem dL_isBusy_366 : decode cL_isBusy 366 = .ok (.goto 19, 3) := by decide +kernel
theorem dL_isBusy_369 : decode cL_isBusy 369 = .ok (.iload 8, 2) := by decide +kernel
theorem dL_isBusy_371 : decode cL_isBusy 371 = .ok (.ifCond .lt 8, 3) := by decide +kernel
theorem dL_isBusy_374 : decode cL_isBusy 374 = .ok (.iload 11, 2) := by decide +kernel
theorem dL_isBusy_376 : decode cL_isBusy 376 = .ok (.ifCond .eq 7, 3) := by decide +kernel
theorem dL_isBusy_379 : decode cL_isBusy 379 = .ok (.iconst (-1), 1) := by decide +kernel
theorem dL_isBusy_380 : decode cL_isBusy 380 = .ok (.goto 5, 3) := by decide +kernel
theorem dL_isBusy_383 : decode cL_isBusy 383 = .ok (.iload 8, 2) := by decide +kernel
theorem dL_isBusy_385 : decode cL_isBusy 385 = .ok (.if_icmp .ne 7, 3) := by decide +kernel
theorem dL_isBusy_388 : decode cL_isBusy 388 = .ok (.iconst 1, 1) := by decide +kernel
theorem dL_isBusy_389 : decode cL_isBusy 389 = .ok (.goto 4, 3) := by decide +kernel
theorem dL_isBusy_392 : decode cL_isBusy 392 = .ok (.iconst 0, 1) := by decide +kernel
theorem dL_isBusy_393 : decode cL_isBusy 393 = .ok (.ireturn, 1) := by decide +kernel
set_option maxRecDepth 20000 in
theorem ggL_net_L_isIn : GoodIn wsL_net wsL_isIn := goodIn_r _ [4] (by decide +kernel) (by decide +kernel)
set_option maxRecDepth 20000 in
theorem gL_net_L_isIn : GoodIn wsL_net (va_wsS RL 31 yL_isIn wsL_isIn) := goodIn_app (goodIn_of _ (by decide +kernel)) ggL_net_L_isIn
theorem dL_net_0 : decode cL_net 0 = .ok (.iconst 0, 1) := by decide +kernel
theorem dL_net_1 : decode cL_net 1 = .ok (.istore 4, 2) := by decide +kernel
theorem dL_net_3 : decode cL_net 3 = .ok (.iconst 0, 1) := by decide +kernel
theorem dL_net_4 : decode cL_net 4 = .ok (.istore 5, 2) := by decide +kernel
theorem dL_net_6 : decode cL_net 6 = .ok (.iload 5, 2) := by decide +kernel
theorem dL_net_8 : decode cL_net 8 = .ok (.aload_n 1, 1) := by decide +kernel
theorem dL_net_9 : decode cL_net 9 = .ok (.iconst 0, 1) := by decide +kernel
theorem dL_net_10 : decode cL_net 10 = .ok (.iaload, 1) := by decide +kernel
theorem dL_net_11 : decode cL_net 11 = .ok (.if_icmp .ge 44, 3) := by decide +kernel
theorem dL_net_14 : decode cL_net 14 = .ok (.iload 4, 2) := by decide +kernel
theorem dL_net_16 : decode cL_net 16 = .ok (.iload_n 2, 1) := by decide +kernel
theorem dL_net_17 : decode cL_net 17 = .ok (.iload 5, 2) := by decide +kernel
theorem dL_net_19 : decode cL_net 19 = .ok (.invokestatic 31, 3) := by decide +kernel
theorem dL_net_22 : decode cL_net 22 = .ok (.ifCond .eq 23, 3) := by decide +kernel
theorem dL_net_25 : decode cL_net 25 = .ok (.aload_n 0, 1) := by decide +kernel
theorem dL_net_26 : decode cL_net 26 = .ok (.iconst 5, 1) := by decide +kernel
theorem dL_net_27 : decode cL_net 27 = .ok (.iload 5, 2) := by decide +kernel
theorem dL_net_29 : decode cL_net 29 = .ok (.imul, 1) := by decide +kernel
theorem dL_net_30 : decode cL_net 30 = .ok (.iconst 2, 1) := by decide +kernel
theorem dL_net_31 : decode cL_net 31 = .ok (.iadd, 1) := by decide +kernel
theorem dL_net_32 : decode cL_net 32 = .ok (.iaload, 1) := by decide +kernel
theorem dL_net_33 : decode cL_net 33 = .ok (.iload_n 3, 1) := by decide +kernel
theorem dL_net_34 : decode cL_net 34 = .ok (.aload_n 0, 1) := by decide +kernel
theorem dL_net_35 : decode cL_net 35 = .ok (.iconst 5, 1) := by decide +kernel
theorem dL_net_36 : decode cL_net 36 = .ok (.iload 5, 2) := by decide +kernel
theorem dL_net_38 : decode cL_net 38 = .ok (.imul, 1) := by decide +kernel
theorem dL_net_39 : decode cL_net 39 = .ok (.iaload, 1) := by decide +kernel
theorem dL_net_40 : decode cL_net 40 = .ok (.imul, 1) := by decide +kernel
theorem dL_net_41 : decode cL_net 41 = .ok (.isub, 1) := by decide +kernel
theorem dL_net_42 : decode cL_net 42 = .ok (.goto 4, 3) := by decide +kernel
theorem dL_net_45 : decode cL_net 45 = .ok (.iconst 0, 1) := by decide +kernel
theorem dL_net_46 : decode cL_net 46 = .ok (.iadd, 1) := by decide +kernel
theorem dL_net_47 : decode cL_net 47 = .ok (.istore 4, 2) := by decide +kernel
theorem dL_net_49 : decode cL_net 49 = .ok (.iinc 5 1, 3) := by decide +kernel
theorem dL_net_52 : decode cL_net 52 = .ok (.goto (-46), 3) := by decide +kernel
theorem dL_net_55 : decode cL_net 55 = .ok (.iload 4, 2) := by decide +kernel
theorem dL_net_57 : decode cL_net 57 = .ok (.ireturn, 1) := by decide +kernel
set_option maxRecDepth 20000 in
theorem ggL_isClosed_L_isIn : GoodIn wsL_isClosed wsL_isIn := goodIn_r _ [4] (by decide +kernel) (by decide +kernel)
set_option maxRecDepth 20000 in
theorem gL_isClosed_L_isIn : GoodIn wsL_isClosed (va_wsS RL 31 yL_isIn wsL_isIn) := goodIn_app (goodIn_of _ (by decide +kernel)) ggL_isClosed_L_isIn
theorem dL_isClosed_0 : decode cL_isClosed 0 = .ok (.iload_n 2, 1) := by decide +kernel
theorem dL_isClosed_1 : decode cL_isClosed 1 = .ok (.aload_n 1, 1) := by decide +kernel
theorem dL_isClosed_2 : decode cL_isClosed 2 = .ok (.iconst 0, 1) := by decide +kernel
theorem dL_isClosed_3 : decode cL_isClosed 3 = .ok (.iaload, 1) := by decide +kernel
theorem dL_isClosed_4 : decode cL_isClosed 4 = .ok (.ishr, 1) := by decide +kernel
theorem dL_isClosed_5 : decode cL_isClosed 5 = .ok (.ifCond .ne 7, 3) := by decide +kernel
theorem dL_isClosed_8 : decode cL_isClosed 8 = .ok (.iconst 1, 1) := by decide +kernel
theorem dL_isClosed_9 : decode cL_isClosed 9 = .ok (.goto 4, 3) := by decide +kernel
theorem dL_isClosed_12 : decode cL_isClosed 12 = .ok (.iconst 0, 1) := by decide +kernel
theorem dL_isClosed_13 : decode cL_isClosed 13 = .ok (.istore_n 3, 1) := by decide +kernel
theorem dL_isClosed_14 : decode cL_isClosed 14 = .ok (.iconst 0, 1) := by decide +kernel
theorem dL_isClosed_15 : decode cL_isClosed 15 = .ok (.istore 4, 2) := by decide +kernel
theorem dL_isClosed_17 : decode cL_isClosed 17 = .ok (.iload 4, 2) := by decide +kernel
theorem dL_isClosed_19 : decode cL_isClosed 19 = .ok (.aload_n 1, 1) := by decide +kernel
theorem dL_isClosed_20 : decode cL_isClosed 20 = .ok (.iconst 0, 1) := by decide +kernel
theorem dL_isClosed_21 : decode cL_isClosed 21 = .ok (.iaload, 1) := by decide +kernel
theorem dL_isClosed_22 : decode cL_isClosed 22 = .ok (.if_icmp .ge 43, 3) := by decide +kernel
theorem dL_isClosed_25 : decode cL_isClosed 25 = .ok (.iload_n 3, 1) := by decide +kernel
theorem dL_isClosed_26 : decode cL_isClosed 26 = .ok (.ifCond .eq 31, 3) := by decide +kernel
theorem dL_isClosed_29 : decode cL_isClosed 29 = .ok (.iload_n 2, 1) := by decide +kernel
theorem dL_isClosed_30 : decode cL_isClosed 30 = .ok (.iload 4, 2) := by decide +kernel
theorem dL_isClosed_32 : decode cL_isClosed 32 = .ok (.invokestatic 31, 3) := by decide +kernel
theorem dL_isClosed_35 : decode cL_isClosed 35 = .ok (.ifCond .eq 18, 3) := by decide +kernel
theorem dL_isClosed_38 : decode cL_isClosed 38 = .ok (.aload_n 0, 1) := by decide +kernel
theorem dL_isClosed_39 : decode cL_isClosed 39 = .ok (.iconst 5, 1) := by decide +kernel
theorem dL_isClosed_40 : decode cL_isClosed 40 = .ok (.iload 4, 2) := by decide +kernel
theorem dL_isClosed_42 : decode cL_isClosed 42 = .ok (.imul, 1) := by decide +kernel
theorem dL_isClosed_43 : decode cL_isClosed 43 = .ok (.iconst 4, 1) := by decide +kernel
theorem dL_isClosed_44 : decode cL_isClosed 44 = .ok (.iadd, 1) := by decide +kernel
theorem dL_isClosed_45 : decode cL_isClosed 45 = .ok (.iaload, 1) := by decide +kernel
theorem dL_isClosed_46 : decode cL_isClosed 46 = .ok (.iload_n 2, 1) := by decide +kernel
theorem dL_isClosed_47 : decode cL_isClosed 47 = .ok (.iconst (-1), 1) := by decide +kernel
theorem dL_isClosed_48 : decode cL_isClosed 48 = .ok (.ixor, 1) := by decide +kernel
theorem dL_isClosed_49 : decode cL_isClosed 49 = .ok (.iand, 1) := by decide +kernel
theorem dL_isClosed_50 : decode cL_isClosed 50 = .ok (.ifCond .ne 7, 3) := by decide +kernel
theorem dL_isClosed_53 : decode cL_isClosed 53 = .ok (.iconst 1, 1) := by decide +kernel
theorem dL_isClosed_54 : decode cL_isClosed 54 = .ok (.goto 4, 3) := by decide +kernel
theorem dL_isClosed_57 : decode cL_isClosed 57 = .ok (.iconst 0, 1) := by decide +kernel
theorem dL_isClosed_58 : decode cL_isClosed 58 = .ok (.istore_n 3, 1) := by decide +kernel
theorem dL_isClosed_59 : decode cL_isClosed 59 = .ok (.iinc 4 1, 3) := by decide +kernel
theorem dL_isClosed_62 : decode cL_isClosed 62 = .ok (.goto (-45), 3) := by decide +kernel
theorem dL_isClosed_65 : decode cL_isClosed 65 = .ok (.iload_n 3, 1) := by decide +kernel
theorem dL_isClosed_66 : decode cL_isClosed 66 = .ok (.ireturn, 1) := by decide +kernel
set_option maxRecDepth 20000 in
theorem ggL_isWorth_X2_worthwhile : GoodIn wsL_isWorth wsX2_worthwhile := goodIn_ca (goodIn_r _ [5, 6, 7, 8, 9, 10, 4, 11, 12, 13, 14, 15, 16, 17, 18, 19, 20, 21, 22, 23, 24, 25, 26, 27, 28, 29, 30, 31, 32, 33, 34, 35, 36, 37, 38, 39, 40, 67, 68, 69, 70, 71, 72, 73, 74, 75, 76, 77, 78, 79] (by decide +kernel) (by decide +kernel)) (goodIn_sub (fun _ h => List.mem_cons_of_mem _ (List.mem_append_right _ h)) (by decide +kernel))
set_option maxRecDepth 20000 in
theorem gL_isWorth_X2_worthwhile : GoodIn wsL_isWorth (wsV RL 74 RX2 yX2_worthwhile wsX2_worthwhile) := goodIn_app (goodIn_of _ (by decide +kernel)) ggL_isWorth_X2_worthwhile
set_option maxRecDepth 20000 in
theorem ggL_isWorth_L_net : GoodIn wsL_isWorth wsL_net := goodIn_r _ [44, 45, 46, 43, 47] (by decide +kernel) (by decide +kernel)
set_option maxRecDepth 20000 in
theorem gL_isWorth_L_net : GoodIn wsL_isWorth (va_wsS RL 77 yL_net wsL_net) := goodIn_app (goodIn_of _ (by decide +kernel)) ggL_isWorth_L_net
set_option maxRecDepth 20000 in
theorem ggL_isWorth_L_isClosed : GoodIn wsL_isWorth wsL_isClosed := goodIn_r _ [50, 45, 46, 43, 47] (by decide +kernel) (by decide +kernel)
set_option maxRecDepth 20000 in
theorem gL_isWorth_L_isClosed : GoodIn wsL_isWorth (va_wsS RL 81 yL_isClosed wsL_isClosed) := goodIn_app (goodIn_of _ (by decide +kernel)) ggL_isWorth_L_isClosed
set_option maxRecDepth 20000 in
theorem ggL_isWorth_X2_bestNet : GoodIn wsL_isWorth wsX2_bestNet := goodIn_ca (goodIn_r _ [54, 6, 7, 8, 9, 10, 4, 11, 12, 13, 14, 15, 16, 17, 18, 19, 20, 21, 22, 23, 24, 25, 26, 27, 28, 29, 30, 31, 32, 33, 34, 35, 36, 37, 38, 39, 40, 55, 67, 68, 69, 70, 71, 72, 73, 74, 75, 76, 77, 78, 79] (by decide +kernel) (by decide +kernel)) (goodIn_sub (fun _ h => List.mem_cons_of_mem _ (List.mem_append_right _ h)) (by decide +kernel))
set_option maxRecDepth 20000 in
theorem gL_isWorth_X2_bestNet : GoodIn wsL_isWorth (wsV RL 85 RX2 yX2_bestNet wsX2_bestNet) := goodIn_app (goodIn_of _ (by decide +kernel)) ggL_isWorth_X2_bestNet
set_option maxRecDepth 20000 in
theorem ggL_isWorth_L_size : GoodIn wsL_isWorth wsL_size := goodIn_r _ [58] (by decide +kernel) (by decide +kernel)
set_option maxRecDepth 20000 in
theorem gL_isWorth_L_size : GoodIn wsL_isWorth (va_wsS RL 88 yL_size wsL_size) := goodIn_app (goodIn_of _ (by decide +kernel)) ggL_isWorth_L_size
set_option maxRecDepth 20000 in
theorem ggL_isWorth_X2_closedSets : GoodIn wsL_isWorth wsX2_closedSets := goodIn_r _ [62, 8, 63, 64, 65, 15, 66, 17, 18, 19, 20, 21, 22, 23, 4, 24, 25, 26, 27, 67, 68, 69, 70, 71, 72, 73, 74, 75, 76, 77, 78, 79] (by decide +kernel) (by decide +kernel)
set_option maxRecDepth 20000 in
theorem gL_isWorth_X2_closedSets : GoodIn wsL_isWorth (wsV RL 91 RX2 yX2_closedSets wsX2_closedSets) := goodIn_app (goodIn_of _ (by decide +kernel)) ggL_isWorth_X2_closedSets
theorem dL_isWorth_0 : decode cL_isWorth 0 = .ok (.aload_n 0, 1) := by decide +kernel
theorem dL_isWorth_1 : decode cL_isWorth 1 = .ok (.iload_n 3, 1) := by decide +kernel
theorem dL_isWorth_2 : decode cL_isWorth 2 = .ok (.invokevirtual 74, 3) := by decide +kernel
theorem dL_isWorth_5 : decode cL_isWorth 5 = .ok (.istore 4, 2) := by decide +kernel
theorem dL_isWorth_7 : decode cL_isWorth 7 = .ok (.aload_n 1, 1) := by decide +kernel
theorem dL_isWorth_8 : decode cL_isWorth 8 = .ok (.aload_n 2, 1) := by decide +kernel
theorem dL_isWorth_9 : decode cL_isWorth 9 = .ok (.iload 4, 2) := by decide +kernel
theorem dL_isWorth_11 : decode cL_isWorth 11 = .ok (.iload_n 3, 1) := by decide +kernel
theorem dL_isWorth_12 : decode cL_isWorth 12 = .ok (.invokestatic 77, 3) := by decide +kernel
theorem dL_isWorth_15 : decode cL_isWorth 15 = .ok (.istore 5, 2) := by decide +kernel
theorem dL_isWorth_17 : decode cL_isWorth 17 = .ok (.iconst 0, 1) := by decide +kernel
theorem dL_isWorth_18 : decode cL_isWorth 18 = .ok (.istore 6, 2) := by decide +kernel
theorem dL_isWorth_20 : decode cL_isWorth 20 = .ok (.aload_n 1, 1) := by decide +kernel
theorem dL_isWorth_21 : decode cL_isWorth 21 = .ok (.aload_n 2, 1) := by decide +kernel
theorem dL_isWorth_22 : decode cL_isWorth 22 = .ok (.iload 4, 2) := by decide +kernel
theorem dL_isWorth_24 : decode cL_isWorth 24 = .ok (.invokestatic 81, 3) := by decide +kernel
theorem dL_isWorth_27 : decode cL_isWorth 27 = .ok (.ifCond .eq 22, 3) := by decide +kernel
theorem dL_isWorth_30 : decode cL_isWorth 30 = .ok (.aload_n 0, 1) := by decide +kernel
theorem dL_isWorth_31 : decode cL_isWorth 31 = .ok (.iload_n 3, 1) := by decide +kernel
theorem dL_isWorth_32 : decode cL_isWorth 32 = .ok (.invokevirtual 85, 3) := by decide +kernel
theorem dL_isWorth_35 : decode cL_isWorth 35 = .ok (.iload 5, 2) := by decide +kernel
theorem dL_isWorth_37 : decode cL_isWorth 37 = .ok (.if_icmp .ne 12, 3) := by decide +kernel
theorem dL_isWorth_40 : decode cL_isWorth 40 = .ok (.iload 5, 2) := by decide +kernel
theorem dL_isWorth_42 : decode cL_isWorth 42 = .ok (.ifCond .lt 7, 3) := by decide +kernel
theorem dL_isWorth_45 : decode cL_isWorth 45 = .ok (.iconst 1, 1) := by decide +kernel
theorem dL_isWorth_46 : decode cL_isWorth 46 = .ok (.goto 4, 3) := by decide +kernel
theorem dL_isWorth_49 : decode cL_isWorth 49 = .ok (.iconst 0, 1) := by decide +kernel
theorem dL_isWorth_50 : decode cL_isWorth 50 = .ok (.istore 7, 2) := by decide +kernel
theorem dL_isWorth_52 : decode cL_isWorth 52 = .ok (.iconst 0, 1) := by decide +kernel
theorem dL_isWorth_53 : decode cL_isWorth 53 = .ok (.istore 8, 2) := by decide +kernel
theorem dL_isWorth_55 : decode cL_isWorth 55 = .ok (.iload 8, 2) := by decide +kernel
theorem dL_isWorth_57 : decode cL_isWorth 57 = .ok (.iconst 1, 1) := by decide +kernel
theorem dL_isWorth_58 : decode cL_isWorth 58 = .ok (.aload_n 2, 1) := by decide +kernel
theorem dL_isWorth_59 : decode cL_isWorth 59 = .ok (.iconst 0, 1) := by decide +kernel
theorem dL_isWorth_60 : decode cL_isWorth 60 = .ok (.iaload, 1) := by decide +kernel
theorem dL_isWorth_61 : decode cL_isWorth 61 = .ok (.ishl, 1) := by decide +kernel
theorem dL_isWorth_62 : decode cL_isWorth 62 = .ok (.if_icmp .ge 94, 3) := by decide +kernel
theorem dL_isWorth_65 : decode cL_isWorth 65 = .ok (.aload_n 1, 1) := by decide +kernel
theorem dL_isWorth_66 : decode cL_isWorth 66 = .ok (.aload_n 2, 1) := by decide +kernel
theorem dL_isWorth_67 : decode cL_isWorth 67 = .ok (.iload 8, 2) := by decide +kernel
theorem dL_isWorth_69 : decode cL_isWorth 69 = .ok (.invokestatic 81, 3) := by decide +kernel
theorem dL_isWorth_72 : decode cL_isWorth 72 = .ok (.istore 9, 2) := by decide +kernel
theorem dL_isWorth_74 : decode cL_isWorth 74 = .ok (.iload 6, 2) := by decide +kernel
theorem dL_isWorth_76 : decode cL_isWorth 76 = .ok (.iload 9, 2) := by decide +kernel
theorem dL_isWorth_78 : decode cL_isWorth 78 = .ok (.ifCond .eq 7, 3) := by decide +kernel
theorem dL_isWorth_81 : decode cL_isWorth 81 = .ok (.iconst 1, 1) := by decide +kernel
theorem dL_isWorth_82 : decode cL_isWorth 82 = .ok (.goto 4, 3) := by decide +kernel
theorem dL_isWorth_85 : decode cL_isWorth 85 = .ok (.iconst 0, 1) := by decide +kernel
theorem dL_isWorth_86 : decode cL_isWorth 86 = .ok (.iadd, 1) := by decide +kernel
theorem dL_isWorth_87 : decode cL_isWorth 87 = .ok (.istore 6, 2) := by decide +kernel
theorem dL_isWorth_89 : decode cL_isWorth 89 = .ok (.aload_n 1, 1) := by decide +kernel
theorem dL_isWorth_90 : decode cL_isWorth 90 = .ok (.aload_n 2, 1) := by decide +kernel
theorem dL_isWorth_91 : decode cL_isWorth 91 = .ok (.iload 8, 2) := by decide +kernel
theorem dL_isWorth_93 : decode cL_isWorth 93 = .ok (.iload_n 3, 1) := by decide +kernel
theorem dL_isWorth_94 : decode cL_isWorth 94 = .ok (.invokestatic 77, 3) := by decide +kernel
theorem dL_isWorth_97 : decode cL_isWorth 97 = .ok (.istore 10, 2) := by decide +kernel
theorem dL_isWorth_99 : decode cL_isWorth 99 = .ok (.iload 7, 2) := by decide +kernel
theorem dL_isWorth_101 : decode cL_isWorth 101 = .ok (.ifCond .eq 46, 3) := by decide +kernel
theorem dL_isWorth_104 : decode cL_isWorth 104 = .ok (.iload 9, 2) := by decide +kernel
theorem dL_isWorth_106 : decode cL_isWorth 106 = .ok (.ifCond .eq 37, 3) := by decide +kernel
theorem dL_isWorth_109 : decode cL_isWorth 109 = .ok (.iload 8, 2) := by decide +kernel
theorem dL_isWorth_111 : decode cL_isWorth 111 = .ok (.iload 4, 2) := by decide +kernel
theorem dL_isWorth_113 : decode cL_isWorth 113 = .ok (.if_icmp .eq 30, 3) := by decide +kernel
theorem dL_isWorth_116 : decode cL_isWorth 116 = .ok (.iload 10, 2) := by decide +kernel
theorem dL_isWorth_118 : decode cL_isWorth 118 = .ok (.iload 5, 2) := by decide +kernel
theorem dL_isWorth_120 : decode cL_isWorth 120 = .ok (.if_icmp .lt 23, 3) := by decide +kernel
theorem dL_isWorth_123 : decode cL_isWorth 123 = .ok (.iload 10, 2) := by decide +kernel
theorem dL_isWorth_125 : decode cL_isWorth 125 = .ok (.iload 5, 2) := by decide +kernel
theorem dL_isWorth_127 : decode cL_isWorth 127 = .ok (.if_icmp .ne 20, 3) := by decide +kernel
theorem dL_isWorth_130 : decode cL_isWorth 130 = .ok (.iload 8, 2) := by decide +kernel
theorem dL_isWorth_132 : decode cL_isWorth 132 = .ok (.invokestatic 88, 3) := by decide +kernel
theorem dL_isWorth_135 : decode cL_isWorth 135 = .ok (.iload 4, 2) := by decide +kernel
theorem dL_isWorth_137 : decode cL_isWorth 137 = .ok (.invokestatic 88, 3) := by decide +kernel
theorem dL_isWorth_140 : decode cL_isWorth 140 = .ok (.if_icmp .le 7, 3) := by decide +kernel
theorem dL_isWorth_143 : decode cL_isWorth 143 = .ok (.iconst 1, 1) := by decide +kernel
theorem dL_isWorth_144 : decode cL_isWorth 144 = .ok (.goto 4, 3) := by decide +kernel
theorem dL_isWorth_147 : decode cL_isWorth 147 = .ok (.iconst 0, 1) := by decide +kernel
theorem dL_isWorth_148 : decode cL_isWorth 148 = .ok (.istore 7, 2) := by decide +kernel
theorem dL_isWorth_150 : decode cL_isWorth 150 = .ok (.iinc 8 1, 3) := by decide +kernel
theorem dL_isWorth_153 : decode cL_isWorth 153 = .ok (.goto (-98), 3) := by decide +kernel
theorem dL_isWorth_156 : decode cL_isWorth 156 = .ok (.iload 7, 2) := by decide +kernel
theorem dL_isWorth_158 : decode cL_isWorth 158 = .ok (.ifCond .eq 16, 3) := by decide +kernel
theorem dL_isWorth_161 : decode cL_isWorth 161 = .ok (.aload_n 0, 1) := by decide +kernel
theorem dL_isWorth_162 : decode cL_isWorth 162 = .ok (.invokevirtual 91, 3) := by decide +kernel
theorem dL_isWorth_165 : decode cL_isWorth 165 = .ok (.iload 6, 2) := by decide +kernel
theorem dL_isWorth_167 : decode cL_isWorth 167 = .ok (.if_icmp .ne 7, 3) := by decide +kernel
theorem dL_isWorth_170 : decode cL_isWorth 170 = .ok (.iconst 1, 1) := by decide +kernel
theorem dL_isWorth_171 : decode cL_isWorth 171 = .ok (.goto 4, 3) := by decide +kernel
theorem dL_isWorth_174 : decode cL_isWorth 174 = .ok (.iconst 0, 1) := by decide +kernel
theorem dL_isWorth_175 : decode cL_isWorth 175 = .ok (.ireturn, 1) := by decide +kernel
set_option maxRecDepth 20000 in
theorem ggL_loses_L_asks : GoodIn wsL_loses wsL_asks := goodIn_ca (goodIn_r _ [5, 6, 7, 8, 9, 10, 11, 12, 13, 14, 15, 16, 17, 18, 19, 20, 21, 22, 23, 24, 25, 26, 27, 28, 29, 121, 122, 123, 124, 125, 126, 127, 128, 129, 130, 131, 132, 133, 134, 135, 136, 137, 138, 139, 140, 141, 142] (by decide +kernel) (by decide +kernel)) (goodIn_sub (fun _ h => List.mem_cons_of_mem _ (List.mem_append_left _ (List.mem_append_right _ h))) (by decide +kernel))
set_option maxRecDepth 20000 in
theorem gL_loses_L_asks : GoodIn wsL_loses (va_wsS RL 46 yL_asks wsL_asks) := goodIn_app (goodIn_of _ (by decide +kernel)) ggL_loses_L_asks
set_option maxRecDepth 20000 in
theorem ggL_loses_X2_lose : GoodIn wsL_loses wsX2_lose := goodIn_ca (goodIn_ca (goodIn_r _ [33, 11, 12, 34, 35, 36, 14, 37, 38, 39, 9, 40, 19, 20, 21, 41, 42, 43, 44, 13, 45, 46, 47, 48, 49, 50, 51, 52, 53, 54, 55, 56, 57, 58, 59, 60, 61, 62, 63, 64, 65, 66, 67, 68, 69, 70, 71, 72, 73, 74, 75, 76, 77, 78, 79, 80, 81, 82, 83, 84, 85, 86, 87, 88, 89, 90, 91, 92, 93, 94, 95, 96, 97, 98, 99, 100, 101, 102, 103, 104, 105, 106, 107, 108, 109, 110, 111, 112, 113, 114, 115, 116, 121, 122, 123, 124, 134, 135, 136, 137, 138, 139, 140, 141, 142, 125, 126, 127, 128, 129, 130, 131, 132, 133] (by decide +kernel) (by decide +kernel)) (goodIn_sub (fun _ h => List.mem_cons_of_mem _ (List.mem_append_left _ (List.mem_append_right _ h))) (by decide +kernel))) (goodIn_sub (fun _ h => List.mem_cons_of_mem _ (List.mem_append_right _ h)) (by decide +kernel))
set_option maxRecDepth 20000 in
theorem gL_loses_X2_lose : GoodIn wsL_loses (wsV RL 94 RX2 yX2_lose wsX2_lose) := goodIn_app (goodIn_of _ (by decide +kernel)) ggL_loses_X2_lose
set_option maxRecDepth 20000 in
theorem ggL_loses_X2_lessonDay : GoodIn wsL_loses wsX2_lessonDay := goodIn_ca (goodIn_r _ [10, 11, 12, 13, 14, 15, 16, 17, 9, 18, 19, 20, 21, 121, 122, 123, 124, 125, 126, 127, 128, 129, 130, 131, 132, 133, 134, 135, 136, 137, 138, 139, 140, 141, 142] (by decide +kernel) (by decide +kernel)) (goodIn_sub (fun _ h => List.mem_cons_of_mem _ (List.mem_append_left _ (List.mem_append_right _ h))) (by decide +kernel))
set_option maxRecDepth 20000 in
theorem gL_loses_X2_lessonDay : GoodIn wsL_loses (wsV RL 40 RX2 yX2_lessonDay wsX2_lessonDay) := goodIn_app (goodIn_of _ (by decide +kernel)) ggL_loses_X2_lessonDay
set_option maxRecDepth 20000 in
theorem ggL_loses_X2_revisitDay : GoodIn wsL_loses wsX2_revisitDay := goodIn_ca (goodIn_r _ [25, 11, 12, 13, 14, 15, 16, 17, 9, 18, 19, 20, 21, 121, 122, 123, 124, 125, 126, 127, 128, 129, 130, 131, 132, 133, 134, 135, 136, 137, 138, 139, 140, 141, 142] (by decide +kernel) (by decide +kernel)) (goodIn_sub (fun _ h => List.mem_cons_of_mem _ (List.mem_append_left _ (List.mem_append_right _ h))) (by decide +kernel))
set_option maxRecDepth 20000 in
theorem gL_loses_X2_revisitDay : GoodIn wsL_loses (wsV RL 43 RX2 yX2_revisitDay wsX2_revisitDay) := goodIn_app (goodIn_of _ (by decide +kernel)) ggL_loses_X2_revisitDay
set_option maxRecDepth 20000 in
theorem ggL_loses_X2_on : GoodIn wsL_loses wsX2_on := goodIn_ca (goodIn_r _ [120, 11, 12, 14, 38, 39, 9, 40, 19, 20, 21, 121, 122, 123, 124, 134, 135, 136, 137, 138, 139, 140, 141, 142] (by decide +kernel) (by decide +kernel)) (goodIn_sub (fun _ h => List.mem_cons_of_mem _ (List.mem_append_left _ (List.mem_append_right _ h))) (by decide +kernel))
set_option maxRecDepth 20000 in
theorem gL_loses_X2_on : GoodIn wsL_loses (wsV RL 54 RX2 yX2_on wsX2_on) := goodIn_app (goodIn_of _ (by decide +kernel)) ggL_loses_X2_on
theorem dL_loses_0 : decode cL_loses 0 = .ok (.bipush 60, 2) := by decide +kernel
theorem dL_loses_2 : decode cL_loses 2 = .ok (.newarray .int, 2) := by decide +kernel
theorem dL_loses_4 : decode cL_loses 4 = .ok (.astore 6, 2) := by decide +kernel
theorem dL_loses_6 : decode cL_loses 6 = .ok (.bipush 36, 2) := by decide +kernel
theorem dL_loses_8 : decode cL_loses 8 = .ok (.newarray .int, 2) := by decide +kernel
theorem dL_loses_10 : decode cL_loses 10 = .ok (.astore 7, 2) := by decide +kernel
theorem dL_loses_12 : decode cL_loses 12 = .ok (.aload_n 0, 1) := by decide +kernel
theorem dL_loses_13 : decode cL_loses 13 = .ok (.aload_n 1, 1) := by decide +kernel
theorem dL_loses_14 : decode cL_loses 14 = .ok (.aload_n 2, 1) := by decide +kernel
theorem dL_loses_15 : decode cL_loses 15 = .ok (.aload_n 3, 1) := by decide +kernel
theorem dL_loses_16 : decode cL_loses 16 = .ok (.aload 6, 2) := by decide +kernel
theorem dL_loses_18 : decode cL_loses 18 = .ok (.aload 7, 2) := by decide +kernel
theorem dL_loses_20 : decode cL_loses 20 = .ok (.bipush 12, 2) := by decide +kernel
theorem dL_loses_22 : decode cL_loses 22 = .ok (.newarray .int, 2) := by decide +kernel
theorem dL_loses_24 : decode cL_loses 24 = .ok (.invokestatic 46, 3) := by decide +kernel
theorem dL_loses_27 : decode cL_loses 27 = .ok (.aload_n 0, 1) := by decide +kernel
theorem dL_loses_28 : decode cL_loses 28 = .ok (.iload 5, 2) := by decide +kernel
theorem dL_loses_30 : decode cL_loses 30 = .ok (.invokevirtual 94, 3) := by decide +kernel
theorem dL_loses_33 : decode cL_loses 33 = .ok (.istore 8, 2) := by decide +kernel
theorem dL_loses_35 : decode cL_loses 35 = .ok (.iconst 0, 1) := by decide +kernel
theorem dL_loses_36 : decode cL_loses 36 = .ok (.istore 9, 2) := by decide +kernel
theorem dL_loses_38 : decode cL_loses 38 = .ok (.iconst 1, 1) := by decide +kernel
theorem dL_loses_39 : decode cL_loses 39 = .ok (.istore 10, 2) := by decide +kernel
theorem dL_loses_41 : decode cL_loses 41 = .ok (.iconst 0, 1) := by decide +kernel
theorem dL_loses_42 : decode cL_loses 42 = .ok (.istore 11, 2) := by decide +kernel
theorem dL_loses_44 : decode cL_loses 44 = .ok (.iload 11, 2) := by decide +kernel
theorem dL_loses_46 : decode cL_loses 46 = .ok (.bipush 60, 2) := by decide +kernel
theorem dL_loses_48 : decode cL_loses 48 = .ok (.if_icmp .ge 95, 3) := by decide +kernel
theorem dL_loses_51 : decode cL_loses 51 = .ok (.aload 6, 2) := by decide +kernel
theorem dL_loses_53 : decode cL_loses 53 = .ok (.iload 11, 2) := by decide +kernel
theorem dL_loses_55 : decode cL_loses 55 = .ok (.iaload, 1) := by decide +kernel
theorem dL_loses_56 : decode cL_loses 56 = .ok (.ifCond .ge 7, 3) := by decide +kernel
theorem dL_loses_59 : decode cL_loses 59 = .ok (.iconst (-1), 1) := by decide +kernel
theorem dL_loses_60 : decode cL_loses 60 = .ok (.goto 15, 3) := by decide +kernel
theorem dL_loses_63 : decode cL_loses 63 = .ok (.aload_n 0, 1) := by decide +kernel
theorem dL_loses_64 : decode cL_loses 64 = .ok (.iload 11, 2) := by decide +kernel
theorem dL_loses_66 : decode cL_loses 66 = .ok (.iconst 5, 1) := by decide +kernel
theorem dL_loses_67 : decode cL_loses 67 = .ok (.idiv, 1) := by decide +kernel
theorem dL_loses_68 : decode cL_loses 68 = .ok (.iload 11, 2) := by decide +kernel
theorem dL_loses_70 : decode cL_loses 70 = .ok (.iconst 5, 1) := by decide +kernel
theorem dL_loses_71 : decode cL_loses 71 = .ok (.irem, 1) := by decide +kernel
theorem dL_loses_72 : decode cL_loses 72 = .ok (.invokevirtual 40, 3) := by decide +kernel
theorem dL_loses_75 : decode cL_loses 75 = .ok (.istore 12, 2) := by decide +kernel
theorem dL_loses_77 : decode cL_loses 77 = .ok (.iload 9, 2) := by decide +kernel
theorem dL_loses_79 : decode cL_loses 79 = .ok (.iload 12, 2) := by decide +kernel
theorem dL_loses_81 : decode cL_loses 81 = .ok (.aload 6, 2) := by decide +kernel
theorem dL_loses_83 : decode cL_loses 83 = .ok (.iload 11, 2) := by decide +kernel
theorem dL_loses_85 : decode cL_loses 85 = .ok (.iaload, 1) := by decide +kernel
theorem dL_loses_86 : decode cL_loses 86 = .ok (.if_icmp .ne 7, 3) := by decide +kernel
theorem dL_loses_89 : decode cL_loses 89 = .ok (.iconst 0, 1) := by decide +kernel
theorem dL_loses_90 : decode cL_loses 90 = .ok (.goto 4, 3) := by decide +kernel
theorem dL_loses_93 : decode cL_loses 93 = .ok (.iconst 1, 1) := by decide +kernel
theorem dL_loses_94 : decode cL_loses 94 = .ok (.iadd, 1) := by decide +kernel
theorem dL_loses_95 : decode cL_loses 95 = .ok (.istore 9, 2) := by decide +kernel
theorem dL_loses_97 : decode cL_loses 97 = .ok (.iload 10, 2) := by decide +kernel
theorem dL_loses_99 : decode cL_loses 99 = .ok (.ifCond .eq 35, 3) := by decide +kernel
theorem dL_loses_102 : decode cL_loses 102 = .ok (.aload 6, 2) := by decide +kernel
theorem dL_loses_104 : decode cL_loses 104 = .ok (.iload 11, 2) := by decide +kernel
theorem dL_loses_106 : decode cL_loses 106 = .ok (.iaload, 1) := by decide +kernel
theorem dL_loses_107 : decode cL_loses 107 = .ok (.ifCond .lt 23, 3) := by decide +kernel
theorem dL_loses_110 : decode cL_loses 110 = .ok (.aload 6, 2) := by decide +kernel
theorem dL_loses_112 : decode cL_loses 112 = .ok (.iload 11, 2) := by decide +kernel
theorem dL_loses_114 : decode cL_loses 114 = .ok (.iaload, 1) := by decide +kernel
theorem dL_loses_115 : decode cL_loses 115 = .ok (.iload 5, 2) := by decide +kernel
theorem dL_loses_117 : decode cL_loses 117 = .ok (.if_icmp .ge 13, 3) := by decide +kernel
theorem dL_loses_120 : decode cL_loses 120 = .ok (.iload 12, 2) := by decide +kernel
theorem dL_loses_122 : decode cL_loses 122 = .ok (.aload 6, 2) := by decide +kernel
theorem dL_loses_124 : decode cL_loses 124 = .ok (.iload 11, 2) := by decide +kernel
theorem dL_loses_126 : decode cL_loses 126 = .ok (.iaload, 1) := by decide +kernel
theorem dL_loses_127 : decode cL_loses 127 = .ok (.if_icmp .ne 7, 3) := by decide +kernel
theorem dL_loses_130 : decode cL_loses 130 = .ok (.iconst 1, 1) := by decide +kernel
theorem dL_loses_131 : decode cL_loses 131 = .ok (.goto 4, 3) := by decide +kernel
theorem dL_loses_134 : decode cL_loses 134 = .ok (.iconst 0, 1) := by decide +kernel
theorem dL_loses_135 : decode cL_loses 135 = .ok (.istore 10, 2) := by decide +kernel
theorem dL_loses_137 : decode cL_loses 137 = .ok (.iinc 11 1, 3) := by decide +kernel
theorem dL_loses_140 : decode cL_loses 140 = .ok (.goto (-96), 3) := by decide +kernel
theorem dL_loses_143 : decode cL_loses 143 = .ok (.iconst 0, 1) := by decide +kernel
theorem dL_loses_144 : decode cL_loses 144 = .ok (.istore 11, 2) := by decide +kernel
theorem dL_loses_146 : decode cL_loses 146 = .ok (.iload 11, 2) := by decide +kernel
theorem dL_loses_148 : decode cL_loses 148 = .ok (.bipush 36, 2) := by decide +kernel
theorem dL_loses_150 : decode cL_loses 150 = .ok (.if_icmp .ge 95, 3) := by decide +kernel
theorem dL_loses_153 : decode cL_loses 153 = .ok (.aload 7, 2) := by decide +kernel
