set_option maxRecDepth 20000 in
theorem ggL_isOrder_L_isIn : GoodIn wsL_isOrder wsL_isIn := goodIn_r _ [19] (by decide +kernel) (by decide +kernel)
set_option maxRecDepth 20000 in
theorem gL_isOrder_L_isIn : GoodIn wsL_isOrder (va_wsS RL 31 yL_isIn wsL_isIn) := goodIn_app (goodIn_of _ (by decide +kernel)) ggL_isOrder_L_isIn
set_option maxRecDepth 20000 in
theorem ggL_isOrder_X2_allNeeds : GoodIn wsL_isOrder wsX2_allNeeds := goodIn_ca (goodIn_r _ [23, 11, 12, 6, 24, 25, 26, 4, 27, 13, 14, 15, 28, 29, 30, 31, 32, 33, 34, 35, 36, 37, 38, 39, 40, 41, 42, 43, 44, 45, 46, 47, 48, 49, 50, 51, 52, 53] (by decide +kernel) (by decide +kernel)) (goodIn_sub (fun _ h => List.mem_cons_of_mem _ (List.mem_append_right _ h)) (by decide +kernel))
set_option maxRecDepth 20000 in
theorem gL_isOrder_X2_allNeeds : GoodIn wsL_isOrder (wsV RL 37 RX2 yX2_allNeeds wsX2_allNeeds) := goodIn_app (goodIn_of _ (by decide +kernel)) ggL_isOrder_X2_allNeeds
theorem dL_isOrder_0 : decode cL_isOrder 0 = .ok (.iconst 0, 1) := by decide +kernel
theorem dL_isOrder_1 : decode cL_isOrder 1 = .ok (.istore_n 3, 1) := by decide +kernel
theorem dL_isOrder_2 : decode cL_isOrder 2 = .ok (.iconst (-1), 1) := by decide +kernel
theorem dL_isOrder_3 : decode cL_isOrder 3 = .ok (.istore 4, 2) := by decide +kernel
theorem dL_isOrder_5 : decode cL_isOrder 5 = .ok (.aload_n 0, 1) := by decide +kernel
theorem dL_isOrder_6 : decode cL_isOrder 6 = .ok (.invokevirtual 23, 3) := by decide +kernel
theorem dL_isOrder_9 : decode cL_isOrder 9 = .ok (.aload_n 2, 1) := by decide +kernel
theorem dL_isOrder_10 : decode cL_isOrder 10 = .ok (.iconst 0, 1) := by decide +kernel
theorem dL_isOrder_11 : decode cL_isOrder 11 = .ok (.iaload, 1) := by decide +kernel
theorem dL_isOrder_12 : decode cL_isOrder 12 = .ok (.if_icmp .ne 7, 3) := by decide +kernel
theorem dL_isOrder_15 : decode cL_isOrder 15 = .ok (.iconst 1, 1) := by decide +kernel
theorem dL_isOrder_16 : decode cL_isOrder 16 = .ok (.goto 4, 3) := by decide +kernel
theorem dL_isOrder_19 : decode cL_isOrder 19 = .ok (.iconst 0, 1) := by decide +kernel
theorem dL_isOrder_20 : decode cL_isOrder 20 = .ok (.istore 5, 2) := by decide +kernel
theorem dL_isOrder_22 : decode cL_isOrder 22 = .ok (.iconst 0, 1) := by decide +kernel
theorem dL_isOrder_23 : decode cL_isOrder 23 = .ok (.istore 6, 2) := by decide +kernel
theorem dL_isOrder_25 : decode cL_isOrder 25 = .ok (.iload 6, 2) := by decide +kernel
theorem dL_isOrder_27 : decode cL_isOrder 27 = .ok (.aload_n 2, 1) := by decide +kernel
theorem dL_isOrder_28 : decode cL_isOrder 28 = .ok (.iconst 0, 1) := by decide +kernel
theorem dL_isOrder_29 : decode cL_isOrder 29 = .ok (.iaload, 1) := by decide +kernel
theorem dL_isOrder_30 : decode cL_isOrder 30 = .ok (.if_icmp .ge 247, 3) := by decide +kernel
theorem dL_isOrder_33 : decode cL_isOrder 33 = .ok (.iload 5, 2) := by decide +kernel
theorem dL_isOrder_35 : decode cL_isOrder 35 = .ok (.ifCond .eq 242, 3) := by decide +kernel
theorem dL_isOrder_38 : decode cL_isOrder 38 = .ok (.aload_n 0, 1) := by decide +kernel
theorem dL_isOrder_39 : decode cL_isOrder 39 = .ok (.iload 6, 2) := by decide +kernel
theorem dL_isOrder_41 : decode cL_isOrder 41 = .ok (.invokevirtual 27, 3) := by decide +kernel
theorem dL_isOrder_44 : decode cL_isOrder 44 = .ok (.istore 7, 2) := by decide +kernel
theorem dL_isOrder_46 : decode cL_isOrder 46 = .ok (.iload 7, 2) := by decide +kernel
theorem dL_isOrder_48 : decode cL_isOrder 48 = .ok (.ifCond .lt 39, 3) := by decide +kernel
theorem dL_isOrder_51 : decode cL_isOrder 51 = .ok (.iload 7, 2) := by decide +kernel
theorem dL_isOrder_53 : decode cL_isOrder 53 = .ok (.aload_n 2, 1) := by decide +kernel
theorem dL_isOrder_54 : decode cL_isOrder 54 = .ok (.iconst 0, 1) := by decide +kernel
theorem dL_isOrder_55 : decode cL_isOrder 55 = .ok (.iaload, 1) := by decide +kernel
theorem dL_isOrder_56 : decode cL_isOrder 56 = .ok (.if_icmp .ge 31, 3) := by decide +kernel
theorem dL_isOrder_59 : decode cL_isOrder 59 = .ok (.iload_n 3, 1) := by decide +kernel
theorem dL_isOrder_60 : decode cL_isOrder 60 = .ok (.iload 7, 2) := by decide +kernel
theorem dL_isOrder_62 : decode cL_isOrder 62 = .ok (.invokestatic 31, 3) := by decide +kernel
theorem dL_isOrder_65 : decode cL_isOrder 65 = .ok (.ifCond .ne 22, 3) := by decide +kernel
theorem dL_isOrder_68 : decode cL_isOrder 68 = .ok (.aload_n 1, 1) := by decide +kernel
theorem dL_isOrder_69 : decode cL_isOrder 69 = .ok (.iconst 5, 1) := by decide +kernel
theorem dL_isOrder_70 : decode cL_isOrder 70 = .ok (.iload 7, 2) := by decide +kernel
theorem dL_isOrder_72 : decode cL_isOrder 72 = .ok (.imul, 1) := by decide +kernel
theorem dL_isOrder_73 : decode cL_isOrder 73 = .ok (.iconst 4, 1) := by decide +kernel
theorem dL_isOrder_74 : decode cL_isOrder 74 = .ok (.iadd, 1) := by decide +kernel
theorem dL_isOrder_75 : decode cL_isOrder 75 = .ok (.iaload, 1) := by decide +kernel
theorem dL_isOrder_76 : decode cL_isOrder 76 = .ok (.iload_n 3, 1) := by decide +kernel
theorem dL_isOrder_77 : decode cL_isOrder 77 = .ok (.iconst (-1), 1) := by decide +kernel
theorem dL_isOrder_78 : decode cL_isOrder 78 = .ok (.ixor, 1) := by decide +kernel
theorem dL_isOrder_79 : decode cL_isOrder 79 = .ok (.iand, 1) := by decide +kernel
theorem dL_isOrder_80 : decode cL_isOrder 80 = .ok (.ifCond .ne 7, 3) := by decide +kernel
theorem dL_isOrder_83 : decode cL_isOrder 83 = .ok (.iconst 1, 1) := by decide +kernel
theorem dL_isOrder_84 : decode cL_isOrder 84 = .ok (.goto 4, 3) := by decide +kernel
theorem dL_isOrder_87 : decode cL_isOrder 87 = .ok (.iconst 0, 1) := by decide +kernel
theorem dL_isOrder_88 : decode cL_isOrder 88 = .ok (.istore 5, 2) := by decide +kernel
theorem dL_isOrder_90 : decode cL_isOrder 90 = .ok (.iload 5, 2) := by decide +kernel
theorem dL_isOrder_92 : decode cL_isOrder 92 = .ok (.ifCond .eq 31, 3) := by decide +kernel
theorem dL_isOrder_95 : decode cL_isOrder 95 = .ok (.iload 4, 2) := by decide +kernel
theorem dL_isOrder_97 : decode cL_isOrder 97 = .ok (.ifCond .lt 26, 3) := by decide +kernel
theorem dL_isOrder_100 : decode cL_isOrder 100 = .ok (.aload_n 1, 1) := by decide +kernel
theorem dL_isOrder_101 : decode cL_isOrder 101 = .ok (.iconst 5, 1) := by decide +kernel
theorem dL_isOrder_102 : decode cL_isOrder 102 = .ok (.iload 7, 2) := by decide +kernel
theorem dL_isOrder_104 : decode cL_isOrder 104 = .ok (.imul, 1) := by decide +kernel
theorem dL_isOrder_105 : decode cL_isOrder 105 = .ok (.iconst 1, 1) := by decide +kernel
theorem dL_isOrder_106 : decode cL_isOrder 106 = .ok (.iadd, 1) := by decide +kernel
theorem dL_isOrder_107 : decode cL_isOrder 107 = .ok (.iaload, 1) := by decide +kernel
theorem dL_isOrder_108 : decode cL_isOrder 108 = .ok (.aload_n 1, 1) := by decide +kernel
theorem dL_isOrder_109 : decode cL_isOrder 109 = .ok (.iconst 5, 1) := by decide +kernel
theorem dL_isOrder_110 : decode cL_isOrder 110 = .ok (.iload 4, 2) := by decide +kernel
theorem dL_isOrder_112 : decode cL_isOrder 112 = .ok (.imul, 1) := by decide +kernel
theorem dL_isOrder_113 : decode cL_isOrder 113 = .ok (.iconst 1, 1) := by decide +kernel
theorem dL_isOrder_114 : decode cL_isOrder 114 = .ok (.iadd, 1) := by decide +kernel
theorem dL_isOrder_115 : decode cL_isOrder 115 = .ok (.iaload, 1) := by decide +kernel
theorem dL_isOrder_116 : decode cL_isOrder 116 = .ok (.if_icmp .ne 7, 3) := by decide +kernel
theorem dL_isOrder_119 : decode cL_isOrder 119 = .ok (.iconst 1, 1) := by decide +kernel
theorem dL_isOrder_120 : decode cL_isOrder 120 = .ok (.goto 4, 3) := by decide +kernel
theorem dL_isOrder_123 : decode cL_isOrder 123 = .ok (.iconst 0, 1) := by decide +kernel
theorem dL_isOrder_124 : decode cL_isOrder 124 = .ok (.istore 8, 2) := by decide +kernel
theorem dL_isOrder_126 : decode cL_isOrder 126 = .ok (.iconst 0, 1) := by decide +kernel
theorem dL_isOrder_127 : decode cL_isOrder 127 = .ok (.istore 9, 2) := by decide +kernel
theorem dL_isOrder_129 : decode cL_isOrder 129 = .ok (.iload 9, 2) := by decide +kernel
theorem dL_isOrder_131 : decode cL_isOrder 131 = .ok (.aload_n 2, 1) := by decide +kernel
theorem dL_isOrder_132 : decode cL_isOrder 132 = .ok (.iconst 0, 1) := by decide +kernel
theorem dL_isOrder_133 : decode cL_isOrder 133 = .ok (.iaload, 1) := by decide +kernel
theorem dL_isOrder_134 : decode cL_isOrder 134 = .ok (.if_icmp .ge 117, 3) := by decide +kernel
theorem dL_isOrder_137 : decode cL_isOrder 137 = .ok (.iload 5, 2) := by decide +kernel
theorem dL_isOrder_139 : decode cL_isOrder 139 = .ok (.ifCond .eq 112, 3) := by decide +kernel
theorem dL_isOrder_142 : decode cL_isOrder 142 = .ok (.iload 9, 2) := by decide +kernel
theorem dL_isOrder_144 : decode cL_isOrder 144 = .ok (.iload 7, 2) := by decide +kernel
theorem dL_isOrder_146 : decode cL_isOrder 146 = .ok (.if_icmp .eq 31, 3) := by decide +kernel
theorem dL_isOrder_149 : decode cL_isOrder 149 = .ok (.iload_n 3, 1) := by decide +kernel
theorem dL_isOrder_150 : decode cL_isOrder 150 = .ok (.iload 9, 2) := by decide +kernel
theorem dL_isOrder_152 : decode cL_isOrder 152 = .ok (.invokestatic 31, 3) := by decide +kernel
theorem dL_isOrder_155 : decode cL_isOrder 155 = .ok (.ifCond .ne 22, 3) := by decide +kernel
theorem dL_isOrder_158 : decode cL_isOrder 158 = .ok (.aload_n 1, 1) := by decide +kernel
theorem dL_isOrder_159 : decode cL_isOrder 159 = .ok (.iconst 5, 1) := by decide +kernel
theorem dL_isOrder_160 : decode cL_isOrder 160 = .ok (.iload 9, 2) := by decide +kernel
theorem dL_isOrder_162 : decode cL_isOrder 162 = .ok (.imul, 1) := by decide +kernel
theorem dL_isOrder_163 : decode cL_isOrder 163 = .ok (.iconst 4, 1) := by decide +kernel
theorem dL_isOrder_164 : decode cL_isOrder 164 = .ok (.iadd, 1) := by decide +kernel
theorem dL_isOrder_165 : decode cL_isOrder 165 = .ok (.iaload, 1) := by decide +kernel
theorem dL_isOrder_166 : decode cL_isOrder 166 = .ok (.iload_n 3, 1) := by decide +kernel
theorem dL_isOrder_167 : decode cL_isOrder 167 = .ok (.iconst (-1), 1) := by decide +kernel
theorem dL_isOrder_168 : decode cL_isOrder 168 = .ok (.ixor, 1) := by decide +kernel
theorem dL_isOrder_169 : decode cL_isOrder 169 = .ok (.iand, 1) := by decide +kernel
theorem dL_isOrder_170 : decode cL_isOrder 170 = .ok (.ifCond .ne 7, 3) := by decide +kernel
theorem dL_isOrder_173 : decode cL_isOrder 173 = .ok (.iconst 1, 1) := by decide +kernel
theorem dL_isOrder_174 : decode cL_isOrder 174 = .ok (.goto 4, 3) := by decide +kernel
theorem dL_isOrder_177 : decode cL_isOrder 177 = .ok (.iconst 0, 1) := by decide +kernel
theorem dL_isOrder_178 : decode cL_isOrder 178 = .ok (.istore 10, 2) := by decide +kernel
theorem dL_isOrder_180 : decode cL_isOrder 180 = .ok (.iload 4, 2) := by decide +kernel
theorem dL_isOrder_182 : decode cL_isOrder 182 = .ok (.ifCond .lt 26, 3) := by decide +kernel
theorem dL_isOrder_185 : decode cL_isOrder 185 = .ok (.aload_n 1, 1) := by decide +kernel
theorem dL_isOrder_186 : decode cL_isOrder 186 = .ok (.iconst 5, 1) := by decide +kernel
theorem dL_isOrder_187 : decode cL_isOrder 187 = .ok (.iload 9, 2) := by decide +kernel
theorem dL_isOrder_189 : decode cL_isOrder 189 = .ok (.imul, 1) := by decide +kernel
theorem dL_isOrder_190 : decode cL_isOrder 190 = .ok (.iconst 1, 1) := by decide +kernel
theorem dL_isOrder_191 : decode cL_isOrder 191 = .ok (.iadd, 1) := by decide +kernel
theorem dL_isOrder_192 : decode cL_isOrder 192 = .ok (.iaload, 1) := by decide +kernel
theorem dL_isOrder_193 : decode cL_isOrder 193 = .ok (.aload_n 1, 1) := by decide +kernel
theorem dL_isOrder_194 : decode cL_isOrder 194 = .ok (.iconst 5, 1) := by decide +kernel
theorem dL_isOrder_195 : decode cL_isOrder 195 = .ok (.iload 4, 2) := by decide +kernel
theorem dL_isOrder_197 : decode cL_isOrder 197 = .ok (.imul, 1) := by decide +kernel
theorem dL_isOrder_198 : decode cL_isOrder 198 = .ok (.iconst 1, 1) := by decide +kernel
theorem dL_isOrder_199 : decode cL_isOrder 199 = .ok (.iadd, 1) := by decide +kernel
theorem dL_isOrder_200 : decode cL_isOrder 200 = .ok (.iaload, 1) := by decide +kernel
theorem dL_isOrder_201 : decode cL_isOrder 201 = .ok (.if_icmp .ne 7, 3) := by decide +kernel
theorem dL_isOrder_204 : decode cL_isOrder 204 = .ok (.iconst 1, 1) := by decide +kernel
theorem dL_isOrder_205 : decode cL_isOrder 205 = .ok (.goto 4, 3) := by decide +kernel
theorem dL_isOrder_208 : decode cL_isOrder 208 = .ok (.iconst 0, 1) := by decide +kernel
theorem dL_isOrder_209 : decode cL_isOrder 209 = .ok (.istore 11, 2) := by decide +kernel
theorem dL_isOrder_211 : decode cL_isOrder 211 = .ok (.iload 10, 2) := by decide +kernel
theorem dL_isOrder_213 : decode cL_isOrder 213 = .ok (.ifCond .eq 25, 3) := by decide +kernel
theorem dL_isOrder_216 : decode cL_isOrder 216 = .ok (.iload 11, 2) := by decide +kernel
theorem dL_isOrder_218 : decode cL_isOrder 218 = .ok (.iload 8, 2) := by decide +kernel
theorem dL_isOrder_220 : decode cL_isOrder 220 = .ok (.if_icmp .ne 13, 3) := by decide +kernel
theorem dL_isOrder_223 : decode cL_isOrder 223 = .ok (.iload 9, 2) := by decide +kernel
theorem dL_isOrder_225 : decode cL_isOrder 225 = .ok (.iload 7, 2) := by decide +kernel
theorem dL_isOrder_227 : decode cL_isOrder 227 = .ok (.if_icmp .le 15, 3) := by decide +kernel
theorem dL_isOrder_230 : decode cL_isOrder 230 = .ok (.goto 8, 3) := by decide +kernel
theorem dL_isOrder_233 : decode cL_isOrder 233 = .ok (.iload 8, 2) := by decide +kernel
theorem dL_isOrder_235 : decode cL_isOrder 235 = .ok (.ifCond .eq 7, 3) := by decide +kernel
theorem dL_isOrder_238 : decode cL_isOrder 238 = .ok (.iconst 1, 1) := by decide +kernel
theorem dL_isOrder_239 : decode cL_isOrder 239 = .ok (.goto 4, 3) := by decide +kernel
theorem dL_isOrder_242 : decode cL_isOrder 242 = .ok (.iconst 0, 1) := by decide +kernel
theorem dL_isOrder_243 : decode cL_isOrder 243 = .ok (.istore 5, 2) := by decide +kernel
theorem dL_isOrder_245 : decode cL_isOrder 245 = .ok (.iinc 9 1, 3) := by decide +kernel
theorem dL_isOrder_248 : decode cL_isOrder 248 = .ok (.goto (-119), 3) := by decide +kernel
theorem dL_isOrder_251 : decode cL_isOrder 251 = .ok (.iload_n 3, 1) := by decide +kernel
theorem dL_isOrder_252 : decode cL_isOrder 252 = .ok (.iload 5, 2) := by decide +kernel
theorem dL_isOrder_254 : decode cL_isOrder 254 = .ok (.ifCond .eq 10, 3) := by decide +kernel
theorem dL_isOrder_257 : decode cL_isOrder 257 = .ok (.iconst 1, 1) := by decide +kernel
theorem dL_isOrder_258 : decode cL_isOrder 258 = .ok (.iload 7, 2) := by decide +kernel
theorem dL_isOrder_260 : decode cL_isOrder 260 = .ok (.ishl, 1) := by decide +kernel
theorem dL_isOrder_261 : decode cL_isOrder 261 = .ok (.goto 4, 3) := by decide +kernel
theorem dL_isOrder_264 : decode cL_isOrder 264 = .ok (.iconst 0, 1) := by decide +kernel
theorem dL_isOrder_265 : decode cL_isOrder 265 = .ok (.ior, 1) := by decide +kernel
theorem dL_isOrder_266 : decode cL_isOrder 266 = .ok (.istore_n 3, 1) := by decide +kernel
theorem dL_isOrder_267 : decode cL_isOrder 267 = .ok (.iload 7, 2) := by decide +kernel
theorem dL_isOrder_269 : decode cL_isOrder 269 = .ok (.istore 4, 2) := by decide +kernel
theorem dL_isOrder_271 : decode cL_isOrder 271 = .ok (.iinc 6 1, 3) := by decide +kernel
theorem dL_isOrder_274 : decode cL_isOrder 274 = .ok (.goto (-249), 3) := by decide +kernel
theorem dL_isOrder_277 : decode cL_isOrder 277 = .ok (.iconst 0, 1) := by decide +kernel
theorem dL_isOrder_278 : decode cL_isOrder 278 = .ok (.istore 6, 2) := by decide +kernel
theorem dL_isOrder_280 : decode cL_isOrder 280 = .ok (.iload 6, 2) := by decide +kernel
theorem dL_isOrder_282 : decode cL_isOrder 282 = .ok (.aload_n 2, 1) := by decide +kernel
theorem dL_isOrder_283 : decode cL_isOrder 283 = .ok (.iconst 0, 1) := by decide +kernel
theorem dL_isOrder_284 : decode cL_isOrder 284 = .ok (.iaload, 1) := by decide +kernel
theorem dL_isOrder_285 : decode cL_isOrder 285 = .ok (.if_icmp .ge 104, 3) := by decide +kernel
theorem dL_isOrder_288 : decode cL_isOrder 288 = .ok (.iload 5, 2) := by decide +kernel
theorem dL_isOrder_290 : decode cL_isOrder 290 = .ok (.ifCond .eq 99, 3) := by decide +kernel
theorem dL_isOrder_293 : decode cL_isOrder 293 = .ok (.aload_n 0, 1) := by decide +kernel
theorem dL_isOrder_294 : decode cL_isOrder 294 = .ok (.iload 6, 2) := by decide +kernel
theorem dL_isOrder_296 : decode cL_isOrder 296 = .ok (.invokevirtual 37, 3) := by decide +kernel
theorem dL_isOrder_299 : decode cL_isOrder 299 = .ok (.istore 7, 2) := by decide +kernel
theorem dL_isOrder_301 : decode cL_isOrder 301 = .ok (.aload_n 1, 1) := by decide +kernel
theorem dL_isOrder_302 : decode cL_isOrder 302 = .ok (.iconst 5, 1) := by decide +kernel
theorem dL_isOrder_303 : decode cL_isOrder 303 = .ok (.iload 6, 2) := by decide +kernel
theorem dL_isOrder_305 : decode cL_isOrder 305 = .ok (.imul, 1) := by decide +kernel
theorem dL_isOrder_306 : decode cL_isOrder 306 = .ok (.iconst 4, 1) := by decide +kernel
theorem dL_isOrder_307 : decode cL_isOrder 307 = .ok (.iadd, 1) := by decide +kernel
theorem dL_isOrder_308 : decode cL_isOrder 308 = .ok (.iaload, 1) := by decide +kernel
theorem dL_isOrder_309 : decode cL_isOrder 309 = .ok (.istore 8, 2) := by decide +kernel
theorem dL_isOrder_311 : decode cL_isOrder 311 = .ok (.iconst 0, 1) := by decide +kernel
theorem dL_isOrder_312 : decode cL_isOrder 312 = .ok (.istore 9, 2) := by decide +kernel
theorem dL_isOrder_314 : decode cL_isOrder 314 = .ok (.iload 9, 2) := by decide +kernel
theorem dL_isOrder_316 : decode cL_isOrder 316 = .ok (.aload_n 2, 1) := by decide +kernel
theorem dL_isOrder_317 : decode cL_isOrder 317 = .ok (.iconst 0, 1) := by decide +kernel
theorem dL_isOrder_318 : decode cL_isOrder 318 = .ok (.iaload, 1) := by decide +kernel
theorem dL_isOrder_319 : decode cL_isOrder 319 = .ok (.if_icmp .ge 40, 3) := by decide +kernel
theorem dL_isOrder_322 : decode cL_isOrder 322 = .ok (.iload 8, 2) := by decide +kernel
theorem dL_isOrder_324 : decode cL_isOrder 324 = .ok (.aload_n 1, 1) := by decide +kernel
theorem dL_isOrder_325 : decode cL_isOrder 325 = .ok (.iconst 5, 1) := by decide +kernel
theorem dL_isOrder_326 : decode cL_isOrder 326 = .ok (.iload 6, 2) := by decide +kernel
theorem dL_isOrder_328 : decode cL_isOrder 328 = .ok (.imul, 1) := by decide +kernel
theorem dL_isOrder_329 : decode cL_isOrder 329 = .ok (.iconst 4, 1) := by decide +kernel
theorem dL_isOrder_330 : decode cL_isOrder 330 = .ok (.iadd, 1) := by decide +kernel
theorem dL_isOrder_331 : decode cL_isOrder 331 = .ok (.iaload, 1) := by decide +kernel
theorem dL_isOrder_332 : decode cL_isOrder 332 = .ok (.iload 9, 2) := by decide +kernel
theorem dL_isOrder_334 : decode cL_isOrder 334 = .ok (.invokestatic 31, 3) := by decide +kernel
theorem dL_isOrder_337 : decode cL_isOrder 337 = .ok (.ifCond .eq 12, 3) := by decide +kernel
theorem dL_isOrder_340 : decode cL_isOrder 340 = .ok (.aload_n 0, 1) := by decide +kernel
theorem dL_isOrder_341 : decode cL_isOrder 341 = .ok (.iload 9, 2) := by decide +kernel
theorem dL_isOrder_343 : decode cL_isOrder 343 = .ok (.invokevirtual 37, 3) := by decide +kernel
theorem dL_isOrder_346 : decode cL_isOrder 346 = .ok (.goto 4, 3) := by decide +kernel
theorem dL_isOrder_349 : decode cL_isOrder 349 = .ok (.iconst 0, 1) := by decide +kernel
theorem dL_isOrder_350 : decode cL_isOrder 350 = .ok (.ior, 1) := by decide +kernel
theorem dL_isOrder_351 : decode cL_isOrder 351 = .ok (.istore 8, 2) := by decide +kernel
theorem dL_isOrder_353 : decode cL_isOrder 353 = .ok (.iinc 9 1, 3) := by decide +kernel
theorem dL_isOrder_356 : decode cL_isOrder 356 = .ok (.goto (-42), 3) := by decide +kernel
theorem dL_isOrder_359 : decode cL_isOrder 359 = .ok (.iload 7, 2) := by decide +kernel
theorem dL_isOrder_361 : decode cL_isOrder 361 = .ok (.iload 8, 2) := by decide +kernel
theorem dL_isOrder_363 : decode cL_isOrder 363 = .ok (.if_icmp .ne 17, 3) := by decide +kernel
theorem dL_isOrder_366 : decode cL_isOrder 366 = .ok (.iload 7, 2) := by decide +kernel
theorem dL_isOrder_368 : decode cL_isOrder 368 = .ok (.iload 6, 2) := by decide +kernel
theorem dL_isOrder_370 : decode cL_isOrder 370 = .ok (.invokestatic 31, 3) := by decide +kernel
theorem dL_isOrder_373 : decode cL_isOrder 373 = .ok (.ifCond .ne 7, 3) := by decide +kernel
theorem dL_isOrder_376 : decode cL_isOrder 376 = .ok (.iconst 1, 1) := by decide +kernel
theorem dL_isOrder_377 : decode cL_isOrder 377 = .ok (.goto 4, 3) := by decide +kernel
theorem dL_isOrder_380 : decode cL_isOrder 380 = .ok (.iconst 0, 1) := by decide +kernel
theorem dL_isOrder_381 : decode cL_isOrder 381 = .ok (.istore 5, 2) := by decide +kernel
theorem dL_isOrder_383 : decode cL_isOrder 383 = .ok (.iinc 6 1, 3) := by decide +kernel
theorem dL_isOrder_386 : decode cL_isOrder 386 = .ok (.goto (-106), 3) := by decide +kernel
theorem dL_isOrder_389 : decode cL_isOrder 389 = .ok (.iload 5, 2) := by decide +kernel
theorem dL_isOrder_391 : decode cL_isOrder 391 = .ok (.ireturn, 1) := by decide +kernel
set_option maxRecDepth 20000 in
theorem ggL_asks_X2_lessonDay : GoodIn wsL_asks wsX2_lessonDay := goodIn_ca (goodIn_r _ [5, 6, 7, 8, 9, 10, 11, 12, 4, 13, 14, 15, 16, 25, 26, 27, 28, 29, 30, 31, 32, 33, 34, 35, 36, 37, 38, 39, 40, 41, 42, 43, 44, 45, 46] (by decide +kernel) (by decide +kernel)) (goodIn_sub (fun _ h => List.mem_cons_of_mem _ (List.mem_append_right _ h)) (by decide +kernel))
set_option maxRecDepth 20000 in
theorem gL_asks_X2_lessonDay : GoodIn wsL_asks (wsV RL 40 RX2 yX2_lessonDay wsX2_lessonDay) := goodIn_app (goodIn_of _ (by decide +kernel)) ggL_asks_X2_lessonDay
set_option maxRecDepth 20000 in
theorem ggL_asks_X2_revisitDay : GoodIn wsL_asks wsX2_revisitDay := goodIn_ca (goodIn_r _ [20, 6, 7, 8, 9, 10, 11, 12, 4, 13, 14, 15, 16, 25, 26, 27, 28, 29, 30, 31, 32, 33, 34, 35, 36, 37, 38, 39, 40, 41, 42, 43, 44, 45, 46] (by decide +kernel) (by decide +kernel)) (goodIn_sub (fun _ h => List.mem_cons_of_mem _ (List.mem_append_right _ h)) (by decide +kernel))
set_option maxRecDepth 20000 in
theorem gL_asks_X2_revisitDay : GoodIn wsL_asks (wsV RL 43 RX2 yX2_revisitDay wsX2_revisitDay) := goodIn_app (goodIn_of _ (by decide +kernel)) ggL_asks_X2_revisitDay
set_option maxRecDepth 20000 in
theorem ggL_asks_X2_ordered : GoodIn wsL_asks wsX2_ordered := goodIn_ca (goodIn_r _ [24, 6, 7, 8, 14, 15, 4, 16, 25, 26, 27, 28, 29, 30, 31, 32, 33, 34, 35, 36, 37] (by decide +kernel) (by decide +kernel)) (goodIn_sub (fun _ h => List.mem_cons_of_mem _ (List.mem_append_right _ h)) (by decide +kernel))
set_option maxRecDepth 20000 in
theorem gL_asks_X2_ordered : GoodIn wsL_asks (wsV RL 27 RX2 yX2_ordered wsX2_ordered) := goodIn_app (goodIn_of _ (by decide +kernel)) ggL_asks_X2_ordered
theorem dL_asks_0 : decode cL_asks 0 = .ok (.iconst 0, 1) := by decide +kernel
theorem dL_asks_1 : decode cL_asks 1 = .ok (.istore 7, 2) := by decide +kernel
theorem dL_asks_3 : decode cL_asks 3 = .ok (.iload 7, 2) := by decide +kernel
theorem dL_asks_5 : decode cL_asks 5 = .ok (.bipush 60, 2) := by decide +kernel
theorem dL_asks_7 : decode cL_asks 7 = .ok (.if_icmp .ge 55, 3) := by decide +kernel
theorem dL_asks_10 : decode cL_asks 10 = .ok (.aload 4, 2) := by decide +kernel
theorem dL_asks_12 : decode cL_asks 12 = .ok (.iload 7, 2) := by decide +kernel
theorem dL_asks_14 : decode cL_asks 14 = .ok (.iload 7, 2) := by decide +kernel
theorem dL_asks_16 : decode cL_asks 16 = .ok (.iconst 5, 1) := by decide +kernel
theorem dL_asks_17 : decode cL_asks 17 = .ok (.idiv, 1) := by decide +kernel
theorem dL_asks_18 : decode cL_asks 18 = .ok (.aload_n 3, 1) := by decide +kernel
theorem dL_asks_19 : decode cL_asks 19 = .ok (.iconst 0, 1) := by decide +kernel
theorem dL_asks_20 : decode cL_asks 20 = .ok (.iaload, 1) := by decide +kernel
theorem dL_asks_21 : decode cL_asks 21 = .ok (.if_icmp .ge 33, 3) := by decide +kernel
theorem dL_asks_24 : decode cL_asks 24 = .ok (.iload 7, 2) := by decide +kernel
theorem dL_asks_26 : decode cL_asks 26 = .ok (.iconst 5, 1) := by decide +kernel
theorem dL_asks_27 : decode cL_asks 27 = .ok (.irem, 1) := by decide +kernel
theorem dL_asks_28 : decode cL_asks 28 = .ok (.aload_n 1, 1) := by decide +kernel
theorem dL_asks_29 : decode cL_asks 29 = .ok (.iconst 5, 1) := by decide +kernel
theorem dL_asks_30 : decode cL_asks 30 = .ok (.iload 7, 2) := by decide +kernel
theorem dL_asks_32 : decode cL_asks 32 = .ok (.iconst 5, 1) := by decide +kernel
theorem dL_asks_33 : decode cL_asks 33 = .ok (.idiv, 1) := by decide +kernel
theorem dL_asks_34 : decode cL_asks 34 = .ok (.imul, 1) := by decide +kernel
theorem dL_asks_35 : decode cL_asks 35 = .ok (.iaload, 1) := by decide +kernel
theorem dL_asks_36 : decode cL_asks 36 = .ok (.if_icmp .ge 18, 3) := by decide +kernel
theorem dL_asks_39 : decode cL_asks 39 = .ok (.aload_n 0, 1) := by decide +kernel
theorem dL_asks_40 : decode cL_asks 40 = .ok (.iload 7, 2) := by decide +kernel
theorem dL_asks_42 : decode cL_asks 42 = .ok (.iconst 5, 1) := by decide +kernel
theorem dL_asks_43 : decode cL_asks 43 = .ok (.idiv, 1) := by decide +kernel
theorem dL_asks_44 : decode cL_asks 44 = .ok (.iload 7, 2) := by decide +kernel
theorem dL_asks_46 : decode cL_asks 46 = .ok (.iconst 5, 1) := by decide +kernel
theorem dL_asks_47 : decode cL_asks 47 = .ok (.irem, 1) := by decide +kernel
theorem dL_asks_48 : decode cL_asks 48 = .ok (.invokevirtual 40, 3) := by decide +kernel
theorem dL_asks_51 : decode cL_asks 51 = .ok (.goto 4, 3) := by decide +kernel
theorem dL_asks_54 : decode cL_asks 54 = .ok (.iconst (-1), 1) := by decide +kernel
theorem dL_asks_55 : decode cL_asks 55 = .ok (.iastore, 1) := by decide +kernel
theorem dL_asks_56 : decode cL_asks 56 = .ok (.iinc 7 1, 3) := by decide +kernel
theorem dL_asks_59 : decode cL_asks 59 = .ok (.goto (-56), 3) := by decide +kernel
theorem dL_asks_62 : decode cL_asks 62 = .ok (.iconst 0, 1) := by decide +kernel
theorem dL_asks_63 : decode cL_asks 63 = .ok (.istore 7, 2) := by decide +kernel
theorem dL_asks_65 : decode cL_asks 65 = .ok (.iload 7, 2) := by decide +kernel
theorem dL_asks_67 : decode cL_asks 67 = .ok (.bipush 36, 2) := by decide +kernel
theorem dL_asks_69 : decode cL_asks 69 = .ok (.if_icmp .ge 55, 3) := by decide +kernel
theorem dL_asks_72 : decode cL_asks 72 = .ok (.aload 5, 2) := by decide +kernel
theorem dL_asks_74 : decode cL_asks 74 = .ok (.iload 7, 2) := by decide +kernel
theorem dL_asks_76 : decode cL_asks 76 = .ok (.iload 7, 2) := by decide +kernel
theorem dL_asks_78 : decode cL_asks 78 = .ok (.iconst 3, 1) := by decide +kernel
theorem dL_asks_79 : decode cL_asks 79 = .ok (.idiv, 1) := by decide +kernel
theorem dL_asks_80 : decode cL_asks 80 = .ok (.aload_n 3, 1) := by decide +kernel
theorem dL_asks_81 : decode cL_asks 81 = .ok (.iconst 0, 1) := by decide +kernel
theorem dL_asks_82 : decode cL_asks 82 = .ok (.iaload, 1) := by decide +kernel
theorem dL_asks_83 : decode cL_asks 83 = .ok (.if_icmp .ge 33, 3) := by decide +kernel
theorem dL_asks_86 : decode cL_asks 86 = .ok (.iload 7, 2) := by decide +kernel
theorem dL_asks_88 : decode cL_asks 88 = .ok (.iconst 3, 1) := by decide +kernel
theorem dL_asks_89 : decode cL_asks 89 = .ok (.irem, 1) := by decide +kernel
theorem dL_asks_90 : decode cL_asks 90 = .ok (.aload_n 2, 1) := by decide +kernel
theorem dL_asks_91 : decode cL_asks 91 = .ok (.iconst 2, 1) := by decide +kernel
theorem dL_asks_92 : decode cL_asks 92 = .ok (.iload 7, 2) := by decide +kernel
theorem dL_asks_94 : decode cL_asks 94 = .ok (.iconst 3, 1) := by decide +kernel
theorem dL_asks_95 : decode cL_asks 95 = .ok (.idiv, 1) := by decide +kernel
theorem dL_asks_96 : decode cL_asks 96 = .ok (.imul, 1) := by decide +kernel
theorem dL_asks_97 : decode cL_asks 97 = .ok (.iaload, 1) := by decide +kernel
theorem dL_asks_98 : decode cL_asks 98 = .ok (.if_icmp .ge 18, 3) := by decide +kernel
theorem dL_asks_101 : decode cL_asks 101 = .ok (.aload_n 0, 1) := by decide +kernel
theorem dL_asks_102 : decode cL_asks 102 = .ok (.iload 7, 2) := by decide +kernel
theorem dL_asks_104 : decode cL_asks 104 = .ok (.iconst 3, 1) := by decide +kernel
theorem dL_asks_105 : decode cL_asks 105 = .ok (.idiv, 1) := by decide +kernel
theorem dL_asks_106 : decode cL_asks 106 = .ok (.iload 7, 2) := by decide +kernel
theorem dL_asks_108 : decode cL_asks 108 = .ok (.iconst 3, 1) := by decide +kernel
theorem dL_asks_109 : decode cL_asks 109 = .ok (.irem, 1) := by decide +kernel
theorem dL_asks_110 : decode cL_asks 110 = .ok (.invokevirtual 43, 3) := by decide +kernel
theorem dL_asks_113 : decode cL_asks 113 = .ok (.goto 4, 3) := by decide +kernel
theorem dL_asks_116 : decode cL_asks 116 = .ok (.iconst (-1), 1) := by decide +kernel
theorem dL_asks_117 : decode cL_asks 117 = .ok (.iastore, 1) := by decide +kernel
theorem dL_asks_118 : decode cL_asks 118 = .ok (.iinc 7 1, 3) := by decide +kernel
theorem dL_asks_121 : decode cL_asks 121 = .ok (.goto (-56), 3) := by decide +kernel
theorem dL_asks_124 : decode cL_asks 124 = .ok (.iconst 0, 1) := by decide +kernel
theorem dL_asks_125 : decode cL_asks 125 = .ok (.istore 7, 2) := by decide +kernel
theorem dL_asks_127 : decode cL_asks 127 = .ok (.iload 7, 2) := by decide +kernel
theorem dL_asks_129 : decode cL_asks 129 = .ok (.aload_n 3, 1) := by decide +kernel
theorem dL_asks_130 : decode cL_asks 130 = .ok (.iconst 0, 1) := by decide +kernel
theorem dL_asks_131 : decode cL_asks 131 = .ok (.iaload, 1) := by decide +kernel
theorem dL_asks_132 : decode cL_asks 132 = .ok (.if_icmp .ge 20, 3) := by decide +kernel
theorem dL_asks_135 : decode cL_asks 135 = .ok (.aload 6, 2) := by decide +kernel
theorem dL_asks_137 : decode cL_asks 137 = .ok (.iload 7, 2) := by decide +kernel
theorem dL_asks_139 : decode cL_asks 139 = .ok (.aload_n 0, 1) := by decide +kernel
theorem dL_asks_140 : decode cL_asks 140 = .ok (.iload 7, 2) := by decide +kernel
theorem dL_asks_142 : decode cL_asks 142 = .ok (.invokevirtual 27, 3) := by decide +kernel
theorem dL_asks_145 : decode cL_asks 145 = .ok (.iastore, 1) := by decide +kernel
theorem dL_asks_146 : decode cL_asks 146 = .ok (.iinc 7 1, 3) := by decide +kernel
theorem dL_asks_149 : decode cL_asks 149 = .ok (.goto (-22), 3) := by decide +kernel
theorem dL_asks_152 : decode cL_asks 152 = .ok (.return_, 1) := by decide +kernel
theorem dL_thing_0 : decode cL_thing 0 = .ok (.iconst (-1), 1) := by decide +kernel
theorem dL_thing_1 : decode cL_thing 1 = .ok (.istore_n 3, 1) := by decide +kernel
theorem dL_thing_2 : decode cL_thing 2 = .ok (.iconst 0, 1) := by decide +kernel
theorem dL_thing_3 : decode cL_thing 3 = .ok (.istore 4, 2) := by decide +kernel
theorem dL_thing_5 : decode cL_thing 5 = .ok (.iload 4, 2) := by decide +kernel
theorem dL_thing_7 : decode cL_thing 7 = .ok (.bipush 96, 2) := by decide +kernel
theorem dL_thing_9 : decode cL_thing 9 = .ok (.if_icmp .ge 85, 3) := by decide +kernel
theorem dL_thing_12 : decode cL_thing 12 = .ok (.iload 4, 2) := by decide +kernel
theorem dL_thing_14 : decode cL_thing 14 = .ok (.bipush 60, 2) := by decide +kernel
theorem dL_thing_16 : decode cL_thing 16 = .ok (.if_icmp .ge 10, 3) := by decide +kernel
theorem dL_thing_19 : decode cL_thing 19 = .ok (.aload_n 0, 1) := by decide +kernel
theorem dL_thing_20 : decode cL_thing 20 = .ok (.iload 4, 2) := by decide +kernel
theorem dL_thing_22 : decode cL_thing 22 = .ok (.iaload, 1) := by decide +kernel
theorem dL_thing_23 : decode cL_thing 23 = .ok (.goto 10, 3) := by decide +kernel
theorem dL_thing_26 : decode cL_thing 26 = .ok (.aload_n 1, 1) := by decide +kernel
theorem dL_thing_27 : decode cL_thing 27 = .ok (.iload 4, 2) := by decide +kernel
theorem dL_thing_29 : decode cL_thing 29 = .ok (.bipush 60, 2) := by decide +kernel
theorem dL_thing_31 : decode cL_thing 31 = .ok (.isub, 1) := by decide +kernel
theorem dL_thing_32 : decode cL_thing 32 = .ok (.iaload, 1) := by decide +kernel
theorem dL_thing_33 : decode cL_thing 33 = .ok (.iload_n 2, 1) := by decide +kernel
theorem dL_thing_34 : decode cL_thing 34 = .ok (.if_icmp .ne 7, 3) := by decide +kernel
theorem dL_thing_37 : decode cL_thing 37 = .ok (.iconst 1, 1) := by decide +kernel
theorem dL_thing_38 : decode cL_thing 38 = .ok (.goto 4, 3) := by decide +kernel
theorem dL_thing_41 : decode cL_thing 41 = .ok (.iconst 0, 1) := by decide +kernel
theorem dL_thing_42 : decode cL_thing 42 = .ok (.istore 5, 2) := by decide +kernel
theorem dL_thing_44 : decode cL_thing 44 = .ok (.iload 5, 2) := by decide +kernel
theorem dL_thing_46 : decode cL_thing 46 = .ok (.ifCond .ne 7, 3) := by decide +kernel
theorem dL_thing_49 : decode cL_thing 49 = .ok (.iload_n 3, 1) := by decide +kernel
theorem dL_thing_50 : decode cL_thing 50 = .ok (.goto 37, 3) := by decide +kernel
theorem dL_thing_53 : decode cL_thing 53 = .ok (.iload_n 3, 1) := by decide +kernel
theorem dL_thing_54 : decode cL_thing 54 = .ok (.iconst (-1), 1) := by decide +kernel
theorem dL_thing_55 : decode cL_thing 55 = .ok (.if_icmp .eq 8, 3) := by decide +kernel
theorem dL_thing_58 : decode cL_thing 58 = .ok (.bipush (-2), 2) := by decide +kernel
theorem dL_thing_60 : decode cL_thing 60 = .ok (.goto 27, 3) := by decide +kernel
theorem dL_thing_63 : decode cL_thing 63 = .ok (.iload 4, 2) := by decide +kernel
theorem dL_thing_65 : decode cL_thing 65 = .ok (.bipush 60, 2) := by decide +kernel
theorem dL_thing_67 : decode cL_thing 67 = .ok (.if_icmp .ge 10, 3) := by decide +kernel
theorem dL_thing_70 : decode cL_thing 70 = .ok (.iload 4, 2) := by decide +kernel
theorem dL_thing_72 : decode cL_thing 72 = .ok (.iconst 5, 1) := by decide +kernel
theorem dL_thing_73 : decode cL_thing 73 = .ok (.idiv, 1) := by decide +kernel
theorem dL_thing_74 : decode cL_thing 74 = .ok (.goto 13, 3) := by decide +kernel
theorem dL_thing_77 : decode cL_thing 77 = .ok (.bipush 100, 2) := by decide +kernel
theorem dL_thing_79 : decode cL_thing 79 = .ok (.iload 4, 2) := by decide +kernel
theorem dL_thing_81 : decode cL_thing 81 = .ok (.bipush 60, 2) := by decide +kernel
theorem dL_thing_83 : decode cL_thing 83 = .ok (.isub, 1) := by decide +kernel
theorem dL_thing_84 : decode cL_thing 84 = .ok (.iconst 3, 1) := by decide +kernel
theorem dL_thing_85 : decode cL_thing 85 = .ok (.idiv, 1) := by decide +kernel
theorem dL_thing_86 : decode cL_thing 86 = .ok (.iadd, 1) := by decide +kernel
theorem dL_thing_87 : decode cL_thing 87 = .ok (.istore_n 3, 1) := by decide +kernel
theorem dL_thing_88 : decode cL_thing 88 = .ok (.iinc 4 1, 3) := by decide +kernel
theorem dL_thing_91 : decode cL_thing 91 = .ok (.goto (-86), 3) := by decide +kernel
theorem dL_thing_94 : decode cL_thing 94 = .ok (.iload_n 3, 1) := by decide +kernel
theorem dL_thing_95 : decode cL_thing 95 = .ok (.ireturn, 1) := by decide +kernel
set_option maxRecDepth 20000 in
theorem ggL_isPlan_L_asks : GoodIn wsL_isPlan wsL_asks := goodIn_ca (goodIn_r _ [5, 6, 7, 8, 9, 10, 11, 12, 13, 14, 15, 16, 17, 18, 19, 20, 21, 22, 23, 24, 25, 26, 27, 28, 29, 57, 58, 59, 60, 61, 62, 63, 64, 65, 66, 67, 68, 69, 70, 71, 72, 73, 74, 75, 76, 77, 78] (by decide +kernel) (by decide +kernel)) (goodIn_sub (fun _ h => List.mem_cons_of_mem _ (List.mem_append_left _ (List.mem_append_right _ h))) (by decide +kernel))
set_option maxRecDepth 20000 in
theorem gL_isPlan_L_asks : GoodIn wsL_isPlan (va_wsS RL 46 yL_asks wsL_asks) := goodIn_app (goodIn_of _ (by decide +kernel)) ggL_isPlan_L_asks
set_option maxRecDepth 20000 in
theorem ggL_isPlan_L_thing : GoodIn wsL_isPlan wsL_thing := goodIn_r _ [32] (by decide +kernel) (by decide +kernel)
set_option maxRecDepth 20000 in
theorem gL_isPlan_L_thing : GoodIn wsL_isPlan (va_wsS RL 50 yL_thing wsL_thing) := goodIn_app (goodIn_of _ (by decide +kernel)) ggL_isPlan_L_thing
set_option maxRecDepth 20000 in
theorem ggL_isPlan_X2_on : GoodIn wsL_isPlan wsX2_on := goodIn_ca (goodIn_r _ [36, 11, 12, 14, 37, 38, 9, 39, 19, 20, 21, 57, 58, 59, 60, 70, 71, 72, 73, 74, 75, 76, 77, 78] (by decide +kernel) (by decide +kernel)) (goodIn_sub (fun _ h => List.mem_cons_of_mem _ (List.mem_append_left _ (List.mem_append_right _ h))) (by decide +kernel))
set_option maxRecDepth 20000 in
theorem gL_isPlan_X2_on : GoodIn wsL_isPlan (wsV RL 54 RX2 yX2_on wsX2_on) := goodIn_app (goodIn_of _ (by decide +kernel)) ggL_isPlan_X2_on
set_option maxRecDepth 20000 in
theorem ggL_isPlan_L_isLost : GoodIn wsL_isPlan wsL_isLost := goodIn_r _ [42] (by decide +kernel) (by decide +kernel)
set_option maxRecDepth 20000 in
theorem gL_isPlan_L_isLost : GoodIn wsL_isPlan (va_wsS RL 57 yL_isLost wsL_isLost) := goodIn_app (goodIn_of _ (by decide +kernel)) ggL_isPlan_L_isLost
set_option maxRecDepth 20000 in
theorem ggL_isPlan_L_isBusy : GoodIn wsL_isPlan wsL_isBusy := goodIn_hd (List.mem_cons_of_mem _ (List.mem_append_right _ (List.Mem.head _))) (by decide +kernel) (goodIn_r _ [30, 31, 4, 32] (by decide +kernel) (by decide +kernel))
set_option maxRecDepth 20000 in
theorem gL_isPlan_L_isBusy : GoodIn wsL_isPlan (va_wsS RL 61 yL_isBusy wsL_isBusy) := goodIn_app (goodIn_of _ (by decide +kernel)) ggL_isPlan_L_isBusy
set_option maxRecDepth 20000 in
theorem ggL_isPlan_X2_laid : GoodIn wsL_isPlan wsX2_laid := goodIn_r _ [48, 14, 57, 58, 59, 60, 70, 71, 72, 73, 74, 75, 76, 77, 78] (by decide +kernel) (by decide +kernel)
set_option maxRecDepth 20000 in
theorem gL_isPlan_X2_laid : GoodIn wsL_isPlan (wsV RL 65 RX2 yX2_laid wsX2_laid) := goodIn_app (goodIn_of _ (by decide +kernel)) ggL_isPlan_X2_laid
set_option maxRecDepth 20000 in
theorem ggL_isPlan_X2_late : GoodIn wsL_isPlan wsX2_late := goodIn_r _ [52, 14, 57, 58, 59, 60, 70, 71, 72, 73, 74, 75, 76, 77, 78] (by decide +kernel) (by decide +kernel)
set_option maxRecDepth 20000 in
theorem gL_isPlan_X2_late : GoodIn wsL_isPlan (wsV RL 68 RX2 yX2_late wsX2_late) := goodIn_app (goodIn_of _ (by decide +kernel)) ggL_isPlan_X2_late
set_option maxRecDepth 20000 in
theorem ggL_isPlan_X2_lastDay : GoodIn wsL_isPlan wsX2_lastDay := goodIn_r _ [56, 14, 57, 58, 59, 60, 70, 71, 72, 73, 74, 75, 76, 77, 78] (by decide +kernel) (by decide +kernel)
set_option maxRecDepth 20000 in
theorem gL_isPlan_X2_lastDay : GoodIn wsL_isPlan (wsV RL 71 RX2 yX2_lastDay wsX2_lastDay) := goodIn_app (goodIn_of _ (by decide +kernel)) ggL_isPlan_X2_lastDay
theorem dL_isPlan_0 : decode cL_isPlan 0 = .ok (.bipush 60, 2) := by decide +kernel
theorem dL_isPlan_2 : decode cL_isPlan 2 = .ok (.newarray .int, 2) := by decide +kernel
theorem dL_isPlan_4 : decode cL_isPlan 4 = .ok (.astore 5, 2) := by decide +kernel
theorem dL_isPlan_6 : decode cL_isPlan 6 = .ok (.bipush 36, 2) := by decide +kernel
theorem dL_isPlan_8 : decode cL_isPlan 8 = .ok (.newarray .int, 2) := by decide +kernel
theorem dL_isPlan_10 : decode cL_isPlan 10 = .ok (.astore 6, 2) := by decide +kernel
theorem dL_isPlan_12 : decode cL_isPlan 12 = .ok (.bipush 12, 2) := by decide +kernel
theorem dL_isPlan_14 : decode cL_isPlan 14 = .ok (.newarray .int, 2) := by decide +kernel
theorem dL_isPlan_16 : decode cL_isPlan 16 = .ok (.astore 7, 2) := by decide +kernel
theorem dL_isPlan_18 : decode cL_isPlan 18 = .ok (.aload_n 0, 1) := by decide +kernel
theorem dL_isPlan_19 : decode cL_isPlan 19 = .ok (.aload_n 1, 1) := by decide +kernel
theorem dL_isPlan_20 : decode cL_isPlan 20 = .ok (.aload_n 2, 1) := by decide +kernel
theorem dL_isPlan_21 : decode cL_isPlan 21 = .ok (.aload_n 3, 1) := by decide +kernel
theorem dL_isPlan_22 : decode cL_isPlan 22 = .ok (.aload 5, 2) := by decide +kernel
theorem dL_isPlan_24 : decode cL_isPlan 24 = .ok (.aload 6, 2) := by decide +kernel
theorem dL_isPlan_26 : decode cL_isPlan 26 = .ok (.aload 7, 2) := by decide +kernel
theorem dL_isPlan_28 : decode cL_isPlan 28 = .ok (.invokestatic 46, 3) := by decide +kernel
theorem dL_isPlan_31 : decode cL_isPlan 31 = .ok (.iconst 0, 1) := by decide +kernel
theorem dL_isPlan_32 : decode cL_isPlan 32 = .ok (.istore 8, 2) := by decide +kernel
theorem dL_isPlan_34 : decode cL_isPlan 34 = .ok (.iconst 0, 1) := by decide +kernel
theorem dL_isPlan_35 : decode cL_isPlan 35 = .ok (.istore 9, 2) := by decide +kernel
theorem dL_isPlan_37 : decode cL_isPlan 37 = .ok (.iconst (-1), 1) := by decide +kernel
theorem dL_isPlan_38 : decode cL_isPlan 38 = .ok (.istore 10, 2) := by decide +kernel
theorem dL_isPlan_40 : decode cL_isPlan 40 = .ok (.iconst 0, 1) := by decide +kernel
theorem dL_isPlan_41 : decode cL_isPlan 41 = .ok (.istore 11, 2) := by decide +kernel
theorem dL_isPlan_43 : decode cL_isPlan 43 = .ok (.iload 11, 2) := by decide +kernel
theorem dL_isPlan_45 : decode cL_isPlan 45 = .ok (.bipush 100, 2) := by decide +kernel
theorem dL_isPlan_47 : decode cL_isPlan 47 = .ok (.if_icmp .ge 106, 3) := by decide +kernel
theorem dL_isPlan_50 : decode cL_isPlan 50 = .ok (.aload 5, 2) := by decide +kernel
theorem dL_isPlan_52 : decode cL_isPlan 52 = .ok (.aload 6, 2) := by decide +kernel
theorem dL_isPlan_54 : decode cL_isPlan 54 = .ok (.iload 11, 2) := by decide +kernel
theorem dL_isPlan_56 : decode cL_isPlan 56 = .ok (.invokestatic 50, 3) := by decide +kernel
theorem dL_isPlan_59 : decode cL_isPlan 59 = .ok (.istore 12, 2) := by decide +kernel
theorem dL_isPlan_61 : decode cL_isPlan 61 = .ok (.iload 8, 2) := by decide +kernel
theorem dL_isPlan_63 : decode cL_isPlan 63 = .ok (.iload 12, 2) := by decide +kernel
theorem dL_isPlan_65 : decode cL_isPlan 65 = .ok (.ifCond .ge 7, 3) := by decide +kernel
theorem dL_isPlan_68 : decode cL_isPlan 68 = .ok (.iconst 0, 1) := by decide +kernel
theorem dL_isPlan_69 : decode cL_isPlan 69 = .ok (.goto 4, 3) := by decide +kernel
theorem dL_isPlan_72 : decode cL_isPlan 72 = .ok (.iconst 1, 1) := by decide +kernel
theorem dL_isPlan_73 : decode cL_isPlan 73 = .ok (.iadd, 1) := by decide +kernel
theorem dL_isPlan_74 : decode cL_isPlan 74 = .ok (.istore 8, 2) := by decide +kernel
theorem dL_isPlan_76 : decode cL_isPlan 76 = .ok (.iload 12, 2) := by decide +kernel
theorem dL_isPlan_78 : decode cL_isPlan 78 = .ok (.ifCond .ge 8, 3) := by decide +kernel
theorem dL_isPlan_81 : decode cL_isPlan 81 = .ok (.iload 10, 2) := by decide +kernel
theorem dL_isPlan_83 : decode cL_isPlan 83 = .ok (.goto 5, 3) := by decide +kernel
theorem dL_isPlan_86 : decode cL_isPlan 86 = .ok (.iload 11, 2) := by decide +kernel
theorem dL_isPlan_88 : decode cL_isPlan 88 = .ok (.istore 10, 2) := by decide +kernel
theorem dL_isPlan_90 : decode cL_isPlan 90 = .ok (.aload_n 0, 1) := by decide +kernel
theorem dL_isPlan_91 : decode cL_isPlan 91 = .ok (.iload 11, 2) := by decide +kernel
theorem dL_isPlan_93 : decode cL_isPlan 93 = .ok (.invokevirtual 54, 3) := by decide +kernel
theorem dL_isPlan_96 : decode cL_isPlan 96 = .ok (.iload 12, 2) := by decide +kernel
theorem dL_isPlan_98 : decode cL_isPlan 98 = .ok (.if_icmp .ne 47, 3) := by decide +kernel
theorem dL_isPlan_101 : decode cL_isPlan 101 = .ok (.iload 12, 2) := by decide +kernel
theorem dL_isPlan_103 : decode cL_isPlan 103 = .ok (.ifCond .lt 13, 3) := by decide +kernel
theorem dL_isPlan_106 : decode cL_isPlan 106 = .ok (.aload 4, 2) := by decide +kernel
theorem dL_isPlan_108 : decode cL_isPlan 108 = .ok (.iload 11, 2) := by decide +kernel
theorem dL_isPlan_110 : decode cL_isPlan 110 = .ok (.invokestatic 57, 3) := by decide +kernel
theorem dL_isPlan_113 : decode cL_isPlan 113 = .ok (.ifCond .ne 32, 3) := by decide +kernel
theorem dL_isPlan_116 : decode cL_isPlan 116 = .ok (.aload 4, 2) := by decide +kernel
theorem dL_isPlan_118 : decode cL_isPlan 118 = .ok (.iload 11, 2) := by decide +kernel
theorem dL_isPlan_120 : decode cL_isPlan 120 = .ok (.invokestatic 57, 3) := by decide +kernel
theorem dL_isPlan_123 : decode cL_isPlan 123 = .ok (.ifCond .ne 24, 3) := by decide +kernel
theorem dL_isPlan_126 : decode cL_isPlan 126 = .ok (.aload_n 1, 1) := by decide +kernel
theorem dL_isPlan_127 : decode cL_isPlan 127 = .ok (.aload_n 2, 1) := by decide +kernel
theorem dL_isPlan_128 : decode cL_isPlan 128 = .ok (.aload_n 3, 1) := by decide +kernel
theorem dL_isPlan_129 : decode cL_isPlan 129 = .ok (.aload 5, 2) := by decide +kernel
theorem dL_isPlan_131 : decode cL_isPlan 131 = .ok (.aload 6, 2) := by decide +kernel
theorem dL_isPlan_133 : decode cL_isPlan 133 = .ok (.aload 7, 2) := by decide +kernel
theorem dL_isPlan_135 : decode cL_isPlan 135 = .ok (.iload 11, 2) := by decide +kernel
theorem dL_isPlan_137 : decode cL_isPlan 137 = .ok (.iload 12, 2) := by decide +kernel
theorem dL_isPlan_139 : decode cL_isPlan 139 = .ok (.invokestatic 61, 3) := by decide +kernel
theorem dL_isPlan_142 : decode cL_isPlan 142 = .ok (.ifCond .ne 5, 3) := by decide +kernel
theorem dL_isPlan_145 : decode cL_isPlan 145 = .ok (.iconst 0, 1) := by decide +kernel
theorem dL_isPlan_146 : decode cL_isPlan 146 = .ok (.ireturn, 1) := by decide +kernel
theorem dL_isPlan_147 : decode cL_isPlan 147 = .ok (.iinc 11 1, 3) := by decide +kernel
theorem dL_isPlan_150 : decode cL_isPlan 150 = .ok (.goto (-107), 3) := by decide +kernel
theorem dL_isPlan_153 : decode cL_isPlan 153 = .ok (.iconst (-1), 1) := by decide +kernel
theorem dL_isPlan_154 : decode cL_isPlan 154 = .ok (.istore 11, 2) := by decide +kernel
theorem dL_isPlan_156 : decode cL_isPlan 156 = .ok (.iconst 0, 1) := by decide +kernel
theorem dL_isPlan_157 : decode cL_isPlan 157 = .ok (.istore 12, 2) := by decide +kernel
theorem dL_isPlan_159 : decode cL_isPlan 159 = .ok (.iconst 0, 1) := by decide +kernel
theorem dL_isPlan_160 : decode cL_isPlan 160 = .ok (.istore 13, 2) := by decide +kernel
theorem dL_isPlan_162 : decode cL_isPlan 162 = .ok (.iload 13, 2) := by decide +kernel
theorem dL_isPlan_164 : decode cL_isPlan 164 = .ok (.aload_n 3, 1) := by decide +kernel
theorem dL_isPlan_165 : decode cL_isPlan 165 = .ok (.iconst 0, 1) := by decide +kernel
theorem dL_isPlan_166 : decode cL_isPlan 166 = .ok (.iaload, 1) := by decide +kernel
theorem dL_isPlan_167 : decode cL_isPlan 167 = .ok (.if_icmp .ge 97, 3) := by decide +kernel
theorem dL_isPlan_170 : decode cL_isPlan 170 = .ok (.iconst 0, 1) := by decide +kernel
theorem dL_isPlan_171 : decode cL_isPlan 171 = .ok (.istore 14, 2) := by decide +kernel
theorem dL_isPlan_173 : decode cL_isPlan 173 = .ok (.iload 14, 2) := by decide +kernel
theorem dL_isPlan_175 : decode cL_isPlan 175 = .ok (.aload_n 1, 1) := by decide +kernel
theorem dL_isPlan_176 : decode cL_isPlan 176 = .ok (.iconst 5, 1) := by decide +kernel
theorem dL_isPlan_177 : decode cL_isPlan 177 = .ok (.aload 7, 2) := by decide +kernel
theorem dL_isPlan_179 : decode cL_isPlan 179 = .ok (.iload 13, 2) := by decide +kernel
theorem dL_isPlan_181 : decode cL_isPlan 181 = .ok (.iaload, 1) := by decide +kernel
theorem dL_isPlan_182 : decode cL_isPlan 182 = .ok (.imul, 1) := by decide +kernel
theorem dL_isPlan_183 : decode cL_isPlan 183 = .ok (.iaload, 1) := by decide +kernel
theorem dL_isPlan_184 : decode cL_isPlan 184 = .ok (.if_icmp .ge 74, 3) := by decide +kernel
theorem dL_isPlan_187 : decode cL_isPlan 187 = .ok (.aload 5, 2) := by decide +kernel
theorem dL_isPlan_189 : decode cL_isPlan 189 = .ok (.iconst 5, 1) := by decide +kernel
theorem dL_isPlan_190 : decode cL_isPlan 190 = .ok (.aload 7, 2) := by decide +kernel
theorem dL_isPlan_192 : decode cL_isPlan 192 = .ok (.iload 13, 2) := by decide +kernel
theorem dL_isPlan_194 : decode cL_isPlan 194 = .ok (.iaload, 1) := by decide +kernel
theorem dL_isPlan_195 : decode cL_isPlan 195 = .ok (.imul, 1) := by decide +kernel
theorem dL_isPlan_196 : decode cL_isPlan 196 = .ok (.iload 14, 2) := by decide +kernel
theorem dL_isPlan_198 : decode cL_isPlan 198 = .ok (.iadd, 1) := by decide +kernel
theorem dL_isPlan_199 : decode cL_isPlan 199 = .ok (.iaload, 1) := by decide +kernel
theorem dL_isPlan_200 : decode cL_isPlan 200 = .ok (.istore 15, 2) := by decide +kernel
theorem dL_isPlan_202 : decode cL_isPlan 202 = .ok (.iload 15, 2) := by decide +kernel
theorem dL_isPlan_204 : decode cL_isPlan 204 = .ok (.ifCond .lt 17, 3) := by decide +kernel
theorem dL_isPlan_207 : decode cL_isPlan 207 = .ok (.iload 12, 2) := by decide +kernel
theorem dL_isPlan_209 : decode cL_isPlan 209 = .ok (.ifCond .ne 10, 3) := by decide +kernel
theorem dL_isPlan_212 : decode cL_isPlan 212 = .ok (.iload 15, 2) := by decide +kernel
theorem dL_isPlan_214 : decode cL_isPlan 214 = .ok (.iload 11, 2) := by decide +kernel
theorem dL_isPlan_216 : decode cL_isPlan 216 = .ok (.if_icmp .gt 5, 3) := by decide +kernel
theorem dL_isPlan_219 : decode cL_isPlan 219 = .ok (.iconst 0, 1) := by decide +kernel
theorem dL_isPlan_220 : decode cL_isPlan 220 = .ok (.ireturn, 1) := by decide +kernel
theorem dL_isPlan_221 : decode cL_isPlan 221 = .ok (.iload 12, 2) := by decide +kernel
theorem dL_isPlan_223 : decode cL_isPlan 223 = .ok (.ifCond .ne 8, 3) := by decide +kernel
theorem dL_isPlan_226 : decode cL_isPlan 226 = .ok (.iload 15, 2) := by decide +kernel
theorem dL_isPlan_228 : decode cL_isPlan 228 = .ok (.ifCond .ge 7, 3) := by decide +kernel
theorem dL_isPlan_231 : decode cL_isPlan 231 = .ok (.iconst 1, 1) := by decide +kernel
theorem dL_isPlan_232 : decode cL_isPlan 232 = .ok (.goto 4, 3) := by decide +kernel
theorem dL_isPlan_235 : decode cL_isPlan 235 = .ok (.iconst 0, 1) := by decide +kernel
theorem dL_isPlan_236 : decode cL_isPlan 236 = .ok (.istore 12, 2) := by decide +kernel
theorem dL_isPlan_238 : decode cL_isPlan 238 = .ok (.iload 15, 2) := by decide +kernel
theorem dL_isPlan_240 : decode cL_isPlan 240 = .ok (.ifCond .ge 8, 3) := by decide +kernel
theorem dL_isPlan_243 : decode cL_isPlan 243 = .ok (.iload 11, 2) := by decide +kernel
theorem dL_isPlan_245 : decode cL_isPlan 245 = .ok (.goto 5, 3) := by decide +kernel
theorem dL_isPlan_248 : decode cL_isPlan 248 = .ok (.iload 15, 2) := by decide +kernel
theorem dL_isPlan_250 : decode cL_isPlan 250 = .ok (.istore 11, 2) := by decide +kernel
theorem dL_isPlan_252 : decode cL_isPlan 252 = .ok (.iinc 14 1, 3) := by decide +kernel
theorem dL_isPlan_255 : decode cL_isPlan 255 = .ok (.goto (-82), 3) := by decide +kernel
theorem dL_isPlan_258 : decode cL_isPlan 258 = .ok (.iinc 13 1, 3) := by decide +kernel
theorem dL_isPlan_261 : decode cL_isPlan 261 = .ok (.goto (-99), 3) := by decide +kernel
theorem dL_isPlan_264 : decode cL_isPlan 264 = .ok (.iconst 0, 1) := by decide +kernel
theorem dL_isPlan_265 : decode cL_isPlan 265 = .ok (.istore 13, 2) := by decide +kernel
theorem dL_isPlan_267 : decode cL_isPlan 267 = .ok (.iload 13, 2) := by decide +kernel
theorem dL_isPlan_269 : decode cL_isPlan 269 = .ok (.aload_n 3, 1) := by decide +kernel
theorem dL_isPlan_270 : decode cL_isPlan 270 = .ok (.iconst 0, 1) := by decide +kernel
theorem dL_isPlan_271 : decode cL_isPlan 271 = .ok (.iaload, 1) := by decide +kernel
theorem dL_isPlan_272 : decode cL_isPlan 272 = .ok (.if_icmp .ge 125, 3) := by decide +kernel
theorem dL_isPlan_275 : decode cL_isPlan 275 = .ok (.aload 5, 2) := by decide +kernel
theorem dL_isPlan_277 : decode cL_isPlan 277 = .ok (.iconst 5, 1) := by decide +kernel
theorem dL_isPlan_278 : decode cL_isPlan 278 = .ok (.iload 13, 2) := by decide +kernel
theorem dL_isPlan_280 : decode cL_isPlan 280 = .ok (.imul, 1) := by decide +kernel
theorem dL_isPlan_281 : decode cL_isPlan 281 = .ok (.aload_n 1, 1) := by decide +kernel
theorem dL_isPlan_282 : decode cL_isPlan 282 = .ok (.iconst 5, 1) := by decide +kernel
theorem dL_isPlan_283 : decode cL_isPlan 283 = .ok (.iload 13, 2) := by decide +kernel
theorem dL_isPlan_285 : decode cL_isPlan 285 = .ok (.imul, 1) := by decide +kernel
theorem dL_isPlan_286 : decode cL_isPlan 286 = .ok (.iaload, 1) := by decide +kernel
theorem dL_isPlan_287 : decode cL_isPlan 287 = .ok (.iadd, 1) := by decide +kernel
theorem dL_isPlan_288 : decode cL_isPlan 288 = .ok (.iconst 1, 1) := by decide +kernel
theorem dL_isPlan_289 : decode cL_isPlan 289 = .ok (.isub, 1) := by decide +kernel
theorem dL_isPlan_290 : decode cL_isPlan 290 = .ok (.iaload, 1) := by decide +kernel
theorem dL_isPlan_291 : decode cL_isPlan 291 = .ok (.istore 14, 2) := by decide +kernel
theorem dL_isPlan_293 : decode cL_isPlan 293 = .ok (.iconst 0, 1) := by decide +kernel
theorem dL_isPlan_294 : decode cL_isPlan 294 = .ok (.istore 15, 2) := by decide +kernel
theorem dL_isPlan_296 : decode cL_isPlan 296 = .ok (.iload 15, 2) := by decide +kernel
theorem dL_isPlan_298 : decode cL_isPlan 298 = .ok (.aload_n 2, 1) := by decide +kernel
theorem dL_isPlan_299 : decode cL_isPlan 299 = .ok (.iconst 2, 1) := by decide +kernel
theorem dL_isPlan_300 : decode cL_isPlan 300 = .ok (.iload 13, 2) := by decide +kernel
theorem dL_isPlan_302 : decode cL_isPlan 302 = .ok (.imul, 1) := by decide +kernel
theorem dL_isPlan_303 : decode cL_isPlan 303 = .ok (.iaload, 1) := by decide +kernel
theorem dL_isPlan_304 : decode cL_isPlan 304 = .ok (.if_icmp .ge 87, 3) := by decide +kernel
theorem dL_isPlan_307 : decode cL_isPlan 307 = .ok (.aload 6, 2) := by decide +kernel
theorem dL_isPlan_309 : decode cL_isPlan 309 = .ok (.iconst 3, 1) := by decide +kernel
theorem dL_isPlan_310 : decode cL_isPlan 310 = .ok (.iload 13, 2) := by decide +kernel
theorem dL_isPlan_312 : decode cL_isPlan 312 = .ok (.imul, 1) := by decide +kernel
theorem dL_isPlan_313 : decode cL_isPlan 313 = .ok (.iload 15, 2) := by decide +kernel
theorem dL_isPlan_315 : decode cL_isPlan 315 = .ok (.iadd, 1) := by decide +kernel
theorem dL_isPlan_316 : decode cL_isPlan 316 = .ok (.iaload, 1) := by decide +kernel
theorem dL_isPlan_317 : decode cL_isPlan 317 = .ok (.istore 16, 2) := by decide +kernel
theorem dL_isPlan_319 : decode cL_isPlan 319 = .ok (.aload_n 2, 1) := by decide +kernel
