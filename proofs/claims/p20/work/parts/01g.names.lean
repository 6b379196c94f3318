theorem dL_loses_155 : decode cL_loses 155 = .ok (.iload 11, 2) := by decide +kernel
theorem dL_loses_157 : decode cL_loses 157 = .ok (.iaload, 1) := by decide +kernel
theorem dL_loses_158 : decode cL_loses 158 = .ok (.ifCond .ge 7, 3) := by decide +kernel
theorem dL_loses_161 : decode cL_loses 161 = .ok (.iconst (-1), 1) := by decide +kernel
theorem dL_loses_162 : decode cL_loses 162 = .ok (.goto 15, 3) := by decide +kernel
theorem dL_loses_165 : decode cL_loses 165 = .ok (.aload_n 0, 1) := by decide +kernel
theorem dL_loses_166 : decode cL_loses 166 = .ok (.iload 11, 2) := by decide +kernel
theorem dL_loses_168 : decode cL_loses 168 = .ok (.iconst 3, 1) := by decide +kernel
theorem dL_loses_169 : decode cL_loses 169 = .ok (.idiv, 1) := by decide +kernel
theorem dL_loses_170 : decode cL_loses 170 = .ok (.iload 11, 2) := by decide +kernel
theorem dL_loses_172 : decode cL_loses 172 = .ok (.iconst 3, 1) := by decide +kernel
theorem dL_loses_173 : decode cL_loses 173 = .ok (.irem, 1) := by decide +kernel
theorem dL_loses_174 : decode cL_loses 174 = .ok (.invokevirtual 43, 3) := by decide +kernel
theorem dL_loses_177 : decode cL_loses 177 = .ok (.istore 12, 2) := by decide +kernel
theorem dL_loses_179 : decode cL_loses 179 = .ok (.iload 9, 2) := by decide +kernel
theorem dL_loses_181 : decode cL_loses 181 = .ok (.iload 12, 2) := by decide +kernel
theorem dL_loses_183 : decode cL_loses 183 = .ok (.aload 7, 2) := by decide +kernel
theorem dL_loses_185 : decode cL_loses 185 = .ok (.iload 11, 2) := by decide +kernel
theorem dL_loses_187 : decode cL_loses 187 = .ok (.iaload, 1) := by decide +kernel
theorem dL_loses_188 : decode cL_loses 188 = .ok (.if_icmp .ne 7, 3) := by decide +kernel
theorem dL_loses_191 : decode cL_loses 191 = .ok (.iconst 0, 1) := by decide +kernel
theorem dL_loses_192 : decode cL_loses 192 = .ok (.goto 4, 3) := by decide +kernel
theorem dL_loses_195 : decode cL_loses 195 = .ok (.iconst 1, 1) := by decide +kernel
theorem dL_loses_196 : decode cL_loses 196 = .ok (.iadd, 1) := by decide +kernel
theorem dL_loses_197 : decode cL_loses 197 = .ok (.istore 9, 2) := by decide +kernel
theorem dL_loses_199 : decode cL_loses 199 = .ok (.iload 10, 2) := by decide +kernel
theorem dL_loses_201 : decode cL_loses 201 = .ok (.ifCond .eq 35, 3) := by decide +kernel
theorem dL_loses_204 : decode cL_loses 204 = .ok (.aload 7, 2) := by decide +kernel
theorem dL_loses_206 : decode cL_loses 206 = .ok (.iload 11, 2) := by decide +kernel
theorem dL_loses_208 : decode cL_loses 208 = .ok (.iaload, 1) := by decide +kernel
theorem dL_loses_209 : decode cL_loses 209 = .ok (.ifCond .lt 23, 3) := by decide +kernel
theorem dL_loses_212 : decode cL_loses 212 = .ok (.aload 7, 2) := by decide +kernel
theorem dL_loses_214 : decode cL_loses 214 = .ok (.iload 11, 2) := by decide +kernel
theorem dL_loses_216 : decode cL_loses 216 = .ok (.iaload, 1) := by decide +kernel
theorem dL_loses_217 : decode cL_loses 217 = .ok (.iload 5, 2) := by decide +kernel
theorem dL_loses_219 : decode cL_loses 219 = .ok (.if_icmp .ge 13, 3) := by decide +kernel
theorem dL_loses_222 : decode cL_loses 222 = .ok (.iload 12, 2) := by decide +kernel
theorem dL_loses_224 : decode cL_loses 224 = .ok (.aload 7, 2) := by decide +kernel
theorem dL_loses_226 : decode cL_loses 226 = .ok (.iload 11, 2) := by decide +kernel
theorem dL_loses_228 : decode cL_loses 228 = .ok (.iaload, 1) := by decide +kernel
theorem dL_loses_229 : decode cL_loses 229 = .ok (.if_icmp .ne 7, 3) := by decide +kernel
theorem dL_loses_232 : decode cL_loses 232 = .ok (.iconst 1, 1) := by decide +kernel
theorem dL_loses_233 : decode cL_loses 233 = .ok (.goto 4, 3) := by decide +kernel
theorem dL_loses_236 : decode cL_loses 236 = .ok (.iconst 0, 1) := by decide +kernel
theorem dL_loses_237 : decode cL_loses 237 = .ok (.istore 10, 2) := by decide +kernel
theorem dL_loses_239 : decode cL_loses 239 = .ok (.iinc 11 1, 3) := by decide +kernel
theorem dL_loses_242 : decode cL_loses 242 = .ok (.goto (-96), 3) := by decide +kernel
theorem dL_loses_245 : decode cL_loses 245 = .ok (.aload 4, 2) := by decide +kernel
theorem dL_loses_247 : decode cL_loses 247 = .ok (.iload 5, 2) := by decide +kernel
theorem dL_loses_249 : decode cL_loses 249 = .ok (.bipush 50, 2) := by decide +kernel
theorem dL_loses_251 : decode cL_loses 251 = .ok (.idiv, 1) := by decide +kernel
theorem dL_loses_252 : decode cL_loses 252 = .ok (.dup2, 1) := by decide +kernel
theorem dL_loses_253 : decode cL_loses 253 = .ok (.laload, 1) := by decide +kernel
theorem dL_loses_254 : decode cL_loses 254 = .ok (.lconst 1, 1) := by decide +kernel
theorem dL_loses_255 : decode cL_loses 255 = .ok (.iload 5, 2) := by decide +kernel
theorem dL_loses_257 : decode cL_loses 257 = .ok (.bipush 50, 2) := by decide +kernel
theorem dL_loses_259 : decode cL_loses 259 = .ok (.irem, 1) := by decide +kernel
theorem dL_loses_260 : decode cL_loses 260 = .ok (.lshl, 1) := by decide +kernel
theorem dL_loses_261 : decode cL_loses 261 = .ok (.lor, 1) := by decide +kernel
theorem dL_loses_262 : decode cL_loses 262 = .ok (.lastore, 1) := by decide +kernel
theorem dL_loses_263 : decode cL_loses 263 = .ok (.iload 10, 2) := by decide +kernel
theorem dL_loses_265 : decode cL_loses 265 = .ok (.ifCond .eq 24, 3) := by decide +kernel
theorem dL_loses_268 : decode cL_loses 268 = .ok (.iload 8, 2) := by decide +kernel
theorem dL_loses_270 : decode cL_loses 270 = .ok (.iload 9, 2) := by decide +kernel
theorem dL_loses_272 : decode cL_loses 272 = .ok (.if_icmp .ne 17, 3) := by decide +kernel
theorem dL_loses_275 : decode cL_loses 275 = .ok (.aload_n 0, 1) := by decide +kernel
theorem dL_loses_276 : decode cL_loses 276 = .ok (.iload 5, 2) := by decide +kernel
theorem dL_loses_278 : decode cL_loses 278 = .ok (.invokevirtual 54, 3) := by decide +kernel
theorem dL_loses_281 : decode cL_loses 281 = .ok (.iconst (-1), 1) := by decide +kernel
theorem dL_loses_282 : decode cL_loses 282 = .ok (.if_icmp .ne 7, 3) := by decide +kernel
theorem dL_loses_285 : decode cL_loses 285 = .ok (.iconst 1, 1) := by decide +kernel
theorem dL_loses_286 : decode cL_loses 286 = .ok (.goto 4, 3) := by decide +kernel
theorem dL_loses_289 : decode cL_loses 289 = .ok (.iconst 0, 1) := by decide +kernel
theorem dL_loses_290 : decode cL_loses 290 = .ok (.ireturn, 1) := by decide +kernel
set_option maxRecDepth 20000 in
theorem ggL_step_X2_aim : GoodIn wsL_step wsX2_aim := goodIn_ca (goodIn_ca (goodIn_r _ [5, 6, 7, 8, 9, 10, 11, 12, 4, 13, 14, 15, 16, 17, 18, 19, 20, 21, 22, 23, 24, 25, 26, 27, 28, 29, 30, 31, 32, 33, 34, 35, 36, 37, 38, 39, 40, 41, 42, 43, 44, 45, 46, 47, 48, 49, 50, 51, 52, 53, 54, 55, 56, 57, 58, 59, 60, 61, 62, 63, 64, 65, 66, 67, 68, 69, 70, 71, 72, 73, 74, 75, 76, 77, 78, 79, 80, 81, 82, 83, 84, 85, 86, 87, 88, 89, 90, 91, 92, 93, 94, 95, 96, 97, 98, 99, 100, 101, 102, 103, 104, 105, 106, 107, 108, 109, 110, 111, 210, 211, 212, 213, 214, 215, 216, 217, 218, 219, 220, 221, 222, 223, 224, 225, 226, 227, 228, 229, 230, 231] (by decide +kernel) (by decide +kernel)) (goodIn_sub (fun _ h => List.mem_cons_of_mem _ (List.mem_append_left _ (List.mem_append_left _ (List.mem_append_left _ (List.mem_append_left _ (List.mem_append_right _ h)))))) (by decide +kernel))) (goodIn_sub (fun _ h => List.mem_cons_of_mem _ (List.mem_append_left _ (List.mem_append_left _ (List.mem_append_left _ (List.mem_append_right _ h))))) (by decide +kernel))
set_option maxRecDepth 20000 in
theorem gL_step_X2_aim : GoodIn wsL_step (wsV RL 97 RX2 yX2_aim wsX2_aim) := goodIn_app (goodIn_of _ (by decide +kernel)) ggL_step_X2_aim
set_option maxRecDepth 20000 in
theorem ggL_step_L_isIn : GoodIn wsL_step wsL_isIn := goodIn_r _ [115] (by decide +kernel) (by decide +kernel)
set_option maxRecDepth 20000 in
theorem gL_step_L_isIn : GoodIn wsL_step (va_wsS RL 31 yL_isIn wsL_isIn) := goodIn_app (goodIn_of _ (by decide +kernel)) ggL_step_L_isIn
set_option maxRecDepth 20000 in
theorem ggL_step_X2_allNeeds : GoodIn wsL_step wsX2_allNeeds := goodIn_ca (goodIn_r _ [119, 120, 121, 10, 122, 123, 124, 4, 125, 11, 12, 13, 126, 127, 128, 17, 129, 34, 19, 130, 131, 132, 133, 35, 36, 210, 211, 212, 213, 214, 215, 216, 217, 218, 219, 220, 221, 222] (by decide +kernel) (by decide +kernel)) (goodIn_sub (fun _ h => List.mem_cons_of_mem _ (List.mem_append_left _ (List.mem_append_left _ (List.mem_append_right _ h)))) (by decide +kernel))
set_option maxRecDepth 20000 in
theorem gL_step_X2_allNeeds : GoodIn wsL_step (wsV RL 37 RX2 yX2_allNeeds wsX2_allNeeds) := goodIn_app (goodIn_of _ (by decide +kernel)) ggL_step_X2_allNeeds
set_option maxRecDepth 20000 in
theorem ggL_step_L_needs : GoodIn wsL_step wsL_needs := goodIn_ca (goodIn_ca (goodIn_ca (goodIn_r _ [136, 137, 138, 139, 140, 4, 141, 120, 121, 6, 7, 8, 9, 10, 122, 123, 124, 125, 11, 12, 13, 142, 35, 36, 126, 127, 128, 17, 129, 34, 19, 130, 131, 132, 133, 143, 144, 145, 146, 25, 26, 27, 28, 29, 21, 30, 31, 32, 33, 37, 38, 39, 40, 41, 42, 43, 44, 45, 46, 47, 48, 49, 50, 51, 52, 53, 54, 55, 56, 57, 58, 59, 60, 61, 62, 63, 64, 65, 66, 67, 68, 69, 70, 71, 72, 73, 74, 75, 76, 77, 78, 79, 80, 81, 82, 83, 84, 85, 86, 87, 88, 89, 90, 91, 92, 93, 94, 95, 96, 97, 98, 99, 100, 101, 102, 103, 104, 105, 106, 107, 108, 109, 110, 111, 147, 148, 149, 150, 151, 152, 153, 210, 211, 212, 213, 214, 215, 216, 217, 218, 219, 220, 221, 222, 223, 224, 225, 226, 227, 228, 229, 230, 231] (by decide +kernel) (by decide +kernel)) (goodIn_sub (fun _ h => List.mem_cons_of_mem _ (List.mem_append_left _ (List.mem_append_left _ (List.mem_append_right _ h)))) (by decide +kernel))) (goodIn_sub (fun _ h => List.mem_cons_of_mem _ (List.mem_append_left _ (List.mem_append_left _ (List.mem_append_left _ (List.mem_append_left _ (List.mem_append_right _ h)))))) (by decide +kernel))) (goodIn_sub (fun _ h => List.mem_cons_of_mem _ (List.mem_append_left _ (List.mem_append_left _ (List.mem_append_left _ (List.mem_append_right _ h))))) (by decide +kernel))
set_option maxRecDepth 20000 in
theorem gL_step_L_needs : GoodIn wsL_step (va_wsS RL 101 yL_needs wsL_needs) := goodIn_app (goodIn_of _ (by decide +kernel)) ggL_step_L_needs
set_option maxRecDepth 20000 in
theorem ggL_step_L_size : GoodIn wsL_step wsL_size := goodIn_r _ [156] (by decide +kernel) (by decide +kernel)
set_option maxRecDepth 20000 in
theorem gL_step_L_size : GoodIn wsL_step (va_wsS RL 88 yL_size wsL_size) := goodIn_app (goodIn_of _ (by decide +kernel)) ggL_step_L_size
set_option maxRecDepth 20000 in
theorem ggL_step_L_frees : GoodIn wsL_step wsL_frees := goodIn_ca (goodIn_ca (goodIn_r _ [159, 160, 161, 162, 163, 4, 164, 120, 121, 165, 166, 10, 122, 123, 124, 125, 11, 12, 13, 142, 35, 36, 143, 144, 145, 17, 146, 34, 25, 26, 27, 28, 19, 29, 21, 30, 31, 32, 33, 37, 38, 39, 40, 41, 42, 43, 44, 45, 46, 47, 48, 49, 50, 51, 52, 53, 54, 55, 56, 57, 58, 59, 60, 61, 62, 63, 64, 65, 66, 67, 68, 69, 70, 71, 72, 73, 74, 75, 76, 77, 78, 79, 80, 81, 82, 83, 84, 85, 86, 87, 88, 89, 90, 91, 92, 93, 94, 95, 96, 97, 98, 99, 100, 101, 102, 103, 104, 105, 106, 107, 108, 109, 110, 111, 147, 148, 149, 150, 151, 152, 153, 210, 211, 212, 213, 214, 215, 216, 217, 218, 219, 220, 221, 222, 223, 224, 225, 226, 227, 228, 229, 230, 231] (by decide +kernel) (by decide +kernel)) (goodIn_sub (fun _ h => List.mem_cons_of_mem _ (List.mem_append_left _ (List.mem_append_left _ (List.mem_append_right _ h)))) (by decide +kernel))) (goodIn_sub (fun _ h => List.mem_cons_of_mem _ (List.mem_append_left _ (List.mem_append_right _ h))) (by decide +kernel))
set_option maxRecDepth 20000 in
theorem gL_step_L_frees : GoodIn wsL_step (va_wsS RL 105 yL_frees wsL_frees) := goodIn_app (goodIn_of _ (by decide +kernel)) ggL_step_L_frees
set_option maxRecDepth 20000 in
theorem ggL_step_X2_revisits : GoodIn wsL_step wsX2_revisits := goodIn_ca (goodIn_ca (goodIn_r _ [170, 120, 121, 6, 7, 10, 122, 123, 124, 4, 125, 11, 12, 13, 40, 41, 42, 43, 44, 45, 46, 47, 48, 49, 50, 51, 52, 53, 54, 55, 56, 57, 58, 59, 60, 61, 62, 63, 64, 65, 66, 67, 68, 69, 70, 71, 72, 73, 74, 75, 76, 77, 78, 79, 80, 81, 82, 83, 84, 85, 86, 87, 88, 89, 90, 91, 92, 93, 94, 95, 96, 97, 98, 99, 100, 101, 102, 103, 104, 105, 106, 107, 108, 109, 110, 111, 210, 211, 212, 213, 214, 215, 216, 217, 218, 219, 220, 221, 222, 223, 224, 225, 226, 227, 228, 229, 230, 231] (by decide +kernel) (by decide +kernel)) (goodIn_sub (fun _ h => List.mem_cons_of_mem _ (List.mem_append_left _ (List.mem_append_left _ (List.mem_append_right _ h)))) (by decide +kernel))) (goodIn_sub (fun _ h => List.mem_cons_of_mem _ (List.mem_append_left _ (List.mem_append_left _ (List.mem_append_left _ (List.mem_append_left _ (List.mem_append_right _ h)))))) (by decide +kernel))
set_option maxRecDepth 20000 in
theorem gL_step_X2_revisits : GoodIn wsL_step (wsV RL 108 RX2 yX2_revisits wsX2_revisits) := goodIn_app (goodIn_of _ (by decide +kernel)) ggL_step_X2_revisits
set_option maxRecDepth 20000 in
theorem ggL_step_L_isLost : GoodIn wsL_step wsL_isLost := goodIn_r _ [173] (by decide +kernel) (by decide +kernel)
set_option maxRecDepth 20000 in
theorem gL_step_L_isLost : GoodIn wsL_step (va_wsS RL 57 yL_isLost wsL_isLost) := goodIn_app (goodIn_of _ (by decide +kernel)) ggL_step_L_isLost
set_option maxRecDepth 20000 in
theorem ggL_step_L_loses : GoodIn wsL_step wsL_loses := goodIn_hd (List.mem_cons_of_mem _ (List.mem_append_right _ (List.Mem.head _))) (by decide +kernel) (goodIn_app (goodIn_app (goodIn_r _ [176, 177, 178, 114, 179, 180, 181, 182, 4, 183, 120, 121, 10, 45, 122, 123, 124, 125, 11, 12, 13, 184, 185, 186, 187, 188, 189, 190, 191, 192, 193, 194, 195, 8, 9, 46, 44, 196, 197, 198, 40, 41, 42, 43, 47, 48, 49, 50, 51, 52, 53, 54, 55, 56, 57, 58, 59, 60, 61, 62, 63, 64, 65, 66, 67, 68, 69, 70, 71, 72, 73, 74, 75, 76, 77, 78, 79, 80, 81, 82, 83, 84, 85, 86, 87, 88, 89, 90, 91, 92, 93, 94, 95, 96, 97, 98, 99, 100, 101, 102, 103, 104, 105, 106, 107, 108, 109, 110, 111, 199, 200, 201, 202, 203, 204, 205, 206, 207, 208, 209, 210, 211, 212, 213, 214, 215, 216, 217, 218, 219, 220, 221, 222, 223, 224, 225, 226, 227, 228, 229, 230, 231] (by decide +kernel) (by decide +kernel)) (goodIn_sub (fun _ h => List.mem_cons_of_mem _ (List.mem_append_left _ (List.mem_append_left _ (List.mem_append_right _ h)))) (by decide +kernel))) (goodIn_sub (fun _ h => List.mem_cons_of_mem _ (List.mem_append_left _ (List.mem_append_left _ (List.mem_append_left _ (List.mem_append_right _ h))))) (by decide +kernel)))
set_option maxRecDepth 20000 in
theorem gL_step_L_loses : GoodIn wsL_step (va_wsS RL 112 yL_loses wsL_loses) := goodIn_app (goodIn_of _ (by decide +kernel)) ggL_step_L_loses
theorem dL_step_0 : decode cL_step 0 = .ok (.iload_n 1, 1) := by decide +kernel
theorem dL_step_1 : decode cL_step 1 = .ok (.iconst 3, 1) := by decide +kernel
theorem dL_step_2 : decode cL_step 2 = .ok (.if_icmp .lt 10, 3) := by decide +kernel
theorem dL_step_5 : decode cL_step 5 = .ok (.aload 6, 2) := by decide +kernel
theorem dL_step_7 : decode cL_step 7 = .ok (.iconst 0, 1) := by decide +kernel
theorem dL_step_8 : decode cL_step 8 = .ok (.iaload, 1) := by decide +kernel
theorem dL_step_9 : decode cL_step 9 = .ok (.ifCond .ne 148, 3) := by decide +kernel
theorem dL_step_12 : decode cL_step 12 = .ok (.aload 6, 2) := by decide +kernel
theorem dL_step_14 : decode cL_step 14 = .ok (.iconst 0, 1) := by decide +kernel
theorem dL_step_15 : decode cL_step 15 = .ok (.iaload, 1) := by decide +kernel
theorem dL_step_16 : decode cL_step 16 = .ok (.bipush 12, 2) := by decide +kernel
theorem dL_step_18 : decode cL_step 18 = .ok (.if_icmp .ne 5, 3) := by decide +kernel
theorem dL_step_21 : decode cL_step 21 = .ok (.iconst 1, 1) := by decide +kernel
theorem dL_step_22 : decode cL_step 22 = .ok (.ireturn, 1) := by decide +kernel
theorem dL_step_23 : decode cL_step 23 = .ok (.iconst 5, 1) := by decide +kernel
theorem dL_step_24 : decode cL_step 24 = .ok (.aload 6, 2) := by decide +kernel
theorem dL_step_26 : decode cL_step 26 = .ok (.iconst 0, 1) := by decide +kernel
theorem dL_step_27 : decode cL_step 27 = .ok (.iaload, 1) := by decide +kernel
theorem dL_step_28 : decode cL_step 28 = .ok (.imul, 1) := by decide +kernel
theorem dL_step_29 : decode cL_step 29 = .ok (.istore 8, 2) := by decide +kernel
theorem dL_step_31 : decode cL_step 31 = .ok (.aload 4, 2) := by decide +kernel
theorem dL_step_33 : decode cL_step 33 = .ok (.iload 8, 2) := by decide +kernel
theorem dL_step_35 : decode cL_step 35 = .ok (.iconst 1, 1) := by decide +kernel
theorem dL_step_36 : decode cL_step 36 = .ok (.iload_n 2, 1) := by decide +kernel
theorem dL_step_37 : decode cL_step 37 = .ok (.iconst 5, 1) := by decide +kernel
theorem dL_step_38 : decode cL_step 38 = .ok (.irem, 1) := by decide +kernel
theorem dL_step_39 : decode cL_step 39 = .ok (.iadd, 1) := by decide +kernel
theorem dL_step_40 : decode cL_step 40 = .ok (.iastore, 1) := by decide +kernel
theorem dL_step_41 : decode cL_step 41 = .ok (.aload 4, 2) := by decide +kernel
theorem dL_step_43 : decode cL_step 43 = .ok (.iload 8, 2) := by decide +kernel
theorem dL_step_45 : decode cL_step 45 = .ok (.iconst 1, 1) := by decide +kernel
theorem dL_step_46 : decode cL_step 46 = .ok (.iadd, 1) := by decide +kernel
theorem dL_step_47 : decode cL_step 47 = .ok (.iload_n 2, 1) := by decide +kernel
theorem dL_step_48 : decode cL_step 48 = .ok (.iconst 5, 1) := by decide +kernel
theorem dL_step_49 : decode cL_step 49 = .ok (.idiv, 1) := by decide +kernel
theorem dL_step_50 : decode cL_step 50 = .ok (.iconst 3, 1) := by decide +kernel
theorem dL_step_51 : decode cL_step 51 = .ok (.irem, 1) := by decide +kernel
theorem dL_step_52 : decode cL_step 52 = .ok (.iastore, 1) := by decide +kernel
theorem dL_step_53 : decode cL_step 53 = .ok (.aload 4, 2) := by decide +kernel
theorem dL_step_55 : decode cL_step 55 = .ok (.iload 8, 2) := by decide +kernel
theorem dL_step_57 : decode cL_step 57 = .ok (.iconst 2, 1) := by decide +kernel
theorem dL_step_58 : decode cL_step 58 = .ok (.iadd, 1) := by decide +kernel
theorem dL_step_59 : decode cL_step 59 = .ok (.iconst 1, 1) := by decide +kernel
theorem dL_step_60 : decode cL_step 60 = .ok (.iload_n 3, 1) := by decide +kernel
theorem dL_step_61 : decode cL_step 61 = .ok (.iload_n 3, 1) := by decide +kernel
theorem dL_step_62 : decode cL_step 62 = .ok (.iconst 3, 1) := by decide +kernel
theorem dL_step_63 : decode cL_step 63 = .ok (.irem, 1) := by decide +kernel
theorem dL_step_64 : decode cL_step 64 = .ok (.ifCond .ne 8, 3) := by decide +kernel
theorem dL_step_67 : decode cL_step 67 = .ok (.bipush 99, 2) := by decide +kernel
theorem dL_step_69 : decode cL_step 69 = .ok (.goto 5, 3) := by decide +kernel
theorem dL_step_72 : decode cL_step 72 = .ok (.bipush 20, 2) := by decide +kernel
theorem dL_step_74 : decode cL_step 74 = .ok (.irem, 1) := by decide +kernel
theorem dL_step_75 : decode cL_step 75 = .ok (.iadd, 1) := by decide +kernel
theorem dL_step_76 : decode cL_step 76 = .ok (.iastore, 1) := by decide +kernel
theorem dL_step_77 : decode cL_step 77 = .ok (.aload 4, 2) := by decide +kernel
theorem dL_step_79 : decode cL_step 79 = .ok (.iload 8, 2) := by decide +kernel
theorem dL_step_81 : decode cL_step 81 = .ok (.iconst 3, 1) := by decide +kernel
theorem dL_step_82 : decode cL_step 82 = .ok (.iadd, 1) := by decide +kernel
theorem dL_step_83 : decode cL_step 83 = .ok (.iload_n 2, 1) := by decide +kernel
theorem dL_step_84 : decode cL_step 84 = .ok (.bipush 15, 2) := by decide +kernel
theorem dL_step_86 : decode cL_step 86 = .ok (.idiv, 1) := by decide +kernel
theorem dL_step_87 : decode cL_step 87 = .ok (.iconst 4, 1) := by decide +kernel
theorem dL_step_88 : decode cL_step 88 = .ok (.irem, 1) := by decide +kernel
theorem dL_step_89 : decode cL_step 89 = .ok (.iconst 1, 1) := by decide +kernel
theorem dL_step_90 : decode cL_step 90 = .ok (.isub, 1) := by decide +kernel
theorem dL_step_91 : decode cL_step 91 = .ok (.iastore, 1) := by decide +kernel
theorem dL_step_92 : decode cL_step 92 = .ok (.aload 5, 2) := by decide +kernel
theorem dL_step_94 : decode cL_step 94 = .ok (.iconst 2, 1) := by decide +kernel
theorem dL_step_95 : decode cL_step 95 = .ok (.aload 6, 2) := by decide +kernel
theorem dL_step_97 : decode cL_step 97 = .ok (.iconst 0, 1) := by decide +kernel
theorem dL_step_98 : decode cL_step 98 = .ok (.iaload, 1) := by decide +kernel
theorem dL_step_99 : decode cL_step 99 = .ok (.imul, 1) := by decide +kernel
theorem dL_step_100 : decode cL_step 100 = .ok (.iconst 1, 1) := by decide +kernel
theorem dL_step_101 : decode cL_step 101 = .ok (.iadd, 1) := by decide +kernel
theorem dL_step_102 : decode cL_step 102 = .ok (.iconst 1, 1) := by decide +kernel
theorem dL_step_103 : decode cL_step 103 = .ok (.iastore, 1) := by decide +kernel
theorem dL_step_104 : decode cL_step 104 = .ok (.aload 6, 2) := by decide +kernel
theorem dL_step_106 : decode cL_step 106 = .ok (.iconst 0, 1) := by decide +kernel
theorem dL_step_107 : decode cL_step 107 = .ok (.dup2, 1) := by decide +kernel
theorem dL_step_108 : decode cL_step 108 = .ok (.iaload, 1) := by decide +kernel
theorem dL_step_109 : decode cL_step 109 = .ok (.iconst 1, 1) := by decide +kernel
theorem dL_step_110 : decode cL_step 110 = .ok (.iadd, 1) := by decide +kernel
theorem dL_step_111 : decode cL_step 111 = .ok (.iastore, 1) := by decide +kernel
theorem dL_step_112 : decode cL_step 112 = .ok (.aload_n 0, 1) := by decide +kernel
theorem dL_step_113 : decode cL_step 113 = .ok (.aload 4, 2) := by decide +kernel
theorem dL_step_115 : decode cL_step 115 = .ok (.iload 8, 2) := by decide +kernel
theorem dL_step_117 : decode cL_step 117 = .ok (.iaload, 1) := by decide +kernel
theorem dL_step_118 : decode cL_step 118 = .ok (.aload 4, 2) := by decide +kernel
theorem dL_step_120 : decode cL_step 120 = .ok (.iload 8, 2) := by decide +kernel
theorem dL_step_122 : decode cL_step 122 = .ok (.iconst 1, 1) := by decide +kernel
theorem dL_step_123 : decode cL_step 123 = .ok (.iadd, 1) := by decide +kernel
theorem dL_step_124 : decode cL_step 124 = .ok (.iaload, 1) := by decide +kernel
theorem dL_step_125 : decode cL_step 125 = .ok (.aload 4, 2) := by decide +kernel
theorem dL_step_127 : decode cL_step 127 = .ok (.iload 8, 2) := by decide +kernel
theorem dL_step_129 : decode cL_step 129 = .ok (.iconst 2, 1) := by decide +kernel
theorem dL_step_130 : decode cL_step 130 = .ok (.iadd, 1) := by decide +kernel
theorem dL_step_131 : decode cL_step 131 = .ok (.iaload, 1) := by decide +kernel
theorem dL_step_132 : decode cL_step 132 = .ok (.aload 4, 2) := by decide +kernel
theorem dL_step_134 : decode cL_step 134 = .ok (.iload 8, 2) := by decide +kernel
theorem dL_step_136 : decode cL_step 136 = .ok (.iconst 3, 1) := by decide +kernel
theorem dL_step_137 : decode cL_step 137 = .ok (.iadd, 1) := by decide +kernel
theorem dL_step_138 : decode cL_step 138 = .ok (.iaload, 1) := by decide +kernel
theorem dL_step_139 : decode cL_step 139 = .ok (.invokevirtual 97, 3) := by decide +kernel
theorem dL_step_142 : decode cL_step 142 = .ok (.aload 6, 2) := by decide +kernel
theorem dL_step_144 : decode cL_step 144 = .ok (.iconst 0, 1) := by decide +kernel
theorem dL_step_145 : decode cL_step 145 = .ok (.iaload, 1) := by decide +kernel
theorem dL_step_146 : decode cL_step 146 = .ok (.iconst 1, 1) := by decide +kernel
theorem dL_step_147 : decode cL_step 147 = .ok (.isub, 1) := by decide +kernel
theorem dL_step_148 : decode cL_step 148 = .ok (.if_icmp .ne 7, 3) := by decide +kernel
theorem dL_step_151 : decode cL_step 151 = .ok (.iconst 1, 1) := by decide +kernel
theorem dL_step_152 : decode cL_step 152 = .ok (.goto 4, 3) := by decide +kernel
theorem dL_step_155 : decode cL_step 155 = .ok (.iconst 0, 1) := by decide +kernel
theorem dL_step_156 : decode cL_step 156 = .ok (.ireturn, 1) := by decide +kernel
theorem dL_step_157 : decode cL_step 157 = .ok (.iload_n 2, 1) := by decide +kernel
theorem dL_step_158 : decode cL_step 158 = .ok (.aload 6, 2) := by decide +kernel
theorem dL_step_160 : decode cL_step 160 = .ok (.iconst 0, 1) := by decide +kernel
theorem dL_step_161 : decode cL_step 161 = .ok (.iaload, 1) := by decide +kernel
theorem dL_step_162 : decode cL_step 162 = .ok (.irem, 1) := by decide +kernel
theorem dL_step_163 : decode cL_step 163 = .ok (.istore 8, 2) := by decide +kernel
theorem dL_step_165 : decode cL_step 165 = .ok (.iload_n 3, 1) := by decide +kernel
theorem dL_step_166 : decode cL_step 166 = .ok (.aload 6, 2) := by decide +kernel
theorem dL_step_168 : decode cL_step 168 = .ok (.iconst 0, 1) := by decide +kernel
theorem dL_step_169 : decode cL_step 169 = .ok (.iaload, 1) := by decide +kernel
theorem dL_step_170 : decode cL_step 170 = .ok (.irem, 1) := by decide +kernel
theorem dL_step_171 : decode cL_step 171 = .ok (.istore 9, 2) := by decide +kernel
theorem dL_step_173 : decode cL_step 173 = .ok (.iload_n 1, 1) := by decide +kernel
theorem dL_step_174 : decode cL_step 174 = .ok (.bipush 7, 2) := by decide +kernel
theorem dL_step_176 : decode cL_step 176 = .ok (.if_icmp .ge 114, 3) := by decide +kernel
theorem dL_step_179 : decode cL_step 179 = .ok (.iload 8, 2) := by decide +kernel
theorem dL_step_181 : decode cL_step 181 = .ok (.iload 9, 2) := by decide +kernel
theorem dL_step_183 : decode cL_step 183 = .ok (.if_icmp .ne 5, 3) := by decide +kernel
theorem dL_step_186 : decode cL_step 186 = .ok (.iconst 1, 1) := by decide +kernel
theorem dL_step_187 : decode cL_step 187 = .ok (.ireturn, 1) := by decide +kernel
theorem dL_step_188 : decode cL_step 188 = .ok (.aload 4, 2) := by decide +kernel
theorem dL_step_190 : decode cL_step 190 = .ok (.iconst 5, 1) := by decide +kernel
theorem dL_step_191 : decode cL_step 191 = .ok (.iload 8, 2) := by decide +kernel
theorem dL_step_193 : decode cL_step 193 = .ok (.imul, 1) := by decide +kernel
theorem dL_step_194 : decode cL_step 194 = .ok (.iconst 4, 1) := by decide +kernel
theorem dL_step_195 : decode cL_step 195 = .ok (.iadd, 1) := by decide +kernel
theorem dL_step_196 : decode cL_step 196 = .ok (.iaload, 1) := by decide +kernel
theorem dL_step_197 : decode cL_step 197 = .ok (.iload 9, 2) := by decide +kernel
theorem dL_step_199 : decode cL_step 199 = .ok (.invokestatic 31, 3) := by decide +kernel
theorem dL_step_202 : decode cL_step 202 = .ok (.ifCond .ne 21, 3) := by decide +kernel
theorem dL_step_205 : decode cL_step 205 = .ok (.aload_n 0, 1) := by decide +kernel
theorem dL_step_206 : decode cL_step 206 = .ok (.iload 9, 2) := by decide +kernel
theorem dL_step_208 : decode cL_step 208 = .ok (.invokevirtual 37, 3) := by decide +kernel
theorem dL_step_211 : decode cL_step 211 = .ok (.iload 8, 2) := by decide +kernel
theorem dL_step_213 : decode cL_step 213 = .ok (.invokestatic 31, 3) := by decide +kernel
theorem dL_step_216 : decode cL_step 216 = .ok (.ifCond .ne 7, 3) := by decide +kernel
theorem dL_step_219 : decode cL_step 219 = .ok (.iconst 1, 1) := by decide +kernel
theorem dL_step_220 : decode cL_step 220 = .ok (.goto 4, 3) := by decide +kernel
theorem dL_step_223 : decode cL_step 223 = .ok (.iconst 0, 1) := by decide +kernel
theorem dL_step_224 : decode cL_step 224 = .ok (.istore 10, 2) := by decide +kernel
theorem dL_step_226 : decode cL_step 226 = .ok (.aload 4, 2) := by decide +kernel
theorem dL_step_228 : decode cL_step 228 = .ok (.iconst 5, 1) := by decide +kernel
theorem dL_step_229 : decode cL_step 229 = .ok (.iload 8, 2) := by decide +kernel
theorem dL_step_231 : decode cL_step 231 = .ok (.imul, 1) := by decide +kernel
theorem dL_step_232 : decode cL_step 232 = .ok (.iconst 4, 1) := by decide +kernel
theorem dL_step_233 : decode cL_step 233 = .ok (.iadd, 1) := by decide +kernel
theorem dL_step_234 : decode cL_step 234 = .ok (.dup2, 1) := by decide +kernel
theorem dL_step_235 : decode cL_step 235 = .ok (.iaload, 1) := by decide +kernel
theorem dL_step_236 : decode cL_step 236 = .ok (.iload 10, 2) := by decide +kernel
theorem dL_step_238 : decode cL_step 238 = .ok (.ifCond .eq 10, 3) := by decide +kernel
theorem dL_step_241 : decode cL_step 241 = .ok (.iconst 1, 1) := by decide +kernel
theorem dL_step_242 : decode cL_step 242 = .ok (.iload 9, 2) := by decide +kernel
theorem dL_step_244 : decode cL_step 244 = .ok (.ishl, 1) := by decide +kernel
theorem dL_step_245 : decode cL_step 245 = .ok (.goto 4, 3) := by decide +kernel
theorem dL_step_248 : decode cL_step 248 = .ok (.iconst 0, 1) := by decide +kernel
theorem dL_step_249 : decode cL_step 249 = .ok (.ior, 1) := by decide +kernel
theorem dL_step_250 : decode cL_step 250 = .ok (.iastore, 1) := by decide +kernel
theorem dL_step_251 : decode cL_step 251 = .ok (.aload_n 0, 1) := by decide +kernel
theorem dL_step_252 : decode cL_step 252 = .ok (.iload 8, 2) := by decide +kernel
theorem dL_step_254 : decode cL_step 254 = .ok (.iload 9, 2) := by decide +kernel
theorem dL_step_256 : decode cL_step 256 = .ok (.invokestatic 101, 3) := by decide +kernel
theorem dL_step_259 : decode cL_step 259 = .ok (.iload 10, 2) := by decide +kernel
theorem dL_step_261 : decode cL_step 261 = .ok (.ifCond .eq 18, 3) := by decide +kernel
theorem dL_step_264 : decode cL_step 264 = .ok (.aload 4, 2) := by decide +kernel
theorem dL_step_266 : decode cL_step 266 = .ok (.iconst 5, 1) := by decide +kernel
theorem dL_step_267 : decode cL_step 267 = .ok (.iload 8, 2) := by decide +kernel
theorem dL_step_269 : decode cL_step 269 = .ok (.imul, 1) := by decide +kernel
theorem dL_step_270 : decode cL_step 270 = .ok (.iconst 4, 1) := by decide +kernel
theorem dL_step_271 : decode cL_step 271 = .ok (.iadd, 1) := by decide +kernel
theorem dL_step_272 : decode cL_step 272 = .ok (.iaload, 1) := by decide +kernel
theorem dL_step_273 : decode cL_step 273 = .ok (.invokestatic 88, 3) := by decide +kernel
theorem dL_step_276 : decode cL_step 276 = .ok (.goto 5, 3) := by decide +kernel
theorem dL_step_279 : decode cL_step 279 = .ok (.bipush (-8), 2) := by decide +kernel
theorem dL_step_281 : decode cL_step 281 = .ok (.if_icmp .ne 7, 3) := by decide +kernel
theorem dL_step_284 : decode cL_step 284 = .ok (.iconst 1, 1) := by decide +kernel
theorem dL_step_285 : decode cL_step 285 = .ok (.goto 4, 3) := by decide +kernel
theorem dL_step_288 : decode cL_step 288 = .ok (.iconst 0, 1) := by decide +kernel
theorem dL_step_289 : decode cL_step 289 = .ok (.ireturn, 1) := by decide +kernel
theorem dL_step_290 : decode cL_step 290 = .ok (.iload_n 1, 1) := by decide +kernel
theorem dL_step_291 : decode cL_step 291 = .ok (.bipush 7, 2) := by decide +kernel
theorem dL_step_293 : decode cL_step 293 = .ok (.if_icmp .ne 76, 3) := by decide +kernel
theorem dL_step_296 : decode cL_step 296 = .ok (.aload 4, 2) := by decide +kernel
theorem dL_step_298 : decode cL_step 298 = .ok (.iconst 5, 1) := by decide +kernel
theorem dL_step_299 : decode cL_step 299 = .ok (.iload 8, 2) := by decide +kernel
theorem dL_step_301 : decode cL_step 301 = .ok (.imul, 1) := by decide +kernel
theorem dL_step_302 : decode cL_step 302 = .ok (.iconst 4, 1) := by decide +kernel
theorem dL_step_303 : decode cL_step 303 = .ok (.iadd, 1) := by decide +kernel
theorem dL_step_304 : decode cL_step 304 = .ok (.iaload, 1) := by decide +kernel
theorem dL_step_305 : decode cL_step 305 = .ok (.iload 9, 2) := by decide +kernel
theorem dL_step_307 : decode cL_step 307 = .ok (.invokestatic 31, 3) := by decide +kernel
theorem dL_step_310 : decode cL_step 310 = .ok (.istore 10, 2) := by decide +kernel
theorem dL_step_312 : decode cL_step 312 = .ok (.aload 4, 2) := by decide +kernel
theorem dL_step_314 : decode cL_step 314 = .ok (.iconst 5, 1) := by decide +kernel
theorem dL_step_315 : decode cL_step 315 = .ok (.iload 8, 2) := by decide +kernel
theorem dL_step_317 : decode cL_step 317 = .ok (.imul, 1) := by decide +kernel
theorem dL_step_318 : decode cL_step 318 = .ok (.iconst 4, 1) := by decide +kernel
theorem dL_step_319 : decode cL_step 319 = .ok (.iadd, 1) := by decide +kernel
theorem dL_step_320 : decode cL_step 320 = .ok (.dup2, 1) := by decide +kernel
theorem dL_step_321 : decode cL_step 321 = .ok (.iaload, 1) := by decide +kernel
theorem dL_step_322 : decode cL_step 322 = .ok (.iconst 1, 1) := by decide +kernel
theorem dL_step_323 : decode cL_step 323 = .ok (.iload 9, 2) := by decide +kernel
theorem dL_step_325 : decode cL_step 325 = .ok (.ishl, 1) := by decide +kernel
theorem dL_step_326 : decode cL_step 326 = .ok (.iconst (-1), 1) := by decide +kernel
theorem dL_step_327 : decode cL_step 327 = .ok (.ixor, 1) := by decide +kernel
theorem dL_step_328 : decode cL_step 328 = .ok (.iand, 1) := by decide +kernel
theorem dL_step_329 : decode cL_step 329 = .ok (.iastore, 1) := by decide +kernel
theorem dL_step_330 : decode cL_step 330 = .ok (.aload_n 0, 1) := by decide +kernel
theorem dL_step_331 : decode cL_step 331 = .ok (.iload 8, 2) := by decide +kernel
theorem dL_step_333 : decode cL_step 333 = .ok (.iload 9, 2) := by decide +kernel
theorem dL_step_335 : decode cL_step 335 = .ok (.invokestatic 105, 3) := by decide +kernel
theorem dL_step_338 : decode cL_step 338 = .ok (.iload 10, 2) := by decide +kernel
theorem dL_step_340 : decode cL_step 340 = .ok (.ifCond .eq 18, 3) := by decide +kernel
theorem dL_step_343 : decode cL_step 343 = .ok (.aload 4, 2) := by decide +kernel
theorem dL_step_345 : decode cL_step 345 = .ok (.iconst 5, 1) := by decide +kernel
theorem dL_step_346 : decode cL_step 346 = .ok (.iload 8, 2) := by decide +kernel
theorem dL_step_348 : decode cL_step 348 = .ok (.imul, 1) := by decide +kernel
theorem dL_step_349 : decode cL_step 349 = .ok (.iconst 4, 1) := by decide +kernel
theorem dL_step_350 : decode cL_step 350 = .ok (.iadd, 1) := by decide +kernel
theorem dL_step_351 : decode cL_step 351 = .ok (.iaload, 1) := by decide +kernel
theorem dL_step_352 : decode cL_step 352 = .ok (.invokestatic 88, 3) := by decide +kernel
theorem dL_step_355 : decode cL_step 355 = .ok (.goto 5, 3) := by decide +kernel
theorem dL_step_358 : decode cL_step 358 = .ok (.bipush (-9), 2) := by decide +kernel
theorem dL_step_360 : decode cL_step 360 = .ok (.if_icmp .ne 7, 3) := by decide +kernel
theorem dL_step_363 : decode cL_step 363 = .ok (.iconst 1, 1) := by decide +kernel
theorem dL_step_364 : decode cL_step 364 = .ok (.goto 4, 3) := by decide +kernel
theorem dL_step_367 : decode cL_step 367 = .ok (.iconst 0, 1) := by decide +kernel
theorem dL_step_368 : decode cL_step 368 = .ok (.ireturn, 1) := by decide +kernel
theorem dL_step_369 : decode cL_step 369 = .ok (.iload_n 1, 1) := by decide +kernel
theorem dL_step_370 : decode cL_step 370 = .ok (.bipush 11, 2) := by decide +kernel
theorem dL_step_372 : decode cL_step 372 = .ok (.if_icmp .ge 83, 3) := by decide +kernel
theorem dL_step_375 : decode cL_step 375 = .ok (.aload 5, 2) := by decide +kernel
theorem dL_step_377 : decode cL_step 377 = .ok (.iconst 2, 1) := by decide +kernel
theorem dL_step_378 : decode cL_step 378 = .ok (.iload 8, 2) := by decide +kernel
theorem dL_step_380 : decode cL_step 380 = .ok (.imul, 1) := by decide +kernel
theorem dL_step_381 : decode cL_step 381 = .ok (.iaload, 1) := by decide +kernel
theorem dL_step_382 : decode cL_step 382 = .ok (.istore 10, 2) := by decide +kernel
theorem dL_step_384 : decode cL_step 384 = .ok (.aload 5, 2) := by decide +kernel
theorem dL_step_386 : decode cL_step 386 = .ok (.iconst 2, 1) := by decide +kernel
theorem dL_step_387 : decode cL_step 387 = .ok (.iload 8, 2) := by decide +kernel
theorem dL_step_389 : decode cL_step 389 = .ok (.imul, 1) := by decide +kernel
theorem dL_step_390 : decode cL_step 390 = .ok (.iload_n 3, 1) := by decide +kernel
theorem dL_step_391 : decode cL_step 391 = .ok (.iconst 4, 1) := by decide +kernel
theorem dL_step_392 : decode cL_step 392 = .ok (.irem, 1) := by decide +kernel
theorem dL_step_393 : decode cL_step 393 = .ok (.iastore, 1) := by decide +kernel
theorem dL_step_394 : decode cL_step 394 = .ok (.aload 5, 2) := by decide +kernel
theorem dL_step_396 : decode cL_step 396 = .ok (.iconst 2, 1) := by decide +kernel
theorem dL_step_397 : decode cL_step 397 = .ok (.iload 8, 2) := by decide +kernel
theorem dL_step_399 : decode cL_step 399 = .ok (.imul, 1) := by decide +kernel
theorem dL_step_400 : decode cL_step 400 = .ok (.iconst 1, 1) := by decide +kernel
theorem dL_step_401 : decode cL_step 401 = .ok (.iadd, 1) := by decide +kernel
theorem dL_step_402 : decode cL_step 402 = .ok (.iconst 1, 1) := by decide +kernel
theorem dL_step_403 : decode cL_step 403 = .ok (.iload_n 3, 1) := by decide +kernel
theorem dL_step_404 : decode cL_step 404 = .ok (.iconst 4, 1) := by decide +kernel
theorem dL_step_405 : decode cL_step 405 = .ok (.idiv, 1) := by decide +kernel
theorem dL_step_406 : decode cL_step 406 = .ok (.iload_n 2, 1) := by decide +kernel
theorem dL_step_407 : decode cL_step 407 = .ok (.iconst 3, 1) := by decide +kernel
theorem dL_step_408 : decode cL_step 408 = .ok (.irem, 1) := by decide +kernel
theorem dL_step_409 : decode cL_step 409 = .ok (.ifCond .ne 8, 3) := by decide +kernel
theorem dL_step_412 : decode cL_step 412 = .ok (.bipush 20, 2) := by decide +kernel
theorem dL_step_414 : decode cL_step 414 = .ok (.goto 5, 3) := by decide +kernel
theorem dL_step_417 : decode cL_step 417 = .ok (.bipush 6, 2) := by decide +kernel
theorem dL_step_419 : decode cL_step 419 = .ok (.irem, 1) := by decide +kernel
theorem dL_step_420 : decode cL_step 420 = .ok (.iadd, 1) := by decide +kernel
theorem dL_step_421 : decode cL_step 421 = .ok (.iastore, 1) := by decide +kernel
theorem dL_step_422 : decode cL_step 422 = .ok (.aload_n 0, 1) := by decide +kernel
theorem dL_step_423 : decode cL_step 423 = .ok (.iload 8, 2) := by decide +kernel
theorem dL_step_425 : decode cL_step 425 = .ok (.aload 5, 2) := by decide +kernel
theorem dL_step_427 : decode cL_step 427 = .ok (.iconst 2, 1) := by decide +kernel
theorem dL_step_428 : decode cL_step 428 = .ok (.iload 8, 2) := by decide +kernel
theorem dL_step_430 : decode cL_step 430 = .ok (.imul, 1) := by decide +kernel
theorem dL_step_431 : decode cL_step 431 = .ok (.iaload, 1) := by decide +kernel
theorem dL_step_432 : decode cL_step 432 = .ok (.aload 5, 2) := by decide +kernel
theorem dL_step_434 : decode cL_step 434 = .ok (.iconst 2, 1) := by decide +kernel
theorem dL_step_435 : decode cL_step 435 = .ok (.iload 8, 2) := by decide +kernel
theorem dL_step_437 : decode cL_step 437 = .ok (.imul, 1) := by decide +kernel
theorem dL_step_438 : decode cL_step 438 = .ok (.iconst 1, 1) := by decide +kernel
theorem dL_step_439 : decode cL_step 439 = .ok (.iadd, 1) := by decide +kernel
theorem dL_step_440 : decode cL_step 440 = .ok (.iaload, 1) := by decide +kernel
theorem dL_step_441 : decode cL_step 441 = .ok (.invokevirtual 108, 3) := by decide +kernel
theorem dL_step_444 : decode cL_step 444 = .ok (.iload 10, 2) := by decide +kernel
theorem dL_step_446 : decode cL_step 446 = .ok (.if_icmp .ne 7, 3) := by decide +kernel
theorem dL_step_449 : decode cL_step 449 = .ok (.iconst 1, 1) := by decide +kernel
theorem dL_step_450 : decode cL_step 450 = .ok (.goto 4, 3) := by decide +kernel
theorem dL_step_453 : decode cL_step 453 = .ok (.iconst 0, 1) := by decide +kernel
theorem dL_step_454 : decode cL_step 454 = .ok (.ireturn, 1) := by decide +kernel
theorem dL_step_455 : decode cL_step 455 = .ok (.iload_n 3, 1) := by decide +kernel
theorem dL_step_456 : decode cL_step 456 = .ok (.iload_n 2, 1) := by decide +kernel
theorem dL_step_457 : decode cL_step 457 = .ok (.iconst 3, 1) := by decide +kernel
theorem dL_step_458 : decode cL_step 458 = .ok (.irem, 1) := by decide +kernel
theorem dL_step_459 : decode cL_step 459 = .ok (.ifCond .ne 8, 3) := by decide +kernel
theorem dL_step_462 : decode cL_step 462 = .ok (.bipush 100, 2) := by decide +kernel
theorem dL_step_464 : decode cL_step 464 = .ok (.goto 5, 3) := by decide +kernel
theorem dL_step_467 : decode cL_step 467 = .ok (.bipush 30, 2) := by decide +kernel
theorem dL_step_469 : decode cL_step 469 = .ok (.irem, 1) := by decide +kernel
theorem dL_step_470 : decode cL_step 470 = .ok (.istore 10, 2) := by decide +kernel
theorem dL_step_472 : decode cL_step 472 = .ok (.aload 7, 2) := by decide +kernel
theorem dL_step_474 : decode cL_step 474 = .ok (.iload 10, 2) := by decide +kernel
theorem dL_step_476 : decode cL_step 476 = .ok (.invokestatic 57, 3) := by decide +kernel
theorem dL_step_479 : decode cL_step 479 = .ok (.ifCond .ne 20, 3) := by decide +kernel
theorem dL_step_482 : decode cL_step 482 = .ok (.aload_n 0, 1) := by decide +kernel
theorem dL_step_483 : decode cL_step 483 = .ok (.aload 4, 2) := by decide +kernel
theorem dL_step_485 : decode cL_step 485 = .ok (.aload 5, 2) := by decide +kernel
theorem dL_step_487 : decode cL_step 487 = .ok (.aload 6, 2) := by decide +kernel
theorem dL_step_489 : decode cL_step 489 = .ok (.aload 7, 2) := by decide +kernel
theorem dL_step_491 : decode cL_step 491 = .ok (.iload 10, 2) := by decide +kernel
theorem dL_step_493 : decode cL_step 493 = .ok (.invokestatic 112, 3) := by decide +kernel
theorem dL_step_496 : decode cL_step 496 = .ok (.ifCond .eq 7, 3) := by decide +kernel
theorem dL_step_499 : decode cL_step 499 = .ok (.iconst 1, 1) := by decide +kernel
theorem dL_step_500 : decode cL_step 500 = .ok (.goto 4, 3) := by decide +kernel
theorem dL_step_503 : decode cL_step 503 = .ok (.iconst 0, 1) := by decide +kernel
theorem dL_step_504 : decode cL_step 504 = .ok (.ireturn, 1) := by decide +kernel
set_option maxRecDepth 20000 in
theorem ggL_year_X2_init : GoodIn wsL_year wsX2_init := goodIn_r _ [9, 10, 11, 12, 13, 14, 15, 16, 17, 18, 19, 20, 21, 22, 23, 24, 25, 26, 27, 4, 28, 29, 30, 31, 32, 33, 34, 35, 36, 37, 38, 39, 40, 41, 42, 43, 44, 45, 46, 47, 48, 49, 50, 51, 52, 53, 54, 55, 56, 310, 311, 312, 313, 314, 315, 316, 317, 318, 306, 307, 308, 309, 319, 320, 321, 322, 323, 324, 325, 326, 327] (by decide +kernel) (by decide +kernel)
set_option maxRecDepth 20000 in
theorem gL_year_X2_init : GoodIn wsL_year (wsX2_init) := ggL_year_X2_init
set_option maxRecDepth 20000 in
theorem ggL_year_L_draw : GoodIn wsL_year wsL_draw := goodIn_r _ [60, 61, 62, 63] (by decide +kernel) (by decide +kernel)
set_option maxRecDepth 20000 in
theorem gL_year_L_draw : GoodIn wsL_year (va_wsS RL 118 yL_draw wsL_draw) := goodIn_app (goodIn_of _ (by decide +kernel)) ggL_year_L_draw
set_option maxRecDepth 20000 in
theorem ggL_year_L_step : GoodIn wsL_year wsL_step := goodIn_hd (List.mem_cons_of_mem _ (List.mem_append_right _ (List.Mem.head _))) (by decide +kernel) (goodIn_app (goodIn_app (goodIn_app (goodIn_app (goodIn_app (goodIn_r _ [66, 67, 68, 3, 69, 70, 71, 72, 73, 16, 74, 75, 76, 77, 78, 79, 15, 80, 81, 28, 29, 30, 31, 33, 82, 83, 84, 85, 35, 86, 87, 88, 89, 34, 90, 91, 92, 93, 94, 95, 96, 97, 98, 23, 22, 18, 99, 100, 101, 21, 102, 46, 47, 48, 49, 40, 41, 42, 43, 44, 45, 50, 51, 52, 53, 54, 55, 56, 103, 104, 105, 106, 107, 108, 109, 110, 111, 112, 113, 114, 115, 116, 117, 118, 119, 120, 121, 122, 123, 124, 125, 126, 127, 128, 129, 130, 131, 132, 133, 134, 135, 136, 137, 138, 139, 140, 141, 142, 143, 144, 145, 146, 147, 59, 148, 149, 150, 151, 152, 153, 154, 155, 156, 157, 158, 159, 160, 161, 162, 163, 164, 165, 166, 167, 168, 169, 170, 171, 172, 173, 174, 175, 176, 177, 178, 179, 180, 181, 182, 183, 184, 185, 186, 187, 188, 189, 190, 191, 192, 193, 194, 195, 196, 197, 198, 199, 200, 201, 202, 203, 204, 205, 206, 207, 208, 4, 209, 210, 211, 212, 213, 214, 215, 216, 217, 218, 219, 220, 221, 222, 223, 224, 225, 226, 227, 228, 229, 230, 231, 232, 233, 234, 235, 236, 237, 238, 239, 240, 241, 306, 307, 308, 309, 310, 311, 312, 313, 314, 315, 316, 317, 318, 319, 320, 321, 322, 323, 324, 325, 326, 327] (by decide +kernel) (by decide +kernel)) (goodIn_sub (fun _ h => List.mem_cons_of_mem _ (List.mem_append_left _ (List.mem_append_left _ (List.mem_append_left _ (List.mem_append_left _ (List.mem_append_right _ h)))))) (by decide +kernel))) (goodIn_sub (fun _ h => List.mem_cons_of_mem _ (List.mem_append_left _ (List.mem_append_left _ (List.mem_append_left _ (List.mem_append_right _ h))))) (by decide +kernel))) (goodIn_sub (fun _ h => List.mem_cons_of_mem _ (List.mem_append_left _ (List.mem_append_left _ (List.mem_append_right _ h)))) (by decide +kernel))) (goodIn_sub (fun _ h => List.mem_cons_of_mem _ (List.mem_append_left _ (List.mem_append_right _ h))) (by decide +kernel))) (goodIn_sub (fun w h => (List.mem_cons.mp h).elim (fun e => by rw [e]; exact List.mem_cons_of_mem _ (List.mem_append_right _ (List.Mem.tail _ (List.Mem.tail _ (List.Mem.tail _ (List.Mem.tail _ (List.Mem.head _))))))) (fun h => absurd h List.not_mem_nil)) (by decide +kernel)))
set_option maxRecDepth 20000 in
theorem gL_year_L_step : GoodIn wsL_year (va_wsS RL 122 yL_step wsL_step) := goodIn_app (goodIn_of _ (by decide +kernel)) ggL_year_L_step
set_option maxRecDepth 20000 in
theorem ggL_year_L_isOrder : GoodIn wsL_year wsL_isOrder := goodIn_hd (List.mem_cons_of_mem _ (List.mem_append_right _ (List.Mem.tail _ (List.Mem.head _)))) (by decide +kernel) (goodIn_app (goodIn_r _ [244, 245, 246, 3, 247, 16, 220, 221, 222, 223, 153, 154, 74, 75, 76, 146, 147, 59, 148, 149, 150, 151, 152, 155, 156, 157, 158, 159, 160, 161, 15, 162, 34, 81, 163, 164, 165, 166, 90, 91, 306, 307, 308, 309, 310, 311, 312, 313, 314, 315, 316, 317, 318] (by decide +kernel) (by decide +kernel)) (goodIn_sub (fun _ h => List.mem_cons_of_mem _ (List.mem_append_left _ (List.mem_append_left _ (List.mem_append_right _ h)))) (by decide +kernel)))
set_option maxRecDepth 20000 in
theorem gL_year_L_isOrder : GoodIn wsL_year (va_wsS RL 126 yL_isOrder wsL_isOrder) := goodIn_app (goodIn_of _ (by decide +kernel)) ggL_year_L_isOrder
set_option maxRecDepth 20000 in
theorem ggL_year_L_isPlan : GoodIn wsL_year wsL_isPlan := goodIn_hd (List.mem_cons_of_mem _ (List.mem_append_right _ (List.Mem.tail _ (List.Mem.tail _ (List.Mem.head _))))) (by decide +kernel) (goodIn_app (goodIn_app (goodIn_r _ [4, 209, 210, 59, 211, 212, 213, 214, 3, 215, 153, 154, 16, 22, 155, 156, 157, 158, 74, 75, 76, 216, 217, 218, 219, 220, 221, 222, 223, 250, 251, 252, 238, 239, 240, 241, 228, 229, 230, 204, 205, 206, 253, 254, 255, 256, 257, 258, 259, 260, 261, 262, 263, 264, 265, 266, 306, 307, 308, 309, 310, 311, 312, 313, 314, 315, 316, 317, 318, 319, 320, 321, 322, 323, 324, 325, 326, 327] (by decide +kernel) (by decide +kernel)) (goodIn_sub (fun _ h => List.mem_cons_of_mem _ (List.mem_append_left _ (List.mem_append_left _ (List.mem_append_right _ h)))) (by decide +kernel))) (goodIn_sub (fun w h => (List.mem_cons.mp h).elim (fun e => by rw [e]; exact List.mem_cons_of_mem _ (List.mem_append_right _ (List.Mem.tail _ (List.Mem.tail _ (List.Mem.tail _ (List.Mem.head _)))))) (fun h => absurd h List.not_mem_nil)) (by decide +kernel)))
set_option maxRecDepth 20000 in
theorem gL_year_L_isPlan : GoodIn wsL_year (va_wsS RL 130 yL_isPlan wsL_isPlan) := goodIn_app (goodIn_of _ (by decide +kernel)) ggL_year_L_isPlan
set_option maxRecDepth 20000 in
theorem ggL_year_L_isWorth : GoodIn wsL_year wsL_isWorth := goodIn_ca (goodIn_r _ [269, 270, 271, 272, 3, 273, 70, 71, 16, 74, 75, 76, 274, 275, 276, 15, 277, 81, 278, 279, 280, 281, 34, 90, 91, 92, 93, 94, 282, 283, 284, 285, 30, 28, 286, 181, 182, 183, 184, 185, 186, 287, 288, 59, 289, 146, 147, 148, 290, 291, 292, 293, 294, 295, 296, 297, 187, 188, 189, 298, 299, 300, 301, 302, 303, 304, 305, 306, 307, 308, 309, 310, 311, 312, 313, 314, 315, 316, 317, 318] (by decide +kernel) (by decide +kernel)) (goodIn_sub (fun _ h => List.mem_cons_of_mem _ (List.mem_append_left _ (List.mem_append_left _ (List.mem_append_left _ (List.mem_append_left _ (List.mem_append_right _ h)))))) (by decide +kernel))
set_option maxRecDepth 20000 in
theorem gL_year_L_isWorth : GoodIn wsL_year (va_wsS RL 134 yL_isWorth wsL_isWorth) := goodIn_app (goodIn_of _ (by decide +kernel)) ggL_year_L_isWorth
theorem dL_year_0 : decode cL_year 0 = .ok (.new 11, 3) := by decide +kernel
theorem dL_year_3 : decode cL_year 3 = .ok (.dup, 1) := by decide +kernel
theorem dL_year_4 : decode cL_year 4 = .ok (.invokespecial 116, 3) := by decide +kernel
theorem dL_year_7 : decode cL_year 7 = .ok (.astore_n 2, 1) := by decide +kernel
theorem dL_year_8 : decode cL_year 8 = .ok (.bipush 60, 2) := by decide +kernel
theorem dL_year_10 : decode cL_year 10 = .ok (.newarray .int, 2) := by decide +kernel
theorem dL_year_12 : decode cL_year 12 = .ok (.astore_n 3, 1) := by decide +kernel
theorem dL_year_13 : decode cL_year 13 = .ok (.bipush 24, 2) := by decide +kernel
theorem dL_year_15 : decode cL_year 15 = .ok (.newarray .int, 2) := by decide +kernel
theorem dL_year_17 : decode cL_year 17 = .ok (.astore 4, 2) := by decide +kernel
theorem dL_year_19 : decode cL_year 19 = .ok (.iconst 1, 1) := by decide +kernel
theorem dL_year_20 : decode cL_year 20 = .ok (.newarray .int, 2) := by decide +kernel
theorem dL_year_22 : decode cL_year 22 = .ok (.astore 5, 2) := by decide +kernel
theorem dL_year_24 : decode cL_year 24 = .ok (.iconst 2, 1) := by decide +kernel
theorem dL_year_25 : decode cL_year 25 = .ok (.newarray .long, 2) := by decide +kernel
theorem dL_year_27 : decode cL_year 27 = .ok (.astore 6, 2) := by decide +kernel
theorem dL_year_29 : decode cL_year 29 = .ok (.iconst 0, 1) := by decide +kernel
theorem dL_year_30 : decode cL_year 30 = .ok (.istore 7, 2) := by decide +kernel
theorem dL_year_32 : decode cL_year 32 = .ok (.iload 7, 2) := by decide +kernel
theorem dL_year_34 : decode cL_year 34 = .ok (.bipush 36, 2) := by decide +kernel
theorem dL_year_36 : decode cL_year 36 = .ok (.if_icmp .ge 148, 3) := by decide +kernel
theorem dL_year_39 : decode cL_year 39 = .ok (.aload_n 0, 1) := by decide +kernel
theorem dL_year_40 : decode cL_year 40 = .ok (.iload_n 1, 1) := by decide +kernel
theorem dL_year_41 : decode cL_year 41 = .ok (.iconst 3, 1) := by decide +kernel
theorem dL_year_42 : decode cL_year 42 = .ok (.iload 7, 2) := by decide +kernel
theorem dL_year_44 : decode cL_year 44 = .ok (.imul, 1) := by decide +kernel
theorem dL_year_45 : decode cL_year 45 = .ok (.iadd, 1) := by decide +kernel
theorem dL_year_46 : decode cL_year 46 = .ok (.iconst 1, 1) := by decide +kernel
theorem dL_year_47 : decode cL_year 47 = .ok (.iadd, 1) := by decide +kernel
theorem dL_year_48 : decode cL_year 48 = .ok (.ldc 117, 2) := by decide +kernel
theorem dL_year_50 : decode cL_year 50 = .ok (.invokestatic 118, 3) := by decide +kernel
theorem dL_year_53 : decode cL_year 53 = .ok (.istore 8, 2) := by decide +kernel
theorem dL_year_55 : decode cL_year 55 = .ok (.aload_n 0, 1) := by decide +kernel
theorem dL_year_56 : decode cL_year 56 = .ok (.iload_n 1, 1) := by decide +kernel
theorem dL_year_57 : decode cL_year 57 = .ok (.iconst 3, 1) := by decide +kernel
theorem dL_year_58 : decode cL_year 58 = .ok (.iload 7, 2) := by decide +kernel
theorem dL_year_60 : decode cL_year 60 = .ok (.imul, 1) := by decide +kernel
theorem dL_year_61 : decode cL_year 61 = .ok (.iadd, 1) := by decide +kernel
theorem dL_year_62 : decode cL_year 62 = .ok (.iconst 2, 1) := by decide +kernel
theorem dL_year_63 : decode cL_year 63 = .ok (.iadd, 1) := by decide +kernel
theorem dL_year_64 : decode cL_year 64 = .ok (.ldc 117, 2) := by decide +kernel
theorem dL_year_66 : decode cL_year 66 = .ok (.invokestatic 118, 3) := by decide +kernel
theorem dL_year_69 : decode cL_year 69 = .ok (.istore 9, 2) := by decide +kernel
theorem dL_year_71 : decode cL_year 71 = .ok (.aload_n 2, 1) := by decide +kernel
theorem dL_year_72 : decode cL_year 72 = .ok (.iload 7, 2) := by decide +kernel
theorem dL_year_74 : decode cL_year 74 = .ok (.iconst 5, 1) := by decide +kernel
theorem dL_year_75 : decode cL_year 75 = .ok (.if_icmp .ge 7, 3) := by decide +kernel
theorem dL_year_78 : decode cL_year 78 = .ok (.iconst 0, 1) := by decide +kernel
theorem dL_year_79 : decode cL_year 79 = .ok (.goto 15, 3) := by decide +kernel
theorem dL_year_82 : decode cL_year 82 = .ok (.aload_n 0, 1) := by decide +kernel
theorem dL_year_83 : decode cL_year 83 = .ok (.iload_n 1, 1) := by decide +kernel
theorem dL_year_84 : decode cL_year 84 = .ok (.iconst 3, 1) := by decide +kernel
theorem dL_year_85 : decode cL_year 85 = .ok (.iload 7, 2) := by decide +kernel
theorem dL_year_87 : decode cL_year 87 = .ok (.imul, 1) := by decide +kernel
theorem dL_year_88 : decode cL_year 88 = .ok (.iadd, 1) := by decide +kernel
theorem dL_year_89 : decode cL_year 89 = .ok (.bipush 14, 2) := by decide +kernel
theorem dL_year_91 : decode cL_year 91 = .ok (.invokestatic 118, 3) := by decide +kernel
theorem dL_year_94 : decode cL_year 94 = .ok (.iload 8, 2) := by decide +kernel
theorem dL_year_96 : decode cL_year 96 = .ok (.iload 9, 2) := by decide +kernel
theorem dL_year_98 : decode cL_year 98 = .ok (.aload_n 3, 1) := by decide +kernel
theorem dL_year_99 : decode cL_year 99 = .ok (.aload 4, 2) := by decide +kernel
theorem dL_year_101 : decode cL_year 101 = .ok (.aload 5, 2) := by decide +kernel
theorem dL_year_103 : decode cL_year 103 = .ok (.aload 6, 2) := by decide +kernel
theorem dL_year_105 : decode cL_year 105 = .ok (.invokestatic 122, 3) := by decide +kernel
theorem dL_year_108 : decode cL_year 108 = .ok (.ifCond .eq 68, 3) := by decide +kernel
theorem dL_year_111 : decode cL_year 111 = .ok (.iload 7, 2) := by decide +kernel
theorem dL_year_113 : decode cL_year 113 = .ok (.iconst 3, 1) := by decide +kernel
theorem dL_year_114 : decode cL_year 114 = .ok (.if_icmp .le 13, 3) := by decide +kernel
theorem dL_year_117 : decode cL_year 117 = .ok (.aload_n 2, 1) := by decide +kernel
theorem dL_year_118 : decode cL_year 118 = .ok (.aload_n 3, 1) := by decide +kernel
theorem dL_year_119 : decode cL_year 119 = .ok (.aload 5, 2) := by decide +kernel
theorem dL_year_121 : decode cL_year 121 = .ok (.invokestatic 126, 3) := by decide +kernel
theorem dL_year_124 : decode cL_year 124 = .ok (.ifCond .eq 52, 3) := by decide +kernel
theorem dL_year_127 : decode cL_year 127 = .ok (.iload 7, 2) := by decide +kernel
theorem dL_year_129 : decode cL_year 129 = .ok (.iconst 4, 1) := by decide +kernel
theorem dL_year_130 : decode cL_year 130 = .ok (.irem, 1) := by decide +kernel
theorem dL_year_131 : decode cL_year 131 = .ok (.iconst 3, 1) := by decide +kernel
theorem dL_year_132 : decode cL_year 132 = .ok (.if_icmp .ne 17, 3) := by decide +kernel
theorem dL_year_135 : decode cL_year 135 = .ok (.aload_n 2, 1) := by decide +kernel
theorem dL_year_136 : decode cL_year 136 = .ok (.aload_n 3, 1) := by decide +kernel
theorem dL_year_137 : decode cL_year 137 = .ok (.aload 4, 2) := by decide +kernel
theorem dL_year_139 : decode cL_year 139 = .ok (.aload 5, 2) := by decide +kernel
theorem dL_year_141 : decode cL_year 141 = .ok (.aload 6, 2) := by decide +kernel
theorem dL_year_143 : decode cL_year 143 = .ok (.invokestatic 130, 3) := by decide +kernel
theorem dL_year_146 : decode cL_year 146 = .ok (.ifCond .eq 30, 3) := by decide +kernel
theorem dL_year_149 : decode cL_year 149 = .ok (.iload 7, 2) := by decide +kernel
