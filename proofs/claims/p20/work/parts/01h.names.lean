theorem dL_year_151 : decode cL_year 151 = .ok (.bipush 6, 2) := by decide +kernel
theorem dL_year_153 : decode cL_year 153 = .ok (.irem, 1) := by decide +kernel
theorem dL_year_154 : decode cL_year 154 = .ok (.iconst 5, 1) := by decide +kernel
theorem dL_year_155 : decode cL_year 155 = .ok (.if_icmp .ne 23, 3) := by decide +kernel
theorem dL_year_158 : decode cL_year 158 = .ok (.aload_n 2, 1) := by decide +kernel
theorem dL_year_159 : decode cL_year 159 = .ok (.aload_n 3, 1) := by decide +kernel
theorem dL_year_160 : decode cL_year 160 = .ok (.aload 5, 2) := by decide +kernel
theorem dL_year_162 : decode cL_year 162 = .ok (.iload 8, 2) := by decide +kernel
theorem dL_year_164 : decode cL_year 164 = .ok (.bipush 9, 2) := by decide +kernel
theorem dL_year_166 : decode cL_year 166 = .ok (.idiv, 1) := by decide +kernel
theorem dL_year_167 : decode cL_year 167 = .ok (.bipush 30, 2) := by decide +kernel
theorem dL_year_169 : decode cL_year 169 = .ok (.irem, 1) := by decide +kernel
theorem dL_year_170 : decode cL_year 170 = .ok (.invokestatic 134, 3) := by decide +kernel
theorem dL_year_173 : decode cL_year 173 = .ok (.ifCond .ne 5, 3) := by decide +kernel
theorem dL_year_176 : decode cL_year 176 = .ok (.iconst 0, 1) := by decide +kernel
theorem dL_year_177 : decode cL_year 177 = .ok (.ireturn, 1) := by decide +kernel
theorem dL_year_178 : decode cL_year 178 = .ok (.iinc 7 1, 3) := by decide +kernel
theorem dL_year_181 : decode cL_year 181 = .ok (.goto (-149), 3) := by decide +kernel
theorem dL_year_184 : decode cL_year 184 = .ok (.aload_n 2, 1) := by decide +kernel
theorem dL_year_185 : decode cL_year 185 = .ok (.aload_n 3, 1) := by decide +kernel
theorem dL_year_186 : decode cL_year 186 = .ok (.aload 4, 2) := by decide +kernel
theorem dL_year_188 : decode cL_year 188 = .ok (.aload 5, 2) := by decide +kernel
theorem dL_year_190 : decode cL_year 190 = .ok (.aload 6, 2) := by decide +kernel
theorem dL_year_192 : decode cL_year 192 = .ok (.invokestatic 130, 3) := by decide +kernel
theorem dL_year_195 : decode cL_year 195 = .ok (.ifCond .eq 30, 3) := by decide +kernel
theorem dL_year_198 : decode cL_year 198 = .ok (.aload_n 2, 1) := by decide +kernel
theorem dL_year_199 : decode cL_year 199 = .ok (.aload_n 3, 1) := by decide +kernel
theorem dL_year_200 : decode cL_year 200 = .ok (.aload 5, 2) := by decide +kernel
theorem dL_year_202 : decode cL_year 202 = .ok (.bipush 99, 2) := by decide +kernel
theorem dL_year_204 : decode cL_year 204 = .ok (.invokestatic 134, 3) := by decide +kernel
theorem dL_year_207 : decode cL_year 207 = .ok (.ifCond .eq 18, 3) := by decide +kernel
theorem dL_year_210 : decode cL_year 210 = .ok (.aload_n 2, 1) := by decide +kernel
theorem dL_year_211 : decode cL_year 211 = .ok (.aload_n 3, 1) := by decide +kernel
theorem dL_year_212 : decode cL_year 212 = .ok (.aload 5, 2) := by decide +kernel
theorem dL_year_214 : decode cL_year 214 = .ok (.iconst 0, 1) := by decide +kernel
theorem dL_year_215 : decode cL_year 215 = .ok (.invokestatic 134, 3) := by decide +kernel
theorem dL_year_218 : decode cL_year 218 = .ok (.ifCond .eq 7, 3) := by decide +kernel
theorem dL_year_221 : decode cL_year 221 = .ok (.iconst 1, 1) := by decide +kernel
theorem dL_year_222 : decode cL_year 222 = .ok (.goto 4, 3) := by decide +kernel
theorem dL_year_225 : decode cL_year 225 = .ok (.iconst 0, 1) := by decide +kernel
theorem dL_year_226 : decode cL_year 226 = .ok (.ireturn, 1) := by decide +kernel
set_option maxRecDepth 20000 in
theorem ggL_law_L_year : GoodIn wsL_law wsL_year := goodIn_hd (List.mem_append_right _ (List.Mem.head _)) (by decide +kernel) (goodIn_app (goodIn_app (goodIn_app (goodIn_app (goodIn_app (goodIn_r _ [3, 4, 5, 6, 7, 8, 9, 10, 11, 12, 13, 14, 15, 16, 17, 18, 19, 20, 21, 22, 23, 24, 25, 26, 27, 28, 29, 30, 31, 32, 33, 34, 35, 36, 37, 38, 39, 40, 41, 42, 43, 44, 45, 46, 47, 48, 49, 50, 51, 52, 53, 54, 55, 56, 57, 58, 59, 60, 2, 61, 62, 63, 64, 65, 66, 67, 68, 69, 70, 71, 72, 73, 74, 75, 76, 77, 78, 79, 80, 81, 82, 83, 84, 85, 86, 87, 88, 89, 90, 91, 92, 93, 94, 95, 96, 97, 98, 99, 100, 101, 102, 103, 104, 105, 106, 107, 108, 109, 110, 111, 112, 113, 114, 115, 116, 117, 118, 119, 120, 121, 122, 123, 124, 125, 126, 127, 128, 129, 130, 131, 132, 133, 134, 135, 136, 137, 138, 139, 140, 141, 142, 143, 144, 145, 146, 147, 148, 149, 150, 151, 152, 153, 154, 155, 156, 157, 158, 159, 160, 161, 162, 163, 164, 165, 166, 167, 168, 169, 170, 171, 172, 173, 174, 175, 176, 177, 178, 179, 180, 181, 182, 183, 184, 185, 186, 187, 188, 189, 190, 191, 192, 193, 194, 195, 196, 197, 198, 199, 200, 201, 202, 203, 204, 205, 206, 207, 208, 209, 210, 211, 212, 213, 214, 215, 216, 217, 218, 219, 220, 221, 222, 223, 224, 225, 226, 227, 228, 229, 230, 231, 232, 233, 234, 235, 236, 237, 238, 239, 240, 241, 242, 243, 244, 245, 246, 247, 248, 249, 250, 251, 252, 253, 254, 255, 256, 257, 258, 259, 260, 261, 262, 263, 264, 265, 266, 267, 268, 269, 270, 271, 272, 273, 274, 275, 276, 277, 278, 279, 280, 281, 282, 283, 284, 285, 286, 287, 288, 289, 290, 291, 292, 293, 294, 295, 296, 297, 298, 299, 300, 301, 302, 303, 304, 305, 306, 307, 308, 309, 310, 311, 312, 313, 314, 315, 316, 317, 318, 319, 320, 321, 322, 323, 324, 325, 326, 327, 328] (by decide +kernel) (by decide +kernel)) (goodIn_sub (fun _ h => List.mem_append_left _ (List.mem_append_left _ (List.mem_append_left _ (List.mem_append_left _ (List.mem_append_right _ h))))) (by decide +kernel))) (goodIn_sub (fun _ h => List.mem_append_left _ (List.mem_append_left _ (List.mem_append_left _ (List.mem_append_right _ h)))) (by decide +kernel))) (goodIn_sub (fun _ h => List.mem_append_left _ (List.mem_append_left _ (List.mem_append_right _ h))) (by decide +kernel))) (goodIn_sub (fun _ h => List.mem_append_left _ (List.mem_append_right _ h)) (by decide +kernel))) (goodIn_sub (fun w h => (List.mem_cons.mp h).elim (fun e => by rw [e]; exact List.mem_append_right _ (List.Mem.tail _ (List.Mem.head _))) (fun h => (List.mem_cons.mp h).elim (fun e => by rw [e]; exact List.mem_append_right _ (List.Mem.tail _ (List.Mem.tail _ (List.Mem.head _)))) (fun h => (List.mem_cons.mp h).elim (fun e => by rw [e]; exact List.mem_append_right _ (List.Mem.tail _ (List.Mem.tail _ (List.Mem.tail _ (List.Mem.head _))))) (fun h => (List.mem_cons.mp h).elim (fun e => by rw [e]; exact List.mem_append_right _ (List.Mem.tail _ (List.Mem.tail _ (List.Mem.tail _ (List.Mem.tail _ (List.Mem.head _)))))) (fun h => (List.mem_cons.mp h).elim (fun e => by rw [e]; exact List.mem_append_right _ (List.Mem.tail _ (List.Mem.tail _ (List.Mem.tail _ (List.Mem.tail _ (List.Mem.tail _ (List.Mem.head _))))))) (fun h => absurd h List.not_mem_nil)))))) (by decide +kernel)))
set_option maxRecDepth 20000 in
theorem gL_law_L_year : GoodIn wsL_law (va_wsS RL 138 yL_year wsL_year) := goodIn_app (goodIn_of _ (by decide +kernel)) ggL_law_L_year
theorem dL_law_0 : decode cL_law 0 = .ok (.aload_n 0, 1) := by decide +kernel
theorem dL_law_1 : decode cL_law 1 = .ok (.iconst 0, 1) := by decide +kernel
theorem dL_law_2 : decode cL_law 2 = .ok (.invokestatic 138, 3) := by decide +kernel
theorem dL_law_5 : decode cL_law 5 = .ok (.ifCond .eq 26, 3) := by decide +kernel
theorem dL_law_8 : decode cL_law 8 = .ok (.aload_n 0, 1) := by decide +kernel
theorem dL_law_9 : decode cL_law 9 = .ok (.bipush 115, 2) := by decide +kernel
theorem dL_law_11 : decode cL_law 11 = .ok (.invokestatic 138, 3) := by decide +kernel
theorem dL_law_14 : decode cL_law 14 = .ok (.ifCond .eq 17, 3) := by decide +kernel
theorem dL_law_17 : decode cL_law 17 = .ok (.aload_n 0, 1) := by decide +kernel
theorem dL_law_18 : decode cL_law 18 = .ok (.sipush 230, 3) := by decide +kernel
theorem dL_law_21 : decode cL_law 21 = .ok (.invokestatic 138, 3) := by decide +kernel
theorem dL_law_24 : decode cL_law 24 = .ok (.ifCond .eq 7, 3) := by decide +kernel
theorem dL_law_27 : decode cL_law 27 = .ok (.iconst 1, 1) := by decide +kernel
theorem dL_law_28 : decode cL_law 28 = .ok (.goto 4, 3) := by decide +kernel
theorem dL_law_31 : decode cL_law 31 = .ok (.iconst 0, 1) := by decide +kernel
theorem dL_law_32 : decode cL_law 32 = .ok (.ireturn, 1) := by decide +kernel
