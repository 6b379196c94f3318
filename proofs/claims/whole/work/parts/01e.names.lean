set_option maxRecDepth 20000 in
theorem ggX3_plans_X3_orders : GoodIn wsX3_plans wsX3_orders := goodIn_r _ [12, 13, 14, 15, 16, 41, 42, 43, 44, 45, 46, 47, 48, 49, 50, 51, 52, 53, 54, 55, 56, 57, 58] (by decide +kernel) (by decide +kernel)
set_option maxRecDepth 20000 in
theorem gX3_plans_X3_orders : GoodIn wsX3_plans (wsV RX3 85 RX3 yX3_orders wsX3_orders) := goodIn_app (goodIn_of _ (by decide +kernel)) ggX3_plans_X3_orders
set_option maxRecDepth 20000 in
theorem ggX3_plans_X3_revisitFor : GoodIn wsX3_plans wsX3_revisitFor := goodIn_r _ [20, 13, 21, 22, 23, 11, 24, 3, 2, 25, 26, 4, 5, 27, 28, 29, 30, 31, 41, 42, 43, 44, 45, 46, 47, 48, 49, 50, 51, 52, 53, 54, 55, 56, 57, 58] (by decide +kernel) (by decide +kernel)
set_option maxRecDepth 20000 in
theorem gX3_plans_X3_revisitFor : GoodIn wsX3_plans (wsV RX3 97 RX3 yX3_revisitFor wsX3_revisitFor) := goodIn_app (goodIn_of _ (by decide +kernel)) ggX3_plans_X3_revisitFor
set_option maxRecDepth 20000 in
theorem ggX3_plans_X3_nextAim : GoodIn wsX3_plans wsX3_nextAim := goodIn_r _ [35, 13, 2, 16, 25, 41, 42, 43, 44, 45, 46, 47, 48, 49, 50, 51, 52, 53, 54, 55, 56, 57, 58] (by decide +kernel) (by decide +kernel)
set_option maxRecDepth 20000 in
theorem gX3_plans_X3_nextAim : GoodIn wsX3_plans (wsV RX3 100 RX3 yX3_nextAim wsX3_nextAim) := goodIn_app (goodIn_of _ (by decide +kernel)) ggX3_plans_X3_nextAim
set_option maxRecDepth 20000 in
theorem ggX3_plans_X3_lateFrom : GoodIn wsX3_plans wsX3_lateFrom := goodIn_r _ [31, 27, 3, 21, 22, 23, 11, 24, 2, 25, 26, 4, 5, 41, 42, 43, 44, 45, 46, 47, 48, 49, 50, 51, 52, 53, 54, 55, 56, 57, 58] (by decide +kernel) (by decide +kernel)
set_option maxRecDepth 20000 in
theorem gX3_plans_X3_lateFrom : GoodIn wsX3_plans (wsV RX3 91 RX3 yX3_lateFrom wsX3_lateFrom) := goodIn_app (goodIn_of _ (by decide +kernel)) ggX3_plans_X3_lateFrom
set_option maxRecDepth 20000 in
theorem ggX3_plans_X3_isHeld : GoodIn wsX3_plans wsX3_isHeld := goodIn_r _ [39, 6, 40, 41, 42, 43, 44, 45, 46, 47, 48, 49, 50, 51, 52, 53, 54, 55, 56, 57, 58] (by decide +kernel) (by decide +kernel)
set_option maxRecDepth 20000 in
theorem gX3_plans_X3_isHeld : GoodIn wsX3_plans (wsV RX3 104 RX3 yX3_isHeld wsX3_isHeld) := goodIn_app (goodIn_of _ (by decide +kernel)) ggX3_plans_X3_isHeld
theorem dX3_plans_0 : decode cX3_plans 0 = .ok (.aload_n 0, 1) := by decide +kernel
theorem dX3_plans_1 : decode cX3_plans 1 = .ok (.invokevirtual 85, 3) := by decide +kernel
theorem dX3_plans_4 : decode cX3_plans 4 = .ok (.aload_n 0, 1) := by decide +kernel
theorem dX3_plans_5 : decode cX3_plans 5 = .ok (.iconst 0, 1) := by decide +kernel
theorem dX3_plans_6 : decode cX3_plans 6 = .ok (.putfield 94, 3) := by decide +kernel
theorem dX3_plans_9 : decode cX3_plans 9 = .ok (.iconst 0, 1) := by decide +kernel
theorem dX3_plans_10 : decode cX3_plans 10 = .ok (.istore_n 1, 1) := by decide +kernel
theorem dX3_plans_11 : decode cX3_plans 11 = .ok (.iload_n 1, 1) := by decide +kernel
theorem dX3_plans_12 : decode cX3_plans 12 = .ok (.bipush 12, 2) := by decide +kernel
theorem dX3_plans_14 : decode cX3_plans 14 = .ok (.if_icmp .ge 23, 3) := by decide +kernel
theorem dX3_plans_17 : decode cX3_plans 17 = .ok (.aload_n 0, 1) := by decide +kernel
theorem dX3_plans_18 : decode cX3_plans 18 = .ok (.getfield 47, 3) := by decide +kernel
theorem dX3_plans_21 : decode cX3_plans 21 = .ok (.iload_n 1, 1) := by decide +kernel
theorem dX3_plans_22 : decode cX3_plans 22 = .ok (.iconst 0, 1) := by decide +kernel
theorem dX3_plans_23 : decode cX3_plans 23 = .ok (.iastore, 1) := by decide +kernel
theorem dX3_plans_24 : decode cX3_plans 24 = .ok (.aload_n 0, 1) := by decide +kernel
theorem dX3_plans_25 : decode cX3_plans 25 = .ok (.getfield 50, 3) := by decide +kernel
theorem dX3_plans_28 : decode cX3_plans 28 = .ok (.iload_n 1, 1) := by decide +kernel
theorem dX3_plans_29 : decode cX3_plans 29 = .ok (.iconst 0, 1) := by decide +kernel
theorem dX3_plans_30 : decode cX3_plans 30 = .ok (.iastore, 1) := by decide +kernel
theorem dX3_plans_31 : decode cX3_plans 31 = .ok (.iinc 1 1, 3) := by decide +kernel
theorem dX3_plans_34 : decode cX3_plans 34 = .ok (.goto (-23), 3) := by decide +kernel
theorem dX3_plans_37 : decode cX3_plans 37 = .ok (.iconst 0, 1) := by decide +kernel
theorem dX3_plans_38 : decode cX3_plans 38 = .ok (.istore_n 1, 1) := by decide +kernel
theorem dX3_plans_39 : decode cX3_plans 39 = .ok (.iload_n 1, 1) := by decide +kernel
theorem dX3_plans_40 : decode cX3_plans 40 = .ok (.bipush 60, 2) := by decide +kernel
theorem dX3_plans_42 : decode cX3_plans 42 = .ok (.if_icmp .ge 16, 3) := by decide +kernel
theorem dX3_plans_45 : decode cX3_plans 45 = .ok (.aload_n 0, 1) := by decide +kernel
theorem dX3_plans_46 : decode cX3_plans 46 = .ok (.getfield 41, 3) := by decide +kernel
theorem dX3_plans_49 : decode cX3_plans 49 = .ok (.iload_n 1, 1) := by decide +kernel
theorem dX3_plans_50 : decode cX3_plans 50 = .ok (.iconst (-1), 1) := by decide +kernel
theorem dX3_plans_51 : decode cX3_plans 51 = .ok (.iastore, 1) := by decide +kernel
theorem dX3_plans_52 : decode cX3_plans 52 = .ok (.iinc 1 1, 3) := by decide +kernel
theorem dX3_plans_55 : decode cX3_plans 55 = .ok (.goto (-16), 3) := by decide +kernel
theorem dX3_plans_58 : decode cX3_plans 58 = .ok (.iconst 0, 1) := by decide +kernel
theorem dX3_plans_59 : decode cX3_plans 59 = .ok (.istore_n 1, 1) := by decide +kernel
theorem dX3_plans_60 : decode cX3_plans 60 = .ok (.iload_n 1, 1) := by decide +kernel
theorem dX3_plans_61 : decode cX3_plans 61 = .ok (.bipush 36, 2) := by decide +kernel
theorem dX3_plans_63 : decode cX3_plans 63 = .ok (.if_icmp .ge 16, 3) := by decide +kernel
theorem dX3_plans_66 : decode cX3_plans 66 = .ok (.aload_n 0, 1) := by decide +kernel
theorem dX3_plans_67 : decode cX3_plans 67 = .ok (.getfield 44, 3) := by decide +kernel
theorem dX3_plans_70 : decode cX3_plans 70 = .ok (.iload_n 1, 1) := by decide +kernel
theorem dX3_plans_71 : decode cX3_plans 71 = .ok (.iconst (-1), 1) := by decide +kernel
theorem dX3_plans_72 : decode cX3_plans 72 = .ok (.iastore, 1) := by decide +kernel
theorem dX3_plans_73 : decode cX3_plans 73 = .ok (.iinc 1 1, 3) := by decide +kernel
theorem dX3_plans_76 : decode cX3_plans 76 = .ok (.goto (-16), 3) := by decide +kernel
theorem dX3_plans_79 : decode cX3_plans 79 = .ok (.iconst 0, 1) := by decide +kernel
theorem dX3_plans_80 : decode cX3_plans 80 = .ok (.istore_n 1, 1) := by decide +kernel
theorem dX3_plans_81 : decode cX3_plans 81 = .ok (.iload_n 1, 1) := by decide +kernel
theorem dX3_plans_82 : decode cX3_plans 82 = .ok (.bipush 100, 2) := by decide +kernel
theorem dX3_plans_84 : decode cX3_plans 84 = .ok (.if_icmp .ge 167, 3) := by decide +kernel
theorem dX3_plans_87 : decode cX3_plans 87 = .ok (.aload_n 0, 1) := by decide +kernel
theorem dX3_plans_88 : decode cX3_plans 88 = .ok (.getfield 38, 3) := by decide +kernel
theorem dX3_plans_91 : decode cX3_plans 91 = .ok (.iload_n 1, 1) := by decide +kernel
theorem dX3_plans_92 : decode cX3_plans 92 = .ok (.iconst (-1), 1) := by decide +kernel
theorem dX3_plans_93 : decode cX3_plans 93 = .ok (.iastore, 1) := by decide +kernel
theorem dX3_plans_94 : decode cX3_plans 94 = .ok (.aload_n 0, 1) := by decide +kernel
theorem dX3_plans_95 : decode cX3_plans 95 = .ok (.getfield 31, 3) := by decide +kernel
theorem dX3_plans_98 : decode cX3_plans 98 = .ok (.iload_n 1, 1) := by decide +kernel
theorem dX3_plans_99 : decode cX3_plans 99 = .ok (.baload, 1) := by decide +kernel
theorem dX3_plans_100 : decode cX3_plans 100 = .ok (.ifCond .eq 7, 3) := by decide +kernel
theorem dX3_plans_103 : decode cX3_plans 103 = .ok (.iconst (-1), 1) := by decide +kernel
theorem dX3_plans_104 : decode cX3_plans 104 = .ok (.goto 8, 3) := by decide +kernel
theorem dX3_plans_107 : decode cX3_plans 107 = .ok (.aload_n 0, 1) := by decide +kernel
theorem dX3_plans_108 : decode cX3_plans 108 = .ok (.iload_n 1, 1) := by decide +kernel
theorem dX3_plans_109 : decode cX3_plans 109 = .ok (.invokevirtual 97, 3) := by decide +kernel
theorem dX3_plans_112 : decode cX3_plans 112 = .ok (.istore_n 2, 1) := by decide +kernel
theorem dX3_plans_113 : decode cX3_plans 113 = .ok (.aload_n 0, 1) := by decide +kernel
theorem dX3_plans_114 : decode cX3_plans 114 = .ok (.getfield 31, 3) := by decide +kernel
theorem dX3_plans_117 : decode cX3_plans 117 = .ok (.iload_n 1, 1) := by decide +kernel
theorem dX3_plans_118 : decode cX3_plans 118 = .ok (.baload, 1) := by decide +kernel
theorem dX3_plans_119 : decode cX3_plans 119 = .ok (.ifCond .eq 7, 3) := by decide +kernel
theorem dX3_plans_122 : decode cX3_plans 122 = .ok (.iconst (-1), 1) := by decide +kernel
theorem dX3_plans_123 : decode cX3_plans 123 = .ok (.goto 7, 3) := by decide +kernel
theorem dX3_plans_126 : decode cX3_plans 126 = .ok (.aload_n 0, 1) := by decide +kernel
theorem dX3_plans_127 : decode cX3_plans 127 = .ok (.invokevirtual 100, 3) := by decide +kernel
theorem dX3_plans_130 : decode cX3_plans 130 = .ok (.istore_n 3, 1) := by decide +kernel
theorem dX3_plans_131 : decode cX3_plans 131 = .ok (.iload_n 2, 1) := by decide +kernel
theorem dX3_plans_132 : decode cX3_plans 132 = .ok (.iconst (-1), 1) := by decide +kernel
theorem dX3_plans_133 : decode cX3_plans 133 = .ok (.if_icmp .eq 65, 3) := by decide +kernel
theorem dX3_plans_136 : decode cX3_plans 136 = .ok (.aload_n 0, 1) := by decide +kernel
theorem dX3_plans_137 : decode cX3_plans 137 = .ok (.dup, 1) := by decide +kernel
theorem dX3_plans_138 : decode cX3_plans 138 = .ok (.getfield 94, 3) := by decide +kernel
theorem dX3_plans_141 : decode cX3_plans 141 = .ok (.iload_n 1, 1) := by decide +kernel
theorem dX3_plans_142 : decode cX3_plans 142 = .ok (.aload_n 0, 1) := by decide +kernel
theorem dX3_plans_143 : decode cX3_plans 143 = .ok (.iload_n 2, 1) := by decide +kernel
theorem dX3_plans_144 : decode cX3_plans 144 = .ok (.invokevirtual 91, 3) := by decide +kernel
theorem dX3_plans_147 : decode cX3_plans 147 = .ok (.if_icmp .lt 7, 3) := by decide +kernel
theorem dX3_plans_150 : decode cX3_plans 150 = .ok (.iconst 1, 1) := by decide +kernel
theorem dX3_plans_151 : decode cX3_plans 151 = .ok (.goto 4, 3) := by decide +kernel
theorem dX3_plans_154 : decode cX3_plans 154 = .ok (.iconst 0, 1) := by decide +kernel
theorem dX3_plans_155 : decode cX3_plans 155 = .ok (.iadd, 1) := by decide +kernel
theorem dX3_plans_156 : decode cX3_plans 156 = .ok (.putfield 94, 3) := by decide +kernel
theorem dX3_plans_159 : decode cX3_plans 159 = .ok (.aload_n 0, 1) := by decide +kernel
theorem dX3_plans_160 : decode cX3_plans 160 = .ok (.getfield 38, 3) := by decide +kernel
theorem dX3_plans_163 : decode cX3_plans 163 = .ok (.iload_n 1, 1) := by decide +kernel
theorem dX3_plans_164 : decode cX3_plans 164 = .ok (.bipush 100, 2) := by decide +kernel
theorem dX3_plans_166 : decode cX3_plans 166 = .ok (.iload_n 2, 1) := by decide +kernel
theorem dX3_plans_167 : decode cX3_plans 167 = .ok (.iadd, 1) := by decide +kernel
theorem dX3_plans_168 : decode cX3_plans 168 = .ok (.iastore, 1) := by decide +kernel
theorem dX3_plans_169 : decode cX3_plans 169 = .ok (.aload_n 0, 1) := by decide +kernel
theorem dX3_plans_170 : decode cX3_plans 170 = .ok (.getfield 44, 3) := by decide +kernel
theorem dX3_plans_173 : decode cX3_plans 173 = .ok (.iconst 3, 1) := by decide +kernel
theorem dX3_plans_174 : decode cX3_plans 174 = .ok (.iload_n 2, 1) := by decide +kernel
theorem dX3_plans_175 : decode cX3_plans 175 = .ok (.imul, 1) := by decide +kernel
theorem dX3_plans_176 : decode cX3_plans 176 = .ok (.aload_n 0, 1) := by decide +kernel
theorem dX3_plans_177 : decode cX3_plans 177 = .ok (.getfield 50, 3) := by decide +kernel
theorem dX3_plans_180 : decode cX3_plans 180 = .ok (.iload_n 2, 1) := by decide +kernel
theorem dX3_plans_181 : decode cX3_plans 181 = .ok (.iaload, 1) := by decide +kernel
theorem dX3_plans_182 : decode cX3_plans 182 = .ok (.iadd, 1) := by decide +kernel
theorem dX3_plans_183 : decode cX3_plans 183 = .ok (.iload_n 1, 1) := by decide +kernel
theorem dX3_plans_184 : decode cX3_plans 184 = .ok (.iastore, 1) := by decide +kernel
theorem dX3_plans_185 : decode cX3_plans 185 = .ok (.aload_n 0, 1) := by decide +kernel
theorem dX3_plans_186 : decode cX3_plans 186 = .ok (.getfield 50, 3) := by decide +kernel
theorem dX3_plans_189 : decode cX3_plans 189 = .ok (.iload_n 2, 1) := by decide +kernel
theorem dX3_plans_190 : decode cX3_plans 190 = .ok (.dup2, 1) := by decide +kernel
theorem dX3_plans_191 : decode cX3_plans 191 = .ok (.iaload, 1) := by decide +kernel
theorem dX3_plans_192 : decode cX3_plans 192 = .ok (.iconst 1, 1) := by decide +kernel
theorem dX3_plans_193 : decode cX3_plans 193 = .ok (.iadd, 1) := by decide +kernel
theorem dX3_plans_194 : decode cX3_plans 194 = .ok (.iastore, 1) := by decide +kernel
theorem dX3_plans_195 : decode cX3_plans 195 = .ok (.goto 50, 3) := by decide +kernel
theorem dX3_plans_198 : decode cX3_plans 198 = .ok (.iload_n 3, 1) := by decide +kernel
theorem dX3_plans_199 : decode cX3_plans 199 = .ok (.iconst (-1), 1) := by decide +kernel
theorem dX3_plans_200 : decode cX3_plans 200 = .ok (.if_icmp .eq 45, 3) := by decide +kernel
theorem dX3_plans_203 : decode cX3_plans 203 = .ok (.aload_n 0, 1) := by decide +kernel
theorem dX3_plans_204 : decode cX3_plans 204 = .ok (.iload_n 3, 1) := by decide +kernel
theorem dX3_plans_205 : decode cX3_plans 205 = .ok (.iload_n 1, 1) := by decide +kernel
theorem dX3_plans_206 : decode cX3_plans 206 = .ok (.invokevirtual 104, 3) := by decide +kernel
theorem dX3_plans_209 : decode cX3_plans 209 = .ok (.ifCond .ne 36, 3) := by decide +kernel
theorem dX3_plans_212 : decode cX3_plans 212 = .ok (.aload_n 0, 1) := by decide +kernel
theorem dX3_plans_213 : decode cX3_plans 213 = .ok (.getfield 38, 3) := by decide +kernel
theorem dX3_plans_216 : decode cX3_plans 216 = .ok (.iload_n 1, 1) := by decide +kernel
theorem dX3_plans_217 : decode cX3_plans 217 = .ok (.iload_n 3, 1) := by decide +kernel
theorem dX3_plans_218 : decode cX3_plans 218 = .ok (.iastore, 1) := by decide +kernel
theorem dX3_plans_219 : decode cX3_plans 219 = .ok (.aload_n 0, 1) := by decide +kernel
theorem dX3_plans_220 : decode cX3_plans 220 = .ok (.getfield 41, 3) := by decide +kernel
theorem dX3_plans_223 : decode cX3_plans 223 = .ok (.iconst 5, 1) := by decide +kernel
theorem dX3_plans_224 : decode cX3_plans 224 = .ok (.iload_n 3, 1) := by decide +kernel
theorem dX3_plans_225 : decode cX3_plans 225 = .ok (.imul, 1) := by decide +kernel
theorem dX3_plans_226 : decode cX3_plans 226 = .ok (.aload_n 0, 1) := by decide +kernel
theorem dX3_plans_227 : decode cX3_plans 227 = .ok (.getfield 47, 3) := by decide +kernel
theorem dX3_plans_230 : decode cX3_plans 230 = .ok (.iload_n 3, 1) := by decide +kernel
theorem dX3_plans_231 : decode cX3_plans 231 = .ok (.iaload, 1) := by decide +kernel
theorem dX3_plans_232 : decode cX3_plans 232 = .ok (.iadd, 1) := by decide +kernel
theorem dX3_plans_233 : decode cX3_plans 233 = .ok (.iload_n 1, 1) := by decide +kernel
theorem dX3_plans_234 : decode cX3_plans 234 = .ok (.iastore, 1) := by decide +kernel
theorem dX3_plans_235 : decode cX3_plans 235 = .ok (.aload_n 0, 1) := by decide +kernel
theorem dX3_plans_236 : decode cX3_plans 236 = .ok (.getfield 47, 3) := by decide +kernel
theorem dX3_plans_239 : decode cX3_plans 239 = .ok (.iload_n 3, 1) := by decide +kernel
theorem dX3_plans_240 : decode cX3_plans 240 = .ok (.dup2, 1) := by decide +kernel
theorem dX3_plans_241 : decode cX3_plans 241 = .ok (.iaload, 1) := by decide +kernel
theorem dX3_plans_242 : decode cX3_plans 242 = .ok (.iconst 1, 1) := by decide +kernel
theorem dX3_plans_243 : decode cX3_plans 243 = .ok (.iadd, 1) := by decide +kernel
theorem dX3_plans_244 : decode cX3_plans 244 = .ok (.iastore, 1) := by decide +kernel
theorem dX3_plans_245 : decode cX3_plans 245 = .ok (.iinc 1 1, 3) := by decide +kernel
theorem dX3_plans_248 : decode cX3_plans 248 = .ok (.goto (-167), 3) := by decide +kernel
theorem dX3_plans_251 : decode cX3_plans 251 = .ok (.return_, 1) := by decide +kernel
theorem dX3_dayOf_0 : decode cX3_dayOf 0 = .ok (.iload_n 1, 1) := by decide +kernel
theorem dX3_dayOf_1 : decode cX3_dayOf 1 = .ok (.bipush 60, 2) := by decide +kernel
theorem dX3_dayOf_3 : decode cX3_dayOf 3 = .ok (.if_icmp .ge 12, 3) := by decide +kernel
theorem dX3_dayOf_6 : decode cX3_dayOf 6 = .ok (.aload_n 0, 1) := by decide +kernel
theorem dX3_dayOf_7 : decode cX3_dayOf 7 = .ok (.getfield 41, 3) := by decide +kernel
theorem dX3_dayOf_10 : decode cX3_dayOf 10 = .ok (.iload_n 1, 1) := by decide +kernel
theorem dX3_dayOf_11 : decode cX3_dayOf 11 = .ok (.iaload, 1) := by decide +kernel
theorem dX3_dayOf_12 : decode cX3_dayOf 12 = .ok (.goto 12, 3) := by decide +kernel
theorem dX3_dayOf_15 : decode cX3_dayOf 15 = .ok (.aload_n 0, 1) := by decide +kernel
theorem dX3_dayOf_16 : decode cX3_dayOf 16 = .ok (.getfield 44, 3) := by decide +kernel
theorem dX3_dayOf_19 : decode cX3_dayOf 19 = .ok (.iload_n 1, 1) := by decide +kernel
theorem dX3_dayOf_20 : decode cX3_dayOf 20 = .ok (.bipush 60, 2) := by decide +kernel
theorem dX3_dayOf_22 : decode cX3_dayOf 22 = .ok (.isub, 1) := by decide +kernel
theorem dX3_dayOf_23 : decode cX3_dayOf 23 = .ok (.iaload, 1) := by decide +kernel
theorem dX3_dayOf_24 : decode cX3_dayOf 24 = .ok (.ireturn, 1) := by decide +kernel
set_option maxRecDepth 20000 in
theorem ggX3_lose_X3_isIn : GoodIn wsX3_lose wsX3_isIn := goodIn_r _ [6] (by decide +kernel) (by decide +kernel)
set_option maxRecDepth 20000 in
theorem gX3_lose_X3_isIn : GoodIn wsX3_lose (va_wsS RX3 63 yX3_isIn wsX3_isIn) := goodIn_app (goodIn_of _ (by decide +kernel)) ggX3_lose_X3_isIn
set_option maxRecDepth 20000 in
theorem ggX3_lose_X3_can : GoodIn wsX3_lose wsX3_can := goodIn_r _ [10, 11, 58, 59, 60, 61, 62, 63, 64, 65, 66, 67, 68, 69, 70, 71, 72, 73, 74, 75] (by decide +kernel) (by decide +kernel)
set_option maxRecDepth 20000 in
theorem gX3_lose_X3_can : GoodIn wsX3_lose (wsV RX3 67 RX3 yX3_can wsX3_can) := goodIn_app (goodIn_of _ (by decide +kernel)) ggX3_lose_X3_can
set_option maxRecDepth 20000 in
theorem ggX3_lose_X3_plans : GoodIn wsX3_lose wsX3_plans := goodIn_r _ [15, 16, 17, 18, 19, 20, 21, 1, 22, 23, 24, 5, 25, 26, 27, 28, 29, 30, 31, 32, 33, 34, 35, 36, 37, 38, 39, 40, 41, 42, 43, 44, 45, 46, 47, 48, 49, 50, 51, 52, 53, 58, 59, 60, 61, 62, 63, 64, 65, 66, 67, 68, 69, 70, 71, 72, 73, 74, 75] (by decide +kernel) (by decide +kernel)
set_option maxRecDepth 20000 in
theorem gX3_lose_X3_plans : GoodIn wsX3_lose (wsV RX3 107 RX3 yX3_plans wsX3_plans) := goodIn_app (goodIn_of _ (by decide +kernel)) ggX3_lose_X3_plans
set_option maxRecDepth 20000 in
theorem ggX3_lose_X3_dayOf : GoodIn wsX3_lose wsX3_dayOf := goodIn_r _ [57, 19, 20, 58, 59, 60, 61, 62, 63, 64, 65, 66, 67, 68, 69, 70, 71, 72, 73, 74, 75] (by decide +kernel) (by decide +kernel)
set_option maxRecDepth 20000 in
theorem gX3_lose_X3_dayOf : GoodIn wsX3_lose (wsV RX3 110 RX3 yX3_dayOf wsX3_dayOf) := goodIn_app (goodIn_of _ (by decide +kernel)) ggX3_lose_X3_dayOf
theorem dX3_lose_0 : decode cX3_lose 0 = .ok (.aload_n 0, 1) := by decide +kernel
theorem dX3_lose_1 : decode cX3_lose 1 = .ok (.iload_n 1, 1) := by decide +kernel
theorem dX3_lose_2 : decode cX3_lose 2 = .ok (.iconst 0, 1) := by decide +kernel
theorem dX3_lose_3 : decode cX3_lose 3 = .ok (.bipush 99, 2) := by decide +kernel
theorem dX3_lose_5 : decode cX3_lose 5 = .ok (.invokestatic 63, 3) := by decide +kernel
theorem dX3_lose_8 : decode cX3_lose 8 = .ok (.ifCond .ne 7, 3) := by decide +kernel
theorem dX3_lose_11 : decode cX3_lose 11 = .ok (.iconst 1, 1) := by decide +kernel
theorem dX3_lose_12 : decode cX3_lose 12 = .ok (.goto 17, 3) := by decide +kernel
theorem dX3_lose_15 : decode cX3_lose 15 = .ok (.aload_n 0, 1) := by decide +kernel
theorem dX3_lose_16 : decode cX3_lose 16 = .ok (.getfield 31, 3) := by decide +kernel
theorem dX3_lose_19 : decode cX3_lose 19 = .ok (.iload_n 1, 1) := by decide +kernel
theorem dX3_lose_20 : decode cX3_lose 20 = .ok (.baload, 1) := by decide +kernel
theorem dX3_lose_21 : decode cX3_lose 21 = .ok (.ifCond .eq 7, 3) := by decide +kernel
theorem dX3_lose_24 : decode cX3_lose 24 = .ok (.iconst 2, 1) := by decide +kernel
theorem dX3_lose_25 : decode cX3_lose 25 = .ok (.goto 4, 3) := by decide +kernel
theorem dX3_lose_28 : decode cX3_lose 28 = .ok (.iconst 0, 1) := by decide +kernel
theorem dX3_lose_29 : decode cX3_lose 29 = .ok (.invokevirtual 67, 3) := by decide +kernel
theorem dX3_lose_32 : decode cX3_lose 32 = .ok (.ifCond .ne 5, 3) := by decide +kernel
theorem dX3_lose_35 : decode cX3_lose 35 = .ok (.iconst 0, 1) := by decide +kernel
theorem dX3_lose_36 : decode cX3_lose 36 = .ok (.ireturn, 1) := by decide +kernel
theorem dX3_lose_37 : decode cX3_lose 37 = .ok (.aload_n 0, 1) := by decide +kernel
theorem dX3_lose_38 : decode cX3_lose 38 = .ok (.invokevirtual 107, 3) := by decide +kernel
theorem dX3_lose_41 : decode cX3_lose 41 = .ok (.iconst 0, 1) := by decide +kernel
theorem dX3_lose_42 : decode cX3_lose 42 = .ok (.istore_n 2, 1) := by decide +kernel
theorem dX3_lose_43 : decode cX3_lose 43 = .ok (.iload_n 2, 1) := by decide +kernel
theorem dX3_lose_44 : decode cX3_lose 44 = .ok (.bipush 96, 2) := by decide +kernel
theorem dX3_lose_46 : decode cX3_lose 46 = .ok (.if_icmp .ge 20, 3) := by decide +kernel
theorem dX3_lose_49 : decode cX3_lose 49 = .ok (.aload_n 0, 1) := by decide +kernel
theorem dX3_lose_50 : decode cX3_lose 50 = .ok (.getfield 53, 3) := by decide +kernel
theorem dX3_lose_53 : decode cX3_lose 53 = .ok (.iload_n 2, 1) := by decide +kernel
theorem dX3_lose_54 : decode cX3_lose 54 = .ok (.aload_n 0, 1) := by decide +kernel
theorem dX3_lose_55 : decode cX3_lose 55 = .ok (.iload_n 2, 1) := by decide +kernel
theorem dX3_lose_56 : decode cX3_lose 56 = .ok (.invokevirtual 110, 3) := by decide +kernel
theorem dX3_lose_59 : decode cX3_lose 59 = .ok (.iastore, 1) := by decide +kernel
theorem dX3_lose_60 : decode cX3_lose 60 = .ok (.iinc 2 1, 3) := by decide +kernel
theorem dX3_lose_63 : decode cX3_lose 63 = .ok (.goto (-20), 3) := by decide +kernel
theorem dX3_lose_66 : decode cX3_lose 66 = .ok (.aload_n 0, 1) := by decide +kernel
theorem dX3_lose_67 : decode cX3_lose 67 = .ok (.getfield 31, 3) := by decide +kernel
theorem dX3_lose_70 : decode cX3_lose 70 = .ok (.iload_n 1, 1) := by decide +kernel
theorem dX3_lose_71 : decode cX3_lose 71 = .ok (.iconst 1, 1) := by decide +kernel
theorem dX3_lose_72 : decode cX3_lose 72 = .ok (.bastore, 1) := by decide +kernel
theorem dX3_lose_73 : decode cX3_lose 73 = .ok (.aload_n 0, 1) := by decide +kernel
theorem dX3_lose_74 : decode cX3_lose 74 = .ok (.invokevirtual 107, 3) := by decide +kernel
theorem dX3_lose_77 : decode cX3_lose 77 = .ok (.iconst 0, 1) := by decide +kernel
theorem dX3_lose_78 : decode cX3_lose 78 = .ok (.istore_n 2, 1) := by decide +kernel
theorem dX3_lose_79 : decode cX3_lose 79 = .ok (.iconst 0, 1) := by decide +kernel
theorem dX3_lose_80 : decode cX3_lose 80 = .ok (.istore_n 3, 1) := by decide +kernel
theorem dX3_lose_81 : decode cX3_lose 81 = .ok (.iload_n 3, 1) := by decide +kernel
theorem dX3_lose_82 : decode cX3_lose 82 = .ok (.bipush 96, 2) := by decide +kernel
theorem dX3_lose_84 : decode cX3_lose 84 = .ok (.if_icmp .ge 41, 3) := by decide +kernel
theorem dX3_lose_87 : decode cX3_lose 87 = .ok (.iload_n 2, 1) := by decide +kernel
theorem dX3_lose_88 : decode cX3_lose 88 = .ok (.aload_n 0, 1) := by decide +kernel
theorem dX3_lose_89 : decode cX3_lose 89 = .ok (.getfield 53, 3) := by decide +kernel
theorem dX3_lose_92 : decode cX3_lose 92 = .ok (.iload_n 3, 1) := by decide +kernel
theorem dX3_lose_93 : decode cX3_lose 93 = .ok (.iaload, 1) := by decide +kernel
theorem dX3_lose_94 : decode cX3_lose 94 = .ok (.iconst (-1), 1) := by decide +kernel
theorem dX3_lose_95 : decode cX3_lose 95 = .ok (.if_icmp .eq 21, 3) := by decide +kernel
theorem dX3_lose_98 : decode cX3_lose 98 = .ok (.aload_n 0, 1) := by decide +kernel
theorem dX3_lose_99 : decode cX3_lose 99 = .ok (.getfield 53, 3) := by decide +kernel
theorem dX3_lose_102 : decode cX3_lose 102 = .ok (.iload_n 3, 1) := by decide +kernel
theorem dX3_lose_103 : decode cX3_lose 103 = .ok (.iaload, 1) := by decide +kernel
theorem dX3_lose_104 : decode cX3_lose 104 = .ok (.aload_n 0, 1) := by decide +kernel
theorem dX3_lose_105 : decode cX3_lose 105 = .ok (.iload_n 3, 1) := by decide +kernel
theorem dX3_lose_106 : decode cX3_lose 106 = .ok (.invokevirtual 110, 3) := by decide +kernel
theorem dX3_lose_109 : decode cX3_lose 109 = .ok (.if_icmp .eq 7, 3) := by decide +kernel
theorem dX3_lose_112 : decode cX3_lose 112 = .ok (.iconst 1, 1) := by decide +kernel
theorem dX3_lose_113 : decode cX3_lose 113 = .ok (.goto 4, 3) := by decide +kernel
theorem dX3_lose_116 : decode cX3_lose 116 = .ok (.iconst 0, 1) := by decide +kernel
theorem dX3_lose_117 : decode cX3_lose 117 = .ok (.iadd, 1) := by decide +kernel
theorem dX3_lose_118 : decode cX3_lose 118 = .ok (.istore_n 2, 1) := by decide +kernel
theorem dX3_lose_119 : decode cX3_lose 119 = .ok (.iinc 3 1, 3) := by decide +kernel
theorem dX3_lose_122 : decode cX3_lose 122 = .ok (.goto (-41), 3) := by decide +kernel
theorem dX3_lose_125 : decode cX3_lose 125 = .ok (.iload_n 2, 1) := by decide +kernel
theorem dX3_lose_126 : decode cX3_lose 126 = .ok (.ireturn, 1) := by decide +kernel
set_option maxRecDepth 20000 in
theorem ggX3_on_X3_isIn : GoodIn wsX3_on wsX3_isIn := goodIn_r _ [5] (by decide +kernel) (by decide +kernel)
set_option maxRecDepth 20000 in
theorem gX3_on_X3_isIn : GoodIn wsX3_on (va_wsS RX3 63 yX3_isIn wsX3_isIn) := goodIn_app (goodIn_of _ (by decide +kernel)) ggX3_on_X3_isIn
set_option maxRecDepth 20000 in
theorem ggX3_on_X3_can : GoodIn wsX3_on wsX3_can := goodIn_r _ [9, 10, 53, 54, 55, 56, 57, 58, 59, 60, 61, 62, 63, 64, 65, 66, 67, 68, 69, 70] (by decide +kernel) (by decide +kernel)
set_option maxRecDepth 20000 in
theorem gX3_on_X3_can : GoodIn wsX3_on (wsV RX3 67 RX3 yX3_can wsX3_can) := goodIn_app (goodIn_of _ (by decide +kernel)) ggX3_on_X3_can
set_option maxRecDepth 20000 in
theorem ggX3_on_X3_plans : GoodIn wsX3_on wsX3_plans := goodIn_r _ [14, 15, 16, 17, 18, 19, 1, 20, 21, 22, 23, 4, 24, 25, 26, 27, 28, 29, 30, 31, 32, 33, 34, 35, 36, 37, 38, 39, 40, 41, 42, 43, 44, 45, 46, 47, 48, 49, 50, 51, 52, 53, 54, 55, 56, 57, 58, 59, 60, 61, 62, 63, 64, 65, 66, 67, 68, 69, 70] (by decide +kernel) (by decide +kernel)
set_option maxRecDepth 20000 in
theorem gX3_on_X3_plans : GoodIn wsX3_on (wsV RX3 107 RX3 yX3_plans wsX3_plans) := goodIn_app (goodIn_of _ (by decide +kernel)) ggX3_on_X3_plans
theorem dX3_on_0 : decode cX3_on 0 = .ok (.aload_n 0, 1) := by decide +kernel
theorem dX3_on_1 : decode cX3_on 1 = .ok (.iload_n 1, 1) := by decide +kernel
theorem dX3_on_2 : decode cX3_on 2 = .ok (.iconst 0, 1) := by decide +kernel
theorem dX3_on_3 : decode cX3_on 3 = .ok (.bipush 99, 2) := by decide +kernel
theorem dX3_on_5 : decode cX3_on 5 = .ok (.invokestatic 63, 3) := by decide +kernel
theorem dX3_on_8 : decode cX3_on 8 = .ok (.ifCond .eq 7, 3) := by decide +kernel
theorem dX3_on_11 : decode cX3_on 11 = .ok (.iconst 0, 1) := by decide +kernel
theorem dX3_on_12 : decode cX3_on 12 = .ok (.goto 4, 3) := by decide +kernel
theorem dX3_on_15 : decode cX3_on 15 = .ok (.iconst 1, 1) := by decide +kernel
theorem dX3_on_16 : decode cX3_on 16 = .ok (.invokevirtual 67, 3) := by decide +kernel
theorem dX3_on_19 : decode cX3_on 19 = .ok (.ifCond .ne 5, 3) := by decide +kernel
theorem dX3_on_22 : decode cX3_on 22 = .ok (.iconst 0, 1) := by decide +kernel
theorem dX3_on_23 : decode cX3_on 23 = .ok (.ireturn, 1) := by decide +kernel
theorem dX3_on_24 : decode cX3_on 24 = .ok (.aload_n 0, 1) := by decide +kernel
theorem dX3_on_25 : decode cX3_on 25 = .ok (.invokevirtual 107, 3) := by decide +kernel
theorem dX3_on_28 : decode cX3_on 28 = .ok (.aload_n 0, 1) := by decide +kernel
theorem dX3_on_29 : decode cX3_on 29 = .ok (.getfield 38, 3) := by decide +kernel
theorem dX3_on_32 : decode cX3_on 32 = .ok (.iload_n 1, 1) := by decide +kernel
theorem dX3_on_33 : decode cX3_on 33 = .ok (.iaload, 1) := by decide +kernel
theorem dX3_on_34 : decode cX3_on 34 = .ok (.ireturn, 1) := by decide +kernel
set_option maxRecDepth 20000 in
theorem ggX3_lessonDay_X3_isAim : GoodIn wsX3_lessonDay wsX3_isAim := goodIn_r _ [7, 8, 9, 10, 6, 11, 57, 58, 59, 60, 61, 62, 63, 64, 65, 66, 67, 68, 69, 70, 71, 72, 73, 74] (by decide +kernel) (by decide +kernel)
set_option maxRecDepth 20000 in
theorem gX3_lessonDay_X3_isAim : GoodIn wsX3_lessonDay (wsV RX3 71 RX3 yX3_isAim wsX3_isAim) := goodIn_app (goodIn_of _ (by decide +kernel)) ggX3_lessonDay_X3_isAim
set_option maxRecDepth 20000 in
theorem ggX3_lessonDay_X3_isIn : GoodIn wsX3_lessonDay wsX3_isIn := goodIn_r _ [11] (by decide +kernel) (by decide +kernel)
set_option maxRecDepth 20000 in
theorem gX3_lessonDay_X3_isIn : GoodIn wsX3_lessonDay (va_wsS RX3 63 yX3_isIn wsX3_isIn) := goodIn_app (goodIn_of _ (by decide +kernel)) ggX3_lessonDay_X3_isIn
set_option maxRecDepth 20000 in
theorem ggX3_lessonDay_X3_can : GoodIn wsX3_lessonDay wsX3_can := goodIn_r _ [15, 16, 57, 58, 59, 60, 61, 62, 63, 64, 65, 66, 67, 68, 69, 70, 71, 72, 73, 74] (by decide +kernel) (by decide +kernel)
set_option maxRecDepth 20000 in
theorem gX3_lessonDay_X3_can : GoodIn wsX3_lessonDay (wsV RX3 67 RX3 yX3_can wsX3_can) := goodIn_app (goodIn_of _ (by decide +kernel)) ggX3_lessonDay_X3_can
set_option maxRecDepth 20000 in
theorem ggX3_lessonDay_X3_plans : GoodIn wsX3_lessonDay wsX3_plans := goodIn_r _ [20, 21, 22, 23, 2, 24, 25, 26, 27, 28, 29, 6, 30, 8, 31, 32, 33, 34, 35, 36, 37, 38, 39, 40, 41, 1, 42, 43, 44, 45, 46, 47, 48, 49, 50, 51, 52, 53, 54, 55, 56, 57, 58, 59, 60, 61, 62, 63, 64, 65, 66, 67, 68, 69, 70, 71, 72, 73, 74] (by decide +kernel) (by decide +kernel)
set_option maxRecDepth 20000 in
theorem gX3_lessonDay_X3_plans : GoodIn wsX3_lessonDay (wsV RX3 107 RX3 yX3_plans wsX3_plans) := goodIn_app (goodIn_of _ (by decide +kernel)) ggX3_lessonDay_X3_plans
theorem dX3_lessonDay_0 : decode cX3_lessonDay 0 = .ok (.aload_n 0, 1) := by decide +kernel
theorem dX3_lessonDay_1 : decode cX3_lessonDay 1 = .ok (.aload_n 0, 1) := by decide +kernel
theorem dX3_lessonDay_2 : decode cX3_lessonDay 2 = .ok (.iload_n 1, 1) := by decide +kernel
theorem dX3_lessonDay_3 : decode cX3_lessonDay 3 = .ok (.invokevirtual 71, 3) := by decide +kernel
theorem dX3_lessonDay_6 : decode cX3_lessonDay 6 = .ok (.ifCond .eq 23, 3) := by decide +kernel
theorem dX3_lessonDay_9 : decode cX3_lessonDay 9 = .ok (.iload_n 2, 1) := by decide +kernel
theorem dX3_lessonDay_10 : decode cX3_lessonDay 10 = .ok (.iconst 0, 1) := by decide +kernel
theorem dX3_lessonDay_11 : decode cX3_lessonDay 11 = .ok (.aload_n 0, 1) := by decide +kernel
theorem dX3_lessonDay_12 : decode cX3_lessonDay 12 = .ok (.getfield 7, 3) := by decide +kernel
theorem dX3_lessonDay_15 : decode cX3_lessonDay 15 = .ok (.iload_n 1, 1) := by decide +kernel
theorem dX3_lessonDay_16 : decode cX3_lessonDay 16 = .ok (.iaload, 1) := by decide +kernel
theorem dX3_lessonDay_17 : decode cX3_lessonDay 17 = .ok (.iconst 1, 1) := by decide +kernel
theorem dX3_lessonDay_18 : decode cX3_lessonDay 18 = .ok (.isub, 1) := by decide +kernel
theorem dX3_lessonDay_19 : decode cX3_lessonDay 19 = .ok (.invokestatic 63, 3) := by decide +kernel
theorem dX3_lessonDay_22 : decode cX3_lessonDay 22 = .ok (.ifCond .eq 7, 3) := by decide +kernel
theorem dX3_lessonDay_25 : decode cX3_lessonDay 25 = .ok (.iconst 0, 1) := by decide +kernel
theorem dX3_lessonDay_26 : decode cX3_lessonDay 26 = .ok (.goto 4, 3) := by decide +kernel
theorem dX3_lessonDay_29 : decode cX3_lessonDay 29 = .ok (.iconst 1, 1) := by decide +kernel
theorem dX3_lessonDay_30 : decode cX3_lessonDay 30 = .ok (.invokevirtual 67, 3) := by decide +kernel
theorem dX3_lessonDay_33 : decode cX3_lessonDay 33 = .ok (.ifCond .ne 5, 3) := by decide +kernel
theorem dX3_lessonDay_36 : decode cX3_lessonDay 36 = .ok (.iconst 0, 1) := by decide +kernel
theorem dX3_lessonDay_37 : decode cX3_lessonDay 37 = .ok (.ireturn, 1) := by decide +kernel
theorem dX3_lessonDay_38 : decode cX3_lessonDay 38 = .ok (.aload_n 0, 1) := by decide +kernel
theorem dX3_lessonDay_39 : decode cX3_lessonDay 39 = .ok (.invokevirtual 107, 3) := by decide +kernel
theorem dX3_lessonDay_42 : decode cX3_lessonDay 42 = .ok (.aload_n 0, 1) := by decide +kernel
theorem dX3_lessonDay_43 : decode cX3_lessonDay 43 = .ok (.getfield 41, 3) := by decide +kernel
theorem dX3_lessonDay_46 : decode cX3_lessonDay 46 = .ok (.iconst 5, 1) := by decide +kernel
theorem dX3_lessonDay_47 : decode cX3_lessonDay 47 = .ok (.iload_n 1, 1) := by decide +kernel
theorem dX3_lessonDay_48 : decode cX3_lessonDay 48 = .ok (.imul, 1) := by decide +kernel
theorem dX3_lessonDay_49 : decode cX3_lessonDay 49 = .ok (.iload_n 2, 1) := by decide +kernel
theorem dX3_lessonDay_50 : decode cX3_lessonDay 50 = .ok (.iadd, 1) := by decide +kernel
theorem dX3_lessonDay_51 : decode cX3_lessonDay 51 = .ok (.iaload, 1) := by decide +kernel
theorem dX3_lessonDay_52 : decode cX3_lessonDay 52 = .ok (.ireturn, 1) := by decide +kernel
set_option maxRecDepth 20000 in
theorem ggX3_revisitDay_X3_isAim : GoodIn wsX3_revisitDay wsX3_isAim := goodIn_r _ [7, 8, 9, 10, 6, 11, 57, 58, 59, 60, 61, 62, 63, 64, 65, 66, 67, 68, 69, 70, 71, 72, 73, 74] (by decide +kernel) (by decide +kernel)
set_option maxRecDepth 20000 in
theorem gX3_revisitDay_X3_isAim : GoodIn wsX3_revisitDay (wsV RX3 71 RX3 yX3_isAim wsX3_isAim) := goodIn_app (goodIn_of _ (by decide +kernel)) ggX3_revisitDay_X3_isAim
set_option maxRecDepth 20000 in
theorem ggX3_revisitDay_X3_isIn : GoodIn wsX3_revisitDay wsX3_isIn := goodIn_r _ [11] (by decide +kernel) (by decide +kernel)
set_option maxRecDepth 20000 in
theorem gX3_revisitDay_X3_isIn : GoodIn wsX3_revisitDay (va_wsS RX3 63 yX3_isIn wsX3_isIn) := goodIn_app (goodIn_of _ (by decide +kernel)) ggX3_revisitDay_X3_isIn
set_option maxRecDepth 20000 in
theorem ggX3_revisitDay_X3_can : GoodIn wsX3_revisitDay wsX3_can := goodIn_r _ [15, 16, 57, 58, 59, 60, 61, 62, 63, 64, 65, 66, 67, 68, 69, 70, 71, 72, 73, 74] (by decide +kernel) (by decide +kernel)
set_option maxRecDepth 20000 in
theorem gX3_revisitDay_X3_can : GoodIn wsX3_revisitDay (wsV RX3 67 RX3 yX3_can wsX3_can) := goodIn_app (goodIn_of _ (by decide +kernel)) ggX3_revisitDay_X3_can
set_option maxRecDepth 20000 in
theorem ggX3_revisitDay_X3_plans : GoodIn wsX3_revisitDay wsX3_plans := goodIn_r _ [20, 21, 22, 23, 24, 2, 25, 26, 27, 28, 29, 6, 30, 8, 31, 32, 33, 34, 35, 36, 37, 38, 39, 40, 41, 42, 1, 43, 44, 45, 46, 47, 48, 49, 50, 51, 52, 53, 54, 55, 56, 57, 58, 59, 60, 61, 62, 63, 64, 65, 66, 67, 68, 69, 70, 71, 72, 73, 74] (by decide +kernel) (by decide +kernel)
set_option maxRecDepth 20000 in
theorem gX3_revisitDay_X3_plans : GoodIn wsX3_revisitDay (wsV RX3 107 RX3 yX3_plans wsX3_plans) := goodIn_app (goodIn_of _ (by decide +kernel)) ggX3_revisitDay_X3_plans
theorem dX3_revisitDay_0 : decode cX3_revisitDay 0 = .ok (.aload_n 0, 1) := by decide +kernel
theorem dX3_revisitDay_1 : decode cX3_revisitDay 1 = .ok (.aload_n 0, 1) := by decide +kernel
theorem dX3_revisitDay_2 : decode cX3_revisitDay 2 = .ok (.iload_n 1, 1) := by decide +kernel
theorem dX3_revisitDay_3 : decode cX3_revisitDay 3 = .ok (.invokevirtual 71, 3) := by decide +kernel
theorem dX3_revisitDay_6 : decode cX3_revisitDay 6 = .ok (.ifCond .eq 23, 3) := by decide +kernel
theorem dX3_revisitDay_9 : decode cX3_revisitDay 9 = .ok (.iload_n 2, 1) := by decide +kernel
theorem dX3_revisitDay_10 : decode cX3_revisitDay 10 = .ok (.iconst 0, 1) := by decide +kernel
theorem dX3_revisitDay_11 : decode cX3_revisitDay 11 = .ok (.aload_n 0, 1) := by decide +kernel
theorem dX3_revisitDay_12 : decode cX3_revisitDay 12 = .ok (.getfield 25, 3) := by decide +kernel
theorem dX3_revisitDay_15 : decode cX3_revisitDay 15 = .ok (.iload_n 1, 1) := by decide +kernel
theorem dX3_revisitDay_16 : decode cX3_revisitDay 16 = .ok (.iaload, 1) := by decide +kernel
theorem dX3_revisitDay_17 : decode cX3_revisitDay 17 = .ok (.iconst 1, 1) := by decide +kernel
theorem dX3_revisitDay_18 : decode cX3_revisitDay 18 = .ok (.isub, 1) := by decide +kernel
theorem dX3_revisitDay_19 : decode cX3_revisitDay 19 = .ok (.invokestatic 63, 3) := by decide +kernel
theorem dX3_revisitDay_22 : decode cX3_revisitDay 22 = .ok (.ifCond .eq 7, 3) := by decide +kernel
theorem dX3_revisitDay_25 : decode cX3_revisitDay 25 = .ok (.iconst 0, 1) := by decide +kernel
theorem dX3_revisitDay_26 : decode cX3_revisitDay 26 = .ok (.goto 4, 3) := by decide +kernel
theorem dX3_revisitDay_29 : decode cX3_revisitDay 29 = .ok (.iconst 1, 1) := by decide +kernel
theorem dX3_revisitDay_30 : decode cX3_revisitDay 30 = .ok (.invokevirtual 67, 3) := by decide +kernel
theorem dX3_revisitDay_33 : decode cX3_revisitDay 33 = .ok (.ifCond .ne 5, 3) := by decide +kernel
theorem dX3_revisitDay_36 : decode cX3_revisitDay 36 = .ok (.iconst 0, 1) := by decide +kernel
theorem dX3_revisitDay_37 : decode cX3_revisitDay 37 = .ok (.ireturn, 1) := by decide +kernel
theorem dX3_revisitDay_38 : decode cX3_revisitDay 38 = .ok (.aload_n 0, 1) := by decide +kernel
theorem dX3_revisitDay_39 : decode cX3_revisitDay 39 = .ok (.invokevirtual 107, 3) := by decide +kernel
theorem dX3_revisitDay_42 : decode cX3_revisitDay 42 = .ok (.aload_n 0, 1) := by decide +kernel
theorem dX3_revisitDay_43 : decode cX3_revisitDay 43 = .ok (.getfield 44, 3) := by decide +kernel
theorem dX3_revisitDay_46 : decode cX3_revisitDay 46 = .ok (.iconst 3, 1) := by decide +kernel
theorem dX3_revisitDay_47 : decode cX3_revisitDay 47 = .ok (.iload_n 1, 1) := by decide +kernel
theorem dX3_revisitDay_48 : decode cX3_revisitDay 48 = .ok (.imul, 1) := by decide +kernel
theorem dX3_revisitDay_49 : decode cX3_revisitDay 49 = .ok (.iload_n 2, 1) := by decide +kernel
theorem dX3_revisitDay_50 : decode cX3_revisitDay 50 = .ok (.iadd, 1) := by decide +kernel
theorem dX3_revisitDay_51 : decode cX3_revisitDay 51 = .ok (.iaload, 1) := by decide +kernel
theorem dX3_revisitDay_52 : decode cX3_revisitDay 52 = .ok (.ireturn, 1) := by decide +kernel
set_option maxRecDepth 20000 in
theorem ggX3_laid_X3_plans : GoodIn wsX3_laid wsX3_plans := goodIn_r _ [7, 8, 9, 10, 11, 12, 2, 13, 14, 15, 16, 6, 17, 18, 19, 20, 21, 22, 23, 24, 25, 26, 27, 28, 29, 30, 31, 32, 33, 34, 35, 36, 37, 38, 39, 40, 41, 42, 43, 44, 45, 46, 47, 48, 49, 50, 51, 52, 53, 54, 55, 56, 57, 58, 59, 60, 61, 62, 63] (by decide +kernel) (by decide +kernel)
set_option maxRecDepth 20000 in
theorem gX3_laid_X3_plans : GoodIn wsX3_laid (wsV RX3 107 RX3 yX3_plans wsX3_plans) := goodIn_app (goodIn_of _ (by decide +kernel)) ggX3_laid_X3_plans
theorem dX3_laid_0 : decode cX3_laid 0 = .ok (.aload_n 0, 1) := by decide +kernel
theorem dX3_laid_1 : decode cX3_laid 1 = .ok (.iconst 0, 1) := by decide +kernel
theorem dX3_laid_2 : decode cX3_laid 2 = .ok (.putfield 56, 3) := by decide +kernel
theorem dX3_laid_5 : decode cX3_laid 5 = .ok (.aload_n 0, 1) := by decide +kernel
theorem dX3_laid_6 : decode cX3_laid 6 = .ok (.invokevirtual 107, 3) := by decide +kernel
theorem dX3_laid_9 : decode cX3_laid 9 = .ok (.iconst 0, 1) := by decide +kernel
theorem dX3_laid_10 : decode cX3_laid 10 = .ok (.istore_n 1, 1) := by decide +kernel
theorem dX3_laid_11 : decode cX3_laid 11 = .ok (.iconst 0, 1) := by decide +kernel
theorem dX3_laid_12 : decode cX3_laid 12 = .ok (.istore_n 2, 1) := by decide +kernel
theorem dX3_laid_13 : decode cX3_laid 13 = .ok (.iload_n 2, 1) := by decide +kernel
theorem dX3_laid_14 : decode cX3_laid 14 = .ok (.bipush 100, 2) := by decide +kernel
theorem dX3_laid_16 : decode cX3_laid 16 = .ok (.if_icmp .ge 27, 3) := by decide +kernel
theorem dX3_laid_19 : decode cX3_laid 19 = .ok (.iload_n 1, 1) := by decide +kernel
theorem dX3_laid_20 : decode cX3_laid 20 = .ok (.aload_n 0, 1) := by decide +kernel
theorem dX3_laid_21 : decode cX3_laid 21 = .ok (.getfield 38, 3) := by decide +kernel
theorem dX3_laid_24 : decode cX3_laid 24 = .ok (.iload_n 2, 1) := by decide +kernel
theorem dX3_laid_25 : decode cX3_laid 25 = .ok (.iaload, 1) := by decide +kernel
theorem dX3_laid_26 : decode cX3_laid 26 = .ok (.iconst (-1), 1) := by decide +kernel
theorem dX3_laid_27 : decode cX3_laid 27 = .ok (.if_icmp .ne 7, 3) := by decide +kernel
theorem dX3_laid_30 : decode cX3_laid 30 = .ok (.iconst 0, 1) := by decide +kernel
theorem dX3_laid_31 : decode cX3_laid 31 = .ok (.goto 4, 3) := by decide +kernel
theorem dX3_laid_34 : decode cX3_laid 34 = .ok (.iconst 1, 1) := by decide +kernel
theorem dX3_laid_35 : decode cX3_laid 35 = .ok (.iadd, 1) := by decide +kernel
theorem dX3_laid_36 : decode cX3_laid 36 = .ok (.istore_n 1, 1) := by decide +kernel
theorem dX3_laid_37 : decode cX3_laid 37 = .ok (.iinc 2 1, 3) := by decide +kernel
theorem dX3_laid_40 : decode cX3_laid 40 = .ok (.goto (-27), 3) := by decide +kernel
theorem dX3_laid_43 : decode cX3_laid 43 = .ok (.iload_n 1, 1) := by decide +kernel
theorem dX3_laid_44 : decode cX3_laid 44 = .ok (.ireturn, 1) := by decide +kernel
set_option maxRecDepth 20000 in
theorem ggX3_late_X3_plans : GoodIn wsX3_late wsX3_plans := goodIn_r _ [7, 2, 8, 9, 10, 11, 12, 13, 14, 15, 16, 6, 17, 18, 19, 20, 21, 22, 23, 24, 25, 26, 27, 28, 29, 30, 31, 32, 33, 34, 35, 36, 37, 38, 39, 40, 41, 42, 43, 44, 45, 46, 47, 48, 49, 50, 51, 52, 53, 54, 55, 56, 57, 58, 59, 60, 61, 62, 63] (by decide +kernel) (by decide +kernel)
set_option maxRecDepth 20000 in
theorem gX3_late_X3_plans : GoodIn wsX3_late (wsV RX3 107 RX3 yX3_plans wsX3_plans) := goodIn_app (goodIn_of _ (by decide +kernel)) ggX3_late_X3_plans
theorem dX3_late_0 : decode cX3_late 0 = .ok (.aload_n 0, 1) := by decide +kernel
theorem dX3_late_1 : decode cX3_late 1 = .ok (.iconst 0, 1) := by decide +kernel
theorem dX3_late_2 : decode cX3_late 2 = .ok (.putfield 56, 3) := by decide +kernel
theorem dX3_late_5 : decode cX3_late 5 = .ok (.aload_n 0, 1) := by decide +kernel
theorem dX3_late_6 : decode cX3_late 6 = .ok (.invokevirtual 107, 3) := by decide +kernel
theorem dX3_late_9 : decode cX3_late 9 = .ok (.aload_n 0, 1) := by decide +kernel
theorem dX3_late_10 : decode cX3_late 10 = .ok (.getfield 94, 3) := by decide +kernel
theorem dX3_late_13 : decode cX3_late 13 = .ok (.ireturn, 1) := by decide +kernel
set_option maxRecDepth 20000 in
theorem ggX3_lastDay_X3_plans : GoodIn wsX3_lastDay wsX3_plans := goodIn_r _ [7, 8, 9, 10, 11, 12, 2, 13, 14, 15, 16, 6, 17, 18, 19, 20, 21, 22, 23, 24, 25, 26, 27, 28, 29, 30, 31, 32, 33, 34, 35, 36, 37, 38, 39, 40, 41, 42, 43, 44, 45, 46, 47, 48, 49, 50, 51, 52, 53, 54, 55, 56, 57, 58, 59, 60, 61, 62, 63] (by decide +kernel) (by decide +kernel)
set_option maxRecDepth 20000 in
theorem gX3_lastDay_X3_plans : GoodIn wsX3_lastDay (wsV RX3 107 RX3 yX3_plans wsX3_plans) := goodIn_app (goodIn_of _ (by decide +kernel)) ggX3_lastDay_X3_plans
theorem dX3_lastDay_0 : decode cX3_lastDay 0 = .ok (.aload_n 0, 1) := by decide +kernel
theorem dX3_lastDay_1 : decode cX3_lastDay 1 = .ok (.iconst 0, 1) := by decide +kernel
theorem dX3_lastDay_2 : decode cX3_lastDay 2 = .ok (.putfield 56, 3) := by decide +kernel
theorem dX3_lastDay_5 : decode cX3_lastDay 5 = .ok (.aload_n 0, 1) := by decide +kernel
theorem dX3_lastDay_6 : decode cX3_lastDay 6 = .ok (.invokevirtual 107, 3) := by decide +kernel
theorem dX3_lastDay_9 : decode cX3_lastDay 9 = .ok (.iconst (-1), 1) := by decide +kernel
theorem dX3_lastDay_10 : decode cX3_lastDay 10 = .ok (.istore_n 1, 1) := by decide +kernel
theorem dX3_lastDay_11 : decode cX3_lastDay 11 = .ok (.iconst 0, 1) := by decide +kernel
theorem dX3_lastDay_12 : decode cX3_lastDay 12 = .ok (.istore_n 2, 1) := by decide +kernel
theorem dX3_lastDay_13 : decode cX3_lastDay 13 = .ok (.iload_n 2, 1) := by decide +kernel
theorem dX3_lastDay_14 : decode cX3_lastDay 14 = .ok (.bipush 100, 2) := by decide +kernel
theorem dX3_lastDay_16 : decode cX3_lastDay 16 = .ok (.if_icmp .ge 25, 3) := by decide +kernel
theorem dX3_lastDay_19 : decode cX3_lastDay 19 = .ok (.aload_n 0, 1) := by decide +kernel
theorem dX3_lastDay_20 : decode cX3_lastDay 20 = .ok (.getfield 38, 3) := by decide +kernel
theorem dX3_lastDay_23 : decode cX3_lastDay 23 = .ok (.iload_n 2, 1) := by decide +kernel
theorem dX3_lastDay_24 : decode cX3_lastDay 24 = .ok (.iaload, 1) := by decide +kernel
theorem dX3_lastDay_25 : decode cX3_lastDay 25 = .ok (.iconst (-1), 1) := by decide +kernel
theorem dX3_lastDay_26 : decode cX3_lastDay 26 = .ok (.if_icmp .ne 7, 3) := by decide +kernel
theorem dX3_lastDay_29 : decode cX3_lastDay 29 = .ok (.iload_n 1, 1) := by decide +kernel
theorem dX3_lastDay_30 : decode cX3_lastDay 30 = .ok (.goto 4, 3) := by decide +kernel
theorem dX3_lastDay_33 : decode cX3_lastDay 33 = .ok (.iload_n 2, 1) := by decide +kernel
theorem dX3_lastDay_34 : decode cX3_lastDay 34 = .ok (.istore_n 1, 1) := by decide +kernel
theorem dX3_lastDay_35 : decode cX3_lastDay 35 = .ok (.iinc 2 1, 3) := by decide +kernel
theorem dX3_lastDay_38 : decode cX3_lastDay 38 = .ok (.goto (-25), 3) := by decide +kernel
theorem dX3_lastDay_41 : decode cX3_lastDay 41 = .ok (.iload_n 1, 1) := by decide +kernel
theorem dX3_lastDay_42 : decode cX3_lastDay 42 = .ok (.ireturn, 1) := by decide +kernel
theorem dX3_isClosed_0 : decode cX3_isClosed 0 = .ok (.iconst 1, 1) := by decide +kernel
theorem dX3_isClosed_1 : decode cX3_isClosed 1 = .ok (.istore_n 2, 1) := by decide +kernel
theorem dX3_isClosed_2 : decode cX3_isClosed 2 = .ok (.iconst 0, 1) := by decide +kernel
theorem dX3_isClosed_3 : decode cX3_isClosed 3 = .ok (.istore_n 3, 1) := by decide +kernel
theorem dX3_isClosed_4 : decode cX3_isClosed 4 = .ok (.iload_n 3, 1) := by decide +kernel
theorem dX3_isClosed_5 : decode cX3_isClosed 5 = .ok (.aload_n 0, 1) := by decide +kernel
theorem dX3_isClosed_6 : decode cX3_isClosed 6 = .ok (.getfield 60, 3) := by decide +kernel
theorem dX3_isClosed_9 : decode cX3_isClosed 9 = .ok (.if_icmp .ge 40, 3) := by decide +kernel
theorem dX3_isClosed_12 : decode cX3_isClosed 12 = .ok (.iload_n 2, 1) := by decide +kernel
theorem dX3_isClosed_13 : decode cX3_isClosed 13 = .ok (.ifCond .eq 28, 3) := by decide +kernel
theorem dX3_isClosed_16 : decode cX3_isClosed 16 = .ok (.iload_n 1, 1) := by decide +kernel
theorem dX3_isClosed_17 : decode cX3_isClosed 17 = .ok (.iload_n 3, 1) := by decide +kernel
theorem dX3_isClosed_18 : decode cX3_isClosed 18 = .ok (.ishr, 1) := by decide +kernel
theorem dX3_isClosed_19 : decode cX3_isClosed 19 = .ok (.iconst 1, 1) := by decide +kernel
theorem dX3_isClosed_20 : decode cX3_isClosed 20 = .ok (.iand, 1) := by decide +kernel
theorem dX3_isClosed_21 : decode cX3_isClosed 21 = .ok (.ifCond .eq 16, 3) := by decide +kernel
theorem dX3_isClosed_24 : decode cX3_isClosed 24 = .ok (.aload_n 0, 1) := by decide +kernel
theorem dX3_isClosed_25 : decode cX3_isClosed 25 = .ok (.getfield 22, 3) := by decide +kernel
theorem dX3_isClosed_28 : decode cX3_isClosed 28 = .ok (.iload_n 3, 1) := by decide +kernel
theorem dX3_isClosed_29 : decode cX3_isClosed 29 = .ok (.iaload, 1) := by decide +kernel
theorem dX3_isClosed_30 : decode cX3_isClosed 30 = .ok (.iload_n 1, 1) := by decide +kernel
theorem dX3_isClosed_31 : decode cX3_isClosed 31 = .ok (.iconst (-1), 1) := by decide +kernel
theorem dX3_isClosed_32 : decode cX3_isClosed 32 = .ok (.ixor, 1) := by decide +kernel
theorem dX3_isClosed_33 : decode cX3_isClosed 33 = .ok (.iand, 1) := by decide +kernel
theorem dX3_isClosed_34 : decode cX3_isClosed 34 = .ok (.ifCond .ne 7, 3) := by decide +kernel
theorem dX3_isClosed_37 : decode cX3_isClosed 37 = .ok (.iconst 1, 1) := by decide +kernel
theorem dX3_isClosed_38 : decode cX3_isClosed 38 = .ok (.goto 4, 3) := by decide +kernel
theorem dX3_isClosed_41 : decode cX3_isClosed 41 = .ok (.iconst 0, 1) := by decide +kernel
theorem dX3_isClosed_42 : decode cX3_isClosed 42 = .ok (.istore_n 2, 1) := by decide +kernel
theorem dX3_isClosed_43 : decode cX3_isClosed 43 = .ok (.iinc 3 1, 3) := by decide +kernel
theorem dX3_isClosed_46 : decode cX3_isClosed 46 = .ok (.goto (-42), 3) := by decide +kernel
theorem dX3_isClosed_49 : decode cX3_isClosed 49 = .ok (.iload_n 2, 1) := by decide +kernel
theorem dX3_isClosed_50 : decode cX3_isClosed 50 = .ok (.ireturn, 1) := by decide +kernel
theorem dX3_net_0 : decode cX3_net 0 = .ok (.iconst 0, 1) := by decide +kernel
theorem dX3_net_1 : decode cX3_net 1 = .ok (.istore_n 3, 1) := by decide +kernel
theorem dX3_net_2 : decode cX3_net 2 = .ok (.iconst 0, 1) := by decide +kernel
theorem dX3_net_3 : decode cX3_net 3 = .ok (.istore 4, 2) := by decide +kernel
theorem dX3_net_5 : decode cX3_net 5 = .ok (.iload 4, 2) := by decide +kernel
theorem dX3_net_7 : decode cX3_net 7 = .ok (.aload_n 0, 1) := by decide +kernel
theorem dX3_net_8 : decode cX3_net 8 = .ok (.getfield 60, 3) := by decide +kernel
theorem dX3_net_11 : decode cX3_net 11 = .ok (.if_icmp .ge 43, 3) := by decide +kernel
theorem dX3_net_14 : decode cX3_net 14 = .ok (.iload_n 3, 1) := by decide +kernel
theorem dX3_net_15 : decode cX3_net 15 = .ok (.iload_n 1, 1) := by decide +kernel
theorem dX3_net_16 : decode cX3_net 16 = .ok (.iload 4, 2) := by decide +kernel
theorem dX3_net_18 : decode cX3_net 18 = .ok (.ishr, 1) := by decide +kernel
theorem dX3_net_19 : decode cX3_net 19 = .ok (.iconst 1, 1) := by decide +kernel
theorem dX3_net_20 : decode cX3_net 20 = .ok (.iand, 1) := by decide +kernel
theorem dX3_net_21 : decode cX3_net 21 = .ok (.iconst 1, 1) := by decide +kernel
theorem dX3_net_22 : decode cX3_net 22 = .ok (.if_icmp .ne 23, 3) := by decide +kernel
theorem dX3_net_25 : decode cX3_net 25 = .ok (.aload_n 0, 1) := by decide +kernel
theorem dX3_net_26 : decode cX3_net 26 = .ok (.getfield 16, 3) := by decide +kernel
theorem dX3_net_29 : decode cX3_net 29 = .ok (.iload 4, 2) := by decide +kernel
theorem dX3_net_31 : decode cX3_net 31 = .ok (.iaload, 1) := by decide +kernel
theorem dX3_net_32 : decode cX3_net 32 = .ok (.iload_n 2, 1) := by decide +kernel
theorem dX3_net_33 : decode cX3_net 33 = .ok (.aload_n 0, 1) := by decide +kernel
theorem dX3_net_34 : decode cX3_net 34 = .ok (.getfield 7, 3) := by decide +kernel
theorem dX3_net_37 : decode cX3_net 37 = .ok (.iload 4, 2) := by decide +kernel
theorem dX3_net_39 : decode cX3_net 39 = .ok (.iaload, 1) := by decide +kernel
theorem dX3_net_40 : decode cX3_net 40 = .ok (.imul, 1) := by decide +kernel
theorem dX3_net_41 : decode cX3_net 41 = .ok (.isub, 1) := by decide +kernel
theorem dX3_net_42 : decode cX3_net 42 = .ok (.goto 4, 3) := by decide +kernel
theorem dX3_net_45 : decode cX3_net 45 = .ok (.iconst 0, 1) := by decide +kernel
theorem dX3_net_46 : decode cX3_net 46 = .ok (.iadd, 1) := by decide +kernel
theorem dX3_net_47 : decode cX3_net 47 = .ok (.istore_n 3, 1) := by decide +kernel
theorem dX3_net_48 : decode cX3_net 48 = .ok (.iinc 4 1, 3) := by decide +kernel
theorem dX3_net_51 : decode cX3_net 51 = .ok (.goto (-46), 3) := by decide +kernel
theorem dX3_net_54 : decode cX3_net 54 = .ok (.iload_n 3, 1) := by decide +kernel
theorem dX3_net_55 : decode cX3_net 55 = .ok (.ireturn, 1) := by decide +kernel
set_option maxRecDepth 20000 in
theorem ggX3_best_X3_isClosed : GoodIn wsX3_best wsX3_isClosed := goodIn_r _ [6, 1, 7, 17, 18, 19, 20, 21, 22, 23, 24, 25, 26, 27, 28, 29, 30, 31, 32, 33, 34] (by decide +kernel) (by decide +kernel)
set_option maxRecDepth 20000 in
theorem gX3_best_X3_isClosed : GoodIn wsX3_best (wsV RX3 113 RX3 yX3_isClosed wsX3_isClosed) := goodIn_app (goodIn_of _ (by decide +kernel)) ggX3_best_X3_isClosed
set_option maxRecDepth 20000 in
theorem ggX3_best_X3_net : GoodIn wsX3_best wsX3_net := goodIn_r _ [11, 1, 12, 13, 17, 18, 19, 20, 21, 22, 23, 24, 25, 26, 27, 28, 29, 30, 31, 32, 33, 34] (by decide +kernel) (by decide +kernel)
set_option maxRecDepth 20000 in
theorem gX3_best_X3_net : GoodIn wsX3_best (wsV RX3 116 RX3 yX3_net wsX3_net) := goodIn_app (goodIn_of _ (by decide +kernel)) ggX3_best_X3_net
set_option maxRecDepth 20000 in
theorem ggX3_best_X3_size : GoodIn wsX3_best wsX3_size := goodIn_r _ [16] (by decide +kernel) (by decide +kernel)
set_option maxRecDepth 20000 in
theorem gX3_best_X3_size : GoodIn wsX3_best (va_wsS RX3 82 yX3_size wsX3_size) := goodIn_app (goodIn_of _ (by decide +kernel)) ggX3_best_X3_size
theorem dX3_best_0 : decode cX3_best 0 = .ok (.iconst 0, 1) := by decide +kernel
theorem dX3_best_1 : decode cX3_best 1 = .ok (.istore_n 2, 1) := by decide +kernel
theorem dX3_best_2 : decode cX3_best 2 = .ok (.iconst 1, 1) := by decide +kernel
theorem dX3_best_3 : decode cX3_best 3 = .ok (.istore_n 3, 1) := by decide +kernel
theorem dX3_best_4 : decode cX3_best 4 = .ok (.iload_n 3, 1) := by decide +kernel
theorem dX3_best_5 : decode cX3_best 5 = .ok (.iconst 1, 1) := by decide +kernel
theorem dX3_best_6 : decode cX3_best 6 = .ok (.aload_n 0, 1) := by decide +kernel
theorem dX3_best_7 : decode cX3_best 7 = .ok (.getfield 60, 3) := by decide +kernel
theorem dX3_best_10 : decode cX3_best 10 = .ok (.ishl, 1) := by decide +kernel
theorem dX3_best_11 : decode cX3_best 11 = .ok (.if_icmp .ge 63, 3) := by decide +kernel
theorem dX3_best_14 : decode cX3_best 14 = .ok (.aload_n 0, 1) := by decide +kernel
theorem dX3_best_15 : decode cX3_best 15 = .ok (.iload_n 3, 1) := by decide +kernel
theorem dX3_best_16 : decode cX3_best 16 = .ok (.invokevirtual 113, 3) := by decide +kernel
theorem dX3_best_19 : decode cX3_best 19 = .ok (.ifCond .eq 19, 3) := by decide +kernel
theorem dX3_best_22 : decode cX3_best 22 = .ok (.aload_n 0, 1) := by decide +kernel
theorem dX3_best_23 : decode cX3_best 23 = .ok (.iload_n 3, 1) := by decide +kernel
theorem dX3_best_24 : decode cX3_best 24 = .ok (.iload_n 1, 1) := by decide +kernel
theorem dX3_best_25 : decode cX3_best 25 = .ok (.invokevirtual 116, 3) := by decide +kernel
theorem dX3_best_28 : decode cX3_best 28 = .ok (.aload_n 0, 1) := by decide +kernel
theorem dX3_best_29 : decode cX3_best 29 = .ok (.iload_n 2, 1) := by decide +kernel
theorem dX3_best_30 : decode cX3_best 30 = .ok (.iload_n 1, 1) := by decide +kernel
theorem dX3_best_31 : decode cX3_best 31 = .ok (.invokevirtual 116, 3) := by decide +kernel
theorem dX3_best_34 : decode cX3_best 34 = .ok (.isub, 1) := by decide +kernel
theorem dX3_best_35 : decode cX3_best 35 = .ok (.goto 4, 3) := by decide +kernel
theorem dX3_best_38 : decode cX3_best 38 = .ok (.iconst (-1), 1) := by decide +kernel
theorem dX3_best_39 : decode cX3_best 39 = .ok (.istore 4, 2) := by decide +kernel
theorem dX3_best_41 : decode cX3_best 41 = .ok (.iload 4, 2) := by decide +kernel
theorem dX3_best_43 : decode cX3_best 43 = .ok (.ifCond .gt 19, 3) := by decide +kernel
theorem dX3_best_46 : decode cX3_best 46 = .ok (.iload 4, 2) := by decide +kernel
theorem dX3_best_48 : decode cX3_best 48 = .ok (.ifCond .ne 18, 3) := by decide +kernel
theorem dX3_best_51 : decode cX3_best 51 = .ok (.iload_n 3, 1) := by decide +kernel
theorem dX3_best_52 : decode cX3_best 52 = .ok (.invokestatic 82, 3) := by decide +kernel
theorem dX3_best_55 : decode cX3_best 55 = .ok (.iload_n 2, 1) := by decide +kernel
theorem dX3_best_56 : decode cX3_best 56 = .ok (.invokestatic 82, 3) := by decide +kernel
theorem dX3_best_59 : decode cX3_best 59 = .ok (.if_icmp .ge 7, 3) := by decide +kernel
theorem dX3_best_62 : decode cX3_best 62 = .ok (.iload_n 3, 1) := by decide +kernel
theorem dX3_best_63 : decode cX3_best 63 = .ok (.goto 4, 3) := by decide +kernel
theorem dX3_best_66 : decode cX3_best 66 = .ok (.iload_n 2, 1) := by decide +kernel
theorem dX3_best_67 : decode cX3_best 67 = .ok (.istore_n 2, 1) := by decide +kernel
theorem dX3_best_68 : decode cX3_best 68 = .ok (.iinc 3 1, 3) := by decide +kernel
theorem dX3_best_71 : decode cX3_best 71 = .ok (.goto (-67), 3) := by decide +kernel
theorem dX3_best_74 : decode cX3_best 74 = .ok (.iload_n 2, 1) := by decide +kernel
theorem dX3_best_75 : decode cX3_best 75 = .ok (.ireturn, 1) := by decide +kernel
set_option maxRecDepth 20000 in
theorem ggX3_worthwhile_X3_isIn : GoodIn wsX3_worthwhile wsX3_isIn := goodIn_r _ [4] (by decide +kernel) (by decide +kernel)
set_option maxRecDepth 20000 in
theorem gX3_worthwhile_X3_isIn : GoodIn wsX3_worthwhile (va_wsS RX3 63 yX3_isIn wsX3_isIn) := goodIn_app (goodIn_of _ (by decide +kernel)) ggX3_worthwhile_X3_isIn
set_option maxRecDepth 20000 in
theorem ggX3_worthwhile_X3_can : GoodIn wsX3_worthwhile wsX3_can := goodIn_r _ [8, 9, 29, 30, 31, 32, 33, 34, 35, 36, 37, 38, 39, 40, 41, 42, 43, 44, 45, 46] (by decide +kernel) (by decide +kernel)
set_option maxRecDepth 20000 in
theorem gX3_worthwhile_X3_can : GoodIn wsX3_worthwhile (wsV RX3 67 RX3 yX3_can wsX3_can) := goodIn_app (goodIn_of _ (by decide +kernel)) ggX3_worthwhile_X3_can
set_option maxRecDepth 20000 in
theorem ggX3_worthwhile_X3_best : GoodIn wsX3_worthwhile wsX3_best := goodIn_r _ [13, 14, 15, 16, 17, 3, 18, 19, 20, 21, 22, 23, 24, 25, 26, 27, 28, 29, 30, 31, 32, 33, 34, 35, 36, 37, 38, 39, 40, 41, 42, 43, 44, 45, 46] (by decide +kernel) (by decide +kernel)
set_option maxRecDepth 20000 in
theorem gX3_worthwhile_X3_best : GoodIn wsX3_worthwhile (wsV RX3 120 RX3 yX3_best wsX3_best) := goodIn_app (goodIn_of _ (by decide +kernel)) ggX3_worthwhile_X3_best
theorem dX3_worthwhile_0 : decode cX3_worthwhile 0 = .ok (.aload_n 0, 1) := by decide +kernel
theorem dX3_worthwhile_1 : decode cX3_worthwhile 1 = .ok (.iload_n 1, 1) := by decide +kernel
theorem dX3_worthwhile_2 : decode cX3_worthwhile 2 = .ok (.iconst 0, 1) := by decide +kernel
theorem dX3_worthwhile_3 : decode cX3_worthwhile 3 = .ok (.bipush 99, 2) := by decide +kernel
theorem dX3_worthwhile_5 : decode cX3_worthwhile 5 = .ok (.invokestatic 63, 3) := by decide +kernel
theorem dX3_worthwhile_8 : decode cX3_worthwhile 8 = .ok (.ifCond .eq 7, 3) := by decide +kernel
theorem dX3_worthwhile_11 : decode cX3_worthwhile 11 = .ok (.iconst 0, 1) := by decide +kernel
theorem dX3_worthwhile_12 : decode cX3_worthwhile 12 = .ok (.goto 4, 3) := by decide +kernel
theorem dX3_worthwhile_15 : decode cX3_worthwhile 15 = .ok (.iconst 1, 1) := by decide +kernel
theorem dX3_worthwhile_16 : decode cX3_worthwhile 16 = .ok (.invokevirtual 67, 3) := by decide +kernel
theorem dX3_worthwhile_19 : decode cX3_worthwhile 19 = .ok (.ifCond .eq 11, 3) := by decide +kernel
theorem dX3_worthwhile_22 : decode cX3_worthwhile 22 = .ok (.aload_n 0, 1) := by decide +kernel
theorem dX3_worthwhile_23 : decode cX3_worthwhile 23 = .ok (.iload_n 1, 1) := by decide +kernel
theorem dX3_worthwhile_24 : decode cX3_worthwhile 24 = .ok (.invokevirtual 120, 3) := by decide +kernel
theorem dX3_worthwhile_27 : decode cX3_worthwhile 27 = .ok (.goto 4, 3) := by decide +kernel
theorem dX3_worthwhile_30 : decode cX3_worthwhile 30 = .ok (.iconst 0, 1) := by decide +kernel
theorem dX3_worthwhile_31 : decode cX3_worthwhile 31 = .ok (.ireturn, 1) := by decide +kernel
set_option maxRecDepth 20000 in
theorem ggX3_bestNet_X3_isIn : GoodIn wsX3_bestNet wsX3_isIn := goodIn_r _ [4] (by decide +kernel) (by decide +kernel)
set_option maxRecDepth 20000 in
theorem gX3_bestNet_X3_isIn : GoodIn wsX3_bestNet (va_wsS RX3 63 yX3_isIn wsX3_isIn) := goodIn_app (goodIn_of _ (by decide +kernel)) ggX3_bestNet_X3_isIn
set_option maxRecDepth 20000 in
theorem ggX3_bestNet_X3_can : GoodIn wsX3_bestNet wsX3_can := goodIn_r _ [8, 9, 29, 30, 31, 32, 33, 34, 35, 36, 37, 38, 39, 40, 41, 42, 43, 44, 45, 46] (by decide +kernel) (by decide +kernel)
set_option maxRecDepth 20000 in
theorem gX3_bestNet_X3_can : GoodIn wsX3_bestNet (wsV RX3 67 RX3 yX3_can wsX3_can) := goodIn_app (goodIn_of _ (by decide +kernel)) ggX3_bestNet_X3_can
set_option maxRecDepth 20000 in
theorem ggX3_bestNet_X3_best : GoodIn wsX3_bestNet wsX3_best := goodIn_r _ [13, 14, 15, 16, 17, 3, 18, 19, 20, 21, 22, 23, 24, 25, 26, 27, 28, 29, 30, 31, 32, 33, 34, 35, 36, 37, 38, 39, 40, 41, 42, 43, 44, 45, 46] (by decide +kernel) (by decide +kernel)
set_option maxRecDepth 20000 in
theorem gX3_bestNet_X3_best : GoodIn wsX3_bestNet (wsV RX3 120 RX3 yX3_best wsX3_best) := goodIn_app (goodIn_of _ (by decide +kernel)) ggX3_bestNet_X3_best
set_option maxRecDepth 20000 in
theorem ggX3_bestNet_X3_net : GoodIn wsX3_bestNet wsX3_net := goodIn_r _ [23, 14, 24, 25, 29, 30, 31, 32, 33, 34, 35, 36, 37, 38, 39, 40, 41, 42, 43, 44, 45, 46] (by decide +kernel) (by decide +kernel)
set_option maxRecDepth 20000 in
theorem gX3_bestNet_X3_net : GoodIn wsX3_bestNet (wsV RX3 116 RX3 yX3_net wsX3_net) := goodIn_app (goodIn_of _ (by decide +kernel)) ggX3_bestNet_X3_net
theorem dX3_bestNet_0 : decode cX3_bestNet 0 = .ok (.aload_n 0, 1) := by decide +kernel
theorem dX3_bestNet_1 : decode cX3_bestNet 1 = .ok (.iload_n 1, 1) := by decide +kernel
theorem dX3_bestNet_2 : decode cX3_bestNet 2 = .ok (.iconst 0, 1) := by decide +kernel
theorem dX3_bestNet_3 : decode cX3_bestNet 3 = .ok (.bipush 99, 2) := by decide +kernel
theorem dX3_bestNet_5 : decode cX3_bestNet 5 = .ok (.invokestatic 63, 3) := by decide +kernel
theorem dX3_bestNet_8 : decode cX3_bestNet 8 = .ok (.ifCond .eq 7, 3) := by decide +kernel
theorem dX3_bestNet_11 : decode cX3_bestNet 11 = .ok (.iconst 0, 1) := by decide +kernel
theorem dX3_bestNet_12 : decode cX3_bestNet 12 = .ok (.goto 4, 3) := by decide +kernel
theorem dX3_bestNet_15 : decode cX3_bestNet 15 = .ok (.iconst 1, 1) := by decide +kernel
theorem dX3_bestNet_16 : decode cX3_bestNet 16 = .ok (.invokevirtual 67, 3) := by decide +kernel
theorem dX3_bestNet_19 : decode cX3_bestNet 19 = .ok (.ifCond .eq 16, 3) := by decide +kernel
theorem dX3_bestNet_22 : decode cX3_bestNet 22 = .ok (.aload_n 0, 1) := by decide +kernel
theorem dX3_bestNet_23 : decode cX3_bestNet 23 = .ok (.aload_n 0, 1) := by decide +kernel
theorem dX3_bestNet_24 : decode cX3_bestNet 24 = .ok (.iload_n 1, 1) := by decide +kernel
theorem dX3_bestNet_25 : decode cX3_bestNet 25 = .ok (.invokevirtual 120, 3) := by decide +kernel
theorem dX3_bestNet_28 : decode cX3_bestNet 28 = .ok (.iload_n 1, 1) := by decide +kernel
theorem dX3_bestNet_29 : decode cX3_bestNet 29 = .ok (.invokevirtual 116, 3) := by decide +kernel
theorem dX3_bestNet_32 : decode cX3_bestNet 32 = .ok (.goto 4, 3) := by decide +kernel
theorem dX3_bestNet_35 : decode cX3_bestNet 35 = .ok (.iconst 0, 1) := by decide +kernel
theorem dX3_bestNet_36 : decode cX3_bestNet 36 = .ok (.ireturn, 1) := by decide +kernel
set_option maxRecDepth 20000 in
theorem ggX3_closedSets_X3_isClosed : GoodIn wsX3_closedSets wsX3_isClosed := goodIn_r _ [7, 2, 8, 9, 10, 11, 12, 13, 14, 15, 16, 17, 18, 19, 20, 21, 22, 23, 24, 25, 26] (by decide +kernel) (by decide +kernel)
set_option maxRecDepth 20000 in
theorem gX3_closedSets_X3_isClosed : GoodIn wsX3_closedSets (wsV RX3 113 RX3 yX3_isClosed wsX3_isClosed) := goodIn_app (goodIn_of _ (by decide +kernel)) ggX3_closedSets_X3_isClosed
theorem dX3_closedSets_0 : decode cX3_closedSets 0 = .ok (.aload_n 0, 1) := by decide +kernel
theorem dX3_closedSets_1 : decode cX3_closedSets 1 = .ok (.iconst 0, 1) := by decide +kernel
theorem dX3_closedSets_2 : decode cX3_closedSets 2 = .ok (.putfield 56, 3) := by decide +kernel
theorem dX3_closedSets_5 : decode cX3_closedSets 5 = .ok (.iconst 0, 1) := by decide +kernel
theorem dX3_closedSets_6 : decode cX3_closedSets 6 = .ok (.istore_n 1, 1) := by decide +kernel
theorem dX3_closedSets_7 : decode cX3_closedSets 7 = .ok (.iconst 0, 1) := by decide +kernel
theorem dX3_closedSets_8 : decode cX3_closedSets 8 = .ok (.istore_n 2, 1) := by decide +kernel
theorem dX3_closedSets_9 : decode cX3_closedSets 9 = .ok (.iload_n 2, 1) := by decide +kernel
theorem dX3_closedSets_10 : decode cX3_closedSets 10 = .ok (.iconst 1, 1) := by decide +kernel
theorem dX3_closedSets_11 : decode cX3_closedSets 11 = .ok (.aload_n 0, 1) := by decide +kernel
theorem dX3_closedSets_12 : decode cX3_closedSets 12 = .ok (.getfield 60, 3) := by decide +kernel
theorem dX3_closedSets_15 : decode cX3_closedSets 15 = .ok (.ishl, 1) := by decide +kernel
theorem dX3_closedSets_16 : decode cX3_closedSets 16 = .ok (.if_icmp .ge 25, 3) := by decide +kernel
theorem dX3_closedSets_19 : decode cX3_closedSets 19 = .ok (.iload_n 1, 1) := by decide +kernel
theorem dX3_closedSets_20 : decode cX3_closedSets 20 = .ok (.aload_n 0, 1) := by decide +kernel
theorem dX3_closedSets_21 : decode cX3_closedSets 21 = .ok (.iload_n 2, 1) := by decide +kernel
theorem dX3_closedSets_22 : decode cX3_closedSets 22 = .ok (.invokevirtual 113, 3) := by decide +kernel
theorem dX3_closedSets_25 : decode cX3_closedSets 25 = .ok (.ifCond .eq 7, 3) := by decide +kernel
theorem dX3_closedSets_28 : decode cX3_closedSets 28 = .ok (.iconst 1, 1) := by decide +kernel
theorem dX3_closedSets_29 : decode cX3_closedSets 29 = .ok (.goto 4, 3) := by decide +kernel
theorem dX3_closedSets_32 : decode cX3_closedSets 32 = .ok (.iconst 0, 1) := by decide +kernel
theorem dX3_closedSets_33 : decode cX3_closedSets 33 = .ok (.iadd, 1) := by decide +kernel
theorem dX3_closedSets_34 : decode cX3_closedSets 34 = .ok (.istore_n 1, 1) := by decide +kernel
theorem dX3_closedSets_35 : decode cX3_closedSets 35 = .ok (.iinc 2 1, 3) := by decide +kernel
theorem dX3_closedSets_38 : decode cX3_closedSets 38 = .ok (.goto (-29), 3) := by decide +kernel
theorem dX3_closedSets_41 : decode cX3_closedSets 41 = .ok (.iload_n 1, 1) := by decide +kernel
theorem dX3_closedSets_42 : decode cX3_closedSets 42 = .ok (.ireturn, 1) := by decide +kernel
