set_option maxRecDepth 20000 in
theorem ggL_areBins_X7_bin : GoodIn wsL_areBins wsX7_bin := goodIn_r _ [5, 6, 7, 8, 9, 10, 11, 12, 13, 14, 15, 4, 16, 17, 18, 19, 20, 21, 22, 23, 24, 25, 26, 27, 28, 29, 30, 31, 32, 33, 34, 35, 36, 37, 38, 39, 40, 41, 42, 43, 44, 45, 46, 47, 48, 49, 50, 51, 52, 53, 54, 55, 56, 78, 79, 80, 81, 82, 83, 84, 85, 86, 87, 88, 89, 90, 91, 92, 93, 94, 95, 96, 97, 98, 99, 100, 101, 102, 103, 104, 105, 106, 107, 108, 109] (by decide +kernel) (by decide +kernel)
set_option maxRecDepth 20000 in
theorem gL_areBins_X7_bin : GoodIn wsL_areBins (wsV RL 49 RX7 yX7_bin wsX7_bin) := goodIn_app (goodIn_of _ (by decide +kernel)) ggL_areBins_X7_bin
set_option maxRecDepth 20000 in
theorem ggL_areBins_L_in : GoodIn wsL_areBins wsL_in := goodIn_r _ [60] (by decide +kernel) (by decide +kernel)
set_option maxRecDepth 20000 in
theorem gL_areBins_L_in : GoodIn wsL_areBins (va_wsS RL 22 yL_in wsL_in) := goodIn_app (goodIn_of _ (by decide +kernel)) ggL_areBins_L_in
set_option maxRecDepth 20000 in
theorem ggL_areBins_L_next : GoodIn wsL_areBins wsL_next := goodIn_r _ [63] (by decide +kernel) (by decide +kernel)
set_option maxRecDepth 20000 in
theorem gL_areBins_L_next : GoodIn wsL_areBins (va_wsS RL 25 yL_next wsL_next) := goodIn_app (goodIn_of _ (by decide +kernel)) ggL_areBins_L_next
set_option maxRecDepth 20000 in
theorem ggL_areBins_X7_inBin : GoodIn wsL_areBins wsX7_inBin := goodIn_r _ [67, 6, 7, 14, 15, 4, 16, 17, 18, 19, 20, 21, 22, 23, 24, 25, 26, 27, 28, 29, 30, 31, 32, 33, 68, 69, 70, 71, 78, 79, 80, 81, 82, 83, 84, 85, 86, 87, 88, 89, 90, 91, 92, 93, 94, 95, 96, 97, 98, 99, 100, 101, 102, 103, 104, 105, 106, 107, 108, 109] (by decide +kernel) (by decide +kernel)
set_option maxRecDepth 20000 in
theorem gL_areBins_X7_inBin : GoodIn wsL_areBins (wsV RL 52 RX7 yX7_inBin wsX7_inBin) := goodIn_app (goodIn_of _ (by decide +kernel)) ggL_areBins_X7_inBin
set_option maxRecDepth 20000 in
theorem ggL_areBins_L_first : GoodIn wsL_areBins wsL_first := goodIn_r _ [74, 61, 62, 59, 63, 75, 76, 77] (by decide +kernel) (by decide +kernel)
set_option maxRecDepth 20000 in
theorem gL_areBins_L_first : GoodIn wsL_areBins (va_wsS RL 33 yL_first wsL_first) := goodIn_app (goodIn_of _ (by decide +kernel)) ggL_areBins_L_first
theorem dL_areBins_0 : decode cL_areBins 0 = .ok (.aload_n 0, 1) := by decide +kernel
theorem dL_areBins_1 : decode cL_areBins 1 = .ok (.bipush 12, 2) := by decide +kernel
theorem dL_areBins_3 : decode cL_areBins 3 = .ok (.iconst 0, 1) := by decide +kernel
theorem dL_areBins_4 : decode cL_areBins 4 = .ok (.invokevirtual 49, 3) := by decide +kernel
theorem dL_areBins_7 : decode cL_areBins 7 = .ok (.iconst (-1), 1) := by decide +kernel
theorem dL_areBins_8 : decode cL_areBins 8 = .ok (.if_icmp .ne 7, 3) := by decide +kernel
theorem dL_areBins_11 : decode cL_areBins 11 = .ok (.iconst 1, 1) := by decide +kernel
theorem dL_areBins_12 : decode cL_areBins 12 = .ok (.goto 4, 3) := by decide +kernel
theorem dL_areBins_15 : decode cL_areBins 15 = .ok (.iconst 0, 1) := by decide +kernel
theorem dL_areBins_16 : decode cL_areBins 16 = .ok (.istore 4, 2) := by decide +kernel
theorem dL_areBins_18 : decode cL_areBins 18 = .ok (.iconst 0, 1) := by decide +kernel
theorem dL_areBins_19 : decode cL_areBins 19 = .ok (.istore 5, 2) := by decide +kernel
theorem dL_areBins_21 : decode cL_areBins 21 = .ok (.iload 5, 2) := by decide +kernel
theorem dL_areBins_23 : decode cL_areBins 23 = .ok (.bipush 12, 2) := by decide +kernel
theorem dL_areBins_25 : decode cL_areBins 25 = .ok (.if_icmp .ge 301, 3) := by decide +kernel
theorem dL_areBins_28 : decode cL_areBins 28 = .ok (.iload 4, 2) := by decide +kernel
theorem dL_areBins_30 : decode cL_areBins 30 = .ok (.ifCond .eq 296, 3) := by decide +kernel
theorem dL_areBins_33 : decode cL_areBins 33 = .ok (.aload_n 2, 1) := by decide +kernel
theorem dL_areBins_34 : decode cL_areBins 34 = .ok (.aload_n 3, 1) := by decide +kernel
theorem dL_areBins_35 : decode cL_areBins 35 = .ok (.iload 5, 2) := by decide +kernel
theorem dL_areBins_37 : decode cL_areBins 37 = .ok (.invokestatic 22, 3) := by decide +kernel
theorem dL_areBins_40 : decode cL_areBins 40 = .ok (.istore 6, 2) := by decide +kernel
theorem dL_areBins_42 : decode cL_areBins 42 = .ok (.iconst 0, 1) := by decide +kernel
theorem dL_areBins_43 : decode cL_areBins 43 = .ok (.istore 7, 2) := by decide +kernel
theorem dL_areBins_45 : decode cL_areBins 45 = .ok (.aload_n 1, 1) := by decide +kernel
theorem dL_areBins_46 : decode cL_areBins 46 = .ok (.aload_n 2, 1) := by decide +kernel
theorem dL_areBins_47 : decode cL_areBins 47 = .ok (.aload_n 3, 1) := by decide +kernel
theorem dL_areBins_48 : decode cL_areBins 48 = .ok (.iload 5, 2) := by decide +kernel
theorem dL_areBins_50 : decode cL_areBins 50 = .ok (.bipush (-5), 2) := by decide +kernel
theorem dL_areBins_52 : decode cL_areBins 52 = .ok (.invokestatic 25, 3) := by decide +kernel
theorem dL_areBins_55 : decode cL_areBins 55 = .ok (.istore 8, 2) := by decide +kernel
theorem dL_areBins_57 : decode cL_areBins 57 = .ok (.iconst 0, 1) := by decide +kernel
theorem dL_areBins_58 : decode cL_areBins 58 = .ok (.istore 9, 2) := by decide +kernel
theorem dL_areBins_60 : decode cL_areBins 60 = .ok (.iload 8, 2) := by decide +kernel
theorem dL_areBins_62 : decode cL_areBins 62 = .ok (.istore 10, 2) := by decide +kernel
theorem dL_areBins_64 : decode cL_areBins 64 = .ok (.iload 8, 2) := by decide +kernel
theorem dL_areBins_66 : decode cL_areBins 66 = .ok (.istore 11, 2) := by decide +kernel
theorem dL_areBins_68 : decode cL_areBins 68 = .ok (.iload 8, 2) := by decide +kernel
theorem dL_areBins_70 : decode cL_areBins 70 = .ok (.ifCond .lt 63, 3) := by decide +kernel
theorem dL_areBins_73 : decode cL_areBins 73 = .ok (.iload 4, 2) := by decide +kernel
theorem dL_areBins_75 : decode cL_areBins 75 = .ok (.ifCond .eq 20, 3) := by decide +kernel
theorem dL_areBins_78 : decode cL_areBins 78 = .ok (.aload_n 0, 1) := by decide +kernel
theorem dL_areBins_79 : decode cL_areBins 79 = .ok (.iload 5, 2) := by decide +kernel
theorem dL_areBins_81 : decode cL_areBins 81 = .ok (.iload 9, 2) := by decide +kernel
theorem dL_areBins_83 : decode cL_areBins 83 = .ok (.invokevirtual 52, 3) := by decide +kernel
theorem dL_areBins_86 : decode cL_areBins 86 = .ok (.iload 8, 2) := by decide +kernel
theorem dL_areBins_88 : decode cL_areBins 88 = .ok (.if_icmp .ne 7, 3) := by decide +kernel
theorem dL_areBins_91 : decode cL_areBins 91 = .ok (.iconst 1, 1) := by decide +kernel
theorem dL_areBins_92 : decode cL_areBins 92 = .ok (.goto 4, 3) := by decide +kernel
theorem dL_areBins_95 : decode cL_areBins 95 = .ok (.iconst 0, 1) := by decide +kernel
theorem dL_areBins_96 : decode cL_areBins 96 = .ok (.istore 4, 2) := by decide +kernel
theorem dL_areBins_98 : decode cL_areBins 98 = .ok (.iload 7, 2) := by decide +kernel
theorem dL_areBins_100 : decode cL_areBins 100 = .ok (.aload_n 1, 1) := by decide +kernel
theorem dL_areBins_101 : decode cL_areBins 101 = .ok (.iconst 3, 1) := by decide +kernel
theorem dL_areBins_102 : decode cL_areBins 102 = .ok (.iload 8, 2) := by decide +kernel
theorem dL_areBins_104 : decode cL_areBins 104 = .ok (.imul, 1) := by decide +kernel
theorem dL_areBins_105 : decode cL_areBins 105 = .ok (.iconst 1, 1) := by decide +kernel
theorem dL_areBins_106 : decode cL_areBins 106 = .ok (.iadd, 1) := by decide +kernel
theorem dL_areBins_107 : decode cL_areBins 107 = .ok (.iaload, 1) := by decide +kernel
theorem dL_areBins_108 : decode cL_areBins 108 = .ok (.iadd, 1) := by decide +kernel
theorem dL_areBins_109 : decode cL_areBins 109 = .ok (.istore 7, 2) := by decide +kernel
theorem dL_areBins_111 : decode cL_areBins 111 = .ok (.iload 8, 2) := by decide +kernel
theorem dL_areBins_113 : decode cL_areBins 113 = .ok (.istore 10, 2) := by decide +kernel
theorem dL_areBins_115 : decode cL_areBins 115 = .ok (.iinc 9 1, 3) := by decide +kernel
theorem dL_areBins_118 : decode cL_areBins 118 = .ok (.aload_n 1, 1) := by decide +kernel
theorem dL_areBins_119 : decode cL_areBins 119 = .ok (.aload_n 2, 1) := by decide +kernel
theorem dL_areBins_120 : decode cL_areBins 120 = .ok (.aload_n 3, 1) := by decide +kernel
theorem dL_areBins_121 : decode cL_areBins 121 = .ok (.iload 5, 2) := by decide +kernel
theorem dL_areBins_123 : decode cL_areBins 123 = .ok (.iload 8, 2) := by decide +kernel
theorem dL_areBins_125 : decode cL_areBins 125 = .ok (.invokestatic 25, 3) := by decide +kernel
theorem dL_areBins_128 : decode cL_areBins 128 = .ok (.istore 8, 2) := by decide +kernel
theorem dL_areBins_130 : decode cL_areBins 130 = .ok (.goto (-62), 3) := by decide +kernel
theorem dL_areBins_133 : decode cL_areBins 133 = .ok (.iconst 0, 1) := by decide +kernel
theorem dL_areBins_134 : decode cL_areBins 134 = .ok (.istore 12, 2) := by decide +kernel
theorem dL_areBins_136 : decode cL_areBins 136 = .ok (.iconst 1, 1) := by decide +kernel
theorem dL_areBins_137 : decode cL_areBins 137 = .ok (.istore 13, 2) := by decide +kernel
theorem dL_areBins_139 : decode cL_areBins 139 = .ok (.iload 13, 2) := by decide +kernel
theorem dL_areBins_141 : decode cL_areBins 141 = .ok (.bipush 10, 2) := by decide +kernel
theorem dL_areBins_143 : decode cL_areBins 143 = .ok (.if_icmp .ge 31, 3) := by decide +kernel
theorem dL_areBins_146 : decode cL_areBins 146 = .ok (.aload_n 1, 1) := by decide +kernel
theorem dL_areBins_147 : decode cL_areBins 147 = .ok (.aload_n 2, 1) := by decide +kernel
theorem dL_areBins_148 : decode cL_areBins 148 = .ok (.aload_n 3, 1) := by decide +kernel
theorem dL_areBins_149 : decode cL_areBins 149 = .ok (.iload 5, 2) := by decide +kernel
theorem dL_areBins_151 : decode cL_areBins 151 = .ok (.iload 13, 2) := by decide +kernel
theorem dL_areBins_153 : decode cL_areBins 153 = .ok (.invokestatic 33, 3) := by decide +kernel
theorem dL_areBins_156 : decode cL_areBins 156 = .ok (.ifCond .lt 8, 3) := by decide +kernel
theorem dL_areBins_159 : decode cL_areBins 159 = .ok (.iload 13, 2) := by decide +kernel
theorem dL_areBins_161 : decode cL_areBins 161 = .ok (.goto 5, 3) := by decide +kernel
theorem dL_areBins_164 : decode cL_areBins 164 = .ok (.iload 12, 2) := by decide +kernel
theorem dL_areBins_166 : decode cL_areBins 166 = .ok (.istore 12, 2) := by decide +kernel
theorem dL_areBins_168 : decode cL_areBins 168 = .ok (.iinc 13 1, 3) := by decide +kernel
theorem dL_areBins_171 : decode cL_areBins 171 = .ok (.goto (-32), 3) := by decide +kernel
theorem dL_areBins_174 : decode cL_areBins 174 = .ok (.iload 4, 2) := by decide +kernel
theorem dL_areBins_176 : decode cL_areBins 176 = .ok (.ifCond .eq 141, 3) := by decide +kernel
theorem dL_areBins_179 : decode cL_areBins 179 = .ok (.iload 9, 2) := by decide +kernel
theorem dL_areBins_181 : decode cL_areBins 181 = .ok (.iload 6, 2) := by decide +kernel
theorem dL_areBins_183 : decode cL_areBins 183 = .ok (.if_icmp .ne 134, 3) := by decide +kernel
theorem dL_areBins_186 : decode cL_areBins 186 = .ok (.aload_n 0, 1) := by decide +kernel
theorem dL_areBins_187 : decode cL_areBins 187 = .ok (.iload 5, 2) := by decide +kernel
theorem dL_areBins_189 : decode cL_areBins 189 = .ok (.iload 9, 2) := by decide +kernel
theorem dL_areBins_191 : decode cL_areBins 191 = .ok (.invokevirtual 52, 3) := by decide +kernel
theorem dL_areBins_194 : decode cL_areBins 194 = .ok (.bipush (-5), 2) := by decide +kernel
theorem dL_areBins_196 : decode cL_areBins 196 = .ok (.if_icmp .ne 121, 3) := by decide +kernel
theorem dL_areBins_199 : decode cL_areBins 199 = .ok (.aload_n 0, 1) := by decide +kernel
theorem dL_areBins_200 : decode cL_areBins 200 = .ok (.iload 5, 2) := by decide +kernel
theorem dL_areBins_202 : decode cL_areBins 202 = .ok (.iconst 0, 1) := by decide +kernel
theorem dL_areBins_203 : decode cL_areBins 203 = .ok (.invokevirtual 49, 3) := by decide +kernel
theorem dL_areBins_206 : decode cL_areBins 206 = .ok (.iload 6, 2) := by decide +kernel
theorem dL_areBins_208 : decode cL_areBins 208 = .ok (.if_icmp .ne 109, 3) := by decide +kernel
theorem dL_areBins_211 : decode cL_areBins 211 = .ok (.aload_n 0, 1) := by decide +kernel
theorem dL_areBins_212 : decode cL_areBins 212 = .ok (.iload 5, 2) := by decide +kernel
theorem dL_areBins_214 : decode cL_areBins 214 = .ok (.iconst 1, 1) := by decide +kernel
theorem dL_areBins_215 : decode cL_areBins 215 = .ok (.invokevirtual 49, 3) := by decide +kernel
theorem dL_areBins_218 : decode cL_areBins 218 = .ok (.aload_n 3, 1) := by decide +kernel
theorem dL_areBins_219 : decode cL_areBins 219 = .ok (.bipush 6, 2) := by decide +kernel
theorem dL_areBins_221 : decode cL_areBins 221 = .ok (.iaload, 1) := by decide +kernel
theorem dL_areBins_222 : decode cL_areBins 222 = .ok (.iload 6, 2) := by decide +kernel
theorem dL_areBins_224 : decode cL_areBins 224 = .ok (.if_icmp .ge 7, 3) := by decide +kernel
theorem dL_areBins_227 : decode cL_areBins 227 = .ok (.iconst 0, 1) := by decide +kernel
theorem dL_areBins_228 : decode cL_areBins 228 = .ok (.goto 10, 3) := by decide +kernel
theorem dL_areBins_231 : decode cL_areBins 231 = .ok (.aload_n 3, 1) := by decide +kernel
theorem dL_areBins_232 : decode cL_areBins 232 = .ok (.bipush 6, 2) := by decide +kernel
theorem dL_areBins_234 : decode cL_areBins 234 = .ok (.iaload, 1) := by decide +kernel
theorem dL_areBins_235 : decode cL_areBins 235 = .ok (.iload 6, 2) := by decide +kernel
theorem dL_areBins_237 : decode cL_areBins 237 = .ok (.isub, 1) := by decide +kernel
theorem dL_areBins_238 : decode cL_areBins 238 = .ok (.if_icmp .ne 79, 3) := by decide +kernel
theorem dL_areBins_241 : decode cL_areBins 241 = .ok (.aload_n 0, 1) := by decide +kernel
theorem dL_areBins_242 : decode cL_areBins 242 = .ok (.iload 5, 2) := by decide +kernel
theorem dL_areBins_244 : decode cL_areBins 244 = .ok (.iconst 2, 1) := by decide +kernel
theorem dL_areBins_245 : decode cL_areBins 245 = .ok (.invokevirtual 49, 3) := by decide +kernel
theorem dL_areBins_248 : decode cL_areBins 248 = .ok (.iload 7, 2) := by decide +kernel
theorem dL_areBins_250 : decode cL_areBins 250 = .ok (.if_icmp .ne 67, 3) := by decide +kernel
theorem dL_areBins_253 : decode cL_areBins 253 = .ok (.aload_n 0, 1) := by decide +kernel
theorem dL_areBins_254 : decode cL_areBins 254 = .ok (.iload 5, 2) := by decide +kernel
theorem dL_areBins_256 : decode cL_areBins 256 = .ok (.iconst 3, 1) := by decide +kernel
theorem dL_areBins_257 : decode cL_areBins 257 = .ok (.invokevirtual 49, 3) := by decide +kernel
theorem dL_areBins_260 : decode cL_areBins 260 = .ok (.iload 12, 2) := by decide +kernel
theorem dL_areBins_262 : decode cL_areBins 262 = .ok (.if_icmp .ne 55, 3) := by decide +kernel
theorem dL_areBins_265 : decode cL_areBins 265 = .ok (.aload_n 0, 1) := by decide +kernel
theorem dL_areBins_266 : decode cL_areBins 266 = .ok (.iload 5, 2) := by decide +kernel
theorem dL_areBins_268 : decode cL_areBins 268 = .ok (.iconst 4, 1) := by decide +kernel
theorem dL_areBins_269 : decode cL_areBins 269 = .ok (.invokevirtual 49, 3) := by decide +kernel
theorem dL_areBins_272 : decode cL_areBins 272 = .ok (.iload 6, 2) := by decide +kernel
theorem dL_areBins_274 : decode cL_areBins 274 = .ok (.ifCond .ne 7, 3) := by decide +kernel
theorem dL_areBins_277 : decode cL_areBins 277 = .ok (.iconst 0, 1) := by decide +kernel
theorem dL_areBins_278 : decode cL_areBins 278 = .ok (.goto 20, 3) := by decide +kernel
theorem dL_areBins_281 : decode cL_areBins 281 = .ok (.aload_n 1, 1) := by decide +kernel
theorem dL_areBins_282 : decode cL_areBins 282 = .ok (.iconst 3, 1) := by decide +kernel
theorem dL_areBins_283 : decode cL_areBins 283 = .ok (.iload 10, 2) := by decide +kernel
theorem dL_areBins_285 : decode cL_areBins 285 = .ok (.imul, 1) := by decide +kernel
theorem dL_areBins_286 : decode cL_areBins 286 = .ok (.iconst 1, 1) := by decide +kernel
theorem dL_areBins_287 : decode cL_areBins 287 = .ok (.iadd, 1) := by decide +kernel
theorem dL_areBins_288 : decode cL_areBins 288 = .ok (.iaload, 1) := by decide +kernel
theorem dL_areBins_289 : decode cL_areBins 289 = .ok (.aload_n 1, 1) := by decide +kernel
theorem dL_areBins_290 : decode cL_areBins 290 = .ok (.iconst 3, 1) := by decide +kernel
theorem dL_areBins_291 : decode cL_areBins 291 = .ok (.iload 11, 2) := by decide +kernel
theorem dL_areBins_293 : decode cL_areBins 293 = .ok (.imul, 1) := by decide +kernel
theorem dL_areBins_294 : decode cL_areBins 294 = .ok (.iconst 1, 1) := by decide +kernel
theorem dL_areBins_295 : decode cL_areBins 295 = .ok (.iadd, 1) := by decide +kernel
theorem dL_areBins_296 : decode cL_areBins 296 = .ok (.iaload, 1) := by decide +kernel
theorem dL_areBins_297 : decode cL_areBins 297 = .ok (.isub, 1) := by decide +kernel
theorem dL_areBins_298 : decode cL_areBins 298 = .ok (.if_icmp .ne 19, 3) := by decide +kernel
theorem dL_areBins_301 : decode cL_areBins 301 = .ok (.aload_n 0, 1) := by decide +kernel
theorem dL_areBins_302 : decode cL_areBins 302 = .ok (.iload 5, 2) := by decide +kernel
theorem dL_areBins_304 : decode cL_areBins 304 = .ok (.iconst 5, 1) := by decide +kernel
theorem dL_areBins_305 : decode cL_areBins 305 = .ok (.invokevirtual 49, 3) := by decide +kernel
theorem dL_areBins_308 : decode cL_areBins 308 = .ok (.bipush (-2), 2) := by decide +kernel
theorem dL_areBins_310 : decode cL_areBins 310 = .ok (.if_icmp .ne 7, 3) := by decide +kernel
theorem dL_areBins_313 : decode cL_areBins 313 = .ok (.iconst 1, 1) := by decide +kernel
theorem dL_areBins_314 : decode cL_areBins 314 = .ok (.goto 4, 3) := by decide +kernel
theorem dL_areBins_317 : decode cL_areBins 317 = .ok (.iconst 0, 1) := by decide +kernel
theorem dL_areBins_318 : decode cL_areBins 318 = .ok (.istore 4, 2) := by decide +kernel
theorem dL_areBins_320 : decode cL_areBins 320 = .ok (.iinc 5 1, 3) := by decide +kernel
theorem dL_areBins_323 : decode cL_areBins 323 = .ok (.goto (-302), 3) := by decide +kernel
theorem dL_areBins_326 : decode cL_areBins 326 = .ok (.iload 4, 2) := by decide +kernel
theorem dL_areBins_328 : decode cL_areBins 328 = .ok (.ireturn, 1) := by decide +kernel
set_option maxRecDepth 20000 in
theorem ggL_isSpread_L_next : GoodIn wsL_isSpread wsL_next := goodIn_r _ [4] (by decide +kernel) (by decide +kernel)
set_option maxRecDepth 20000 in
theorem gL_isSpread_L_next : GoodIn wsL_isSpread (va_wsS RL 25 yL_next wsL_next) := goodIn_app (goodIn_of _ (by decide +kernel)) ggL_isSpread_L_next
set_option maxRecDepth 20000 in
theorem ggL_isSpread_L_differs : GoodIn wsL_isSpread wsL_differs := goodIn_r _ [7, 1, 2, 3, 4] (by decide +kernel) (by decide +kernel)
set_option maxRecDepth 20000 in
theorem gL_isSpread_L_differs : GoodIn wsL_isSpread (va_wsS RL 29 yL_differs wsL_differs) := goodIn_app (goodIn_of _ (by decide +kernel)) ggL_isSpread_L_differs
set_option maxRecDepth 20000 in
theorem ggL_isSpread_L_in : GoodIn wsL_isSpread wsL_in := goodIn_r _ [10] (by decide +kernel) (by decide +kernel)
set_option maxRecDepth 20000 in
theorem gL_isSpread_L_in : GoodIn wsL_isSpread (va_wsS RL 22 yL_in wsL_in) := goodIn_app (goodIn_of _ (by decide +kernel)) ggL_isSpread_L_in
set_option maxRecDepth 20000 in
theorem ggL_isSpread_X7_leastSpread : GoodIn wsL_isSpread wsX7_leastSpread := goodIn_r _ [15, 16, 17, 18, 19, 20, 14, 21, 22, 23, 24, 25, 26, 27, 28, 29, 30, 31, 32, 33, 34, 35, 36, 37, 38, 39, 40, 41, 42, 43, 44, 45, 46, 47, 48, 49, 50, 51, 52, 53, 67, 68, 69, 70, 71, 72, 73, 74, 75, 76, 77, 78, 79, 80, 81, 82, 83, 84, 85, 86, 87, 88, 89, 90, 91, 92, 93, 94, 95, 96, 97, 98] (by decide +kernel) (by decide +kernel)
set_option maxRecDepth 20000 in
theorem gL_isSpread_X7_leastSpread : GoodIn wsL_isSpread (wsV RL 55 RX7 yX7_leastSpread wsX7_leastSpread) := goodIn_app (goodIn_of _ (by decide +kernel)) ggL_isSpread_X7_leastSpread
set_option maxRecDepth 20000 in
theorem ggL_isSpread_X7_reason : GoodIn wsL_isSpread wsX7_reason := goodIn_r _ [57, 16, 17, 19, 20, 14, 21, 22, 23, 24, 25, 26, 27, 28, 29, 30, 31, 32, 33, 34, 35, 36, 37, 38, 39, 40, 41, 58, 59, 60, 61, 18, 62, 63, 64, 65, 66, 50, 51, 52, 53, 67, 68, 69, 70, 71, 72, 73, 74, 75, 76, 77, 78, 79, 80, 81, 82, 83, 84, 85, 86, 87, 88, 89, 90, 91, 92, 93, 94, 95, 96, 97, 98] (by decide +kernel) (by decide +kernel)
set_option maxRecDepth 20000 in
theorem gL_isSpread_X7_reason : GoodIn wsL_isSpread (wsV RL 58 RX7 yX7_reason wsX7_reason) := goodIn_app (goodIn_of _ (by decide +kernel)) ggL_isSpread_X7_reason
theorem dL_isSpread_0 : decode cL_isSpread 0 = .ok (.bipush (-5), 2) := by decide +kernel
theorem dL_isSpread_2 : decode cL_isSpread 2 = .ok (.istore 6, 2) := by decide +kernel
theorem dL_isSpread_4 : decode cL_isSpread 4 = .ok (.aload_n 1, 1) := by decide +kernel
theorem dL_isSpread_5 : decode cL_isSpread 5 = .ok (.aload_n 2, 1) := by decide +kernel
theorem dL_isSpread_6 : decode cL_isSpread 6 = .ok (.aload_n 3, 1) := by decide +kernel
theorem dL_isSpread_7 : decode cL_isSpread 7 = .ok (.iload 4, 2) := by decide +kernel
theorem dL_isSpread_9 : decode cL_isSpread 9 = .ok (.bipush (-5), 2) := by decide +kernel
theorem dL_isSpread_11 : decode cL_isSpread 11 = .ok (.invokestatic 25, 3) := by decide +kernel
theorem dL_isSpread_14 : decode cL_isSpread 14 = .ok (.istore 7, 2) := by decide +kernel
theorem dL_isSpread_16 : decode cL_isSpread 16 = .ok (.iload 7, 2) := by decide +kernel
theorem dL_isSpread_18 : decode cL_isSpread 18 = .ok (.ifCond .lt 58, 3) := by decide +kernel
theorem dL_isSpread_21 : decode cL_isSpread 21 = .ok (.aload_n 1, 1) := by decide +kernel
theorem dL_isSpread_22 : decode cL_isSpread 22 = .ok (.aload_n 2, 1) := by decide +kernel
theorem dL_isSpread_23 : decode cL_isSpread 23 = .ok (.aload_n 3, 1) := by decide +kernel
theorem dL_isSpread_24 : decode cL_isSpread 24 = .ok (.iload 4, 2) := by decide +kernel
theorem dL_isSpread_26 : decode cL_isSpread 26 = .ok (.iload 7, 2) := by decide +kernel
theorem dL_isSpread_28 : decode cL_isSpread 28 = .ok (.iload 5, 2) := by decide +kernel
theorem dL_isSpread_30 : decode cL_isSpread 30 = .ok (.invokestatic 29, 3) := by decide +kernel
theorem dL_isSpread_33 : decode cL_isSpread 33 = .ok (.istore 8, 2) := by decide +kernel
theorem dL_isSpread_35 : decode cL_isSpread 35 = .ok (.iload 8, 2) := by decide +kernel
theorem dL_isSpread_37 : decode cL_isSpread 37 = .ok (.ifCond .lt 20, 3) := by decide +kernel
theorem dL_isSpread_40 : decode cL_isSpread 40 = .ok (.iload 6, 2) := by decide +kernel
theorem dL_isSpread_42 : decode cL_isSpread 42 = .ok (.ifCond .lt 10, 3) := by decide +kernel
theorem dL_isSpread_45 : decode cL_isSpread 45 = .ok (.iload 8, 2) := by decide +kernel
theorem dL_isSpread_47 : decode cL_isSpread 47 = .ok (.iload 6, 2) := by decide +kernel
theorem dL_isSpread_49 : decode cL_isSpread 49 = .ok (.if_icmp .ge 8, 3) := by decide +kernel
theorem dL_isSpread_52 : decode cL_isSpread 52 = .ok (.iload 8, 2) := by decide +kernel
theorem dL_isSpread_54 : decode cL_isSpread 54 = .ok (.goto 5, 3) := by decide +kernel
theorem dL_isSpread_57 : decode cL_isSpread 57 = .ok (.iload 6, 2) := by decide +kernel
theorem dL_isSpread_59 : decode cL_isSpread 59 = .ok (.istore 6, 2) := by decide +kernel
theorem dL_isSpread_61 : decode cL_isSpread 61 = .ok (.aload_n 1, 1) := by decide +kernel
theorem dL_isSpread_62 : decode cL_isSpread 62 = .ok (.aload_n 2, 1) := by decide +kernel
theorem dL_isSpread_63 : decode cL_isSpread 63 = .ok (.aload_n 3, 1) := by decide +kernel
theorem dL_isSpread_64 : decode cL_isSpread 64 = .ok (.iload 4, 2) := by decide +kernel
theorem dL_isSpread_66 : decode cL_isSpread 66 = .ok (.iload 7, 2) := by decide +kernel
theorem dL_isSpread_68 : decode cL_isSpread 68 = .ok (.invokestatic 25, 3) := by decide +kernel
theorem dL_isSpread_71 : decode cL_isSpread 71 = .ok (.istore 7, 2) := by decide +kernel
theorem dL_isSpread_73 : decode cL_isSpread 73 = .ok (.goto (-57), 3) := by decide +kernel
theorem dL_isSpread_76 : decode cL_isSpread 76 = .ok (.aload_n 2, 1) := by decide +kernel
theorem dL_isSpread_77 : decode cL_isSpread 77 = .ok (.aload_n 3, 1) := by decide +kernel
theorem dL_isSpread_78 : decode cL_isSpread 78 = .ok (.iload 4, 2) := by decide +kernel
theorem dL_isSpread_80 : decode cL_isSpread 80 = .ok (.invokestatic 22, 3) := by decide +kernel
theorem dL_isSpread_83 : decode cL_isSpread 83 = .ok (.iload 5, 2) := by decide +kernel
theorem dL_isSpread_85 : decode cL_isSpread 85 = .ok (.if_icmp .ge 7, 3) := by decide +kernel
theorem dL_isSpread_88 : decode cL_isSpread 88 = .ok (.iconst 1, 1) := by decide +kernel
theorem dL_isSpread_89 : decode cL_isSpread 89 = .ok (.goto 17, 3) := by decide +kernel
theorem dL_isSpread_92 : decode cL_isSpread 92 = .ok (.iload 6, 2) := by decide +kernel
theorem dL_isSpread_94 : decode cL_isSpread 94 = .ok (.aload_n 3, 1) := by decide +kernel
theorem dL_isSpread_95 : decode cL_isSpread 95 = .ok (.bipush 7, 2) := by decide +kernel
theorem dL_isSpread_97 : decode cL_isSpread 97 = .ok (.iaload, 1) := by decide +kernel
theorem dL_isSpread_98 : decode cL_isSpread 98 = .ok (.if_icmp .le 7, 3) := by decide +kernel
theorem dL_isSpread_101 : decode cL_isSpread 101 = .ok (.iconst 2, 1) := by decide +kernel
theorem dL_isSpread_102 : decode cL_isSpread 102 = .ok (.goto 4, 3) := by decide +kernel
theorem dL_isSpread_105 : decode cL_isSpread 105 = .ok (.iconst 0, 1) := by decide +kernel
theorem dL_isSpread_106 : decode cL_isSpread 106 = .ok (.istore 7, 2) := by decide +kernel
theorem dL_isSpread_108 : decode cL_isSpread 108 = .ok (.aload_n 0, 1) := by decide +kernel
theorem dL_isSpread_109 : decode cL_isSpread 109 = .ok (.iload 4, 2) := by decide +kernel
theorem dL_isSpread_111 : decode cL_isSpread 111 = .ok (.iload 5, 2) := by decide +kernel
theorem dL_isSpread_113 : decode cL_isSpread 113 = .ok (.invokevirtual 55, 3) := by decide +kernel
theorem dL_isSpread_116 : decode cL_isSpread 116 = .ok (.iload 6, 2) := by decide +kernel
theorem dL_isSpread_118 : decode cL_isSpread 118 = .ok (.if_icmp .ne 20, 3) := by decide +kernel
theorem dL_isSpread_121 : decode cL_isSpread 121 = .ok (.aload_n 0, 1) := by decide +kernel
theorem dL_isSpread_122 : decode cL_isSpread 122 = .ok (.iload 4, 2) := by decide +kernel
theorem dL_isSpread_124 : decode cL_isSpread 124 = .ok (.iload 5, 2) := by decide +kernel
theorem dL_isSpread_126 : decode cL_isSpread 126 = .ok (.invokevirtual 58, 3) := by decide +kernel
theorem dL_isSpread_129 : decode cL_isSpread 129 = .ok (.iload 7, 2) := by decide +kernel
theorem dL_isSpread_131 : decode cL_isSpread 131 = .ok (.if_icmp .ne 7, 3) := by decide +kernel
theorem dL_isSpread_134 : decode cL_isSpread 134 = .ok (.iconst 1, 1) := by decide +kernel
theorem dL_isSpread_135 : decode cL_isSpread 135 = .ok (.goto 4, 3) := by decide +kernel
theorem dL_isSpread_138 : decode cL_isSpread 138 = .ok (.iconst 0, 1) := by decide +kernel
theorem dL_isSpread_139 : decode cL_isSpread 139 = .ok (.ireturn, 1) := by decide +kernel
