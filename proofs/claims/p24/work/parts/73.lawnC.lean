theorem dL_copy_0 : decode cL_copy 0 = .ok (.iconst 0, 1) := by decide +kernel
theorem dL_copy_1 : decode cL_copy 1 = .ok (.istore_n 2, 1) := by decide +kernel
theorem dL_copy_2 : decode cL_copy 2 = .ok (.iload_n 2, 1) := by decide +kernel
theorem dL_copy_3 : decode cL_copy 3 = .ok (.aload_n 0, 1) := by decide +kernel
theorem dL_copy_4 : decode cL_copy 4 = .ok (.arraylength, 1) := by decide +kernel
theorem dL_copy_5 : decode cL_copy 5 = .ok (.if_icmp .ge 15, 3) := by decide +kernel
theorem dL_copy_8 : decode cL_copy 8 = .ok (.aload_n 1, 1) := by decide +kernel
theorem dL_copy_9 : decode cL_copy 9 = .ok (.iload_n 2, 1) := by decide +kernel
theorem dL_copy_10 : decode cL_copy 10 = .ok (.aload_n 0, 1) := by decide +kernel
theorem dL_copy_11 : decode cL_copy 11 = .ok (.iload_n 2, 1) := by decide +kernel
theorem dL_copy_12 : decode cL_copy 12 = .ok (.iaload, 1) := by decide +kernel
theorem dL_copy_13 : decode cL_copy 13 = .ok (.iastore, 1) := by decide +kernel
theorem dL_copy_14 : decode cL_copy 14 = .ok (.iinc 2 1, 3) := by decide +kernel
theorem dL_copy_17 : decode cL_copy 17 = .ok (.goto (-15), 3) := by decide +kernel
theorem dL_copy_20 : decode cL_copy 20 = .ok (.return_, 1) := by decide +kernel
set_option maxRecDepth 20000 in
theorem ggL_would_L_copy : GoodIn wsL_would wsL_copy := goodIn_r _ [5] (by decide +kernel) (by decide +kernel)
set_option maxRecDepth 20000 in
theorem gL_would_L_copy : GoodIn wsL_would (va_wsS RL 61 yL_copy wsL_copy) := goodIn_app (goodIn_of _ (by decide +kernel)) ggL_would_L_copy
set_option maxRecDepth 20000 in
theorem ggL_would_L_first : GoodIn wsL_would wsL_first := goodIn_r _ [8, 9, 10, 4, 11, 12, 13, 14] (by decide +kernel) (by decide +kernel)
set_option maxRecDepth 20000 in
theorem gL_would_L_first : GoodIn wsL_would (va_wsS RL 33 yL_first wsL_first) := goodIn_app (goodIn_of _ (by decide +kernel)) ggL_would_L_first
set_option maxRecDepth 20000 in
theorem ggL_would_L_sews : GoodIn wsL_would wsL_sews := goodIn_r _ [17, 6, 7, 4, 8, 9, 10, 11, 12, 13, 14] (by decide +kernel) (by decide +kernel)
set_option maxRecDepth 20000 in
theorem gL_would_L_sews : GoodIn wsL_would (va_wsS RL 65 yL_sews wsL_sews) := goodIn_app (goodIn_of _ (by decide +kernel)) ggL_would_L_sews
set_option maxRecDepth 20000 in
theorem ggL_would_X7_shirts : GoodIn wsL_would wsX7_shirts := goodIn_r _ [22, 23, 24, 25, 26, 27, 21, 28, 29, 30, 31, 32, 33, 34, 35, 36, 37, 38, 39, 40, 41, 42, 43, 44, 45, 46, 47, 48, 49, 50, 51, 52, 53, 206, 207, 208, 209, 210, 211, 212, 213, 214, 215, 216, 217, 218, 219, 220, 221, 222, 223, 224, 225, 226, 227, 228, 229, 230, 231, 232, 233, 234, 235, 236, 237] (by decide +kernel) (by decide +kernel)
set_option maxRecDepth 20000 in
theorem gL_would_X7_shirts : GoodIn wsL_would (wsV RL 68 RX7 yX7_shirts wsX7_shirts) := goodIn_app (goodIn_of _ (by decide +kernel)) ggL_would_X7_shirts
set_option maxRecDepth 20000 in
theorem ggL_would_X7_ifMesh : GoodIn wsL_would wsX7_ifMesh := goodIn_r _ [57, 24, 58, 25, 59, 60, 61, 62, 21, 63, 64, 65, 66, 67, 68, 69, 70, 71, 72, 73, 74, 75, 76, 77, 78, 79, 80, 81, 82, 83, 84, 85, 86, 87, 88, 89, 90, 91, 92, 93, 94, 95, 96, 97, 98, 99, 100, 101, 102, 103, 104, 105, 106, 107, 108, 109, 110, 111, 112, 113, 114, 115, 116, 117, 118, 119, 120, 121, 122, 123, 124, 125, 126, 127, 128, 129, 130, 131, 132, 133, 134, 135, 136, 137, 138, 139, 140, 141, 142, 143, 144, 145, 146, 147, 148, 149, 150, 151, 152, 153, 154, 155, 156, 157, 158, 159, 160, 161, 162, 163, 164, 165, 166, 167, 168, 169, 170, 171, 172, 173, 174, 175, 176, 177, 178, 179, 180, 181, 182, 183, 184, 185, 186, 187, 188, 189, 190, 206, 207, 208, 209, 210, 211, 212, 213, 214, 215, 216, 217, 218, 219, 220, 221, 232, 233, 234, 235, 236, 237, 225, 226, 227, 228, 229, 230, 231] (by decide +kernel) (by decide +kernel)
set_option maxRecDepth 20000 in
theorem gL_would_X7_ifMesh : GoodIn wsL_would (wsV RL 71 RX7 yX7_ifMesh wsX7_ifMesh) := goodIn_app (goodIn_of _ (by decide +kernel)) ggL_would_X7_ifMesh
set_option maxRecDepth 20000 in
theorem ggL_would_L_sorts : GoodIn wsL_would wsL_sorts := goodIn_r _ [193, 194, 195, 4, 196, 197, 198, 199, 200, 201, 202, 203, 204, 205] (by decide +kernel) (by decide +kernel)
set_option maxRecDepth 20000 in
theorem gL_would_L_sorts : GoodIn wsL_would (va_wsS RL 75 yL_sorts wsL_sorts) := goodIn_app (goodIn_of _ (by decide +kernel)) ggL_would_L_sorts
set_option maxRecDepth 20000 in
theorem ggL_would_L_at : GoodIn wsL_would wsL_at := goodIn_r _ [199] (by decide +kernel) (by decide +kernel)
set_option maxRecDepth 20000 in
theorem gL_would_L_at : GoodIn wsL_would (va_wsS RL 15 yL_at wsL_at) := goodIn_app (goodIn_of _ (by decide +kernel)) ggL_would_L_at
theorem dL_would_0 : decode cL_would 0 = .ok (.bipush 60, 2) := by decide +kernel
theorem dL_would_2 : decode cL_would 2 = .ok (.newarray .int, 2) := by decide +kernel
theorem dL_would_4 : decode cL_would 4 = .ok (.astore 9, 2) := by decide +kernel
theorem dL_would_6 : decode cL_would 6 = .ok (.bipush 60, 2) := by decide +kernel
theorem dL_would_8 : decode cL_would 8 = .ok (.newarray .int, 2) := by decide +kernel
theorem dL_would_10 : decode cL_would 10 = .ok (.astore 10, 2) := by decide +kernel
theorem dL_would_12 : decode cL_would 12 = .ok (.bipush 20, 2) := by decide +kernel
theorem dL_would_14 : decode cL_would 14 = .ok (.newarray .int, 2) := by decide +kernel
theorem dL_would_16 : decode cL_would 16 = .ok (.astore 11, 2) := by decide +kernel
theorem dL_would_18 : decode cL_would 18 = .ok (.bipush 15, 2) := by decide +kernel
theorem dL_would_20 : decode cL_would 20 = .ok (.newarray .int, 2) := by decide +kernel
theorem dL_would_22 : decode cL_would 22 = .ok (.astore 12, 2) := by decide +kernel
theorem dL_would_24 : decode cL_would 24 = .ok (.aload_n 2, 1) := by decide +kernel
theorem dL_would_25 : decode cL_would 25 = .ok (.aload 9, 2) := by decide +kernel
theorem dL_would_27 : decode cL_would 27 = .ok (.invokestatic 61, 3) := by decide +kernel
theorem dL_would_30 : decode cL_would 30 = .ok (.aload_n 3, 1) := by decide +kernel
theorem dL_would_31 : decode cL_would 31 = .ok (.aload 10, 2) := by decide +kernel
theorem dL_would_33 : decode cL_would 33 = .ok (.invokestatic 61, 3) := by decide +kernel
theorem dL_would_36 : decode cL_would 36 = .ok (.aload 5, 2) := by decide +kernel
theorem dL_would_38 : decode cL_would 38 = .ok (.aload 12, 2) := by decide +kernel
theorem dL_would_40 : decode cL_would 40 = .ok (.invokestatic 61, 3) := by decide +kernel
theorem dL_would_43 : decode cL_would 43 = .ok (.iconst 0, 1) := by decide +kernel
theorem dL_would_44 : decode cL_would 44 = .ok (.istore 13, 2) := by decide +kernel
theorem dL_would_46 : decode cL_would 46 = .ok (.iconst 0, 1) := by decide +kernel
theorem dL_would_47 : decode cL_would 47 = .ok (.istore 14, 2) := by decide +kernel
theorem dL_would_49 : decode cL_would 49 = .ok (.iload 14, 2) := by decide +kernel
theorem dL_would_51 : decode cL_would 51 = .ok (.bipush 12, 2) := by decide +kernel
theorem dL_would_53 : decode cL_would 53 = .ok (.if_icmp .ge 46, 3) := by decide +kernel
theorem dL_would_56 : decode cL_would 56 = .ok (.aload 9, 2) := by decide +kernel
theorem dL_would_58 : decode cL_would 58 = .ok (.aload 10, 2) := by decide +kernel
theorem dL_would_60 : decode cL_would 60 = .ok (.aload 12, 2) := by decide +kernel
theorem dL_would_62 : decode cL_would 62 = .ok (.iload 14, 2) := by decide +kernel
theorem dL_would_64 : decode cL_would 64 = .ok (.iload 8, 2) := by decide +kernel
theorem dL_would_66 : decode cL_would 66 = .ok (.invokestatic 33, 3) := by decide +kernel
theorem dL_would_69 : decode cL_would 69 = .ok (.ifCond .lt 24, 3) := by decide +kernel
theorem dL_would_72 : decode cL_would 72 = .ok (.aload 9, 2) := by decide +kernel
theorem dL_would_74 : decode cL_would 74 = .ok (.aload 10, 2) := by decide +kernel
theorem dL_would_76 : decode cL_would 76 = .ok (.aload 12, 2) := by decide +kernel
theorem dL_would_78 : decode cL_would 78 = .ok (.iload 14, 2) := by decide +kernel
theorem dL_would_80 : decode cL_would 80 = .ok (.iload 8, 2) := by decide +kernel
theorem dL_would_82 : decode cL_would 82 = .ok (.invokestatic 65, 3) := by decide +kernel
theorem dL_would_85 : decode cL_would 85 = .ok (.istore 15, 2) := by decide +kernel
theorem dL_would_87 : decode cL_would 87 = .ok (.iinc 13 1, 3) := by decide +kernel
theorem dL_would_90 : decode cL_would 90 = .ok (.goto (-34), 3) := by decide +kernel
theorem dL_would_93 : decode cL_would 93 = .ok (.iinc 14 1, 3) := by decide +kernel
theorem dL_would_96 : decode cL_would 96 = .ok (.goto (-47), 3) := by decide +kernel
theorem dL_would_99 : decode cL_would 99 = .ok (.aload_n 0, 1) := by decide +kernel
theorem dL_would_100 : decode cL_would 100 = .ok (.iload 8, 2) := by decide +kernel
theorem dL_would_102 : decode cL_would 102 = .ok (.invokevirtual 68, 3) := by decide +kernel
theorem dL_would_105 : decode cL_would 105 = .ok (.iload 13, 2) := by decide +kernel
theorem dL_would_107 : decode cL_would 107 = .ok (.if_icmp .ne 7, 3) := by decide +kernel
theorem dL_would_110 : decode cL_would 110 = .ok (.iconst 1, 1) := by decide +kernel
theorem dL_would_111 : decode cL_would 111 = .ok (.goto 4, 3) := by decide +kernel
theorem dL_would_114 : decode cL_would 114 = .ok (.iconst 0, 1) := by decide +kernel
theorem dL_would_115 : decode cL_would 115 = .ok (.istore 14, 2) := by decide +kernel
theorem dL_would_117 : decode cL_would 117 = .ok (.aload_n 2, 1) := by decide +kernel
theorem dL_would_118 : decode cL_would 118 = .ok (.aload 9, 2) := by decide +kernel
theorem dL_would_120 : decode cL_would 120 = .ok (.invokestatic 61, 3) := by decide +kernel
theorem dL_would_123 : decode cL_would 123 = .ok (.aload_n 3, 1) := by decide +kernel
theorem dL_would_124 : decode cL_would 124 = .ok (.aload 10, 2) := by decide +kernel
theorem dL_would_126 : decode cL_would 126 = .ok (.invokestatic 61, 3) := by decide +kernel
theorem dL_would_129 : decode cL_would 129 = .ok (.aload 4, 2) := by decide +kernel
theorem dL_would_131 : decode cL_would 131 = .ok (.aload 11, 2) := by decide +kernel
theorem dL_would_133 : decode cL_would 133 = .ok (.invokestatic 61, 3) := by decide +kernel
theorem dL_would_136 : decode cL_would 136 = .ok (.aload 5, 2) := by decide +kernel
theorem dL_would_138 : decode cL_would 138 = .ok (.aload 12, 2) := by decide +kernel
theorem dL_would_140 : decode cL_would 140 = .ok (.invokestatic 61, 3) := by decide +kernel
theorem dL_would_143 : decode cL_would 143 = .ok (.aload 12, 2) := by decide +kernel
theorem dL_would_145 : decode cL_would 145 = .ok (.iload 6, 2) := by decide +kernel
theorem dL_would_147 : decode cL_would 147 = .ok (.iload 7, 2) := by decide +kernel
theorem dL_would_149 : decode cL_would 149 = .ok (.iastore, 1) := by decide +kernel
theorem dL_would_150 : decode cL_would 150 = .ok (.aload 12, 2) := by decide +kernel
theorem dL_would_152 : decode cL_would 152 = .ok (.iconst 0, 1) := by decide +kernel
theorem dL_would_153 : decode cL_would 153 = .ok (.iaload, 1) := by decide +kernel
theorem dL_would_154 : decode cL_would 154 = .ok (.aload 12, 2) := by decide +kernel
theorem dL_would_156 : decode cL_would 156 = .ok (.iconst 1, 1) := by decide +kernel
theorem dL_would_157 : decode cL_would 157 = .ok (.iaload, 1) := by decide +kernel
theorem dL_would_158 : decode cL_would 158 = .ok (.if_icmp .gt 14, 3) := by decide +kernel
theorem dL_would_161 : decode cL_would 161 = .ok (.aload 12, 2) := by decide +kernel
theorem dL_would_163 : decode cL_would 163 = .ok (.iconst 1, 1) := by decide +kernel
theorem dL_would_164 : decode cL_would 164 = .ok (.iaload, 1) := by decide +kernel
theorem dL_would_165 : decode cL_would 165 = .ok (.aload 12, 2) := by decide +kernel
theorem dL_would_167 : decode cL_would 167 = .ok (.iconst 2, 1) := by decide +kernel
theorem dL_would_168 : decode cL_would 168 = .ok (.iaload, 1) := by decide +kernel
theorem dL_would_169 : decode cL_would 169 = .ok (.if_icmp .le 28, 3) := by decide +kernel
theorem dL_would_172 : decode cL_would 172 = .ok (.iload 14, 2) := by decide +kernel
theorem dL_would_174 : decode cL_would 174 = .ok (.ifCond .eq 21, 3) := by decide +kernel
theorem dL_would_177 : decode cL_would 177 = .ok (.aload_n 0, 1) := by decide +kernel
theorem dL_would_178 : decode cL_would 178 = .ok (.iload 6, 2) := by decide +kernel
theorem dL_would_180 : decode cL_would 180 = .ok (.iload 7, 2) := by decide +kernel
theorem dL_would_182 : decode cL_would 182 = .ok (.iconst 0, 1) := by decide +kernel
theorem dL_would_183 : decode cL_would 183 = .ok (.invokevirtual 71, 3) := by decide +kernel
theorem dL_would_186 : decode cL_would 186 = .ok (.bipush (-4), 2) := by decide +kernel
theorem dL_would_188 : decode cL_would 188 = .ok (.if_icmp .ne 7, 3) := by decide +kernel
theorem dL_would_191 : decode cL_would 191 = .ok (.iconst 1, 1) := by decide +kernel
theorem dL_would_192 : decode cL_would 192 = .ok (.goto 4, 3) := by decide +kernel
theorem dL_would_195 : decode cL_would 195 = .ok (.iconst 0, 1) := by decide +kernel
theorem dL_would_196 : decode cL_would 196 = .ok (.ireturn, 1) := by decide +kernel
theorem dL_would_197 : decode cL_would 197 = .ok (.iconst 0, 1) := by decide +kernel
theorem dL_would_198 : decode cL_would 198 = .ok (.istore 15, 2) := by decide +kernel
theorem dL_would_200 : decode cL_would 200 = .ok (.iload 15, 2) := by decide +kernel
theorem dL_would_202 : decode cL_would 202 = .ok (.aload 5, 2) := by decide +kernel
theorem dL_would_204 : decode cL_would 204 = .ok (.bipush 14, 2) := by decide +kernel
theorem dL_would_206 : decode cL_would 206 = .ok (.iaload, 1) := by decide +kernel
theorem dL_would_207 : decode cL_would 207 = .ok (.if_icmp .ge 21, 3) := by decide +kernel
theorem dL_would_210 : decode cL_would 210 = .ok (.aload_n 1, 1) := by decide +kernel
theorem dL_would_211 : decode cL_would 211 = .ok (.aload 9, 2) := by decide +kernel
theorem dL_would_213 : decode cL_would 213 = .ok (.aload 10, 2) := by decide +kernel
theorem dL_would_215 : decode cL_would 215 = .ok (.aload 11, 2) := by decide +kernel
theorem dL_would_217 : decode cL_would 217 = .ok (.aload 12, 2) := by decide +kernel
theorem dL_would_219 : decode cL_would 219 = .ok (.invokestatic 75, 3) := by decide +kernel
theorem dL_would_222 : decode cL_would 222 = .ok (.iinc 15 1, 3) := by decide +kernel
theorem dL_would_225 : decode cL_would 225 = .ok (.goto (-25), 3) := by decide +kernel
theorem dL_would_228 : decode cL_would 228 = .ok (.iconst 0, 1) := by decide +kernel
theorem dL_would_229 : decode cL_would 229 = .ok (.istore 15, 2) := by decide +kernel
theorem dL_would_231 : decode cL_would 231 = .ok (.iload 15, 2) := by decide +kernel
theorem dL_would_233 : decode cL_would 233 = .ok (.bipush 7, 2) := by decide +kernel
theorem dL_would_235 : decode cL_would 235 = .ok (.if_icmp .ge 43, 3) := by decide +kernel
theorem dL_would_238 : decode cL_would 238 = .ok (.iload 14, 2) := by decide +kernel
theorem dL_would_240 : decode cL_would 240 = .ok (.ifCond .eq 29, 3) := by decide +kernel
theorem dL_would_243 : decode cL_would 243 = .ok (.aload_n 0, 1) := by decide +kernel
theorem dL_would_244 : decode cL_would 244 = .ok (.iload 6, 2) := by decide +kernel
theorem dL_would_246 : decode cL_would 246 = .ok (.iload 7, 2) := by decide +kernel
theorem dL_would_248 : decode cL_would 248 = .ok (.iload 15, 2) := by decide +kernel
theorem dL_would_250 : decode cL_would 250 = .ok (.invokevirtual 71, 3) := by decide +kernel
theorem dL_would_253 : decode cL_would 253 = .ok (.aload 10, 2) := by decide +kernel
theorem dL_would_255 : decode cL_would 255 = .ok (.aload 12, 2) := by decide +kernel
theorem dL_would_257 : decode cL_would 257 = .ok (.iload 15, 2) := by decide +kernel
theorem dL_would_259 : decode cL_would 259 = .ok (.invokestatic 15, 3) := by decide +kernel
theorem dL_would_262 : decode cL_would 262 = .ok (.if_icmp .ne 7, 3) := by decide +kernel
theorem dL_would_265 : decode cL_would 265 = .ok (.iconst 1, 1) := by decide +kernel
theorem dL_would_266 : decode cL_would 266 = .ok (.goto 4, 3) := by decide +kernel
theorem dL_would_269 : decode cL_would 269 = .ok (.iconst 0, 1) := by decide +kernel
theorem dL_would_270 : decode cL_would 270 = .ok (.istore 14, 2) := by decide +kernel
theorem dL_would_272 : decode cL_would 272 = .ok (.iinc 15 1, 3) := by decide +kernel
theorem dL_would_275 : decode cL_would 275 = .ok (.goto (-44), 3) := by decide +kernel
theorem dL_would_278 : decode cL_would 278 = .ok (.iload 14, 2) := by decide +kernel
theorem dL_would_280 : decode cL_would 280 = .ok (.ireturn, 1) := by decide +kernel
set_option maxRecDepth 20000 in
theorem ggL_typesDigit_X7_type : GoodIn wsL_typesDigit wsX7_type := goodIn_r _ [5, 6, 7, 8, 9, 10, 11, 12, 13, 14, 15, 16, 17, 18, 19, 20, 21, 22, 23, 24] (by decide +kernel) (by decide +kernel)
set_option maxRecDepth 20000 in
theorem gL_typesDigit_X7_type : GoodIn wsL_typesDigit (wsV RL 79 RX7 yX7_type wsX7_type) := goodIn_app (goodIn_of _ (by decide +kernel)) ggL_typesDigit_X7_type
theorem dL_typesDigit_0 : decode cL_typesDigit 0 = .ok (.iload_n 2, 1) := by decide +kernel
theorem dL_typesDigit_1 : decode cL_typesDigit 1 = .ok (.ifCond .gt 7, 3) := by decide +kernel
theorem dL_typesDigit_4 : decode cL_typesDigit 4 = .ok (.iload_n 3, 1) := by decide +kernel
theorem dL_typesDigit_5 : decode cL_typesDigit 5 = .ok (.ifCond .eq 11, 3) := by decide +kernel
theorem dL_typesDigit_8 : decode cL_typesDigit 8 = .ok (.aload_n 0, 1) := by decide +kernel
theorem dL_typesDigit_9 : decode cL_typesDigit 9 = .ok (.iload_n 1, 1) := by decide +kernel
theorem dL_typesDigit_10 : decode cL_typesDigit 10 = .ok (.invokevirtual 79, 3) := by decide +kernel
theorem dL_typesDigit_13 : decode cL_typesDigit 13 = .ok (.goto 4, 3) := by decide +kernel
theorem dL_typesDigit_16 : decode cL_typesDigit 16 = .ok (.iconst 0, 1) := by decide +kernel
theorem dL_typesDigit_17 : decode cL_typesDigit 17 = .ok (.istore 4, 2) := by decide +kernel
theorem dL_typesDigit_19 : decode cL_typesDigit 19 = .ok (.iload_n 2, 1) := by decide +kernel
theorem dL_typesDigit_20 : decode cL_typesDigit 20 = .ok (.ifCond .gt 7, 3) := by decide +kernel
theorem dL_typesDigit_23 : decode cL_typesDigit 23 = .ok (.iload_n 3, 1) := by decide +kernel
theorem dL_typesDigit_24 : decode cL_typesDigit 24 = .ok (.ifCond .eq 15, 3) := by decide +kernel
theorem dL_typesDigit_27 : decode cL_typesDigit 27 = .ok (.aload_n 0, 1) := by decide +kernel
theorem dL_typesDigit_28 : decode cL_typesDigit 28 = .ok (.bipush 48, 2) := by decide +kernel
theorem dL_typesDigit_30 : decode cL_typesDigit 30 = .ok (.iload_n 2, 1) := by decide +kernel
theorem dL_typesDigit_31 : decode cL_typesDigit 31 = .ok (.iadd, 1) := by decide +kernel
theorem dL_typesDigit_32 : decode cL_typesDigit 32 = .ok (.i2c, 1) := by decide +kernel
theorem dL_typesDigit_33 : decode cL_typesDigit 33 = .ok (.invokevirtual 79, 3) := by decide +kernel
theorem dL_typesDigit_36 : decode cL_typesDigit 36 = .ok (.goto 5, 3) := by decide +kernel
theorem dL_typesDigit_39 : decode cL_typesDigit 39 = .ok (.iload 4, 2) := by decide +kernel
theorem dL_typesDigit_41 : decode cL_typesDigit 41 = .ok (.ireturn, 1) := by decide +kernel
set_option maxRecDepth 20000 in
theorem ggL_comes_X7_clearText : GoodIn wsL_comes wsX7_clearText := goodIn_r _ [5, 6, 7, 160, 161, 162, 163, 164, 165, 166, 167, 168, 169] (by decide +kernel) (by decide +kernel)
set_option maxRecDepth 20000 in
theorem gL_comes_X7_clearText : GoodIn wsL_comes (wsV RL 83 RX7 yX7_clearText wsX7_clearText) := goodIn_app (goodIn_of _ (by decide +kernel)) ggL_comes_X7_clearText
set_option maxRecDepth 20000 in
theorem ggL_comes_X7_read : GoodIn wsL_comes wsX7_read := goodIn_r _ [11, 12, 13, 14, 15, 16, 17, 18, 19, 20, 21, 22, 23, 24, 25, 26, 27, 28, 29, 30, 31, 32, 33, 34, 35, 36, 37, 38, 39, 40, 41, 42, 43, 44, 45, 46, 47, 48, 49, 50, 51, 52, 53, 54, 55, 56, 57, 58, 59, 60, 61, 62, 63, 64, 65, 66, 67, 68, 69, 70, 71, 72, 73, 74, 75, 76, 77, 78, 79, 80, 81, 82, 83, 84, 85, 86, 87, 88, 89, 90, 91, 92, 93, 94, 95, 96, 97, 98, 99, 100, 101, 102, 103, 104, 105, 106, 107, 108, 109, 110, 111, 112, 113, 114, 115, 116, 117, 118, 119, 120, 121, 122, 123, 124, 125, 126, 127, 128, 129, 130, 131, 132, 133, 134, 135, 136, 137, 4, 138, 139, 140, 160, 161, 162, 163, 164, 165, 166, 167, 170, 171, 172, 173, 174, 175, 176, 177, 178, 179, 180, 181, 182, 183, 184, 185, 186, 187, 188, 189, 190, 191, 192, 168, 169, 193, 194, 195, 196, 197, 198, 199, 200] (by decide +kernel) (by decide +kernel)
set_option maxRecDepth 20000 in
theorem gL_comes_X7_read : GoodIn wsL_comes (wsV RL 87 RX7 yX7_read wsX7_read) := goodIn_app (goodIn_of _ (by decide +kernel)) ggL_comes_X7_read
set_option maxRecDepth 20000 in
theorem ggL_comes_L_low : GoodIn wsL_comes wsL_low := goodIn_r _ [144, 145] (by decide +kernel) (by decide +kernel)
set_option maxRecDepth 20000 in
theorem gL_comes_L_low : GoodIn wsL_comes (va_wsS RL 90 yL_low wsL_low) := goodIn_app (goodIn_of _ (by decide +kernel)) ggL_comes_L_low
set_option maxRecDepth 20000 in
theorem ggL_comes_X7_type : GoodIn wsL_comes wsX7_type := goodIn_r _ [149, 6, 7, 150, 151, 152, 153, 154, 155, 156, 160, 161, 162, 163, 164, 165, 166, 167, 168, 169] (by decide +kernel) (by decide +kernel)
set_option maxRecDepth 20000 in
theorem gL_comes_X7_type : GoodIn wsL_comes (wsV RL 79 RX7 yX7_type wsX7_type) := goodIn_app (goodIn_of _ (by decide +kernel)) ggL_comes_X7_type
set_option maxRecDepth 20000 in
theorem ggL_comes_L_typesDigit : GoodIn wsL_comes wsL_typesDigit := goodIn_r _ [159, 146, 147, 148, 4, 149, 6, 7, 150, 151, 152, 153, 154, 155, 156, 160, 161, 162, 163, 164, 165, 166, 167, 168, 169] (by decide +kernel) (by decide +kernel)
set_option maxRecDepth 20000 in
theorem gL_comes_L_typesDigit : GoodIn wsL_comes (va_wsS RL 93 yL_typesDigit wsL_typesDigit) := goodIn_app (goodIn_of _ (by decide +kernel)) ggL_comes_L_typesDigit
theorem dL_comes_0 : decode cL_comes 0 = .ok (.aload_n 0, 1) := by decide +kernel
theorem dL_comes_1 : decode cL_comes 1 = .ok (.invokevirtual 83, 3) := by decide +kernel
theorem dL_comes_4 : decode cL_comes 4 = .ok (.istore 8, 2) := by decide +kernel
theorem dL_comes_6 : decode cL_comes 6 = .ok (.aload 5, 2) := by decide +kernel
theorem dL_comes_8 : decode cL_comes 8 = .ok (.bipush 13, 2) := by decide +kernel
theorem dL_comes_10 : decode cL_comes 10 = .ok (.iaload, 1) := by decide +kernel
theorem dL_comes_11 : decode cL_comes 11 = .ok (.iload 7, 2) := by decide +kernel
theorem dL_comes_13 : decode cL_comes 13 = .ok (.iadd, 1) := by decide +kernel
theorem dL_comes_14 : decode cL_comes 14 = .ok (.bipush 20, 2) := by decide +kernel
theorem dL_comes_16 : decode cL_comes 16 = .ok (.if_icmp .le 18, 3) := by decide +kernel
theorem dL_comes_19 : decode cL_comes 19 = .ok (.aload_n 0, 1) := by decide +kernel
theorem dL_comes_20 : decode cL_comes 20 = .ok (.invokevirtual 87, 3) := by decide +kernel
theorem dL_comes_23 : decode cL_comes 23 = .ok (.bipush (-100), 2) := by decide +kernel
theorem dL_comes_25 : decode cL_comes 25 = .ok (.if_icmp .ne 7, 3) := by decide +kernel
theorem dL_comes_28 : decode cL_comes 28 = .ok (.iconst 1, 1) := by decide +kernel
theorem dL_comes_29 : decode cL_comes 29 = .ok (.goto 4, 3) := by decide +kernel
theorem dL_comes_32 : decode cL_comes 32 = .ok (.iconst 0, 1) := by decide +kernel
theorem dL_comes_33 : decode cL_comes 33 = .ok (.ireturn, 1) := by decide +kernel
theorem dL_comes_34 : decode cL_comes 34 = .ok (.iconst 0, 1) := by decide +kernel
theorem dL_comes_35 : decode cL_comes 35 = .ok (.istore 9, 2) := by decide +kernel
theorem dL_comes_37 : decode cL_comes 37 = .ok (.iload 9, 2) := by decide +kernel
theorem dL_comes_39 : decode cL_comes 39 = .ok (.iload 7, 2) := by decide +kernel
theorem dL_comes_41 : decode cL_comes 41 = .ok (.if_icmp .ge 421, 3) := by decide +kernel
theorem dL_comes_44 : decode cL_comes 44 = .ok (.aload 5, 2) := by decide +kernel
theorem dL_comes_46 : decode cL_comes 46 = .ok (.bipush 13, 2) := by decide +kernel
theorem dL_comes_48 : decode cL_comes 48 = .ok (.iaload, 1) := by decide +kernel
theorem dL_comes_49 : decode cL_comes 49 = .ok (.istore 10, 2) := by decide +kernel
theorem dL_comes_51 : decode cL_comes 51 = .ok (.iload 6, 2) := by decide +kernel
theorem dL_comes_53 : decode cL_comes 53 = .ok (.iconst 3, 1) := by decide +kernel
theorem dL_comes_54 : decode cL_comes 54 = .ok (.iload 9, 2) := by decide +kernel
theorem dL_comes_56 : decode cL_comes 56 = .ok (.imul, 1) := by decide +kernel
theorem dL_comes_57 : decode cL_comes 57 = .ok (.ishr, 1) := by decide +kernel
theorem dL_comes_58 : decode cL_comes 58 = .ok (.istore 11, 2) := by decide +kernel
theorem dL_comes_60 : decode cL_comes 60 = .ok (.aload_n 1, 1) := by decide +kernel
theorem dL_comes_61 : decode cL_comes 61 = .ok (.iconst 3, 1) := by decide +kernel
theorem dL_comes_62 : decode cL_comes 62 = .ok (.iload 10, 2) := by decide +kernel
theorem dL_comes_64 : decode cL_comes 64 = .ok (.imul, 1) := by decide +kernel
theorem dL_comes_65 : decode cL_comes 65 = .ok (.iconst 1, 1) := by decide +kernel
theorem dL_comes_66 : decode cL_comes 66 = .ok (.iload 11, 2) := by decide +kernel
theorem dL_comes_68 : decode cL_comes 68 = .ok (.iconst 4, 1) := by decide +kernel
theorem dL_comes_69 : decode cL_comes 69 = .ok (.invokestatic 90, 3) := by decide +kernel
theorem dL_comes_72 : decode cL_comes 72 = .ok (.iconst 2, 1) := by decide +kernel
theorem dL_comes_73 : decode cL_comes 73 = .ok (.idiv, 1) := by decide +kernel
theorem dL_comes_74 : decode cL_comes 74 = .ok (.iadd, 1) := by decide +kernel
theorem dL_comes_75 : decode cL_comes 75 = .ok (.iastore, 1) := by decide +kernel
theorem dL_comes_76 : decode cL_comes 76 = .ok (.aload_n 1, 1) := by decide +kernel
theorem dL_comes_77 : decode cL_comes 77 = .ok (.iconst 3, 1) := by decide +kernel
theorem dL_comes_78 : decode cL_comes 78 = .ok (.iload 10, 2) := by decide +kernel
theorem dL_comes_80 : decode cL_comes 80 = .ok (.imul, 1) := by decide +kernel
theorem dL_comes_81 : decode cL_comes 81 = .ok (.iconst 1, 1) := by decide +kernel
theorem dL_comes_82 : decode cL_comes 82 = .ok (.iadd, 1) := by decide +kernel
theorem dL_comes_83 : decode cL_comes 83 = .ok (.iconst 1, 1) := by decide +kernel
theorem dL_comes_84 : decode cL_comes 84 = .ok (.iload 11, 2) := by decide +kernel
theorem dL_comes_86 : decode cL_comes 86 = .ok (.iconst 2, 1) := by decide +kernel
theorem dL_comes_87 : decode cL_comes 87 = .ok (.ishr, 1) := by decide +kernel
theorem dL_comes_88 : decode cL_comes 88 = .ok (.iload 11, 2) := by decide +kernel
theorem dL_comes_90 : decode cL_comes 90 = .ok (.bipush 9, 2) := by decide +kernel
theorem dL_comes_92 : decode cL_comes 92 = .ok (.ishr, 1) := by decide +kernel
theorem dL_comes_93 : decode cL_comes 93 = .ok (.iconst 2, 1) := by decide +kernel
theorem dL_comes_94 : decode cL_comes 94 = .ok (.invokestatic 90, 3) := by decide +kernel
theorem dL_comes_97 : decode cL_comes 97 = .ok (.ifCond .ne 8, 3) := by decide +kernel
theorem dL_comes_100 : decode cL_comes 100 = .ok (.bipush 30, 2) := by decide +kernel
theorem dL_comes_102 : decode cL_comes 102 = .ok (.goto 5, 3) := by decide +kernel
theorem dL_comes_105 : decode cL_comes 105 = .ok (.bipush 16, 2) := by decide +kernel
theorem dL_comes_107 : decode cL_comes 107 = .ok (.invokestatic 90, 3) := by decide +kernel
theorem dL_comes_110 : decode cL_comes 110 = .ok (.iadd, 1) := by decide +kernel
theorem dL_comes_111 : decode cL_comes 111 = .ok (.iastore, 1) := by decide +kernel
theorem dL_comes_112 : decode cL_comes 112 = .ok (.aload_n 1, 1) := by decide +kernel
theorem dL_comes_113 : decode cL_comes 113 = .ok (.iconst 3, 1) := by decide +kernel
theorem dL_comes_114 : decode cL_comes 114 = .ok (.iload 10, 2) := by decide +kernel
theorem dL_comes_116 : decode cL_comes 116 = .ok (.imul, 1) := by decide +kernel
theorem dL_comes_117 : decode cL_comes 117 = .ok (.iconst 2, 1) := by decide +kernel
theorem dL_comes_118 : decode cL_comes 118 = .ok (.iadd, 1) := by decide +kernel
theorem dL_comes_119 : decode cL_comes 119 = .ok (.iload 11, 2) := by decide +kernel
theorem dL_comes_121 : decode cL_comes 121 = .ok (.iconst 4, 1) := by decide +kernel
theorem dL_comes_122 : decode cL_comes 122 = .ok (.ishr, 1) := by decide +kernel
theorem dL_comes_123 : decode cL_comes 123 = .ok (.iconst 3, 1) := by decide +kernel
theorem dL_comes_124 : decode cL_comes 124 = .ok (.invokestatic 90, 3) := by decide +kernel
theorem dL_comes_127 : decode cL_comes 127 = .ok (.ifCond .ne 16, 3) := by decide +kernel
theorem dL_comes_130 : decode cL_comes 130 = .ok (.iload 11, 2) := by decide +kernel
theorem dL_comes_132 : decode cL_comes 132 = .ok (.bipush 6, 2) := by decide +kernel
theorem dL_comes_134 : decode cL_comes 134 = .ok (.ishr, 1) := by decide +kernel
theorem dL_comes_135 : decode cL_comes 135 = .ok (.bipush 10, 2) := by decide +kernel
theorem dL_comes_137 : decode cL_comes 137 = .ok (.invokestatic 90, 3) := by decide +kernel
theorem dL_comes_140 : decode cL_comes 140 = .ok (.goto 4, 3) := by decide +kernel
theorem dL_comes_143 : decode cL_comes 143 = .ok (.iconst 0, 1) := by decide +kernel
theorem dL_comes_144 : decode cL_comes 144 = .ok (.iastore, 1) := by decide +kernel
theorem dL_comes_145 : decode cL_comes 145 = .ok (.aload_n 2, 1) := by decide +kernel
theorem dL_comes_146 : decode cL_comes 146 = .ok (.iconst 3, 1) := by decide +kernel
theorem dL_comes_147 : decode cL_comes 147 = .ok (.iload 10, 2) := by decide +kernel
theorem dL_comes_149 : decode cL_comes 149 = .ok (.imul, 1) := by decide +kernel
theorem dL_comes_150 : decode cL_comes 150 = .ok (.iload 11, 2) := by decide +kernel
theorem dL_comes_152 : decode cL_comes 152 = .ok (.iconst 5, 1) := by decide +kernel
theorem dL_comes_153 : decode cL_comes 153 = .ok (.ishr, 1) := by decide +kernel
theorem dL_comes_154 : decode cL_comes 154 = .ok (.iconst 4, 1) := by decide +kernel
theorem dL_comes_155 : decode cL_comes 155 = .ok (.invokestatic 90, 3) := by decide +kernel
theorem dL_comes_158 : decode cL_comes 158 = .ok (.ifCond .ne 16, 3) := by decide +kernel
theorem dL_comes_161 : decode cL_comes 161 = .ok (.iload 11, 2) := by decide +kernel
theorem dL_comes_163 : decode cL_comes 163 = .ok (.bipush 7, 2) := by decide +kernel
theorem dL_comes_165 : decode cL_comes 165 = .ok (.ishr, 1) := by decide +kernel
theorem dL_comes_166 : decode cL_comes 166 = .ok (.bipush 10, 2) := by decide +kernel
theorem dL_comes_168 : decode cL_comes 168 = .ok (.invokestatic 90, 3) := by decide +kernel
theorem dL_comes_171 : decode cL_comes 171 = .ok (.goto 12, 3) := by decide +kernel
theorem dL_comes_174 : decode cL_comes 174 = .ok (.iload 11, 2) := by decide +kernel
theorem dL_comes_176 : decode cL_comes 176 = .ok (.bipush 7, 2) := by decide +kernel
theorem dL_comes_178 : decode cL_comes 178 = .ok (.ishr, 1) := by decide +kernel
theorem dL_comes_179 : decode cL_comes 179 = .ok (.iconst 3, 1) := by decide +kernel
theorem dL_comes_180 : decode cL_comes 180 = .ok (.invokestatic 90, 3) := by decide +kernel
theorem dL_comes_183 : decode cL_comes 183 = .ok (.iastore, 1) := by decide +kernel
theorem dL_comes_184 : decode cL_comes 184 = .ok (.aload_n 2, 1) := by decide +kernel
theorem dL_comes_185 : decode cL_comes 185 = .ok (.iconst 3, 1) := by decide +kernel
theorem dL_comes_186 : decode cL_comes 186 = .ok (.iload 10, 2) := by decide +kernel
theorem dL_comes_188 : decode cL_comes 188 = .ok (.imul, 1) := by decide +kernel
theorem dL_comes_189 : decode cL_comes 189 = .ok (.iconst 1, 1) := by decide +kernel
theorem dL_comes_190 : decode cL_comes 190 = .ok (.iadd, 1) := by decide +kernel
theorem dL_comes_191 : decode cL_comes 191 = .ok (.iload 11, 2) := by decide +kernel
theorem dL_comes_193 : decode cL_comes 193 = .ok (.bipush 8, 2) := by decide +kernel
theorem dL_comes_195 : decode cL_comes 195 = .ok (.ishr, 1) := by decide +kernel
theorem dL_comes_196 : decode cL_comes 196 = .ok (.bipush 10, 2) := by decide +kernel
theorem dL_comes_198 : decode cL_comes 198 = .ok (.invokestatic 90, 3) := by decide +kernel
theorem dL_comes_201 : decode cL_comes 201 = .ok (.iastore, 1) := by decide +kernel
theorem dL_comes_202 : decode cL_comes 202 = .ok (.aload_n 2, 1) := by decide +kernel
theorem dL_comes_203 : decode cL_comes 203 = .ok (.iconst 3, 1) := by decide +kernel
theorem dL_comes_204 : decode cL_comes 204 = .ok (.iload 10, 2) := by decide +kernel
theorem dL_comes_206 : decode cL_comes 206 = .ok (.imul, 1) := by decide +kernel
theorem dL_comes_207 : decode cL_comes 207 = .ok (.iconst 2, 1) := by decide +kernel
theorem dL_comes_208 : decode cL_comes 208 = .ok (.iadd, 1) := by decide +kernel
theorem dL_comes_209 : decode cL_comes 209 = .ok (.iconst 0, 1) := by decide +kernel
theorem dL_comes_210 : decode cL_comes 210 = .ok (.iastore, 1) := by decide +kernel
theorem dL_comes_211 : decode cL_comes 211 = .ok (.aload_n 3, 1) := by decide +kernel
theorem dL_comes_212 : decode cL_comes 212 = .ok (.iconst 3, 1) := by decide +kernel
theorem dL_comes_213 : decode cL_comes 213 = .ok (.iload 10, 2) := by decide +kernel
theorem dL_comes_215 : decode cL_comes 215 = .ok (.imul, 1) := by decide +kernel
theorem dL_comes_216 : decode cL_comes 216 = .ok (.iconst 0, 1) := by decide +kernel
theorem dL_comes_217 : decode cL_comes 217 = .ok (.iastore, 1) := by decide +kernel
theorem dL_comes_218 : decode cL_comes 218 = .ok (.aload_n 3, 1) := by decide +kernel
theorem dL_comes_219 : decode cL_comes 219 = .ok (.iconst 3, 1) := by decide +kernel
theorem dL_comes_220 : decode cL_comes 220 = .ok (.iload 10, 2) := by decide +kernel
theorem dL_comes_222 : decode cL_comes 222 = .ok (.imul, 1) := by decide +kernel
theorem dL_comes_223 : decode cL_comes 223 = .ok (.iconst 1, 1) := by decide +kernel
theorem dL_comes_224 : decode cL_comes 224 = .ok (.iadd, 1) := by decide +kernel
theorem dL_comes_225 : decode cL_comes 225 = .ok (.bipush (-5), 2) := by decide +kernel
theorem dL_comes_227 : decode cL_comes 227 = .ok (.iastore, 1) := by decide +kernel
theorem dL_comes_228 : decode cL_comes 228 = .ok (.aload_n 3, 1) := by decide +kernel
theorem dL_comes_229 : decode cL_comes 229 = .ok (.iconst 3, 1) := by decide +kernel
theorem dL_comes_230 : decode cL_comes 230 = .ok (.iload 10, 2) := by decide +kernel
theorem dL_comes_232 : decode cL_comes 232 = .ok (.imul, 1) := by decide +kernel
theorem dL_comes_233 : decode cL_comes 233 = .ok (.iconst 2, 1) := by decide +kernel
theorem dL_comes_234 : decode cL_comes 234 = .ok (.iadd, 1) := by decide +kernel
theorem dL_comes_235 : decode cL_comes 235 = .ok (.bipush (-5), 2) := by decide +kernel
theorem dL_comes_237 : decode cL_comes 237 = .ok (.iastore, 1) := by decide +kernel
theorem dL_comes_238 : decode cL_comes 238 = .ok (.aload 4, 2) := by decide +kernel
theorem dL_comes_240 : decode cL_comes 240 = .ok (.aload 5, 2) := by decide +kernel
theorem dL_comes_242 : decode cL_comes 242 = .ok (.bipush 14, 2) := by decide +kernel
theorem dL_comes_244 : decode cL_comes 244 = .ok (.iaload, 1) := by decide +kernel
theorem dL_comes_245 : decode cL_comes 245 = .ok (.iload 10, 2) := by decide +kernel
theorem dL_comes_247 : decode cL_comes 247 = .ok (.iastore, 1) := by decide +kernel
theorem dL_comes_248 : decode cL_comes 248 = .ok (.aload 5, 2) := by decide +kernel
theorem dL_comes_250 : decode cL_comes 250 = .ok (.bipush 13, 2) := by decide +kernel
theorem dL_comes_252 : decode cL_comes 252 = .ok (.dup2, 1) := by decide +kernel
theorem dL_comes_253 : decode cL_comes 253 = .ok (.iaload, 1) := by decide +kernel
theorem dL_comes_254 : decode cL_comes 254 = .ok (.iconst 1, 1) := by decide +kernel
theorem dL_comes_255 : decode cL_comes 255 = .ok (.iadd, 1) := by decide +kernel
theorem dL_comes_256 : decode cL_comes 256 = .ok (.iastore, 1) := by decide +kernel
theorem dL_comes_257 : decode cL_comes 257 = .ok (.aload 5, 2) := by decide +kernel
theorem dL_comes_259 : decode cL_comes 259 = .ok (.bipush 14, 2) := by decide +kernel
theorem dL_comes_261 : decode cL_comes 261 = .ok (.dup2, 1) := by decide +kernel
theorem dL_comes_262 : decode cL_comes 262 = .ok (.iaload, 1) := by decide +kernel
theorem dL_comes_263 : decode cL_comes 263 = .ok (.iconst 1, 1) := by decide +kernel
theorem dL_comes_264 : decode cL_comes 264 = .ok (.iadd, 1) := by decide +kernel
theorem dL_comes_265 : decode cL_comes 265 = .ok (.iastore, 1) := by decide +kernel
theorem dL_comes_266 : decode cL_comes 266 = .ok (.iload 9, 2) := by decide +kernel
theorem dL_comes_268 : decode cL_comes 268 = .ok (.ifCond .le 12, 3) := by decide +kernel
theorem dL_comes_271 : decode cL_comes 271 = .ok (.aload_n 0, 1) := by decide +kernel
theorem dL_comes_272 : decode cL_comes 272 = .ok (.bipush 44, 2) := by decide +kernel
theorem dL_comes_274 : decode cL_comes 274 = .ok (.invokevirtual 79, 3) := by decide +kernel
theorem dL_comes_277 : decode cL_comes 277 = .ok (.goto 5, 3) := by decide +kernel
theorem dL_comes_280 : decode cL_comes 280 = .ok (.iload 8, 2) := by decide +kernel
theorem dL_comes_282 : decode cL_comes 282 = .ok (.istore 8, 2) := by decide +kernel
theorem dL_comes_284 : decode cL_comes 284 = .ok (.aload_n 0, 1) := by decide +kernel
theorem dL_comes_285 : decode cL_comes 285 = .ok (.bipush 48, 2) := by decide +kernel
theorem dL_comes_287 : decode cL_comes 287 = .ok (.aload_n 1, 1) := by decide +kernel
theorem dL_comes_288 : decode cL_comes 288 = .ok (.iconst 3, 1) := by decide +kernel
theorem dL_comes_289 : decode cL_comes 289 = .ok (.iload 10, 2) := by decide +kernel
theorem dL_comes_291 : decode cL_comes 291 = .ok (.imul, 1) := by decide +kernel
theorem dL_comes_292 : decode cL_comes 292 = .ok (.iaload, 1) := by decide +kernel
theorem dL_comes_293 : decode cL_comes 293 = .ok (.iadd, 1) := by decide +kernel
theorem dL_comes_294 : decode cL_comes 294 = .ok (.i2c, 1) := by decide +kernel
theorem dL_comes_295 : decode cL_comes 295 = .ok (.invokevirtual 79, 3) := by decide +kernel
theorem dL_comes_298 : decode cL_comes 298 = .ok (.istore 8, 2) := by decide +kernel
theorem dL_comes_300 : decode cL_comes 300 = .ok (.aload_n 0, 1) := by decide +kernel
theorem dL_comes_301 : decode cL_comes 301 = .ok (.bipush 104, 2) := by decide +kernel
theorem dL_comes_303 : decode cL_comes 303 = .ok (.invokevirtual 79, 3) := by decide +kernel
theorem dL_comes_306 : decode cL_comes 306 = .ok (.istore 8, 2) := by decide +kernel
theorem dL_comes_308 : decode cL_comes 308 = .ok (.aload_n 1, 1) := by decide +kernel
theorem dL_comes_309 : decode cL_comes 309 = .ok (.iconst 3, 1) := by decide +kernel
theorem dL_comes_310 : decode cL_comes 310 = .ok (.iload 10, 2) := by decide +kernel
theorem dL_comes_312 : decode cL_comes 312 = .ok (.imul, 1) := by decide +kernel
theorem dL_comes_313 : decode cL_comes 313 = .ok (.iconst 1, 1) := by decide +kernel
theorem dL_comes_314 : decode cL_comes 314 = .ok (.iadd, 1) := by decide +kernel
theorem dL_comes_315 : decode cL_comes 315 = .ok (.iaload, 1) := by decide +kernel
theorem dL_comes_316 : decode cL_comes 316 = .ok (.bipush 9, 2) := by decide +kernel
theorem dL_comes_318 : decode cL_comes 318 = .ok (.if_icmp .le 25, 3) := by decide +kernel
theorem dL_comes_321 : decode cL_comes 321 = .ok (.aload_n 0, 1) := by decide +kernel
theorem dL_comes_322 : decode cL_comes 322 = .ok (.bipush 48, 2) := by decide +kernel
theorem dL_comes_324 : decode cL_comes 324 = .ok (.aload_n 1, 1) := by decide +kernel
theorem dL_comes_325 : decode cL_comes 325 = .ok (.iconst 3, 1) := by decide +kernel
theorem dL_comes_326 : decode cL_comes 326 = .ok (.iload 10, 2) := by decide +kernel
theorem dL_comes_328 : decode cL_comes 328 = .ok (.imul, 1) := by decide +kernel
theorem dL_comes_329 : decode cL_comes 329 = .ok (.iconst 1, 1) := by decide +kernel
theorem dL_comes_330 : decode cL_comes 330 = .ok (.iadd, 1) := by decide +kernel
theorem dL_comes_331 : decode cL_comes 331 = .ok (.iaload, 1) := by decide +kernel
theorem dL_comes_332 : decode cL_comes 332 = .ok (.bipush 10, 2) := by decide +kernel
theorem dL_comes_334 : decode cL_comes 334 = .ok (.idiv, 1) := by decide +kernel
theorem dL_comes_335 : decode cL_comes 335 = .ok (.iadd, 1) := by decide +kernel
theorem dL_comes_336 : decode cL_comes 336 = .ok (.i2c, 1) := by decide +kernel
theorem dL_comes_337 : decode cL_comes 337 = .ok (.invokevirtual 79, 3) := by decide +kernel
theorem dL_comes_340 : decode cL_comes 340 = .ok (.goto 5, 3) := by decide +kernel
theorem dL_comes_343 : decode cL_comes 343 = .ok (.iload 8, 2) := by decide +kernel
theorem dL_comes_345 : decode cL_comes 345 = .ok (.istore 8, 2) := by decide +kernel
theorem dL_comes_347 : decode cL_comes 347 = .ok (.aload_n 0, 1) := by decide +kernel
theorem dL_comes_348 : decode cL_comes 348 = .ok (.bipush 48, 2) := by decide +kernel
theorem dL_comes_350 : decode cL_comes 350 = .ok (.aload_n 1, 1) := by decide +kernel
theorem dL_comes_351 : decode cL_comes 351 = .ok (.iconst 3, 1) := by decide +kernel
theorem dL_comes_352 : decode cL_comes 352 = .ok (.iload 10, 2) := by decide +kernel
theorem dL_comes_354 : decode cL_comes 354 = .ok (.imul, 1) := by decide +kernel
theorem dL_comes_355 : decode cL_comes 355 = .ok (.iconst 1, 1) := by decide +kernel
theorem dL_comes_356 : decode cL_comes 356 = .ok (.iadd, 1) := by decide +kernel
theorem dL_comes_357 : decode cL_comes 357 = .ok (.iaload, 1) := by decide +kernel
theorem dL_comes_358 : decode cL_comes 358 = .ok (.bipush 10, 2) := by decide +kernel
theorem dL_comes_360 : decode cL_comes 360 = .ok (.irem, 1) := by decide +kernel
theorem dL_comes_361 : decode cL_comes 361 = .ok (.iadd, 1) := by decide +kernel
theorem dL_comes_362 : decode cL_comes 362 = .ok (.i2c, 1) := by decide +kernel
theorem dL_comes_363 : decode cL_comes 363 = .ok (.invokevirtual 79, 3) := by decide +kernel
theorem dL_comes_366 : decode cL_comes 366 = .ok (.istore 8, 2) := by decide +kernel
theorem dL_comes_368 : decode cL_comes 368 = .ok (.aload_n 0, 1) := by decide +kernel
theorem dL_comes_369 : decode cL_comes 369 = .ok (.bipush 105, 2) := by decide +kernel
theorem dL_comes_371 : decode cL_comes 371 = .ok (.aload_n 1, 1) := by decide +kernel
theorem dL_comes_372 : decode cL_comes 372 = .ok (.iconst 3, 1) := by decide +kernel
theorem dL_comes_373 : decode cL_comes 373 = .ok (.iload 10, 2) := by decide +kernel
theorem dL_comes_375 : decode cL_comes 375 = .ok (.imul, 1) := by decide +kernel
theorem dL_comes_376 : decode cL_comes 376 = .ok (.iconst 2, 1) := by decide +kernel
theorem dL_comes_377 : decode cL_comes 377 = .ok (.iadd, 1) := by decide +kernel
theorem dL_comes_378 : decode cL_comes 378 = .ok (.iaload, 1) := by decide +kernel
theorem dL_comes_379 : decode cL_comes 379 = .ok (.iload 11, 2) := by decide +kernel
theorem dL_comes_381 : decode cL_comes 381 = .ok (.iconst 2, 1) := by decide +kernel
theorem dL_comes_382 : decode cL_comes 382 = .ok (.invokestatic 90, 3) := by decide +kernel
theorem dL_comes_385 : decode cL_comes 385 = .ok (.ifCond .ne 7, 3) := by decide +kernel
theorem dL_comes_388 : decode cL_comes 388 = .ok (.iconst 1, 1) := by decide +kernel
theorem dL_comes_389 : decode cL_comes 389 = .ok (.goto 4, 3) := by decide +kernel
theorem dL_comes_392 : decode cL_comes 392 = .ok (.iconst 0, 1) := by decide +kernel
theorem dL_comes_393 : decode cL_comes 393 = .ok (.invokestatic 93, 3) := by decide +kernel
theorem dL_comes_396 : decode cL_comes 396 = .ok (.istore 8, 2) := by decide +kernel
theorem dL_comes_398 : decode cL_comes 398 = .ok (.aload_n 0, 1) := by decide +kernel
theorem dL_comes_399 : decode cL_comes 399 = .ok (.bipush 99, 2) := by decide +kernel
theorem dL_comes_401 : decode cL_comes 401 = .ok (.aload_n 2, 1) := by decide +kernel
theorem dL_comes_402 : decode cL_comes 402 = .ok (.iconst 3, 1) := by decide +kernel
theorem dL_comes_403 : decode cL_comes 403 = .ok (.iload 10, 2) := by decide +kernel
theorem dL_comes_405 : decode cL_comes 405 = .ok (.imul, 1) := by decide +kernel
theorem dL_comes_406 : decode cL_comes 406 = .ok (.iaload, 1) := by decide +kernel
theorem dL_comes_407 : decode cL_comes 407 = .ok (.iload 11, 2) := by decide +kernel
theorem dL_comes_409 : decode cL_comes 409 = .ok (.iconst 3, 1) := by decide +kernel
theorem dL_comes_410 : decode cL_comes 410 = .ok (.invokestatic 90, 3) := by decide +kernel
theorem dL_comes_413 : decode cL_comes 413 = .ok (.ifCond .ne 7, 3) := by decide +kernel
theorem dL_comes_416 : decode cL_comes 416 = .ok (.iconst 1, 1) := by decide +kernel
theorem dL_comes_417 : decode cL_comes 417 = .ok (.goto 4, 3) := by decide +kernel
theorem dL_comes_420 : decode cL_comes 420 = .ok (.iconst 0, 1) := by decide +kernel
theorem dL_comes_421 : decode cL_comes 421 = .ok (.invokestatic 93, 3) := by decide +kernel
theorem dL_comes_424 : decode cL_comes 424 = .ok (.istore 8, 2) := by decide +kernel
theorem dL_comes_426 : decode cL_comes 426 = .ok (.aload_n 0, 1) := by decide +kernel
theorem dL_comes_427 : decode cL_comes 427 = .ok (.bipush 115, 2) := by decide +kernel
theorem dL_comes_429 : decode cL_comes 429 = .ok (.aload_n 2, 1) := by decide +kernel
theorem dL_comes_430 : decode cL_comes 430 = .ok (.iconst 3, 1) := by decide +kernel
theorem dL_comes_431 : decode cL_comes 431 = .ok (.iload 10, 2) := by decide +kernel
theorem dL_comes_433 : decode cL_comes 433 = .ok (.imul, 1) := by decide +kernel
theorem dL_comes_434 : decode cL_comes 434 = .ok (.iconst 1, 1) := by decide +kernel
theorem dL_comes_435 : decode cL_comes 435 = .ok (.iadd, 1) := by decide +kernel
theorem dL_comes_436 : decode cL_comes 436 = .ok (.iaload, 1) := by decide +kernel
theorem dL_comes_437 : decode cL_comes 437 = .ok (.iload 11, 2) := by decide +kernel
theorem dL_comes_439 : decode cL_comes 439 = .ok (.iconst 5, 1) := by decide +kernel
theorem dL_comes_440 : decode cL_comes 440 = .ok (.invokestatic 90, 3) := by decide +kernel
theorem dL_comes_443 : decode cL_comes 443 = .ok (.ifCond .ne 7, 3) := by decide +kernel
theorem dL_comes_446 : decode cL_comes 446 = .ok (.iconst 1, 1) := by decide +kernel
theorem dL_comes_447 : decode cL_comes 447 = .ok (.goto 4, 3) := by decide +kernel
theorem dL_comes_450 : decode cL_comes 450 = .ok (.iconst 0, 1) := by decide +kernel
theorem dL_comes_451 : decode cL_comes 451 = .ok (.invokestatic 93, 3) := by decide +kernel
theorem dL_comes_454 : decode cL_comes 454 = .ok (.istore 8, 2) := by decide +kernel
theorem dL_comes_456 : decode cL_comes 456 = .ok (.iinc 9 1, 3) := by decide +kernel
theorem dL_comes_459 : decode cL_comes 459 = .ok (.goto (-422), 3) := by decide +kernel
theorem dL_comes_462 : decode cL_comes 462 = .ok (.aload_n 0, 1) := by decide +kernel
theorem dL_comes_463 : decode cL_comes 463 = .ok (.invokevirtual 87, 3) := by decide +kernel
theorem dL_comes_466 : decode cL_comes 466 = .ok (.iload 7, 2) := by decide +kernel
theorem dL_comes_468 : decode cL_comes 468 = .ok (.if_icmp .ne 7, 3) := by decide +kernel
theorem dL_comes_471 : decode cL_comes 471 = .ok (.iconst 1, 1) := by decide +kernel
theorem dL_comes_472 : decode cL_comes 472 = .ok (.goto 4, 3) := by decide +kernel
theorem dL_comes_475 : decode cL_comes 475 = .ok (.iconst 0, 1) := by decide +kernel
theorem dL_comes_476 : decode cL_comes 476 = .ok (.ireturn, 1) := by decide +kernel
