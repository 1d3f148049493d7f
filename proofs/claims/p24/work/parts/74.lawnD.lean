set_option maxRecDepth 20000 in
theorem ggL_sets_L_low : GoodIn wsL_sets wsL_low := goodIn_r _ [4, 5] (by decide +kernel) (by decide +kernel)
set_option maxRecDepth 20000 in
theorem gL_sets_L_low : GoodIn wsL_sets (va_wsS RL 90 yL_low wsL_low) := goodIn_app (goodIn_of _ (by decide +kernel)) ggL_sets_L_low
set_option maxRecDepth 20000 in
theorem ggL_sets_X7_set : GoodIn wsL_sets wsX7_set := goodIn_r _ [10, 11, 12, 13, 14, 15, 9, 16, 17, 18, 19, 20, 21, 22, 23, 24, 25, 26, 27, 28, 29, 30, 31, 32, 33, 34, 35, 36, 37, 38, 39, 40, 41, 42, 43, 44, 45, 46, 47, 48, 49, 50, 51, 52, 53, 54, 55, 56, 57, 58, 59, 60, 61, 62, 63, 64, 65, 66, 67, 68, 69, 70, 71, 72, 73, 74, 75, 76, 77, 78, 79, 80, 81, 82, 83, 84, 85, 86, 87, 88, 89, 90, 91, 92, 93, 94, 95, 96, 97, 98, 99, 100, 101, 102, 103, 104, 105, 106] (by decide +kernel) (by decide +kernel)
set_option maxRecDepth 20000 in
theorem gL_sets_X7_set : GoodIn wsL_sets (wsV RL 97 RX7 yX7_set wsX7_set) := goodIn_app (goodIn_of _ (by decide +kernel)) ggL_sets_X7_set
theorem dL_sets_0 : decode cL_sets 0 = .ok (.iload_n 2, 1) := by decide +kernel
theorem dL_sets_1 : decode cL_sets 1 = .ok (.bipush 8, 2) := by decide +kernel
theorem dL_sets_3 : decode cL_sets 3 = .ok (.invokestatic 90, 3) := by decide +kernel
theorem dL_sets_6 : decode cL_sets 6 = .ok (.istore_n 3, 1) := by decide +kernel
theorem dL_sets_7 : decode cL_sets 7 = .ok (.iload_n 2, 1) := by decide +kernel
theorem dL_sets_8 : decode cL_sets 8 = .ok (.iconst 3, 1) := by decide +kernel
theorem dL_sets_9 : decode cL_sets 9 = .ok (.ishr, 1) := by decide +kernel
theorem dL_sets_10 : decode cL_sets 10 = .ok (.istore 4, 2) := by decide +kernel
theorem dL_sets_12 : decode cL_sets 12 = .ok (.iload_n 3, 1) := by decide +kernel
theorem dL_sets_13 : decode cL_sets 13 = .ok (.iconst 3, 1) := by decide +kernel
theorem dL_sets_14 : decode cL_sets 14 = .ok (.if_icmp .ge 15, 3) := by decide +kernel
theorem dL_sets_17 : decode cL_sets 17 = .ok (.iconst 1, 1) := by decide +kernel
theorem dL_sets_18 : decode cL_sets 18 = .ok (.iload 4, 2) := by decide +kernel
theorem dL_sets_20 : decode cL_sets 20 = .ok (.bipush 30, 2) := by decide +kernel
theorem dL_sets_22 : decode cL_sets 22 = .ok (.invokestatic 90, 3) := by decide +kernel
theorem dL_sets_25 : decode cL_sets 25 = .ok (.iadd, 1) := by decide +kernel
theorem dL_sets_26 : decode cL_sets 26 = .ok (.goto 80, 3) := by decide +kernel
theorem dL_sets_29 : decode cL_sets 29 = .ok (.iload_n 3, 1) := by decide +kernel
theorem dL_sets_30 : decode cL_sets 30 = .ok (.iconst 3, 1) := by decide +kernel
theorem dL_sets_31 : decode cL_sets 31 = .ok (.if_icmp .eq 9, 3) := by decide +kernel
theorem dL_sets_34 : decode cL_sets 34 = .ok (.iload_n 3, 1) := by decide +kernel
theorem dL_sets_35 : decode cL_sets 35 = .ok (.bipush 7, 2) := by decide +kernel
theorem dL_sets_37 : decode cL_sets 37 = .ok (.if_icmp .ne 13, 3) := by decide +kernel
theorem dL_sets_40 : decode cL_sets 40 = .ok (.iload 4, 2) := by decide +kernel
theorem dL_sets_42 : decode cL_sets 42 = .ok (.bipush 10, 2) := by decide +kernel
theorem dL_sets_44 : decode cL_sets 44 = .ok (.invokestatic 90, 3) := by decide +kernel
theorem dL_sets_47 : decode cL_sets 47 = .ok (.goto 59, 3) := by decide +kernel
theorem dL_sets_50 : decode cL_sets 50 = .ok (.iload_n 3, 1) := by decide +kernel
theorem dL_sets_51 : decode cL_sets 51 = .ok (.iconst 4, 1) := by decide +kernel
theorem dL_sets_52 : decode cL_sets 52 = .ok (.if_icmp .ne 15, 3) := by decide +kernel
theorem dL_sets_55 : decode cL_sets 55 = .ok (.iconst 1, 1) := by decide +kernel
theorem dL_sets_56 : decode cL_sets 56 = .ok (.iload 4, 2) := by decide +kernel
theorem dL_sets_58 : decode cL_sets 58 = .ok (.bipush 10, 2) := by decide +kernel
theorem dL_sets_60 : decode cL_sets 60 = .ok (.invokestatic 90, 3) := by decide +kernel
theorem dL_sets_63 : decode cL_sets 63 = .ok (.iadd, 1) := by decide +kernel
theorem dL_sets_64 : decode cL_sets 64 = .ok (.goto 42, 3) := by decide +kernel
theorem dL_sets_67 : decode cL_sets 67 = .ok (.iload_n 3, 1) := by decide +kernel
theorem dL_sets_68 : decode cL_sets 68 = .ok (.iconst 5, 1) := by decide +kernel
theorem dL_sets_69 : decode cL_sets 69 = .ok (.if_icmp .ne 15, 3) := by decide +kernel
theorem dL_sets_72 : decode cL_sets 72 = .ok (.iconst 1, 1) := by decide +kernel
theorem dL_sets_73 : decode cL_sets 73 = .ok (.iload 4, 2) := by decide +kernel
theorem dL_sets_75 : decode cL_sets 75 = .ok (.bipush 9, 2) := by decide +kernel
theorem dL_sets_77 : decode cL_sets 77 = .ok (.invokestatic 90, 3) := by decide +kernel
theorem dL_sets_80 : decode cL_sets 80 = .ok (.iadd, 1) := by decide +kernel
theorem dL_sets_81 : decode cL_sets 81 = .ok (.goto 25, 3) := by decide +kernel
theorem dL_sets_84 : decode cL_sets 84 = .ok (.iload 4, 2) := by decide +kernel
theorem dL_sets_86 : decode cL_sets 86 = .ok (.iload 4, 2) := by decide +kernel
theorem dL_sets_88 : decode cL_sets 88 = .ok (.iconst 5, 1) := by decide +kernel
theorem dL_sets_89 : decode cL_sets 89 = .ok (.ishr, 1) := by decide +kernel
theorem dL_sets_90 : decode cL_sets 90 = .ok (.iconst 2, 1) := by decide +kernel
theorem dL_sets_91 : decode cL_sets 91 = .ok (.invokestatic 90, 3) := by decide +kernel
theorem dL_sets_94 : decode cL_sets 94 = .ok (.ifCond .ne 8, 3) := by decide +kernel
theorem dL_sets_97 : decode cL_sets 97 = .ok (.bipush 21, 2) := by decide +kernel
theorem dL_sets_99 : decode cL_sets 99 = .ok (.goto 4, 3) := by decide +kernel
theorem dL_sets_102 : decode cL_sets 102 = .ok (.iconst 4, 1) := by decide +kernel
theorem dL_sets_103 : decode cL_sets 103 = .ok (.invokestatic 90, 3) := by decide +kernel
theorem dL_sets_106 : decode cL_sets 106 = .ok (.istore 5, 2) := by decide +kernel
theorem dL_sets_108 : decode cL_sets 108 = .ok (.iload_n 3, 1) := by decide +kernel
theorem dL_sets_109 : decode cL_sets 109 = .ok (.ifCond .ne 11, 3) := by decide +kernel
theorem dL_sets_112 : decode cL_sets 112 = .ok (.iload 5, 2) := by decide +kernel
theorem dL_sets_114 : decode cL_sets 114 = .ok (.aload_n 1, 1) := by decide +kernel
theorem dL_sets_115 : decode cL_sets 115 = .ok (.iconst 1, 1) := by decide +kernel
theorem dL_sets_116 : decode cL_sets 116 = .ok (.iaload, 1) := by decide +kernel
theorem dL_sets_117 : decode cL_sets 117 = .ok (.if_icmp .gt 37, 3) := by decide +kernel
theorem dL_sets_120 : decode cL_sets 120 = .ok (.iload_n 3, 1) := by decide +kernel
theorem dL_sets_121 : decode cL_sets 121 = .ok (.iconst 1, 1) := by decide +kernel
theorem dL_sets_122 : decode cL_sets 122 = .ok (.if_icmp .ne 19, 3) := by decide +kernel
theorem dL_sets_125 : decode cL_sets 125 = .ok (.iload 5, 2) := by decide +kernel
theorem dL_sets_127 : decode cL_sets 127 = .ok (.aload_n 1, 1) := by decide +kernel
theorem dL_sets_128 : decode cL_sets 128 = .ok (.iconst 0, 1) := by decide +kernel
theorem dL_sets_129 : decode cL_sets 129 = .ok (.iaload, 1) := by decide +kernel
theorem dL_sets_130 : decode cL_sets 130 = .ok (.if_icmp .lt 24, 3) := by decide +kernel
theorem dL_sets_133 : decode cL_sets 133 = .ok (.iload 5, 2) := by decide +kernel
theorem dL_sets_135 : decode cL_sets 135 = .ok (.aload_n 1, 1) := by decide +kernel
theorem dL_sets_136 : decode cL_sets 136 = .ok (.iconst 2, 1) := by decide +kernel
theorem dL_sets_137 : decode cL_sets 137 = .ok (.iaload, 1) := by decide +kernel
theorem dL_sets_138 : decode cL_sets 138 = .ok (.if_icmp .gt 16, 3) := by decide +kernel
theorem dL_sets_141 : decode cL_sets 141 = .ok (.iload_n 3, 1) := by decide +kernel
theorem dL_sets_142 : decode cL_sets 142 = .ok (.iconst 2, 1) := by decide +kernel
theorem dL_sets_143 : decode cL_sets 143 = .ok (.if_icmp .ne 15, 3) := by decide +kernel
theorem dL_sets_146 : decode cL_sets 146 = .ok (.iload 5, 2) := by decide +kernel
theorem dL_sets_148 : decode cL_sets 148 = .ok (.aload_n 1, 1) := by decide +kernel
theorem dL_sets_149 : decode cL_sets 149 = .ok (.iconst 1, 1) := by decide +kernel
theorem dL_sets_150 : decode cL_sets 150 = .ok (.iaload, 1) := by decide +kernel
theorem dL_sets_151 : decode cL_sets 151 = .ok (.if_icmp .ge 7, 3) := by decide +kernel
theorem dL_sets_154 : decode cL_sets 154 = .ok (.iconst 1, 1) := by decide +kernel
theorem dL_sets_155 : decode cL_sets 155 = .ok (.goto 4, 3) := by decide +kernel
theorem dL_sets_158 : decode cL_sets 158 = .ok (.iconst 0, 1) := by decide +kernel
theorem dL_sets_159 : decode cL_sets 159 = .ok (.istore 6, 2) := by decide +kernel
theorem dL_sets_161 : decode cL_sets 161 = .ok (.aload_n 1, 1) := by decide +kernel
theorem dL_sets_162 : decode cL_sets 162 = .ok (.iload_n 3, 1) := by decide +kernel
theorem dL_sets_163 : decode cL_sets 163 = .ok (.iaload, 1) := by decide +kernel
theorem dL_sets_164 : decode cL_sets 164 = .ok (.istore 7, 2) := by decide +kernel
theorem dL_sets_166 : decode cL_sets 166 = .ok (.aload_n 1, 1) := by decide +kernel
theorem dL_sets_167 : decode cL_sets 167 = .ok (.iload_n 3, 1) := by decide +kernel
theorem dL_sets_168 : decode cL_sets 168 = .ok (.iload 6, 2) := by decide +kernel
theorem dL_sets_170 : decode cL_sets 170 = .ok (.ifCond .eq 8, 3) := by decide +kernel
theorem dL_sets_173 : decode cL_sets 173 = .ok (.iload 7, 2) := by decide +kernel
theorem dL_sets_175 : decode cL_sets 175 = .ok (.goto 5, 3) := by decide +kernel
theorem dL_sets_178 : decode cL_sets 178 = .ok (.iload 5, 2) := by decide +kernel
theorem dL_sets_180 : decode cL_sets 180 = .ok (.iastore, 1) := by decide +kernel
theorem dL_sets_181 : decode cL_sets 181 = .ok (.aload_n 0, 1) := by decide +kernel
theorem dL_sets_182 : decode cL_sets 182 = .ok (.iload_n 3, 1) := by decide +kernel
theorem dL_sets_183 : decode cL_sets 183 = .ok (.iload 5, 2) := by decide +kernel
theorem dL_sets_185 : decode cL_sets 185 = .ok (.invokevirtual 97, 3) := by decide +kernel
theorem dL_sets_188 : decode cL_sets 188 = .ok (.iload 6, 2) := by decide +kernel
theorem dL_sets_190 : decode cL_sets 190 = .ok (.ifCond .eq 8, 3) := by decide +kernel
theorem dL_sets_193 : decode cL_sets 193 = .ok (.bipush (-4), 2) := by decide +kernel
theorem dL_sets_195 : decode cL_sets 195 = .ok (.goto 17, 3) := by decide +kernel
theorem dL_sets_198 : decode cL_sets 198 = .ok (.iload 7, 2) := by decide +kernel
theorem dL_sets_200 : decode cL_sets 200 = .ok (.iload 5, 2) := by decide +kernel
theorem dL_sets_202 : decode cL_sets 202 = .ok (.if_icmp .ne 8, 3) := by decide +kernel
theorem dL_sets_205 : decode cL_sets 205 = .ok (.bipush (-5), 2) := by decide +kernel
theorem dL_sets_207 : decode cL_sets 207 = .ok (.goto 5, 3) := by decide +kernel
theorem dL_sets_210 : decode cL_sets 210 = .ok (.iload 7, 2) := by decide +kernel
theorem dL_sets_212 : decode cL_sets 212 = .ok (.if_icmp .ne 7, 3) := by decide +kernel
theorem dL_sets_215 : decode cL_sets 215 = .ok (.iconst 1, 1) := by decide +kernel
theorem dL_sets_216 : decode cL_sets 216 = .ok (.goto 4, 3) := by decide +kernel
theorem dL_sets_219 : decode cL_sets 219 = .ok (.iconst 0, 1) := by decide +kernel
theorem dL_sets_220 : decode cL_sets 220 = .ok (.ireturn, 1) := by decide +kernel
set_option maxRecDepth 20000 in
theorem ggL_acts_L_low : GoodIn wsL_acts wsL_low := goodIn_r _ [4, 5] (by decide +kernel) (by decide +kernel)
set_option maxRecDepth 20000 in
theorem gL_acts_L_low : GoodIn wsL_acts (va_wsS RL 90 yL_low wsL_low) := goodIn_app (goodIn_of _ (by decide +kernel)) ggL_acts_L_low
set_option maxRecDepth 20000 in
theorem ggL_acts_L_comes : GoodIn wsL_acts wsL_comes := goodIn_r _ [8, 9, 10, 11, 12, 13, 14, 15, 16, 17, 18, 19, 20, 21, 22, 23, 24, 25, 26, 27, 28, 29, 30, 31, 32, 33, 34, 35, 36, 37, 38, 39, 40, 41, 42, 43, 44, 45, 46, 47, 48, 49, 50, 51, 52, 53, 54, 55, 56, 57, 58, 59, 60, 61, 62, 63, 64, 65, 66, 67, 68, 69, 70, 71, 72, 73, 74, 75, 76, 77, 78, 79, 80, 81, 82, 83, 84, 85, 86, 87, 88, 89, 90, 91, 92, 93, 94, 95, 96, 97, 98, 99, 100, 101, 102, 103, 104, 105, 106, 107, 108, 109, 110, 111, 112, 113, 114, 115, 116, 117, 118, 119, 120, 121, 122, 123, 124, 125, 126, 127, 128, 129, 130, 131, 132, 133, 134, 135, 136, 137, 138, 139, 140, 141, 142, 143, 144, 145, 146, 147, 148, 1, 2, 3, 4, 5, 149, 150, 151, 152, 153, 154, 155, 156, 157, 158, 159, 160, 161, 162, 347, 348, 349, 350, 351, 352, 353, 354, 355, 356, 357, 358, 359, 360, 361, 362, 363, 364, 365, 366, 367, 368, 369, 370, 371, 372, 373, 374, 375, 376, 377, 378, 379, 380, 381, 382, 383, 384, 385, 386, 387] (by decide +kernel) (by decide +kernel)
set_option maxRecDepth 20000 in
theorem gL_acts_L_comes : GoodIn wsL_acts (va_wsS RL 100 yL_comes wsL_comes) := goodIn_app (goodIn_of _ (by decide +kernel)) ggL_acts_L_comes
set_option maxRecDepth 20000 in
theorem ggL_acts_L_sets : GoodIn wsL_acts wsL_sets := goodIn_r _ [165, 1, 2, 3, 4, 5, 166, 167, 168, 12, 169, 21, 170, 25, 171, 172, 173, 174, 175, 176, 177, 178, 75, 179, 79, 61, 62, 63, 64, 65, 66, 67, 68, 69, 70, 71, 72, 73, 74, 76, 77, 78, 80, 81, 82, 83, 84, 85, 86, 87, 88, 89, 90, 91, 92, 93, 94, 95, 96, 97, 98, 99, 100, 101, 102, 103, 104, 105, 106, 107, 108, 109, 110, 111, 112, 113, 347, 348, 349, 350, 351, 352, 353, 354, 357, 358, 359, 360, 361, 362, 363, 364, 380, 381, 365, 366, 367, 368, 369, 370, 371, 382, 383, 384, 385, 386, 387] (by decide +kernel) (by decide +kernel)
set_option maxRecDepth 20000 in
theorem gL_acts_L_sets : GoodIn wsL_acts (va_wsS RL 104 yL_sets wsL_sets) := goodIn_app (goodIn_of _ (by decide +kernel)) ggL_acts_L_sets
set_option maxRecDepth 20000 in
theorem ggL_acts_L_at : GoodIn wsL_acts wsL_at := goodIn_r _ [182] (by decide +kernel) (by decide +kernel)
set_option maxRecDepth 20000 in
theorem gL_acts_L_at : GoodIn wsL_acts (va_wsS RL 15 yL_at wsL_at) := goodIn_app (goodIn_of _ (by decide +kernel)) ggL_acts_L_at
set_option maxRecDepth 20000 in
theorem ggL_acts_X7_letGo : GoodIn wsL_acts wsX7_letGo := goodIn_r _ [186, 21, 187, 188, 25, 61, 62, 63, 64, 65, 66, 67, 68, 69, 70, 71, 72, 73, 74, 75, 76, 77, 78, 79, 80, 81, 82, 83, 84, 85, 86, 87, 88, 89, 90, 91, 92, 93, 94, 95, 96, 97, 98, 99, 100, 101, 102, 103, 104, 105, 106, 107, 108, 109, 110, 111, 112, 113, 189, 190, 191, 192, 118, 193, 194, 195, 196, 197, 142, 143, 144, 145, 12, 146, 147, 148, 198, 135, 136, 137, 138, 139, 140, 141, 347, 348, 349, 350, 351, 352, 353, 354, 357, 358, 359, 360, 361, 362, 363, 364, 382, 383, 384, 385, 386, 387, 380, 381, 365, 366, 367, 368, 369, 370, 371] (by decide +kernel) (by decide +kernel)
set_option maxRecDepth 20000 in
theorem gL_acts_X7_letGo : GoodIn wsL_acts (wsV RL 108 RX7 yX7_letGo wsX7_letGo) := goodIn_app (goodIn_of _ (by decide +kernel)) ggL_acts_X7_letGo
set_option maxRecDepth 20000 in
theorem ggL_acts_X7_pour : GoodIn wsL_acts wsX7_pour := goodIn_r _ [202, 21, 187, 203, 25, 204, 147, 12, 148, 61, 62, 63, 64, 65, 66, 67, 68, 69, 70, 71, 72, 73, 74, 75, 76, 77, 78, 79, 80, 81, 82, 83, 84, 85, 86, 87, 88, 89, 90, 91, 92, 93, 94, 95, 96, 97, 98, 99, 100, 101, 102, 103, 104, 105, 106, 107, 108, 109, 110, 111, 112, 113, 205, 206, 207, 208, 118, 209, 194, 195, 196, 197, 142, 143, 144, 145, 146, 130, 131, 132, 133, 134, 135, 136, 137, 138, 139, 140, 141, 347, 348, 349, 350, 351, 352, 353, 354, 357, 358, 359, 360, 361, 362, 363, 364, 382, 383, 384, 385, 386, 387, 380, 381, 365, 366, 367, 368, 369, 370, 371] (by decide +kernel) (by decide +kernel)
set_option maxRecDepth 20000 in
theorem gL_acts_X7_pour : GoodIn wsL_acts (wsV RL 111 RX7 yX7_pour wsX7_pour) := goodIn_app (goodIn_of _ (by decide +kernel)) ggL_acts_X7_pour
set_option maxRecDepth 20000 in
theorem ggL_acts_L_first : GoodIn wsL_acts wsL_first := goodIn_r _ [212, 213, 214, 3, 215, 216, 217, 218] (by decide +kernel) (by decide +kernel)
set_option maxRecDepth 20000 in
theorem gL_acts_L_first : GoodIn wsL_acts (va_wsS RL 33 yL_first wsL_first) := goodIn_app (goodIn_of _ (by decide +kernel)) ggL_acts_L_first
set_option maxRecDepth 20000 in
theorem ggL_acts_X7_shirt : GoodIn wsL_acts wsX7_shirt := goodIn_r _ [222, 223, 21, 170, 25, 204, 147, 12, 148, 224, 225, 226, 227, 228, 229, 230, 231, 232, 233, 234, 235, 236, 237, 238, 239, 240, 241, 242, 243, 244, 245, 246, 247, 248, 249, 250, 251, 252, 253, 254, 255, 256, 61, 62, 63, 64, 65, 66, 67, 68, 69, 70, 71, 72, 73, 74, 75, 76, 77, 78, 79, 80, 81, 82, 83, 84, 85, 86, 87, 88, 89, 90, 91, 92, 93, 94, 95, 96, 97, 98, 99, 100, 101, 102, 103, 104, 105, 106, 107, 108, 109, 110, 111, 112, 113, 257, 258, 259, 260, 127, 125, 261, 262, 263, 264, 265, 266, 267, 268, 269, 270, 271, 272, 194, 195, 196, 197, 142, 143, 144, 145, 146, 273, 274, 275, 276, 138, 139, 140, 141, 347, 348, 349, 350, 351, 352, 353, 354, 357, 358, 359, 360, 361, 362, 363, 364, 388, 389, 390, 365, 366, 367, 368, 369, 370, 371, 382, 383, 384, 385, 386, 387, 380, 381] (by decide +kernel) (by decide +kernel)
set_option maxRecDepth 20000 in
theorem gL_acts_X7_shirt : GoodIn wsL_acts (wsV RL 114 RX7 yX7_shirt wsX7_shirt) := goodIn_app (goodIn_of _ (by decide +kernel)) ggL_acts_X7_shirt
set_option maxRecDepth 20000 in
theorem ggL_acts_L_in : GoodIn wsL_acts wsL_in := goodIn_r _ [279] (by decide +kernel) (by decide +kernel)
set_option maxRecDepth 20000 in
theorem gL_acts_L_in : GoodIn wsL_acts (va_wsS RL 22 yL_in wsL_in) := goodIn_app (goodIn_of _ (by decide +kernel)) ggL_acts_L_in
set_option maxRecDepth 20000 in
theorem ggL_acts_L_sews : GoodIn wsL_acts wsL_sews := goodIn_r _ [282, 210, 211, 3, 212, 213, 214, 215, 216, 217, 218] (by decide +kernel) (by decide +kernel)
set_option maxRecDepth 20000 in
theorem gL_acts_L_sews : GoodIn wsL_acts (va_wsS RL 65 yL_sews wsL_sews) := goodIn_app (goodIn_of _ (by decide +kernel)) ggL_acts_L_sews
set_option maxRecDepth 20000 in
theorem ggL_acts_X7_polish : GoodIn wsL_acts wsX7_polish := goodIn_r _ [286, 21, 22, 187, 287, 288, 25, 289, 270, 271, 92, 272, 94, 61, 62, 63, 64, 65, 66, 67, 68, 69, 70, 71, 72, 73, 74, 75, 76, 77, 78, 79, 80, 81, 82, 83, 84, 85, 86, 87, 88, 89, 90, 91, 93, 95, 96, 97, 98, 99, 100, 101, 102, 103, 104, 105, 106, 107, 108, 109, 110, 111, 112, 113, 290, 291, 292, 293, 347, 348, 349, 350, 351, 352, 353, 354, 357, 358, 359, 360, 361, 362, 363, 364, 382, 383, 384, 385, 386, 387, 365, 366, 367, 368, 369, 370, 371, 380, 381] (by decide +kernel) (by decide +kernel)
set_option maxRecDepth 20000 in
theorem gL_acts_X7_polish : GoodIn wsL_acts (wsV RL 117 RX7 yX7_polish wsX7_polish) := goodIn_app (goodIn_of _ (by decide +kernel)) ggL_acts_X7_polish
set_option maxRecDepth 20000 in
theorem ggL_acts_L_sorts : GoodIn wsL_acts wsL_sorts := goodIn_r _ [296, 297, 298, 3, 299, 180, 181, 182, 300, 301, 302, 277, 278, 279] (by decide +kernel) (by decide +kernel)
set_option maxRecDepth 20000 in
theorem gL_acts_L_sorts : GoodIn wsL_acts (va_wsS RL 75 yL_sorts wsL_sorts) := goodIn_app (goodIn_of _ (by decide +kernel)) ggL_acts_L_sorts
set_option maxRecDepth 20000 in
theorem ggL_acts_X7_sort : GoodIn wsL_acts wsX7_sort := goodIn_r _ [306, 21, 187, 188, 25, 61, 62, 63, 64, 65, 66, 67, 68, 69, 70, 71, 72, 73, 74, 75, 76, 77, 78, 79, 80, 81, 82, 83, 84, 85, 86, 87, 88, 89, 90, 91, 92, 93, 94, 95, 96, 97, 98, 99, 100, 101, 102, 103, 104, 105, 106, 107, 108, 109, 110, 111, 112, 113, 307, 308, 309, 310, 129, 311, 312, 313, 314, 315, 195, 196, 197, 142, 143, 144, 145, 12, 146, 147, 148, 269, 270, 271, 272, 316, 317, 318, 319, 125, 123, 320, 121, 321, 322, 323, 324, 119, 325, 326, 327, 328, 329, 330, 331, 332, 333, 198, 135, 136, 137, 138, 139, 140, 141, 334, 190, 191, 192, 118, 193, 194, 335, 336, 337, 338, 339, 340, 341, 342, 343, 344, 345, 346, 130, 131, 132, 133, 134, 347, 348, 349, 350, 351, 352, 353, 354, 357, 358, 359, 360, 361, 362, 363, 364, 382, 383, 384, 385, 386, 387, 380, 381, 365, 366, 367, 368, 369, 370, 371] (by decide +kernel) (by decide +kernel)
set_option maxRecDepth 20000 in
theorem gL_acts_X7_sort : GoodIn wsL_acts (wsV RL 120 RX7 yX7_sort wsX7_sort) := goodIn_app (goodIn_of _ (by decide +kernel)) ggL_acts_X7_sort
theorem dL_acts_0 : decode cL_acts 0 = .ok (.iload 7, 2) := by decide +kernel
theorem dL_acts_2 : decode cL_acts 2 = .ok (.iload 7, 2) := by decide +kernel
theorem dL_acts_4 : decode cL_acts 4 = .ok (.bipush 6, 2) := by decide +kernel
theorem dL_acts_6 : decode cL_acts 6 = .ok (.ishr, 1) := by decide +kernel
theorem dL_acts_7 : decode cL_acts 7 = .ok (.iconst 2, 1) := by decide +kernel
theorem dL_acts_8 : decode cL_acts 8 = .ok (.invokestatic 90, 3) := by decide +kernel
theorem dL_acts_11 : decode cL_acts 11 = .ok (.ifCond .ne 8, 3) := by decide +kernel
theorem dL_acts_14 : decode cL_acts 14 = .ok (.bipush 12, 2) := by decide +kernel
theorem dL_acts_16 : decode cL_acts 16 = .ok (.goto 5, 3) := by decide +kernel
theorem dL_acts_19 : decode cL_acts 19 = .ok (.bipush 6, 2) := by decide +kernel
theorem dL_acts_21 : decode cL_acts 21 = .ok (.invokestatic 90, 3) := by decide +kernel
theorem dL_acts_24 : decode cL_acts 24 = .ok (.istore 8, 2) := by decide +kernel
theorem dL_acts_26 : decode cL_acts 26 = .ok (.iload 6, 2) := by decide +kernel
theorem dL_acts_28 : decode cL_acts 28 = .ok (.tableswitch 519 0 10 #[60, 60, 85, 85, 94, 173, 284, 284, 284, 394, 394], 60) := by decide +kernel
theorem dL_acts_88 : decode cL_acts 88 = .ok (.aload_n 0, 1) := by decide +kernel
theorem dL_acts_89 : decode cL_acts 89 = .ok (.aload_n 1, 1) := by decide +kernel
theorem dL_acts_90 : decode cL_acts 90 = .ok (.aload_n 2, 1) := by decide +kernel
theorem dL_acts_91 : decode cL_acts 91 = .ok (.aload_n 3, 1) := by decide +kernel
theorem dL_acts_92 : decode cL_acts 92 = .ok (.aload 4, 2) := by decide +kernel
theorem dL_acts_94 : decode cL_acts 94 = .ok (.aload 5, 2) := by decide +kernel
theorem dL_acts_96 : decode cL_acts 96 = .ok (.iload 7, 2) := by decide +kernel
theorem dL_acts_98 : decode cL_acts 98 = .ok (.iconst 1, 1) := by decide +kernel
theorem dL_acts_99 : decode cL_acts 99 = .ok (.iload 7, 2) := by decide +kernel
theorem dL_acts_101 : decode cL_acts 101 = .ok (.bipush 14, 2) := by decide +kernel
theorem dL_acts_103 : decode cL_acts 103 = .ok (.ishr, 1) := by decide +kernel
theorem dL_acts_104 : decode cL_acts 104 = .ok (.iconst 3, 1) := by decide +kernel
theorem dL_acts_105 : decode cL_acts 105 = .ok (.invokestatic 90, 3) := by decide +kernel
theorem dL_acts_108 : decode cL_acts 108 = .ok (.iadd, 1) := by decide +kernel
theorem dL_acts_109 : decode cL_acts 109 = .ok (.invokestatic 100, 3) := by decide +kernel
theorem dL_acts_112 : decode cL_acts 112 = .ok (.ireturn, 1) := by decide +kernel
theorem dL_acts_113 : decode cL_acts 113 = .ok (.aload_n 0, 1) := by decide +kernel
theorem dL_acts_114 : decode cL_acts 114 = .ok (.aload 5, 2) := by decide +kernel
theorem dL_acts_116 : decode cL_acts 116 = .ok (.iload 7, 2) := by decide +kernel
theorem dL_acts_118 : decode cL_acts 118 = .ok (.invokestatic 104, 3) := by decide +kernel
theorem dL_acts_121 : decode cL_acts 121 = .ok (.ireturn, 1) := by decide +kernel
theorem dL_acts_122 : decode cL_acts 122 = .ok (.aload_n 3, 1) := by decide +kernel
theorem dL_acts_123 : decode cL_acts 123 = .ok (.aload 5, 2) := by decide +kernel
theorem dL_acts_125 : decode cL_acts 125 = .ok (.iconst 2, 1) := by decide +kernel
theorem dL_acts_126 : decode cL_acts 126 = .ok (.invokestatic 15, 3) := by decide +kernel
theorem dL_acts_129 : decode cL_acts 129 = .ok (.istore 9, 2) := by decide +kernel
theorem dL_acts_131 : decode cL_acts 131 = .ok (.iconst 0, 1) := by decide +kernel
theorem dL_acts_132 : decode cL_acts 132 = .ok (.istore 10, 2) := by decide +kernel
theorem dL_acts_134 : decode cL_acts 134 = .ok (.iload 10, 2) := by decide +kernel
theorem dL_acts_136 : decode cL_acts 136 = .ok (.aload 5, 2) := by decide +kernel
theorem dL_acts_138 : decode cL_acts 138 = .ok (.bipush 13, 2) := by decide +kernel
theorem dL_acts_140 : decode cL_acts 140 = .ok (.iaload, 1) := by decide +kernel
theorem dL_acts_141 : decode cL_acts 141 = .ok (.if_icmp .ge 35, 3) := by decide +kernel
theorem dL_acts_144 : decode cL_acts 144 = .ok (.aload_n 3, 1) := by decide +kernel
theorem dL_acts_145 : decode cL_acts 145 = .ok (.iconst 3, 1) := by decide +kernel
theorem dL_acts_146 : decode cL_acts 146 = .ok (.iload 10, 2) := by decide +kernel
theorem dL_acts_148 : decode cL_acts 148 = .ok (.imul, 1) := by decide +kernel
theorem dL_acts_149 : decode cL_acts 149 = .ok (.aload_n 3, 1) := by decide +kernel
theorem dL_acts_150 : decode cL_acts 150 = .ok (.iconst 3, 1) := by decide +kernel
theorem dL_acts_151 : decode cL_acts 151 = .ok (.iload 10, 2) := by decide +kernel
theorem dL_acts_153 : decode cL_acts 153 = .ok (.imul, 1) := by decide +kernel
theorem dL_acts_154 : decode cL_acts 154 = .ok (.iaload, 1) := by decide +kernel
theorem dL_acts_155 : decode cL_acts 155 = .ok (.iconst 2, 1) := by decide +kernel
theorem dL_acts_156 : decode cL_acts 156 = .ok (.if_icmp .ne 7, 3) := by decide +kernel
theorem dL_acts_159 : decode cL_acts 159 = .ok (.iconst 3, 1) := by decide +kernel
theorem dL_acts_160 : decode cL_acts 160 = .ok (.goto 9, 3) := by decide +kernel
theorem dL_acts_163 : decode cL_acts 163 = .ok (.aload_n 3, 1) := by decide +kernel
theorem dL_acts_164 : decode cL_acts 164 = .ok (.iconst 3, 1) := by decide +kernel
theorem dL_acts_165 : decode cL_acts 165 = .ok (.iload 10, 2) := by decide +kernel
theorem dL_acts_167 : decode cL_acts 167 = .ok (.imul, 1) := by decide +kernel
theorem dL_acts_168 : decode cL_acts 168 = .ok (.iaload, 1) := by decide +kernel
theorem dL_acts_169 : decode cL_acts 169 = .ok (.iastore, 1) := by decide +kernel
theorem dL_acts_170 : decode cL_acts 170 = .ok (.iinc 10 1, 3) := by decide +kernel
theorem dL_acts_173 : decode cL_acts 173 = .ok (.goto (-39), 3) := by decide +kernel
theorem dL_acts_176 : decode cL_acts 176 = .ok (.aload_n 0, 1) := by decide +kernel
theorem dL_acts_177 : decode cL_acts 177 = .ok (.invokevirtual 108, 3) := by decide +kernel
theorem dL_acts_180 : decode cL_acts 180 = .ok (.iload 9, 2) := by decide +kernel
theorem dL_acts_182 : decode cL_acts 182 = .ok (.ifCond .ne 8, 3) := by decide +kernel
theorem dL_acts_185 : decode cL_acts 185 = .ok (.bipush (-5), 2) := by decide +kernel
theorem dL_acts_187 : decode cL_acts 187 = .ok (.goto 5, 3) := by decide +kernel
theorem dL_acts_190 : decode cL_acts 190 = .ok (.iload 9, 2) := by decide +kernel
theorem dL_acts_192 : decode cL_acts 192 = .ok (.if_icmp .ne 7, 3) := by decide +kernel
theorem dL_acts_195 : decode cL_acts 195 = .ok (.iconst 1, 1) := by decide +kernel
theorem dL_acts_196 : decode cL_acts 196 = .ok (.goto 4, 3) := by decide +kernel
theorem dL_acts_199 : decode cL_acts 199 = .ok (.iconst 0, 1) := by decide +kernel
theorem dL_acts_200 : decode cL_acts 200 = .ok (.ireturn, 1) := by decide +kernel
theorem dL_acts_201 : decode cL_acts 201 = .ok (.iconst 0, 1) := by decide +kernel
theorem dL_acts_202 : decode cL_acts 202 = .ok (.istore 10, 2) := by decide +kernel
theorem dL_acts_204 : decode cL_acts 204 = .ok (.iconst 0, 1) := by decide +kernel
theorem dL_acts_205 : decode cL_acts 205 = .ok (.istore 11, 2) := by decide +kernel
theorem dL_acts_207 : decode cL_acts 207 = .ok (.iload 11, 2) := by decide +kernel
theorem dL_acts_209 : decode cL_acts 209 = .ok (.aload 5, 2) := by decide +kernel
theorem dL_acts_211 : decode cL_acts 211 = .ok (.bipush 13, 2) := by decide +kernel
theorem dL_acts_213 : decode cL_acts 213 = .ok (.iaload, 1) := by decide +kernel
theorem dL_acts_214 : decode cL_acts 214 = .ok (.if_icmp .ge 71, 3) := by decide +kernel
theorem dL_acts_217 : decode cL_acts 217 = .ok (.aload_n 3, 1) := by decide +kernel
theorem dL_acts_218 : decode cL_acts 218 = .ok (.iconst 3, 1) := by decide +kernel
theorem dL_acts_219 : decode cL_acts 219 = .ok (.iload 11, 2) := by decide +kernel
theorem dL_acts_221 : decode cL_acts 221 = .ok (.imul, 1) := by decide +kernel
theorem dL_acts_222 : decode cL_acts 222 = .ok (.iaload, 1) := by decide +kernel
theorem dL_acts_223 : decode cL_acts 223 = .ok (.iconst 5, 1) := by decide +kernel
theorem dL_acts_224 : decode cL_acts 224 = .ok (.if_icmp .ne 55, 3) := by decide +kernel
theorem dL_acts_227 : decode cL_acts 227 = .ok (.aload_n 3, 1) := by decide +kernel
theorem dL_acts_228 : decode cL_acts 228 = .ok (.iconst 3, 1) := by decide +kernel
theorem dL_acts_229 : decode cL_acts 229 = .ok (.iload 11, 2) := by decide +kernel
theorem dL_acts_231 : decode cL_acts 231 = .ok (.imul, 1) := by decide +kernel
theorem dL_acts_232 : decode cL_acts 232 = .ok (.iconst 1, 1) := by decide +kernel
theorem dL_acts_233 : decode cL_acts 233 = .ok (.iadd, 1) := by decide +kernel
theorem dL_acts_234 : decode cL_acts 234 = .ok (.iaload, 1) := by decide +kernel
theorem dL_acts_235 : decode cL_acts 235 = .ok (.iload 8, 2) := by decide +kernel
theorem dL_acts_237 : decode cL_acts 237 = .ok (.if_icmp .ne 42, 3) := by decide +kernel
theorem dL_acts_240 : decode cL_acts 240 = .ok (.aload_n 3, 1) := by decide +kernel
theorem dL_acts_241 : decode cL_acts 241 = .ok (.iconst 3, 1) := by decide +kernel
theorem dL_acts_242 : decode cL_acts 242 = .ok (.iload 11, 2) := by decide +kernel
theorem dL_acts_244 : decode cL_acts 244 = .ok (.imul, 1) := by decide +kernel
theorem dL_acts_245 : decode cL_acts 245 = .ok (.iconst 0, 1) := by decide +kernel
theorem dL_acts_246 : decode cL_acts 246 = .ok (.iastore, 1) := by decide +kernel
theorem dL_acts_247 : decode cL_acts 247 = .ok (.aload_n 3, 1) := by decide +kernel
theorem dL_acts_248 : decode cL_acts 248 = .ok (.iconst 3, 1) := by decide +kernel
theorem dL_acts_249 : decode cL_acts 249 = .ok (.iload 11, 2) := by decide +kernel
theorem dL_acts_251 : decode cL_acts 251 = .ok (.imul, 1) := by decide +kernel
theorem dL_acts_252 : decode cL_acts 252 = .ok (.iconst 1, 1) := by decide +kernel
theorem dL_acts_253 : decode cL_acts 253 = .ok (.iadd, 1) := by decide +kernel
theorem dL_acts_254 : decode cL_acts 254 = .ok (.bipush (-5), 2) := by decide +kernel
theorem dL_acts_256 : decode cL_acts 256 = .ok (.iastore, 1) := by decide +kernel
theorem dL_acts_257 : decode cL_acts 257 = .ok (.aload 4, 2) := by decide +kernel
theorem dL_acts_259 : decode cL_acts 259 = .ok (.aload 5, 2) := by decide +kernel
theorem dL_acts_261 : decode cL_acts 261 = .ok (.bipush 14, 2) := by decide +kernel
theorem dL_acts_263 : decode cL_acts 263 = .ok (.iaload, 1) := by decide +kernel
theorem dL_acts_264 : decode cL_acts 264 = .ok (.iload 11, 2) := by decide +kernel
theorem dL_acts_266 : decode cL_acts 266 = .ok (.iastore, 1) := by decide +kernel
theorem dL_acts_267 : decode cL_acts 267 = .ok (.aload 5, 2) := by decide +kernel
theorem dL_acts_269 : decode cL_acts 269 = .ok (.bipush 14, 2) := by decide +kernel
theorem dL_acts_271 : decode cL_acts 271 = .ok (.dup2, 1) := by decide +kernel
theorem dL_acts_272 : decode cL_acts 272 = .ok (.iaload, 1) := by decide +kernel
theorem dL_acts_273 : decode cL_acts 273 = .ok (.iconst 1, 1) := by decide +kernel
theorem dL_acts_274 : decode cL_acts 274 = .ok (.iadd, 1) := by decide +kernel
theorem dL_acts_275 : decode cL_acts 275 = .ok (.iastore, 1) := by decide +kernel
theorem dL_acts_276 : decode cL_acts 276 = .ok (.iinc 10 1, 3) := by decide +kernel
theorem dL_acts_279 : decode cL_acts 279 = .ok (.iinc 11 1, 3) := by decide +kernel
theorem dL_acts_282 : decode cL_acts 282 = .ok (.goto (-75), 3) := by decide +kernel
theorem dL_acts_285 : decode cL_acts 285 = .ok (.aload_n 0, 1) := by decide +kernel
theorem dL_acts_286 : decode cL_acts 286 = .ok (.iload 8, 2) := by decide +kernel
theorem dL_acts_288 : decode cL_acts 288 = .ok (.invokevirtual 111, 3) := by decide +kernel
theorem dL_acts_291 : decode cL_acts 291 = .ok (.iload 10, 2) := by decide +kernel
theorem dL_acts_293 : decode cL_acts 293 = .ok (.ifCond .ne 8, 3) := by decide +kernel
theorem dL_acts_296 : decode cL_acts 296 = .ok (.bipush (-5), 2) := by decide +kernel
theorem dL_acts_298 : decode cL_acts 298 = .ok (.goto 5, 3) := by decide +kernel
theorem dL_acts_301 : decode cL_acts 301 = .ok (.iload 10, 2) := by decide +kernel
theorem dL_acts_303 : decode cL_acts 303 = .ok (.if_icmp .ne 7, 3) := by decide +kernel
theorem dL_acts_306 : decode cL_acts 306 = .ok (.iconst 1, 1) := by decide +kernel
theorem dL_acts_307 : decode cL_acts 307 = .ok (.goto 4, 3) := by decide +kernel
theorem dL_acts_310 : decode cL_acts 310 = .ok (.iconst 0, 1) := by decide +kernel
theorem dL_acts_311 : decode cL_acts 311 = .ok (.ireturn, 1) := by decide +kernel
theorem dL_acts_312 : decode cL_acts 312 = .ok (.iconst 1, 1) := by decide +kernel
theorem dL_acts_313 : decode cL_acts 313 = .ok (.iload 7, 2) := by decide +kernel
theorem dL_acts_315 : decode cL_acts 315 = .ok (.bipush 7, 2) := by decide +kernel
theorem dL_acts_317 : decode cL_acts 317 = .ok (.ishr, 1) := by decide +kernel
theorem dL_acts_318 : decode cL_acts 318 = .ok (.iload 7, 2) := by decide +kernel
theorem dL_acts_320 : decode cL_acts 320 = .ok (.bipush 12, 2) := by decide +kernel
theorem dL_acts_322 : decode cL_acts 322 = .ok (.ishr, 1) := by decide +kernel
theorem dL_acts_323 : decode cL_acts 323 = .ok (.iconst 4, 1) := by decide +kernel
theorem dL_acts_324 : decode cL_acts 324 = .ok (.invokestatic 90, 3) := by decide +kernel
theorem dL_acts_327 : decode cL_acts 327 = .ok (.ifCond .ne 8, 3) := by decide +kernel
theorem dL_acts_330 : decode cL_acts 330 = .ok (.bipush 9, 2) := by decide +kernel
theorem dL_acts_332 : decode cL_acts 332 = .ok (.goto 4, 3) := by decide +kernel
theorem dL_acts_335 : decode cL_acts 335 = .ok (.iconst 3, 1) := by decide +kernel
theorem dL_acts_336 : decode cL_acts 336 = .ok (.invokestatic 90, 3) := by decide +kernel
theorem dL_acts_339 : decode cL_acts 339 = .ok (.iadd, 1) := by decide +kernel
theorem dL_acts_340 : decode cL_acts 340 = .ok (.istore 11, 2) := by decide +kernel
theorem dL_acts_342 : decode cL_acts 342 = .ok (.aload_n 2, 1) := by decide +kernel
theorem dL_acts_343 : decode cL_acts 343 = .ok (.aload_n 3, 1) := by decide +kernel
theorem dL_acts_344 : decode cL_acts 344 = .ok (.aload 5, 2) := by decide +kernel
theorem dL_acts_346 : decode cL_acts 346 = .ok (.iload 8, 2) := by decide +kernel
theorem dL_acts_348 : decode cL_acts 348 = .ok (.iload 11, 2) := by decide +kernel
theorem dL_acts_350 : decode cL_acts 350 = .ok (.invokestatic 33, 3) := by decide +kernel
theorem dL_acts_353 : decode cL_acts 353 = .ok (.ifCond .ge 41, 3) := by decide +kernel
theorem dL_acts_356 : decode cL_acts 356 = .ok (.aload_n 0, 1) := by decide +kernel
theorem dL_acts_357 : decode cL_acts 357 = .ok (.iload 8, 2) := by decide +kernel
theorem dL_acts_359 : decode cL_acts 359 = .ok (.iload 11, 2) := by decide +kernel
theorem dL_acts_361 : decode cL_acts 361 = .ok (.invokevirtual 114, 3) := by decide +kernel
theorem dL_acts_364 : decode cL_acts 364 = .ok (.bipush (-10), 2) := by decide +kernel
theorem dL_acts_366 : decode cL_acts 366 = .ok (.aload_n 3, 1) := by decide +kernel
theorem dL_acts_367 : decode cL_acts 367 = .ok (.aload 5, 2) := by decide +kernel
theorem dL_acts_369 : decode cL_acts 369 = .ok (.iload 8, 2) := by decide +kernel
theorem dL_acts_371 : decode cL_acts 371 = .ok (.invokestatic 22, 3) := by decide +kernel
theorem dL_acts_374 : decode cL_acts 374 = .ok (.iload 11, 2) := by decide +kernel
theorem dL_acts_376 : decode cL_acts 376 = .ok (.if_icmp .ge 7, 3) := by decide +kernel
theorem dL_acts_379 : decode cL_acts 379 = .ok (.iconst 1, 1) := by decide +kernel
theorem dL_acts_380 : decode cL_acts 380 = .ok (.goto 4, 3) := by decide +kernel
theorem dL_acts_383 : decode cL_acts 383 = .ok (.iconst 2, 1) := by decide +kernel
theorem dL_acts_384 : decode cL_acts 384 = .ok (.isub, 1) := by decide +kernel
theorem dL_acts_385 : decode cL_acts 385 = .ok (.if_icmp .ne 7, 3) := by decide +kernel
theorem dL_acts_388 : decode cL_acts 388 = .ok (.iconst 1, 1) := by decide +kernel
theorem dL_acts_389 : decode cL_acts 389 = .ok (.goto 4, 3) := by decide +kernel
theorem dL_acts_392 : decode cL_acts 392 = .ok (.iconst 0, 1) := by decide +kernel
theorem dL_acts_393 : decode cL_acts 393 = .ok (.ireturn, 1) := by decide +kernel
theorem dL_acts_394 : decode cL_acts 394 = .ok (.aload_n 0, 1) := by decide +kernel
theorem dL_acts_395 : decode cL_acts 395 = .ok (.iload 8, 2) := by decide +kernel
theorem dL_acts_397 : decode cL_acts 397 = .ok (.iload 11, 2) := by decide +kernel
theorem dL_acts_399 : decode cL_acts 399 = .ok (.invokevirtual 114, 3) := by decide +kernel
theorem dL_acts_402 : decode cL_acts 402 = .ok (.aload_n 2, 1) := by decide +kernel
theorem dL_acts_403 : decode cL_acts 403 = .ok (.aload_n 3, 1) := by decide +kernel
theorem dL_acts_404 : decode cL_acts 404 = .ok (.aload 5, 2) := by decide +kernel
theorem dL_acts_406 : decode cL_acts 406 = .ok (.iload 8, 2) := by decide +kernel
theorem dL_acts_408 : decode cL_acts 408 = .ok (.iload 11, 2) := by decide +kernel
theorem dL_acts_410 : decode cL_acts 410 = .ok (.invokestatic 65, 3) := by decide +kernel
theorem dL_acts_413 : decode cL_acts 413 = .ok (.if_icmp .ne 7, 3) := by decide +kernel
theorem dL_acts_416 : decode cL_acts 416 = .ok (.iconst 1, 1) := by decide +kernel
theorem dL_acts_417 : decode cL_acts 417 = .ok (.goto 4, 3) := by decide +kernel
theorem dL_acts_420 : decode cL_acts 420 = .ok (.iconst 0, 1) := by decide +kernel
theorem dL_acts_421 : decode cL_acts 421 = .ok (.ireturn, 1) := by decide +kernel
theorem dL_acts_422 : decode cL_acts 422 = .ok (.iload 7, 2) := by decide +kernel
theorem dL_acts_424 : decode cL_acts 424 = .ok (.aload 5, 2) := by decide +kernel
theorem dL_acts_426 : decode cL_acts 426 = .ok (.bipush 13, 2) := by decide +kernel
theorem dL_acts_428 : decode cL_acts 428 = .ok (.iaload, 1) := by decide +kernel
theorem dL_acts_429 : decode cL_acts 429 = .ok (.invokestatic 90, 3) := by decide +kernel
theorem dL_acts_432 : decode cL_acts 432 = .ok (.istore 12, 2) := by decide +kernel
theorem dL_acts_434 : decode cL_acts 434 = .ok (.aload_n 3, 1) := by decide +kernel
theorem dL_acts_435 : decode cL_acts 435 = .ok (.iconst 3, 1) := by decide +kernel
theorem dL_acts_436 : decode cL_acts 436 = .ok (.iload 12, 2) := by decide +kernel
theorem dL_acts_438 : decode cL_acts 438 = .ok (.imul, 1) := by decide +kernel
theorem dL_acts_439 : decode cL_acts 439 = .ok (.iaload, 1) := by decide +kernel
theorem dL_acts_440 : decode cL_acts 440 = .ok (.bipush 6, 2) := by decide +kernel
theorem dL_acts_442 : decode cL_acts 442 = .ok (.if_icmp .eq 20, 3) := by decide +kernel
theorem dL_acts_445 : decode cL_acts 445 = .ok (.aload_n 2, 1) := by decide +kernel
theorem dL_acts_446 : decode cL_acts 446 = .ok (.iconst 3, 1) := by decide +kernel
theorem dL_acts_447 : decode cL_acts 447 = .ok (.iload 12, 2) := by decide +kernel
theorem dL_acts_449 : decode cL_acts 449 = .ok (.imul, 1) := by decide +kernel
theorem dL_acts_450 : decode cL_acts 450 = .ok (.iconst 1, 1) := by decide +kernel
theorem dL_acts_451 : decode cL_acts 451 = .ok (.iadd, 1) := by decide +kernel
theorem dL_acts_452 : decode cL_acts 452 = .ok (.iaload, 1) := by decide +kernel
theorem dL_acts_453 : decode cL_acts 453 = .ok (.bipush 9, 2) := by decide +kernel
theorem dL_acts_455 : decode cL_acts 455 = .ok (.if_icmp .ge 7, 3) := by decide +kernel
theorem dL_acts_458 : decode cL_acts 458 = .ok (.iconst 1, 1) := by decide +kernel
theorem dL_acts_459 : decode cL_acts 459 = .ok (.goto 4, 3) := by decide +kernel
theorem dL_acts_462 : decode cL_acts 462 = .ok (.iconst 0, 1) := by decide +kernel
theorem dL_acts_463 : decode cL_acts 463 = .ok (.istore 13, 2) := by decide +kernel
theorem dL_acts_465 : decode cL_acts 465 = .ok (.aload_n 2, 1) := by decide +kernel
theorem dL_acts_466 : decode cL_acts 466 = .ok (.iconst 3, 1) := by decide +kernel
theorem dL_acts_467 : decode cL_acts 467 = .ok (.iload 12, 2) := by decide +kernel
theorem dL_acts_469 : decode cL_acts 469 = .ok (.imul, 1) := by decide +kernel
theorem dL_acts_470 : decode cL_acts 470 = .ok (.dup2, 1) := by decide +kernel
theorem dL_acts_471 : decode cL_acts 471 = .ok (.iaload, 1) := by decide +kernel
theorem dL_acts_472 : decode cL_acts 472 = .ok (.iload 13, 2) := by decide +kernel
theorem dL_acts_474 : decode cL_acts 474 = .ok (.ifCond .eq 16, 3) := by decide +kernel
theorem dL_acts_477 : decode cL_acts 477 = .ok (.aload_n 2, 1) := by decide +kernel
theorem dL_acts_478 : decode cL_acts 478 = .ok (.iconst 3, 1) := by decide +kernel
theorem dL_acts_479 : decode cL_acts 479 = .ok (.iload 12, 2) := by decide +kernel
theorem dL_acts_481 : decode cL_acts 481 = .ok (.imul, 1) := by decide +kernel
theorem dL_acts_482 : decode cL_acts 482 = .ok (.iaload, 1) := by decide +kernel
theorem dL_acts_483 : decode cL_acts 483 = .ok (.ifCond .le 7, 3) := by decide +kernel
theorem dL_acts_486 : decode cL_acts 486 = .ok (.iconst 1, 1) := by decide +kernel
theorem dL_acts_487 : decode cL_acts 487 = .ok (.goto 4, 3) := by decide +kernel
theorem dL_acts_490 : decode cL_acts 490 = .ok (.iconst 0, 1) := by decide +kernel
theorem dL_acts_491 : decode cL_acts 491 = .ok (.isub, 1) := by decide +kernel
theorem dL_acts_492 : decode cL_acts 492 = .ok (.iastore, 1) := by decide +kernel
theorem dL_acts_493 : decode cL_acts 493 = .ok (.aload_n 2, 1) := by decide +kernel
theorem dL_acts_494 : decode cL_acts 494 = .ok (.iconst 3, 1) := by decide +kernel
theorem dL_acts_495 : decode cL_acts 495 = .ok (.iload 12, 2) := by decide +kernel
theorem dL_acts_497 : decode cL_acts 497 = .ok (.imul, 1) := by decide +kernel
theorem dL_acts_498 : decode cL_acts 498 = .ok (.iconst 1, 1) := by decide +kernel
theorem dL_acts_499 : decode cL_acts 499 = .ok (.iadd, 1) := by decide +kernel
theorem dL_acts_500 : decode cL_acts 500 = .ok (.dup2, 1) := by decide +kernel
theorem dL_acts_501 : decode cL_acts 501 = .ok (.iaload, 1) := by decide +kernel
theorem dL_acts_502 : decode cL_acts 502 = .ok (.iload 13, 2) := by decide +kernel
theorem dL_acts_504 : decode cL_acts 504 = .ok (.ifCond .eq 7, 3) := by decide +kernel
theorem dL_acts_507 : decode cL_acts 507 = .ok (.iconst 1, 1) := by decide +kernel
theorem dL_acts_508 : decode cL_acts 508 = .ok (.goto 4, 3) := by decide +kernel
theorem dL_acts_511 : decode cL_acts 511 = .ok (.iconst 0, 1) := by decide +kernel
theorem dL_acts_512 : decode cL_acts 512 = .ok (.iadd, 1) := by decide +kernel
theorem dL_acts_513 : decode cL_acts 513 = .ok (.iastore, 1) := by decide +kernel
theorem dL_acts_514 : decode cL_acts 514 = .ok (.aload_n 0, 1) := by decide +kernel
theorem dL_acts_515 : decode cL_acts 515 = .ok (.iload 12, 2) := by decide +kernel
theorem dL_acts_517 : decode cL_acts 517 = .ok (.invokevirtual 117, 3) := by decide +kernel
theorem dL_acts_520 : decode cL_acts 520 = .ok (.iload 13, 2) := by decide +kernel
theorem dL_acts_522 : decode cL_acts 522 = .ok (.ifCond .eq 14, 3) := by decide +kernel
theorem dL_acts_525 : decode cL_acts 525 = .ok (.aload_n 2, 1) := by decide +kernel
theorem dL_acts_526 : decode cL_acts 526 = .ok (.iconst 3, 1) := by decide +kernel
theorem dL_acts_527 : decode cL_acts 527 = .ok (.iload 12, 2) := by decide +kernel
theorem dL_acts_529 : decode cL_acts 529 = .ok (.imul, 1) := by decide +kernel
theorem dL_acts_530 : decode cL_acts 530 = .ok (.iconst 1, 1) := by decide +kernel
theorem dL_acts_531 : decode cL_acts 531 = .ok (.iadd, 1) := by decide +kernel
theorem dL_acts_532 : decode cL_acts 532 = .ok (.iaload, 1) := by decide +kernel
theorem dL_acts_533 : decode cL_acts 533 = .ok (.goto 5, 3) := by decide +kernel
theorem dL_acts_536 : decode cL_acts 536 = .ok (.bipush (-4), 2) := by decide +kernel
theorem dL_acts_538 : decode cL_acts 538 = .ok (.if_icmp .ne 7, 3) := by decide +kernel
theorem dL_acts_541 : decode cL_acts 541 = .ok (.iconst 1, 1) := by decide +kernel
theorem dL_acts_542 : decode cL_acts 542 = .ok (.goto 4, 3) := by decide +kernel
theorem dL_acts_545 : decode cL_acts 545 = .ok (.iconst 0, 1) := by decide +kernel
theorem dL_acts_546 : decode cL_acts 546 = .ok (.ireturn, 1) := by decide +kernel
theorem dL_acts_547 : decode cL_acts 547 = .ok (.iconst 0, 1) := by decide +kernel
theorem dL_acts_548 : decode cL_acts 548 = .ok (.istore 14, 2) := by decide +kernel
theorem dL_acts_550 : decode cL_acts 550 = .ok (.iconst 1, 1) := by decide +kernel
theorem dL_acts_551 : decode cL_acts 551 = .ok (.iload 7, 2) := by decide +kernel
theorem dL_acts_553 : decode cL_acts 553 = .ok (.iload 7, 2) := by decide +kernel
theorem dL_acts_555 : decode cL_acts 555 = .ok (.bipush 8, 2) := by decide +kernel
theorem dL_acts_557 : decode cL_acts 557 = .ok (.ishr, 1) := by decide +kernel
theorem dL_acts_558 : decode cL_acts 558 = .ok (.iconst 4, 1) := by decide +kernel
theorem dL_acts_559 : decode cL_acts 559 = .ok (.invokestatic 90, 3) := by decide +kernel
theorem dL_acts_562 : decode cL_acts 562 = .ok (.ifCond .ne 8, 3) := by decide +kernel
theorem dL_acts_565 : decode cL_acts 565 = .ok (.bipush 40, 2) := by decide +kernel
theorem dL_acts_567 : decode cL_acts 567 = .ok (.goto 4, 3) := by decide +kernel
theorem dL_acts_570 : decode cL_acts 570 = .ok (.iconst 5, 1) := by decide +kernel
theorem dL_acts_571 : decode cL_acts 571 = .ok (.invokestatic 90, 3) := by decide +kernel
theorem dL_acts_574 : decode cL_acts 574 = .ok (.iadd, 1) := by decide +kernel
theorem dL_acts_575 : decode cL_acts 575 = .ok (.istore 15, 2) := by decide +kernel
theorem dL_acts_577 : decode cL_acts 577 = .ok (.iload 14, 2) := by decide +kernel
theorem dL_acts_579 : decode cL_acts 579 = .ok (.iload 15, 2) := by decide +kernel
theorem dL_acts_581 : decode cL_acts 581 = .ok (.if_icmp .ge 27, 3) := by decide +kernel
theorem dL_acts_584 : decode cL_acts 584 = .ok (.aload 5, 2) := by decide +kernel
theorem dL_acts_586 : decode cL_acts 586 = .ok (.bipush 14, 2) := by decide +kernel
theorem dL_acts_588 : decode cL_acts 588 = .ok (.iaload, 1) := by decide +kernel
theorem dL_acts_589 : decode cL_acts 589 = .ok (.ifCond .le 19, 3) := by decide +kernel
theorem dL_acts_592 : decode cL_acts 592 = .ok (.aload_n 1, 1) := by decide +kernel
theorem dL_acts_593 : decode cL_acts 593 = .ok (.aload_n 2, 1) := by decide +kernel
theorem dL_acts_594 : decode cL_acts 594 = .ok (.aload_n 3, 1) := by decide +kernel
theorem dL_acts_595 : decode cL_acts 595 = .ok (.aload 4, 2) := by decide +kernel
theorem dL_acts_597 : decode cL_acts 597 = .ok (.aload 5, 2) := by decide +kernel
theorem dL_acts_599 : decode cL_acts 599 = .ok (.invokestatic 75, 3) := by decide +kernel
theorem dL_acts_602 : decode cL_acts 602 = .ok (.iinc 14 1, 3) := by decide +kernel
theorem dL_acts_605 : decode cL_acts 605 = .ok (.goto (-28), 3) := by decide +kernel
theorem dL_acts_608 : decode cL_acts 608 = .ok (.aload_n 0, 1) := by decide +kernel
theorem dL_acts_609 : decode cL_acts 609 = .ok (.iload 15, 2) := by decide +kernel
theorem dL_acts_611 : decode cL_acts 611 = .ok (.invokevirtual 120, 3) := by decide +kernel
theorem dL_acts_614 : decode cL_acts 614 = .ok (.iload 14, 2) := by decide +kernel
theorem dL_acts_616 : decode cL_acts 616 = .ok (.ifCond .ne 8, 3) := by decide +kernel
theorem dL_acts_619 : decode cL_acts 619 = .ok (.bipush (-5), 2) := by decide +kernel
theorem dL_acts_621 : decode cL_acts 621 = .ok (.goto 5, 3) := by decide +kernel
theorem dL_acts_624 : decode cL_acts 624 = .ok (.iload 14, 2) := by decide +kernel
theorem dL_acts_626 : decode cL_acts 626 = .ok (.if_icmp .ne 7, 3) := by decide +kernel
theorem dL_acts_629 : decode cL_acts 629 = .ok (.iconst 1, 1) := by decide +kernel
theorem dL_acts_630 : decode cL_acts 630 = .ok (.goto 4, 3) := by decide +kernel
theorem dL_acts_633 : decode cL_acts 633 = .ok (.iconst 0, 1) := by decide +kernel
theorem dL_acts_634 : decode cL_acts 634 = .ok (.ireturn, 1) := by decide +kernel
