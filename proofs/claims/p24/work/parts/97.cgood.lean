/-! what the law's calls need of words, by places -/
set_option maxRecDepth 100000 in
theorem wgL_areBins_h : GoodIn wsL_law [Cond.code yL_areBins cL_areBins 14 (some .boolean)] := goodIn_sub (fun w h => by rw [List.mem_singleton.mp h]; exact List.mem_of_getElem? (i := 193) rfl) rfl
set_option maxRecDepth 20000 in
theorem wgL_areBins_r1 : GoodIn wsL_law wsL_areBins_r1 := goodIn_r _ [194, 195, 196, 2, 197, 21, 29, 198, 177, 199, 200, 201, 202, 203, 159, 160, 204, 205, 206, 20, 207, 56, 208, 209] (by decide +kernel) (by decide +kernel)
set_option maxRecDepth 20000 in
theorem wgL_areBins_r2 : GoodIn wsL_law wsL_areBins_r2 := goodIn_r _ [210, 211, 212, 213, 214, 215, 216, 55, 54, 217, 218, 219, 220, 221, 222, 223, 224, 225, 226, 227, 228, 229, 230, 231] (by decide +kernel) (by decide +kernel)
set_option maxRecDepth 20000 in
theorem wgL_areBins_r3 : GoodIn wsL_law wsL_areBins_r3 := goodIn_r _ [232, 233, 234, 235, 236, 237, 238, 239, 170, 171, 108, 172, 240, 241, 242, 243, 244, 245, 246, 247, 248, 249, 250, 251] (by decide +kernel) (by decide +kernel)
set_option maxRecDepth 20000 in
theorem wgL_areBins_r4 : GoodIn wsL_law wsL_areBins_r4 := goodIn_r _ [252, 253, 254, 255, 256] (by decide +kernel) (by decide +kernel)
theorem ggL_law_L_areBins : GoodIn wsL_law wsL_areBins := goodIn_app (a := [Cond.code yL_areBins cL_areBins 14 (some .boolean)]) wgL_areBins_h (goodIn_app (goodIn_app (goodIn_app (goodIn_app (goodIn_app (goodIn_app wgL_areBins_r1 (goodIn_app wgL_areBins_r2 (goodIn_app wgL_areBins_r3 wgL_areBins_r4))) (goodIn_sub inlX7 (by decide +kernel))) (goodIn_sub inlX3 (by decide +kernel))) (goodIn_sub inlX5 (by decide +kernel))) (goodIn_sub inlX1 (by decide +kernel))) (goodIn_sub inlX4 (by decide +kernel)))
set_option maxRecDepth 20000 in
theorem gL_law_L_areBins : GoodIn wsL_law (va_wsS RL 128 yL_areBins wsL_areBins) := goodIn_app (goodIn_of _ (by decide +kernel)) ggL_law_L_areBins
set_option maxRecDepth 20000 in
theorem ggL_law_L_cell : GoodIn wsL_law wsL_cell := goodIn_r _ [259, 260] (by decide +kernel) (by decide +kernel)
set_option maxRecDepth 20000 in
theorem gL_law_L_cell : GoodIn wsL_law (va_wsS RL 132 yL_cell wsL_cell) := goodIn_app (goodIn_of _ (by decide +kernel)) ggL_law_L_cell
set_option maxRecDepth 20000 in
theorem ggL_law_L_low : GoodIn wsL_law wsL_low := goodIn_r _ [356, 357] (by decide +kernel) (by decide +kernel)
set_option maxRecDepth 20000 in
theorem gL_law_L_low : GoodIn wsL_law (va_wsS RL 90 yL_low wsL_low) := goodIn_app (goodIn_of _ (by decide +kernel)) ggL_law_L_low
set_option maxRecDepth 100000 in
theorem wgL_isSpread_h : GoodIn wsL_law [Cond.code yL_isSpread cL_isSpread 9 (some .boolean)] := goodIn_sub (fun w h => by rw [List.mem_singleton.mp h]; exact List.mem_of_getElem? (i := 478) rfl) rfl
set_option maxRecDepth 20000 in
theorem wgL_isSpread_r1 : GoodIn wsL_law wsL_isSpread_r1 := goodIn_r _ [240, 241, 108, 242, 254, 255, 256, 170, 171, 172, 479, 480, 481, 2, 482, 21, 29, 198, 203, 159, 160, 416, 417, 418] (by decide +kernel) (by decide +kernel)
set_option maxRecDepth 20000 in
theorem wgL_isSpread_r2 : GoodIn wsL_law wsL_isSpread_r2 := goodIn_r _ [204, 205, 206, 20, 207, 56, 208, 209, 210, 211, 212, 213, 214, 215, 216, 55, 54, 233, 234, 235, 236, 237, 238, 201] (by decide +kernel) (by decide +kernel)
set_option maxRecDepth 20000 in
theorem wgL_isSpread_r3 : GoodIn wsL_law wsL_isSpread_r3 := goodIn_r _ [239, 229, 230, 231, 232, 483, 484, 485, 486, 420, 421, 422, 423, 177, 419, 226, 227, 228] (by decide +kernel) (by decide +kernel)
theorem ggL_law_L_isSpread : GoodIn wsL_law wsL_isSpread := goodIn_app (a := [Cond.code yL_isSpread cL_isSpread 9 (some .boolean)]) wgL_isSpread_h (goodIn_app (goodIn_app (goodIn_app (goodIn_app (goodIn_app (goodIn_app wgL_isSpread_r1 (goodIn_app wgL_isSpread_r2 wgL_isSpread_r3)) (goodIn_sub inlX7 (by decide +kernel))) (goodIn_sub inlX3 (by decide +kernel))) (goodIn_sub inlX5 (by decide +kernel))) (goodIn_sub inlX1 (by decide +kernel))) (goodIn_sub inlX4 (by decide +kernel)))
set_option maxRecDepth 20000 in
theorem gL_law_L_isSpread : GoodIn wsL_law (va_wsS RL 139 yL_isSpread wsL_isSpread) := goodIn_app (goodIn_of _ (by decide +kernel)) ggL_law_L_isSpread
