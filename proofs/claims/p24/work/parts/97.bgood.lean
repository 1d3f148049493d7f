/-! what the law's calls need of words, by places -/
set_option maxRecDepth 100000 in
theorem wgL_areButtons_h : GoodIn wsL_law [Cond.code yL_areButtons cL_areButtons 11 (some .boolean)] := goodIn_sub (fun w h => by rw [List.mem_singleton.mp h]; exact List.mem_of_getElem? (i := 109) rfl) rfl
set_option maxRecDepth 20000 in
theorem wgL_areButtons_r1 : GoodIn wsL_law wsL_areButtons_r1 := goodIn_r _ [110, 111, 112, 2, 113, 29, 114, 115, 116, 117, 118, 119, 120, 121, 122, 123, 124, 125, 126, 127, 69, 128, 96, 129] (by decide +kernel) (by decide +kernel)
set_option maxRecDepth 20000 in
theorem wgL_areButtons_r2 : GoodIn wsL_law wsL_areButtons_r2 := goodIn_r _ [130, 131, 73, 132, 104, 103, 133, 134, 135, 136, 137, 138, 139, 28, 140, 70, 141, 81, 142, 74, 143, 144, 145, 146] (by decide +kernel) (by decide +kernel)
set_option maxRecDepth 20000 in
theorem wgL_areButtons_r3 : GoodIn wsL_law wsL_areButtons_r3 := goodIn_r _ [147, 148, 149, 150, 151, 152, 153, 154, 155, 156, 157, 158, 159, 160, 161, 162, 108, 163, 164, 165, 166, 167, 168, 169] (by decide +kernel) (by decide +kernel)
set_option maxRecDepth 20000 in
theorem wgL_areButtons_r4 : GoodIn wsL_law wsL_areButtons_r4 := goodIn_r _ [170, 171, 172, 173, 174, 175, 176, 177, 178, 179, 180, 181, 182, 183, 184, 25, 185, 13, 186, 187, 188, 189, 190, 93] (by decide +kernel) (by decide +kernel)
theorem ggL_law_L_areButtons : GoodIn wsL_law wsL_areButtons := goodIn_app (a := [Cond.code yL_areButtons cL_areButtons 11 (some .boolean)]) wgL_areButtons_h (goodIn_app (goodIn_app (goodIn_app (goodIn_app (goodIn_app (goodIn_app (goodIn_app wgL_areButtons_r1 (goodIn_app wgL_areButtons_r2 (goodIn_app wgL_areButtons_r3 wgL_areButtons_r4))) (goodIn_sub inlX7 (by decide +kernel))) (goodIn_sub inlX5 (by decide +kernel))) (goodIn_sub inlX1 (by decide +kernel))) (goodIn_sub inlX4 (by decide +kernel))) (goodIn_sub inlX2 (by decide +kernel))) (goodIn_sub inlX6 (by decide +kernel)))
set_option maxRecDepth 20000 in
theorem gL_law_L_areButtons : GoodIn wsL_law (va_wsS RL 124 yL_areButtons wsL_areButtons) := goodIn_app (goodIn_of _ (by decide +kernel)) ggL_law_L_areButtons
