/-! what the law's calls need of words, by places -/
set_option maxRecDepth 100000 in
theorem wgL_comes_h : GoodIn wsL_law [Cond.code yL_comes cL_comes 12 (some .boolean)] := goodIn_sub (fun w h => by rw [List.mem_singleton.mp h]; exact List.mem_of_getElem? (i := 263) rfl) rfl
set_option maxRecDepth 20000 in
theorem wgL_comes_r1 : GoodIn wsL_law wsL_comes_r1 := goodIn_r _ [264, 265, 266, 2, 267, 13, 186, 268, 269, 270, 271, 17, 29, 114, 179, 272, 25, 273, 274, 275, 16, 276, 49, 48] (by decide +kernel) (by decide +kernel)
set_option maxRecDepth 20000 in
theorem wgL_comes_r2 : GoodIn wsL_law wsL_comes_r2 := goodIn_r _ [50, 277, 278, 279, 280, 281, 43, 44, 45, 46, 47, 282, 283, 284, 285, 286, 287, 288, 289, 290, 291, 292, 293, 294] (by decide +kernel) (by decide +kernel)
set_option maxRecDepth 20000 in
theorem wgL_comes_r3 : GoodIn wsL_law wsL_comes_r3 := goodIn_r _ [295, 296, 297, 298, 299, 300, 301, 24, 302, 63, 62, 303, 304, 305, 306, 307, 308, 309, 28, 310, 70, 74, 81, 311] (by decide +kernel) (by decide +kernel)
set_option maxRecDepth 20000 in
theorem wgL_comes_r4 : GoodIn wsL_law wsL_comes_r4 := goodIn_r _ [312, 313, 314, 82, 83, 84, 85, 86, 315, 316, 317, 69, 318, 96, 90, 319, 91, 92, 93, 94, 95, 320, 321, 322] (by decide +kernel) (by decide +kernel)
set_option maxRecDepth 20000 in
theorem wgL_comes_r5 : GoodIn wsL_law wsL_comes_r5 := goodIn_r _ [73, 323, 100, 324, 101, 102, 103, 104, 105, 325, 326, 327, 328, 329, 149, 330, 144, 331, 142, 332, 141, 333, 334, 335] (by decide +kernel) (by decide +kernel)
set_option maxRecDepth 20000 in
theorem wgL_comes_r6 : GoodIn wsL_law wsL_comes_r6 := goodIn_r _ [336, 337, 338, 339, 340, 341, 342, 343, 344, 345, 346, 347, 348, 349, 350, 351, 352, 353, 159, 160, 354, 355, 108, 356] (by decide +kernel) (by decide +kernel)
set_option maxRecDepth 20000 in
theorem wgL_comes_r7 : GoodIn wsL_law wsL_comes_r7 := goodIn_r _ [357, 358, 359, 360, 361, 362, 363, 364, 12, 365, 38, 37, 366, 367, 368] (by decide +kernel) (by decide +kernel)
theorem ggL_law_L_comes : GoodIn wsL_law wsL_comes := goodIn_app (a := [Cond.code yL_comes cL_comes 12 (some .boolean)]) wgL_comes_h (goodIn_app (goodIn_app (goodIn_app (goodIn_app (goodIn_app (goodIn_app (goodIn_app (goodIn_app wgL_comes_r1 (goodIn_app wgL_comes_r2 (goodIn_app wgL_comes_r3 (goodIn_app wgL_comes_r4 (goodIn_app wgL_comes_r5 (goodIn_app wgL_comes_r6 wgL_comes_r7)))))) (goodIn_sub inlX7 (by decide +kernel))) (goodIn_sub inlX6 (by decide +kernel))) (goodIn_sub inlX5 (by decide +kernel))) (goodIn_sub inlX1 (by decide +kernel))) (goodIn_sub inlX0 (by decide +kernel))) (goodIn_sub inlX2 (by decide +kernel))) (goodIn_sub inlX4 (by decide +kernel)))
set_option maxRecDepth 20000 in
theorem gL_law_L_comes : GoodIn wsL_law (va_wsS RL 100 yL_comes wsL_comes) := goodIn_app (goodIn_of _ (by decide +kernel)) ggL_law_L_comes
