/-! what the law's calls need of words, by places -/
set_option maxRecDepth 100000 in
theorem wgL_would_h : GoodIn wsL_law [Cond.code yL_would cL_would 16 (some .boolean)] := goodIn_sub (fun w h => by rw [List.mem_singleton.mp h]; exact List.mem_of_getElem? (i := 489) rfl) rfl
set_option maxRecDepth 20000 in
theorem wgL_would_r1 : GoodIn wsL_law wsL_would_r1 := goodIn_r _ [3, 490, 491, 108, 492, 251, 252, 253, 240, 241, 242, 254, 255, 256, 435, 436, 437, 493, 494, 495, 2, 496, 21, 29] (by decide +kernel) (by decide +kernel)
set_option maxRecDepth 20000 in
theorem wgL_would_r2 : GoodIn wsL_law wsL_would_r2 := goodIn_r _ [177, 416, 417, 418, 204, 205, 206, 20, 207, 56, 208, 209, 210, 211, 212, 213, 214, 215, 216, 55, 54, 497, 498, 499] (by decide +kernel) (by decide +kernel)
set_option maxRecDepth 20000 in
theorem wgL_would_r3 : GoodIn wsL_law wsL_would_r3 := goodIn_r _ [500, 229, 230, 231, 232, 501, 502, 503, 504, 31, 120, 178, 379, 380, 381, 382, 383, 505, 352, 353, 384, 385, 386, 28] (by decide +kernel) (by decide +kernel)
set_option maxRecDepth 20000 in
theorem wgL_would_r4 : GoodIn wsL_law wsL_would_r4 := goodIn_r _ [387, 81, 506, 308, 309, 310, 70, 74, 311, 312, 313, 314, 82, 83, 84, 85, 86, 315, 316, 317, 69, 318, 96, 90] (by decide +kernel) (by decide +kernel)
set_option maxRecDepth 20000 in
theorem wgL_would_r5 : GoodIn wsL_law wsL_would_r5 := goodIn_r _ [319, 91, 92, 93, 94, 95, 320, 321, 322, 73, 323, 100, 324, 101, 102, 103, 104, 105, 453, 454, 455, 456, 336, 457] (by decide +kernel) (by decide +kernel)
set_option maxRecDepth 20000 in
theorem wgL_would_r6 : GoodIn wsL_law wsL_would_r6 := goodIn_r _ [458, 459, 460, 461, 398, 399, 400, 349, 350, 351, 159, 160, 430, 126, 127, 128, 462, 138, 139, 140, 141, 142, 143, 144] (by decide +kernel) (by decide +kernel)
set_option maxRecDepth 20000 in
theorem wgL_would_r7 : GoodIn wsL_law wsL_would_r7 := goodIn_r _ [145, 146, 147, 148, 149, 150, 151, 152, 153, 154, 155, 156, 157, 158, 401, 342, 343, 344, 345, 346, 347, 348, 463, 393] (by decide +kernel) (by decide +kernel)
set_option maxRecDepth 20000 in
theorem wgL_would_r8 : GoodIn wsL_law wsL_would_r8 := goodIn_r _ [394, 395, 329, 396, 397, 464, 465, 466, 467, 468, 469, 470, 471, 472, 473, 474, 475, 337, 338, 339, 340, 341, 446, 447] (by decide +kernel) (by decide +kernel)
set_option maxRecDepth 20000 in
theorem wgL_would_r9 : GoodIn wsL_law wsL_would_r9 := goodIn_r _ [448, 161, 162, 163, 164, 165, 166, 167, 168, 169, 170, 171, 172] (by decide +kernel) (by decide +kernel)
theorem ggL_law_L_would : GoodIn wsL_law wsL_would := goodIn_app (a := [Cond.code yL_would cL_would 16 (some .boolean)]) wgL_would_h (goodIn_app (goodIn_app (goodIn_app (goodIn_app (goodIn_app (goodIn_app wgL_would_r1 (goodIn_app wgL_would_r2 (goodIn_app wgL_would_r3 (goodIn_app wgL_would_r4 (goodIn_app wgL_would_r5 (goodIn_app wgL_would_r6 (goodIn_app wgL_would_r7 (goodIn_app wgL_would_r8 wgL_would_r9)))))))) (goodIn_sub inlX7 (by decide +kernel))) (goodIn_sub inlX5 (by decide +kernel))) (goodIn_sub inlX3 (by decide +kernel))) (goodIn_sub inlX1 (by decide +kernel))) (goodIn_sub inlX4 (by decide +kernel)))
set_option maxRecDepth 20000 in
theorem gL_law_L_would : GoodIn wsL_law (va_wsS RL 143 yL_would wsL_would) := goodIn_app (goodIn_of _ (by decide +kernel)) ggL_law_L_would
