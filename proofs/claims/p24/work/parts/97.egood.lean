/-! what the law's calls need of words, by places -/
set_option maxRecDepth 100000 in
theorem wgL_acts_h : GoodIn wsL_law [Cond.code yL_acts cL_acts 16 (some .boolean)] := goodIn_sub (fun w h => by rw [List.mem_singleton.mp h]; exact List.mem_of_getElem? (i := 371) rfl) rfl
set_option maxRecDepth 20000 in
theorem wgL_acts_r1 : GoodIn wsL_law wsL_acts_r1 := goodIn_r _ [354, 355, 108, 356, 357, 261, 262, 263, 264, 265, 266, 2, 267, 13, 186, 268, 269, 270, 271, 17, 29, 114, 179, 272] (by decide +kernel) (by decide +kernel)
set_option maxRecDepth 20000 in
theorem wgL_acts_r2 : GoodIn wsL_law wsL_acts_r2 := goodIn_r _ [25, 273, 274, 275, 16, 276, 49, 48, 50, 277, 278, 279, 280, 281, 43, 44, 45, 46, 47, 282, 283, 284, 285, 286] (by decide +kernel) (by decide +kernel)
set_option maxRecDepth 20000 in
theorem wgL_acts_r3 : GoodIn wsL_law wsL_acts_r3 := goodIn_r _ [287, 288, 289, 290, 291, 292, 293, 294, 295, 296, 297, 298, 299, 300, 301, 24, 302, 63, 62, 303, 304, 305, 306, 307] (by decide +kernel) (by decide +kernel)
set_option maxRecDepth 20000 in
theorem wgL_acts_r4 : GoodIn wsL_law wsL_acts_r4 := goodIn_r _ [308, 309, 28, 310, 70, 74, 81, 311, 312, 313, 314, 82, 83, 84, 85, 86, 315, 316, 317, 69, 318, 96, 90, 319] (by decide +kernel) (by decide +kernel)
set_option maxRecDepth 20000 in
theorem wgL_acts_r5 : GoodIn wsL_law wsL_acts_r5 := goodIn_r _ [91, 92, 93, 94, 95, 320, 321, 322, 73, 323, 100, 324, 101, 102, 103, 104, 105, 325, 326, 327, 328, 329, 149, 330] (by decide +kernel) (by decide +kernel)
set_option maxRecDepth 20000 in
theorem wgL_acts_r6 : GoodIn wsL_law wsL_acts_r6 := goodIn_r _ [144, 331, 142, 332, 141, 333, 334, 335, 336, 337, 338, 339, 340, 341, 342, 343, 344, 345, 346, 347, 348, 349, 350, 351] (by decide +kernel) (by decide +kernel)
set_option maxRecDepth 20000 in
theorem wgL_acts_r7 : GoodIn wsL_law wsL_acts_r7 := goodIn_r _ [352, 353, 159, 160, 358, 359, 360, 361, 362, 363, 364, 12, 365, 38, 37, 366, 367, 368, 372, 373, 374, 375, 376, 377] (by decide +kernel) (by decide +kernel)
set_option maxRecDepth 20000 in
theorem wgL_acts_r8 : GoodIn wsL_law wsL_acts_r8 := goodIn_r _ [378, 177, 379, 380, 381, 382, 383, 384, 385, 386, 387, 164, 165, 166, 388, 389, 390, 391, 120, 178, 392, 393, 394, 395] (by decide +kernel) (by decide +kernel)
set_option maxRecDepth 20000 in
theorem wgL_acts_r9 : GoodIn wsL_law wsL_acts_r9 := goodIn_r _ [396, 397, 398, 399, 400, 401, 402, 403, 404, 405, 406, 203, 407, 408, 409, 410, 411, 251, 252, 253, 240, 241, 242, 254] (by decide +kernel) (by decide +kernel)
set_option maxRecDepth 20000 in
theorem wgL_acts_r10 : GoodIn wsL_law wsL_acts_r10 := goodIn_r _ [255, 256, 412, 413, 414, 415, 21, 416, 417, 418, 204, 205, 206, 20, 207, 56, 208, 209, 210, 211, 212, 213, 214, 215] (by decide +kernel) (by decide +kernel)
set_option maxRecDepth 20000 in
theorem wgL_acts_r11 : GoodIn wsL_law wsL_acts_r11 := goodIn_r _ [216, 55, 54, 419, 226, 227, 228, 229, 230, 231, 232, 420, 421, 422, 423, 198, 424, 425, 426, 427, 428, 200, 201, 202] (by decide +kernel) (by decide +kernel)
set_option maxRecDepth 20000 in
theorem wgL_acts_r12 : GoodIn wsL_law wsL_acts_r12 := goodIn_r _ [429, 248, 249, 250, 430, 126, 127, 128, 431, 432, 433, 434, 170, 171, 172, 435, 436, 437, 438, 439, 440, 441, 121, 119] (by decide +kernel) (by decide +kernel)
set_option maxRecDepth 20000 in
theorem wgL_acts_r13 : GoodIn wsL_law wsL_acts_r13 := goodIn_r _ [125, 442, 443, 444, 445, 446, 447, 448, 161, 162, 163, 167, 168, 169, 449, 450, 451, 452, 453, 454, 455, 456, 457, 458] (by decide +kernel) (by decide +kernel)
set_option maxRecDepth 20000 in
theorem wgL_acts_r14 : GoodIn wsL_law wsL_acts_r14 := goodIn_r _ [459, 460, 461, 462, 138, 139, 140, 143, 145, 146, 147, 148, 150, 151, 152, 153, 154, 155, 156, 157, 158, 463, 464, 465] (by decide +kernel) (by decide +kernel)
set_option maxRecDepth 20000 in
theorem wgL_acts_r15 : GoodIn wsL_law wsL_acts_r15 := goodIn_r _ [466, 467, 468, 469, 470, 471, 472, 473, 474, 475] (by decide +kernel) (by decide +kernel)
theorem ggL_law_L_acts : GoodIn wsL_law wsL_acts := goodIn_app (a := [Cond.code yL_acts cL_acts 16 (some .boolean)]) wgL_acts_h (goodIn_app (goodIn_app (goodIn_app (goodIn_app (goodIn_app (goodIn_app (goodIn_app (goodIn_app (goodIn_app wgL_acts_r1 (goodIn_app wgL_acts_r2 (goodIn_app wgL_acts_r3 (goodIn_app wgL_acts_r4 (goodIn_app wgL_acts_r5 (goodIn_app wgL_acts_r6 (goodIn_app wgL_acts_r7 (goodIn_app wgL_acts_r8 (goodIn_app wgL_acts_r9 (goodIn_app wgL_acts_r10 (goodIn_app wgL_acts_r11 (goodIn_app wgL_acts_r12 (goodIn_app wgL_acts_r13 (goodIn_app wgL_acts_r14 wgL_acts_r15)))))))))))))) (goodIn_sub inlX7 (by decide +kernel))) (goodIn_sub inlX6 (by decide +kernel))) (goodIn_sub inlX5 (by decide +kernel))) (goodIn_sub inlX1 (by decide +kernel))) (goodIn_sub inlX0 (by decide +kernel))) (goodIn_sub inlX2 (by decide +kernel))) (goodIn_sub inlX4 (by decide +kernel))) (goodIn_sub inlX3 (by decide +kernel)))
set_option maxRecDepth 20000 in
theorem gL_law_L_acts : GoodIn wsL_law (va_wsS RL 136 yL_acts wsL_acts) := goodIn_app (goodIn_of _ (by decide +kernel)) ggL_law_L_acts
