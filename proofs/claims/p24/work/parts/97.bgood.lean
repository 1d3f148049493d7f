/-! what the law's calls need of words, by places -/
set_option maxRecDepth 20000 in
theorem ggL_law_L_areBins : GoodIn wsL_law wsL_areBins := goodIn_r _ [193, 194, 195, 196, 2, 197, 21, 29, 198, 177, 199, 200, 201, 202, 203, 159, 160, 204, 205, 206, 20, 207, 56, 208, 209, 210, 211, 212, 213, 214, 215, 216, 55, 54, 217, 218, 219, 220, 221, 222, 223, 224, 225, 226, 227, 228, 229, 230, 231, 232, 233, 234, 235, 236, 237, 238, 239, 170, 171, 108, 172, 240, 241, 242, 243, 244, 245, 246, 247, 248, 249, 250, 251, 252, 253, 254, 255, 256, 507, 508, 509, 510, 511, 512, 513, 514, 525, 526, 527, 530, 531, 532, 533, 534, 535, 536, 537, 538, 539, 540, 541, 542, 543, 544, 545, 546, 547, 548, 549, 550] (by decide +kernel) (by decide +kernel)
set_option maxRecDepth 20000 in
theorem gL_law_L_areBins : GoodIn wsL_law (va_wsS RL 128 yL_areBins wsL_areBins) := goodIn_app (goodIn_of _ (by decide +kernel)) ggL_law_L_areBins
set_option maxRecDepth 20000 in
theorem ggL_law_L_cell : GoodIn wsL_law wsL_cell := goodIn_r _ [259, 260] (by decide +kernel) (by decide +kernel)
set_option maxRecDepth 20000 in
theorem gL_law_L_cell : GoodIn wsL_law (va_wsS RL 132 yL_cell wsL_cell) := goodIn_app (goodIn_of _ (by decide +kernel)) ggL_law_L_cell
set_option maxRecDepth 20000 in
theorem ggL_law_L_comes : GoodIn wsL_law wsL_comes := goodIn_r _ [263, 264, 265, 266, 2, 267, 13, 186, 268, 269, 270, 271, 17, 29, 114, 179, 272, 25, 273, 274, 275, 16, 276, 49, 48, 50, 277, 278, 279, 280, 281, 43, 44, 45, 46, 47, 282, 283, 284, 285, 286, 287, 288, 289, 290, 291, 292, 293, 294, 295, 296, 297, 298, 299, 300, 301, 24, 302, 63, 62, 303, 304, 305, 306, 307, 308, 309, 28, 310, 70, 74, 81, 311, 312, 313, 314, 82, 83, 84, 85, 86, 315, 316, 317, 69, 318, 96, 90, 319, 91, 92, 93, 94, 95, 320, 321, 322, 73, 323, 100, 324, 101, 102, 103, 104, 105, 325, 326, 327, 328, 329, 149, 330, 144, 331, 142, 332, 141, 333, 334, 335, 336, 337, 338, 339, 340, 341, 342, 343, 344, 345, 346, 347, 348, 349, 350, 351, 352, 353, 159, 160, 354, 355, 108, 356, 357, 358, 359, 360, 361, 362, 363, 364, 12, 365, 38, 37, 366, 367, 368, 507, 508, 509, 510, 511, 512, 513, 514, 515, 516, 530, 531, 532, 533, 534, 535, 536, 537, 538, 539, 540, 541, 542, 543, 544, 517, 518, 519, 520, 521, 522, 523, 524, 528, 529, 545, 546, 547, 548, 549, 550] (by decide +kernel) (by decide +kernel)
set_option maxRecDepth 20000 in
theorem gL_law_L_comes : GoodIn wsL_law (va_wsS RL 100 yL_comes wsL_comes) := goodIn_app (goodIn_of _ (by decide +kernel)) ggL_law_L_comes
set_option maxRecDepth 20000 in
theorem ggL_law_L_low : GoodIn wsL_law wsL_low := goodIn_r _ [356, 357] (by decide +kernel) (by decide +kernel)
set_option maxRecDepth 20000 in
theorem gL_law_L_low : GoodIn wsL_law (va_wsS RL 90 yL_low wsL_low) := goodIn_app (goodIn_of _ (by decide +kernel)) ggL_law_L_low
