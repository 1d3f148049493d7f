/-! what the law's calls need of words, by places -/
set_option maxRecDepth 20000 in
theorem ggL_law_X7_init : GoodIn wsL_law wsX7_init := goodIn_r _ [8, 9, 10, 11, 12, 13, 14, 15, 16, 17, 18, 19, 20, 21, 22, 23, 24, 25, 26, 27, 28, 29, 30, 31, 32, 33, 34, 35, 36, 37, 38, 39, 40, 41, 42, 43, 44, 45, 46, 47, 48, 49, 50, 51, 52, 53, 54, 55, 56, 57, 58, 59, 60, 61, 62, 63, 64, 65, 66, 67, 68, 69, 70, 71, 72, 73, 74, 75, 76, 77, 78, 79, 80, 81, 82, 83, 84, 85, 86, 87, 88, 89, 90, 91, 92, 93, 94, 95, 96, 97, 98, 99, 100, 101, 102, 103, 104, 105, 106, 107, 108, 730, 731, 709, 710, 711, 712, 713, 714, 715, 716, 732, 733, 734, 735, 736, 737, 738, 739, 740, 741, 742, 743, 744, 745, 746, 747, 748, 749, 750, 751, 752, 753, 754, 755, 756, 757, 758, 759, 760, 761, 762, 763, 764, 765] (by decide +kernel) (by decide +kernel)
set_option maxRecDepth 20000 in
theorem gL_law_X7_init : GoodIn wsL_law (wsX7_init) := ggL_law_X7_init
set_option maxRecDepth 20000 in
theorem ggL_law_X8_init : GoodIn wsL_law wsX8_init := goodIn_r _ [111, 112, 10, 11, 45, 113, 114, 115, 116, 117, 118, 119, 717, 718, 719, 720, 721, 722, 723, 724, 725, 726, 727, 728, 729] (by decide +kernel) (by decide +kernel)
set_option maxRecDepth 20000 in
theorem gL_law_X8_init : GoodIn wsL_law (wsX8_init) := ggL_law_X8_init
set_option maxRecDepth 20000 in
theorem ggL_law_X7_read : GoodIn wsL_law wsX7_read := goodIn_r _ [123, 19, 31, 124, 125, 126, 27, 127, 128, 129, 18, 130, 52, 51, 53, 131, 132, 133, 134, 135, 46, 47, 48, 49, 50, 136, 137, 138, 139, 140, 141, 142, 143, 144, 145, 146, 147, 148, 149, 150, 151, 152, 153, 154, 155, 26, 156, 66, 65, 157, 158, 159, 160, 161, 162, 163, 30, 164, 73, 77, 84, 165, 166, 167, 168, 85, 86, 87, 88, 89, 169, 170, 171, 72, 172, 99, 93, 173, 94, 95, 96, 97, 98, 174, 175, 176, 76, 177, 103, 178, 104, 105, 106, 107, 108, 179, 180, 181, 182, 183, 184, 185, 186, 187, 188, 189, 190, 191, 192, 193, 194, 195, 196, 197, 198, 199, 200, 201, 202, 203, 204, 205, 206, 207, 208, 209, 210, 2, 211, 212, 213, 709, 710, 711, 712, 713, 714, 715, 716, 745, 746, 747, 748, 749, 750, 751, 752, 753, 754, 755, 756, 757, 758, 759, 732, 733, 734, 735, 736, 737, 738, 739, 730, 731, 743, 744, 760, 761, 762, 763, 764, 765] (by decide +kernel) (by decide +kernel)
set_option maxRecDepth 20000 in
theorem gL_law_X7_read : GoodIn wsL_law (wsV RL 13 RX7 yX7_read wsX7_read) := goodIn_app (goodIn_of _ (by decide +kernel)) ggL_law_X7_read
set_option maxRecDepth 20000 in
theorem ggL_law_X8_read : GoodIn wsL_law wsX8_read := goodIn_r _ [217, 218, 113, 219, 220, 221, 222, 5, 223, 224, 225, 226, 227, 228, 119, 229, 230, 231, 232, 118, 233, 234, 235, 236, 237, 238, 239, 240, 241, 242, 243, 244, 245, 246, 247, 248, 249, 250, 251, 252, 114, 253, 254, 255, 256, 257, 258, 259, 260, 261, 262, 263, 264, 265, 266, 267, 268, 717, 718, 719, 720, 721, 722, 723, 724, 725, 726, 727, 728, 729] (by decide +kernel) (by decide +kernel)
set_option maxRecDepth 20000 in
theorem gL_law_X8_read : GoodIn wsL_law (wsV RL 17 RX8 yX8_read wsX8_read) := goodIn_app (goodIn_of _ (by decide +kernel)) ggL_law_X8_read
set_option maxRecDepth 20000 in
theorem ggL_law_X7_sort : GoodIn wsL_law wsX7_sort := goodIn_r _ [272, 31, 273, 274, 27, 153, 154, 155, 26, 156, 66, 65, 157, 158, 159, 160, 161, 162, 163, 30, 164, 73, 77, 84, 165, 166, 167, 168, 85, 86, 87, 88, 89, 169, 170, 171, 72, 172, 99, 93, 173, 94, 95, 96, 97, 98, 174, 175, 176, 76, 177, 103, 178, 104, 105, 106, 107, 108, 275, 276, 277, 278, 194, 279, 280, 281, 282, 283, 284, 285, 286, 207, 208, 209, 210, 2, 211, 212, 213, 287, 288, 289, 290, 291, 292, 293, 294, 190, 188, 295, 186, 296, 297, 298, 299, 184, 300, 301, 302, 303, 304, 305, 306, 307, 308, 309, 200, 201, 202, 203, 204, 205, 206, 310, 311, 312, 313, 183, 314, 315, 316, 317, 318, 319, 320, 321, 322, 323, 324, 325, 326, 327, 195, 196, 197, 198, 199, 709, 710, 711, 712, 713, 714, 715, 716, 745, 746, 747, 748, 749, 750, 751, 752, 760, 761, 762, 763, 764, 765, 743, 744, 753, 754, 755, 756, 757, 758, 759] (by decide +kernel) (by decide +kernel)
set_option maxRecDepth 20000 in
theorem gL_law_X7_sort : GoodIn wsL_law (wsV RL 18 RX7 yX7_sort wsX7_sort) := goodIn_app (goodIn_of _ (by decide +kernel)) ggL_law_X7_sort
set_option maxRecDepth 20000 in
theorem ggL_law_X8_sort : GoodIn wsL_law wsX8_sort := goodIn_r _ [331, 113, 233, 234, 5, 235, 248, 249, 250, 251, 252, 114, 332, 333, 334, 335, 336, 337, 338, 339, 257, 258, 259, 260, 340, 341, 342, 343, 265, 266, 267, 268, 344, 345, 346, 347, 348, 349, 350, 351, 352, 353, 354, 355, 356, 357, 358, 359, 360, 361, 362, 363, 364, 365, 366, 367, 261, 262, 263, 264, 717, 718, 719, 720, 721, 722, 723, 724, 725, 726, 727, 728, 729] (by decide +kernel) (by decide +kernel)
set_option maxRecDepth 20000 in
theorem gL_law_X8_sort : GoodIn wsL_law (wsV RL 22 RX8 yX8_sort wsX8_sort) := goodIn_app (goodIn_of _ (by decide +kernel)) ggL_law_X8_sort
set_option maxRecDepth 20000 in
theorem ggL_law_X7_letGo : GoodIn wsL_law wsX7_letGo := goodIn_r _ [371, 31, 273, 274, 27, 153, 154, 155, 26, 156, 66, 65, 157, 158, 159, 160, 161, 162, 163, 30, 164, 73, 77, 84, 165, 166, 167, 168, 85, 86, 87, 88, 89, 169, 170, 171, 72, 172, 99, 93, 173, 94, 95, 96, 97, 98, 174, 175, 176, 76, 177, 103, 178, 104, 105, 106, 107, 108, 372, 311, 312, 313, 183, 314, 315, 284, 285, 286, 207, 208, 209, 210, 2, 211, 212, 213, 309, 200, 201, 202, 203, 204, 205, 206, 709, 710, 711, 712, 713, 714, 715, 716, 745, 746, 747, 748, 749, 750, 751, 752, 760, 761, 762, 763, 764, 765, 743, 744, 753, 754, 755, 756, 757, 758, 759] (by decide +kernel) (by decide +kernel)
set_option maxRecDepth 20000 in
theorem gL_law_X7_letGo : GoodIn wsL_law (wsV RL 23 RX7 yX7_letGo wsX7_letGo) := goodIn_app (goodIn_of _ (by decide +kernel)) ggL_law_X7_letGo
set_option maxRecDepth 20000 in
theorem ggL_law_X8_letGo : GoodIn wsL_law wsX8_letGo := goodIn_r _ [376, 344, 345, 346, 5, 347, 113, 336, 337, 338, 339, 248, 249, 250, 251, 252, 114, 348, 349, 350, 351, 265, 266, 267, 268, 257, 258, 259, 260, 717, 718, 719, 720, 721, 722, 723, 724, 725, 726, 727, 728, 729] (by decide +kernel) (by decide +kernel)
set_option maxRecDepth 20000 in
theorem gL_law_X8_letGo : GoodIn wsL_law (wsV RL 26 RX8 yX8_letGo wsX8_letGo) := goodIn_app (goodIn_of _ (by decide +kernel)) ggL_law_X8_letGo
set_option maxRecDepth 20000 in
theorem ggL_law_X7_pour : GoodIn wsL_law wsX7_pour := goodIn_r _ [380, 31, 273, 381, 27, 382, 212, 2, 213, 153, 154, 155, 26, 156, 66, 65, 157, 158, 159, 160, 161, 162, 163, 30, 164, 73, 77, 84, 165, 166, 167, 168, 85, 86, 87, 88, 89, 169, 170, 171, 72, 172, 99, 93, 173, 94, 95, 96, 97, 98, 174, 175, 176, 76, 177, 103, 178, 104, 105, 106, 107, 108, 383, 384, 385, 386, 183, 387, 315, 284, 285, 286, 207, 208, 209, 210, 211, 195, 196, 197, 198, 199, 200, 201, 202, 203, 204, 205, 206, 709, 710, 711, 712, 713, 714, 715, 716, 745, 746, 747, 748, 749, 750, 751, 752, 760, 761, 762, 763, 764, 765, 743, 744, 753, 754, 755, 756, 757, 758, 759] (by decide +kernel) (by decide +kernel)
set_option maxRecDepth 20000 in
theorem gL_law_X7_pour : GoodIn wsL_law (wsV RL 27 RX7 yX7_pour wsX7_pour) := goodIn_app (goodIn_of _ (by decide +kernel)) ggL_law_X7_pour
set_option maxRecDepth 20000 in
theorem ggL_law_X8_pour : GoodIn wsL_law wsX8_pour := goodIn_r _ [391, 113, 392, 393, 5, 394, 233, 234, 235, 360, 361, 362, 363, 364, 365, 366, 367, 336, 337, 338, 339, 248, 249, 250, 251, 252, 114, 261, 262, 263, 264, 265, 266, 267, 268, 257, 258, 259, 260, 717, 718, 719, 720, 721, 722, 723, 724, 725, 726, 727, 728, 729] (by decide +kernel) (by decide +kernel)
set_option maxRecDepth 20000 in
theorem gL_law_X8_pour : GoodIn wsL_law (wsV RL 30 RX8 yX8_pour wsX8_pour) := goodIn_app (goodIn_of _ (by decide +kernel)) ggL_law_X8_pour
set_option maxRecDepth 20000 in
theorem ggL_law_X7_shirt : GoodIn wsL_law wsX7_shirt := goodIn_r _ [398, 23, 31, 399, 27, 382, 212, 2, 213, 400, 401, 402, 403, 404, 405, 22, 406, 59, 407, 408, 409, 410, 411, 412, 413, 414, 415, 58, 57, 416, 417, 418, 419, 420, 421, 422, 423, 424, 425, 426, 427, 428, 153, 154, 155, 26, 156, 66, 65, 157, 158, 159, 160, 161, 162, 163, 30, 164, 73, 77, 84, 165, 166, 167, 168, 85, 86, 87, 88, 89, 169, 170, 171, 72, 172, 99, 93, 173, 94, 95, 96, 97, 98, 174, 175, 176, 76, 177, 103, 178, 104, 105, 106, 107, 108, 429, 430, 431, 432, 192, 190, 433, 434, 435, 436, 437, 438, 439, 440, 287, 288, 289, 290, 315, 284, 285, 286, 207, 208, 209, 210, 211, 441, 442, 443, 444, 203, 204, 205, 206, 709, 710, 711, 712, 713, 714, 715, 716, 745, 746, 747, 748, 749, 750, 751, 752, 740, 741, 742, 753, 754, 755, 756, 757, 758, 759, 760, 761, 762, 763, 764, 765, 743, 744] (by decide +kernel) (by decide +kernel)
set_option maxRecDepth 20000 in
theorem gL_law_X7_shirt : GoodIn wsL_law (wsV RL 31 RX7 yX7_shirt wsX7_shirt) := goodIn_app (goodIn_of _ (by decide +kernel)) ggL_law_X7_shirt
set_option maxRecDepth 20000 in
theorem ggL_law_X8_shirt : GoodIn wsL_law wsX8_shirt := goodIn_r _ [448, 392, 393, 5, 394, 233, 234, 235, 449, 450, 451, 452, 360, 361, 362, 363, 113, 364, 365, 366, 367, 336, 337, 338, 339, 453, 454, 455, 456, 457, 458, 459, 460, 461, 117, 462, 463, 464, 465, 248, 249, 250, 251, 252, 114, 466, 467, 468, 469, 265, 266, 267, 268, 257, 258, 259, 260, 717, 718, 719, 720, 721, 722, 723, 724, 725, 726, 727, 728, 729] (by decide +kernel) (by decide +kernel)
set_option maxRecDepth 20000 in
theorem gL_law_X8_shirt : GoodIn wsL_law (wsV RL 35 RX8 yX8_shirt wsX8_shirt) := goodIn_app (goodIn_of _ (by decide +kernel)) ggL_law_X8_shirt
set_option maxRecDepth 20000 in
theorem ggL_law_X7_polish : GoodIn wsL_law wsX7_polish := goodIn_r _ [473, 31, 124, 273, 474, 475, 27, 476, 288, 289, 72, 290, 99, 153, 154, 155, 26, 156, 66, 65, 157, 158, 159, 160, 161, 162, 163, 30, 164, 73, 77, 84, 165, 166, 167, 168, 85, 86, 87, 88, 89, 169, 170, 171, 172, 93, 173, 94, 95, 96, 97, 98, 174, 175, 176, 76, 177, 103, 178, 104, 105, 106, 107, 108, 477, 478, 479, 480, 709, 710, 711, 712, 713, 714, 715, 716, 745, 746, 747, 748, 749, 750, 751, 752, 760, 761, 762, 763, 764, 765, 753, 754, 755, 756, 757, 758, 759, 743, 744] (by decide +kernel) (by decide +kernel)
set_option maxRecDepth 20000 in
theorem gL_law_X7_polish : GoodIn wsL_law (wsV RL 36 RX7 yX7_polish wsX7_polish) := goodIn_app (goodIn_of _ (by decide +kernel)) ggL_law_X7_polish
set_option maxRecDepth 20000 in
theorem ggL_law_X8_polish : GoodIn wsL_law wsX8_polish := goodIn_r _ [484, 485, 486, 487, 5, 488, 113, 233, 234, 235, 336, 337, 338, 339, 248, 249, 250, 251, 252, 114, 257, 258, 259, 260, 717, 718, 719, 720, 721, 722, 723, 724, 725, 726, 727, 728, 729] (by decide +kernel) (by decide +kernel)
set_option maxRecDepth 20000 in
theorem gL_law_X8_polish : GoodIn wsL_law (wsV RL 39 RX8 yX8_polish wsX8_polish) := goodIn_app (goodIn_of _ (by decide +kernel)) ggL_law_X8_polish
set_option maxRecDepth 20000 in
theorem ggL_law_X7_set : GoodIn wsL_law wsX7_set := goodIn_r _ [492, 31, 399, 27, 493, 494, 2, 495, 496, 497, 498, 499, 500, 30, 501, 84, 153, 154, 155, 26, 156, 66, 65, 157, 158, 159, 160, 161, 162, 163, 164, 73, 77, 165, 166, 167, 168, 85, 86, 87, 88, 89, 169, 170, 171, 72, 172, 99, 93, 173, 94, 95, 96, 97, 98, 174, 175, 176, 76, 177, 103, 178, 104, 105, 106, 107, 108, 709, 710, 711, 712, 713, 714, 715, 716, 745, 746, 747, 748, 749, 750, 751, 752, 743, 744, 753, 754, 755, 756, 757, 758, 759, 760, 761, 762, 763, 764, 765] (by decide +kernel) (by decide +kernel)
set_option maxRecDepth 20000 in
theorem gL_law_X7_set : GoodIn wsL_law (wsV RL 40 RX7 yX7_set wsX7_set) := goodIn_app (goodIn_of _ (by decide +kernel)) ggL_law_X7_set
set_option maxRecDepth 20000 in
theorem ggL_law_X8_set : GoodIn wsL_law wsX8_set := goodIn_r _ [505, 113, 233, 234, 5, 235, 506, 507, 508, 509, 510, 511, 512, 248, 249, 250, 251, 252, 114, 717, 718, 719, 720, 721, 722, 723, 724, 725, 726, 727, 728, 729] (by decide +kernel) (by decide +kernel)
set_option maxRecDepth 20000 in
theorem gL_law_X8_set : GoodIn wsL_law (wsV RL 43 RX8 yX8_set wsX8_set) := goodIn_app (goodIn_of _ (by decide +kernel)) ggL_law_X8_set
set_option maxRecDepth 20000 in
theorem ggL_law_X7_type : GoodIn wsL_law wsX7_type := goodIn_r _ [516, 15, 517, 518, 519, 520, 14, 521, 40, 39, 709, 710, 711, 712, 713, 714, 715, 716, 730, 731] (by decide +kernel) (by decide +kernel)
set_option maxRecDepth 20000 in
theorem gL_law_X7_type : GoodIn wsL_law (wsV RL 44 RX7 yX7_type wsX7_type) := goodIn_app (goodIn_of _ (by decide +kernel)) ggL_law_X7_type
set_option maxRecDepth 20000 in
theorem ggL_law_X8_type : GoodIn wsL_law wsX8_type := goodIn_r _ [525, 224, 118, 717, 718, 719, 720, 721, 722, 723, 724, 725, 726, 727, 728, 729] (by decide +kernel) (by decide +kernel)
set_option maxRecDepth 20000 in
theorem gL_law_X8_type : GoodIn wsL_law (wsV RL 48 RX8 yX8_type wsX8_type) := goodIn_app (goodIn_of _ (by decide +kernel)) ggL_law_X8_type
set_option maxRecDepth 20000 in
theorem ggL_law_X7_clearText : GoodIn wsL_law wsX7_clearText := goodIn_r _ [529, 15, 517, 709, 710, 711, 712, 713, 714, 715, 716, 730, 731] (by decide +kernel) (by decide +kernel)
set_option maxRecDepth 20000 in
theorem gL_law_X7_clearText : GoodIn wsL_law (wsV RL 49 RX7 yX7_clearText wsX7_clearText) := goodIn_app (goodIn_of _ (by decide +kernel)) ggL_law_X7_clearText
set_option maxRecDepth 20000 in
theorem ggL_law_X8_clearText : GoodIn wsL_law wsX8_clearText := goodIn_r _ [533, 224, 717, 718, 719, 720, 721, 722, 723, 724, 725, 726, 727, 728, 729] (by decide +kernel) (by decide +kernel)
set_option maxRecDepth 20000 in
theorem gL_law_X8_clearText : GoodIn wsL_law (wsV RL 52 RX8 yX8_clearText wsX8_clearText) := goodIn_app (goodIn_of _ (by decide +kernel)) ggL_law_X8_clearText
set_option maxRecDepth 20000 in
theorem ggL_law_X7_undo : GoodIn wsL_law wsX7_undo := goodIn_r _ [537, 27, 31, 538, 539, 540, 541, 26, 542, 66, 65, 161, 162, 163, 30, 164, 73, 77, 84, 165, 166, 167, 168, 85, 86, 87, 88, 89, 169, 170, 171, 72, 172, 99, 93, 173, 94, 95, 96, 97, 98, 174, 175, 176, 76, 177, 103, 178, 104, 105, 106, 107, 108, 709, 710, 711, 712, 713, 714, 715, 716, 743, 744, 745, 746, 747, 748, 749, 750, 751, 752, 753, 754, 755, 756, 757, 758, 759, 760, 761, 762, 763, 764, 765] (by decide +kernel) (by decide +kernel)
set_option maxRecDepth 20000 in
theorem gL_law_X7_undo : GoodIn wsL_law (wsV RL 53 RX7 yX7_undo wsX7_undo) := goodIn_app (goodIn_of _ (by decide +kernel)) ggL_law_X7_undo
set_option maxRecDepth 20000 in
theorem ggL_law_X8_undo : GoodIn wsL_law wsX8_undo := goodIn_r _ [546, 252, 113, 114, 717, 718, 719, 720, 721, 722, 723, 724, 725, 726, 727, 728, 729] (by decide +kernel) (by decide +kernel)
set_option maxRecDepth 20000 in
theorem gL_law_X8_undo : GoodIn wsL_law (wsV RL 56 RX8 yX8_undo wsX8_undo) := goodIn_app (goodIn_of _ (by decide +kernel)) ggL_law_X8_undo
set_option maxRecDepth 20000 in
theorem ggL_law_X7_keep : GoodIn wsL_law wsX7_keep := goodIn_r _ [550, 32, 31, 34, 124, 125, 551, 162, 163, 30, 164, 73, 77, 84, 165, 166, 167, 168, 85, 86, 87, 88, 89, 169, 170, 171, 72, 172, 99, 93, 173, 94, 95, 96, 97, 98, 174, 175, 176, 76, 177, 103, 178, 104, 105, 106, 107, 108, 709, 710, 711, 712, 713, 714, 715, 716, 745, 746, 747, 748, 749, 750, 751, 752, 753, 754, 755, 756, 757, 758, 759, 760, 761, 762, 763, 764, 765] (by decide +kernel) (by decide +kernel)
set_option maxRecDepth 20000 in
theorem gL_law_X7_keep : GoodIn wsL_law (wsV RL 57 RX7 yX7_keep wsX7_keep) := goodIn_app (goodIn_of _ (by decide +kernel)) ggL_law_X7_keep
set_option maxRecDepth 20000 in
theorem ggL_law_X8_keep : GoodIn wsL_law wsX8_keep := goodIn_r _ [555, 115, 113, 556, 717, 718, 719, 720, 721, 722, 723, 724, 725, 726, 727, 728, 729] (by decide +kernel) (by decide +kernel)
set_option maxRecDepth 20000 in
theorem gL_law_X8_keep : GoodIn wsL_law (wsV RL 60 RX8 yX8_keep wsX8_keep) := goodIn_app (goodIn_of _ (by decide +kernel)) ggL_law_X8_keep
set_option maxRecDepth 20000 in
theorem ggL_law_X7_restore : GoodIn wsL_law wsX7_restore := goodIn_r _ [560, 34, 27, 31, 32, 124, 125, 153, 154, 155, 26, 156, 66, 65, 157, 158, 159, 160, 161, 162, 163, 30, 164, 73, 77, 84, 165, 166, 167, 168, 85, 86, 87, 88, 89, 169, 170, 171, 72, 172, 99, 93, 173, 94, 95, 96, 97, 98, 174, 175, 176, 76, 177, 103, 178, 104, 105, 106, 107, 108, 551, 709, 710, 711, 712, 713, 714, 715, 716, 745, 746, 747, 748, 749, 750, 751, 752, 753, 754, 755, 756, 757, 758, 759, 743, 744, 760, 761, 762, 763, 764, 765] (by decide +kernel) (by decide +kernel)
set_option maxRecDepth 20000 in
theorem gL_law_X7_restore : GoodIn wsL_law (wsV RL 61 RX7 yX7_restore wsX7_restore) := goodIn_app (goodIn_of _ (by decide +kernel)) ggL_law_X7_restore
set_option maxRecDepth 20000 in
theorem ggL_law_X8_restore : GoodIn wsL_law wsX8_restore := goodIn_r _ [564, 556, 113, 115, 248, 249, 250, 5, 251, 252, 114, 717, 718, 719, 720, 721, 722, 723, 724, 725, 726, 727, 728, 729] (by decide +kernel) (by decide +kernel)
set_option maxRecDepth 20000 in
theorem gL_law_X8_restore : GoodIn wsL_law (wsV RL 64 RX8 yX8_restore wsX8_restore) := goodIn_app (goodIn_of _ (by decide +kernel)) ggL_law_X8_restore
set_option maxRecDepth 20000 in
theorem ggL_law_X7_button : GoodIn wsL_law wsX7_button := goodIn_r _ [568, 31, 124, 569, 570, 571, 572, 475, 273, 474, 573, 574, 575, 476, 288, 289, 72, 290, 99, 576, 577, 578, 76, 579, 107, 106, 709, 710, 711, 712, 713, 714, 715, 716, 745, 746, 747, 748, 749, 750, 751, 752, 753, 754, 755, 756, 757, 758, 759, 760, 761, 762, 763, 764, 765] (by decide +kernel) (by decide +kernel)
set_option maxRecDepth 20000 in
theorem gL_law_X7_button : GoodIn wsL_law (wsV RL 65 RX7 yX7_button wsX7_button) := goodIn_app (goodIn_of _ (by decide +kernel)) ggL_law_X7_button
set_option maxRecDepth 20000 in
theorem ggL_law_X8_button : GoodIn wsL_law wsX8_button := goodIn_r _ [583, 485, 486, 487, 5, 488, 113, 233, 234, 235, 336, 337, 338, 339, 584, 585, 586, 587, 717, 718, 719, 720, 721, 722, 723, 724, 725, 726, 727, 728, 729] (by decide +kernel) (by decide +kernel)
set_option maxRecDepth 20000 in
theorem gL_law_X8_button : GoodIn wsL_law (wsV RL 68 RX8 yX8_button wsX8_button) := goodIn_app (goodIn_of _ (by decide +kernel)) ggL_law_X8_button
set_option maxRecDepth 20000 in
theorem ggL_law_X7_inBin : GoodIn wsL_law wsX7_inBin := goodIn_r _ [591, 23, 31, 382, 212, 2, 213, 403, 404, 405, 22, 406, 59, 407, 408, 409, 410, 411, 412, 413, 414, 415, 58, 57, 592, 438, 439, 440, 709, 710, 711, 712, 713, 714, 715, 716, 740, 741, 742, 745, 746, 747, 748, 749, 750, 751, 752, 753, 754, 755, 756, 757, 758, 759, 760, 761, 762, 763, 764, 765] (by decide +kernel) (by decide +kernel)
set_option maxRecDepth 20000 in
theorem gL_law_X7_inBin : GoodIn wsL_law (wsV RL 69 RX7 yX7_inBin wsX7_inBin) := goodIn_app (goodIn_of _ (by decide +kernel)) ggL_law_X7_inBin
set_option maxRecDepth 20000 in
theorem ggL_law_X8_inBin : GoodIn wsL_law wsX8_inBin := goodIn_r _ [596, 457, 117, 392, 393, 5, 394, 233, 234, 235, 458, 459, 460, 461, 113, 364, 365, 366, 367, 336, 337, 338, 339, 717, 718, 719, 720, 721, 722, 723, 724, 725, 726, 727, 728, 729] (by decide +kernel) (by decide +kernel)
set_option maxRecDepth 20000 in
theorem gL_law_X8_inBin : GoodIn wsL_law (wsV RL 72 RX8 yX8_inBin wsX8_inBin) := goodIn_app (goodIn_of _ (by decide +kernel)) ggL_law_X8_inBin
set_option maxRecDepth 20000 in
theorem ggL_law_X7_bin : GoodIn wsL_law wsX7_bin := goodIn_r _ [600, 23, 31, 428, 399, 601, 434, 435, 436, 382, 212, 2, 213, 403, 404, 405, 22, 406, 59, 407, 408, 409, 410, 411, 412, 413, 414, 415, 58, 57, 602, 603, 604, 605, 606, 607, 608, 609, 610, 417, 418, 419, 420, 421, 422, 423, 611, 612, 613, 614, 615, 616, 617, 709, 710, 711, 712, 713, 714, 715, 716, 740, 741, 742, 745, 746, 747, 748, 749, 750, 751, 752, 753, 754, 755, 756, 757, 758, 759, 760, 761, 762, 763, 764, 765] (by decide +kernel) (by decide +kernel)
set_option maxRecDepth 20000 in
theorem gL_law_X7_bin : GoodIn wsL_law (wsV RL 73 RX7 yX7_bin wsX7_bin) := goodIn_app (goodIn_of _ (by decide +kernel)) ggL_law_X7_bin
set_option maxRecDepth 20000 in
theorem ggL_law_X8_bin : GoodIn wsL_law wsX8_bin := goodIn_r _ [621, 113, 392, 393, 5, 394, 233, 234, 235, 360, 361, 362, 363, 364, 365, 366, 367, 336, 337, 338, 339, 622, 623, 624, 625, 457, 117, 458, 459, 460, 461, 626, 627, 628, 629, 453, 454, 455, 456, 462, 463, 464, 465, 630, 631, 632, 633, 717, 718, 719, 720, 721, 722, 723, 724, 725, 726, 727, 728, 729] (by decide +kernel) (by decide +kernel)
set_option maxRecDepth 20000 in
theorem gL_law_X8_bin : GoodIn wsL_law (wsV RL 76 RX8 yX8_bin wsX8_bin) := goodIn_app (goodIn_of _ (by decide +kernel)) ggL_law_X8_bin
set_option maxRecDepth 20000 in
theorem ggL_law_X7_total : GoodIn wsL_law wsX7_total := goodIn_r _ [637, 31, 399, 273, 274, 124, 125, 638, 639, 640, 641, 642, 27, 538, 15, 517, 643, 644, 645, 72, 646, 99, 96, 709, 710, 711, 712, 713, 714, 715, 716, 745, 746, 747, 748, 749, 750, 751, 752, 760, 761, 762, 763, 764, 765, 753, 754, 755, 756, 757, 758, 759, 743, 744, 730, 731] (by decide +kernel) (by decide +kernel)
set_option maxRecDepth 20000 in
theorem gL_law_X7_total : GoodIn wsL_law (wsV RL 77 RX7 yX7_total wsX7_total) := goodIn_app (goodIn_of _ (by decide +kernel)) ggL_law_X7_total
set_option maxRecDepth 20000 in
theorem ggL_law_X8_total : GoodIn wsL_law wsX8_total := goodIn_r _ [650, 113, 252, 224, 233, 234, 5, 235, 344, 345, 346, 347, 336, 337, 338, 339, 651, 652, 653, 654, 717, 718, 719, 720, 721, 722, 723, 724, 725, 726, 727, 728, 729] (by decide +kernel) (by decide +kernel)
set_option maxRecDepth 20000 in
theorem gL_law_X8_total : GoodIn wsL_law (wsV RL 80 RX8 yX8_total wsX8_total) := goodIn_app (goodIn_of _ (by decide +kernel)) ggL_law_X8_total
set_option maxRecDepth 20000 in
theorem ggL_law_X7_goesTo : GoodIn wsL_law wsX7_goesTo := goodIn_r _ [658, 31, 124, 273, 474, 476, 288, 289, 72, 290, 99, 659, 292, 293, 30, 294, 73, 190, 84, 188, 77, 295, 186, 296, 297, 298, 299, 184, 300, 301, 302, 303, 304, 305, 306, 307, 308, 212, 2, 213, 709, 710, 711, 712, 713, 714, 715, 716, 745, 746, 747, 748, 749, 750, 751, 752, 760, 761, 762, 763, 764, 765, 753, 754, 755, 756, 757, 758, 759] (by decide +kernel) (by decide +kernel)
set_option maxRecDepth 20000 in
theorem gL_law_X7_goesTo : GoodIn wsL_law (wsV RL 81 RX7 yX7_goesTo wsX7_goesTo) := goodIn_app (goodIn_of _ (by decide +kernel)) ggL_law_X7_goesTo
set_option maxRecDepth 20000 in
theorem ggL_law_X8_goesTo : GoodIn wsL_law wsX8_goesTo := goodIn_r _ [663, 113, 485, 486, 487, 5, 488, 233, 234, 235, 336, 337, 338, 339, 340, 341, 342, 343, 344, 345, 346, 347, 356, 357, 358, 359, 352, 353, 354, 355, 360, 361, 362, 363, 364, 365, 366, 367, 717, 718, 719, 720, 721, 722, 723, 724, 725, 726, 727, 728, 729] (by decide +kernel) (by decide +kernel)
set_option maxRecDepth 20000 in
theorem gL_law_X8_goesTo : GoodIn wsL_law (wsV RL 84 RX8 yX8_goesTo wsX8_goesTo) := goodIn_app (goodIn_of _ (by decide +kernel)) ggL_law_X8_goesTo
set_option maxRecDepth 20000 in
theorem ggL_law_X7_reason : GoodIn wsL_law wsX7_reason := goodIn_r _ [667, 23, 31, 382, 212, 2, 213, 400, 401, 402, 403, 404, 405, 22, 406, 59, 407, 408, 409, 410, 411, 412, 413, 414, 415, 58, 57, 424, 425, 426, 427, 428, 399, 416, 417, 418, 419, 420, 421, 422, 423, 709, 710, 711, 712, 713, 714, 715, 716, 740, 741, 742, 745, 746, 747, 748, 749, 750, 751, 752, 753, 754, 755, 756, 757, 758, 759, 760, 761, 762, 763, 764, 765] (by decide +kernel) (by decide +kernel)
set_option maxRecDepth 20000 in
theorem gL_law_X7_reason : GoodIn wsL_law (wsV RL 85 RX7 yX7_reason wsX7_reason) := goodIn_app (goodIn_of _ (by decide +kernel)) ggL_law_X7_reason
set_option maxRecDepth 20000 in
theorem ggL_law_X8_reason : GoodIn wsL_law wsX8_reason := goodIn_r _ [671, 392, 393, 5, 394, 233, 234, 235, 449, 450, 451, 452, 360, 361, 362, 363, 113, 364, 365, 366, 367, 336, 337, 338, 339, 453, 454, 455, 456, 457, 458, 459, 460, 461, 117, 462, 463, 464, 465, 717, 718, 719, 720, 721, 722, 723, 724, 725, 726, 727, 728, 729] (by decide +kernel) (by decide +kernel)
set_option maxRecDepth 20000 in
theorem gL_law_X8_reason : GoodIn wsL_law (wsV RL 88 RX8 yX8_reason wsX8_reason) := goodIn_app (goodIn_of _ (by decide +kernel)) ggL_law_X8_reason
set_option maxRecDepth 20000 in
theorem ggL_law_X7_leastSpread : GoodIn wsL_law wsX7_leastSpread := goodIn_r _ [675, 23, 31, 428, 382, 212, 2, 213, 400, 401, 402, 403, 404, 405, 22, 406, 59, 407, 408, 409, 410, 411, 412, 413, 414, 415, 58, 57, 611, 612, 613, 614, 615, 616, 435, 617, 420, 421, 422, 423, 709, 710, 711, 712, 713, 714, 715, 716, 740, 741, 742, 745, 746, 747, 748, 749, 750, 751, 752, 753, 754, 755, 756, 757, 758, 759, 760, 761, 762, 763, 764, 765] (by decide +kernel) (by decide +kernel)
set_option maxRecDepth 20000 in
theorem gL_law_X7_leastSpread : GoodIn wsL_law (wsV RL 89 RX7 yX7_leastSpread wsX7_leastSpread) := goodIn_app (goodIn_of _ (by decide +kernel)) ggL_law_X7_leastSpread
set_option maxRecDepth 20000 in
theorem ggL_law_X8_leastSpread : GoodIn wsL_law wsX8_leastSpread := goodIn_r _ [679, 457, 392, 393, 5, 394, 233, 234, 235, 458, 459, 460, 461, 113, 117, 364, 365, 366, 367, 336, 337, 338, 339, 462, 463, 464, 465, 717, 718, 719, 720, 721, 722, 723, 724, 725, 726, 727, 728, 729] (by decide +kernel) (by decide +kernel)
set_option maxRecDepth 20000 in
theorem gL_law_X8_leastSpread : GoodIn wsL_law (wsV RL 92 RX8 yX8_leastSpread wsX8_leastSpread) := goodIn_app (goodIn_of _ (by decide +kernel)) ggL_law_X8_leastSpread
set_option maxRecDepth 20000 in
theorem ggL_law_X7_shirts : GoodIn wsL_law wsX7_shirts := goodIn_r _ [683, 23, 31, 399, 400, 401, 2, 402, 403, 404, 405, 22, 406, 59, 407, 408, 409, 410, 411, 412, 413, 414, 415, 58, 57, 684, 685, 686, 687, 420, 421, 422, 423, 709, 710, 711, 712, 713, 714, 715, 716, 745, 746, 747, 748, 749, 750, 751, 752, 740, 741, 742, 753, 754, 755, 756, 757, 758, 759, 760, 761, 762, 763, 764, 765] (by decide +kernel) (by decide +kernel)
set_option maxRecDepth 20000 in
theorem gL_law_X7_shirts : GoodIn wsL_law (wsV RL 93 RX7 yX7_shirts wsX7_shirts) := goodIn_app (goodIn_of _ (by decide +kernel)) ggL_law_X7_shirts
set_option maxRecDepth 20000 in
theorem ggL_law_X8_shirts : GoodIn wsL_law wsX8_shirts := goodIn_r _ [691, 113, 116, 233, 234, 5, 235, 692, 693, 694, 695, 453, 454, 455, 456, 457, 458, 459, 460, 461, 117, 364, 365, 366, 367, 336, 337, 338, 339, 462, 463, 464, 465, 466, 467, 468, 469, 265, 266, 267, 268, 257, 258, 259, 260, 696, 697, 698, 699, 717, 718, 719, 720, 721, 722, 723, 724, 725, 726, 727, 728, 729] (by decide +kernel) (by decide +kernel)
set_option maxRecDepth 20000 in
theorem gL_law_X8_shirts : GoodIn wsL_law (wsV RL 96 RX8 yX8_shirts wsX8_shirts) := goodIn_app (goodIn_of _ (by decide +kernel)) ggL_law_X8_shirts
set_option maxRecDepth 20000 in
theorem ggL_law_X7_ifMesh : GoodIn wsL_law wsX7_ifMesh := goodIn_r _ [703, 31, 33, 399, 273, 274, 493, 494, 2, 495, 496, 497, 704, 210, 211, 498, 499, 500, 30, 501, 84, 551, 162, 163, 164, 73, 77, 165, 166, 167, 168, 85, 86, 87, 88, 89, 169, 170, 171, 72, 172, 99, 93, 173, 94, 95, 96, 97, 98, 174, 175, 176, 76, 177, 103, 178, 104, 105, 106, 107, 108, 275, 276, 277, 278, 194, 279, 280, 281, 282, 283, 284, 285, 286, 207, 208, 209, 212, 213, 287, 288, 289, 290, 291, 292, 293, 294, 190, 188, 295, 186, 296, 297, 298, 299, 184, 300, 301, 302, 303, 304, 305, 306, 307, 308, 309, 200, 201, 202, 203, 204, 205, 206, 310, 311, 312, 313, 183, 314, 315, 316, 317, 318, 319, 320, 321, 322, 323, 324, 325, 326, 327, 195, 196, 197, 198, 199, 709, 710, 711, 712, 713, 714, 715, 716, 745, 746, 747, 748, 749, 750, 751, 752, 760, 761, 762, 763, 764, 765, 753, 754, 755, 756, 757, 758, 759] (by decide +kernel) (by decide +kernel)
set_option maxRecDepth 20000 in
theorem gL_law_X7_ifMesh : GoodIn wsL_law (wsV RL 97 RX7 yX7_ifMesh wsX7_ifMesh) := goodIn_app (goodIn_of _ (by decide +kernel)) ggL_law_X7_ifMesh
set_option maxRecDepth 20000 in
theorem ggL_law_X8_ifMesh : GoodIn wsL_law wsX8_ifMesh := goodIn_r _ [708, 113, 233, 234, 5, 235, 509, 510, 511, 512, 692, 693, 694, 695, 116, 332, 333, 334, 335, 336, 337, 338, 339, 257, 258, 259, 260, 340, 341, 342, 343, 265, 266, 267, 268, 344, 345, 346, 347, 348, 349, 350, 351, 352, 353, 354, 355, 356, 357, 358, 359, 360, 361, 362, 363, 364, 365, 366, 367, 261, 262, 263, 264, 696, 697, 698, 699, 717, 718, 719, 720, 721, 722, 723, 724, 725, 726, 727, 728, 729] (by decide +kernel) (by decide +kernel)
set_option maxRecDepth 20000 in
theorem gL_law_X8_ifMesh : GoodIn wsL_law (wsV RL 101 RX8 yX8_ifMesh wsX8_ifMesh) := goodIn_app (goodIn_of _ (by decide +kernel)) ggL_law_X8_ifMesh
