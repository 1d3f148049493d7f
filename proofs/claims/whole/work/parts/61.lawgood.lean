/-! what the law's calls need of words, by places -/
set_option maxRecDepth 20000 in
theorem ggL_law_X7_init : GoodIn wsL_law wsX7_init := goodIn_r _ [8, 9, 10, 11, 12, 13, 14, 15, 16, 17, 18, 19, 20, 21, 22, 23, 24, 25, 26, 27, 28, 29, 30, 31, 32, 33, 34, 35, 36, 37, 38, 39, 40, 41, 42, 43, 44, 45, 46, 47, 48, 49, 50, 51, 52, 53, 54, 55, 56, 57, 58, 59, 60, 61, 62, 63, 64, 65, 66, 67, 68, 69, 70, 71, 72, 73, 74, 75, 76, 77, 78, 79, 80, 81, 82, 83, 84, 85, 86, 87, 88, 89, 90, 91, 92, 93, 94, 95, 96, 97, 98, 99, 100, 101, 102, 103, 104, 105, 106, 107, 108, 712, 713, 691, 692, 693, 694, 695, 696, 697, 698, 714, 715, 716, 717, 718, 719, 720, 721, 722, 723, 724, 725, 726, 727, 728, 729, 730, 731, 732, 733, 734, 735, 736, 737, 738, 739, 740, 741, 742, 743, 744, 745, 746, 747] (by decide +kernel) (by decide +kernel)
set_option maxRecDepth 20000 in
theorem gL_law_X7_init : GoodIn wsL_law (wsX7_init) := ggL_law_X7_init
set_option maxRecDepth 20000 in
theorem ggL_law_X8_init : GoodIn wsL_law wsX8_init := goodIn_r _ [111, 112, 10, 11, 45, 113, 114, 115, 116, 117, 118, 119, 699, 700, 701, 702, 703, 704, 705, 706, 707, 708, 709, 710, 711] (by decide +kernel) (by decide +kernel)
set_option maxRecDepth 20000 in
theorem gL_law_X8_init : GoodIn wsL_law (wsX8_init) := ggL_law_X8_init
set_option maxRecDepth 20000 in
theorem ggL_law_X7_read : GoodIn wsL_law wsX7_read := goodIn_r _ [123, 19, 31, 124, 125, 126, 27, 127, 128, 129, 18, 130, 52, 51, 53, 131, 132, 133, 134, 135, 46, 47, 48, 49, 50, 136, 137, 138, 139, 140, 141, 142, 143, 144, 145, 146, 147, 148, 149, 150, 151, 152, 153, 154, 155, 26, 156, 66, 65, 157, 158, 159, 160, 161, 162, 163, 30, 164, 73, 77, 165, 84, 166, 167, 168, 169, 85, 86, 87, 88, 89, 170, 171, 172, 72, 173, 99, 93, 174, 94, 95, 96, 97, 98, 175, 176, 177, 76, 178, 103, 179, 104, 105, 106, 107, 108, 180, 181, 182, 183, 184, 185, 186, 187, 188, 189, 190, 191, 192, 193, 194, 195, 196, 197, 198, 199, 200, 201, 202, 691, 692, 693, 694, 695, 696, 697, 698, 727, 728, 729, 730, 731, 732, 733, 734, 735, 736, 737, 738, 739, 740, 741, 714, 715, 716, 717, 718, 719, 720, 721, 712, 713, 725, 726, 742, 743, 744, 745, 746, 747] (by decide +kernel) (by decide +kernel)
set_option maxRecDepth 20000 in
theorem gL_law_X7_read : GoodIn wsL_law (wsV RL 13 RX7 yX7_read wsX7_read) := goodIn_app (goodIn_of _ (by decide +kernel)) ggL_law_X7_read
set_option maxRecDepth 20000 in
theorem ggL_law_X8_read : GoodIn wsL_law wsX8_read := goodIn_r _ [206, 207, 113, 208, 209, 210, 211, 5, 212, 213, 214, 215, 216, 217, 119, 218, 219, 220, 221, 118, 222, 223, 224, 225, 226, 227, 228, 229, 230, 231, 232, 233, 234, 235, 236, 237, 238, 239, 240, 241, 114, 242, 243, 244, 245, 246, 247, 248, 249, 250, 251, 252, 253, 254, 255, 256, 257, 699, 700, 701, 702, 703, 704, 705, 706, 707, 708, 709, 710, 711] (by decide +kernel) (by decide +kernel)
set_option maxRecDepth 20000 in
theorem gL_law_X8_read : GoodIn wsL_law (wsV RL 17 RX8 yX8_read wsX8_read) := goodIn_app (goodIn_of _ (by decide +kernel)) ggL_law_X8_read
set_option maxRecDepth 20000 in
theorem ggL_law_X7_sort : GoodIn wsL_law wsX7_sort := goodIn_r _ [261, 31, 262, 263, 27, 153, 154, 155, 26, 156, 66, 65, 157, 158, 159, 160, 161, 162, 163, 30, 164, 73, 77, 165, 84, 166, 167, 168, 169, 85, 86, 87, 88, 89, 170, 171, 172, 72, 173, 99, 93, 174, 94, 95, 96, 97, 98, 175, 176, 177, 76, 178, 103, 179, 104, 105, 106, 107, 108, 264, 265, 266, 267, 268, 194, 269, 270, 271, 272, 273, 274, 275, 276, 277, 278, 279, 280, 190, 188, 186, 281, 282, 283, 284, 285, 184, 286, 287, 288, 289, 290, 200, 201, 202, 291, 292, 293, 294, 295, 296, 297, 298, 299, 300, 301, 302, 303, 304, 305, 306, 307, 308, 199, 195, 196, 197, 198, 691, 692, 693, 694, 695, 696, 697, 698, 727, 728, 729, 730, 731, 732, 733, 734, 742, 743, 744, 745, 746, 747, 725, 726, 735, 736, 737, 738, 739, 740, 741] (by decide +kernel) (by decide +kernel)
set_option maxRecDepth 20000 in
theorem gL_law_X7_sort : GoodIn wsL_law (wsV RL 18 RX7 yX7_sort wsX7_sort) := goodIn_app (goodIn_of _ (by decide +kernel)) ggL_law_X7_sort
set_option maxRecDepth 20000 in
theorem ggL_law_X8_sort : GoodIn wsL_law wsX8_sort := goodIn_r _ [312, 113, 222, 223, 5, 224, 237, 238, 239, 240, 241, 114, 313, 314, 315, 316, 317, 318, 319, 320, 246, 247, 248, 249, 321, 322, 323, 324, 254, 255, 256, 257, 325, 326, 327, 328, 329, 330, 331, 332, 333, 334, 335, 336, 337, 338, 339, 340, 341, 342, 343, 344, 345, 346, 347, 348, 250, 251, 252, 253, 699, 700, 701, 702, 703, 704, 705, 706, 707, 708, 709, 710, 711] (by decide +kernel) (by decide +kernel)
set_option maxRecDepth 20000 in
theorem gL_law_X8_sort : GoodIn wsL_law (wsV RL 22 RX8 yX8_sort wsX8_sort) := goodIn_app (goodIn_of _ (by decide +kernel)) ggL_law_X8_sort
set_option maxRecDepth 20000 in
theorem ggL_law_X7_letGo : GoodIn wsL_law wsX7_letGo := goodIn_r _ [352, 31, 262, 263, 27, 153, 154, 155, 26, 156, 66, 65, 157, 158, 159, 160, 161, 162, 163, 30, 164, 73, 77, 165, 84, 166, 167, 168, 169, 85, 86, 87, 88, 89, 170, 171, 172, 72, 173, 99, 93, 174, 94, 95, 96, 97, 98, 175, 176, 177, 76, 178, 103, 179, 104, 105, 106, 107, 108, 353, 292, 293, 294, 295, 296, 274, 275, 276, 290, 200, 201, 202, 691, 692, 693, 694, 695, 696, 697, 698, 727, 728, 729, 730, 731, 732, 733, 734, 742, 743, 744, 745, 746, 747, 725, 726, 735, 736, 737, 738, 739, 740, 741] (by decide +kernel) (by decide +kernel)
set_option maxRecDepth 20000 in
theorem gL_law_X7_letGo : GoodIn wsL_law (wsV RL 23 RX7 yX7_letGo wsX7_letGo) := goodIn_app (goodIn_of _ (by decide +kernel)) ggL_law_X7_letGo
set_option maxRecDepth 20000 in
theorem ggL_law_X8_letGo : GoodIn wsL_law wsX8_letGo := goodIn_r _ [357, 325, 326, 327, 5, 328, 113, 317, 318, 319, 320, 237, 238, 239, 240, 241, 114, 329, 330, 331, 332, 254, 255, 256, 257, 246, 247, 248, 249, 699, 700, 701, 702, 703, 704, 705, 706, 707, 708, 709, 710, 711] (by decide +kernel) (by decide +kernel)
set_option maxRecDepth 20000 in
theorem gL_law_X8_letGo : GoodIn wsL_law (wsV RL 26 RX8 yX8_letGo wsX8_letGo) := goodIn_app (goodIn_of _ (by decide +kernel)) ggL_law_X8_letGo
set_option maxRecDepth 20000 in
theorem ggL_law_X7_pour : GoodIn wsL_law wsX7_pour := goodIn_r _ [361, 31, 262, 362, 27, 363, 364, 2, 365, 153, 154, 155, 26, 156, 66, 65, 157, 158, 159, 160, 161, 162, 163, 30, 164, 73, 77, 165, 84, 166, 167, 168, 169, 85, 86, 87, 88, 89, 170, 171, 172, 72, 173, 99, 93, 174, 94, 95, 96, 97, 98, 175, 176, 177, 76, 178, 103, 179, 104, 105, 106, 107, 108, 366, 367, 368, 369, 370, 296, 274, 275, 276, 195, 196, 197, 198, 199, 200, 201, 202, 691, 692, 693, 694, 695, 696, 697, 698, 727, 728, 729, 730, 731, 732, 733, 734, 742, 743, 744, 745, 746, 747, 725, 726, 735, 736, 737, 738, 739, 740, 741] (by decide +kernel) (by decide +kernel)
set_option maxRecDepth 20000 in
theorem gL_law_X7_pour : GoodIn wsL_law (wsV RL 27 RX7 yX7_pour wsX7_pour) := goodIn_app (goodIn_of _ (by decide +kernel)) ggL_law_X7_pour
set_option maxRecDepth 20000 in
theorem ggL_law_X8_pour : GoodIn wsL_law wsX8_pour := goodIn_r _ [374, 113, 375, 376, 5, 377, 222, 223, 224, 341, 342, 343, 344, 345, 346, 347, 348, 317, 318, 319, 320, 237, 238, 239, 240, 241, 114, 250, 251, 252, 253, 254, 255, 256, 257, 246, 247, 248, 249, 699, 700, 701, 702, 703, 704, 705, 706, 707, 708, 709, 710, 711] (by decide +kernel) (by decide +kernel)
set_option maxRecDepth 20000 in
theorem gL_law_X8_pour : GoodIn wsL_law (wsV RL 30 RX8 yX8_pour wsX8_pour) := goodIn_app (goodIn_of _ (by decide +kernel)) ggL_law_X8_pour
set_option maxRecDepth 20000 in
theorem ggL_law_X7_shirt : GoodIn wsL_law wsX7_shirt := goodIn_r _ [381, 23, 31, 382, 27, 363, 364, 2, 365, 383, 384, 385, 386, 387, 388, 22, 389, 59, 390, 391, 392, 393, 394, 395, 396, 397, 398, 58, 57, 399, 400, 401, 402, 403, 404, 405, 406, 407, 408, 409, 410, 411, 153, 154, 155, 26, 156, 66, 65, 157, 158, 159, 160, 161, 162, 163, 30, 164, 73, 77, 165, 84, 166, 167, 168, 169, 85, 86, 87, 88, 89, 170, 171, 172, 72, 173, 99, 93, 174, 94, 95, 96, 97, 98, 175, 176, 177, 76, 178, 103, 179, 104, 105, 106, 107, 108, 412, 413, 414, 415, 416, 192, 190, 417, 418, 419, 420, 296, 274, 275, 276, 421, 422, 423, 424, 199, 200, 201, 202, 691, 692, 693, 694, 695, 696, 697, 698, 727, 728, 729, 730, 731, 732, 733, 734, 722, 723, 724, 735, 736, 737, 738, 739, 740, 741, 742, 743, 744, 745, 746, 747, 725, 726] (by decide +kernel) (by decide +kernel)
set_option maxRecDepth 20000 in
theorem gL_law_X7_shirt : GoodIn wsL_law (wsV RL 31 RX7 yX7_shirt wsX7_shirt) := goodIn_app (goodIn_of _ (by decide +kernel)) ggL_law_X7_shirt
set_option maxRecDepth 20000 in
theorem ggL_law_X8_shirt : GoodIn wsL_law wsX8_shirt := goodIn_r _ [428, 375, 376, 5, 377, 222, 223, 224, 429, 430, 431, 432, 341, 342, 343, 344, 113, 345, 346, 347, 348, 317, 318, 319, 320, 433, 434, 435, 436, 437, 438, 439, 440, 441, 117, 442, 443, 444, 445, 237, 238, 239, 240, 241, 114, 446, 447, 448, 449, 254, 255, 256, 257, 246, 247, 248, 249, 699, 700, 701, 702, 703, 704, 705, 706, 707, 708, 709, 710, 711] (by decide +kernel) (by decide +kernel)
set_option maxRecDepth 20000 in
theorem gL_law_X8_shirt : GoodIn wsL_law (wsV RL 35 RX8 yX8_shirt wsX8_shirt) := goodIn_app (goodIn_of _ (by decide +kernel)) ggL_law_X8_shirt
set_option maxRecDepth 20000 in
theorem ggL_law_X7_polish : GoodIn wsL_law wsX7_polish := goodIn_r _ [453, 31, 124, 262, 454, 455, 27, 456, 457, 458, 72, 459, 99, 153, 154, 155, 26, 156, 66, 65, 157, 158, 159, 160, 161, 162, 163, 30, 164, 73, 77, 165, 84, 166, 167, 168, 169, 85, 86, 87, 88, 89, 170, 171, 172, 173, 93, 174, 94, 95, 96, 97, 98, 175, 176, 177, 76, 178, 103, 179, 104, 105, 106, 107, 108, 460, 461, 462, 463, 691, 692, 693, 694, 695, 696, 697, 698, 727, 728, 729, 730, 731, 732, 733, 734, 742, 743, 744, 745, 746, 747, 735, 736, 737, 738, 739, 740, 741, 725, 726] (by decide +kernel) (by decide +kernel)
set_option maxRecDepth 20000 in
theorem gL_law_X7_polish : GoodIn wsL_law (wsV RL 36 RX7 yX7_polish wsX7_polish) := goodIn_app (goodIn_of _ (by decide +kernel)) ggL_law_X7_polish
set_option maxRecDepth 20000 in
theorem ggL_law_X8_polish : GoodIn wsL_law wsX8_polish := goodIn_r _ [467, 468, 469, 470, 5, 471, 113, 222, 223, 224, 317, 318, 319, 320, 237, 238, 239, 240, 241, 114, 246, 247, 248, 249, 699, 700, 701, 702, 703, 704, 705, 706, 707, 708, 709, 710, 711] (by decide +kernel) (by decide +kernel)
set_option maxRecDepth 20000 in
theorem gL_law_X8_polish : GoodIn wsL_law (wsV RL 39 RX8 yX8_polish wsX8_polish) := goodIn_app (goodIn_of _ (by decide +kernel)) ggL_law_X8_polish
set_option maxRecDepth 20000 in
theorem ggL_law_X7_set : GoodIn wsL_law wsX7_set := goodIn_r _ [475, 31, 382, 27, 476, 477, 2, 478, 479, 480, 481, 482, 483, 30, 484, 84, 153, 154, 155, 26, 156, 66, 65, 157, 158, 159, 160, 161, 162, 163, 164, 73, 77, 165, 166, 167, 168, 169, 85, 86, 87, 88, 89, 170, 171, 172, 72, 173, 99, 93, 174, 94, 95, 96, 97, 98, 175, 176, 177, 76, 178, 103, 179, 104, 105, 106, 107, 108, 691, 692, 693, 694, 695, 696, 697, 698, 727, 728, 729, 730, 731, 732, 733, 734, 725, 726, 735, 736, 737, 738, 739, 740, 741, 742, 743, 744, 745, 746, 747] (by decide +kernel) (by decide +kernel)
set_option maxRecDepth 20000 in
theorem gL_law_X7_set : GoodIn wsL_law (wsV RL 40 RX7 yX7_set wsX7_set) := goodIn_app (goodIn_of _ (by decide +kernel)) ggL_law_X7_set
set_option maxRecDepth 20000 in
theorem ggL_law_X8_set : GoodIn wsL_law wsX8_set := goodIn_r _ [488, 113, 222, 223, 5, 224, 489, 490, 491, 492, 493, 494, 495, 237, 238, 239, 240, 241, 114, 699, 700, 701, 702, 703, 704, 705, 706, 707, 708, 709, 710, 711] (by decide +kernel) (by decide +kernel)
set_option maxRecDepth 20000 in
theorem gL_law_X8_set : GoodIn wsL_law (wsV RL 43 RX8 yX8_set wsX8_set) := goodIn_app (goodIn_of _ (by decide +kernel)) ggL_law_X8_set
set_option maxRecDepth 20000 in
theorem ggL_law_X7_type : GoodIn wsL_law wsX7_type := goodIn_r _ [499, 15, 500, 501, 502, 503, 14, 504, 40, 39, 691, 692, 693, 694, 695, 696, 697, 698, 712, 713] (by decide +kernel) (by decide +kernel)
set_option maxRecDepth 20000 in
theorem gL_law_X7_type : GoodIn wsL_law (wsV RL 44 RX7 yX7_type wsX7_type) := goodIn_app (goodIn_of _ (by decide +kernel)) ggL_law_X7_type
set_option maxRecDepth 20000 in
theorem ggL_law_X8_type : GoodIn wsL_law wsX8_type := goodIn_r _ [508, 213, 118, 699, 700, 701, 702, 703, 704, 705, 706, 707, 708, 709, 710, 711] (by decide +kernel) (by decide +kernel)
set_option maxRecDepth 20000 in
theorem gL_law_X8_type : GoodIn wsL_law (wsV RL 48 RX8 yX8_type wsX8_type) := goodIn_app (goodIn_of _ (by decide +kernel)) ggL_law_X8_type
set_option maxRecDepth 20000 in
theorem ggL_law_X7_clearText : GoodIn wsL_law wsX7_clearText := goodIn_r _ [512, 15, 500, 691, 692, 693, 694, 695, 696, 697, 698, 712, 713] (by decide +kernel) (by decide +kernel)
set_option maxRecDepth 20000 in
theorem gL_law_X7_clearText : GoodIn wsL_law (wsV RL 49 RX7 yX7_clearText wsX7_clearText) := goodIn_app (goodIn_of _ (by decide +kernel)) ggL_law_X7_clearText
set_option maxRecDepth 20000 in
theorem ggL_law_X8_clearText : GoodIn wsL_law wsX8_clearText := goodIn_r _ [516, 213, 699, 700, 701, 702, 703, 704, 705, 706, 707, 708, 709, 710, 711] (by decide +kernel) (by decide +kernel)
set_option maxRecDepth 20000 in
theorem gL_law_X8_clearText : GoodIn wsL_law (wsV RL 52 RX8 yX8_clearText wsX8_clearText) := goodIn_app (goodIn_of _ (by decide +kernel)) ggL_law_X8_clearText
set_option maxRecDepth 20000 in
theorem ggL_law_X7_undo : GoodIn wsL_law wsX7_undo := goodIn_r _ [520, 27, 31, 521, 522, 523, 524, 26, 525, 66, 65, 161, 162, 163, 30, 164, 73, 77, 165, 84, 166, 167, 168, 169, 85, 86, 87, 88, 89, 170, 171, 172, 72, 173, 99, 93, 174, 94, 95, 96, 97, 98, 175, 176, 177, 76, 178, 103, 179, 104, 105, 106, 107, 108, 691, 692, 693, 694, 695, 696, 697, 698, 725, 726, 727, 728, 729, 730, 731, 732, 733, 734, 735, 736, 737, 738, 739, 740, 741, 742, 743, 744, 745, 746, 747] (by decide +kernel) (by decide +kernel)
set_option maxRecDepth 20000 in
theorem gL_law_X7_undo : GoodIn wsL_law (wsV RL 53 RX7 yX7_undo wsX7_undo) := goodIn_app (goodIn_of _ (by decide +kernel)) ggL_law_X7_undo
set_option maxRecDepth 20000 in
theorem ggL_law_X8_undo : GoodIn wsL_law wsX8_undo := goodIn_r _ [529, 241, 113, 114, 699, 700, 701, 702, 703, 704, 705, 706, 707, 708, 709, 710, 711] (by decide +kernel) (by decide +kernel)
set_option maxRecDepth 20000 in
theorem gL_law_X8_undo : GoodIn wsL_law (wsV RL 56 RX8 yX8_undo wsX8_undo) := goodIn_app (goodIn_of _ (by decide +kernel)) ggL_law_X8_undo
set_option maxRecDepth 20000 in
theorem ggL_law_X7_keep : GoodIn wsL_law wsX7_keep := goodIn_r _ [533, 32, 31, 34, 124, 125, 534, 162, 163, 30, 164, 73, 77, 165, 84, 166, 167, 168, 169, 85, 86, 87, 88, 89, 170, 171, 172, 72, 173, 99, 93, 174, 94, 95, 96, 97, 98, 175, 176, 177, 76, 178, 103, 179, 104, 105, 106, 107, 108, 691, 692, 693, 694, 695, 696, 697, 698, 727, 728, 729, 730, 731, 732, 733, 734, 735, 736, 737, 738, 739, 740, 741, 742, 743, 744, 745, 746, 747] (by decide +kernel) (by decide +kernel)
set_option maxRecDepth 20000 in
theorem gL_law_X7_keep : GoodIn wsL_law (wsV RL 57 RX7 yX7_keep wsX7_keep) := goodIn_app (goodIn_of _ (by decide +kernel)) ggL_law_X7_keep
set_option maxRecDepth 20000 in
theorem ggL_law_X8_keep : GoodIn wsL_law wsX8_keep := goodIn_r _ [538, 115, 113, 539, 699, 700, 701, 702, 703, 704, 705, 706, 707, 708, 709, 710, 711] (by decide +kernel) (by decide +kernel)
set_option maxRecDepth 20000 in
theorem gL_law_X8_keep : GoodIn wsL_law (wsV RL 60 RX8 yX8_keep wsX8_keep) := goodIn_app (goodIn_of _ (by decide +kernel)) ggL_law_X8_keep
set_option maxRecDepth 20000 in
theorem ggL_law_X7_restore : GoodIn wsL_law wsX7_restore := goodIn_r _ [543, 34, 27, 31, 32, 124, 125, 153, 154, 155, 26, 156, 66, 65, 157, 158, 159, 160, 161, 162, 163, 30, 164, 73, 77, 165, 84, 166, 167, 168, 169, 85, 86, 87, 88, 89, 170, 171, 172, 72, 173, 99, 93, 174, 94, 95, 96, 97, 98, 175, 176, 177, 76, 178, 103, 179, 104, 105, 106, 107, 108, 534, 691, 692, 693, 694, 695, 696, 697, 698, 727, 728, 729, 730, 731, 732, 733, 734, 735, 736, 737, 738, 739, 740, 741, 725, 726, 742, 743, 744, 745, 746, 747] (by decide +kernel) (by decide +kernel)
set_option maxRecDepth 20000 in
theorem gL_law_X7_restore : GoodIn wsL_law (wsV RL 61 RX7 yX7_restore wsX7_restore) := goodIn_app (goodIn_of _ (by decide +kernel)) ggL_law_X7_restore
set_option maxRecDepth 20000 in
theorem ggL_law_X8_restore : GoodIn wsL_law wsX8_restore := goodIn_r _ [547, 539, 113, 115, 237, 238, 239, 5, 240, 241, 114, 699, 700, 701, 702, 703, 704, 705, 706, 707, 708, 709, 710, 711] (by decide +kernel) (by decide +kernel)
set_option maxRecDepth 20000 in
theorem gL_law_X8_restore : GoodIn wsL_law (wsV RL 64 RX8 yX8_restore wsX8_restore) := goodIn_app (goodIn_of _ (by decide +kernel)) ggL_law_X8_restore
set_option maxRecDepth 20000 in
theorem ggL_law_X7_button : GoodIn wsL_law wsX7_button := goodIn_r _ [551, 31, 124, 552, 553, 554, 555, 455, 262, 454, 556, 557, 558, 456, 457, 458, 72, 459, 99, 559, 560, 561, 76, 562, 107, 106, 691, 692, 693, 694, 695, 696, 697, 698, 727, 728, 729, 730, 731, 732, 733, 734, 735, 736, 737, 738, 739, 740, 741, 742, 743, 744, 745, 746, 747] (by decide +kernel) (by decide +kernel)
set_option maxRecDepth 20000 in
theorem gL_law_X7_button : GoodIn wsL_law (wsV RL 65 RX7 yX7_button wsX7_button) := goodIn_app (goodIn_of _ (by decide +kernel)) ggL_law_X7_button
set_option maxRecDepth 20000 in
theorem ggL_law_X8_button : GoodIn wsL_law wsX8_button := goodIn_r _ [566, 468, 469, 470, 5, 471, 113, 222, 223, 224, 317, 318, 319, 320, 567, 568, 569, 570, 699, 700, 701, 702, 703, 704, 705, 706, 707, 708, 709, 710, 711] (by decide +kernel) (by decide +kernel)
set_option maxRecDepth 20000 in
theorem gL_law_X8_button : GoodIn wsL_law (wsV RL 68 RX8 yX8_button wsX8_button) := goodIn_app (goodIn_of _ (by decide +kernel)) ggL_law_X8_button
set_option maxRecDepth 20000 in
theorem ggL_law_X7_inBin : GoodIn wsL_law wsX7_inBin := goodIn_r _ [574, 23, 31, 411, 575, 363, 364, 2, 365, 386, 387, 388, 22, 389, 59, 390, 391, 392, 393, 394, 395, 396, 397, 398, 58, 57, 691, 692, 693, 694, 695, 696, 697, 698, 722, 723, 724, 727, 728, 729, 730, 731, 732, 733, 734, 735, 736, 737, 738, 739, 740, 741, 742, 743, 744, 745, 746, 747] (by decide +kernel) (by decide +kernel)
set_option maxRecDepth 20000 in
theorem gL_law_X7_inBin : GoodIn wsL_law (wsV RL 69 RX7 yX7_inBin wsX7_inBin) := goodIn_app (goodIn_of _ (by decide +kernel)) ggL_law_X7_inBin
set_option maxRecDepth 20000 in
theorem ggL_law_X8_inBin : GoodIn wsL_law wsX8_inBin := goodIn_r _ [579, 437, 117, 375, 376, 5, 377, 222, 223, 224, 438, 439, 440, 441, 113, 345, 346, 347, 348, 317, 318, 319, 320, 699, 700, 701, 702, 703, 704, 705, 706, 707, 708, 709, 710, 711] (by decide +kernel) (by decide +kernel)
set_option maxRecDepth 20000 in
theorem gL_law_X8_inBin : GoodIn wsL_law (wsV RL 72 RX8 yX8_inBin wsX8_inBin) := goodIn_app (goodIn_of _ (by decide +kernel)) ggL_law_X8_inBin
set_option maxRecDepth 20000 in
theorem ggL_law_X7_bin : GoodIn wsL_law wsX7_bin := goodIn_r _ [583, 23, 31, 411, 382, 584, 418, 419, 420, 363, 364, 2, 365, 386, 387, 388, 22, 389, 59, 390, 391, 392, 393, 394, 395, 396, 397, 398, 58, 57, 585, 586, 587, 588, 589, 590, 591, 592, 593, 400, 401, 402, 403, 404, 405, 406, 594, 595, 596, 597, 598, 599, 600, 691, 692, 693, 694, 695, 696, 697, 698, 722, 723, 724, 727, 728, 729, 730, 731, 732, 733, 734, 735, 736, 737, 738, 739, 740, 741, 742, 743, 744, 745, 746, 747] (by decide +kernel) (by decide +kernel)
set_option maxRecDepth 20000 in
theorem gL_law_X7_bin : GoodIn wsL_law (wsV RL 73 RX7 yX7_bin wsX7_bin) := goodIn_app (goodIn_of _ (by decide +kernel)) ggL_law_X7_bin
set_option maxRecDepth 20000 in
theorem ggL_law_X8_bin : GoodIn wsL_law wsX8_bin := goodIn_r _ [604, 113, 375, 376, 5, 377, 222, 223, 224, 341, 342, 343, 344, 345, 346, 347, 348, 317, 318, 319, 320, 605, 606, 607, 608, 437, 117, 438, 439, 440, 441, 609, 610, 611, 612, 433, 434, 435, 436, 442, 443, 444, 445, 613, 614, 615, 616, 699, 700, 701, 702, 703, 704, 705, 706, 707, 708, 709, 710, 711] (by decide +kernel) (by decide +kernel)
set_option maxRecDepth 20000 in
theorem gL_law_X8_bin : GoodIn wsL_law (wsV RL 76 RX8 yX8_bin wsX8_bin) := goodIn_app (goodIn_of _ (by decide +kernel)) ggL_law_X8_bin
set_option maxRecDepth 20000 in
theorem ggL_law_X7_total : GoodIn wsL_law wsX7_total := goodIn_r _ [620, 31, 382, 262, 263, 124, 125, 621, 622, 623, 624, 625, 27, 521, 15, 500, 626, 627, 628, 72, 629, 99, 96, 691, 692, 693, 694, 695, 696, 697, 698, 727, 728, 729, 730, 731, 732, 733, 734, 742, 743, 744, 745, 746, 747, 735, 736, 737, 738, 739, 740, 741, 725, 726, 712, 713] (by decide +kernel) (by decide +kernel)
set_option maxRecDepth 20000 in
theorem gL_law_X7_total : GoodIn wsL_law (wsV RL 77 RX7 yX7_total wsX7_total) := goodIn_app (goodIn_of _ (by decide +kernel)) ggL_law_X7_total
set_option maxRecDepth 20000 in
theorem ggL_law_X8_total : GoodIn wsL_law wsX8_total := goodIn_r _ [633, 113, 241, 213, 222, 223, 5, 224, 325, 326, 327, 328, 317, 318, 319, 320, 634, 635, 636, 637, 699, 700, 701, 702, 703, 704, 705, 706, 707, 708, 709, 710, 711] (by decide +kernel) (by decide +kernel)
set_option maxRecDepth 20000 in
theorem gL_law_X8_total : GoodIn wsL_law (wsV RL 80 RX8 yX8_total wsX8_total) := goodIn_app (goodIn_of _ (by decide +kernel)) ggL_law_X8_total
set_option maxRecDepth 20000 in
theorem ggL_law_X7_goesTo : GoodIn wsL_law wsX7_goesTo := goodIn_r _ [641, 31, 124, 262, 454, 456, 457, 458, 72, 459, 99, 642, 278, 279, 30, 280, 73, 190, 84, 188, 77, 268, 186, 281, 282, 283, 284, 285, 184, 286, 287, 288, 289, 691, 692, 693, 694, 695, 696, 697, 698, 727, 728, 729, 730, 731, 732, 733, 734, 742, 743, 744, 745, 746, 747, 735, 736, 737, 738, 739, 740, 741] (by decide +kernel) (by decide +kernel)
set_option maxRecDepth 20000 in
theorem gL_law_X7_goesTo : GoodIn wsL_law (wsV RL 81 RX7 yX7_goesTo wsX7_goesTo) := goodIn_app (goodIn_of _ (by decide +kernel)) ggL_law_X7_goesTo
set_option maxRecDepth 20000 in
theorem ggL_law_X8_goesTo : GoodIn wsL_law wsX8_goesTo := goodIn_r _ [646, 113, 468, 469, 470, 5, 471, 222, 223, 224, 317, 318, 319, 320, 321, 322, 323, 324, 325, 326, 327, 328, 337, 338, 339, 340, 333, 334, 335, 336, 341, 342, 343, 344, 345, 346, 347, 348, 699, 700, 701, 702, 703, 704, 705, 706, 707, 708, 709, 710, 711] (by decide +kernel) (by decide +kernel)
set_option maxRecDepth 20000 in
theorem gL_law_X8_goesTo : GoodIn wsL_law (wsV RL 84 RX8 yX8_goesTo wsX8_goesTo) := goodIn_app (goodIn_of _ (by decide +kernel)) ggL_law_X8_goesTo
set_option maxRecDepth 20000 in
theorem ggL_law_X7_reason : GoodIn wsL_law wsX7_reason := goodIn_r _ [650, 23, 31, 363, 364, 2, 365, 383, 384, 385, 386, 387, 388, 22, 389, 59, 390, 391, 392, 393, 394, 395, 396, 397, 398, 58, 57, 407, 408, 409, 410, 411, 382, 399, 400, 401, 402, 403, 404, 405, 406, 691, 692, 693, 694, 695, 696, 697, 698, 722, 723, 724, 727, 728, 729, 730, 731, 732, 733, 734, 735, 736, 737, 738, 739, 740, 741, 742, 743, 744, 745, 746, 747] (by decide +kernel) (by decide +kernel)
set_option maxRecDepth 20000 in
theorem gL_law_X7_reason : GoodIn wsL_law (wsV RL 85 RX7 yX7_reason wsX7_reason) := goodIn_app (goodIn_of _ (by decide +kernel)) ggL_law_X7_reason
set_option maxRecDepth 20000 in
theorem ggL_law_X8_reason : GoodIn wsL_law wsX8_reason := goodIn_r _ [654, 375, 376, 5, 377, 222, 223, 224, 429, 430, 431, 432, 341, 342, 343, 344, 113, 345, 346, 347, 348, 317, 318, 319, 320, 433, 434, 435, 436, 437, 438, 439, 440, 441, 117, 442, 443, 444, 445, 699, 700, 701, 702, 703, 704, 705, 706, 707, 708, 709, 710, 711] (by decide +kernel) (by decide +kernel)
set_option maxRecDepth 20000 in
theorem gL_law_X8_reason : GoodIn wsL_law (wsV RL 88 RX8 yX8_reason wsX8_reason) := goodIn_app (goodIn_of _ (by decide +kernel)) ggL_law_X8_reason
set_option maxRecDepth 20000 in
theorem ggL_law_X7_leastSpread : GoodIn wsL_law wsX7_leastSpread := goodIn_r _ [658, 23, 31, 411, 363, 364, 2, 365, 383, 384, 385, 386, 387, 388, 22, 389, 59, 390, 391, 392, 393, 394, 395, 396, 397, 398, 58, 57, 594, 595, 596, 597, 598, 599, 419, 600, 403, 404, 405, 406, 691, 692, 693, 694, 695, 696, 697, 698, 722, 723, 724, 727, 728, 729, 730, 731, 732, 733, 734, 735, 736, 737, 738, 739, 740, 741, 742, 743, 744, 745, 746, 747] (by decide +kernel) (by decide +kernel)
set_option maxRecDepth 20000 in
theorem gL_law_X7_leastSpread : GoodIn wsL_law (wsV RL 89 RX7 yX7_leastSpread wsX7_leastSpread) := goodIn_app (goodIn_of _ (by decide +kernel)) ggL_law_X7_leastSpread
set_option maxRecDepth 20000 in
theorem ggL_law_X8_leastSpread : GoodIn wsL_law wsX8_leastSpread := goodIn_r _ [662, 437, 375, 376, 5, 377, 222, 223, 224, 438, 439, 440, 441, 113, 117, 345, 346, 347, 348, 317, 318, 319, 320, 442, 443, 444, 445, 699, 700, 701, 702, 703, 704, 705, 706, 707, 708, 709, 710, 711] (by decide +kernel) (by decide +kernel)
set_option maxRecDepth 20000 in
theorem gL_law_X8_leastSpread : GoodIn wsL_law (wsV RL 92 RX8 yX8_leastSpread wsX8_leastSpread) := goodIn_app (goodIn_of _ (by decide +kernel)) ggL_law_X8_leastSpread
set_option maxRecDepth 20000 in
theorem ggL_law_X7_shirts : GoodIn wsL_law wsX7_shirts := goodIn_r _ [666, 23, 31, 382, 383, 384, 2, 385, 386, 387, 388, 22, 389, 59, 390, 391, 392, 393, 394, 395, 396, 397, 398, 58, 57, 667, 668, 669, 670, 403, 404, 405, 406, 691, 692, 693, 694, 695, 696, 697, 698, 727, 728, 729, 730, 731, 732, 733, 734, 722, 723, 724, 735, 736, 737, 738, 739, 740, 741, 742, 743, 744, 745, 746, 747] (by decide +kernel) (by decide +kernel)
set_option maxRecDepth 20000 in
theorem gL_law_X7_shirts : GoodIn wsL_law (wsV RL 93 RX7 yX7_shirts wsX7_shirts) := goodIn_app (goodIn_of _ (by decide +kernel)) ggL_law_X7_shirts
set_option maxRecDepth 20000 in
theorem ggL_law_X8_shirts : GoodIn wsL_law wsX8_shirts := goodIn_r _ [674, 113, 116, 222, 223, 5, 224, 675, 676, 677, 678, 433, 434, 435, 436, 437, 438, 439, 440, 441, 117, 345, 346, 347, 348, 317, 318, 319, 320, 442, 443, 444, 445, 446, 447, 448, 449, 254, 255, 256, 257, 246, 247, 248, 249, 679, 680, 681, 682, 699, 700, 701, 702, 703, 704, 705, 706, 707, 708, 709, 710, 711] (by decide +kernel) (by decide +kernel)
set_option maxRecDepth 20000 in
theorem gL_law_X8_shirts : GoodIn wsL_law (wsV RL 96 RX8 yX8_shirts wsX8_shirts) := goodIn_app (goodIn_of _ (by decide +kernel)) ggL_law_X8_shirts
set_option maxRecDepth 20000 in
theorem ggL_law_X7_ifMesh : GoodIn wsL_law wsX7_ifMesh := goodIn_r _ [686, 31, 33, 382, 262, 263, 476, 477, 2, 478, 479, 480, 481, 482, 483, 30, 484, 84, 534, 162, 163, 164, 73, 77, 165, 166, 167, 168, 169, 85, 86, 87, 88, 89, 170, 171, 172, 72, 173, 99, 93, 174, 94, 95, 96, 97, 98, 175, 176, 177, 76, 178, 103, 179, 104, 105, 106, 107, 108, 264, 265, 266, 267, 268, 194, 269, 270, 271, 272, 273, 274, 275, 276, 277, 278, 279, 280, 190, 188, 186, 281, 282, 283, 284, 285, 184, 286, 287, 288, 289, 290, 200, 201, 202, 291, 292, 293, 294, 295, 296, 297, 298, 299, 300, 301, 302, 303, 304, 305, 306, 307, 308, 199, 195, 196, 197, 198, 691, 692, 693, 694, 695, 696, 697, 698, 727, 728, 729, 730, 731, 732, 733, 734, 742, 743, 744, 745, 746, 747, 735, 736, 737, 738, 739, 740, 741] (by decide +kernel) (by decide +kernel)
set_option maxRecDepth 20000 in
theorem gL_law_X7_ifMesh : GoodIn wsL_law (wsV RL 97 RX7 yX7_ifMesh wsX7_ifMesh) := goodIn_app (goodIn_of _ (by decide +kernel)) ggL_law_X7_ifMesh
set_option maxRecDepth 20000 in
theorem ggL_law_X8_ifMesh : GoodIn wsL_law wsX8_ifMesh := goodIn_r _ [690, 113, 222, 223, 5, 224, 492, 493, 494, 495, 675, 676, 677, 678, 116, 313, 314, 315, 316, 317, 318, 319, 320, 246, 247, 248, 249, 321, 322, 323, 324, 254, 255, 256, 257, 325, 326, 327, 328, 329, 330, 331, 332, 333, 334, 335, 336, 337, 338, 339, 340, 341, 342, 343, 344, 345, 346, 347, 348, 250, 251, 252, 253, 679, 680, 681, 682, 699, 700, 701, 702, 703, 704, 705, 706, 707, 708, 709, 710, 711] (by decide +kernel) (by decide +kernel)
set_option maxRecDepth 20000 in
theorem gL_law_X8_ifMesh : GoodIn wsL_law (wsV RL 101 RX8 yX8_ifMesh wsX8_ifMesh) := goodIn_app (goodIn_of _ (by decide +kernel)) ggL_law_X8_ifMesh
