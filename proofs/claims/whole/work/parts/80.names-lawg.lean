set_option maxRecDepth 20000 in
theorem ggL_law_X6_init : GoodIn wsL_law wsX6_init := goodIn_r _ [8, 9, 10, 11, 12, 13, 14, 15, 16, 17, 18, 19, 20, 21, 22, 23, 24, 25, 26, 27, 28, 29, 30, 31, 32, 33, 34, 35, 36, 37, 38, 39, 40, 41, 42, 43, 44, 45, 46, 47, 48, 49, 50, 51, 52, 53, 54, 55, 56, 57, 58, 59, 60, 61, 62, 63, 64, 65, 66, 67, 68, 69, 70, 71, 72, 73, 694, 695, 696, 697, 698, 699, 700, 701, 702, 703, 675, 676, 677, 678, 704, 705, 706, 707, 708, 709, 710, 711, 712, 713, 714, 715, 716, 717, 718, 719] (by decide +kernel) (by decide +kernel)
set_option maxRecDepth 20000 in
theorem gL_law_X6_init : GoodIn wsL_law (wsX6_init) := ggL_law_X6_init
set_option maxRecDepth 20000 in
theorem ggL_law_X7_init : GoodIn wsL_law wsX7_init := goodIn_r _ [76, 77, 10, 11, 32, 78, 79, 80, 81, 82, 71, 83, 69, 84, 85, 679, 680, 681, 682, 683, 684, 685, 686, 687, 688, 689, 690, 691, 692, 693] (by decide +kernel) (by decide +kernel)
set_option maxRecDepth 20000 in
theorem gL_law_X7_init : GoodIn wsL_law (wsX7_init) := ggL_law_X7_init
set_option maxRecDepth 20000 in
theorem ggL_law_X6_addItem : GoodIn wsL_law wsX6_addItem := goodIn_r _ [89, 15, 90, 91, 92, 2, 93, 94, 95, 96, 97, 98, 99, 100, 19, 27, 101, 102, 103, 18, 104, 46, 105, 106, 107, 108, 109, 14, 110, 111, 112, 33, 113, 114, 115, 116, 34, 35, 36, 37, 38, 39, 40, 117, 118, 119, 26, 120, 121, 122, 123, 124, 125, 675, 676, 677, 678, 694, 695, 696, 697, 698, 699, 700, 701, 702, 703, 704, 705, 706, 713, 714, 715, 716] (by decide +kernel) (by decide +kernel)
set_option maxRecDepth 20000 in
theorem gL_law_X6_addItem : GoodIn wsL_law (wsV RL 13 RX6 yX6_addItem wsX6_addItem) := goodIn_app (goodIn_of _ (by decide +kernel)) ggL_law_X6_addItem
set_option maxRecDepth 20000 in
theorem ggL_law_X7_addItem : GoodIn wsL_law wsX7_addItem := goodIn_r _ [129, 78, 130, 131, 5, 132, 133, 134, 135, 136, 137, 138, 139, 140, 79, 679, 680, 681, 682, 683, 684, 685, 686, 687, 688, 689, 690, 691, 692, 693] (by decide +kernel) (by decide +kernel)
set_option maxRecDepth 20000 in
theorem gL_law_X7_addItem : GoodIn wsL_law (wsV RL 17 RX7 yX7_addItem wsX7_addItem) := goodIn_app (goodIn_of _ (by decide +kernel)) ggL_law_X7_addItem
set_option maxRecDepth 20000 in
theorem ggL_law_X6_itemCount : GoodIn wsL_law wsX6_itemCount := goodIn_r _ [144, 15, 90, 675, 676, 677, 678, 694, 695, 696, 697, 698, 699, 700, 701, 702, 703] (by decide +kernel) (by decide +kernel)
set_option maxRecDepth 20000 in
theorem gL_law_X6_itemCount : GoodIn wsL_law (wsV RL 18 RX6 yX6_itemCount wsX6_itemCount) := goodIn_app (goodIn_of _ (by decide +kernel)) ggL_law_X6_itemCount
set_option maxRecDepth 20000 in
theorem ggL_law_X7_itemCount : GoodIn wsL_law wsX7_itemCount := goodIn_r _ [148, 78, 679, 680, 681, 682, 683, 684, 685, 686, 687, 688, 689, 690, 691, 692, 693] (by decide +kernel) (by decide +kernel)
set_option maxRecDepth 20000 in
theorem gL_law_X7_itemCount : GoodIn wsL_law (wsV RL 22 RX7 yX7_itemCount wsX7_itemCount) := goodIn_app (goodIn_of _ (by decide +kernel)) ggL_law_X7_itemCount
set_option maxRecDepth 20000 in
theorem ggL_law_X6_setPrice : GoodIn wsL_law wsX6_setPrice := goodIn_r _ [152, 153, 15, 154, 155, 156, 157, 2, 158, 90, 159, 160, 161, 94, 95, 96, 162, 163, 164, 97, 98, 99, 100, 19, 27, 101, 102, 103, 18, 104, 46, 105, 106, 107, 108, 109, 14, 110, 111, 112, 33, 113, 114, 115, 116, 34, 35, 36, 37, 38, 39, 40, 117, 118, 119, 26, 120, 121, 675, 676, 677, 678, 694, 695, 696, 697, 698, 699, 700, 701, 702, 703, 704, 705, 706, 713, 714, 715, 716] (by decide +kernel) (by decide +kernel)
set_option maxRecDepth 20000 in
theorem gL_law_X6_setPrice : GoodIn wsL_law (wsV RL 23 RX6 yX6_setPrice wsX6_setPrice) := goodIn_app (goodIn_of _ (by decide +kernel)) ggL_law_X6_setPrice
set_option maxRecDepth 20000 in
theorem ggL_law_X7_setPrice : GoodIn wsL_law wsX7_setPrice := goodIn_r _ [168, 169, 78, 170, 171, 172, 5, 173, 133, 134, 135, 174, 175, 176, 136, 137, 138, 139, 140, 79, 679, 680, 681, 682, 683, 684, 685, 686, 687, 688, 689, 690, 691, 692, 693] (by decide +kernel) (by decide +kernel)
set_option maxRecDepth 20000 in
theorem gL_law_X7_setPrice : GoodIn wsL_law (wsV RL 26 RX7 yX7_setPrice wsX7_setPrice) := goodIn_app (goodIn_of _ (by decide +kernel)) ggL_law_X7_setPrice
set_option maxRecDepth 20000 in
theorem ggL_law_X6_quotedPrice : GoodIn wsL_law wsX6_quotedPrice := goodIn_r _ [180, 15, 154, 155, 156, 157, 2, 158, 90, 159, 160, 161, 162, 163, 164, 675, 676, 677, 678, 694, 695, 696, 697, 698, 699, 700, 701, 702, 703] (by decide +kernel) (by decide +kernel)
set_option maxRecDepth 20000 in
theorem gL_law_X6_quotedPrice : GoodIn wsL_law (wsV RL 27 RX6 yX6_quotedPrice wsX6_quotedPrice) := goodIn_app (goodIn_of _ (by decide +kernel)) ggL_law_X6_quotedPrice
set_option maxRecDepth 20000 in
theorem ggL_law_X7_quotedPrice : GoodIn wsL_law wsX7_quotedPrice := goodIn_r _ [184, 78, 170, 171, 172, 5, 173, 133, 134, 135, 174, 175, 176, 679, 680, 681, 682, 683, 684, 685, 686, 687, 688, 689, 690, 691, 692, 693] (by decide +kernel) (by decide +kernel)
set_option maxRecDepth 20000 in
theorem gL_law_X7_quotedPrice : GoodIn wsL_law (wsV RL 31 RX7 yX7_quotedPrice wsX7_quotedPrice) := goodIn_app (goodIn_of _ (by decide +kernel)) ggL_law_X7_quotedPrice
set_option maxRecDepth 20000 in
theorem ggL_law_X6_appendCharacter : GoodIn wsL_law wsX6_appendCharacter := goodIn_r _ [188, 23, 189, 94, 95, 2, 96, 190, 191, 192, 22, 193, 54, 194, 675, 676, 677, 678, 707, 708, 709, 710, 711, 712] (by decide +kernel) (by decide +kernel)
set_option maxRecDepth 20000 in
theorem gL_law_X6_appendCharacter : GoodIn wsL_law (wsV RL 32 RX6 yX6_appendCharacter wsX6_appendCharacter) := goodIn_app (goodIn_of _ (by decide +kernel)) ggL_law_X6_appendCharacter
set_option maxRecDepth 20000 in
theorem ggL_law_X7_appendCharacter : GoodIn wsL_law wsX7_appendCharacter := goodIn_r _ [198, 199, 81, 133, 134, 5, 135, 679, 680, 681, 682, 683, 684, 685, 686, 687, 688, 689, 690, 691, 692, 693] (by decide +kernel) (by decide +kernel)
set_option maxRecDepth 20000 in
theorem gL_law_X7_appendCharacter : GoodIn wsL_law (wsV RL 36 RX7 yX7_appendCharacter wsX7_appendCharacter) := goodIn_app (goodIn_of _ (by decide +kernel)) ggL_law_X7_appendCharacter
set_option maxRecDepth 20000 in
theorem ggL_law_X6_clearText : GoodIn wsL_law wsX6_clearText := goodIn_r _ [203, 23, 204, 205, 206, 22, 207, 194, 675, 676, 677, 678, 707, 708, 709, 710, 711, 712] (by decide +kernel) (by decide +kernel)
set_option maxRecDepth 20000 in
theorem gL_law_X6_clearText : GoodIn wsL_law (wsV RL 37 RX6 yX6_clearText wsX6_clearText) := goodIn_app (goodIn_of _ (by decide +kernel)) ggL_law_X6_clearText
set_option maxRecDepth 20000 in
theorem ggL_law_X7_clearText : GoodIn wsL_law wsX7_clearText := goodIn_r _ [211, 199, 679, 680, 681, 682, 683, 684, 685, 686, 687, 688, 689, 690, 691, 692, 693] (by decide +kernel) (by decide +kernel)
set_option maxRecDepth 20000 in
theorem gL_law_X7_clearText : GoodIn wsL_law (wsV RL 40 RX7 yX7_clearText wsX7_clearText) := goodIn_app (goodIn_of _ (by decide +kernel)) ggL_law_X7_clearText
set_option maxRecDepth 20000 in
theorem ggL_law_X6_importPrices : GoodIn wsL_law wsX6_importPrices := goodIn_r _ [215, 23, 15, 90, 154, 216, 217, 218, 219, 220, 221, 22, 222, 223, 194, 224, 225, 226, 227, 51, 52, 53, 228, 229, 230, 231, 232, 54, 233, 234, 235, 236, 237, 238, 239, 240, 241, 242, 243, 97, 98, 99, 2, 100, 19, 27, 101, 102, 103, 18, 104, 46, 105, 106, 107, 108, 109, 14, 110, 111, 112, 33, 113, 114, 115, 116, 34, 35, 36, 37, 38, 39, 40, 117, 118, 119, 26, 120, 121, 162, 163, 164, 204, 205, 206, 207, 675, 676, 677, 678, 694, 695, 696, 697, 698, 699, 700, 701, 702, 703, 707, 708, 709, 710, 711, 712, 704, 705, 706, 713, 714, 715, 716] (by decide +kernel) (by decide +kernel)
set_option maxRecDepth 20000 in
theorem gL_law_X6_importPrices : GoodIn wsL_law (wsV RL 41 RX6 yX6_importPrices wsX6_importPrices) := goodIn_app (goodIn_of _ (by decide +kernel)) ggL_law_X6_importPrices
set_option maxRecDepth 20000 in
theorem ggL_law_X7_importPrices : GoodIn wsL_law wsX7_importPrices := goodIn_r _ [247, 248, 249, 78, 82, 199, 250, 251, 252, 5, 253, 169, 254, 255, 256, 257, 81, 258, 259, 260, 261, 133, 134, 135, 262, 263, 264, 265, 136, 137, 138, 139, 140, 79, 679, 680, 681, 682, 683, 684, 685, 686, 687, 688, 689, 690, 691, 692, 693] (by decide +kernel) (by decide +kernel)
set_option maxRecDepth 20000 in
theorem gL_law_X7_importPrices : GoodIn wsL_law (wsV RL 44 RX7 yX7_importPrices wsX7_importPrices) := goodIn_app (goodIn_of _ (by decide +kernel)) ggL_law_X7_importPrices
set_option maxRecDepth 20000 in
theorem ggL_law_X6_replaceItem : GoodIn wsL_law wsX6_replaceItem := goodIn_r _ [269, 15, 155, 156, 157, 2, 158, 90, 159, 160, 161, 270, 271, 272, 14, 273, 34, 274, 275, 276, 277, 37, 38, 278, 279, 280, 281, 36, 40, 163, 164, 97, 98, 99, 100, 19, 27, 101, 102, 103, 18, 104, 46, 105, 106, 107, 108, 109, 110, 111, 112, 33, 113, 114, 115, 116, 35, 39, 117, 118, 119, 26, 120, 121, 282, 283, 284, 285, 286, 287, 288, 289, 675, 676, 677, 678, 694, 695, 696, 697, 698, 699, 700, 701, 702, 703, 704, 705, 706, 713, 714, 715, 716] (by decide +kernel) (by decide +kernel)
set_option maxRecDepth 20000 in
theorem gL_law_X6_replaceItem : GoodIn wsL_law (wsV RL 45 RX6 yX6_replaceItem wsX6_replaceItem) := goodIn_app (goodIn_of _ (by decide +kernel)) ggL_law_X6_replaceItem
set_option maxRecDepth 20000 in
theorem ggL_law_X7_replaceItem : GoodIn wsL_law wsX7_replaceItem := goodIn_r _ [293, 78, 170, 171, 172, 5, 173, 133, 134, 135, 174, 175, 176, 294, 295, 296, 297, 298, 299, 300, 301, 302, 303, 304, 305, 136, 137, 138, 139, 140, 79, 306, 307, 308, 309, 679, 680, 681, 682, 683, 684, 685, 686, 687, 688, 689, 690, 691, 692, 693] (by decide +kernel) (by decide +kernel)
set_option maxRecDepth 20000 in
theorem gL_law_X7_replaceItem : GoodIn wsL_law (wsV RL 48 RX7 yX7_replaceItem wsX7_replaceItem) := goodIn_app (goodIn_of _ (by decide +kernel)) ggL_law_X7_replaceItem
set_option maxRecDepth 20000 in
theorem ggL_law_X6_endReplacement : GoodIn wsL_law wsX6_endReplacement := goodIn_r _ [313, 15, 155, 156, 157, 2, 158, 90, 314, 275, 276, 14, 277, 37, 38, 97, 98, 99, 100, 19, 27, 101, 102, 103, 18, 104, 46, 105, 106, 107, 108, 109, 110, 111, 112, 33, 113, 114, 115, 116, 34, 35, 36, 39, 40, 117, 118, 119, 26, 120, 121, 315, 316, 317, 318, 286, 287, 288, 289, 675, 676, 677, 678, 694, 695, 696, 697, 698, 699, 700, 701, 702, 703, 704, 705, 706, 713, 714, 715, 716] (by decide +kernel) (by decide +kernel)
set_option maxRecDepth 20000 in
theorem gL_law_X6_endReplacement : GoodIn wsL_law (wsV RL 49 RX6 yX6_endReplacement wsX6_endReplacement) := goodIn_app (goodIn_of _ (by decide +kernel)) ggL_law_X6_endReplacement
set_option maxRecDepth 20000 in
theorem ggL_law_X7_endReplacement : GoodIn wsL_law wsX7_endReplacement := goodIn_r _ [322, 78, 170, 171, 172, 5, 173, 133, 134, 135, 294, 295, 296, 297, 298, 299, 300, 301, 136, 137, 138, 139, 140, 79, 306, 307, 308, 309, 679, 680, 681, 682, 683, 684, 685, 686, 687, 688, 689, 690, 691, 692, 693] (by decide +kernel) (by decide +kernel)
set_option maxRecDepth 20000 in
theorem gL_law_X7_endReplacement : GoodIn wsL_law (wsV RL 52 RX7 yX7_endReplacement wsX7_endReplacement) := goodIn_app (goodIn_of _ (by decide +kernel)) ggL_law_X7_endReplacement
set_option maxRecDepth 20000 in
theorem ggL_law_X6_replacementOf : GoodIn wsL_law wsX6_replacementOf := goodIn_r _ [326, 15, 327, 155, 156, 157, 2, 158, 90, 675, 676, 677, 678, 694, 695, 696, 697, 698, 699, 700, 701, 702, 703] (by decide +kernel) (by decide +kernel)
set_option maxRecDepth 20000 in
theorem gL_law_X6_replacementOf : GoodIn wsL_law (wsV RL 53 RX6 yX6_replacementOf wsX6_replacementOf) := goodIn_app (goodIn_of _ (by decide +kernel)) ggL_law_X6_replacementOf
set_option maxRecDepth 20000 in
theorem ggL_law_X7_replacementOf : GoodIn wsL_law wsX7_replacementOf := goodIn_r _ [331, 78, 170, 171, 172, 5, 173, 133, 134, 135, 679, 680, 681, 682, 683, 684, 685, 686, 687, 688, 689, 690, 691, 692, 693] (by decide +kernel) (by decide +kernel)
set_option maxRecDepth 20000 in
theorem gL_law_X7_replacementOf : GoodIn wsL_law (wsV RL 56 RX7 yX7_replacementOf wsX7_replacementOf) := goodIn_app (goodIn_of _ (by decide +kernel)) ggL_law_X7_replacementOf
set_option maxRecDepth 20000 in
theorem ggL_law_X6_setWeight : GoodIn wsL_law wsX6_setWeight := goodIn_r _ [335, 15, 336, 91, 92, 2, 93, 94, 95, 96, 97, 98, 99, 100, 19, 27, 101, 102, 103, 18, 104, 46, 105, 106, 107, 108, 109, 14, 110, 111, 112, 33, 113, 114, 115, 116, 34, 35, 36, 37, 38, 39, 40, 117, 118, 119, 26, 120, 121, 675, 676, 677, 678, 694, 695, 696, 697, 698, 699, 700, 701, 702, 703, 704, 705, 706, 713, 714, 715, 716] (by decide +kernel) (by decide +kernel)
set_option maxRecDepth 20000 in
theorem gL_law_X6_setWeight : GoodIn wsL_law (wsV RL 57 RX6 yX6_setWeight wsX6_setWeight) := goodIn_app (goodIn_of _ (by decide +kernel)) ggL_law_X6_setWeight
set_option maxRecDepth 20000 in
theorem ggL_law_X7_setWeight : GoodIn wsL_law wsX7_setWeight := goodIn_r _ [340, 78, 130, 131, 5, 132, 133, 134, 135, 136, 137, 138, 139, 140, 79, 679, 680, 681, 682, 683, 684, 685, 686, 687, 688, 689, 690, 691, 692, 693] (by decide +kernel) (by decide +kernel)
set_option maxRecDepth 20000 in
theorem gL_law_X7_setWeight : GoodIn wsL_law (wsV RL 60 RX7 yX7_setWeight wsX7_setWeight) := goodIn_app (goodIn_of _ (by decide +kernel)) ggL_law_X7_setWeight
set_option maxRecDepth 20000 in
theorem ggL_law_X6_setFormula : GoodIn wsL_law wsX6_setFormula := goodIn_r _ [344, 15, 345, 94, 95, 2, 96, 97, 98, 99, 100, 19, 27, 101, 102, 103, 18, 104, 46, 105, 106, 107, 108, 109, 14, 110, 111, 112, 33, 113, 114, 115, 116, 34, 35, 36, 37, 38, 39, 40, 117, 118, 119, 26, 120, 121, 675, 676, 677, 678, 694, 695, 696, 697, 698, 699, 700, 701, 702, 703, 704, 705, 706, 713, 714, 715, 716] (by decide +kernel) (by decide +kernel)
set_option maxRecDepth 20000 in
theorem gL_law_X6_setFormula : GoodIn wsL_law (wsV RL 61 RX6 yX6_setFormula wsX6_setFormula) := goodIn_app (goodIn_of _ (by decide +kernel)) ggL_law_X6_setFormula
set_option maxRecDepth 20000 in
theorem ggL_law_X7_setFormula : GoodIn wsL_law wsX7_setFormula := goodIn_r _ [349, 78, 133, 134, 5, 135, 136, 137, 138, 139, 140, 79, 679, 680, 681, 682, 683, 684, 685, 686, 687, 688, 689, 690, 691, 692, 693] (by decide +kernel) (by decide +kernel)
set_option maxRecDepth 20000 in
theorem gL_law_X7_setFormula : GoodIn wsL_law (wsV RL 64 RX7 yX7_setFormula wsX7_setFormula) := goodIn_app (goodIn_of _ (by decide +kernel)) ggL_law_X7_setFormula
set_option maxRecDepth 20000 in
theorem ggL_law_X6_knownPriceBits : GoodIn wsL_law wsX6_knownPriceBits := goodIn_r _ [353, 27, 354, 155, 156, 157, 2, 158, 15, 90, 159, 160, 161, 355, 356, 357, 26, 358, 121, 59, 359, 360, 361, 362, 363, 63, 364, 365, 366, 14, 367, 38, 37, 39, 368, 369, 370, 371, 278, 279, 280, 281, 36, 40, 163, 164, 372, 373, 374, 375, 376, 377, 378, 379, 35, 380, 381, 382, 383, 384, 385, 386, 387, 388, 389, 390, 391, 392, 393, 394, 395, 396, 397, 398, 399, 400, 62, 401, 70, 72, 402, 403, 404, 405, 406, 407, 408, 409, 410, 411, 412, 413, 414, 73, 415, 416, 417, 418, 419, 420, 421, 422, 423, 424, 425, 426, 427, 428, 429, 430, 431, 432, 433, 434, 435, 436, 437, 438, 439, 440, 441, 442, 443, 444, 445, 64, 446, 447, 448, 449, 450, 451, 452, 453, 454, 455, 456, 457, 458, 459, 675, 676, 677, 678, 713, 714, 715, 716, 694, 695, 696, 697, 698, 699, 700, 701, 702, 703, 717, 718, 719] (by decide +kernel) (by decide +kernel)
set_option maxRecDepth 20000 in
theorem gL_law_X6_knownPriceBits : GoodIn wsL_law (wsV RL 65 RX6 yX6_knownPriceBits wsX6_knownPriceBits) := goodIn_app (goodIn_of _ (by decide +kernel)) ggL_law_X6_knownPriceBits
set_option maxRecDepth 20000 in
theorem ggL_law_X7_knownPriceBits : GoodIn wsL_law wsX7_knownPriceBits := goodIn_r _ [463, 84, 83, 170, 171, 172, 5, 173, 78, 133, 134, 135, 174, 175, 176, 464, 465, 466, 467, 85, 468, 469, 470, 471, 298, 299, 300, 301, 302, 303, 304, 305, 472, 473, 474, 475, 476, 477, 478, 479, 480, 481, 482, 483, 484, 485, 486, 487, 488, 489, 490, 491, 492, 493, 494, 495, 496, 497, 498, 499, 500, 501, 502, 503, 504, 505, 506, 507, 508, 509, 510, 511, 512, 513, 514, 679, 680, 681, 682, 683, 684, 685, 686, 687, 688, 689, 690, 691, 692, 693] (by decide +kernel) (by decide +kernel)
set_option maxRecDepth 20000 in
theorem gL_law_X7_knownPriceBits : GoodIn wsL_law (wsV RL 68 RX7 yX7_knownPriceBits wsX7_knownPriceBits) := goodIn_app (goodIn_of _ (by decide +kernel)) ggL_law_X7_knownPriceBits
set_option maxRecDepth 20000 in
theorem ggL_law_X6_isImputed : GoodIn wsL_law wsX6_isImputed := goodIn_r _ [518, 27, 354, 155, 156, 157, 2, 158, 15, 90, 159, 160, 161, 355, 356, 357, 26, 358, 121, 59, 359, 360, 361, 362, 363, 63, 364, 365, 366, 14, 367, 38, 37, 39, 368, 369, 370, 371, 278, 279, 280, 281, 36, 40, 163, 164, 372, 373, 374, 375, 376, 377, 378, 379, 35, 380, 381, 382, 383, 384, 385, 386, 387, 388, 389, 390, 391, 392, 393, 394, 395, 396, 397, 398, 399, 400, 62, 401, 70, 72, 402, 403, 404, 405, 406, 407, 408, 409, 410, 411, 412, 413, 414, 73, 415, 416, 417, 418, 419, 420, 421, 422, 423, 424, 425, 426, 427, 428, 429, 430, 431, 432, 433, 434, 435, 436, 437, 438, 439, 440, 441, 442, 443, 444, 445, 64, 446, 447, 448, 449, 450, 451, 452, 519, 520, 521, 522, 675, 676, 677, 678, 713, 714, 715, 716, 694, 695, 696, 697, 698, 699, 700, 701, 702, 703, 717, 718, 719] (by decide +kernel) (by decide +kernel)
set_option maxRecDepth 20000 in
theorem gL_law_X6_isImputed : GoodIn wsL_law (wsV RL 69 RX6 yX6_isImputed wsX6_isImputed) := goodIn_app (goodIn_of _ (by decide +kernel)) ggL_law_X6_isImputed
set_option maxRecDepth 20000 in
theorem ggL_law_X7_isImputed : GoodIn wsL_law wsX7_isImputed := goodIn_r _ [526, 84, 85, 170, 171, 172, 5, 173, 78, 133, 134, 135, 174, 175, 176, 464, 465, 466, 467, 83, 468, 469, 470, 471, 298, 299, 300, 301, 302, 303, 304, 305, 472, 473, 474, 475, 476, 477, 478, 479, 480, 481, 482, 483, 484, 485, 486, 487, 488, 489, 490, 491, 492, 493, 494, 495, 496, 497, 498, 499, 500, 501, 502, 679, 680, 681, 682, 683, 684, 685, 686, 687, 688, 689, 690, 691, 692, 693] (by decide +kernel) (by decide +kernel)
set_option maxRecDepth 20000 in
theorem gL_law_X7_isImputed : GoodIn wsL_law (wsV RL 72 RX7 yX7_isImputed wsX7_isImputed) := goodIn_app (goodIn_of _ (by decide +kernel)) ggL_law_X7_isImputed
set_option maxRecDepth 20000 in
theorem ggL_law_X6_imputedCount : GoodIn wsL_law wsX6_imputedCount := goodIn_r _ [530, 27, 15, 90, 159, 160, 2, 161, 355, 356, 357, 26, 358, 121, 59, 359, 360, 361, 362, 363, 63, 364, 365, 366, 14, 367, 38, 37, 39, 368, 369, 370, 371, 278, 279, 280, 281, 36, 40, 163, 164, 372, 373, 374, 375, 376, 377, 378, 379, 35, 380, 381, 382, 383, 384, 385, 386, 387, 388, 389, 390, 391, 392, 393, 394, 395, 396, 397, 398, 399, 400, 62, 401, 70, 72, 402, 403, 404, 405, 406, 407, 408, 409, 410, 411, 412, 413, 414, 73, 415, 416, 417, 418, 419, 420, 421, 422, 423, 424, 425, 426, 427, 428, 429, 430, 431, 432, 433, 434, 435, 436, 437, 438, 439, 440, 441, 442, 443, 444, 445, 64, 446, 447, 448, 449, 450, 451, 519, 520, 521, 522, 675, 676, 677, 678, 694, 695, 696, 697, 698, 699, 700, 701, 702, 703, 713, 714, 715, 716, 717, 718, 719] (by decide +kernel) (by decide +kernel)
set_option maxRecDepth 20000 in
theorem gL_law_X6_imputedCount : GoodIn wsL_law (wsV RL 73 RX6 yX6_imputedCount wsX6_imputedCount) := goodIn_app (goodIn_of _ (by decide +kernel)) ggL_law_X6_imputedCount
set_option maxRecDepth 20000 in
theorem ggL_law_X7_imputedCount : GoodIn wsL_law wsX7_imputedCount := goodIn_r _ [534, 78, 85, 174, 175, 5, 176, 133, 134, 135, 464, 465, 466, 467, 84, 83, 468, 469, 470, 471, 298, 299, 300, 301, 302, 303, 304, 305, 472, 473, 474, 475, 476, 477, 478, 479, 480, 481, 482, 483, 484, 485, 486, 487, 488, 489, 490, 491, 492, 493, 494, 495, 496, 497, 498, 499, 500, 501, 502, 679, 680, 681, 682, 683, 684, 685, 686, 687, 688, 689, 690, 691, 692, 693] (by decide +kernel) (by decide +kernel)
set_option maxRecDepth 20000 in
theorem gL_law_X7_imputedCount : GoodIn wsL_law (wsV RL 76 RX7 yX7_imputedCount wsX7_imputedCount) := goodIn_app (goodIn_of _ (by decide +kernel)) ggL_law_X7_imputedCount
set_option maxRecDepth 20000 in
theorem ggL_law_X6_matchedCount : GoodIn wsL_law wsX6_matchedCount := goodIn_r _ [538, 27, 539, 91, 92, 2, 93, 159, 160, 161, 355, 356, 357, 26, 358, 121, 59, 359, 360, 361, 362, 363, 63, 364, 365, 366, 14, 367, 38, 37, 39, 368, 369, 370, 371, 278, 279, 280, 281, 36, 40, 163, 164, 372, 373, 374, 375, 376, 377, 378, 379, 35, 380, 381, 382, 383, 384, 385, 386, 387, 388, 389, 390, 391, 392, 393, 394, 395, 396, 397, 398, 399, 400, 62, 401, 70, 72, 402, 403, 404, 405, 406, 407, 408, 409, 410, 411, 412, 413, 414, 73, 415, 416, 417, 418, 419, 420, 421, 422, 423, 424, 425, 426, 427, 428, 429, 430, 431, 432, 433, 434, 435, 436, 437, 438, 439, 440, 441, 442, 443, 444, 445, 64, 446, 447, 448, 449, 450, 451, 540, 675, 676, 677, 678, 713, 714, 715, 716, 694, 695, 696, 697, 698, 699, 700, 701, 702, 703, 717, 718, 719] (by decide +kernel) (by decide +kernel)
set_option maxRecDepth 20000 in
theorem gL_law_X6_matchedCount : GoodIn wsL_law (wsV RL 77 RX6 yX6_matchedCount wsX6_matchedCount) := goodIn_app (goodIn_of _ (by decide +kernel)) ggL_law_X6_matchedCount
set_option maxRecDepth 20000 in
theorem ggL_law_X7_matchedCount : GoodIn wsL_law wsX7_matchedCount := goodIn_r _ [544, 78, 545, 546, 5, 547, 130, 131, 132, 133, 134, 135, 174, 175, 176, 491, 492, 493, 494, 468, 469, 470, 471, 298, 299, 300, 301, 302, 303, 304, 305, 679, 680, 681, 682, 683, 684, 685, 686, 687, 688, 689, 690, 691, 692, 693] (by decide +kernel) (by decide +kernel)
set_option maxRecDepth 20000 in
theorem gL_law_X7_matchedCount : GoodIn wsL_law (wsV RL 80 RX7 yX7_matchedCount wsX7_matchedCount) := goodIn_app (goodIn_of _ (by decide +kernel)) ggL_law_X7_matchedCount
set_option maxRecDepth 20000 in
theorem ggL_law_X6_movementBits : GoodIn wsL_law wsX6_movementBits := goodIn_r _ [551, 27, 539, 91, 92, 2, 93, 159, 160, 161, 355, 356, 357, 26, 358, 121, 59, 359, 360, 361, 362, 363, 63, 364, 365, 366, 14, 367, 38, 37, 39, 368, 369, 370, 371, 278, 279, 280, 281, 36, 40, 163, 164, 372, 373, 374, 375, 376, 377, 378, 379, 35, 380, 381, 382, 383, 384, 385, 386, 387, 388, 389, 390, 391, 392, 393, 394, 395, 396, 397, 398, 399, 400, 62, 401, 70, 72, 402, 403, 404, 405, 406, 407, 408, 409, 410, 411, 412, 413, 414, 73, 415, 416, 417, 418, 419, 420, 421, 422, 423, 424, 425, 426, 427, 428, 429, 430, 431, 432, 433, 434, 435, 436, 437, 438, 439, 440, 441, 442, 443, 444, 445, 64, 446, 447, 448, 449, 450, 451, 552, 454, 455, 456, 457, 458, 459, 675, 676, 677, 678, 713, 714, 715, 716, 694, 695, 696, 697, 698, 699, 700, 701, 702, 703, 717, 718, 719] (by decide +kernel) (by decide +kernel)
set_option maxRecDepth 20000 in
theorem gL_law_X6_movementBits : GoodIn wsL_law (wsV RL 81 RX6 yX6_movementBits wsX6_movementBits) := goodIn_app (goodIn_of _ (by decide +kernel)) ggL_law_X6_movementBits
set_option maxRecDepth 20000 in
theorem ggL_law_X7_movementBits : GoodIn wsL_law wsX7_movementBits := goodIn_r _ [556, 545, 546, 5, 547, 130, 131, 132, 133, 134, 135, 174, 175, 176, 480, 481, 482, 483, 78, 484, 485, 486, 487, 488, 489, 490, 491, 492, 493, 494, 468, 469, 470, 471, 298, 299, 300, 301, 302, 303, 304, 305, 472, 473, 474, 475, 476, 477, 478, 479, 495, 496, 497, 498, 499, 500, 501, 502, 503, 504, 505, 506, 507, 508, 509, 510, 511, 512, 513, 514, 679, 680, 681, 682, 683, 684, 685, 686, 687, 688, 689, 690, 691, 692, 693] (by decide +kernel) (by decide +kernel)
set_option maxRecDepth 20000 in
theorem gL_law_X7_movementBits : GoodIn wsL_law (wsV RL 84 RX7 yX7_movementBits wsX7_movementBits) := goodIn_app (goodIn_of _ (by decide +kernel)) ggL_law_X7_movementBits
set_option maxRecDepth 20000 in
theorem ggL_law_X6_greatestRise : GoodIn wsL_law wsX6_greatestRise := goodIn_r _ [560, 27, 539, 91, 92, 2, 93, 159, 160, 161, 355, 356, 357, 26, 358, 121, 59, 359, 360, 361, 362, 363, 63, 364, 365, 366, 14, 367, 38, 37, 39, 368, 369, 370, 371, 278, 279, 280, 281, 36, 40, 163, 164, 372, 373, 374, 375, 376, 377, 378, 379, 35, 380, 381, 382, 383, 384, 385, 386, 387, 388, 389, 390, 391, 392, 393, 394, 395, 396, 397, 398, 399, 400, 62, 401, 70, 72, 402, 403, 404, 405, 406, 407, 408, 409, 410, 411, 412, 413, 414, 73, 415, 416, 417, 418, 419, 420, 421, 422, 423, 424, 425, 426, 427, 428, 429, 430, 431, 432, 433, 434, 435, 436, 437, 438, 439, 440, 441, 442, 443, 444, 445, 64, 446, 447, 448, 449, 450, 451, 561, 562, 563, 564, 675, 676, 677, 678, 713, 714, 715, 716, 694, 695, 696, 697, 698, 699, 700, 701, 702, 703, 717, 718, 719] (by decide +kernel) (by decide +kernel)
set_option maxRecDepth 20000 in
theorem gL_law_X6_greatestRise : GoodIn wsL_law (wsV RL 85 RX6 yX6_greatestRise wsX6_greatestRise) := goodIn_app (goodIn_of _ (by decide +kernel)) ggL_law_X6_greatestRise
set_option maxRecDepth 20000 in
theorem ggL_law_X7_greatestRise : GoodIn wsL_law wsX7_greatestRise := goodIn_r _ [568, 78, 545, 546, 5, 547, 130, 131, 132, 133, 134, 135, 174, 175, 176, 491, 492, 493, 494, 468, 469, 470, 471, 298, 299, 300, 301, 302, 303, 304, 305, 472, 473, 474, 475, 476, 477, 478, 479, 679, 680, 681, 682, 683, 684, 685, 686, 687, 688, 689, 690, 691, 692, 693] (by decide +kernel) (by decide +kernel)
set_option maxRecDepth 20000 in
theorem gL_law_X7_greatestRise : GoodIn wsL_law (wsV RL 88 RX7 yX7_greatestRise wsX7_greatestRise) := goodIn_app (goodIn_of _ (by decide +kernel)) ggL_law_X7_greatestRise
set_option maxRecDepth 20000 in
theorem ggL_law_X6_directIndex : GoodIn wsL_law wsX6_directIndex := goodIn_r _ [572, 27, 91, 92, 2, 93, 159, 160, 161, 355, 356, 357, 26, 358, 121, 59, 359, 360, 361, 362, 363, 63, 364, 365, 366, 14, 367, 38, 37, 39, 368, 369, 370, 371, 278, 279, 280, 281, 36, 40, 163, 164, 372, 373, 374, 375, 376, 377, 378, 379, 35, 380, 381, 382, 383, 384, 385, 386, 387, 388, 389, 390, 391, 392, 393, 394, 395, 396, 397, 398, 399, 400, 62, 401, 70, 72, 402, 403, 404, 405, 406, 407, 408, 409, 410, 411, 412, 413, 414, 73, 415, 416, 417, 418, 419, 420, 421, 422, 423, 424, 425, 426, 427, 428, 429, 430, 431, 432, 433, 434, 435, 436, 437, 438, 439, 440, 441, 442, 443, 444, 445, 64, 446, 447, 448, 449, 450, 451, 573, 574, 575, 576, 577, 578, 579, 580, 581, 582, 583, 584, 585, 586, 587, 675, 676, 677, 678, 713, 714, 715, 716, 694, 695, 696, 697, 698, 699, 700, 701, 702, 703, 717, 718, 719] (by decide +kernel) (by decide +kernel)
set_option maxRecDepth 20000 in
theorem gL_law_X6_directIndex : GoodIn wsL_law (wsV RL 89 RX6 yX6_directIndex wsX6_directIndex) := goodIn_app (goodIn_of _ (by decide +kernel)) ggL_law_X6_directIndex
set_option maxRecDepth 20000 in
theorem ggL_law_X7_directIndex : GoodIn wsL_law wsX7_directIndex := goodIn_r _ [591, 592, 545, 546, 5, 547, 130, 131, 132, 133, 134, 135, 174, 175, 176, 464, 465, 466, 467, 78, 85, 84, 83, 468, 469, 470, 471, 298, 299, 300, 301, 302, 303, 304, 305, 472, 473, 474, 475, 476, 477, 478, 479, 480, 481, 482, 483, 484, 485, 486, 487, 488, 489, 490, 491, 492, 493, 494, 495, 496, 497, 498, 499, 500, 501, 502, 593, 594, 595, 596, 597, 598, 599, 600, 601, 679, 680, 681, 682, 683, 684, 685, 686, 687, 688, 689, 690, 691, 692, 693] (by decide +kernel) (by decide +kernel)
set_option maxRecDepth 20000 in
theorem gL_law_X7_directIndex : GoodIn wsL_law (wsV RL 92 RX7 yX7_directIndex wsX7_directIndex) := goodIn_app (goodIn_of _ (by decide +kernel)) ggL_law_X7_directIndex
set_option maxRecDepth 20000 in
theorem ggL_law_X6_chainedIndex : GoodIn wsL_law wsX6_chainedIndex := goodIn_r _ [605, 27, 91, 92, 2, 93, 159, 160, 161, 355, 356, 357, 26, 358, 121, 59, 359, 360, 361, 362, 363, 63, 364, 365, 366, 14, 367, 38, 37, 39, 368, 369, 370, 371, 278, 279, 280, 281, 36, 40, 163, 164, 372, 373, 374, 375, 376, 377, 378, 379, 35, 380, 381, 382, 383, 384, 385, 386, 387, 388, 389, 390, 391, 392, 393, 394, 395, 396, 397, 398, 399, 400, 62, 401, 70, 72, 402, 403, 404, 405, 406, 407, 408, 409, 410, 411, 412, 413, 414, 73, 415, 416, 417, 418, 419, 420, 421, 422, 423, 424, 425, 426, 427, 428, 429, 430, 431, 432, 433, 434, 435, 436, 437, 438, 439, 440, 441, 442, 443, 444, 445, 64, 446, 447, 448, 449, 450, 451, 606, 607, 608, 609, 582, 583, 584, 585, 586, 587, 675, 676, 677, 678, 713, 714, 715, 716, 694, 695, 696, 697, 698, 699, 700, 701, 702, 703, 717, 718, 719] (by decide +kernel) (by decide +kernel)
set_option maxRecDepth 20000 in
theorem gL_law_X6_chainedIndex : GoodIn wsL_law (wsV RL 93 RX6 yX6_chainedIndex wsX6_chainedIndex) := goodIn_app (goodIn_of _ (by decide +kernel)) ggL_law_X6_chainedIndex
set_option maxRecDepth 20000 in
theorem ggL_law_X7_chainedIndex : GoodIn wsL_law wsX7_chainedIndex := goodIn_r _ [613, 545, 546, 5, 547, 130, 131, 132, 133, 134, 135, 174, 175, 176, 614, 615, 616, 617, 597, 480, 481, 482, 483, 78, 484, 485, 486, 487, 488, 489, 490, 491, 492, 493, 494, 468, 469, 470, 471, 298, 299, 300, 301, 302, 303, 304, 305, 472, 473, 474, 475, 476, 477, 478, 479, 495, 496, 497, 498, 499, 500, 501, 502, 598, 599, 600, 601, 679, 680, 681, 682, 683, 684, 685, 686, 687, 688, 689, 690, 691, 692, 693] (by decide +kernel) (by decide +kernel)
set_option maxRecDepth 20000 in
theorem gL_law_X7_chainedIndex : GoodIn wsL_law (wsV RL 96 RX7 yX7_chainedIndex wsX7_chainedIndex) := goodIn_app (goodIn_of _ (by decide +kernel)) ggL_law_X7_chainedIndex
set_option maxRecDepth 20000 in
theorem ggL_law_X6_drift : GoodIn wsL_law wsX6_drift := goodIn_r _ [621, 27, 622, 91, 92, 2, 93, 159, 160, 161, 355, 356, 357, 26, 358, 121, 59, 359, 360, 361, 362, 363, 63, 364, 365, 366, 14, 367, 38, 37, 39, 368, 369, 370, 371, 278, 279, 280, 281, 36, 40, 163, 164, 372, 373, 374, 375, 376, 377, 378, 379, 35, 380, 381, 382, 383, 384, 385, 386, 387, 388, 389, 390, 391, 392, 393, 394, 395, 396, 397, 398, 399, 400, 62, 401, 70, 72, 402, 403, 404, 405, 406, 407, 408, 409, 410, 411, 412, 413, 414, 73, 415, 416, 417, 418, 419, 420, 421, 422, 423, 424, 425, 426, 427, 428, 429, 430, 431, 432, 433, 434, 435, 436, 437, 438, 439, 440, 441, 442, 443, 444, 445, 64, 446, 447, 448, 449, 450, 451, 573, 574, 575, 576, 577, 606, 607, 608, 609, 582, 583, 584, 585, 586, 587, 578, 579, 580, 581, 675, 676, 677, 678, 713, 714, 715, 716, 694, 695, 696, 697, 698, 699, 700, 701, 702, 703, 717, 718, 719] (by decide +kernel) (by decide +kernel)
set_option maxRecDepth 20000 in
theorem gL_law_X6_drift : GoodIn wsL_law (wsV RL 97 RX6 yX6_drift wsX6_drift) := goodIn_app (goodIn_of _ (by decide +kernel)) ggL_law_X6_drift
set_option maxRecDepth 20000 in
theorem ggL_law_X7_drift : GoodIn wsL_law wsX7_drift := goodIn_r _ [626, 627, 592, 545, 546, 5, 547, 130, 131, 132, 133, 134, 135, 174, 175, 176, 614, 615, 616, 617, 597, 480, 481, 482, 483, 78, 484, 485, 486, 487, 488, 489, 490, 491, 492, 493, 494, 468, 469, 470, 471, 298, 299, 300, 301, 302, 303, 304, 305, 472, 473, 474, 475, 476, 477, 478, 479, 495, 496, 497, 498, 499, 500, 501, 502, 598, 599, 600, 601, 464, 465, 466, 467, 85, 84, 83, 593, 594, 595, 596, 679, 680, 681, 682, 683, 684, 685, 686, 687, 688, 689, 690, 691, 692, 693] (by decide +kernel) (by decide +kernel)
set_option maxRecDepth 20000 in
theorem gL_law_X7_drift : GoodIn wsL_law (wsV RL 100 RX7 yX7_drift wsX7_drift) := goodIn_app (goodIn_of _ (by decide +kernel)) ggL_law_X7_drift
set_option maxRecDepth 20000 in
theorem ggL_law_X6_aggregateIndex : GoodIn wsL_law wsX6_aggregateIndex := goodIn_r _ [631, 27, 159, 160, 2, 161, 355, 356, 357, 26, 358, 121, 59, 359, 360, 361, 362, 363, 63, 364, 365, 366, 14, 367, 38, 37, 39, 368, 369, 370, 371, 278, 279, 280, 281, 36, 40, 163, 164, 372, 373, 374, 375, 376, 377, 378, 379, 35, 380, 381, 382, 383, 384, 385, 386, 387, 388, 389, 390, 391, 392, 393, 394, 395, 396, 397, 398, 399, 400, 62, 401, 70, 72, 402, 403, 404, 405, 406, 407, 408, 409, 410, 411, 412, 413, 414, 73, 415, 416, 417, 418, 419, 420, 421, 422, 423, 424, 425, 426, 427, 428, 429, 430, 431, 432, 433, 434, 435, 436, 437, 438, 439, 440, 441, 442, 443, 444, 445, 64, 446, 447, 448, 449, 450, 451, 632, 633, 634, 635, 636, 637, 574, 575, 576, 577, 638, 639, 640, 641, 642, 579, 580, 581, 582, 643, 644, 645, 583, 584, 585, 586, 587, 675, 676, 677, 678, 713, 714, 715, 716, 694, 695, 696, 697, 698, 699, 700, 701, 702, 703, 717, 718, 719] (by decide +kernel) (by decide +kernel)
set_option maxRecDepth 20000 in
theorem gL_law_X6_aggregateIndex : GoodIn wsL_law (wsV RL 101 RX6 yX6_aggregateIndex wsX6_aggregateIndex) := goodIn_app (goodIn_of _ (by decide +kernel)) ggL_law_X6_aggregateIndex
set_option maxRecDepth 20000 in
theorem ggL_law_X7_aggregateIndex : GoodIn wsL_law wsX7_aggregateIndex := goodIn_r _ [649, 592, 174, 175, 5, 176, 133, 134, 135, 650, 651, 652, 653, 78, 464, 465, 466, 467, 85, 84, 83, 468, 469, 470, 471, 298, 299, 300, 301, 302, 303, 304, 305, 472, 473, 474, 475, 476, 477, 478, 479, 480, 481, 482, 483, 484, 485, 486, 487, 488, 489, 490, 491, 492, 493, 494, 495, 496, 497, 498, 499, 500, 501, 502, 593, 594, 595, 596, 597, 598, 599, 600, 601, 679, 680, 681, 682, 683, 684, 685, 686, 687, 688, 689, 690, 691, 692, 693] (by decide +kernel) (by decide +kernel)
set_option maxRecDepth 20000 in
theorem gL_law_X7_aggregateIndex : GoodIn wsL_law (wsV RL 104 RX7 yX7_aggregateIndex wsX7_aggregateIndex) := goodIn_app (goodIn_of _ (by decide +kernel)) ggL_law_X7_aggregateIndex
set_option maxRecDepth 20000 in
theorem ggL_law_X6_aggregateBits : GoodIn wsL_law wsX6_aggregateBits := goodIn_r _ [657, 27, 159, 160, 2, 161, 355, 356, 357, 26, 358, 121, 59, 359, 360, 361, 362, 363, 63, 364, 365, 366, 14, 367, 38, 37, 39, 368, 369, 370, 371, 278, 279, 280, 281, 36, 40, 163, 164, 372, 373, 374, 375, 376, 377, 378, 379, 35, 380, 381, 382, 383, 384, 385, 386, 387, 388, 389, 390, 391, 392, 393, 394, 395, 396, 397, 398, 399, 400, 62, 401, 70, 72, 402, 403, 404, 405, 406, 407, 408, 409, 410, 411, 412, 413, 414, 73, 415, 416, 417, 418, 419, 420, 421, 422, 423, 424, 425, 426, 427, 428, 429, 430, 431, 432, 433, 434, 435, 436, 437, 438, 439, 440, 441, 442, 443, 444, 445, 64, 446, 447, 448, 449, 450, 451, 632, 633, 634, 635, 636, 637, 574, 575, 576, 577, 638, 639, 640, 641, 642, 579, 580, 581, 582, 643, 644, 645, 454, 455, 456, 457, 458, 459, 675, 676, 677, 678, 713, 714, 715, 716, 694, 695, 696, 697, 698, 699, 700, 701, 702, 703, 717, 718, 719] (by decide +kernel) (by decide +kernel)
set_option maxRecDepth 20000 in
theorem gL_law_X6_aggregateBits : GoodIn wsL_law (wsV RL 105 RX6 yX6_aggregateBits wsX6_aggregateBits) := goodIn_app (goodIn_of _ (by decide +kernel)) ggL_law_X6_aggregateBits
set_option maxRecDepth 20000 in
theorem ggL_law_X7_aggregateBits : GoodIn wsL_law wsX7_aggregateBits := goodIn_r _ [661, 592, 174, 175, 5, 176, 133, 134, 135, 650, 651, 652, 653, 78, 464, 465, 466, 467, 85, 84, 83, 468, 469, 470, 471, 298, 299, 300, 301, 302, 303, 304, 305, 472, 473, 474, 475, 476, 477, 478, 479, 480, 481, 482, 483, 484, 485, 486, 487, 488, 489, 490, 491, 492, 493, 494, 495, 496, 497, 498, 499, 500, 501, 502, 593, 594, 595, 596, 597, 503, 504, 505, 506, 507, 508, 509, 510, 511, 512, 513, 514, 679, 680, 681, 682, 683, 684, 685, 686, 687, 688, 689, 690, 691, 692, 693] (by decide +kernel) (by decide +kernel)
set_option maxRecDepth 20000 in
theorem gL_law_X7_aggregateBits : GoodIn wsL_law (wsV RL 108 RX7 yX7_aggregateBits wsX7_aggregateBits) := goodIn_app (goodIn_of _ (by decide +kernel)) ggL_law_X7_aggregateBits
set_option maxRecDepth 20000 in
theorem ggL_law_X6_undo : GoodIn wsL_law wsX6_undo := goodIn_r _ [665, 19, 666, 27, 15, 117, 118, 119, 26, 120, 121, 667, 668, 669, 18, 670, 105, 106, 46, 107, 108, 109, 14, 110, 111, 112, 33, 113, 114, 115, 116, 34, 35, 36, 37, 38, 39, 40, 675, 676, 677, 678, 704, 705, 706, 713, 714, 715, 716, 694, 695, 696, 697, 698, 699, 700, 701, 702, 703] (by decide +kernel) (by decide +kernel)
set_option maxRecDepth 20000 in
theorem gL_law_X6_undo : GoodIn wsL_law (wsV RL 109 RX6 yX6_undo wsX6_undo) := goodIn_app (goodIn_of _ (by decide +kernel)) ggL_law_X6_undo
set_option maxRecDepth 20000 in
theorem ggL_law_X7_undo : GoodIn wsL_law wsX7_undo := goodIn_r _ [674, 140, 78, 79, 679, 680, 681, 682, 683, 684, 685, 686, 687, 688, 689, 690, 691, 692, 693] (by decide +kernel) (by decide +kernel)
set_option maxRecDepth 20000 in
theorem gL_law_X7_undo : GoodIn wsL_law (wsV RL 112 RX7 yX7_undo wsX7_undo) := goodIn_app (goodIn_of _ (by decide +kernel)) ggL_law_X7_undo
