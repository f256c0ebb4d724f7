theorem in_r {big ws : List Cond} (ps : List Nat) (hp : ws = ps.filterMap (fun i => big[i]?)) : ∀ w ∈ ws, w ∈ big := by
  intro w h
  rw [hp] at h
  obtain ⟨i, -, hi⟩ := List.mem_filterMap.mp h
  exact List.mem_of_getElem? hi
theorem in_app {big a b : List Cond} (ha : ∀ w ∈ a, w ∈ big) (hb : ∀ w ∈ b, w ∈ big) : ∀ w ∈ a ++ b, w ∈ big := fun w h => (List.mem_append.mp h).elim (ha w) (hb w)
set_option maxRecDepth 20000 in
theorem in_wsL_law_r1 : ∀ w ∈ wsL_law_r1, w ∈ lw_tbl := in_r [44, 45, 34, 543, 544, 40, 46, 47, 48, 49, 50, 51, 52, 53, 35, 189, 101, 102, 36, 190, 121, 122, 37, 191] (by decide +kernel)
set_option maxRecDepth 20000 in
theorem in_wsL_law_r2 : ∀ w ∈ wsL_law_r2, w ∈ lw_tbl := in_r [150, 151, 38, 192, 54, 55, 56, 57, 100, 65, 68, 71, 72, 73, 75, 76, 77, 103, 104, 105, 106, 107, 110, 109] (by decide +kernel)
set_option maxRecDepth 20000 in
theorem in_wsL_law_r3 : ∀ w ∈ wsL_law_r3, w ∈ lw_tbl := in_r [124, 125, 126, 127, 129, 131, 135, 152, 153, 154, 155, 178, 156, 157, 39, 174, 176, 158, 159, 160, 161, 172, 163, 173] (by decide +kernel)
set_option maxRecDepth 20000 in
theorem in_wsL_law_r4 : ∀ w ∈ wsL_law_r4, w ∈ lw_tbl := in_r [164, 162, 545, 546, 547, 548, 549, 550, 595, 552, 556, 560, 561, 562, 202, 203, 204, 205, 59, 206, 207, 208, 209, 210] (by decide +kernel)
set_option maxRecDepth 20000 in
theorem in_wsL_law_r5 : ∀ w ∈ wsL_law_r5, w ∈ lw_tbl := in_r [211, 212, 214, 0, 215, 216, 217, 218, 219, 111, 112, 220, 221, 222, 223, 58, 62, 224, 226, 225, 41, 227, 228, 229] (by decide +kernel)
set_option maxRecDepth 20000 in
theorem in_wsL_law_r6 : ∀ w ∈ wsL_law_r6, w ∈ lw_tbl := in_r [230, 179, 231, 232, 233, 234, 600, 601, 602, 603, 604, 605, 606, 607, 608, 609, 610, 612, 11, 613, 551, 235, 236, 237] (by decide +kernel)
set_option maxRecDepth 20000 in
theorem in_wsL_law_r7 : ∀ w ∈ wsL_law_r7, w ∈ lw_tbl := in_r [238, 614, 615, 616, 617, 239, 240, 241, 242, 250, 78, 243, 245, 1, 246, 247, 248, 249, 251, 252, 253, 618, 619, 620] (by decide +kernel)
set_option maxRecDepth 20000 in
theorem in_wsL_law_r8 : ∀ w ∈ wsL_law_r8, w ∈ lw_tbl := in_r [621, 629, 622, 624, 12, 625, 626, 627, 628, 254, 255, 256, 257, 630, 631, 632, 633, 258, 259, 260, 261, 134, 262, 263] (by decide +kernel)
set_option maxRecDepth 20000 in
theorem in_wsL_law_r9 : ∀ w ∈ wsL_law_r9, w ∈ lw_tbl := in_r [264, 265, 133, 634, 635, 636, 637, 553, 266, 267, 268, 269, 270, 271, 272, 273, 638, 639, 640, 641, 274, 275, 276, 277] (by decide +kernel)
set_option maxRecDepth 20000 in
theorem in_wsL_law_r10 : ∀ w ∈ wsL_law_r10, w ∈ lw_tbl := in_r [128, 130, 132, 278, 279, 280, 281, 136, 282, 284, 2, 285, 301, 286, 288, 3, 289, 290, 291, 292, 293, 295, 4, 296] (by decide +kernel)
set_option maxRecDepth 20000 in
theorem in_wsL_law_r11 : ∀ w ∈ wsL_law_r11, w ∈ lw_tbl := in_r [297, 299, 5, 300, 642, 643, 644, 645, 555, 554, 646, 648, 13, 649, 650, 652, 14, 653, 654, 656, 15, 657, 658, 660] (by decide +kernel)
set_option maxRecDepth 20000 in
theorem in_wsL_law_r12 : ∀ w ∈ wsL_law_r12, w ∈ lw_tbl := in_r [16, 661, 302, 303, 304, 305, 306, 307, 308, 309, 310, 311, 312, 313, 314, 315, 316, 317, 319, 320, 321, 322, 323, 324] (by decide +kernel)
set_option maxRecDepth 20000 in
theorem in_wsL_law_r13 : ∀ w ∈ wsL_law_r13, w ∈ lw_tbl := in_r [325, 326, 662, 663, 664, 665, 666, 668, 17, 669, 670, 672, 18, 673, 674, 676, 19, 677, 678, 680, 20, 681, 327, 328] (by decide +kernel)
set_option maxRecDepth 20000 in
theorem in_wsL_law_r14 : ∀ w ∈ wsL_law_r14, w ∈ lw_tbl := in_r [329, 330, 331, 332, 333, 334, 335, 682, 683, 684, 685, 336, 337, 338, 339, 74, 686, 687, 688, 689, 340, 341, 342, 343] (by decide +kernel)
set_option maxRecDepth 20000 in
theorem in_wsL_law_r15 : ∀ w ∈ wsL_law_r15, w ∈ lw_tbl := in_r [67, 690, 691, 692, 693, 344, 345, 346, 347, 64, 694, 695, 696, 697, 348, 349, 350, 351, 177, 352, 353, 354, 355, 60] (by decide +kernel)
set_option maxRecDepth 20000 in
theorem in_wsL_law_r16 : ∀ w ∈ wsL_law_r16, w ∈ lw_tbl := in_r [356, 358, 6, 359, 360, 361, 362, 363, 364, 365, 366, 367, 368, 369, 370, 371, 372, 373, 374, 375, 376, 377, 42, 378] (by decide +kernel)
set_option maxRecDepth 20000 in
theorem in_wsL_law_r17 : ∀ w ∈ wsL_law_r17, w ∈ lw_tbl := in_r [379, 380, 381, 382, 383, 384, 385, 386, 387, 388, 389, 390, 391, 392, 393, 394, 395, 396, 398, 399, 400, 401, 402, 404] (by decide +kernel)
set_option maxRecDepth 20000 in
theorem in_wsL_law_r18 : ∀ w ∈ wsL_law_r18, w ∈ lw_tbl := in_r [7, 405, 69, 406, 407, 408, 409, 63, 410, 411, 412, 413, 61, 414, 415, 416, 417, 70, 418, 420, 8, 421, 422, 423] (by decide +kernel)
set_option maxRecDepth 20000 in
theorem in_wsL_law_r19 : ∀ w ∈ wsL_law_r19, w ∈ lw_tbl := in_r [424, 425, 426, 427, 428, 429, 430, 432, 9, 433, 434, 436, 10, 437, 438, 439, 440, 441, 442, 443, 444, 445, 446, 447] (by decide +kernel)
set_option maxRecDepth 20000 in
theorem in_wsL_law_r20 : ∀ w ∈ wsL_law_r20, w ∈ lw_tbl := in_r [448, 449, 450, 451, 698, 699, 700, 701, 702, 704, 21, 705, 706, 708, 22, 709, 710, 712, 23, 713, 714, 716, 24, 717] (by decide +kernel)
set_option maxRecDepth 20000 in
theorem in_wsL_law_r21 : ∀ w ∈ wsL_law_r21, w ∈ lw_tbl := in_r [718, 720, 25, 721, 559, 722, 724, 26, 725, 557, 558, 726, 728, 27, 729, 730, 732, 28, 733, 734, 736, 29, 737, 738] (by decide +kernel)
set_option maxRecDepth 20000 in
theorem in_wsL_law_r22 : ∀ w ∈ wsL_law_r22, w ∈ lw_tbl := in_r [739, 43, 740, 744, 746, 745, 43, 747, 741, 742, 743, 452, 453, 454, 455, 456, 457, 458, 459, 748, 749, 750, 751, 460] (by decide +kernel)
set_option maxRecDepth 20000 in
theorem in_wsL_law_r23 : ∀ w ∈ wsL_law_r23, w ∈ lw_tbl := in_r [461, 462, 463, 752, 753, 754, 755, 464, 465, 466, 467, 175, 468, 756, 757, 758, 759, 760, 761, 762, 469, 470, 471, 472] (by decide +kernel)
set_option maxRecDepth 20000 in
theorem in_wsL_law_r24 : ∀ w ∈ wsL_law_r24, w ∈ lw_tbl := in_r [473, 763, 764, 765, 766, 474, 475, 476, 477, 478, 479, 480, 481, 767, 768, 769, 770, 482, 483, 484, 485, 486, 487, 488] (by decide +kernel)
set_option maxRecDepth 20000 in
theorem in_wsL_law_r25 : ∀ w ∈ wsL_law_r25, w ∈ lw_tbl := in_r [489, 490, 491, 492, 493, 494, 495, 496, 497, 498, 499, 500, 771, 772, 773, 774, 563, 775, 777, 30, 778, 779, 780, 781] (by decide +kernel)
set_option maxRecDepth 20000 in
theorem in_wsL_law_r26 : ∀ w ∈ wsL_law_r26, w ∈ lw_tbl := in_r [782, 783, 501, 502, 503, 504, 505, 506, 507, 508, 784, 785, 786, 787, 788, 790, 31, 791, 509, 510, 511, 512, 513, 792] (by decide +kernel)
set_option maxRecDepth 20000 in
theorem in_wsL_law_r27 : ∀ w ∈ wsL_law_r27, w ∈ lw_tbl := in_r [793, 794, 795, 796, 514, 515, 516, 517, 518, 519, 520, 521, 66, 522, 523, 524, 525, 526, 527, 528, 529, 530, 797, 798] (by decide +kernel)
set_option maxRecDepth 20000 in
theorem in_wsL_law_r28 : ∀ w ∈ wsL_law_r28, w ∈ lw_tbl := in_r [799, 800, 801, 803, 32, 804, 531, 532, 533, 534, 805, 806, 807, 808, 535, 536, 537, 538, 113, 539, 540, 541, 542, 596] (by decide +kernel)
set_option maxRecDepth 20000 in
theorem in_wsL_law_r29 : ∀ w ∈ wsL_law_r29, w ∈ lw_tbl := in_r [597, 598, 599] (by decide +kernel)
set_option maxRecDepth 20000 in
theorem in_wsX60 : ∀ w ∈ wsX60, w ∈ lw_tbl := in_r [193, 195, 197, 199] (by decide +kernel)
set_option maxRecDepth 20000 in
theorem in_wsX70 : ∀ w ∈ wsX70, w ∈ lw_tbl := in_r [564, 566, 568, 570, 572, 574, 576, 578, 580, 582, 584, 586, 588, 590, 592] (by decide +kernel)
set_option maxRecDepth 20000 in
theorem in_wsX00 : ∀ w ∈ wsX00, w ∈ lw_tbl := in_r [79, 81, 83, 85, 87, 89, 91, 93, 95, 97] (by decide +kernel)
set_option maxRecDepth 20000 in
theorem in_wsX10 : ∀ w ∈ wsX10, w ∈ lw_tbl := in_r [114, 116, 118] (by decide +kernel)
set_option maxRecDepth 20000 in
theorem in_wsX40 : ∀ w ∈ wsX40, w ∈ lw_tbl := in_r [137, 139, 141, 143, 145, 147] (by decide +kernel)
set_option maxRecDepth 20000 in
theorem in_wsX30 : ∀ w ∈ wsX30, w ∈ lw_tbl := in_r [180, 182, 184, 186] (by decide +kernel)
set_option maxRecDepth 20000 in
theorem in_wsX20 : ∀ w ∈ wsX20, w ∈ lw_tbl := in_r [165, 167, 169] (by decide +kernel)
theorem wsL_law_in : ∀ w ∈ wsL_law, w ∈ lw_tbl := in_app (in_app (in_app (in_app (in_app (in_app (in_app (in_app (in_app in_wsL_law_r1 (in_app in_wsL_law_r2 (in_app in_wsL_law_r3 (in_app in_wsL_law_r4 (in_app in_wsL_law_r5 (in_app in_wsL_law_r6 (in_app in_wsL_law_r7 (in_app in_wsL_law_r8 (in_app in_wsL_law_r9 (in_app in_wsL_law_r10 (in_app in_wsL_law_r11 (in_app in_wsL_law_r12 (in_app in_wsL_law_r13 (in_app in_wsL_law_r14 (in_app in_wsL_law_r15 (in_app in_wsL_law_r16 (in_app in_wsL_law_r17 (in_app in_wsL_law_r18 (in_app in_wsL_law_r19 (in_app in_wsL_law_r20 (in_app in_wsL_law_r21 (in_app in_wsL_law_r22 (in_app in_wsL_law_r23 (in_app in_wsL_law_r24 (in_app in_wsL_law_r25 (in_app in_wsL_law_r26 (in_app in_wsL_law_r27 (in_app in_wsL_law_r28 (in_wsL_law_r29))))))))))))))))))))))))))))) in_wsX60) in_wsX70) in_wsX00) in_wsX10) in_wsX40) in_wsX30) in_wsX20) (fun w h => absurd h List.not_mem_nil)
