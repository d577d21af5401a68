set_option maxRecDepth 20000 in
theorem wsL_law0_r1_in : ∀ w ∈ wsL_law0_r1, w ∈ lw_tbl := fun w h => (goodIn_r wsL_law0_r1 [43, 44, 28, 692, 693, 35, 921, 45, 46, 47, 48, 49, 50, 51, 52, 29, 250, 251, 213, 98, 32, 252, 215, 124] (by decide +kernel) (by decide +kernel) w h).1
set_option maxRecDepth 20000 in
theorem wsL_law0_r2_in : ∀ w ∈ wsL_law0_r2, w ∈ lw_tbl := fun w h => (goodIn_r wsL_law0_r2 [33, 253, 54, 55, 56, 57, 58, 30, 174, 80, 81, 31, 176, 177, 178, 179, 97, 180, 123, 182, 145, 146, 34, 184] (by decide +kernel) (by decide +kernel) w h).1
set_option maxRecDepth 20000 in
theorem wsL_law0_r3_in : ∀ w ∈ wsL_law0_r3, w ∈ lw_tbl := fun w h => (goodIn_r wsL_law0_r3 [60, 61, 62, 79, 63, 65, 83, 84, 85, 86, 88, 100, 101, 102, 103, 105, 106, 107, 126, 127, 128, 129, 131, 148] (by decide +kernel) (by decide +kernel) w h).1
set_option maxRecDepth 20000 in
theorem wsL_law0_r4_in : ∀ w ∈ wsL_law0_r4, w ∈ lw_tbl := fun w h => (goodIn_r wsL_law0_r4 [149, 150, 151, 153, 217, 219, 0, 220, 254, 221, 222, 223, 224, 186, 187, 225, 226, 227, 228, 188, 229, 230, 231, 232] (by decide +kernel) (by decide +kernel) w h).1
set_option maxRecDepth 20000 in
theorem wsL_law0_r5_in : ∀ w ∈ wsL_law0_r5, w ∈ lw_tbl := fun w h => (goodIn_r wsL_law0_r5 [67, 68, 233, 234, 235, 236, 90, 237, 238, 239, 240, 241, 108, 109, 242, 243, 244, 245, 133, 134, 246, 247, 248, 249] (by decide +kernel) (by decide +kernel) w h).1
set_option maxRecDepth 20000 in
theorem wsL_law0_r6_in : ∀ w ∈ wsL_law0_r6, w ∈ lw_tbl := fun w h => (goodIn_r wsL_law0_r6 [155, 156, 158, 159, 694, 695, 696, 697, 699, 700, 701, 702, 703, 704, 705, 706, 738, 707, 708, 266, 267, 27, 268, 269] (by decide +kernel) (by decide +kernel) w h).1
set_option maxRecDepth 20000 in
theorem wsL_law0_r7_in : ∀ w ∈ wsL_law0_r7, w ∈ lw_tbl := fun w h => (goodIn_r wsL_law0_r7 [270, 271, 272, 273, 274, 275, 276, 277, 39, 743, 744, 745, 746, 747, 748, 749, 750, 752, 9, 753, 698, 739, 740, 741] (by decide +kernel) (by decide +kernel) w h).1
set_option maxRecDepth 20000 in
theorem wsL_law0_r8_in : ∀ w ∈ wsL_law0_r8, w ∈ lw_tbl := fun w h => (goodIn_r wsL_law0_r8 [742, 345, 346, 347, 348, 349, 350, 351, 352, 353, 354, 355, 357, 2, 358, 359, 360, 361, 362, 40, 378, 379, 380, 381] (by decide +kernel) (by decide +kernel) w h).1
set_option maxRecDepth 20000 in
theorem wsL_law0_r9_in : ∀ w ∈ wsL_law0_r9, w ∈ lw_tbl := fun w h => (goodIn_r wsL_law0_r9 [382, 383, 384, 385, 387, 388, 390, 391, 392, 393, 394, 395, 396, 397, 398, 399, 400, 401, 402, 403, 404, 416, 417, 41] (by decide +kernel) (by decide +kernel) w h).1
set_option maxRecDepth 20000 in
theorem wsL_law0_r10_in : ∀ w ∈ wsL_law0_r10, w ∈ lw_tbl := fun w h => (goodIn_r wsL_law0_r10 [418, 405, 407, 3, 408, 409, 411, 4, 412, 414, 415, 420, 421, 422, 423, 424, 425, 426, 427, 439, 428, 430, 5, 431] (by decide +kernel) (by decide +kernel) w h).1
set_option maxRecDepth 20000 in
theorem wsL_law0_r11_in : ∀ w ∈ wsL_law0_r11, w ∈ lw_tbl := fun w h => (goodIn_r wsL_law0_r11 [432, 433, 434, 435, 436, 441, 442, 443, 444, 445, 447, 449, 6, 450, 754, 755, 756, 757, 758, 453, 454, 455, 456, 457] (by decide +kernel) (by decide +kernel) w h).1
set_option maxRecDepth 20000 in
theorem wsL_law0_r12_in : ∀ w ∈ wsL_law0_r12, w ∈ lw_tbl := fun w h => (goodIn_r wsL_law0_r12 [458, 459, 460, 759, 760, 761, 762, 763, 765, 10, 766, 461, 462, 463, 464, 465, 466, 467, 767, 768, 769, 770, 468, 469] (by decide +kernel) (by decide +kernel) w h).1
set_option maxRecDepth 20000 in
theorem wsL_law0_r13_in : ∀ w ∈ wsL_law0_r13, w ∈ lw_tbl := fun w h => (goodIn_r wsL_law0_r13 [470, 471, 472, 473, 474, 475, 771, 772, 773, 774, 775, 777, 11, 778, 779, 781, 12, 782, 476, 477, 478, 479, 480, 481] (by decide +kernel) (by decide +kernel) w h).1
set_option maxRecDepth 20000 in
theorem wsL_law0_r14_in : ∀ w ∈ wsL_law0_r14, w ∈ lw_tbl := fun w h => (goodIn_r wsL_law0_r14 [482, 483, 484, 485, 486, 487, 783, 784, 785, 786, 488, 489, 490, 491, 492, 493, 494, 495, 496, 497, 498, 499, 42, 787] (by decide +kernel) (by decide +kernel) w h).1
