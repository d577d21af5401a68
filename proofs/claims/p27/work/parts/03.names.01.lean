set_option maxRecDepth 20000 in
theorem wsL_law0_r1_in : ∀ w ∈ wsL_law0_r1, w ∈ lw_tbl := fun w h => (goodIn_r wsL_law0_r1 [24, 25, 10, 539, 693, 435, 26, 27, 28, 29, 30, 31, 32, 33, 11, 231, 232, 194, 79, 14, 233, 196, 105, 15] (by decide +kernel) (by decide +kernel) w h).1
set_option maxRecDepth 20000 in
theorem wsL_law0_r2_in : ∀ w ∈ wsL_law0_r2, w ∈ lw_tbl := fun w h => (goodIn_r wsL_law0_r2 [234, 35, 36, 37, 38, 39, 12, 155, 61, 62, 13, 157, 158, 159, 160, 78, 161, 104, 163, 126, 127, 16, 165, 41] (by decide +kernel) (by decide +kernel) w h).1
set_option maxRecDepth 20000 in
theorem wsL_law0_r3_in : ∀ w ∈ wsL_law0_r3, w ∈ lw_tbl := fun w h => (goodIn_r wsL_law0_r3 [42, 43, 60, 44, 46, 64, 65, 66, 67, 69, 81, 82, 83, 84, 86, 87, 88, 107, 108, 109, 110, 112, 129, 130] (by decide +kernel) (by decide +kernel) w h).1
set_option maxRecDepth 20000 in
theorem wsL_law0_r4_in : ∀ w ∈ wsL_law0_r4, w ∈ lw_tbl := fun w h => (goodIn_r wsL_law0_r4 [131, 132, 134, 198, 200, 0, 201, 235, 202, 203, 204, 205, 167, 168, 206, 207, 208, 209, 169, 210, 211, 212, 213, 48] (by decide +kernel) (by decide +kernel) w h).1
set_option maxRecDepth 20000 in
theorem wsL_law0_r5_in : ∀ w ∈ wsL_law0_r5, w ∈ lw_tbl := fun w h => (goodIn_r wsL_law0_r5 [49, 214, 215, 216, 217, 71, 218, 219, 220, 221, 222, 89, 90, 223, 224, 225, 226, 114, 115, 227, 228, 229, 230, 136] (by decide +kernel) (by decide +kernel) w h).1
set_option maxRecDepth 20000 in
theorem wsL_law0_r6_in : ∀ w ∈ wsL_law0_r6, w ∈ lw_tbl := fun w h => (goodIn_r wsL_law0_r6 [137, 139, 140, 531, 532, 9, 533, 534, 535, 247, 248, 249, 250, 326, 251, 252, 253, 254, 255, 256, 257, 258, 20, 444] (by decide +kernel) (by decide +kernel) w h).1
set_option maxRecDepth 20000 in
theorem wsL_law0_r7_in : ∀ w ∈ wsL_law0_r7, w ∈ lw_tbl := fun w h => (goodIn_r wsL_law0_r7 [445, 446, 447, 448, 449, 450, 337, 339, 2, 340, 536, 537, 538, 483, 611, 610, 327, 328, 329, 330, 331, 332, 333, 334] (by decide +kernel) (by decide +kernel) w h).1
set_option maxRecDepth 20000 in
theorem wsL_law0_r8_in : ∀ w ∈ wsL_law0_r8, w ∈ lw_tbl := fun w h => (goodIn_r wsL_law0_r8 [335, 336, 341, 342, 343, 344, 21, 360, 361, 362, 363, 364, 365, 366, 367, 369, 370, 372, 373, 374, 375, 376, 377, 378] (by decide +kernel) (by decide +kernel) w h).1
set_option maxRecDepth 20000 in
theorem wsL_law0_r9_in : ∀ w ∈ wsL_law0_r9, w ∈ lw_tbl := fun w h => (goodIn_r wsL_law0_r9 [379, 380, 381, 382, 383, 384, 385, 386, 398, 399, 22, 400, 387, 389, 3, 390, 391, 393, 4, 394, 396, 397, 402, 403] (by decide +kernel) (by decide +kernel) w h).1
set_option maxRecDepth 20000 in
theorem wsL_law0_r10_in : ∀ w ∈ wsL_law0_r10, w ∈ lw_tbl := fun w h => (goodIn_r wsL_law0_r10 [404, 405, 406, 407, 408, 409, 421, 410, 412, 5, 413, 414, 415, 416, 417, 418, 423, 424, 425, 426, 427, 429, 431, 6] (by decide +kernel) (by decide +kernel) w h).1
set_option maxRecDepth 20000 in
theorem wsL_law0_r11_in : ∀ w ∈ wsL_law0_r11, w ∈ lw_tbl := fun w h => (goodIn_r wsL_law0_r11 [432, 436, 437, 438, 439, 440, 441, 442, 443, 540, 541, 542, 543, 544, 545, 546, 498, 547, 548, 549, 550, 551, 552, 553] (by decide +kernel) (by decide +kernel) w h).1
set_option maxRecDepth 20000 in
theorem wsL_law0_r12_in : ∀ w ∈ wsL_law0_r12, w ∈ lw_tbl := fun w h => (goodIn_r wsL_law0_r12 [459, 460, 461, 462, 463, 451, 452, 453, 454, 455, 456, 457, 458, 464, 465, 466, 467, 23, 484, 485, 486, 487, 488, 489] (by decide +kernel) (by decide +kernel) w h).1
set_option maxRecDepth 20000 in
theorem wsL_law0_r13_in : ∀ w ∈ wsL_law0_r13, w ∈ lw_tbl := fun w h => (goodIn_r wsL_law0_r13 [490, 554, 555, 556, 557, 558, 559, 560, 491, 492, 493, 494, 495, 496, 497, 561, 562, 563, 564, 565, 566, 567, 568, 570] (by decide +kernel) (by decide +kernel) w h).1
set_option maxRecDepth 20000 in
theorem wsL_law0_r14_in : ∀ w ∈ wsL_law0_r14, w ∈ lw_tbl := fun w h => (goodIn_r wsL_law0_r14 [7, 571, 572, 573, 574, 575, 576, 577, 578, 579, 580, 581, 582, 583, 584, 585, 586, 587, 588, 589, 590, 591, 592, 593] (by decide +kernel) (by decide +kernel) w h).1
