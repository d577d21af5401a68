set_option maxRecDepth 20000 in
theorem wsL_law0_r15_in : ∀ w ∈ wsL_law0_r15, w ∈ lw_tbl := fun w h => (goodIn_r wsL_law0_r15 [788, 789, 790, 791, 793, 13, 794, 795, 797, 14, 798, 515, 516, 517, 518, 519, 520, 521, 799, 800, 801, 802, 522, 523] (by decide +kernel) (by decide +kernel) w h).1
set_option maxRecDepth 20000 in
theorem wsL_law0_r16_in : ∀ w ∈ wsL_law0_r16, w ∈ lw_tbl := fun w h => (goodIn_r wsL_law0_r16 [524, 525, 526, 527, 528, 803, 804, 805, 806, 529, 530, 531, 532, 533, 534, 535, 807, 808, 809, 810, 536, 537, 538, 539] (by decide +kernel) (by decide +kernel) w h).1
set_option maxRecDepth 20000 in
theorem wsL_law0_r17_in : ∀ w ∈ wsL_law0_r17, w ∈ lw_tbl := fun w h => (goodIn_r wsL_law0_r17 [540, 541, 542, 543, 545, 7, 546, 547, 548, 549, 550, 551, 552, 553, 554, 555, 556, 811, 812, 813, 814, 815, 817, 15] (by decide +kernel) (by decide +kernel) w h).1
set_option maxRecDepth 20000 in
theorem wsL_law0_r18_in : ∀ w ∈ wsL_law0_r18, w ∈ lw_tbl := fun w h => (goodIn_r wsL_law0_r18 [818, 819, 821, 16, 822, 557, 558, 559, 560, 561, 562, 563, 823, 824, 825, 826, 827, 829, 17, 830, 831, 833, 18, 834] (by decide +kernel) (by decide +kernel) w h).1
set_option maxRecDepth 20000 in
theorem wsL_law0_r19_in : ∀ w ∈ wsL_law0_r19, w ∈ lw_tbl := fun w h => (goodIn_r wsL_law0_r19 [835, 837, 19, 838, 564, 565, 566, 567, 568, 569, 570, 571, 572, 573, 574, 582, 583, 584, 575, 576, 577, 578, 580, 581] (by decide +kernel) (by decide +kernel) w h).1
set_option maxRecDepth 20000 in
theorem wsL_law0_r20_in : ∀ w ∈ wsL_law0_r20, w ∈ lw_tbl := fun w h => (goodIn_r wsL_law0_r20 [839, 840, 841, 842, 843, 845, 20, 846, 847, 585, 586, 587, 588, 589, 590, 591, 592, 848, 849, 850, 851, 593, 594, 595] (by decide +kernel) (by decide +kernel) w h).1
set_option maxRecDepth 20000 in
theorem wsL_law0_r21_in : ∀ w ∈ wsL_law0_r21, w ∈ lw_tbl := fun w h => (goodIn_r wsL_law0_r21 [596, 597, 598, 599, 600, 601, 602, 603, 604, 605, 852, 853, 854, 855, 606, 607, 608, 609, 610, 611, 612, 613, 614, 615] (by decide +kernel) (by decide +kernel) w h).1
set_option maxRecDepth 20000 in
theorem wsL_law0_r22_in : ∀ w ∈ wsL_law0_r22, w ∈ lw_tbl := fun w h => (goodIn_r wsL_law0_r22 [616, 856, 857, 858, 859, 617, 618, 619, 620, 621, 622, 623, 624, 626, 8, 627, 628, 629, 630, 631, 632, 633, 860, 861] (by decide +kernel) (by decide +kernel) w h).1
set_option maxRecDepth 20000 in
theorem wsL_law0_r23_in : ∀ w ∈ wsL_law0_r23, w ∈ lw_tbl := fun w h => (goodIn_r wsL_law0_r23 [862, 863, 864, 866, 21, 867, 868, 870, 22, 871, 634, 635, 636, 637, 638, 639, 640, 872, 873, 874, 875, 876, 878, 23] (by decide +kernel) (by decide +kernel) w h).1
set_option maxRecDepth 20000 in
theorem wsL_law0_r24_in : ∀ w ∈ wsL_law0_r24, w ∈ lw_tbl := fun w h => (goodIn_r wsL_law0_r24 [879, 880, 882, 24, 883, 884, 885, 886, 887, 888, 641, 642, 643, 644, 645, 646, 647, 889, 890, 891, 892, 648, 649, 650] (by decide +kernel) (by decide +kernel) w h).1
set_option maxRecDepth 20000 in
theorem wsL_law0_r25_in : ∀ w ∈ wsL_law0_r25, w ∈ lw_tbl := fun w h => (goodIn_r wsL_law0_r25 [651, 652, 653, 654, 655, 656, 657, 658, 893, 894, 895, 896, 660, 661, 662, 663, 664, 665, 666, 897, 898, 899, 900, 901] (by decide +kernel) (by decide +kernel) w h).1
set_option maxRecDepth 20000 in
theorem wsL_law0_r26_in : ∀ w ∈ wsL_law0_r26, w ∈ lw_tbl := fun w h => (goodIn_r wsL_law0_r26 [903, 25, 904, 905, 907, 26, 908, 709, 710, 667, 668, 669, 670, 671, 672, 673, 909, 910, 911, 912, 674, 675, 676, 677] (by decide +kernel) (by decide +kernel) w h).1
set_option maxRecDepth 20000 in
theorem wsL_law0_r27_in : ∀ w ∈ wsL_law0_r27, w ∈ lw_tbl := fun w h => (goodIn_r wsL_law0_r27 [678, 679, 680, 681, 682, 683, 684, 913, 914, 915, 916, 685, 686, 687, 688, 689, 690, 691, 917, 918, 919, 920] (by decide +kernel) (by decide +kernel) w h).1
