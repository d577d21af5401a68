set_option maxRecDepth 20000 in
theorem gL_law_L_estimate : GoodIn wsL_law (va_wsS RL 151 yL_estimate wsL_estimate) := goodIn_app (goodIn_of _ (by decide +kernel)) ggL_law_L_estimate
set_option maxRecDepth 20000 in
theorem ggL_law_X7_estimate : GoodIn wsL_law wsX7_estimate := goodIn_r _ [493, 132, 133, 298, 299, 300, 5, 301, 157, 158, 159, 160, 161, 162, 163, 164, 460, 461, 462, 463, 128, 464, 134, 428, 429, 430, 431, 302, 303, 304, 305, 130, 432, 433, 434, 435, 405, 406, 407, 408, 409, 410, 411, 412, 651, 652, 653, 654, 655, 656, 657, 658, 659, 660, 661, 662, 663] (by decide +kernel) (by decide +kernel)
set_option maxRecDepth 20000 in
theorem gL_law_X7_estimate : GoodIn wsL_law (wsV RL 153 RX7 yX7_estimate wsX7_estimate) := goodIn_app (goodIn_of _ (by decide +kernel)) ggL_law_X7_estimate
set_option maxRecDepth 20000 in
theorem ggL_law_L_sampledWeight : GoodIn wsL_law wsL_sampledWeight := goodIn_ca (goodIn_r _ [496, 143, 497, 498, 499, 2, 500, 148, 149, 150, 151, 152, 387, 388, 389, 390, 21, 80, 16, 17, 179, 180, 181, 182, 391, 105, 106, 20, 107, 108, 109, 392, 393, 394, 395, 62, 63, 64, 65, 225, 226, 396, 210, 211, 212, 213, 214, 215, 216, 217, 218, 219, 220, 221, 222, 223, 224, 227, 228, 229, 230, 198, 199, 501, 502, 503, 504, 488, 398, 399, 400, 664, 665, 666, 667, 668, 669, 670, 671, 672, 673, 674, 646, 647, 648, 649, 650, 675, 676, 677, 678, 679, 680] (by decide +kernel) (by decide +kernel)) (goodIn_sub (fun _ h => List.mem_append_left _ (List.mem_append_left _ (List.mem_append_right _ h))) (by decide +kernel))
set_option maxRecDepth 20000 in
theorem gL_law_L_sampledWeight : GoodIn wsL_law (va_wsS RL 154 yL_sampledWeight wsL_sampledWeight) := goodIn_app (goodIn_of _ (by decide +kernel)) ggL_law_L_sampledWeight
set_option maxRecDepth 20000 in
theorem ggL_law_X7_sampledWeight : GoodIn wsL_law wsX7_sampledWeight := goodIn_r _ [508, 133, 132, 298, 299, 300, 5, 301, 157, 158, 159, 160, 161, 162, 163, 164, 405, 406, 407, 408, 128, 409, 410, 411, 412, 130, 428, 429, 430, 431, 302, 303, 304, 305, 432, 433, 434, 435, 134, 651, 652, 653, 654, 655, 656, 657, 658, 659, 660, 661, 662, 663] (by decide +kernel) (by decide +kernel)
set_option maxRecDepth 20000 in
theorem gL_law_X7_sampledWeight : GoodIn wsL_law (wsV RL 156 RX7 yX7_sampledWeight wsX7_sampledWeight) := goodIn_app (goodIn_of _ (by decide +kernel)) ggL_law_X7_sampledWeight
set_option maxRecDepth 20000 in
theorem ggL_law_L_distinctSize : GoodIn wsL_law wsL_distinctSize := goodIn_ca (goodIn_r _ [511, 143, 512, 513, 514, 2, 515, 148, 149, 150, 151, 152, 516, 517, 518, 519, 25, 80, 16, 17, 179, 180, 181, 182, 520, 111, 112, 24, 113, 114, 115, 521, 522, 523, 524, 69, 70, 225, 226, 525, 232, 233, 234, 235, 214, 215, 216, 236, 237, 238, 239, 240, 241, 242, 243, 244, 198, 199, 227, 228, 229, 230, 681, 682, 683, 684, 664, 665, 666, 667, 668, 669, 670, 671, 672, 673, 674, 646, 647, 648, 649, 650] (by decide +kernel) (by decide +kernel)) (goodIn_sub (fun _ h => List.mem_append_left _ (List.mem_append_left _ (List.mem_append_right _ h))) (by decide +kernel))
set_option maxRecDepth 20000 in
theorem gL_law_L_distinctSize : GoodIn wsL_law (va_wsS RL 157 yL_distinctSize wsL_distinctSize) := goodIn_app (goodIn_of _ (by decide +kernel)) ggL_law_L_distinctSize
set_option maxRecDepth 20000 in
theorem ggL_law_X7_distinctSize : GoodIn wsL_law wsX7_distinctSize := goodIn_r _ [529, 271, 272, 273, 5, 274, 157, 158, 159, 160, 161, 162, 163, 164, 530, 531, 532, 533, 128, 534, 535, 536, 537, 137, 131, 302, 303, 304, 305, 130, 651, 652, 653, 654, 655, 656, 657, 658, 659, 660, 661, 662, 663] (by decide +kernel) (by decide +kernel)
set_option maxRecDepth 20000 in
theorem gL_law_X7_distinctSize : GoodIn wsL_law (wsV RL 159 RX7 yX7_distinctSize wsX7_distinctSize) := goodIn_app (goodIn_of _ (by decide +kernel)) ggL_law_X7_distinctSize
set_option maxRecDepth 20000 in
theorem ggL_law_L_distinctItem : GoodIn wsL_law wsL_distinctItem := goodIn_ca (goodIn_ca (goodIn_r _ [540, 143, 325, 541, 542, 543, 2, 544, 148, 149, 150, 151, 152, 516, 517, 518, 519, 25, 80, 16, 17, 179, 180, 181, 182, 520, 111, 112, 24, 113, 114, 115, 521, 522, 523, 524, 69, 70, 225, 226, 525, 232, 233, 234, 235, 214, 215, 216, 236, 237, 238, 239, 240, 241, 242, 243, 244, 198, 199, 227, 228, 229, 230, 330, 331, 332, 333, 334, 681, 682, 683, 684, 664, 665, 666, 667, 668, 669, 670, 671, 672, 673, 674, 646, 647, 648, 649, 650] (by decide +kernel) (by decide +kernel)) (goodIn_sub (fun _ h => List.mem_append_left _ (List.mem_append_left _ (List.mem_append_right _ h))) (by decide +kernel))) (goodIn_sub (fun _ h => List.mem_append_right _ h) (by decide +kernel))
set_option maxRecDepth 20000 in
theorem gL_law_L_distinctItem : GoodIn wsL_law (va_wsS RL 160 yL_distinctItem wsL_distinctItem) := goodIn_app (goodIn_of _ (by decide +kernel)) ggL_law_L_distinctItem
set_option maxRecDepth 20000 in
theorem ggL_law_X7_distinctItem : GoodIn wsL_law wsX7_distinctItem := goodIn_r _ [548, 131, 549, 550, 551, 5, 552, 157, 158, 159, 530, 531, 532, 533, 128, 534, 535, 536, 537, 137, 302, 303, 304, 305, 130, 160, 161, 162, 163, 164, 553, 554, 555, 556, 557, 558, 559, 560, 561, 651, 652, 653, 654, 655, 656, 657, 658, 659, 660, 661, 662, 663] (by decide +kernel) (by decide +kernel)
set_option maxRecDepth 20000 in
theorem gL_law_X7_distinctItem : GoodIn wsL_law (wsV RL 162 RX7 yX7_distinctItem wsX7_distinctItem) := goodIn_app (goodIn_of _ (by decide +kernel)) ggL_law_X7_distinctItem
set_option maxRecDepth 20000 in
theorem ggL_law_L_distinctOffers : GoodIn wsL_law wsL_distinctOffers := goodIn_ca (goodIn_ca (goodIn_r _ [564, 143, 325, 565, 566, 567, 2, 568, 148, 149, 150, 151, 152, 516, 517, 518, 519, 25, 80, 16, 17, 179, 180, 181, 182, 520, 111, 112, 24, 113, 114, 115, 521, 522, 523, 524, 69, 70, 225, 226, 525, 232, 233, 234, 235, 214, 215, 216, 236, 237, 238, 239, 240, 241, 242, 243, 244, 198, 199, 227, 228, 229, 230, 330, 331, 332, 333, 334, 681, 682, 683, 684, 664, 665, 666, 667, 668, 669, 670, 671, 672, 673, 674, 646, 647, 648, 649, 650] (by decide +kernel) (by decide +kernel)) (goodIn_sub (fun _ h => List.mem_append_left _ (List.mem_append_left _ (List.mem_append_right _ h))) (by decide +kernel))) (goodIn_sub (fun _ h => List.mem_append_right _ h) (by decide +kernel))
set_option maxRecDepth 20000 in
theorem gL_law_L_distinctOffers : GoodIn wsL_law (va_wsS RL 163 yL_distinctOffers wsL_distinctOffers) := goodIn_app (goodIn_of _ (by decide +kernel)) ggL_law_L_distinctOffers
set_option maxRecDepth 20000 in
theorem ggL_law_X7_distinctOffers : GoodIn wsL_law wsX7_distinctOffers := goodIn_r _ [572, 131, 549, 550, 551, 5, 552, 157, 158, 159, 530, 531, 532, 533, 128, 534, 535, 536, 537, 137, 302, 303, 304, 305, 130, 160, 161, 162, 163, 164, 553, 554, 555, 556, 557, 558, 559, 560, 561, 651, 652, 653, 654, 655, 656, 657, 658, 659, 660, 661, 662, 663] (by decide +kernel) (by decide +kernel)
set_option maxRecDepth 20000 in
theorem gL_law_X7_distinctOffers : GoodIn wsL_law (wsV RL 165 RX7 yX7_distinctOffers wsX7_distinctOffers) := goodIn_app (goodIn_of _ (by decide +kernel)) ggL_law_X7_distinctOffers
set_option maxRecDepth 20000 in
theorem ggL_law_L_distinctEstimate : GoodIn wsL_law wsL_distinctEstimate := goodIn_ca (goodIn_r _ [575, 143, 576, 577, 578, 2, 579, 148, 149, 150, 151, 152, 516, 517, 518, 519, 25, 80, 16, 17, 179, 180, 181, 182, 520, 111, 112, 24, 113, 114, 115, 521, 522, 523, 524, 69, 70, 225, 226, 525, 232, 233, 234, 235, 214, 215, 216, 236, 237, 238, 239, 240, 241, 242, 243, 244, 198, 199, 227, 228, 229, 230, 580, 581, 582, 583, 454, 455, 664, 665, 666, 667, 668, 669, 670, 671, 672, 673, 674, 646, 647, 648, 649, 650, 681, 682, 683, 684] (by decide +kernel) (by decide +kernel)) (goodIn_sub (fun _ h => List.mem_append_left _ (List.mem_append_left _ (List.mem_append_right _ h))) (by decide +kernel))
set_option maxRecDepth 20000 in
theorem gL_law_L_distinctEstimate : GoodIn wsL_law (va_wsS RL 166 yL_distinctEstimate wsL_distinctEstimate) := goodIn_app (goodIn_of _ (by decide +kernel)) ggL_law_L_distinctEstimate
set_option maxRecDepth 20000 in
theorem ggL_law_X7_distinctEstimate : GoodIn wsL_law wsX7_distinctEstimate := goodIn_r _ [587, 128, 561, 131, 271, 272, 273, 5, 274, 157, 158, 159, 160, 161, 162, 163, 164, 530, 531, 532, 533, 534, 535, 536, 537, 137, 302, 303, 304, 305, 130, 553, 554, 555, 556, 557, 558, 559, 560, 651, 652, 653, 654, 655, 656, 657, 658, 659, 660, 661, 662, 663] (by decide +kernel) (by decide +kernel)
set_option maxRecDepth 20000 in
theorem gL_law_X7_distinctEstimate : GoodIn wsL_law (wsV RL 168 RX7 yX7_distinctEstimate wsX7_distinctEstimate) := goodIn_app (goodIn_of _ (by decide +kernel)) ggL_law_X7_distinctEstimate
set_option maxRecDepth 20000 in
theorem ggL_law_L_windowItem : GoodIn wsL_law wsL_windowItem := goodIn_ca (goodIn_ca (goodIn_r _ [590, 143, 172, 591, 592, 593, 2, 594, 148, 149, 150, 151, 152, 179, 180, 181, 182, 16, 17, 183, 184, 185, 186, 187, 229, 225, 226, 664, 665, 666, 667, 668, 669, 670, 671, 672, 673, 674, 691, 692, 693, 694, 695, 696, 646, 647, 648, 649, 650] (by decide +kernel) (by decide +kernel)) (goodIn_sub (fun _ h => List.mem_append_left _ (List.mem_append_left _ (List.mem_append_right _ h))) (by decide +kernel))) (goodIn_sub (fun _ h => List.mem_append_left _ (List.mem_append_right _ h)) (by decide +kernel))
set_option maxRecDepth 20000 in
theorem gL_law_L_windowItem : GoodIn wsL_law (va_wsS RL 169 yL_windowItem wsL_windowItem) := goodIn_app (goodIn_of _ (by decide +kernel)) ggL_law_L_windowItem
set_option maxRecDepth 20000 in
theorem ggL_law_X7_windowItem : GoodIn wsL_law wsX7_windowItem := goodIn_r _ [598, 131, 138, 599, 600, 601, 5, 602, 130, 157, 158, 159, 160, 161, 162, 163, 164, 603, 604, 605, 606, 607, 608, 134, 129, 135, 651, 652, 653, 654, 655, 656, 657, 658, 659, 660, 661, 662, 663] (by decide +kernel) (by decide +kernel)
set_option maxRecDepth 20000 in
theorem gL_law_X7_windowItem : GoodIn wsL_law (wsV RL 171 RX7 yX7_windowItem wsX7_windowItem) := goodIn_app (goodIn_of _ (by decide +kernel)) ggL_law_X7_windowItem
set_option maxRecDepth 20000 in
theorem ggL_law_L_windowPosition : GoodIn wsL_law wsL_windowPosition := goodIn_ca (goodIn_ca (goodIn_r _ [611, 143, 172, 612, 613, 614, 2, 615, 148, 149, 150, 151, 152, 179, 180, 181, 182, 16, 17, 183, 184, 185, 186, 187, 229, 225, 226, 664, 665, 666, 667, 668, 669, 670, 671, 672, 673, 674, 691, 692, 693, 694, 695, 696, 646, 647, 648, 649, 650] (by decide +kernel) (by decide +kernel)) (goodIn_sub (fun _ h => List.mem_append_left _ (List.mem_append_left _ (List.mem_append_right _ h))) (by decide +kernel))) (goodIn_sub (fun _ h => List.mem_append_left _ (List.mem_append_right _ h)) (by decide +kernel))
set_option maxRecDepth 20000 in
theorem gL_law_L_windowPosition : GoodIn wsL_law (va_wsS RL 172 yL_windowPosition wsL_windowPosition) := goodIn_app (goodIn_of _ (by decide +kernel)) ggL_law_L_windowPosition
set_option maxRecDepth 20000 in
theorem ggL_law_X7_windowPosition : GoodIn wsL_law wsX7_windowPosition := goodIn_r _ [619, 138, 599, 600, 601, 5, 602, 130, 157, 158, 159, 160, 161, 162, 163, 164, 603, 604, 605, 606, 607, 608, 134, 129, 135, 651, 652, 653, 654, 655, 656, 657, 658, 659, 660, 661, 662, 663] (by decide +kernel) (by decide +kernel)
set_option maxRecDepth 20000 in
theorem gL_law_X7_windowPosition : GoodIn wsL_law (wsV RL 174 RX7 yX7_windowPosition wsX7_windowPosition) := goodIn_app (goodIn_of _ (by decide +kernel)) ggL_law_X7_windowPosition
set_option maxRecDepth 20000 in
theorem ggL_law_L_chainLength : GoodIn wsL_law wsL_chainLength := goodIn_ca (goodIn_r _ [622, 143, 623, 624, 625, 2, 626, 148, 149, 150, 151, 152, 179, 180, 181, 182, 16, 17, 627, 628, 629, 46, 630, 122, 121, 664, 665, 666, 667, 668, 669, 670, 671, 672, 673, 674, 646, 647, 648, 649, 650, 691, 692, 693, 694, 695, 696] (by decide +kernel) (by decide +kernel)) (goodIn_sub (fun _ h => List.mem_append_left _ (List.mem_append_left _ (List.mem_append_right _ h))) (by decide +kernel))
set_option maxRecDepth 20000 in
theorem gL_law_L_chainLength : GoodIn wsL_law (va_wsS RL 175 yL_chainLength wsL_chainLength) := goodIn_app (goodIn_of _ (by decide +kernel)) ggL_law_L_chainLength
set_option maxRecDepth 20000 in
theorem ggL_law_X7_chainLength : GoodIn wsL_law wsX7_chainLength := goodIn_r _ [634, 607, 271, 272, 273, 5, 274, 157, 158, 159, 160, 161, 162, 163, 164, 603, 604, 605, 606, 608, 130, 134, 129, 138, 135, 651, 652, 653, 654, 655, 656, 657, 658, 659, 660, 661, 662, 663] (by decide +kernel) (by decide +kernel)
set_option maxRecDepth 20000 in
theorem gL_law_X7_chainLength : GoodIn wsL_law (wsV RL 177 RX7 yX7_chainLength wsX7_chainLength) := goodIn_app (goodIn_of _ (by decide +kernel)) ggL_law_X7_chainLength
set_option maxRecDepth 20000 in
theorem ggL_law_L_successor : GoodIn wsL_law wsL_successor := goodIn_ca (goodIn_ca (goodIn_r _ [637, 143, 172, 638, 639, 640, 2, 641, 148, 149, 150, 151, 152, 179, 180, 181, 182, 16, 17, 183, 184, 185, 186, 187, 664, 665, 666, 667, 668, 669, 670, 671, 672, 673, 674, 691, 692, 693, 694, 695, 696, 646, 647, 648, 649, 650] (by decide +kernel) (by decide +kernel)) (goodIn_sub (fun _ h => List.mem_append_left _ (List.mem_append_left _ (List.mem_append_right _ h))) (by decide +kernel))) (goodIn_sub (fun _ h => List.mem_append_left _ (List.mem_append_right _ h)) (by decide +kernel))
set_option maxRecDepth 20000 in
theorem gL_law_L_successor : GoodIn wsL_law (va_wsS RL 178 yL_successor wsL_successor) := goodIn_app (goodIn_of _ (by decide +kernel)) ggL_law_L_successor
set_option maxRecDepth 20000 in
theorem ggL_law_X7_successor : GoodIn wsL_law wsX7_successor := goodIn_r _ [645, 608, 599, 600, 601, 5, 602, 130, 157, 158, 159, 160, 161, 162, 163, 164, 603, 604, 605, 606, 607, 134, 129, 138, 135, 651, 652, 653, 654, 655, 656, 657, 658, 659, 660, 661, 662, 663] (by decide +kernel) (by decide +kernel)
set_option maxRecDepth 20000 in
theorem gL_law_X7_successor : GoodIn wsL_law (wsV RL 180 RX7 yX7_successor wsX7_successor) := goodIn_app (goodIn_of _ (by decide +kernel)) ggL_law_X7_successor
