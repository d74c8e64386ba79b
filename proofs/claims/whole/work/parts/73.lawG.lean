set_option maxRecDepth 20000 in
theorem ggL_law_X7_init : GoodIn wsL_law wsX7_init := goodIn_r _ [9, 10, 11, 12, 13, 14, 15, 16, 17, 18, 19, 20, 21, 22, 23, 24, 25, 26, 27, 28, 29, 30, 31, 32, 33, 34, 35, 36, 37, 38, 39, 40, 41, 42, 43, 44, 45, 46, 47, 48, 49, 50, 51, 52, 53, 54, 55, 56, 57, 58, 59, 60, 61, 62, 63, 64, 65, 66, 67, 68, 69, 70, 71, 72, 73, 74, 75, 76, 77, 78, 79, 678, 636, 637, 638, 639, 640, 641, 642, 679, 680, 681, 682, 683, 684, 685, 686, 687, 688, 689, 690, 691, 692, 693, 694, 695, 696, 697, 698, 699, 700, 701, 702, 703, 704, 705, 706, 707, 708, 709, 710, 711, 712, 713, 714, 715] (by decide +kernel) (by decide +kernel)
set_option maxRecDepth 20000 in
theorem gL_law_X7_init : GoodIn wsL_law (wsX7_init) := ggL_law_X7_init
set_option maxRecDepth 20000 in
theorem ggL_law_X8_init : GoodIn wsL_law wsX8_init := goodIn_r _ [82, 83, 11, 12, 33, 84, 85, 86, 87, 88, 89, 90, 91, 92, 93, 94, 95, 96, 97, 98, 99, 100, 101, 102, 103, 104, 105, 643, 644, 645, 646, 647, 648, 649, 650, 651, 652, 653, 654, 655, 656, 657, 658, 659, 660, 661, 662, 663, 664, 665, 666, 667, 668, 669, 670, 671, 672, 673, 674, 675, 676, 677] (by decide +kernel) (by decide +kernel)
set_option maxRecDepth 20000 in
theorem gL_law_X8_init : GoodIn wsL_law (wsX8_init) := ggL_law_X8_init
set_option maxRecDepth 20000 in
theorem ggL_law_X8_thrown : GoodIn wsL_law wsX8_thrown := goodIn_r _ [504, 368, 643, 644, 645, 646, 647, 648, 649, 650, 651, 652, 653, 654, 655, 656, 657, 658, 659, 660, 661, 662, 663, 664, 665, 666, 667, 668, 669, 670, 671, 672, 673, 674, 675, 676, 677] (by decide +kernel) (by decide +kernel)
set_option maxRecDepth 20000 in
theorem gL_law_X8_thrown : GoodIn wsL_law (wsV RL 47 RX8 yX8_thrown wsX8_thrown) := goodIn_app (goodIn_of _ (by decide +kernel)) ggL_law_X8_thrown
set_option maxRecDepth 20000 in
theorem ggL_law_X7_go : GoodIn wsL_law wsX7_go := goodIn_r _ [508, 20, 636, 637, 638, 639, 640, 641, 642, 679, 680, 681, 682, 683, 684] (by decide +kernel) (by decide +kernel)
set_option maxRecDepth 20000 in
theorem gL_law_X7_go : GoodIn wsL_law (wsV RL 51 RX7 yX7_go wsX7_go) := goodIn_app (goodIn_of _ (by decide +kernel)) ggL_law_X7_go
set_option maxRecDepth 20000 in
theorem ggL_law_X8_go : GoodIn wsL_law wsX8_go := goodIn_r _ [512, 368, 369, 379, 643, 644, 645, 646, 647, 648, 649, 650, 651, 652, 653, 654, 655, 656, 657, 658, 659, 660, 661, 662, 663, 664, 665, 666, 667, 668, 669, 670, 671, 672, 673, 674, 675, 676, 677] (by decide +kernel) (by decide +kernel)
set_option maxRecDepth 20000 in
theorem gL_law_X8_go : GoodIn wsL_law (wsV RL 55 RX8 yX8_go wsX8_go) := goodIn_app (goodIn_of _ (by decide +kernel)) ggL_law_X8_go
set_option maxRecDepth 20000 in
theorem ggL_law_L_word : GoodIn wsL_law wsL_word := goodIn_ca (goodIn_r _ [515, 516, 517, 518, 519, 2, 520, 521, 522, 16, 200, 179, 180, 15, 181, 34, 636, 637, 638, 639, 640, 641, 642, 678] (by decide +kernel) (by decide +kernel)) (goodIn_sub (fun _ h => List.mem_append_left _ (List.mem_append_right _ h)) (by decide +kernel))
set_option maxRecDepth 20000 in
theorem gL_law_L_word : GoodIn wsL_law (va_wsS RL 56 yL_word wsL_word) := goodIn_app (goodIn_of _ (by decide +kernel)) ggL_law_L_word
set_option maxRecDepth 20000 in
theorem ggL_law_X8_word : GoodIn wsL_law wsX8_word := goodIn_r _ [526, 527, 528, 529, 5, 530, 368, 395, 396, 397, 398, 393, 394, 84, 643, 644, 645, 646, 647, 648, 649, 650, 651, 652, 653, 654, 655, 656, 657, 658, 659, 660, 661, 662, 663, 664, 665, 666, 667, 668, 669, 670, 671, 672, 673, 674, 675, 676, 677] (by decide +kernel) (by decide +kernel)
set_option maxRecDepth 20000 in
theorem gL_law_X8_word : GoodIn wsL_law (wsV RL 58 RX8 yX8_word wsX8_word) := goodIn_app (goodIn_of _ (by decide +kernel)) ggL_law_X8_word
set_option maxRecDepth 20000 in
theorem ggL_law_L_set : GoodIn wsL_law wsL_set := goodIn_ca (goodIn_r _ [533, 516, 534, 535, 536, 2, 537, 521, 522, 16, 538, 174, 175, 15, 176, 34, 177, 636, 637, 638, 639, 640, 641, 642, 678] (by decide +kernel) (by decide +kernel)) (goodIn_sub (fun _ h => List.mem_append_left _ (List.mem_append_right _ h)) (by decide +kernel))
set_option maxRecDepth 20000 in
theorem gL_law_L_set : GoodIn wsL_law (va_wsS RL 59 yL_set wsL_set) := goodIn_app (goodIn_of _ (by decide +kernel)) ggL_law_L_set
set_option maxRecDepth 20000 in
theorem ggL_law_X8_set : GoodIn wsL_law wsX8_set := goodIn_r _ [542, 388, 527, 528, 529, 5, 530, 368, 389, 390, 391, 392, 393, 394, 84, 643, 644, 645, 646, 647, 648, 649, 650, 651, 652, 653, 654, 655, 656, 657, 658, 659, 660, 661, 662, 663, 664, 665, 666, 667, 668, 669, 670, 671, 672, 673, 674, 675, 676, 677] (by decide +kernel) (by decide +kernel)
set_option maxRecDepth 20000 in
theorem gL_law_X8_set : GoodIn wsL_law (wsV RL 62 RX8 yX8_set wsX8_set) := goodIn_app (goodIn_of _ (by decide +kernel)) ggL_law_X8_set
set_option maxRecDepth 20000 in
theorem ggL_law_X7_state : GoodIn wsL_law wsX7_state := goodIn_r _ [546, 16, 20, 24, 117, 122, 29, 200, 179, 180, 15, 181, 34, 547, 281, 2, 282, 636, 637, 638, 639, 640, 641, 642, 679, 680, 681, 682, 683, 684, 685, 686, 687, 688, 689, 690, 691, 678] (by decide +kernel) (by decide +kernel)
set_option maxRecDepth 20000 in
theorem gL_law_X7_state : GoodIn wsL_law (wsV RL 63 RX7 yX7_state wsX7_state) := goodIn_app (goodIn_of _ (by decide +kernel)) ggL_law_X7_state
set_option maxRecDepth 20000 in
theorem ggL_law_X8_state : GoodIn wsL_law wsX8_state := goodIn_r _ [551, 368, 393, 394, 379, 428, 427, 375, 376, 369, 85, 469, 374, 378, 86, 643, 644, 645, 646, 647, 648, 649, 650, 651, 652, 653, 654, 655, 656, 657, 658, 659, 660, 661, 662, 663, 664, 665, 666, 667, 668, 669, 670, 671, 672, 673, 674, 675, 676, 677] (by decide +kernel) (by decide +kernel)
set_option maxRecDepth 20000 in
theorem gL_law_X8_state : GoodIn wsL_law (wsV RL 66 RX8 yX8_state wsX8_state) := goodIn_app (goodIn_of _ (by decide +kernel)) ggL_law_X8_state
set_option maxRecDepth 20000 in
theorem ggL_law_X7_switches : GoodIn wsL_law wsX7_switches := goodIn_r _ [555, 24, 556, 636, 637, 638, 639, 640, 641, 642, 685, 686, 687, 688, 689, 690, 691] (by decide +kernel) (by decide +kernel)
set_option maxRecDepth 20000 in
theorem gL_law_X7_switches : GoodIn wsL_law (wsV RL 67 RX7 yX7_switches wsX7_switches) := goodIn_app (goodIn_of _ (by decide +kernel)) ggL_law_X7_switches
set_option maxRecDepth 20000 in
theorem ggL_law_X8_switches : GoodIn wsL_law wsX8_switches := goodIn_r _ [560, 368, 388, 464, 643, 644, 645, 646, 647, 648, 649, 650, 651, 652, 653, 654, 655, 656, 657, 658, 659, 660, 661, 662, 663, 664, 665, 666, 667, 668, 669, 670, 671, 672, 673, 674, 675, 676, 677] (by decide +kernel) (by decide +kernel)
set_option maxRecDepth 20000 in
theorem gL_law_X8_switches : GoodIn wsL_law (wsV RL 70 RX8 yX8_switches wsX8_switches) := goodIn_app (goodIn_of _ (by decide +kernel)) ggL_law_X8_switches
set_option maxRecDepth 20000 in
theorem ggL_law_L_device : GoodIn wsL_law wsL_device := goodIn_ca (goodIn_ca (goodIn_r _ [563, 516, 110, 564, 565, 566, 2, 567, 521, 522, 115, 116, 24, 568, 128, 129, 23, 130, 46, 569, 570, 571, 53, 572, 71, 72, 135, 136, 636, 637, 638, 639, 640, 641, 642, 685, 686, 687, 688, 689, 690, 691, 703, 704, 705, 706, 707, 708, 709, 710, 711, 712] (by decide +kernel) (by decide +kernel)) (goodIn_sub (fun _ h => List.mem_append_left _ (List.mem_append_right _ h)) (by decide +kernel))) (goodIn_sub (fun _ h => List.mem_append_left _ (List.mem_append_left _ (List.mem_append_right _ h))) (by decide +kernel))
set_option maxRecDepth 20000 in
theorem gL_law_L_device : GoodIn wsL_law (va_wsS RL 71 yL_device wsL_device) := goodIn_app (goodIn_of _ (by decide +kernel)) ggL_law_L_device
set_option maxRecDepth 20000 in
theorem ggL_law_X8_device : GoodIn wsL_law wsX8_device := goodIn_r _ [576, 368, 98, 99, 101, 100, 527, 528, 529, 5, 530, 643, 644, 645, 646, 647, 648, 649, 650, 651, 652, 653, 654, 655, 656, 657, 658, 659, 660, 661, 662, 663, 664, 665, 666, 667, 668, 669, 670, 671, 672, 673, 674, 675, 676, 677] (by decide +kernel) (by decide +kernel)
set_option maxRecDepth 20000 in
theorem gL_law_X8_device : GoodIn wsL_law (wsV RL 74 RX8 yX8_device wsX8_device) := goodIn_app (goodIn_of _ (by decide +kernel)) ggL_law_X8_device
set_option maxRecDepth 20000 in
theorem ggL_law_L_give : GoodIn wsL_law wsL_give := goodIn_ca (goodIn_ca (goodIn_r _ [579, 516, 580, 581, 582, 583, 2, 584, 521, 522, 585, 586, 24, 556, 568, 128, 129, 23, 130, 46, 587, 588, 589, 53, 590, 142, 141, 69, 636, 637, 638, 639, 640, 641, 642, 703, 704, 705, 706, 707, 708, 709, 710, 711, 712, 685, 686, 687, 688, 689, 690, 691] (by decide +kernel) (by decide +kernel)) (goodIn_sub (fun _ h => List.mem_append_left _ (List.mem_append_right _ h)) (by decide +kernel))) (goodIn_sub (fun _ h => List.mem_append_right _ h) (by decide +kernel))
set_option maxRecDepth 20000 in
theorem gL_law_L_give : GoodIn wsL_law (va_wsS RL 75 yL_give wsL_give) := goodIn_app (goodIn_of _ (by decide +kernel)) ggL_law_L_give
set_option maxRecDepth 20000 in
theorem ggL_law_X8_give : GoodIn wsL_law wsX8_give := goodIn_r _ [594, 102, 368, 104, 388, 527, 528, 529, 5, 530, 643, 644, 645, 646, 647, 648, 649, 650, 651, 652, 653, 654, 655, 656, 657, 658, 659, 660, 661, 662, 663, 664, 665, 666, 667, 668, 669, 670, 671, 672, 673, 674, 675, 676, 677] (by decide +kernel) (by decide +kernel)
set_option maxRecDepth 20000 in
theorem gL_law_X8_give : GoodIn wsL_law (wsV RL 78 RX8 yX8_give wsX8_give) := goodIn_app (goodIn_of _ (by decide +kernel)) ggL_law_X8_give
set_option maxRecDepth 20000 in
theorem ggL_law_L_out : GoodIn wsL_law wsL_out := goodIn_ca (goodIn_r _ [597, 516, 598, 599, 600, 2, 601, 521, 522, 24, 568, 128, 129, 23, 130, 46, 602, 603, 604, 53, 605, 147, 70, 636, 637, 638, 639, 640, 641, 642, 685, 686, 687, 688, 689, 690, 691, 703, 704, 705, 706, 707, 708, 709, 710, 711, 712] (by decide +kernel) (by decide +kernel)) (goodIn_sub (fun _ h => List.mem_append_left _ (List.mem_append_right _ h)) (by decide +kernel))
set_option maxRecDepth 20000 in
theorem gL_law_L_out : GoodIn wsL_law (va_wsS RL 79 yL_out wsL_out) := goodIn_app (goodIn_of _ (by decide +kernel)) ggL_law_L_out
set_option maxRecDepth 20000 in
theorem ggL_law_X8_out : GoodIn wsL_law wsX8_out := goodIn_r _ [609, 103, 105, 527, 528, 529, 5, 530, 368, 643, 644, 645, 646, 647, 648, 649, 650, 651, 652, 653, 654, 655, 656, 657, 658, 659, 660, 661, 662, 663, 664, 665, 666, 667, 668, 669, 670, 671, 672, 673, 674, 675, 676, 677] (by decide +kernel) (by decide +kernel)
set_option maxRecDepth 20000 in
theorem gL_law_X8_out : GoodIn wsL_law (wsV RL 81 RX8 yX8_out wsX8_out) := goodIn_app (goodIn_of _ (by decide +kernel)) ggL_law_X8_out
set_option maxRecDepth 20000 in
theorem ggL_law_X7_code : GoodIn wsL_law wsX7_code := goodIn_r _ [613, 24, 614, 197, 198, 23, 199, 48, 547, 281, 2, 282, 615, 159, 160, 161, 44, 616, 617, 618, 51, 619, 187, 167, 168, 166, 171, 170, 568, 128, 129, 130, 46, 620, 621, 622, 53, 623, 135, 136, 141, 71, 72, 147, 636, 637, 638, 639, 640, 641, 642, 713, 714, 715, 685, 686, 687, 688, 689, 690, 691, 695, 696, 697, 698, 699, 700, 701, 702, 703, 704, 705, 706, 707, 708, 709, 710, 711, 712] (by decide +kernel) (by decide +kernel)
set_option maxRecDepth 20000 in
theorem gL_law_X7_code : GoodIn wsL_law (wsV RL 82 RX7 yX7_code wsX7_code) := goodIn_app (goodIn_of _ (by decide +kernel)) ggL_law_X7_code
set_option maxRecDepth 20000 in
theorem ggL_law_X8_code : GoodIn wsL_law wsX8_code := goodIn_r _ [627, 368, 88, 89, 90, 91, 101, 94, 100, 95, 102, 92, 98, 96, 99, 97, 103, 643, 644, 645, 646, 647, 648, 649, 650, 651, 652, 653, 654, 655, 656, 657, 658, 659, 660, 661, 662, 663, 664, 665, 666, 667, 668, 669, 670, 671, 672, 673, 674, 675, 676, 677] (by decide +kernel) (by decide +kernel)
set_option maxRecDepth 20000 in
theorem gL_law_X8_code : GoodIn wsL_law (wsV RL 85 RX8 yX8_code wsX8_code) := goodIn_app (goodIn_of _ (by decide +kernel)) ggL_law_X8_code
set_option maxRecDepth 20000 in
theorem ggL_law_X7_sum : GoodIn wsL_law wsX7_sum := goodIn_r _ [631, 16, 200, 179, 180, 15, 181, 34, 636, 637, 638, 639, 640, 641, 642, 678] (by decide +kernel) (by decide +kernel)
set_option maxRecDepth 20000 in
theorem gL_law_X7_sum : GoodIn wsL_law (wsV RL 86 RX7 yX7_sum wsX7_sum) := goodIn_app (goodIn_of _ (by decide +kernel)) ggL_law_X7_sum
set_option maxRecDepth 20000 in
theorem ggL_law_X8_sum_ : GoodIn wsL_law wsX8_sum_ := goodIn_r _ [635, 368, 395, 396, 397, 5, 398, 393, 394, 84, 643, 644, 645, 646, 647, 648, 649, 650, 651, 652, 653, 654, 655, 656, 657, 658, 659, 660, 661, 662, 663, 664, 665, 666, 667, 668, 669, 670, 671, 672, 673, 674, 675, 676, 677] (by decide +kernel) (by decide +kernel)
set_option maxRecDepth 20000 in
theorem gL_law_X8_sum_ : GoodIn wsL_law (wsV RL 89 RX8 yX8_sum_ wsX8_sum_) := goodIn_app (goodIn_of _ (by decide +kernel)) ggL_law_X8_sum_
