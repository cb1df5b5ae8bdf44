/-! The law's calls. -/
set_option maxRecDepth 20000 in
theorem ggL_law_X4_round : GoodIn wsL_law wsX4_round := goodIn_r _ [595, 18, 422, 596, 948, 949, 950, 951, 952, 953, 954, 955, 956, 957, 975, 976, 977, 978, 979, 980, 981, 982, 983, 984, 985] (by decide +kernel) (by decide +kernel)
set_option maxRecDepth 20000 in
theorem gL_law_X4_round : GoodIn wsL_law (wsV RL 110 RX4 yX4_round wsX4_round) := goodIn_app (goodIn_r _ [592, 593, 594, 2] (by decide +kernel) (by decide +kernel)) ggL_law_X4_round
set_option maxRecDepth 20000 in
theorem ggL_law_X5_round : GoodIn wsL_law wsX5_round := goodIn_r _ [600, 69, 453, 454, 455, 5, 456, 958, 959, 960, 961, 962, 963, 964, 965, 966, 967, 968, 969, 970, 971, 972, 973, 974] (by decide +kernel) (by decide +kernel)
set_option maxRecDepth 20000 in
theorem gL_law_X5_round : GoodIn wsL_law (wsV RL 113 RX5 yX5_round wsX5_round) := goodIn_app (goodIn_r _ [597, 598, 599, 5] (by decide +kernel) (by decide +kernel)) ggL_law_X5_round
set_option maxRecDepth 20000 in
theorem ggL_law_X4_best : GoodIn wsL_law wsX4_best := goodIn_r _ [604, 18, 605, 581, 582, 57, 583, 13, 128, 394, 259, 2, 260, 86, 87, 88, 437, 438, 439, 17, 440, 223, 606, 607, 608, 609, 610, 611, 612, 613, 554, 555, 556, 222, 34, 614, 615, 616, 617, 618, 619, 620, 621, 622, 623, 624, 625, 626, 156, 85, 94, 95, 96, 28, 97, 59, 98, 99, 100, 54, 948, 949, 950, 951, 952, 953, 954, 955, 956, 957, 975, 976, 977, 978, 979, 980, 981, 982, 983, 984, 985, 988, 989] (by decide +kernel) (by decide +kernel)
set_option maxRecDepth 20000 in
theorem gL_law_X4_best : GoodIn wsL_law (wsV RL 114 RX4 yX4_best wsX4_best) := goodIn_app (goodIn_r _ [601, 602, 603, 2] (by decide +kernel) (by decide +kernel)) ggL_law_X4_best
set_option maxRecDepth 20000 in
theorem ggL_law_X5_best : GoodIn wsL_law wsX5_best := goodIn_r _ [630, 65, 108, 109, 5, 110, 105, 106, 107, 453, 454, 455, 456, 69, 631, 632, 633, 634, 635, 636, 637, 565, 566, 567, 568, 638, 639, 640, 116, 117, 118, 119, 64, 145, 146, 147, 148, 149, 958, 959, 960, 961, 962, 963, 964, 965, 966, 967, 968, 969, 970, 971, 972, 973, 974] (by decide +kernel) (by decide +kernel)
set_option maxRecDepth 20000 in
theorem gL_law_X5_best : GoodIn wsL_law (wsV RL 117 RX5 yX5_best wsX5_best) := goodIn_app (goodIn_r _ [627, 628, 629, 5] (by decide +kernel) (by decide +kernel)) ggL_law_X5_best
set_option maxRecDepth 20000 in
theorem ggL_law_X4_even : GoodIn wsL_law wsX4_even := goodIn_r _ [644, 18, 422, 128, 437, 438, 439, 17, 440, 223, 645, 646, 647, 2, 648, 24, 394, 259, 260, 584, 585, 586, 587, 552, 530, 531, 532, 221, 33, 553, 554, 555, 556, 222, 34, 617, 618, 619, 620, 621, 622, 623, 649, 650, 651, 948, 949, 950, 951, 952, 953, 954, 955, 956, 957, 975, 976, 977, 978, 979, 980, 981, 982, 983, 984, 985] (by decide +kernel) (by decide +kernel)
set_option maxRecDepth 20000 in
theorem gL_law_X4_even : GoodIn wsL_law (wsV RL 118 RX4 yX4_even wsX4_even) := goodIn_app (goodIn_r _ [641, 642, 643, 2] (by decide +kernel) (by decide +kernel)) ggL_law_X4_even
set_option maxRecDepth 20000 in
theorem ggL_law_X5_even : GoodIn wsL_law wsX5_even := goodIn_r _ [655, 69, 453, 454, 455, 5, 456, 540, 541, 542, 543, 635, 636, 637, 565, 566, 567, 568, 656, 657, 658, 145, 146, 147, 148, 149, 958, 959, 960, 961, 962, 963, 964, 965, 966, 967, 968, 969, 970, 971, 972, 973, 974] (by decide +kernel) (by decide +kernel)
set_option maxRecDepth 20000 in
theorem gL_law_X5_even : GoodIn wsL_law (wsV RL 121 RX5 yX5_even wsX5_even) := goodIn_app (goodIn_r _ [652, 653, 654, 5] (by decide +kernel) (by decide +kernel)) ggL_law_X5_even
set_option maxRecDepth 20000 in
theorem ggL_law_X4_value : GoodIn wsL_law wsX4_value := goodIn_r _ [662, 18, 425, 426, 2, 427, 394, 259, 260, 663, 664, 665, 17, 666, 223, 36, 348, 667, 668, 669, 670, 671, 672, 673, 40, 674, 288, 289, 948, 949, 950, 951, 952, 953, 954, 955, 956, 957, 975, 976, 977, 978, 979, 980, 981, 982, 983, 984, 985, 990, 991, 992, 993, 994] (by decide +kernel) (by decide +kernel)
set_option maxRecDepth 20000 in
theorem gL_law_X4_value : GoodIn wsL_law (wsV RL 122 RX4 yX4_value wsX4_value) := goodIn_app (goodIn_r _ [659, 660, 661, 2] (by decide +kernel) (by decide +kernel)) ggL_law_X4_value
set_option maxRecDepth 20000 in
theorem ggL_law_X5_value : GoodIn wsL_law wsX5_value := goodIn_r _ [678, 108, 109, 5, 110, 679, 680, 681, 682, 69, 414, 415, 416, 417, 683, 684, 685, 686, 635, 636, 637, 378, 379, 380, 381, 382, 383, 384, 385, 958, 959, 960, 961, 962, 963, 964, 965, 966, 967, 968, 969, 970, 971, 972, 973, 974] (by decide +kernel) (by decide +kernel)
set_option maxRecDepth 20000 in
theorem gL_law_X5_value : GoodIn wsL_law (wsV RL 125 RX5 yX5_value wsX5_value) := goodIn_app (goodIn_r _ [675, 676, 677, 5] (by decide +kernel) (by decide +kernel)) ggL_law_X5_value
set_option maxRecDepth 20000 in
theorem ggL_law_X4_fair : GoodIn wsL_law wsX4_fair := goodIn_r _ [690, 18, 481, 437, 438, 439, 17, 440, 223, 663, 664, 665, 666, 36, 348, 691, 692, 693, 694, 695, 696, 697, 698, 699, 668, 669, 670, 671, 672, 673, 40, 674, 288, 289, 948, 949, 950, 951, 952, 953, 954, 955, 956, 957, 975, 976, 977, 978, 979, 980, 981, 982, 983, 984, 985, 990, 991, 992, 993, 994] (by decide +kernel) (by decide +kernel)
set_option maxRecDepth 20000 in
theorem gL_law_X4_fair : GoodIn wsL_law (wsV RL 126 RX4 yX4_fair wsX4_fair) := goodIn_app (goodIn_r _ [687, 688, 689, 2] (by decide +kernel) (by decide +kernel)) ggL_law_X4_fair
set_option maxRecDepth 20000 in
theorem ggL_law_X5_fair : GoodIn wsL_law wsX5_fair := goodIn_r _ [703, 69, 453, 454, 455, 5, 456, 679, 680, 681, 682, 414, 415, 416, 417, 704, 705, 706, 707, 683, 684, 685, 686, 635, 636, 637, 378, 379, 380, 381, 382, 383, 384, 385, 958, 959, 960, 961, 962, 963, 964, 965, 966, 967, 968, 969, 970, 971, 972, 973, 974] (by decide +kernel) (by decide +kernel)
set_option maxRecDepth 20000 in
theorem gL_law_X5_fair : GoodIn wsL_law (wsV RL 129 RX5 yX5_fair wsX5_fair) := goodIn_app (goodIn_r _ [700, 701, 702, 5] (by decide +kernel) (by decide +kernel)) ggL_law_X5_fair
set_option maxRecDepth 20000 in
theorem ggL_law_X4_ways : GoodIn wsL_law wsX4_ways := goodIn_r _ [711, 18, 712, 99, 57, 100, 128, 437, 438, 439, 17, 440, 223, 713, 696, 697, 698, 663, 664, 665, 666, 36, 348, 691, 692, 693, 694, 695, 699, 668, 669, 670, 671, 672, 673, 40, 674, 288, 289, 617, 618, 619, 620, 621, 622, 623, 948, 949, 950, 951, 952, 953, 954, 955, 956, 957, 975, 976, 977, 978, 979, 980, 981, 982, 983, 984, 985, 990, 991, 992, 993, 994] (by decide +kernel) (by decide +kernel)
set_option maxRecDepth 20000 in
theorem gL_law_X4_ways : GoodIn wsL_law (wsV RL 130 RX4 yX4_ways wsX4_ways) := goodIn_app (goodIn_r _ [708, 709, 710, 2] (by decide +kernel) (by decide +kernel)) ggL_law_X4_ways
set_option maxRecDepth 20000 in
theorem ggL_law_X5_ways : GoodIn wsL_law wsX5_ways := goodIn_r _ [717, 69, 453, 454, 455, 5, 456, 704, 705, 706, 707, 683, 684, 685, 686, 635, 636, 637, 378, 379, 380, 381, 382, 383, 384, 385, 679, 680, 681, 682, 414, 415, 416, 417, 656, 657, 658, 145, 146, 147, 148, 149, 958, 959, 960, 961, 962, 963, 964, 965, 966, 967, 968, 969, 970, 971, 972, 973, 974] (by decide +kernel) (by decide +kernel)
set_option maxRecDepth 20000 in
theorem gL_law_X5_ways : GoodIn wsL_law (wsV RL 133 RX5 yX5_ways wsX5_ways) := goodIn_app (goodIn_r _ [714, 715, 716, 5] (by decide +kernel) (by decide +kernel)) ggL_law_X5_ways
set_option maxRecDepth 20000 in
theorem ggL_law_X4_part : GoodIn wsL_law wsX4_part := goodIn_r _ [721, 18, 712, 99, 57, 100, 128, 437, 438, 439, 17, 440, 223, 713, 696, 697, 698, 667, 668, 669, 670, 36, 671, 672, 673, 40, 674, 288, 289, 948, 949, 950, 951, 952, 953, 954, 955, 956, 957, 975, 976, 977, 978, 979, 980, 981, 982, 983, 984, 985, 990, 991, 992, 993, 994] (by decide +kernel) (by decide +kernel)
set_option maxRecDepth 20000 in
theorem gL_law_X4_part : GoodIn wsL_law (wsV RL 134 RX4 yX4_part wsX4_part) := goodIn_app (goodIn_r _ [718, 719, 720, 2] (by decide +kernel) (by decide +kernel)) ggL_law_X4_part
set_option maxRecDepth 20000 in
theorem ggL_law_X5_part : GoodIn wsL_law wsX5_part := goodIn_r _ [725, 69, 453, 454, 455, 5, 456, 726, 727, 728, 729, 683, 684, 685, 686, 635, 636, 637, 378, 379, 380, 381, 382, 383, 384, 385, 145, 146, 147, 148, 149, 958, 959, 960, 961, 962, 963, 964, 965, 966, 967, 968, 969, 970, 971, 972, 973, 974] (by decide +kernel) (by decide +kernel)
set_option maxRecDepth 20000 in
theorem gL_law_X5_part : GoodIn wsL_law (wsV RL 137 RX5 yX5_part wsX5_part) := goodIn_app (goodIn_r _ [722, 723, 724, 5] (by decide +kernel) (by decide +kernel)) ggL_law_X5_part
set_option maxRecDepth 20000 in
theorem ggL_law_X4_sum : GoodIn wsL_law wsX4_sum := goodIn_r _ [733, 18, 481, 128, 437, 438, 439, 17, 440, 223, 663, 664, 665, 666, 36, 348, 691, 692, 693, 694, 695, 696, 697, 698, 699, 668, 669, 670, 671, 672, 673, 40, 674, 288, 289, 948, 949, 950, 951, 952, 953, 954, 955, 956, 957, 975, 976, 977, 978, 979, 980, 981, 982, 983, 984, 985, 990, 991, 992, 993, 994] (by decide +kernel) (by decide +kernel)
set_option maxRecDepth 20000 in
theorem gL_law_X4_sum : GoodIn wsL_law (wsV RL 138 RX4 yX4_sum wsX4_sum) := goodIn_app (goodIn_r _ [730, 731, 732, 2] (by decide +kernel) (by decide +kernel)) ggL_law_X4_sum
set_option maxRecDepth 20000 in
theorem ggL_law_X5_sum : GoodIn wsL_law wsX5_sum := goodIn_r _ [737, 69, 453, 454, 455, 5, 456, 679, 680, 681, 682, 414, 415, 416, 417, 704, 705, 706, 707, 683, 684, 685, 686, 635, 636, 637, 378, 379, 380, 381, 382, 383, 384, 385, 145, 146, 147, 148, 149, 958, 959, 960, 961, 962, 963, 964, 965, 966, 967, 968, 969, 970, 971, 972, 973, 974] (by decide +kernel) (by decide +kernel)
set_option maxRecDepth 20000 in
theorem gL_law_X5_sum : GoodIn wsL_law (wsV RL 141 RX5 yX5_sum wsX5_sum) := goodIn_app (goodIn_r _ [734, 735, 736, 5] (by decide +kernel) (by decide +kernel)) ggL_law_X5_sum
set_option maxRecDepth 20000 in
theorem ggL_law_X4_heirs : GoodIn wsL_law wsX4_heirs := goodIn_r _ [741, 18, 340, 605, 128, 437, 438, 439, 17, 440, 223, 742, 743, 744, 2, 745, 361, 391, 746, 56, 57, 58, 712, 99, 100, 948, 949, 950, 951, 952, 953, 954, 955, 956, 957, 975, 976, 977, 978, 979, 980, 981, 982, 983, 984, 985, 990, 991, 992, 993, 994] (by decide +kernel) (by decide +kernel)
set_option maxRecDepth 20000 in
theorem gL_law_X4_heirs : GoodIn wsL_law (wsV RL 142 RX4 yX4_heirs wsX4_heirs) := goodIn_app (goodIn_r _ [738, 739, 740, 2] (by decide +kernel) (by decide +kernel)) ggL_law_X4_heirs
set_option maxRecDepth 20000 in
theorem ggL_law_X5_heirs : GoodIn wsL_law wsX5_heirs := goodIn_r _ [750, 69, 75, 453, 454, 455, 5, 456, 378, 379, 380, 381, 382, 383, 384, 385, 145, 146, 147, 148, 149, 958, 959, 960, 961, 962, 963, 964, 965, 966, 967, 968, 969, 970, 971, 972, 973, 974] (by decide +kernel) (by decide +kernel)
set_option maxRecDepth 20000 in
theorem gL_law_X5_heirs : GoodIn wsL_law (wsV RL 145 RX5 yX5_heirs wsX5_heirs) := goodIn_app (goodIn_r _ [747, 748, 749, 5] (by decide +kernel) (by decide +kernel)) ggL_law_X5_heirs
set_option maxRecDepth 20000 in
theorem ggL_law_X4_calf : GoodIn wsL_law wsX4_calf := goodIn_r _ [754, 18, 526, 527, 2, 528, 394, 259, 260, 755, 756, 757, 437, 438, 439, 17, 440, 223, 758, 759, 760, 761, 762, 585, 586, 587, 552, 530, 531, 532, 221, 33, 553, 554, 555, 556, 222, 34, 763, 764, 765, 766, 746, 56, 57, 58, 529, 767, 768, 769, 770, 948, 949, 950, 951, 952, 953, 954, 955, 956, 957, 975, 976, 977, 978, 979, 980, 981, 982, 983, 984, 985] (by decide +kernel) (by decide +kernel)
set_option maxRecDepth 20000 in
theorem gL_law_X4_calf : GoodIn wsL_law (wsV RL 146 RX4 yX4_calf wsX4_calf) := goodIn_app (goodIn_r _ [751, 752, 753, 2] (by decide +kernel) (by decide +kernel)) ggL_law_X4_calf
set_option maxRecDepth 20000 in
theorem ggL_law_X5_calf : GoodIn wsL_law wsX5_calf := goodIn_r _ [774, 537, 538, 5, 539, 108, 109, 110, 453, 454, 455, 456, 69, 775, 776, 777, 778, 540, 541, 542, 543, 561, 562, 563, 564, 565, 566, 567, 568, 958, 959, 960, 961, 962, 963, 964, 965, 966, 967, 968, 969, 970, 971, 972, 973, 974] (by decide +kernel) (by decide +kernel)
set_option maxRecDepth 20000 in
theorem gL_law_X5_calf : GoodIn wsL_law (wsV RL 149 RX5 yX5_calf wsX5_calf) := goodIn_app (goodIn_r _ [771, 772, 773, 5] (by decide +kernel) (by decide +kernel)) ggL_law_X5_calf
set_option maxRecDepth 20000 in
theorem ggL_law_X4_quarrel : GoodIn wsL_law wsX4_quarrel := goodIn_r _ [782, 18, 526, 527, 2, 528, 394, 259, 260, 755, 756, 757, 437, 438, 439, 17, 440, 223, 758, 759, 760, 761, 762, 585, 586, 587, 552, 530, 531, 532, 221, 33, 553, 554, 555, 556, 222, 34, 584, 763, 764, 765, 766, 746, 56, 57, 58, 529, 767, 768, 769, 770, 948, 949, 950, 951, 952, 953, 954, 955, 956, 957, 975, 976, 977, 978, 979, 980, 981, 982, 983, 984, 985] (by decide +kernel) (by decide +kernel)
set_option maxRecDepth 20000 in
theorem gL_law_X4_quarrel : GoodIn wsL_law (wsV RL 150 RX4 yX4_quarrel wsX4_quarrel) := goodIn_app (goodIn_r _ [779, 780, 781, 2] (by decide +kernel) (by decide +kernel)) ggL_law_X4_quarrel
set_option maxRecDepth 20000 in
theorem ggL_law_X5_quarrel : GoodIn wsL_law wsX5_quarrel := goodIn_r _ [786, 537, 538, 5, 539, 108, 109, 110, 453, 454, 455, 456, 69, 775, 776, 777, 778, 540, 541, 542, 543, 561, 562, 563, 564, 565, 566, 567, 568, 958, 959, 960, 961, 962, 963, 964, 965, 966, 967, 968, 969, 970, 971, 972, 973, 974] (by decide +kernel) (by decide +kernel)
set_option maxRecDepth 20000 in
theorem gL_law_X5_quarrel : GoodIn wsL_law (wsV RL 153 RX5 yX5_quarrel wsX5_quarrel) := goodIn_app (goodIn_r _ [783, 784, 785, 5] (by decide +kernel) (by decide +kernel)) ggL_law_X5_quarrel
set_option maxRecDepth 20000 in
theorem ggL_law_X4_bill : GoodIn wsL_law wsX4_bill := goodIn_r _ [790, 18, 791, 394, 259, 2, 260, 526, 527, 528, 437, 438, 439, 17, 440, 223, 548, 549, 550, 551, 552, 530, 531, 532, 221, 33, 553, 554, 555, 556, 222, 34, 792, 793, 794, 795, 796, 26, 797, 798, 799, 948, 949, 950, 951, 952, 953, 954, 955, 956, 957, 975, 976, 977, 978, 979, 980, 981, 982, 983, 984, 985] (by decide +kernel) (by decide +kernel)
set_option maxRecDepth 20000 in
theorem gL_law_X4_bill : GoodIn wsL_law (wsV RL 154 RX4 yX4_bill wsX4_bill) := goodIn_app (goodIn_r _ [787, 788, 789, 2] (by decide +kernel) (by decide +kernel)) ggL_law_X4_bill
set_option maxRecDepth 20000 in
theorem ggL_law_X5_bill : GoodIn wsL_law wsX5_bill := goodIn_r _ [803, 804, 108, 109, 5, 110, 537, 538, 539, 453, 454, 455, 456, 69, 561, 562, 563, 564, 540, 541, 542, 543, 565, 566, 567, 568, 805, 806, 807, 808, 809, 76, 958, 959, 960, 961, 962, 963, 964, 965, 966, 967, 968, 969, 970, 971, 972, 973, 974] (by decide +kernel) (by decide +kernel)
set_option maxRecDepth 20000 in
theorem gL_law_X5_bill : GoodIn wsL_law (wsV RL 157 RX5 yX5_bill wsX5_bill) := goodIn_app (goodIn_r _ [800, 801, 802, 5] (by decide +kernel) (by decide +kernel)) ggL_law_X5_bill
