/-! The law's calls. -/
set_option maxRecDepth 20000 in
theorem ggL_law_X4_fits : GoodIn wsL_law wsX4_fits := goodIn_r _ [813, 13, 128, 86, 87, 2, 88, 394, 259, 260, 814, 815, 816, 156, 85, 129, 130, 131, 28, 132, 54, 526, 527, 528, 425, 426, 427, 89, 90, 91, 92, 25, 93, 817, 818, 819, 792, 793, 794, 795, 796, 26, 797, 798, 799, 617, 618, 619, 620, 621, 622, 623, 948, 949, 950, 951, 952, 953, 954, 955, 956, 957, 988, 989] (by decide +kernel) (by decide +kernel)
set_option maxRecDepth 20000 in
theorem gL_law_X4_fits : GoodIn wsL_law (wsV RL 158 RX4 yX4_fits wsX4_fits) := goodIn_app (goodIn_r _ [810, 811, 812, 2] (by decide +kernel) (by decide +kernel)) ggL_law_X4_fits
set_option maxRecDepth 20000 in
theorem ggL_law_X5_fits : GoodIn wsL_law wsX5_fits := goodIn_r _ [823, 809, 76, 105, 106, 5, 107, 108, 109, 110, 824, 825, 826, 827, 64, 65, 537, 538, 539, 111, 112, 113, 114, 115, 74, 828, 829, 830, 831, 145, 146, 147, 148, 149, 958, 959, 960, 961, 962, 963, 964, 965, 966, 967, 968, 969, 970, 971, 972, 973, 974] (by decide +kernel) (by decide +kernel)
set_option maxRecDepth 20000 in
theorem gL_law_X5_fits : GoodIn wsL_law (wsV RL 161 RX5 yX5_fits wsX5_fits) := goodIn_app (goodIn_r _ [820, 821, 822, 5] (by decide +kernel) (by decide +kernel)) ggL_law_X5_fits
set_option maxRecDepth 20000 in
theorem ggL_law_X4_sure : GoodIn wsL_law wsX4_sure := goodIn_r _ [835, 13, 86, 87, 2, 88, 394, 259, 260, 526, 527, 528, 814, 815, 816, 156, 85, 129, 130, 131, 28, 132, 54, 425, 426, 427, 89, 90, 91, 92, 25, 93, 817, 818, 819, 948, 949, 950, 951, 952, 953, 954, 955, 956, 957, 988, 989] (by decide +kernel) (by decide +kernel)
set_option maxRecDepth 20000 in
theorem gL_law_X4_sure : GoodIn wsL_law (wsV RL 162 RX4 yX4_sure wsX4_sure) := goodIn_app (goodIn_r _ [832, 833, 834, 2] (by decide +kernel) (by decide +kernel)) ggL_law_X4_sure
set_option maxRecDepth 20000 in
theorem ggL_law_X5_sure : GoodIn wsL_law wsX5_sure := goodIn_r _ [839, 105, 106, 5, 107, 108, 109, 110, 537, 538, 539, 824, 825, 826, 827, 64, 65, 111, 112, 113, 114, 115, 74, 828, 829, 830, 831, 958, 959, 960, 961, 962, 963, 964, 965, 966, 967, 968, 969, 970, 971, 972, 973, 974] (by decide +kernel) (by decide +kernel)
set_option maxRecDepth 20000 in
theorem gL_law_X5_sure : GoodIn wsL_law (wsV RL 165 RX5 yX5_sure wsX5_sure) := goodIn_app (goodIn_r _ [836, 837, 838, 5] (by decide +kernel) (by decide +kernel)) ggL_law_X5_sure
set_option maxRecDepth 20000 in
theorem ggL_law_X4_odds : GoodIn wsL_law wsX4_odds := goodIn_r _ [843, 18, 844, 436, 425, 426, 2, 427, 394, 259, 260, 437, 438, 439, 17, 440, 223, 529, 530, 531, 532, 221, 33, 792, 793, 794, 795, 796, 26, 797, 798, 799, 948, 949, 950, 951, 952, 953, 954, 955, 956, 957, 975, 976, 977, 978, 979, 980, 981, 982, 983, 984, 985] (by decide +kernel) (by decide +kernel)
set_option maxRecDepth 20000 in
theorem gL_law_X4_odds : GoodIn wsL_law (wsV RL 166 RX4 yX4_odds wsX4_odds) := goodIn_app (goodIn_r _ [840, 841, 842, 2] (by decide +kernel) (by decide +kernel)) ggL_law_X4_odds
set_option maxRecDepth 20000 in
theorem ggL_law_X5_odds : GoodIn wsL_law wsX5_odds := goodIn_r _ [848, 849, 69, 108, 109, 5, 110, 453, 454, 455, 456, 540, 541, 542, 543, 805, 806, 807, 808, 809, 76, 958, 959, 960, 961, 962, 963, 964, 965, 966, 967, 968, 969, 970, 971, 972, 973, 974] (by decide +kernel) (by decide +kernel)
set_option maxRecDepth 20000 in
theorem gL_law_X5_odds : GoodIn wsL_law (wsV RL 169 RX5 yX5_odds wsX5_odds) := goodIn_app (goodIn_r _ [845, 846, 847, 5] (by decide +kernel) (by decide +kernel)) ggL_law_X5_odds
set_option maxRecDepth 20000 in
theorem ggL_law_X4_lots : GoodIn wsL_law wsX4_lots := goodIn_r _ [853, 854, 18, 423, 855, 394, 259, 2, 260, 437, 438, 439, 17, 440, 223, 856, 857, 858, 859, 340, 441, 442, 443, 444, 225, 445, 446, 447, 448, 224, 37, 38, 469, 470, 471, 472, 36, 348, 87, 88, 482, 483, 484, 485, 226, 663, 664, 665, 666, 617, 618, 619, 620, 621, 622, 623, 948, 949, 950, 951, 952, 953, 954, 955, 956, 957, 975, 976, 977, 978, 979, 980, 981, 982, 983, 984, 985, 990, 991, 992, 993, 994] (by decide +kernel) (by decide +kernel)
set_option maxRecDepth 20000 in
theorem gL_law_X4_lots : GoodIn wsL_law (wsV RL 170 RX4 yX4_lots wsX4_lots) := goodIn_app (goodIn_r _ [850, 851, 852, 2] (by decide +kernel) (by decide +kernel)) ggL_law_X4_lots
set_option maxRecDepth 20000 in
theorem ggL_law_X5_lots : GoodIn wsL_law wsX5_lots := goodIn_r _ [863, 864, 69, 865, 866, 867, 868, 804, 869, 870, 871, 108, 109, 5, 110, 453, 454, 455, 456, 457, 458, 459, 460, 461, 462, 463, 464, 414, 415, 416, 417, 679, 680, 681, 682, 656, 657, 658, 958, 959, 960, 961, 962, 963, 964, 965, 966, 967, 968, 969, 970, 971, 972, 973, 974] (by decide +kernel) (by decide +kernel)
set_option maxRecDepth 20000 in
theorem gL_law_X5_lots : GoodIn wsL_law (wsV RL 173 RX5 yX5_lots wsX5_lots) := goodIn_app (goodIn_r _ [860, 861, 862, 5] (by decide +kernel) (by decide +kernel)) ggL_law_X5_lots
set_option maxRecDepth 20000 in
theorem ggL_law_X4_asked : GoodIn wsL_law wsX4_asked := goodIn_r _ [875, 128, 948, 949, 950, 951, 952, 953, 954, 955, 956, 957] (by decide +kernel) (by decide +kernel)
set_option maxRecDepth 20000 in
theorem gL_law_X4_asked : GoodIn wsL_law (wsV RL 174 RX4 yX4_asked wsX4_asked) := goodIn_app (goodIn_r _ [872, 873, 874, 2] (by decide +kernel) (by decide +kernel)) ggL_law_X4_asked
set_option maxRecDepth 20000 in
theorem ggL_law_X5_asked : GoodIn wsL_law wsX5_asked := goodIn_r _ [879, 149, 958, 959, 960, 961, 962, 963, 964, 965, 966, 967, 968, 969, 970, 971, 972, 973, 974] (by decide +kernel) (by decide +kernel)
set_option maxRecDepth 20000 in
theorem gL_law_X5_asked : GoodIn wsL_law (wsV RL 177 RX5 yX5_asked wsX5_asked) := goodIn_app (goodIn_r _ [876, 877, 878, 5] (by decide +kernel) (by decide +kernel)) ggL_law_X5_asked
set_option maxRecDepth 20000 in
theorem ggL_law_X4_upper : GoodIn wsL_law wsX4_upper := goodIn_r _ [883, 796, 948, 949, 950, 951, 952, 953, 954, 955, 956, 957] (by decide +kernel) (by decide +kernel)
set_option maxRecDepth 20000 in
theorem gL_law_X4_upper : GoodIn wsL_law (wsV RL 178 RX4 yX4_upper wsX4_upper) := goodIn_app (goodIn_r _ [880, 881, 882, 2] (by decide +kernel) (by decide +kernel)) ggL_law_X4_upper
set_option maxRecDepth 20000 in
theorem ggL_law_X5_upper : GoodIn wsL_law wsX5_upper := goodIn_r _ [887, 809, 958, 959, 960, 961, 962, 963, 964, 965, 966, 967, 968, 969, 970, 971, 972, 973, 974] (by decide +kernel) (by decide +kernel)
set_option maxRecDepth 20000 in
theorem gL_law_X5_upper : GoodIn wsL_law (wsV RL 182 RX5 yX5_upper wsX5_upper) := goodIn_app (goodIn_r _ [884, 885, 886, 5] (by decide +kernel) (by decide +kernel)) ggL_law_X5_upper
set_option maxRecDepth 20000 in
theorem ggL_law_X4_lower : GoodIn wsL_law wsX4_lower := goodIn_r _ [891, 26, 948, 949, 950, 951, 952, 953, 954, 955, 956, 957] (by decide +kernel) (by decide +kernel)
set_option maxRecDepth 20000 in
theorem gL_law_X4_lower : GoodIn wsL_law (wsV RL 183 RX4 yX4_lower wsX4_lower) := goodIn_app (goodIn_r _ [888, 889, 890, 2] (by decide +kernel) (by decide +kernel)) ggL_law_X4_lower
set_option maxRecDepth 20000 in
theorem ggL_law_X5_lower : GoodIn wsL_law wsX5_lower := goodIn_r _ [895, 76, 958, 959, 960, 961, 962, 963, 964, 965, 966, 967, 968, 969, 970, 971, 972, 973, 974] (by decide +kernel) (by decide +kernel)
set_option maxRecDepth 20000 in
theorem gL_law_X5_lower : GoodIn wsL_law (wsV RL 186 RX5 yX5_lower wsX5_lower) := goodIn_app (goodIn_r _ [892, 893, 894, 5] (by decide +kernel) (by decide +kernel)) ggL_law_X5_lower
set_option maxRecDepth 20000 in
theorem ggL_law_X4_count : GoodIn wsL_law wsX4_count := goodIn_r _ [899, 18, 340, 422, 596, 436, 423, 481, 13, 14, 900, 901, 902, 17, 903, 223, 36, 400, 291, 292, 40, 293, 285, 904, 905, 2, 906, 129, 130, 131, 28, 132, 54, 907, 908, 909, 910, 19, 437, 438, 439, 440, 948, 949, 950, 951, 952, 953, 954, 955, 956, 957, 975, 976, 977, 978, 979, 980, 981, 982, 983, 984, 985, 990, 991, 992, 993, 994, 988, 989] (by decide +kernel) (by decide +kernel)
set_option maxRecDepth 20000 in
theorem gL_law_X4_count : GoodIn wsL_law (wsV RL 187 RX4 yX4_count wsX4_count) := goodIn_app (goodIn_r _ [896, 897, 898, 2] (by decide +kernel) (by decide +kernel)) ggL_law_X4_count
set_option maxRecDepth 20000 in
theorem ggL_law_X5_count : GoodIn wsL_law wsX5_count := goodIn_r _ [914, 69, 64, 67, 73, 410, 411, 412, 5, 413, 382, 383, 384, 385, 958, 959, 960, 961, 962, 963, 964, 965, 966, 967, 968, 969, 970, 971, 972, 973, 974] (by decide +kernel) (by decide +kernel)
set_option maxRecDepth 20000 in
theorem gL_law_X5_count : GoodIn wsL_law (wsV RL 190 RX5 yX5_count wsX5_count) := goodIn_app (goodIn_r _ [911, 912, 913, 5] (by decide +kernel) (by decide +kernel)) ggL_law_X5_count
set_option maxRecDepth 20000 in
theorem ggL_law_X4_finding : GoodIn wsL_law wsX4_finding := goodIn_r _ [918, 93, 948, 949, 950, 951, 952, 953, 954, 955, 956, 957] (by decide +kernel) (by decide +kernel)
set_option maxRecDepth 20000 in
theorem gL_law_X4_finding : GoodIn wsL_law (wsV RL 191 RX4 yX4_finding wsX4_finding) := goodIn_app (goodIn_r _ [915, 916, 917, 2] (by decide +kernel) (by decide +kernel)) ggL_law_X4_finding
set_option maxRecDepth 20000 in
theorem ggL_law_X5_finding : GoodIn wsL_law wsX5_finding := goodIn_r _ [922, 115, 958, 959, 960, 961, 962, 963, 964, 965, 966, 967, 968, 969, 970, 971, 972, 973, 974] (by decide +kernel) (by decide +kernel)
set_option maxRecDepth 20000 in
theorem gL_law_X5_finding : GoodIn wsL_law (wsV RL 194 RX5 yX5_finding wsX5_finding) := goodIn_app (goodIn_r _ [919, 920, 921, 5] (by decide +kernel) (by decide +kernel)) ggL_law_X5_finding
set_option maxRecDepth 20000 in
theorem ggL_law_X4_findings : GoodIn wsL_law wsX4_findings := goodIn_r _ [926, 25, 394, 259, 2, 260, 948, 949, 950, 951, 952, 953, 954, 955, 956, 957] (by decide +kernel) (by decide +kernel)
set_option maxRecDepth 20000 in
theorem gL_law_X4_findings : GoodIn wsL_law (wsV RL 195 RX4 yX4_findings wsX4_findings) := goodIn_app (goodIn_r _ [923, 924, 925, 2] (by decide +kernel) (by decide +kernel)) ggL_law_X4_findings
set_option maxRecDepth 20000 in
theorem ggL_law_X5_findings : GoodIn wsL_law wsX5_findings := goodIn_r _ [930, 74, 108, 109, 5, 110, 958, 959, 960, 961, 962, 963, 964, 965, 966, 967, 968, 969, 970, 971, 972, 973, 974] (by decide +kernel) (by decide +kernel)
set_option maxRecDepth 20000 in
theorem gL_law_X5_findings : GoodIn wsL_law (wsV RL 198 RX5 yX5_findings wsX5_findings) := goodIn_app (goodIn_r _ [927, 928, 929, 5] (by decide +kernel) (by decide +kernel)) ggL_law_X5_findings
set_option maxRecDepth 20000 in
theorem ggL_law_X4_digest : GoodIn wsL_law wsX4_digest := goodIn_r _ [934, 935, 936, 18, 422, 424, 340, 361, 19, 423, 13, 14, 937, 897, 898, 2, 899, 596, 436, 481, 900, 901, 902, 17, 903, 223, 36, 400, 291, 292, 40, 293, 285, 904, 905, 906, 129, 130, 131, 28, 132, 54, 907, 908, 909, 910, 437, 438, 439, 440, 362, 363, 364, 365, 286, 287, 288, 289, 938, 939, 940, 156, 85, 948, 949, 950, 951, 952, 953, 954, 955, 956, 957, 975, 976, 977, 978, 979, 980, 981, 982, 983, 984, 985, 990, 991, 992, 993, 994, 988, 989] (by decide +kernel) (by decide +kernel)
set_option maxRecDepth 20000 in
theorem gL_law_X4_digest : GoodIn wsL_law (wsV RL 199 RX4 yX4_digest wsX4_digest) := goodIn_app (goodIn_r _ [931, 932, 933, 2] (by decide +kernel) (by decide +kernel)) ggL_law_X4_digest
set_option maxRecDepth 20000 in
theorem ggL_law_X5_digest : GoodIn wsL_law wsX5_digest := goodIn_r _ [944, 945, 946, 69, 73, 71, 64, 65, 67, 68, 947, 912, 913, 5, 914, 410, 411, 412, 413, 382, 383, 384, 385, 374, 375, 376, 377, 378, 379, 380, 381, 958, 959, 960, 961, 962, 963, 964, 965, 966, 967, 968, 969, 970, 971, 972, 973, 974] (by decide +kernel) (by decide +kernel)
set_option maxRecDepth 20000 in
theorem gL_law_X5_digest : GoodIn wsL_law (wsV RL 202 RX5 yX5_digest wsX5_digest) := goodIn_app (goodIn_r _ [941, 942, 943, 5] (by decide +kernel) (by decide +kernel)) ggL_law_X5_digest
