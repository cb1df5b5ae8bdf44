/-! The law's calls. -/
set_option maxRecDepth 20000 in
theorem ggL_law_X4_mark : GoodIn wsL_law wsX4_mark := goodIn_r _ [389, 18, 340, 361, 390, 391, 392, 393, 86, 87, 2, 88, 394, 259, 260, 395, 291, 292, 40, 293, 285, 89, 90, 91, 92, 25, 93, 396, 397, 398, 17, 399, 223, 36, 348, 400, 401, 402, 403, 404, 405, 948, 949, 950, 951, 952, 953, 954, 955, 956, 957, 975, 976, 977, 978, 979, 980, 981, 982, 983, 984, 985, 990, 991, 992, 993, 994] (by decide +kernel) (by decide +kernel)
set_option maxRecDepth 20000 in
theorem gL_law_X4_mark : GoodIn wsL_law (wsV RL 61 RX4 yX4_mark wsX4_mark) := goodIn_app (goodIn_r _ [386, 387, 388, 2] (by decide +kernel) (by decide +kernel)) ggL_law_X4_mark
set_option maxRecDepth 20000 in
theorem ggL_law_X5_mark : GoodIn wsL_law wsX5_mark := goodIn_r _ [409, 69, 370, 371, 372, 5, 373, 108, 109, 110, 410, 411, 412, 413, 382, 383, 384, 385, 111, 112, 113, 114, 115, 74, 378, 379, 380, 381, 414, 415, 416, 417, 958, 959, 960, 961, 962, 963, 964, 965, 966, 967, 968, 969, 970, 971, 972, 973, 974] (by decide +kernel) (by decide +kernel)
set_option maxRecDepth 20000 in
theorem gL_law_X5_mark : GoodIn wsL_law (wsV RL 64 RX5 yX5_mark wsX5_mark) := goodIn_app (goodIn_r _ [406, 407, 408, 5] (by decide +kernel) (by decide +kernel)) ggL_law_X5_mark
set_option maxRecDepth 20000 in
theorem ggL_law_X4_turn : GoodIn wsL_law wsX4_turn := goodIn_r _ [421, 18, 422, 423, 424, 86, 87, 2, 88, 425, 426, 427, 394, 259, 260, 948, 949, 950, 951, 952, 953, 954, 955, 956, 957, 975, 976, 977, 978, 979, 980, 981, 982, 983, 984, 985] (by decide +kernel) (by decide +kernel)
set_option maxRecDepth 20000 in
theorem gL_law_X4_turn : GoodIn wsL_law (wsV RL 65 RX4 yX4_turn wsX4_turn) := goodIn_app (goodIn_r _ [418, 419, 420, 2] (by decide +kernel) (by decide +kernel)) ggL_law_X4_turn
set_option maxRecDepth 20000 in
theorem ggL_law_X5_turn : GoodIn wsL_law wsX5_turn := goodIn_r _ [431, 69, 108, 109, 5, 110, 958, 959, 960, 961, 962, 963, 964, 965, 966, 967, 968, 969, 970, 971, 972, 973, 974] (by decide +kernel) (by decide +kernel)
set_option maxRecDepth 20000 in
theorem gL_law_X5_turn : GoodIn wsL_law (wsV RL 68 RX5 yX5_turn wsX5_turn) := goodIn_app (goodIn_r _ [428, 429, 430, 5] (by decide +kernel) (by decide +kernel)) ggL_law_X5_turn
set_option maxRecDepth 20000 in
theorem ggL_law_X4_day : GoodIn wsL_law wsX4_day := goodIn_r _ [435, 18, 436, 423, 437, 438, 439, 17, 440, 223, 441, 442, 443, 444, 225, 445, 446, 447, 448, 224, 37, 38, 948, 949, 950, 951, 952, 953, 954, 955, 956, 957, 975, 976, 977, 978, 979, 980, 981, 982, 983, 984, 985] (by decide +kernel) (by decide +kernel)
set_option maxRecDepth 20000 in
theorem gL_law_X4_day : GoodIn wsL_law (wsV RL 69 RX4 yX4_day wsX4_day) := goodIn_app (goodIn_r _ [432, 433, 434, 2] (by decide +kernel) (by decide +kernel)) ggL_law_X4_day
set_option maxRecDepth 20000 in
theorem ggL_law_X5_day : GoodIn wsL_law wsX5_day := goodIn_r _ [452, 69, 453, 454, 455, 5, 456, 457, 458, 459, 460, 461, 462, 463, 464, 414, 415, 416, 417, 958, 959, 960, 961, 962, 963, 964, 965, 966, 967, 968, 969, 970, 971, 972, 973, 974] (by decide +kernel) (by decide +kernel)
set_option maxRecDepth 20000 in
theorem gL_law_X5_day : GoodIn wsL_law (wsV RL 73 RX5 yX5_day wsX5_day) := goodIn_app (goodIn_r _ [449, 450, 451, 5] (by decide +kernel) (by decide +kernel)) ggL_law_X5_day
set_option maxRecDepth 20000 in
theorem ggL_law_X4_drive : GoodIn wsL_law wsX4_drive := goodIn_r _ [468, 18, 340, 423, 361, 393, 86, 87, 2, 88, 469, 470, 471, 17, 472, 223, 36, 348, 445, 446, 447, 448, 224, 37, 38, 948, 949, 950, 951, 952, 953, 954, 955, 956, 957, 975, 976, 977, 978, 979, 980, 981, 982, 983, 984, 985, 990, 991, 992, 993, 994] (by decide +kernel) (by decide +kernel)
set_option maxRecDepth 20000 in
theorem gL_law_X4_drive : GoodIn wsL_law (wsV RL 74 RX4 yX4_drive wsX4_drive) := goodIn_app (goodIn_r _ [465, 466, 467, 2] (by decide +kernel) (by decide +kernel)) ggL_law_X4_drive
set_option maxRecDepth 20000 in
theorem ggL_law_X5_drive : GoodIn wsL_law wsX5_drive := goodIn_r _ [476, 69, 370, 371, 372, 5, 373, 108, 109, 110, 457, 458, 459, 460, 461, 462, 463, 464, 414, 415, 416, 417, 958, 959, 960, 961, 962, 963, 964, 965, 966, 967, 968, 969, 970, 971, 972, 973, 974] (by decide +kernel) (by decide +kernel)
set_option maxRecDepth 20000 in
theorem gL_law_X5_drive : GoodIn wsL_law (wsV RL 77 RX5 yX5_drive wsX5_drive) := goodIn_app (goodIn_r _ [473, 474, 475, 5] (by decide +kernel) (by decide +kernel)) ggL_law_X5_drive
set_option maxRecDepth 20000 in
theorem ggL_law_X4_pay : GoodIn wsL_law wsX4_pay := goodIn_r _ [480, 18, 423, 481, 425, 426, 2, 427, 394, 259, 260, 437, 438, 439, 17, 440, 223, 482, 483, 484, 485, 226, 445, 446, 447, 448, 224, 37, 38, 948, 949, 950, 951, 952, 953, 954, 955, 956, 957, 975, 976, 977, 978, 979, 980, 981, 982, 983, 984, 985] (by decide +kernel) (by decide +kernel)
set_option maxRecDepth 20000 in
theorem gL_law_X4_pay : GoodIn wsL_law (wsV RL 78 RX4 yX4_pay wsX4_pay) := goodIn_app (goodIn_r _ [477, 478, 479, 2] (by decide +kernel) (by decide +kernel)) ggL_law_X4_pay
set_option maxRecDepth 20000 in
theorem ggL_law_X5_pay : GoodIn wsL_law wsX5_pay := goodIn_r _ [489, 69, 108, 109, 5, 110, 453, 454, 455, 456, 457, 458, 459, 460, 461, 462, 463, 464, 414, 415, 416, 417, 958, 959, 960, 961, 962, 963, 964, 965, 966, 967, 968, 969, 970, 971, 972, 973, 974] (by decide +kernel) (by decide +kernel)
set_option maxRecDepth 20000 in
theorem gL_law_X5_pay : GoodIn wsL_law (wsV RL 81 RX5 yX5_pay wsX5_pay) := goodIn_app (goodIn_r _ [486, 487, 488, 5] (by decide +kernel) (by decide +kernel)) ggL_law_X5_pay
set_option maxRecDepth 20000 in
theorem ggL_law_X4_undo : GoodIn wsL_law wsX4_undo := goodIn_r _ [493, 18, 423, 394, 259, 2, 260, 494, 495, 496, 17, 497, 224, 37, 38, 498, 499, 500, 501, 225, 226, 36, 348, 87, 88, 948, 949, 950, 951, 952, 953, 954, 955, 956, 957, 975, 976, 977, 978, 979, 980, 981, 982, 983, 984, 985, 990, 991, 992, 993, 994] (by decide +kernel) (by decide +kernel)
set_option maxRecDepth 20000 in
theorem gL_law_X4_undo : GoodIn wsL_law (wsV RL 82 RX4 yX4_undo wsX4_undo) := goodIn_app (goodIn_r _ [490, 491, 492, 2] (by decide +kernel) (by decide +kernel)) ggL_law_X4_undo
set_option maxRecDepth 20000 in
theorem ggL_law_X5_undo : GoodIn wsL_law wsX5_undo := goodIn_r _ [505, 69, 108, 109, 5, 110, 461, 462, 463, 464, 414, 415, 416, 417, 958, 959, 960, 961, 962, 963, 964, 965, 966, 967, 968, 969, 970, 971, 972, 973, 974] (by decide +kernel) (by decide +kernel)
set_option maxRecDepth 20000 in
theorem gL_law_X5_undo : GoodIn wsL_law (wsV RL 85 RX5 yX5_undo wsX5_undo) := goodIn_app (goodIn_r _ [502, 503, 504, 5] (by decide +kernel) (by decide +kernel)) ggL_law_X5_undo
set_option maxRecDepth 20000 in
theorem ggL_law_X4_keep : GoodIn wsL_law wsX4_keep := goodIn_r _ [509, 18, 19, 423, 86, 87, 2, 88, 437, 438, 439, 17, 440, 223, 341, 342, 343, 344, 33, 345, 166, 167, 168, 34, 36, 346, 347, 348, 37, 38, 221, 222, 224, 225, 226, 281, 282, 283, 40, 284, 285, 286, 287, 288, 289, 290, 291, 292, 293, 948, 949, 950, 951, 952, 953, 954, 955, 956, 957, 975, 976, 977, 978, 979, 980, 981, 982, 983, 984, 985, 990, 991, 992, 993, 994] (by decide +kernel) (by decide +kernel)
set_option maxRecDepth 20000 in
theorem gL_law_X4_keep : GoodIn wsL_law (wsV RL 86 RX4 yX4_keep wsX4_keep) := goodIn_app (goodIn_r _ [506, 507, 508, 2] (by decide +kernel) (by decide +kernel)) ggL_law_X4_keep
set_option maxRecDepth 20000 in
theorem ggL_law_X5_keep : GoodIn wsL_law wsX5_keep := goodIn_r _ [513, 69, 71, 73, 108, 109, 5, 110, 453, 454, 455, 456, 354, 355, 356, 958, 959, 960, 961, 962, 963, 964, 965, 966, 967, 968, 969, 970, 971, 972, 973, 974] (by decide +kernel) (by decide +kernel)
set_option maxRecDepth 20000 in
theorem gL_law_X5_keep : GoodIn wsL_law (wsV RL 89 RX5 yX5_keep wsX5_keep) := goodIn_app (goodIn_r _ [510, 511, 512, 5] (by decide +kernel) (by decide +kernel)) ggL_law_X5_keep
set_option maxRecDepth 20000 in
theorem ggL_law_X4_on : GoodIn wsL_law wsX4_on := goodIn_r _ [517, 19, 18, 423, 86, 87, 2, 88, 437, 438, 439, 17, 440, 223, 89, 90, 91, 92, 25, 93, 341, 342, 343, 344, 33, 345, 166, 167, 168, 34, 36, 346, 347, 348, 37, 38, 221, 222, 224, 225, 226, 281, 282, 283, 40, 284, 285, 286, 287, 288, 289, 290, 291, 292, 293, 948, 949, 950, 951, 952, 953, 954, 955, 956, 957, 975, 976, 977, 978, 979, 980, 981, 982, 983, 984, 985, 990, 991, 992, 993, 994] (by decide +kernel) (by decide +kernel)
set_option maxRecDepth 20000 in
theorem gL_law_X4_on : GoodIn wsL_law (wsV RL 90 RX4 yX4_on wsX4_on) := goodIn_app (goodIn_r _ [514, 515, 516, 2] (by decide +kernel) (by decide +kernel)) ggL_law_X4_on
set_option maxRecDepth 20000 in
theorem ggL_law_X5_on : GoodIn wsL_law wsX5_on := goodIn_r _ [521, 73, 71, 69, 108, 109, 5, 110, 111, 112, 113, 114, 115, 74, 354, 355, 356, 958, 959, 960, 961, 962, 963, 964, 965, 966, 967, 968, 969, 970, 971, 972, 973, 974] (by decide +kernel) (by decide +kernel)
set_option maxRecDepth 20000 in
theorem gL_law_X5_on : GoodIn wsL_law (wsV RL 93 RX5 yX5_on wsX5_on) := goodIn_app (goodIn_r _ [518, 519, 520, 5] (by decide +kernel) (by decide +kernel)) ggL_law_X5_on
set_option maxRecDepth 20000 in
theorem ggL_law_X4_where : GoodIn wsL_law wsX4_where := goodIn_r _ [525, 18, 526, 527, 2, 528, 394, 259, 260, 437, 438, 439, 17, 440, 223, 529, 530, 531, 532, 221, 33, 948, 949, 950, 951, 952, 953, 954, 955, 956, 957, 975, 976, 977, 978, 979, 980, 981, 982, 983, 984, 985] (by decide +kernel) (by decide +kernel)
set_option maxRecDepth 20000 in
theorem gL_law_X4_where : GoodIn wsL_law (wsV RL 94 RX4 yX4_where wsX4_where) := goodIn_app (goodIn_r _ [522, 523, 524, 2] (by decide +kernel) (by decide +kernel)) ggL_law_X4_where
set_option maxRecDepth 20000 in
theorem ggL_law_X5_where : GoodIn wsL_law wsX5_where := goodIn_r _ [536, 537, 538, 5, 539, 108, 109, 110, 453, 454, 455, 456, 69, 540, 541, 542, 543, 958, 959, 960, 961, 962, 963, 964, 965, 966, 967, 968, 969, 970, 971, 972, 973, 974] (by decide +kernel) (by decide +kernel)
set_option maxRecDepth 20000 in
theorem gL_law_X5_where : GoodIn wsL_law (wsV RL 97 RX5 yX5_where wsX5_where) := goodIn_app (goodIn_r _ [533, 534, 535, 5] (by decide +kernel) (by decide +kernel)) ggL_law_X5_where
set_option maxRecDepth 20000 in
theorem ggL_law_X4_milk : GoodIn wsL_law wsX4_milk := goodIn_r _ [547, 18, 425, 426, 2, 427, 394, 259, 260, 526, 527, 528, 437, 438, 439, 17, 440, 223, 548, 549, 550, 551, 552, 530, 531, 532, 221, 33, 553, 554, 555, 556, 222, 34, 948, 949, 950, 951, 952, 953, 954, 955, 956, 957, 975, 976, 977, 978, 979, 980, 981, 982, 983, 984, 985] (by decide +kernel) (by decide +kernel)
set_option maxRecDepth 20000 in
theorem gL_law_X4_milk : GoodIn wsL_law (wsV RL 98 RX4 yX4_milk wsX4_milk) := goodIn_app (goodIn_r _ [544, 545, 546, 2] (by decide +kernel) (by decide +kernel)) ggL_law_X4_milk
set_option maxRecDepth 20000 in
theorem ggL_law_X5_milk : GoodIn wsL_law wsX5_milk := goodIn_r _ [560, 108, 109, 5, 110, 537, 538, 539, 453, 454, 455, 456, 69, 561, 562, 563, 564, 540, 541, 542, 543, 565, 566, 567, 568, 958, 959, 960, 961, 962, 963, 964, 965, 966, 967, 968, 969, 970, 971, 972, 973, 974] (by decide +kernel) (by decide +kernel)
set_option maxRecDepth 20000 in
theorem gL_law_X5_milk : GoodIn wsL_law (wsV RL 101 RX5 yX5_milk wsX5_milk) := goodIn_app (goodIn_r _ [557, 558, 559, 5] (by decide +kernel) (by decide +kernel)) ggL_law_X5_milk
set_option maxRecDepth 20000 in
theorem ggL_law_X4_walks : GoodIn wsL_law wsX4_walks := goodIn_r _ [572, 18, 526, 527, 2, 528, 394, 259, 260, 437, 438, 439, 17, 440, 223, 529, 530, 531, 532, 221, 33, 948, 949, 950, 951, 952, 953, 954, 955, 956, 957, 975, 976, 977, 978, 979, 980, 981, 982, 983, 984, 985] (by decide +kernel) (by decide +kernel)
set_option maxRecDepth 20000 in
theorem gL_law_X4_walks : GoodIn wsL_law (wsV RL 102 RX4 yX4_walks wsX4_walks) := goodIn_app (goodIn_r _ [569, 570, 571, 2] (by decide +kernel) (by decide +kernel)) ggL_law_X4_walks
set_option maxRecDepth 20000 in
theorem ggL_law_X5_walks : GoodIn wsL_law wsX5_walks := goodIn_r _ [576, 537, 538, 5, 539, 108, 109, 110, 453, 454, 455, 456, 69, 540, 541, 542, 543, 958, 959, 960, 961, 962, 963, 964, 965, 966, 967, 968, 969, 970, 971, 972, 973, 974] (by decide +kernel) (by decide +kernel)
set_option maxRecDepth 20000 in
theorem gL_law_X5_walks : GoodIn wsL_law (wsV RL 105 RX5 yX5_walks wsX5_walks) := goodIn_app (goodIn_r _ [573, 574, 575, 5] (by decide +kernel) (by decide +kernel)) ggL_law_X5_walks
set_option maxRecDepth 20000 in
theorem ggL_law_X4_out : GoodIn wsL_law wsX4_out := goodIn_r _ [580, 18, 581, 582, 57, 583, 128, 394, 259, 2, 260, 437, 438, 439, 17, 440, 223, 584, 585, 586, 587, 552, 530, 531, 532, 221, 33, 553, 554, 555, 556, 222, 34, 948, 949, 950, 951, 952, 953, 954, 955, 956, 957, 975, 976, 977, 978, 979, 980, 981, 982, 983, 984, 985] (by decide +kernel) (by decide +kernel)
set_option maxRecDepth 20000 in
theorem gL_law_X4_out : GoodIn wsL_law (wsV RL 106 RX4 yX4_out wsX4_out) := goodIn_app (goodIn_r _ [577, 578, 579, 2] (by decide +kernel) (by decide +kernel)) ggL_law_X4_out
set_option maxRecDepth 20000 in
theorem ggL_law_X5_out : GoodIn wsL_law wsX5_out := goodIn_r _ [591, 108, 109, 5, 110, 453, 454, 455, 456, 69, 540, 541, 542, 543, 565, 566, 567, 568, 145, 146, 147, 148, 149, 958, 959, 960, 961, 962, 963, 964, 965, 966, 967, 968, 969, 970, 971, 972, 973, 974] (by decide +kernel) (by decide +kernel)
set_option maxRecDepth 20000 in
theorem gL_law_X5_out : GoodIn wsL_law (wsV RL 109 RX5 yX5_out wsX5_out) := goodIn_app (goodIn_r _ [588, 589, 590, 5] (by decide +kernel) (by decide +kernel)) ggL_law_X5_out
