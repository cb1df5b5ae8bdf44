/-! The law's calls. -/
set_option maxRecDepth 20000 in
theorem ggL_law_X4_init : GoodIn wsL_law wsX4_init := goodIn_r _ [8, 9, 10, 11, 12, 13, 14, 15, 16, 17, 18, 19, 20, 21, 22, 23, 24, 25, 26, 27, 28, 29, 30, 31, 32, 33, 34, 35, 36, 37, 38, 39, 40, 41, 42, 43, 44, 45, 46, 47, 48, 49, 50, 51, 52, 53, 54, 55, 56, 57, 58, 59, 948, 949, 950, 951, 952, 953, 954, 955, 956, 957, 975, 976, 977, 978, 979, 980, 981, 982, 983, 984, 985, 986, 987, 988, 989, 990, 991, 992, 993, 994] (by decide +kernel) (by decide +kernel)
set_option maxRecDepth 20000 in
theorem gL_law_X4_init : GoodIn wsL_law (wsX4_init) := ggL_law_X4_init
set_option maxRecDepth 20000 in
theorem ggL_law_X5_init : GoodIn wsL_law wsX5_init := goodIn_r _ [62, 63, 10, 11, 24, 64, 65, 66, 67, 68, 69, 70, 71, 72, 73, 74, 75, 76, 958, 959, 960, 961, 962, 963, 964, 965, 966, 967, 968, 969, 970, 971, 972, 973, 974] (by decide +kernel) (by decide +kernel)
set_option maxRecDepth 20000 in
theorem gL_law_X5_init : GoodIn wsL_law (wsX5_init) := ggL_law_X5_init
set_option maxRecDepth 20000 in
theorem ggL_law_X4_row : GoodIn wsL_law wsX4_row := goodIn_r _ [80, 13, 81, 82, 83, 2, 84, 85, 86, 87, 88, 89, 90, 91, 92, 25, 93, 94, 95, 96, 28, 97, 59, 98, 99, 57, 100, 54, 948, 949, 950, 951, 952, 953, 954, 955, 956, 957, 988, 989] (by decide +kernel) (by decide +kernel)
set_option maxRecDepth 20000 in
theorem gL_law_X4_row : GoodIn wsL_law (wsV RL 13 RX4 yX4_row wsX4_row) := goodIn_app (goodIn_r _ [77, 78, 79, 2] (by decide +kernel) (by decide +kernel)) ggL_law_X4_row
set_option maxRecDepth 20000 in
theorem ggL_law_X5_row : GoodIn wsL_law wsX5_row := goodIn_r _ [104, 105, 106, 5, 107, 108, 109, 110, 111, 112, 113, 114, 115, 74, 116, 117, 118, 119, 64, 65, 958, 959, 960, 961, 962, 963, 964, 965, 966, 967, 968, 969, 970, 971, 972, 973, 974] (by decide +kernel) (by decide +kernel)
set_option maxRecDepth 20000 in
theorem gL_law_X5_row : GoodIn wsL_law (wsV RL 17 RX5 yX5_row wsX5_row) := goodIn_app (goodIn_r _ [101, 102, 103, 5] (by decide +kernel) (by decide +kernel)) ggL_law_X5_row
set_option maxRecDepth 20000 in
theorem ggL_law_X4_lay : GoodIn wsL_law wsX4_lay := goodIn_r _ [123, 13, 85, 124, 125, 126, 2, 127, 128, 86, 87, 88, 129, 130, 131, 28, 132, 54, 89, 90, 91, 92, 25, 93, 133, 134, 135, 136, 948, 949, 950, 951, 952, 953, 954, 955, 956, 957, 988, 989] (by decide +kernel) (by decide +kernel)
set_option maxRecDepth 20000 in
theorem gL_law_X4_lay : GoodIn wsL_law (wsV RL 18 RX4 yX4_lay wsX4_lay) := goodIn_app (goodIn_r _ [120, 121, 122, 2] (by decide +kernel) (by decide +kernel)) ggL_law_X4_lay
set_option maxRecDepth 20000 in
theorem ggL_law_X5_lay : GoodIn wsL_law wsX5_lay := goodIn_r _ [140, 65, 141, 142, 143, 5, 144, 64, 105, 106, 107, 108, 109, 110, 111, 112, 113, 114, 115, 74, 145, 146, 147, 148, 149, 958, 959, 960, 961, 962, 963, 964, 965, 966, 967, 968, 969, 970, 971, 972, 973, 974] (by decide +kernel) (by decide +kernel)
set_option maxRecDepth 20000 in
theorem gL_law_X5_lay : GoodIn wsL_law (wsV RL 22 RX5 yX5_lay wsX5_lay) := goodIn_app (goodIn_r _ [137, 138, 139, 5] (by decide +kernel) (by decide +kernel)) ggL_law_X5_lay
set_option maxRecDepth 20000 in
theorem ggL_law_X4_at : GoodIn wsL_law wsX4_at := goodIn_r _ [127, 13, 85, 128, 86, 87, 2, 88, 129, 130, 131, 28, 132, 54, 89, 90, 91, 92, 25, 93, 133, 134, 135, 136, 948, 949, 950, 951, 952, 953, 954, 955, 956, 957, 988, 989] (by decide +kernel) (by decide +kernel)
set_option maxRecDepth 20000 in
theorem gL_law_X4_at : GoodIn wsL_law (wsV RL 23 RX4 yX4_at wsX4_at) := goodIn_app (goodIn_r _ [150, 125, 126, 2] (by decide +kernel) (by decide +kernel)) ggL_law_X4_at
set_option maxRecDepth 20000 in
theorem ggL_law_X5_at : GoodIn wsL_law wsX5_at := goodIn_r _ [144, 64, 65, 105, 106, 5, 107, 108, 109, 110, 111, 112, 113, 114, 115, 74, 145, 146, 147, 148, 149, 958, 959, 960, 961, 962, 963, 964, 965, 966, 967, 968, 969, 970, 971, 972, 973, 974] (by decide +kernel) (by decide +kernel)
set_option maxRecDepth 20000 in
theorem gL_law_X5_at : GoodIn wsL_law (wsV RL 26 RX5 yX5_at wsX5_at) := goodIn_app (goodIn_r _ [151, 142, 143, 5] (by decide +kernel) (by decide +kernel)) ggL_law_X5_at
set_option maxRecDepth 20000 in
theorem ggL_law_X4_tear : GoodIn wsL_law wsX4_tear := goodIn_r _ [155, 13, 156, 86, 87, 2, 88, 129, 130, 131, 28, 132, 54, 89, 90, 91, 92, 25, 93, 948, 949, 950, 951, 952, 953, 954, 955, 956, 957, 988, 989] (by decide +kernel) (by decide +kernel)
set_option maxRecDepth 20000 in
theorem gL_law_X4_tear : GoodIn wsL_law (wsV RL 27 RX4 yX4_tear wsX4_tear) := goodIn_app (goodIn_r _ [152, 153, 154, 2] (by decide +kernel) (by decide +kernel)) ggL_law_X4_tear
set_option maxRecDepth 20000 in
theorem ggL_law_X5_tear : GoodIn wsL_law wsX5_tear := goodIn_r _ [160, 64, 105, 106, 5, 107, 108, 109, 110, 111, 112, 113, 114, 115, 74, 958, 959, 960, 961, 962, 963, 964, 965, 966, 967, 968, 969, 970, 971, 972, 973, 974] (by decide +kernel) (by decide +kernel)
set_option maxRecDepth 20000 in
theorem gL_law_X5_tear : GoodIn wsL_law (wsV RL 31 RX5 yX5_tear wsX5_tear) := goodIn_app (goodIn_r _ [157, 158, 159, 5] (by decide +kernel) (by decide +kernel)) ggL_law_X5_tear
set_option maxRecDepth 20000 in
theorem ggL_law_X4_copy : GoodIn wsL_law wsX4_copy := goodIn_r _ [164, 13, 85, 165, 166, 167, 168, 86, 87, 2, 88, 89, 90, 91, 92, 25, 93, 129, 130, 131, 28, 132, 54, 169, 170, 171, 172, 948, 949, 950, 951, 952, 953, 954, 955, 956, 957, 988, 989] (by decide +kernel) (by decide +kernel)
set_option maxRecDepth 20000 in
theorem gL_law_X4_copy : GoodIn wsL_law (wsV RL 32 RX4 yX4_copy wsX4_copy) := goodIn_app (goodIn_r _ [161, 162, 163, 2] (by decide +kernel) (by decide +kernel)) ggL_law_X4_copy
set_option maxRecDepth 20000 in
theorem ggL_law_X5_copy : GoodIn wsL_law wsX5_copy := goodIn_r _ [176, 64, 66, 65, 105, 106, 5, 107, 108, 109, 110, 111, 112, 113, 114, 115, 74, 958, 959, 960, 961, 962, 963, 964, 965, 966, 967, 968, 969, 970, 971, 972, 973, 974] (by decide +kernel) (by decide +kernel)
set_option maxRecDepth 20000 in
theorem gL_law_X5_copy : GoodIn wsL_law (wsV RL 36 RX5 yX5_copy wsX5_copy) := goodIn_app (goodIn_r _ [173, 174, 175, 5] (by decide +kernel) (by decide +kernel)) ggL_law_X5_copy
set_option maxRecDepth 20000 in
theorem ggL_law_X4_mean : GoodIn wsL_law wsX4_mean := goodIn_r _ [180, 13, 156, 128, 86, 87, 2, 88, 129, 130, 131, 28, 132, 54, 89, 90, 91, 92, 25, 93, 181, 182, 183, 184, 59, 948, 949, 950, 951, 952, 953, 954, 955, 956, 957, 988, 989] (by decide +kernel) (by decide +kernel)
set_option maxRecDepth 20000 in
theorem gL_law_X4_mean : GoodIn wsL_law (wsV RL 37 RX4 yX4_mean wsX4_mean) := goodIn_app (goodIn_r _ [177, 178, 179, 2] (by decide +kernel) (by decide +kernel)) ggL_law_X4_mean
set_option maxRecDepth 20000 in
theorem ggL_law_X5_mean : GoodIn wsL_law wsX5_mean := goodIn_r _ [188, 64, 65, 105, 106, 5, 107, 108, 109, 110, 111, 112, 113, 114, 115, 74, 145, 146, 147, 148, 149, 958, 959, 960, 961, 962, 963, 964, 965, 966, 967, 968, 969, 970, 971, 972, 973, 974] (by decide +kernel) (by decide +kernel)
set_option maxRecDepth 20000 in
theorem gL_law_X5_mean : GoodIn wsL_law (wsV RL 40 RX5 yX5_mean wsX5_mean) := goodIn_app (goodIn_r _ [185, 186, 187, 5] (by decide +kernel) (by decide +kernel)) ggL_law_X5_mean
set_option maxRecDepth 20000 in
theorem ggL_law_X4_text : GoodIn wsL_law wsX4_text := goodIn_r _ [192, 14, 81, 82, 83, 2, 84, 85, 86, 87, 88, 89, 90, 91, 92, 25, 93, 94, 95, 96, 28, 97, 59, 98, 99, 57, 100, 54, 948, 949, 950, 951, 952, 953, 954, 955, 956, 957, 988, 989] (by decide +kernel) (by decide +kernel)
set_option maxRecDepth 20000 in
theorem gL_law_X4_text : GoodIn wsL_law (wsV RL 41 RX4 yX4_text wsX4_text) := goodIn_app (goodIn_r _ [189, 190, 191, 2] (by decide +kernel) (by decide +kernel)) ggL_law_X4_text
set_option maxRecDepth 20000 in
theorem ggL_law_X5_text : GoodIn wsL_law wsX5_text := goodIn_r _ [196, 67, 68, 197, 198, 5, 199, 108, 109, 110, 111, 112, 113, 114, 115, 74, 958, 959, 960, 961, 962, 963, 964, 965, 966, 967, 968, 969, 970, 971, 972, 973, 974] (by decide +kernel) (by decide +kernel)
set_option maxRecDepth 20000 in
theorem gL_law_X5_text : GoodIn wsL_law (wsV RL 44 RX5 yX5_text wsX5_text) := goodIn_app (goodIn_r _ [193, 194, 195, 5] (by decide +kernel) (by decide +kernel)) ggL_law_X5_text
set_option maxRecDepth 20000 in
theorem ggL_law_X4_put : GoodIn wsL_law wsX4_put := goodIn_r _ [203, 14, 85, 86, 87, 2, 88, 129, 130, 131, 28, 132, 54, 89, 90, 91, 92, 25, 93, 133, 134, 135, 136, 948, 949, 950, 951, 952, 953, 954, 955, 956, 957, 988, 989] (by decide +kernel) (by decide +kernel)
set_option maxRecDepth 20000 in
theorem gL_law_X4_put : GoodIn wsL_law (wsV RL 45 RX4 yX4_put wsX4_put) := goodIn_app (goodIn_r _ [200, 201, 202, 2] (by decide +kernel) (by decide +kernel)) ggL_law_X4_put
set_option maxRecDepth 20000 in
theorem ggL_law_X5_put : GoodIn wsL_law wsX5_put := goodIn_r _ [207, 67, 68, 197, 198, 5, 199, 108, 109, 110, 111, 112, 113, 114, 115, 74, 958, 959, 960, 961, 962, 963, 964, 965, 966, 967, 968, 969, 970, 971, 972, 973, 974] (by decide +kernel) (by decide +kernel)
set_option maxRecDepth 20000 in
theorem gL_law_X5_put : GoodIn wsL_law (wsV RL 48 RX5 yX5_put wsX5_put) := goodIn_app (goodIn_r _ [204, 205, 206, 5] (by decide +kernel) (by decide +kernel)) ggL_law_X5_put
set_option maxRecDepth 20000 in
theorem ggL_law_X4_fault : GoodIn wsL_law wsX4_fault := goodIn_r _ [211, 14, 23, 86, 87, 2, 88, 129, 130, 131, 28, 132, 54, 89, 90, 91, 92, 25, 93, 212, 213, 214, 22, 215, 48, 216, 217, 218, 219, 17, 220, 221, 222, 223, 224, 225, 226, 227, 228, 229, 230, 231, 232, 233, 234, 235, 236, 237, 238, 239, 240, 241, 242, 243, 244, 245, 246, 134, 135, 136, 247, 248, 249, 250, 251, 252, 253, 33, 254, 255, 256, 257, 258, 259, 260, 261, 262, 263, 264, 34, 265, 266, 267, 268, 269, 270, 271, 272, 273, 274, 275, 276, 277, 278, 279, 280, 36, 281, 282, 283, 40, 284, 285, 286, 287, 288, 289, 290, 291, 292, 293, 948, 949, 950, 951, 952, 953, 954, 955, 956, 957, 988, 989, 986, 987, 975, 976, 977, 978, 979, 980, 981, 982, 983, 984, 985, 990, 991, 992, 993, 994] (by decide +kernel) (by decide +kernel)
set_option maxRecDepth 20000 in
theorem gL_law_X4_fault : GoodIn wsL_law (wsV RL 49 RX4 yX4_fault wsX4_fault) := goodIn_app (goodIn_r _ [208, 209, 210, 2] (by decide +kernel) (by decide +kernel)) ggL_law_X4_fault
set_option maxRecDepth 20000 in
theorem ggL_law_X5_fault : GoodIn wsL_law wsX5_fault := goodIn_r _ [297, 67, 197, 198, 5, 199, 108, 109, 110, 111, 112, 113, 114, 115, 74, 298, 299, 300, 301, 70, 302, 303, 304, 305, 306, 307, 308, 309, 310, 311, 312, 313, 314, 315, 68, 316, 317, 318, 319, 320, 321, 322, 323, 324, 325, 326, 327, 328, 329, 330, 331, 332, 333, 334, 958, 959, 960, 961, 962, 963, 964, 965, 966, 967, 968, 969, 970, 971, 972, 973, 974] (by decide +kernel) (by decide +kernel)
set_option maxRecDepth 20000 in
theorem gL_law_X5_fault : GoodIn wsL_law (wsV RL 52 RX5 yX5_fault wsX5_fault) := goodIn_app (goodIn_r _ [294, 295, 296, 5] (by decide +kernel) (by decide +kernel)) ggL_law_X5_fault
set_option maxRecDepth 20000 in
theorem ggL_law_X4_farms : GoodIn wsL_law wsX4_farms := goodIn_r _ [338, 14, 23, 18, 339, 19, 340, 86, 87, 2, 88, 129, 130, 131, 28, 132, 54, 89, 90, 91, 92, 25, 93, 212, 213, 214, 22, 215, 48, 216, 217, 218, 219, 17, 220, 221, 222, 223, 224, 225, 226, 227, 228, 229, 230, 231, 232, 233, 234, 235, 236, 237, 238, 239, 240, 241, 242, 243, 244, 245, 246, 134, 135, 136, 247, 248, 249, 250, 251, 252, 253, 33, 254, 255, 256, 257, 258, 259, 260, 261, 262, 263, 264, 34, 265, 266, 267, 268, 269, 270, 271, 272, 273, 274, 275, 276, 277, 278, 279, 280, 36, 281, 282, 283, 40, 284, 285, 286, 287, 288, 289, 290, 291, 292, 293, 341, 342, 343, 344, 345, 166, 167, 168, 346, 347, 348, 37, 38, 349, 948, 949, 950, 951, 952, 953, 954, 955, 956, 957, 986, 987, 975, 976, 977, 978, 979, 980, 981, 982, 983, 984, 985, 988, 989, 990, 991, 992, 993, 994] (by decide +kernel) (by decide +kernel)
set_option maxRecDepth 20000 in
theorem gL_law_X4_farms : GoodIn wsL_law (wsV RL 53 RX4 yX4_farms wsX4_farms) := goodIn_app (goodIn_r _ [335, 336, 337, 2] (by decide +kernel) (by decide +kernel)) ggL_law_X4_farms
set_option maxRecDepth 20000 in
theorem ggL_law_X5_farms : GoodIn wsL_law wsX5_farms := goodIn_r _ [353, 67, 70, 69, 73, 197, 198, 5, 199, 108, 109, 110, 111, 112, 113, 114, 115, 74, 298, 299, 300, 301, 302, 303, 304, 305, 306, 307, 308, 309, 310, 311, 312, 313, 314, 315, 68, 316, 317, 318, 319, 320, 321, 322, 323, 324, 325, 326, 327, 328, 329, 330, 331, 332, 333, 334, 354, 355, 356, 958, 959, 960, 961, 962, 963, 964, 965, 966, 967, 968, 969, 970, 971, 972, 973, 974] (by decide +kernel) (by decide +kernel)
set_option maxRecDepth 20000 in
theorem gL_law_X5_farms : GoodIn wsL_law (wsV RL 56 RX5 yX5_farms wsX5_farms) := goodIn_app (goodIn_r _ [350, 351, 352, 5] (by decide +kernel) (by decide +kernel)) ggL_law_X5_farms
set_option maxRecDepth 20000 in
theorem ggL_law_X4_beast : GoodIn wsL_law wsX4_beast := goodIn_r _ [360, 18, 340, 361, 128, 86, 87, 2, 88, 362, 363, 364, 40, 365, 285, 286, 287, 288, 289, 948, 949, 950, 951, 952, 953, 954, 955, 956, 957, 975, 976, 977, 978, 979, 980, 981, 982, 983, 984, 985, 990, 991, 992, 993, 994] (by decide +kernel) (by decide +kernel)
set_option maxRecDepth 20000 in
theorem gL_law_X4_beast : GoodIn wsL_law (wsV RL 57 RX4 yX4_beast wsX4_beast) := goodIn_app (goodIn_r _ [357, 358, 359, 2] (by decide +kernel) (by decide +kernel)) ggL_law_X4_beast
set_option maxRecDepth 20000 in
theorem ggL_law_X5_beast : GoodIn wsL_law wsX5_beast := goodIn_r _ [369, 370, 371, 372, 5, 373, 69, 108, 109, 110, 374, 375, 376, 377, 378, 379, 380, 381, 382, 383, 384, 385, 145, 146, 147, 148, 149, 958, 959, 960, 961, 962, 963, 964, 965, 966, 967, 968, 969, 970, 971, 972, 973, 974] (by decide +kernel) (by decide +kernel)
set_option maxRecDepth 20000 in
theorem gL_law_X5_beast : GoodIn wsL_law (wsV RL 60 RX5 yX5_beast wsX5_beast) := goodIn_app (goodIn_r _ [366, 367, 368, 5] (by decide +kernel) (by decide +kernel)) ggL_law_X5_beast
