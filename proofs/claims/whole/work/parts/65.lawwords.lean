/-! The law's words are the tables'. -/
set_option maxRecDepth 100000 in
theorem lwr_1 : ∀ w ∈ wsL_law_r1, w ∈ lw_tbl := by
  intro w hw
  have e : wsL_law_r1 = ([60, 61, 51, 698, 699, 57, 62, 63, 64, 65, 66, 67, 68, 189, 190, 70, 71, 52, 191, 192, 154, 155, 54, 193] : List Nat).filterMap (fun i => lw_tbl[i]?) := by decide +kernel
  rw [e] at hw
  obtain ⟨i, -, hi⟩ := List.mem_filterMap.mp hw
  exact List.mem_of_getElem? hi
set_option maxRecDepth 100000 in
theorem lwr_2 : ∀ w ∈ wsL_law_r2, w ∈ lw_tbl := by
  intro w hw
  have e : wsL_law_r2 = ([107, 194, 198, 170, 55, 72, 73, 74, 75, 108, 110, 76, 111, 113, 114, 78, 53, 80, 81, 82, 157, 158, 159, 160] : List Nat).filterMap (fun i => lw_tbl[i]?) := by decide +kernel
  rw [e] at hw
  obtain ⟨i, -, hi⟩ := List.mem_filterMap.mp hw
  exact List.mem_of_getElem? hi
set_option maxRecDepth 100000 in
theorem lwr_3 : ∀ w ∈ wsL_law_r3, w ∈ lw_tbl := by
  intro w hw
  have e : wsL_law_r3 = ([162, 161, 171, 172, 173, 174, 181, 175, 176, 56, 177, 178, 700, 701, 702, 703, 704, 705, 706, 707, 708, 709, 710, 711] : List Nat).filterMap (fun i => lw_tbl[i]?) := by decide +kernel
  rw [e] at hw
  obtain ⟨i, -, hi⟩ := List.mem_filterMap.mp hw
  exact List.mem_of_getElem? hi
set_option maxRecDepth 100000 in
theorem lwr_4 : ∀ w ∈ wsL_law_r4, w ∈ lw_tbl := by
  intro w hw
  have e : wsL_law_r4 = ([756, 712, 713, 718, 717, 220, 221, 222, 223, 224, 226, 0, 227, 180, 228, 229, 230, 231, 233, 1, 234, 195, 235, 236] : List Nat).filterMap (fun i => lw_tbl[i]?) := by decide +kernel
  rw [e] at hw
  obtain ⟨i, -, hi⟩ := List.mem_filterMap.mp hw
  exact List.mem_of_getElem? hi
set_option maxRecDepth 100000 in
theorem lwr_5 : ∀ w ∈ wsL_law_r5, w ∈ lw_tbl := by
  intro w hw
  have e : wsL_law_r5 = ([237, 238, 239, 240, 241, 757, 758, 759, 760, 761, 762, 763, 764, 765, 766, 767, 769, 18, 770, 714, 771, 773, 19, 774] : List Nat).filterMap (fun i => lw_tbl[i]?) := by decide +kernel
  rw [e] at hw
  obtain ⟨i, -, hi⟩ := List.mem_filterMap.mp hw
  exact List.mem_of_getElem? hi
set_option maxRecDepth 100000 in
theorem lwr_6 : ∀ w ∈ wsL_law_r6, w ∈ lw_tbl := by
  intro w hw
  have e : wsL_law_r6 = ([242, 243, 244, 245, 246, 247, 248, 249, 196, 250, 251, 252, 253, 254, 255, 256, 257, 775, 776, 777, 778, 779, 780, 781] : List Nat).filterMap (fun i => lw_tbl[i]?) := by decide +kernel
  rw [e] at hw
  obtain ⟨i, -, hi⟩ := List.mem_filterMap.mp hw
  exact List.mem_of_getElem? hi
set_option maxRecDepth 100000 in
theorem lwr_7 : ∀ w ∈ wsL_law_r7, w ∈ lw_tbl := by
  intro w hw
  have e : wsL_law_r7 = ([782, 783, 785, 20, 786, 715, 258, 787, 259, 260, 261, 262, 183, 788, 789, 790, 791, 263, 264, 265, 266, 271, 273, 272] : List Nat).filterMap (fun i => lw_tbl[i]?) := by decide +kernel
  rw [e] at hw
  obtain ⟨i, -, hi⟩ := List.mem_filterMap.mp hw
  exact List.mem_of_getElem? hi
set_option maxRecDepth 100000 in
theorem lwr_8 : ∀ w ∈ wsL_law_r8, w ∈ lw_tbl := by
  intro w hw
  have e : wsL_law_r8 = ([58, 267, 268, 269, 270, 792, 793, 794, 795, 274, 275, 276, 277, 278, 279, 280, 281, 796, 797, 798, 799, 282, 283, 284] : List Nat).filterMap (fun i => lw_tbl[i]?) := by decide +kernel
  rw [e] at hw
  obtain ⟨i, -, hi⟩ := List.mem_filterMap.mp hw
  exact List.mem_of_getElem? hi
set_option maxRecDepth 100000 in
theorem lwr_9 : ∀ w ∈ wsL_law_r9, w ∈ lw_tbl := by
  intro w hw
  have e : wsL_law_r9 = ([285, 800, 801, 802, 803, 804, 805, 806, 286, 287, 288, 289, 807, 808, 809, 810, 290, 291, 292, 293, 294, 295, 296, 297] : List Nat).filterMap (fun i => lw_tbl[i]?) := by decide +kernel
  rw [e] at hw
  obtain ⟨i, -, hi⟩ := List.mem_filterMap.mp hw
  exact List.mem_of_getElem? hi
set_option maxRecDepth 100000 in
theorem lwr_10 : ∀ w ∈ wsL_law_r10, w ∈ lw_tbl := by
  intro w hw
  have e : wsL_law_r10 = ([164, 298, 299, 300, 301, 115, 118, 121, 124, 126, 128, 302, 304, 2, 305, 182, 179, 116, 306, 308, 3, 309, 310, 312] : List Nat).filterMap (fun i => lw_tbl[i]?) := by decide +kernel
  rw [e] at hw
  obtain ⟨i, -, hi⟩ := List.mem_filterMap.mp hw
  exact List.mem_of_getElem? hi
set_option maxRecDepth 100000 in
theorem lwr_11 : ∀ w ∈ wsL_law_r11, w ∈ lw_tbl := by
  intro w hw
  have e : wsL_law_r11 = ([4, 313, 314, 316, 5, 317, 318, 319, 320, 321, 322, 323, 324, 325, 326, 328, 6, 329, 119, 331, 332, 333, 334, 335] : List Nat).filterMap (fun i => lw_tbl[i]?) := by decide +kernel
  rw [e] at hw
  obtain ⟨i, -, hi⟩ := List.mem_filterMap.mp hw
  exact List.mem_of_getElem? hi
set_option maxRecDepth 100000 in
theorem lwr_12 : ∀ w ∈ wsL_law_r12, w ∈ lw_tbl := by
  intro w hw
  have e : wsL_law_r12 = ([336, 337, 339, 7, 340, 122, 341, 343, 8, 344, 345, 346, 347, 350, 351, 352, 353, 354, 355, 356, 357, 83, 85, 88] : List Nat).filterMap (fun i => lw_tbl[i]?) := by decide +kernel
  rw [e] at hw
  obtain ⟨i, -, hi⟩ := List.mem_filterMap.mp hw
  exact List.mem_of_getElem? hi
set_option maxRecDepth 100000 in
theorem lwr_13 : ∀ w ∈ wsL_law_r13, w ∈ lw_tbl := by
  intro w hw
  have e : wsL_law_r13 = ([91, 94, 358, 359, 360, 361, 811, 812, 813, 814, 815, 817, 21, 818, 719, 720, 819, 821, 22, 822, 823, 825, 23, 826] : List Nat).filterMap (fun i => lw_tbl[i]?) := by decide +kernel
  rw [e] at hw
  obtain ⟨i, -, hi⟩ := List.mem_filterMap.mp hw
  exact List.mem_of_getElem? hi
set_option maxRecDepth 100000 in
theorem lwr_14 : ∀ w ∈ wsL_law_r14, w ∈ lw_tbl := by
  intro w hw
  have e : wsL_law_r14 = ([827, 829, 24, 830, 831, 833, 25, 834, 835, 837, 26, 838, 839, 841, 27, 842, 843, 845, 28, 846, 847, 848, 849, 364] : List Nat).filterMap (fun i => lw_tbl[i]?) := by decide +kernel
  rw [e] at hw
  obtain ⟨i, -, hi⟩ := List.mem_filterMap.mp hw
  exact List.mem_of_getElem? hi
set_option maxRecDepth 100000 in
theorem lwr_15 : ∀ w ∈ wsL_law_r15, w ∈ lw_tbl := by
  intro w hw
  have e : wsL_law_r15 = ([365, 366, 367, 163, 123, 368, 369, 370, 371, 372, 84, 86, 89, 373, 850, 851, 852, 853, 854, 855, 856, 374, 375, 376] : List Nat).filterMap (fun i => lw_tbl[i]?) := by decide +kernel
  rw [e] at hw
  obtain ⟨i, -, hi⟩ := List.mem_filterMap.mp hw
  exact List.mem_of_getElem? hi
set_option maxRecDepth 100000 in
theorem lwr_16 : ∀ w ∈ wsL_law_r16, w ∈ lw_tbl := by
  intro w hw
  have e : wsL_law_r16 = ([377, 112, 378, 379, 380, 381, 857, 858, 859, 860, 861, 863, 29, 864, 865, 867, 30, 868, 869, 871, 31, 872, 873, 875] : List Nat).filterMap (fun i => lw_tbl[i]?) := by decide +kernel
  rw [e] at hw
  obtain ⟨i, -, hi⟩ := List.mem_filterMap.mp hw
  exact List.mem_of_getElem? hi
set_option maxRecDepth 100000 in
theorem lwr_17 : ∀ w ∈ wsL_law_r17, w ∈ lw_tbl := by
  intro w hw
  have e : wsL_law_r17 = ([32, 876, 382, 383, 384, 385, 87, 92, 95, 90, 386, 387, 388, 389, 390, 391, 392, 393, 394, 395, 396, 93, 877, 878] : List Nat).filterMap (fun i => lw_tbl[i]?) := by decide +kernel
  rw [e] at hw
  obtain ⟨i, -, hi⟩ := List.mem_filterMap.mp hw
  exact List.mem_of_getElem? hi
set_option maxRecDepth 100000 in
theorem lwr_18 : ∀ w ∈ wsL_law_r18, w ∈ lw_tbl := by
  intro w hw
  have e : wsL_law_r18 = ([879, 880, 881, 883, 33, 884, 885, 887, 34, 888, 397, 398, 399, 400, 117, 125, 109, 401, 402, 403, 889, 890, 891, 892] : List Nat).filterMap (fun i => lw_tbl[i]?) := by decide +kernel
  rw [e] at hw
  obtain ⟨i, -, hi⟩ := List.mem_filterMap.mp hw
  exact List.mem_of_getElem? hi
set_option maxRecDepth 100000 in
theorem lwr_19 : ∀ w ∈ wsL_law_r19, w ∈ lw_tbl := by
  intro w hw
  have e : wsL_law_r19 = ([404, 405, 406, 407, 127, 408, 409, 410, 411, 412, 413, 414, 415, 416, 418, 9, 419, 893, 894, 895, 896, 897, 899, 35] : List Nat).filterMap (fun i => lw_tbl[i]?) := by decide +kernel
  rw [e] at hw
  obtain ⟨i, -, hi⟩ := List.mem_filterMap.mp hw
  exact List.mem_of_getElem? hi
set_option maxRecDepth 100000 in
theorem lwr_20 : ∀ w ∈ wsL_law_r20, w ∈ lw_tbl := by
  intro w hw
  have e : wsL_law_r20 = ([900, 901, 903, 36, 904, 905, 907, 37, 908, 420, 421, 422, 423, 424, 425, 426, 427, 909, 910, 911, 912, 429, 430, 431] : List Nat).filterMap (fun i => lw_tbl[i]?) := by decide +kernel
  rw [e] at hw
  obtain ⟨i, -, hi⟩ := List.mem_filterMap.mp hw
  exact List.mem_of_getElem? hi
set_option maxRecDepth 100000 in
theorem lwr_21 : ∀ w ∈ wsL_law_r21, w ∈ lw_tbl := by
  intro w hw
  have e : wsL_law_r21 = ([432, 129, 433, 434, 435, 436, 913, 914, 915, 916, 437, 438, 439, 440, 441, 442, 443, 444, 445, 447, 10, 448, 917, 918] : List Nat).filterMap (fun i => lw_tbl[i]?) := by decide +kernel
  rw [e] at hw
  obtain ⟨i, -, hi⟩ := List.mem_filterMap.mp hw
  exact List.mem_of_getElem? hi
set_option maxRecDepth 100000 in
theorem lwr_22 : ∀ w ∈ wsL_law_r22, w ∈ lw_tbl := by
  intro w hw
  have e : wsL_law_r22 = ([919, 920, 449, 450, 451, 452, 921, 922, 923, 924, 453, 454, 455, 456, 925, 926, 927, 928, 457, 458, 459, 460, 461, 462] : List Nat).filterMap (fun i => lw_tbl[i]?) := by decide +kernel
  rw [e] at hw
  obtain ⟨i, -, hi⟩ := List.mem_filterMap.mp hw
  exact List.mem_of_getElem? hi
set_option maxRecDepth 100000 in
theorem lwr_23 : ∀ w ∈ wsL_law_r23, w ∈ lw_tbl := by
  intro w hw
  have e : wsL_law_r23 = ([463, 464, 465, 466, 467, 929, 930, 931, 932, 933, 934, 935, 936, 938, 38, 939, 468, 469, 470, 471, 472, 473, 474, 475] : List Nat).filterMap (fun i => lw_tbl[i]?) := by decide +kernel
  rw [e] at hw
  obtain ⟨i, -, hi⟩ := List.mem_filterMap.mp hw
  exact List.mem_of_getElem? hi
set_option maxRecDepth 100000 in
theorem lwr_24 : ∀ w ∈ wsL_law_r24, w ∈ lw_tbl := by
  intro w hw
  have e : wsL_law_r24 = ([476, 477, 478, 479, 480, 940, 941, 942, 943, 944, 946, 39, 947, 948, 950, 40, 951, 481, 482, 483, 484, 952, 953, 954] : List Nat).filterMap (fun i => lw_tbl[i]?) := by decide +kernel
  rw [e] at hw
  obtain ⟨i, -, hi⟩ := List.mem_filterMap.mp hw
  exact List.mem_of_getElem? hi
set_option maxRecDepth 100000 in
theorem lwr_25 : ∀ w ∈ wsL_law_r25, w ∈ lw_tbl := by
  intro w hw
  have e : wsL_law_r25 = ([955, 485, 486, 487, 488, 493, 494, 495, 489, 490, 491, 492, 956, 957, 958, 959, 496, 497, 498, 499, 120, 960, 961, 962] : List Nat).filterMap (fun i => lw_tbl[i]?) := by decide +kernel
  rw [e] at hw
  obtain ⟨i, -, hi⟩ := List.mem_filterMap.mp hw
  exact List.mem_of_getElem? hi
set_option maxRecDepth 100000 in
theorem lwr_26 : ∀ w ∈ wsL_law_r26, w ∈ lw_tbl := by
  intro w hw
  have e : wsL_law_r26 = ([963, 500, 501, 502, 503, 504, 505, 507, 11, 508, 509, 510, 511, 512, 513, 514, 515, 516, 517, 59, 518, 519, 520, 521] : List Nat).filterMap (fun i => lw_tbl[i]?) := by decide +kernel
  rw [e] at hw
  obtain ⟨i, -, hi⟩ := List.mem_filterMap.mp hw
  exact List.mem_of_getElem? hi
set_option maxRecDepth 100000 in
theorem lwr_27 : ∀ w ∈ wsL_law_r27, w ∈ lw_tbl := by
  intro w hw
  have e : wsL_law_r27 = ([522, 523, 524, 964, 965, 966, 967, 968, 970, 41, 971, 972, 973, 974, 975, 976, 977, 525, 526, 527, 528, 529, 531, 12] : List Nat).filterMap (fun i => lw_tbl[i]?) := by decide +kernel
  rw [e] at hw
  obtain ⟨i, -, hi⟩ := List.mem_filterMap.mp hw
  exact List.mem_of_getElem? hi
set_option maxRecDepth 100000 in
theorem lwr_28 : ∀ w ∈ wsL_law_r28, w ∈ lw_tbl := by
  intro w hw
  have e : wsL_law_r28 = ([532, 533, 534, 535, 978, 979, 980, 981, 982, 983, 984, 536, 537, 538, 539, 540, 541, 542, 543, 544, 545, 546, 547, 548] : List Nat).filterMap (fun i => lw_tbl[i]?) := by decide +kernel
  rw [e] at hw
  obtain ⟨i, -, hi⟩ := List.mem_filterMap.mp hw
  exact List.mem_of_getElem? hi
set_option maxRecDepth 100000 in
theorem lwr_29 : ∀ w ∈ wsL_law_r29, w ∈ lw_tbl := by
  intro w hw
  have e : wsL_law_r29 = ([549, 550, 551, 985, 986, 987, 988, 989, 991, 42, 992, 993, 995, 43, 996, 552, 553, 554, 555, 556, 557, 558, 559, 560] : List Nat).filterMap (fun i => lw_tbl[i]?) := by decide +kernel
  rw [e] at hw
  obtain ⟨i, -, hi⟩ := List.mem_filterMap.mp hw
  exact List.mem_of_getElem? hi
set_option maxRecDepth 100000 in
theorem lwr_30 : ∀ w ∈ wsL_law_r30, w ∈ lw_tbl := by
  intro w hw
  have e : wsL_law_r30 = ([561, 562, 563, 564, 997, 998, 999, 1000, 1001, 1003, 44, 1004, 565, 566, 567, 568, 570, 569, 1005, 1006, 1007, 1008, 571, 572] : List Nat).filterMap (fun i => lw_tbl[i]?) := by decide +kernel
  rw [e] at hw
  obtain ⟨i, -, hi⟩ := List.mem_filterMap.mp hw
  exact List.mem_of_getElem? hi
set_option maxRecDepth 100000 in
theorem lwr_31 : ∀ w ∈ wsL_law_r31, w ∈ lw_tbl := by
  intro w hw
  have e : wsL_law_r31 = ([573, 574, 1009, 1010, 1011, 1012, 1013, 1015, 45, 1016, 575, 576, 577, 578, 1017, 1018, 1019, 1020, 579, 580, 581, 582, 583, 585] : List Nat).filterMap (fun i => lw_tbl[i]?) := by decide +kernel
  rw [e] at hw
  obtain ⟨i, -, hi⟩ := List.mem_filterMap.mp hw
  exact List.mem_of_getElem? hi
set_option maxRecDepth 100000 in
theorem lwr_32 : ∀ w ∈ wsL_law_r32, w ∈ lw_tbl := by
  intro w hw
  have e : wsL_law_r32 = ([13, 586, 587, 1021, 1022, 1023, 1024, 588, 589, 590, 591, 592, 593, 594, 595, 596, 597, 598, 599, 600, 602, 14, 603, 604] : List Nat).filterMap (fun i => lw_tbl[i]?) := by decide +kernel
  rw [e] at hw
  obtain ⟨i, -, hi⟩ := List.mem_filterMap.mp hw
  exact List.mem_of_getElem? hi
set_option maxRecDepth 100000 in
theorem lwr_33 : ∀ w ∈ wsL_law_r33, w ∈ lw_tbl := by
  intro w hw
  have e : wsL_law_r33 = ([605, 606, 607, 1025, 1026, 1027, 1028, 1029, 1031, 46, 1032, 608, 609, 610, 611, 1033, 1034, 1035, 1036, 612, 613, 614, 615, 616] : List Nat).filterMap (fun i => lw_tbl[i]?) := by decide +kernel
  rw [e] at hw
  obtain ⟨i, -, hi⟩ := List.mem_filterMap.mp hw
  exact List.mem_of_getElem? hi
set_option maxRecDepth 100000 in
theorem lwr_34 : ∀ w ∈ wsL_law_r34, w ∈ lw_tbl := by
  intro w hw
  have e : wsL_law_r34 = ([617, 619, 15, 620, 197, 621, 622, 623, 1037, 1038, 1039, 1040, 1041, 1042, 1044, 47, 1045, 716, 624, 625, 626, 627, 628, 629] : List Nat).filterMap (fun i => lw_tbl[i]?) := by decide +kernel
  rw [e] at hw
  obtain ⟨i, -, hi⟩ := List.mem_filterMap.mp hw
  exact List.mem_of_getElem? hi
set_option maxRecDepth 100000 in
theorem lwr_35 : ∀ w ∈ wsL_law_r35, w ∈ lw_tbl := by
  intro w hw
  have e : wsL_law_r35 = ([630, 631, 632, 633, 1046, 1047, 1048, 1049, 1050, 1052, 48, 1053, 1054, 1056, 49, 1057, 634, 635, 636, 637, 1058, 1059, 1060, 1061] : List Nat).filterMap (fun i => lw_tbl[i]?) := by decide +kernel
  rw [e] at hw
  obtain ⟨i, -, hi⟩ := List.mem_filterMap.mp hw
  exact List.mem_of_getElem? hi
set_option maxRecDepth 100000 in
theorem lwr_36 : ∀ w ∈ wsL_law_r36, w ∈ lw_tbl := by
  intro w hw
  have e : wsL_law_r36 = ([638, 639, 640, 641, 642, 1062, 1063, 1064, 1065, 1066, 643, 644, 645, 646, 647, 648, 649, 651, 16, 652, 1067, 1068, 1069, 1070] : List Nat).filterMap (fun i => lw_tbl[i]?) := by decide +kernel
  rw [e] at hw
  obtain ⟨i, -, hi⟩ := List.mem_filterMap.mp hw
  exact List.mem_of_getElem? hi
set_option maxRecDepth 100000 in
theorem lwr_37 : ∀ w ∈ wsL_law_r37, w ∈ lw_tbl := by
  intro w hw
  have e : wsL_law_r37 = ([1071, 1072, 1073, 1074, 1075, 1076, 1077, 1078, 653, 654, 655, 656, 1079, 1080, 1081, 1082, 657, 658, 659, 660, 1083, 1084, 1085, 1086] : List Nat).filterMap (fun i => lw_tbl[i]?) := by decide +kernel
  rw [e] at hw
  obtain ⟨i, -, hi⟩ := List.mem_filterMap.mp hw
  exact List.mem_of_getElem? hi
set_option maxRecDepth 100000 in
theorem lwr_38 : ∀ w ∈ wsL_law_r38, w ∈ lw_tbl := by
  intro w hw
  have e : wsL_law_r38 = ([661, 662, 663, 664, 1087, 1088, 1089, 1090, 665, 666, 667, 668, 669, 670, 671, 672, 673, 674, 675, 676, 678, 17, 679, 1091] : List Nat).filterMap (fun i => lw_tbl[i]?) := by decide +kernel
  rw [e] at hw
  obtain ⟨i, -, hi⟩ := List.mem_filterMap.mp hw
  exact List.mem_of_getElem? hi
set_option maxRecDepth 100000 in
theorem lwr_39 : ∀ w ∈ wsL_law_r39, w ∈ lw_tbl := by
  intro w hw
  have e : wsL_law_r39 = ([1092, 1093, 1094, 680, 681, 682, 683, 1095, 1096, 1097, 1098, 684, 685, 686, 687, 1099, 1100, 1101, 1102, 688, 689, 690, 691, 692] : List Nat).filterMap (fun i => lw_tbl[i]?) := by decide +kernel
  rw [e] at hw
  obtain ⟨i, -, hi⟩ := List.mem_filterMap.mp hw
  exact List.mem_of_getElem? hi
set_option maxRecDepth 100000 in
theorem lwr_40 : ∀ w ∈ wsL_law_r40, w ∈ lw_tbl := by
  intro w hw
  have e : wsL_law_r40 = ([693, 694, 695, 696, 697, 1103, 1104, 1105, 1106, 1107, 1108, 1109] : List Nat).filterMap (fun i => lw_tbl[i]?) := by decide +kernel
  rw [e] at hw
  obtain ⟨i, -, hi⟩ := List.mem_filterMap.mp hw
  exact List.mem_of_getElem? hi
set_option maxRecDepth 100000 in
theorem lwx_wsX40 : ∀ w ∈ wsX40, w ∈ lw_tbl := by decide +kernel
set_option maxRecDepth 100000 in
theorem lwx_wsX50 : ∀ w ∈ wsX50, w ∈ lw_tbl := by decide +kernel
set_option maxRecDepth 100000 in
theorem lwx_wsX10 : ∀ w ∈ wsX10, w ∈ lw_tbl := by decide +kernel
set_option maxRecDepth 100000 in
theorem lwx_wsX20 : ∀ w ∈ wsX20, w ∈ lw_tbl := by decide +kernel
set_option maxRecDepth 100000 in
theorem lwx_wsX30 : ∀ w ∈ wsX30, w ∈ lw_tbl := by decide +kernel
set_option maxRecDepth 100000 in
theorem lwx_wsX00 : ∀ w ∈ wsX00, w ∈ lw_tbl := by decide +kernel
theorem lwr_all : ∀ w ∈ (wsL_law_r1 ++ (wsL_law_r2 ++ (wsL_law_r3 ++ (wsL_law_r4 ++ (wsL_law_r5 ++ (wsL_law_r6 ++ (wsL_law_r7 ++ (wsL_law_r8 ++ (wsL_law_r9 ++ (wsL_law_r10 ++ (wsL_law_r11 ++ (wsL_law_r12 ++ (wsL_law_r13 ++ (wsL_law_r14 ++ (wsL_law_r15 ++ (wsL_law_r16 ++ (wsL_law_r17 ++ (wsL_law_r18 ++ (wsL_law_r19 ++ (wsL_law_r20 ++ (wsL_law_r21 ++ (wsL_law_r22 ++ (wsL_law_r23 ++ (wsL_law_r24 ++ (wsL_law_r25 ++ (wsL_law_r26 ++ (wsL_law_r27 ++ (wsL_law_r28 ++ (wsL_law_r29 ++ (wsL_law_r30 ++ (wsL_law_r31 ++ (wsL_law_r32 ++ (wsL_law_r33 ++ (wsL_law_r34 ++ (wsL_law_r35 ++ (wsL_law_r36 ++ (wsL_law_r37 ++ (wsL_law_r38 ++ (wsL_law_r39 ++ (wsL_law_r40)))))))))))))))))))))))))))))))))))))))), w ∈ lw_tbl := fun w h => (List.mem_append.mp h).elim (lwr_1 w) ((fun w h => (List.mem_append.mp h).elim (lwr_2 w) ((fun w h => (List.mem_append.mp h).elim (lwr_3 w) ((fun w h => (List.mem_append.mp h).elim (lwr_4 w) ((fun w h => (List.mem_append.mp h).elim (lwr_5 w) ((fun w h => (List.mem_append.mp h).elim (lwr_6 w) ((fun w h => (List.mem_append.mp h).elim (lwr_7 w) ((fun w h => (List.mem_append.mp h).elim (lwr_8 w) ((fun w h => (List.mem_append.mp h).elim (lwr_9 w) ((fun w h => (List.mem_append.mp h).elim (lwr_10 w) ((fun w h => (List.mem_append.mp h).elim (lwr_11 w) ((fun w h => (List.mem_append.mp h).elim (lwr_12 w) ((fun w h => (List.mem_append.mp h).elim (lwr_13 w) ((fun w h => (List.mem_append.mp h).elim (lwr_14 w) ((fun w h => (List.mem_append.mp h).elim (lwr_15 w) ((fun w h => (List.mem_append.mp h).elim (lwr_16 w) ((fun w h => (List.mem_append.mp h).elim (lwr_17 w) ((fun w h => (List.mem_append.mp h).elim (lwr_18 w) ((fun w h => (List.mem_append.mp h).elim (lwr_19 w) ((fun w h => (List.mem_append.mp h).elim (lwr_20 w) ((fun w h => (List.mem_append.mp h).elim (lwr_21 w) ((fun w h => (List.mem_append.mp h).elim (lwr_22 w) ((fun w h => (List.mem_append.mp h).elim (lwr_23 w) ((fun w h => (List.mem_append.mp h).elim (lwr_24 w) ((fun w h => (List.mem_append.mp h).elim (lwr_25 w) ((fun w h => (List.mem_append.mp h).elim (lwr_26 w) ((fun w h => (List.mem_append.mp h).elim (lwr_27 w) ((fun w h => (List.mem_append.mp h).elim (lwr_28 w) ((fun w h => (List.mem_append.mp h).elim (lwr_29 w) ((fun w h => (List.mem_append.mp h).elim (lwr_30 w) ((fun w h => (List.mem_append.mp h).elim (lwr_31 w) ((fun w h => (List.mem_append.mp h).elim (lwr_32 w) ((fun w h => (List.mem_append.mp h).elim (lwr_33 w) ((fun w h => (List.mem_append.mp h).elim (lwr_34 w) ((fun w h => (List.mem_append.mp h).elim (lwr_35 w) ((fun w h => (List.mem_append.mp h).elim (lwr_36 w) ((fun w h => (List.mem_append.mp h).elim (lwr_37 w) ((fun w h => (List.mem_append.mp h).elim (lwr_38 w) ((fun w h => (List.mem_append.mp h).elim (lwr_39 w) ((lwr_40) w)) w)) w)) w)) w)) w)) w)) w)) w)) w)) w)) w)) w)) w)) w)) w)) w)) w)) w)) w)) w)) w)) w)) w)) w)) w)) w)) w)) w)) w)) w)) w)) w)) w)) w)) w)) w)) w)) w)
theorem wsL_law_in : ∀ w ∈ wsL_law, w ∈ lw_tbl := (fun w h => (List.mem_append.mp h).elim ((fun w h => (List.mem_append.mp h).elim ((fun w h => (List.mem_append.mp h).elim ((fun w h => (List.mem_append.mp h).elim ((fun w h => (List.mem_append.mp h).elim ((fun w h => (List.mem_append.mp h).elim ((fun w h => (List.mem_append.mp h).elim (lwr_all w) (lwx_wsX40 w)) w) (lwx_wsX50 w)) w) (lwx_wsX10 w)) w) (lwx_wsX20 w)) w) (lwx_wsX30 w)) w) (lwx_wsX00 w)) w) (fun h => absurd h List.not_mem_nil))
