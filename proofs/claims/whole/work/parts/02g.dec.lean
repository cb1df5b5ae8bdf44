theorem dX4_count_89 : decode cX4_count 89 = .ok (.getfield 21, 3) := by decide +kernel
theorem dX4_count_92 : decode cX4_count 92 = .ok (.getfield 151, 3) := by decide +kernel
theorem dX4_count_95 : decode cX4_count 95 = .ok (.ireturn, 1) := by decide +kernel
theorem dX4_count_96 : decode cX4_count 96 = .ok (.aload_n 0, 1) := by decide +kernel
theorem dX4_count_97 : decode cX4_count 97 = .ok (.getfield 21, 3) := by decide +kernel
theorem dX4_count_100 : decode cX4_count 100 = .ok (.getfield 171, 3) := by decide +kernel
theorem dX4_count_103 : decode cX4_count 103 = .ok (.sipush 10000, 3) := by decide +kernel
theorem dX4_count_106 : decode cX4_count 106 = .ok (.iadd, 1) := by decide +kernel
theorem dX4_count_107 : decode cX4_count 107 = .ok (.ireturn, 1) := by decide +kernel
theorem dX4_count_108 : decode cX4_count 108 = .ok (.aload_n 0, 1) := by decide +kernel
theorem dX4_count_109 : decode cX4_count 109 = .ok (.getfield 21, 3) := by decide +kernel
theorem dX4_count_112 : decode cX4_count 112 = .ok (.invokevirtual 275, 3) := by decide +kernel
theorem dX4_count_115 : decode cX4_count 115 = .ok (.ireturn, 1) := by decide +kernel
theorem dX4_count_116 : decode cX4_count 116 = .ok (.aload_n 0, 1) := by decide +kernel
theorem dX4_count_117 : decode cX4_count 117 = .ok (.getfield 11, 3) := by decide +kernel
theorem dX4_count_120 : decode cX4_count 120 = .ok (.invokestatic 278, 3) := by decide +kernel
theorem dX4_count_123 : decode cX4_count 123 = .ok (.ireturn, 1) := by decide +kernel
theorem dX4_count_124 : decode cX4_count 124 = .ok (.aload_n 0, 1) := by decide +kernel
theorem dX4_count_125 : decode cX4_count 125 = .ok (.getfield 15, 3) := by decide +kernel
theorem dX4_count_128 : decode cX4_count 128 = .ok (.invokestatic 278, 3) := by decide +kernel
theorem dX4_count_131 : decode cX4_count 131 = .ok (.ireturn, 1) := by decide +kernel
theorem dX4_count_132 : decode cX4_count 132 = .ok (.aload_n 0, 1) := by decide +kernel
theorem dX4_count_133 : decode cX4_count 133 = .ok (.invokevirtual 282, 3) := by decide +kernel
theorem dX4_count_136 : decode cX4_count 136 = .ok (.ireturn, 1) := by decide +kernel
theorem dX4_count_137 : decode cX4_count 137 = .ok (.iconst (-1), 1) := by decide +kernel
theorem dX4_count_138 : decode cX4_count 138 = .ok (.ireturn, 1) := by decide +kernel
theorem dX4_finding_0 : decode cX4_finding 0 = .ok (.aload_n 0, 1) := by decide +kernel
theorem dX4_finding_1 : decode cX4_finding 1 = .ok (.getfield 285, 3) := by decide +kernel
theorem dX4_finding_4 : decode cX4_finding 4 = .ok (.ireturn, 1) := by decide +kernel
set_option maxRecDepth 20000 in
theorem ggX4_findings_X4_outside : GoodIn wsX4_findings wsX4_outside := goodIn_r _ [5] (by decide +kernel) (by decide +kernel)
set_option maxRecDepth 20000 in
theorem gX4_findings_X4_outside : GoodIn wsX4_findings (va_wsS RX4 120 yX4_outside wsX4_outside) := goodIn_app (goodIn_of _ (by decide +kernel)) ggX4_findings_X4_outside
theorem dX4_findings_0 : decode cX4_findings 0 = .ok (.iload_n 1, 1) := by decide +kernel
theorem dX4_findings_1 : decode cX4_findings 1 = .ok (.iconst 1, 1) := by decide +kernel
theorem dX4_findings_2 : decode cX4_findings 2 = .ok (.iconst 5, 1) := by decide +kernel
theorem dX4_findings_3 : decode cX4_findings 3 = .ok (.invokestatic 120, 3) := by decide +kernel
theorem dX4_findings_6 : decode cX4_findings 6 = .ok (.ifCond .eq 5, 3) := by decide +kernel
theorem dX4_findings_9 : decode cX4_findings 9 = .ok (.iconst (-1), 1) := by decide +kernel
theorem dX4_findings_10 : decode cX4_findings 10 = .ok (.ireturn, 1) := by decide +kernel
theorem dX4_findings_11 : decode cX4_findings 11 = .ok (.aload_n 0, 1) := by decide +kernel
theorem dX4_findings_12 : decode cX4_findings 12 = .ok (.getfield 36, 3) := by decide +kernel
theorem dX4_findings_15 : decode cX4_findings 15 = .ok (.iload_n 1, 1) := by decide +kernel
theorem dX4_findings_16 : decode cX4_findings 16 = .ok (.iaload, 1) := by decide +kernel
theorem dX4_findings_17 : decode cX4_findings 17 = .ok (.ireturn, 1) := by decide +kernel
set_option maxRecDepth 20000 in
theorem ggX4_digest_X4_count : GoodIn wsX4_digest wsX4_count := goodIn_r _ [16, 3, 6, 4, 17, 18, 9, 19, 10, 11, 20, 21, 22, 23, 24, 25, 26, 27, 28, 29, 30, 31, 32, 33, 34, 15, 35, 36, 37, 38, 39, 40, 41, 42, 43, 44, 45, 8, 46, 47, 48, 49, 63, 64, 65, 66, 67, 68, 69, 70, 71, 72, 73, 74, 75, 76, 77, 78, 79, 80, 81, 82, 83, 84, 85, 86, 87, 88, 89, 90] (by decide +kernel) (by decide +kernel)
set_option maxRecDepth 20000 in
theorem gX4_digest_X4_count : GoodIn wsX4_digest (wsV RX4 292 RX4 yX4_count wsX4_count) := goodIn_app (goodIn_of _ (by decide +kernel)) ggX4_digest_X4_count
set_option maxRecDepth 20000 in
theorem ggX4_digest_X0_tell : GoodIn wsX4_digest wsX0_tell := goodIn_r _ [53, 32, 54, 55, 56, 57, 84, 85, 86, 87, 88] (by decide +kernel) (by decide +kernel)
set_option maxRecDepth 20000 in
theorem gX4_digest_X0_tell : GoodIn wsX4_digest (wsV RX4 115 RX0 yX0_tell wsX0_tell) := goodIn_app (goodIn_of _ (by decide +kernel)) ggX4_digest_X0_tell
set_option maxRecDepth 20000 in
theorem ggX4_digest_X1_isMissing : GoodIn wsX4_digest wsX1_isMissing := goodIn_r _ [49, 25, 73, 74, 75, 76, 77, 78, 79, 80, 81, 82, 83] (by decide +kernel) (by decide +kernel)
set_option maxRecDepth 20000 in
theorem gX4_digest_X1_isMissing : GoodIn wsX4_digest (wsV RX4 157 RX1 yX1_isMissing wsX1_isMissing) := goodIn_app (goodIn_of _ (by decide +kernel)) ggX4_digest_X1_isMissing
set_option maxRecDepth 20000 in
theorem ggX4_digest_X4_digestRows : GoodIn wsX4_digest wsX4_digestRows := goodIn_r _ [60, 2, 61, 62, 89, 90] (by decide +kernel) (by decide +kernel)
set_option maxRecDepth 20000 in
theorem gX4_digest_X4_digestRows : GoodIn wsX4_digest (va_wsS RX4 295 yX4_digestRows wsX4_digestRows) := goodIn_app (goodIn_of _ (by decide +kernel)) ggX4_digest_X4_digestRows
theorem dX4_digest_0 : decode cX4_digest 0 = .ok (.ldc2_w 288, 3) := by decide +kernel
theorem dX4_digest_3 : decode cX4_digest 3 = .ok (.lstore_n 1, 1) := by decide +kernel
theorem dX4_digest_4 : decode cX4_digest 4 = .ok (.iconst 0, 1) := by decide +kernel
theorem dX4_digest_5 : decode cX4_digest 5 = .ok (.istore_n 3, 1) := by decide +kernel
theorem dX4_digest_6 : decode cX4_digest 6 = .ok (.iload_n 3, 1) := by decide +kernel
theorem dX4_digest_7 : decode cX4_digest 7 = .ok (.bipush 9, 2) := by decide +kernel
theorem dX4_digest_9 : decode cX4_digest 9 = .ok (.if_icmp .gt 22, 3) := by decide +kernel
theorem dX4_digest_12 : decode cX4_digest 12 = .ok (.ldc2_w 290, 3) := by decide +kernel
theorem dX4_digest_15 : decode cX4_digest 15 = .ok (.lload_n 1, 1) := by decide +kernel
theorem dX4_digest_16 : decode cX4_digest 16 = .ok (.lmul, 1) := by decide +kernel
theorem dX4_digest_17 : decode cX4_digest 17 = .ok (.aload_n 0, 1) := by decide +kernel
theorem dX4_digest_18 : decode cX4_digest 18 = .ok (.iload_n 3, 1) := by decide +kernel
theorem dX4_digest_19 : decode cX4_digest 19 = .ok (.invokevirtual 292, 3) := by decide +kernel
theorem dX4_digest_22 : decode cX4_digest 22 = .ok (.i2l, 1) := by decide +kernel
theorem dX4_digest_23 : decode cX4_digest 23 = .ok (.ladd, 1) := by decide +kernel
theorem dX4_digest_24 : decode cX4_digest 24 = .ok (.lstore_n 1, 1) := by decide +kernel
theorem dX4_digest_25 : decode cX4_digest 25 = .ok (.iinc 3 1, 3) := by decide +kernel
theorem dX4_digest_28 : decode cX4_digest 28 = .ok (.goto (-22), 3) := by decide +kernel
theorem dX4_digest_31 : decode cX4_digest 31 = .ok (.iconst 0, 1) := by decide +kernel
theorem dX4_digest_32 : decode cX4_digest 32 = .ok (.istore_n 3, 1) := by decide +kernel
theorem dX4_digest_33 : decode cX4_digest 33 = .ok (.iload_n 3, 1) := by decide +kernel
theorem dX4_digest_34 : decode cX4_digest 34 = .ok (.aload_n 0, 1) := by decide +kernel
theorem dX4_digest_35 : decode cX4_digest 35 = .ok (.getfield 21, 3) := by decide +kernel
theorem dX4_digest_38 : decode cX4_digest 38 = .ok (.getfield 145, 3) := by decide +kernel
theorem dX4_digest_41 : decode cX4_digest 41 = .ok (.if_icmp .ge 26, 3) := by decide +kernel
theorem dX4_digest_44 : decode cX4_digest 44 = .ok (.ldc2_w 290, 3) := by decide +kernel
theorem dX4_digest_47 : decode cX4_digest 47 = .ok (.lload_n 1, 1) := by decide +kernel
theorem dX4_digest_48 : decode cX4_digest 48 = .ok (.lmul, 1) := by decide +kernel
theorem dX4_digest_49 : decode cX4_digest 49 = .ok (.aload_n 0, 1) := by decide +kernel
theorem dX4_digest_50 : decode cX4_digest 50 = .ok (.getfield 21, 3) := by decide +kernel
theorem dX4_digest_53 : decode cX4_digest 53 = .ok (.getfield 154, 3) := by decide +kernel
theorem dX4_digest_56 : decode cX4_digest 56 = .ok (.iload_n 3, 1) := by decide +kernel
theorem dX4_digest_57 : decode cX4_digest 57 = .ok (.iaload, 1) := by decide +kernel
theorem dX4_digest_58 : decode cX4_digest 58 = .ok (.i2l, 1) := by decide +kernel
theorem dX4_digest_59 : decode cX4_digest 59 = .ok (.ladd, 1) := by decide +kernel
theorem dX4_digest_60 : decode cX4_digest 60 = .ok (.lstore_n 1, 1) := by decide +kernel
theorem dX4_digest_61 : decode cX4_digest 61 = .ok (.iinc 3 1, 3) := by decide +kernel
theorem dX4_digest_64 : decode cX4_digest 64 = .ok (.goto (-31), 3) := by decide +kernel
theorem dX4_digest_67 : decode cX4_digest 67 = .ok (.iconst 0, 1) := by decide +kernel
theorem dX4_digest_68 : decode cX4_digest 68 = .ok (.istore_n 3, 1) := by decide +kernel
theorem dX4_digest_69 : decode cX4_digest 69 = .ok (.iload_n 3, 1) := by decide +kernel
theorem dX4_digest_70 : decode cX4_digest 70 = .ok (.aload_n 0, 1) := by decide +kernel
theorem dX4_digest_71 : decode cX4_digest 71 = .ok (.getfield 21, 3) := by decide +kernel
theorem dX4_digest_74 : decode cX4_digest 74 = .ok (.getfield 108, 3) := by decide +kernel
theorem dX4_digest_77 : decode cX4_digest 77 = .ok (.if_icmp .ge 46, 3) := by decide +kernel
theorem dX4_digest_80 : decode cX4_digest 80 = .ok (.iconst 0, 1) := by decide +kernel
theorem dX4_digest_81 : decode cX4_digest 81 = .ok (.istore 4, 2) := by decide +kernel
theorem dX4_digest_83 : decode cX4_digest 83 = .ok (.iload 4, 2) := by decide +kernel
theorem dX4_digest_85 : decode cX4_digest 85 = .ok (.iconst 4, 1) := by decide +kernel
theorem dX4_digest_86 : decode cX4_digest 86 = .ok (.if_icmp .gt 31, 3) := by decide +kernel
theorem dX4_digest_89 : decode cX4_digest 89 = .ok (.ldc2_w 290, 3) := by decide +kernel
theorem dX4_digest_92 : decode cX4_digest 92 = .ok (.lload_n 1, 1) := by decide +kernel
theorem dX4_digest_93 : decode cX4_digest 93 = .ok (.lmul, 1) := by decide +kernel
theorem dX4_digest_94 : decode cX4_digest 94 = .ok (.aload_n 0, 1) := by decide +kernel
theorem dX4_digest_95 : decode cX4_digest 95 = .ok (.getfield 21, 3) := by decide +kernel
theorem dX4_digest_98 : decode cX4_digest 98 = .ok (.getfield 111, 3) := by decide +kernel
theorem dX4_digest_101 : decode cX4_digest 101 = .ok (.iload_n 3, 1) := by decide +kernel
theorem dX4_digest_102 : decode cX4_digest 102 = .ok (.aaload, 1) := by decide +kernel
theorem dX4_digest_103 : decode cX4_digest 103 = .ok (.iload 4, 2) := by decide +kernel
theorem dX4_digest_105 : decode cX4_digest 105 = .ok (.invokevirtual 115, 3) := by decide +kernel
theorem dX4_digest_108 : decode cX4_digest 108 = .ok (.i2l, 1) := by decide +kernel
theorem dX4_digest_109 : decode cX4_digest 109 = .ok (.ladd, 1) := by decide +kernel
theorem dX4_digest_110 : decode cX4_digest 110 = .ok (.lstore_n 1, 1) := by decide +kernel
theorem dX4_digest_111 : decode cX4_digest 111 = .ok (.iinc 4 1, 3) := by decide +kernel
theorem dX4_digest_114 : decode cX4_digest 114 = .ok (.goto (-31), 3) := by decide +kernel
theorem dX4_digest_117 : decode cX4_digest 117 = .ok (.iinc 3 1, 3) := by decide +kernel
theorem dX4_digest_120 : decode cX4_digest 120 = .ok (.goto (-51), 3) := by decide +kernel
theorem dX4_digest_123 : decode cX4_digest 123 = .ok (.iconst 0, 1) := by decide +kernel
theorem dX4_digest_124 : decode cX4_digest 124 = .ok (.istore_n 3, 1) := by decide +kernel
theorem dX4_digest_125 : decode cX4_digest 125 = .ok (.iload_n 3, 1) := by decide +kernel
theorem dX4_digest_126 : decode cX4_digest 126 = .ok (.iconst 3, 1) := by decide +kernel
theorem dX4_digest_127 : decode cX4_digest 127 = .ok (.if_icmp .ge 42, 3) := by decide +kernel
theorem dX4_digest_130 : decode cX4_digest 130 = .ok (.ldc2_w 290, 3) := by decide +kernel
theorem dX4_digest_133 : decode cX4_digest 133 = .ok (.lload_n 1, 1) := by decide +kernel
theorem dX4_digest_134 : decode cX4_digest 134 = .ok (.lmul, 1) := by decide +kernel
theorem dX4_digest_135 : decode cX4_digest 135 = .ok (.aload_n 0, 1) := by decide +kernel
theorem dX4_digest_136 : decode cX4_digest 136 = .ok (.getfield 25, 3) := by decide +kernel
theorem dX4_digest_139 : decode cX4_digest 139 = .ok (.iload_n 3, 1) := by decide +kernel
theorem dX4_digest_140 : decode cX4_digest 140 = .ok (.aaload, 1) := by decide +kernel
theorem dX4_digest_141 : decode cX4_digest 141 = .ok (.invokevirtual 157, 3) := by decide +kernel
theorem dX4_digest_144 : decode cX4_digest 144 = .ok (.ifCond .eq 7, 3) := by decide +kernel
theorem dX4_digest_147 : decode cX4_digest 147 = .ok (.iconst (-1), 1) := by decide +kernel
theorem dX4_digest_148 : decode cX4_digest 148 = .ok (.goto 12, 3) := by decide +kernel
theorem dX4_digest_151 : decode cX4_digest 151 = .ok (.aload_n 0, 1) := by decide +kernel
theorem dX4_digest_152 : decode cX4_digest 152 = .ok (.getfield 25, 3) := by decide +kernel
theorem dX4_digest_155 : decode cX4_digest 155 = .ok (.iload_n 3, 1) := by decide +kernel
theorem dX4_digest_156 : decode cX4_digest 156 = .ok (.aaload, 1) := by decide +kernel
theorem dX4_digest_157 : decode cX4_digest 157 = .ok (.getfield 151, 3) := by decide +kernel
theorem dX4_digest_160 : decode cX4_digest 160 = .ok (.i2l, 1) := by decide +kernel
theorem dX4_digest_161 : decode cX4_digest 161 = .ok (.ladd, 1) := by decide +kernel
theorem dX4_digest_162 : decode cX4_digest 162 = .ok (.lstore_n 1, 1) := by decide +kernel
theorem dX4_digest_163 : decode cX4_digest 163 = .ok (.iinc 3 1, 3) := by decide +kernel
theorem dX4_digest_166 : decode cX4_digest 166 = .ok (.goto (-41), 3) := by decide +kernel
theorem dX4_digest_169 : decode cX4_digest 169 = .ok (.lload_n 1, 1) := by decide +kernel
theorem dX4_digest_170 : decode cX4_digest 170 = .ok (.aload_n 0, 1) := by decide +kernel
theorem dX4_digest_171 : decode cX4_digest 171 = .ok (.getfield 11, 3) := by decide +kernel
theorem dX4_digest_174 : decode cX4_digest 174 = .ok (.invokestatic 295, 3) := by decide +kernel
theorem dX4_digest_177 : decode cX4_digest 177 = .ok (.aload_n 0, 1) := by decide +kernel
theorem dX4_digest_178 : decode cX4_digest 178 = .ok (.getfield 15, 3) := by decide +kernel
theorem dX4_digest_181 : decode cX4_digest 181 = .ok (.invokestatic 295, 3) := by decide +kernel
theorem dX4_digest_184 : decode cX4_digest 184 = .ok (.lreturn, 1) := by decide +kernel
theorem dX4_outside_0 : decode cX4_outside 0 = .ok (.iload_n 0, 1) := by decide +kernel
theorem dX4_outside_1 : decode cX4_outside 1 = .ok (.iload_n 1, 1) := by decide +kernel
theorem dX4_outside_2 : decode cX4_outside 2 = .ok (.if_icmp .lt 8, 3) := by decide +kernel
theorem dX4_outside_5 : decode cX4_outside 5 = .ok (.iload_n 0, 1) := by decide +kernel
theorem dX4_outside_6 : decode cX4_outside 6 = .ok (.iload_n 2, 1) := by decide +kernel
theorem dX4_outside_7 : decode cX4_outside 7 = .ok (.if_icmp .le 7, 3) := by decide +kernel
theorem dX4_outside_10 : decode cX4_outside 10 = .ok (.iconst 1, 1) := by decide +kernel
theorem dX4_outside_11 : decode cX4_outside 11 = .ok (.goto 4, 3) := by decide +kernel
theorem dX4_outside_14 : decode cX4_outside 14 = .ok (.iconst 0, 1) := by decide +kernel
theorem dX4_outside_15 : decode cX4_outside 15 = .ok (.ireturn, 1) := by decide +kernel
theorem dX4_isNone_0 : decode cX4_isNone 0 = .ok (.iload_n 0, 1) := by decide +kernel
theorem dX4_isNone_1 : decode cX4_isNone 1 = .ok (.ifCond .lt 8, 3) := by decide +kernel
theorem dX4_isNone_4 : decode cX4_isNone 4 = .ok (.iload_n 0, 1) := by decide +kernel
theorem dX4_isNone_5 : decode cX4_isNone 5 = .ok (.iload_n 1, 1) := by decide +kernel
theorem dX4_isNone_6 : decode cX4_isNone 6 = .ok (.if_icmp .lt 7, 3) := by decide +kernel
theorem dX4_isNone_9 : decode cX4_isNone 9 = .ok (.iconst 1, 1) := by decide +kernel
theorem dX4_isNone_10 : decode cX4_isNone 10 = .ok (.goto 4, 3) := by decide +kernel
theorem dX4_isNone_13 : decode cX4_isNone 13 = .ok (.iconst 0, 1) := by decide +kernel
theorem dX4_isNone_14 : decode cX4_isNone 14 = .ok (.ireturn, 1) := by decide +kernel
set_option maxRecDepth 20000 in
theorem ggX4_isNoFarm_X4_outside : GoodIn wsX4_isNoFarm wsX4_outside := goodIn_r _ [4] (by decide +kernel) (by decide +kernel)
set_option maxRecDepth 20000 in
theorem gX4_isNoFarm_X4_outside : GoodIn wsX4_isNoFarm (va_wsS RX4 120 yX4_outside wsX4_outside) := goodIn_app (goodIn_of _ (by decide +kernel)) ggX4_isNoFarm_X4_outside
theorem dX4_isNoFarm_0 : decode cX4_isNoFarm 0 = .ok (.iload_n 0, 1) := by decide +kernel
theorem dX4_isNoFarm_1 : decode cX4_isNoFarm 1 = .ok (.iconst 0, 1) := by decide +kernel
theorem dX4_isNoFarm_2 : decode cX4_isNoFarm 2 = .ok (.iconst 1, 1) := by decide +kernel
theorem dX4_isNoFarm_3 : decode cX4_isNoFarm 3 = .ok (.invokestatic 120, 3) := by decide +kernel
theorem dX4_isNoFarm_6 : decode cX4_isNoFarm 6 = .ok (.ireturn, 1) := by decide +kernel
set_option maxRecDepth 20000 in
theorem ggX4_isNoDay_X4_outside : GoodIn wsX4_isNoDay wsX4_outside := goodIn_r _ [4] (by decide +kernel) (by decide +kernel)
set_option maxRecDepth 20000 in
theorem gX4_isNoDay_X4_outside : GoodIn wsX4_isNoDay (va_wsS RX4 120 yX4_outside wsX4_outside) := goodIn_app (goodIn_of _ (by decide +kernel)) ggX4_isNoDay_X4_outside
theorem dX4_isNoDay_0 : decode cX4_isNoDay 0 = .ok (.iload_n 0, 1) := by decide +kernel
theorem dX4_isNoDay_1 : decode cX4_isNoDay 1 = .ok (.iconst 0, 1) := by decide +kernel
theorem dX4_isNoDay_2 : decode cX4_isNoDay 2 = .ok (.sipush 999, 3) := by decide +kernel
theorem dX4_isNoDay_5 : decode cX4_isNoDay 5 = .ok (.invokestatic 120, 3) := by decide +kernel
theorem dX4_isNoDay_8 : decode cX4_isNoDay 8 = .ok (.ireturn, 1) := by decide +kernel
set_option maxRecDepth 20000 in
theorem ggX4_isNoReading_X4_outside : GoodIn wsX4_isNoReading wsX4_outside := goodIn_r _ [4] (by decide +kernel) (by decide +kernel)
set_option maxRecDepth 20000 in
theorem gX4_isNoReading_X4_outside : GoodIn wsX4_isNoReading (va_wsS RX4 120 yX4_outside wsX4_outside) := goodIn_app (goodIn_of _ (by decide +kernel)) ggX4_isNoReading_X4_outside
theorem dX4_isNoReading_0 : decode cX4_isNoReading 0 = .ok (.iload_n 0, 1) := by decide +kernel
theorem dX4_isNoReading_1 : decode cX4_isNoReading 1 = .ok (.iconst 0, 1) := by decide +kernel
theorem dX4_isNoReading_2 : decode cX4_isNoReading 2 = .ok (.iconst 3, 1) := by decide +kernel
theorem dX4_isNoReading_3 : decode cX4_isNoReading 3 = .ok (.invokestatic 120, 3) := by decide +kernel
theorem dX4_isNoReading_6 : decode cX4_isNoReading 6 = .ok (.ireturn, 1) := by decide +kernel
set_option maxRecDepth 20000 in
theorem ggX4_refuse_X4_isNone : GoodIn wsX4_refuse wsX4_isNone := goodIn_r _ [6] (by decide +kernel) (by decide +kernel)
set_option maxRecDepth 20000 in
theorem gX4_refuse_X4_isNone : GoodIn wsX4_refuse (va_wsS RX4 55 yX4_isNone wsX4_isNone) := goodIn_app (goodIn_of _ (by decide +kernel)) ggX4_refuse_X4_isNone
theorem dX4_refuse_0 : decode cX4_refuse 0 = .ok (.iload_n 1, 1) := by decide +kernel
theorem dX4_refuse_1 : decode cX4_refuse 1 = .ok (.aload_n 0, 1) := by decide +kernel
theorem dX4_refuse_2 : decode cX4_refuse 2 = .ok (.getfield 36, 3) := by decide +kernel
theorem dX4_refuse_5 : decode cX4_refuse 5 = .ok (.arraylength, 1) := by decide +kernel
theorem dX4_refuse_6 : decode cX4_refuse 6 = .ok (.invokestatic 55, 3) := by decide +kernel
theorem dX4_refuse_9 : decode cX4_refuse 9 = .ok (.ifCond .ne 18, 3) := by decide +kernel
theorem dX4_refuse_12 : decode cX4_refuse 12 = .ok (.aload_n 0, 1) := by decide +kernel
theorem dX4_refuse_13 : decode cX4_refuse 13 = .ok (.iload_n 1, 1) := by decide +kernel
theorem dX4_refuse_14 : decode cX4_refuse 14 = .ok (.putfield 285, 3) := by decide +kernel
theorem dX4_refuse_17 : decode cX4_refuse 17 = .ok (.aload_n 0, 1) := by decide +kernel
theorem dX4_refuse_18 : decode cX4_refuse 18 = .ok (.getfield 36, 3) := by decide +kernel
theorem dX4_refuse_21 : decode cX4_refuse 21 = .ok (.iload_n 1, 1) := by decide +kernel
theorem dX4_refuse_22 : decode cX4_refuse 22 = .ok (.dup2, 1) := by decide +kernel
theorem dX4_refuse_23 : decode cX4_refuse 23 = .ok (.iaload, 1) := by decide +kernel
theorem dX4_refuse_24 : decode cX4_refuse 24 = .ok (.iconst 1, 1) := by decide +kernel
theorem dX4_refuse_25 : decode cX4_refuse 25 = .ok (.iadd, 1) := by decide +kernel
theorem dX4_refuse_26 : decode cX4_refuse 26 = .ok (.iastore, 1) := by decide +kernel
theorem dX4_refuse_27 : decode cX4_refuse 27 = .ok (.bipush (-3), 2) := by decide +kernel
theorem dX4_refuse_29 : decode cX4_refuse 29 = .ok (.ireturn, 1) := by decide +kernel
set_option maxRecDepth 20000 in
theorem ggX4_makeAnew_X4_isNone : GoodIn wsX4_makeAnew wsX4_isNone := goodIn_r _ [5] (by decide +kernel) (by decide +kernel)
set_option maxRecDepth 20000 in
theorem gX4_makeAnew_X4_isNone : GoodIn wsX4_makeAnew (va_wsS RX4 55 yX4_isNone wsX4_isNone) := goodIn_app (goodIn_of _ (by decide +kernel)) ggX4_makeAnew_X4_isNone
set_option maxRecDepth 20000 in
theorem ggX4_makeAnew_X4_refuse : GoodIn wsX4_makeAnew wsX4_refuse := goodIn_r _ [9, 10, 11, 2, 3, 4, 5, 25, 26, 27, 28, 29, 30, 31, 32, 33, 34] (by decide +kernel) (by decide +kernel)
set_option maxRecDepth 20000 in
theorem gX4_makeAnew_X4_refuse : GoodIn wsX4_makeAnew (wsV RX4 70 RX4 yX4_refuse wsX4_refuse) := goodIn_app (goodIn_of _ (by decide +kernel)) ggX4_makeAnew_X4_refuse
set_option maxRecDepth 20000 in
theorem ggX4_makeAnew_X3_become : GoodIn wsX4_makeAnew wsX3_become := goodIn_r _ [16, 17, 18, 19, 20, 21, 22, 23, 24] (by decide +kernel) (by decide +kernel)
set_option maxRecDepth 20000 in
theorem gX4_makeAnew_X3_become : GoodIn wsX4_makeAnew (wsV RX4 299 RX3 yX3_become wsX3_become) := goodIn_app (goodIn_of _ (by decide +kernel)) ggX4_makeAnew_X3_become
theorem dX4_makeAnew_0 : decode cX4_makeAnew 0 = .ok (.iload_n 2, 1) := by decide +kernel
theorem dX4_makeAnew_1 : decode cX4_makeAnew 1 = .ok (.aload_n 1, 1) := by decide +kernel
theorem dX4_makeAnew_2 : decode cX4_makeAnew 2 = .ok (.arraylength, 1) := by decide +kernel
theorem dX4_makeAnew_3 : decode cX4_makeAnew 3 = .ok (.invokestatic 55, 3) := by decide +kernel
theorem dX4_makeAnew_6 : decode cX4_makeAnew 6 = .ok (.ifCond .ne 14, 3) := by decide +kernel
theorem dX4_makeAnew_9 : decode cX4_makeAnew 9 = .ok (.iload_n 3, 1) := by decide +kernel
theorem dX4_makeAnew_10 : decode cX4_makeAnew 10 = .ok (.aload_n 1, 1) := by decide +kernel
theorem dX4_makeAnew_11 : decode cX4_makeAnew 11 = .ok (.iload_n 2, 1) := by decide +kernel
theorem dX4_makeAnew_12 : decode cX4_makeAnew 12 = .ok (.aaload, 1) := by decide +kernel
theorem dX4_makeAnew_13 : decode cX4_makeAnew 13 = .ok (.getfield 63, 3) := by decide +kernel
theorem dX4_makeAnew_16 : decode cX4_makeAnew 16 = .ok (.arraylength, 1) := by decide +kernel
theorem dX4_makeAnew_17 : decode cX4_makeAnew 17 = .ok (.if_icmp .le 5, 3) := by decide +kernel
theorem dX4_makeAnew_20 : decode cX4_makeAnew 20 = .ok (.iconst (-1), 1) := by decide +kernel
theorem dX4_makeAnew_21 : decode cX4_makeAnew 21 = .ok (.ireturn, 1) := by decide +kernel
theorem dX4_makeAnew_22 : decode cX4_makeAnew 22 = .ok (.iload_n 3, 1) := by decide +kernel
theorem dX4_makeAnew_23 : decode cX4_makeAnew 23 = .ok (.ifCond .ge 9, 3) := by decide +kernel
theorem dX4_makeAnew_26 : decode cX4_makeAnew 26 = .ok (.aload_n 0, 1) := by decide +kernel
theorem dX4_makeAnew_27 : decode cX4_makeAnew 27 = .ok (.iconst 5, 1) := by decide +kernel
theorem dX4_makeAnew_28 : decode cX4_makeAnew 28 = .ok (.invokevirtual 70, 3) := by decide +kernel
theorem dX4_makeAnew_31 : decode cX4_makeAnew 31 = .ok (.ireturn, 1) := by decide +kernel
theorem dX4_makeAnew_32 : decode cX4_makeAnew 32 = .ok (.aload_n 1, 1) := by decide +kernel
theorem dX4_makeAnew_33 : decode cX4_makeAnew 33 = .ok (.iload_n 2, 1) := by decide +kernel
theorem dX4_makeAnew_34 : decode cX4_makeAnew 34 = .ok (.aaload, 1) := by decide +kernel
theorem dX4_makeAnew_35 : decode cX4_makeAnew 35 = .ok (.iload_n 3, 1) := by decide +kernel
theorem dX4_makeAnew_36 : decode cX4_makeAnew 36 = .ok (.iload 4, 2) := by decide +kernel
theorem dX4_makeAnew_38 : decode cX4_makeAnew 38 = .ok (.invokevirtual 299, 3) := by decide +kernel
theorem dX4_makeAnew_41 : decode cX4_makeAnew 41 = .ok (.iload_n 3, 1) := by decide +kernel
theorem dX4_makeAnew_42 : decode cX4_makeAnew 42 = .ok (.ireturn, 1) := by decide +kernel
set_option maxRecDepth 20000 in
theorem ggX4_tellPart_X4_commonDivisor : GoodIn wsX4_tellPart wsX4_commonDivisor := goodIn_r _ [6] (by decide +kernel) (by decide +kernel)
set_option maxRecDepth 20000 in
theorem gX4_tellPart_X4_commonDivisor : GoodIn wsX4_tellPart (va_wsS RX4 301 yX4_commonDivisor wsX4_commonDivisor) := goodIn_app (goodIn_of _ (by decide +kernel)) ggX4_tellPart_X4_commonDivisor
theorem dX4_tellPart_0 : decode cX4_tellPart 0 = .ok (.lload_n 1, 1) := by decide +kernel
theorem dX4_tellPart_1 : decode cX4_tellPart 1 = .ok (.lload_n 3, 1) := by decide +kernel
theorem dX4_tellPart_2 : decode cX4_tellPart 2 = .ok (.invokestatic 301, 3) := by decide +kernel
theorem dX4_tellPart_5 : decode cX4_tellPart 5 = .ok (.lstore 5, 2) := by decide +kernel
theorem dX4_tellPart_7 : decode cX4_tellPart 7 = .ok (.lload 5, 2) := by decide +kernel
theorem dX4_tellPart_9 : decode cX4_tellPart 9 = .ok (.lconst 0, 1) := by decide +kernel
theorem dX4_tellPart_10 : decode cX4_tellPart 10 = .ok (.lcmp, 1) := by decide +kernel
theorem dX4_tellPart_11 : decode cX4_tellPart 11 = .ok (.ifCond .le 19, 3) := by decide +kernel
theorem dX4_tellPart_14 : decode cX4_tellPart 14 = .ok (.aload_n 0, 1) := by decide +kernel
theorem dX4_tellPart_15 : decode cX4_tellPart 15 = .ok (.lload_n 1, 1) := by decide +kernel
theorem dX4_tellPart_16 : decode cX4_tellPart 16 = .ok (.lload 5, 2) := by decide +kernel
theorem dX4_tellPart_18 : decode cX4_tellPart 18 = .ok (.ldiv, 1) := by decide +kernel
theorem dX4_tellPart_19 : decode cX4_tellPart 19 = .ok (.putfield 272, 3) := by decide +kernel
theorem dX4_tellPart_22 : decode cX4_tellPart 22 = .ok (.aload_n 0, 1) := by decide +kernel
theorem dX4_tellPart_23 : decode cX4_tellPart 23 = .ok (.lload_n 3, 1) := by decide +kernel
theorem dX4_tellPart_24 : decode cX4_tellPart 24 = .ok (.lload 5, 2) := by decide +kernel
theorem dX4_tellPart_26 : decode cX4_tellPart 26 = .ok (.ldiv, 1) := by decide +kernel
theorem dX4_tellPart_27 : decode cX4_tellPart 27 = .ok (.putfield 40, 3) := by decide +kernel
theorem dX4_tellPart_30 : decode cX4_tellPart 30 = .ok (.return_, 1) := by decide +kernel
theorem dX4_commonDivisor_0 : decode cX4_commonDivisor 0 = .ok (.lload_n 0, 1) := by decide +kernel
theorem dX4_commonDivisor_1 : decode cX4_commonDivisor 1 = .ok (.lstore 4, 2) := by decide +kernel
theorem dX4_commonDivisor_3 : decode cX4_commonDivisor 3 = .ok (.lload_n 2, 1) := by decide +kernel
theorem dX4_commonDivisor_4 : decode cX4_commonDivisor 4 = .ok (.lstore 6, 2) := by decide +kernel
theorem dX4_commonDivisor_6 : decode cX4_commonDivisor 6 = .ok (.iconst 0, 1) := by decide +kernel
theorem dX4_commonDivisor_7 : decode cX4_commonDivisor 7 = .ok (.istore 8, 2) := by decide +kernel
theorem dX4_commonDivisor_9 : decode cX4_commonDivisor 9 = .ok (.iload 8, 2) := by decide +kernel
theorem dX4_commonDivisor_11 : decode cX4_commonDivisor 11 = .ok (.bipush 100, 2) := by decide +kernel
theorem dX4_commonDivisor_13 : decode cX4_commonDivisor 13 = .ok (.if_icmp .ge 31, 3) := by decide +kernel
theorem dX4_commonDivisor_16 : decode cX4_commonDivisor 16 = .ok (.lload 6, 2) := by decide +kernel
theorem dX4_commonDivisor_18 : decode cX4_commonDivisor 18 = .ok (.lconst 0, 1) := by decide +kernel
theorem dX4_commonDivisor_19 : decode cX4_commonDivisor 19 = .ok (.lcmp, 1) := by decide +kernel
theorem dX4_commonDivisor_20 : decode cX4_commonDivisor 20 = .ok (.ifCond .eq 24, 3) := by decide +kernel
theorem dX4_commonDivisor_23 : decode cX4_commonDivisor 23 = .ok (.lload 4, 2) := by decide +kernel
theorem dX4_commonDivisor_25 : decode cX4_commonDivisor 25 = .ok (.lload 6, 2) := by decide +kernel
theorem dX4_commonDivisor_27 : decode cX4_commonDivisor 27 = .ok (.lrem, 1) := by decide +kernel
theorem dX4_commonDivisor_28 : decode cX4_commonDivisor 28 = .ok (.lstore 9, 2) := by decide +kernel
theorem dX4_commonDivisor_30 : decode cX4_commonDivisor 30 = .ok (.lload 6, 2) := by decide +kernel
theorem dX4_commonDivisor_32 : decode cX4_commonDivisor 32 = .ok (.lstore 4, 2) := by decide +kernel
theorem dX4_commonDivisor_34 : decode cX4_commonDivisor 34 = .ok (.lload 9, 2) := by decide +kernel
theorem dX4_commonDivisor_36 : decode cX4_commonDivisor 36 = .ok (.lstore 6, 2) := by decide +kernel
theorem dX4_commonDivisor_38 : decode cX4_commonDivisor 38 = .ok (.iinc 8 1, 3) := by decide +kernel
theorem dX4_commonDivisor_41 : decode cX4_commonDivisor 41 = .ok (.goto (-32), 3) := by decide +kernel
theorem dX4_commonDivisor_44 : decode cX4_commonDivisor 44 = .ok (.lload 4, 2) := by decide +kernel
theorem dX4_commonDivisor_46 : decode cX4_commonDivisor 46 = .ok (.lreturn, 1) := by decide +kernel
set_option maxRecDepth 20000 in
theorem ggX4_howManyThere_X3_isMissing : GoodIn wsX4_howManyThere wsX3_isMissing := goodIn_r _ [5, 6, 7, 8] (by decide +kernel) (by decide +kernel)
set_option maxRecDepth 20000 in
theorem gX4_howManyThere_X3_isMissing : GoodIn wsX4_howManyThere (wsV RX4 66 RX3 yX3_isMissing wsX3_isMissing) := goodIn_app (goodIn_of _ (by decide +kernel)) ggX4_howManyThere_X3_isMissing
theorem dX4_howManyThere_0 : decode cX4_howManyThere 0 = .ok (.iconst 0, 1) := by decide +kernel
theorem dX4_howManyThere_1 : decode cX4_howManyThere 1 = .ok (.istore_n 1, 1) := by decide +kernel
theorem dX4_howManyThere_2 : decode cX4_howManyThere 2 = .ok (.iconst 0, 1) := by decide +kernel
theorem dX4_howManyThere_3 : decode cX4_howManyThere 3 = .ok (.istore_n 2, 1) := by decide +kernel
theorem dX4_howManyThere_4 : decode cX4_howManyThere 4 = .ok (.iload_n 2, 1) := by decide +kernel
theorem dX4_howManyThere_5 : decode cX4_howManyThere 5 = .ok (.aload_n 0, 1) := by decide +kernel
theorem dX4_howManyThere_6 : decode cX4_howManyThere 6 = .ok (.arraylength, 1) := by decide +kernel
theorem dX4_howManyThere_7 : decode cX4_howManyThere 7 = .ok (.if_icmp .ge 21, 3) := by decide +kernel
theorem dX4_howManyThere_10 : decode cX4_howManyThere 10 = .ok (.aload_n 0, 1) := by decide +kernel
theorem dX4_howManyThere_11 : decode cX4_howManyThere 11 = .ok (.iload_n 2, 1) := by decide +kernel
theorem dX4_howManyThere_12 : decode cX4_howManyThere 12 = .ok (.aaload, 1) := by decide +kernel
theorem dX4_howManyThere_13 : decode cX4_howManyThere 13 = .ok (.invokevirtual 66, 3) := by decide +kernel
theorem dX4_howManyThere_16 : decode cX4_howManyThere 16 = .ok (.ifCond .ne 6, 3) := by decide +kernel
theorem dX4_howManyThere_19 : decode cX4_howManyThere 19 = .ok (.iinc 1 1, 3) := by decide +kernel
theorem dX4_howManyThere_22 : decode cX4_howManyThere 22 = .ok (.iinc 2 1, 3) := by decide +kernel
theorem dX4_howManyThere_25 : decode cX4_howManyThere 25 = .ok (.goto (-21), 3) := by decide +kernel
theorem dX4_howManyThere_28 : decode cX4_howManyThere 28 = .ok (.iload_n 1, 1) := by decide +kernel
theorem dX4_howManyThere_29 : decode cX4_howManyThere 29 = .ok (.ireturn, 1) := by decide +kernel
set_option maxRecDepth 20000 in
theorem ggX4_howManyKept_X1_isMissing : GoodIn wsX4_howManyKept wsX1_isMissing := goodIn_r _ [6, 7, 18, 19, 20, 21, 22, 23, 24, 25, 26, 27, 28] (by decide +kernel) (by decide +kernel)
set_option maxRecDepth 20000 in
theorem gX4_howManyKept_X1_isMissing : GoodIn wsX4_howManyKept (wsV RX4 157 RX1 yX1_isMissing wsX1_isMissing) := goodIn_app (goodIn_of _ (by decide +kernel)) ggX4_howManyKept_X1_isMissing
theorem dX4_howManyKept_0 : decode cX4_howManyKept 0 = .ok (.iconst 0, 1) := by decide +kernel
theorem dX4_howManyKept_1 : decode cX4_howManyKept 1 = .ok (.istore_n 1, 1) := by decide +kernel
theorem dX4_howManyKept_2 : decode cX4_howManyKept 2 = .ok (.iconst 0, 1) := by decide +kernel
theorem dX4_howManyKept_3 : decode cX4_howManyKept 3 = .ok (.istore_n 2, 1) := by decide +kernel
theorem dX4_howManyKept_4 : decode cX4_howManyKept 4 = .ok (.iload_n 2, 1) := by decide +kernel
theorem dX4_howManyKept_5 : decode cX4_howManyKept 5 = .ok (.iconst 3, 1) := by decide +kernel
theorem dX4_howManyKept_6 : decode cX4_howManyKept 6 = .ok (.if_icmp .ge 24, 3) := by decide +kernel
theorem dX4_howManyKept_9 : decode cX4_howManyKept 9 = .ok (.aload_n 0, 1) := by decide +kernel
theorem dX4_howManyKept_10 : decode cX4_howManyKept 10 = .ok (.getfield 25, 3) := by decide +kernel
theorem dX4_howManyKept_13 : decode cX4_howManyKept 13 = .ok (.iload_n 2, 1) := by decide +kernel
theorem dX4_howManyKept_14 : decode cX4_howManyKept 14 = .ok (.aaload, 1) := by decide +kernel
theorem dX4_howManyKept_15 : decode cX4_howManyKept 15 = .ok (.invokevirtual 157, 3) := by decide +kernel
theorem dX4_howManyKept_18 : decode cX4_howManyKept 18 = .ok (.ifCond .ne 6, 3) := by decide +kernel
theorem dX4_howManyKept_21 : decode cX4_howManyKept 21 = .ok (.iinc 1 1, 3) := by decide +kernel
theorem dX4_howManyKept_24 : decode cX4_howManyKept 24 = .ok (.iinc 2 1, 3) := by decide +kernel
theorem dX4_howManyKept_27 : decode cX4_howManyKept 27 = .ok (.goto (-23), 3) := by decide +kernel
theorem dX4_howManyKept_30 : decode cX4_howManyKept 30 = .ok (.iload_n 1, 1) := by decide +kernel
theorem dX4_howManyKept_31 : decode cX4_howManyKept 31 = .ok (.ireturn, 1) := by decide +kernel
theorem dX4_digestRows_0 : decode cX4_digestRows 0 = .ok (.lload_n 0, 1) := by decide +kernel
theorem dX4_digestRows_1 : decode cX4_digestRows 1 = .ok (.lstore_n 3, 1) := by decide +kernel
theorem dX4_digestRows_2 : decode cX4_digestRows 2 = .ok (.iconst 0, 1) := by decide +kernel
theorem dX4_digestRows_3 : decode cX4_digestRows 3 = .ok (.istore 5, 2) := by decide +kernel
theorem dX4_digestRows_5 : decode cX4_digestRows 5 = .ok (.iload 5, 2) := by decide +kernel
theorem dX4_digestRows_7 : decode cX4_digestRows 7 = .ok (.aload_n 2, 1) := by decide +kernel
theorem dX4_digestRows_8 : decode cX4_digestRows 8 = .ok (.arraylength, 1) := by decide +kernel
theorem dX4_digestRows_9 : decode cX4_digestRows 9 = .ok (.if_icmp .ge 63, 3) := by decide +kernel
theorem dX4_digestRows_12 : decode cX4_digestRows 12 = .ok (.ldc2_w 290, 3) := by decide +kernel
theorem dX4_digestRows_15 : decode cX4_digestRows 15 = .ok (.lload_n 3, 1) := by decide +kernel
theorem dX4_digestRows_16 : decode cX4_digestRows 16 = .ok (.lmul, 1) := by decide +kernel
theorem dX4_digestRows_17 : decode cX4_digestRows 17 = .ok (.aload_n 2, 1) := by decide +kernel
theorem dX4_digestRows_18 : decode cX4_digestRows 18 = .ok (.iload 5, 2) := by decide +kernel
theorem dX4_digestRows_20 : decode cX4_digestRows 20 = .ok (.aaload, 1) := by decide +kernel
theorem dX4_digestRows_21 : decode cX4_digestRows 21 = .ok (.getfield 78, 3) := by decide +kernel
theorem dX4_digestRows_24 : decode cX4_digestRows 24 = .ok (.i2l, 1) := by decide +kernel
theorem dX4_digestRows_25 : decode cX4_digestRows 25 = .ok (.ladd, 1) := by decide +kernel
theorem dX4_digestRows_26 : decode cX4_digestRows 26 = .ok (.lstore_n 3, 1) := by decide +kernel
theorem dX4_digestRows_27 : decode cX4_digestRows 27 = .ok (.iconst 0, 1) := by decide +kernel
theorem dX4_digestRows_28 : decode cX4_digestRows 28 = .ok (.istore 6, 2) := by decide +kernel
theorem dX4_digestRows_30 : decode cX4_digestRows 30 = .ok (.iload 6, 2) := by decide +kernel
theorem dX4_digestRows_32 : decode cX4_digestRows 32 = .ok (.aload_n 2, 1) := by decide +kernel
theorem dX4_digestRows_33 : decode cX4_digestRows 33 = .ok (.iload 5, 2) := by decide +kernel
theorem dX4_digestRows_35 : decode cX4_digestRows 35 = .ok (.aaload, 1) := by decide +kernel
theorem dX4_digestRows_36 : decode cX4_digestRows 36 = .ok (.getfield 78, 3) := by decide +kernel
theorem dX4_digestRows_39 : decode cX4_digestRows 39 = .ok (.if_icmp .ge 27, 3) := by decide +kernel
theorem dX4_digestRows_42 : decode cX4_digestRows 42 = .ok (.ldc2_w 290, 3) := by decide +kernel
theorem dX4_digestRows_45 : decode cX4_digestRows 45 = .ok (.lload_n 3, 1) := by decide +kernel
theorem dX4_digestRows_46 : decode cX4_digestRows 46 = .ok (.lmul, 1) := by decide +kernel
theorem dX4_digestRows_47 : decode cX4_digestRows 47 = .ok (.aload_n 2, 1) := by decide +kernel
theorem dX4_digestRows_48 : decode cX4_digestRows 48 = .ok (.iload 5, 2) := by decide +kernel
theorem dX4_digestRows_50 : decode cX4_digestRows 50 = .ok (.aaload, 1) := by decide +kernel
theorem dX4_digestRows_51 : decode cX4_digestRows 51 = .ok (.getfield 63, 3) := by decide +kernel
theorem dX4_digestRows_54 : decode cX4_digestRows 54 = .ok (.iload 6, 2) := by decide +kernel
theorem dX4_digestRows_56 : decode cX4_digestRows 56 = .ok (.iaload, 1) := by decide +kernel
theorem dX4_digestRows_57 : decode cX4_digestRows 57 = .ok (.i2l, 1) := by decide +kernel
theorem dX4_digestRows_58 : decode cX4_digestRows 58 = .ok (.ladd, 1) := by decide +kernel
theorem dX4_digestRows_59 : decode cX4_digestRows 59 = .ok (.lstore_n 3, 1) := by decide +kernel
theorem dX4_digestRows_60 : decode cX4_digestRows 60 = .ok (.iinc 6 1, 3) := by decide +kernel
theorem dX4_digestRows_63 : decode cX4_digestRows 63 = .ok (.goto (-33), 3) := by decide +kernel
theorem dX4_digestRows_66 : decode cX4_digestRows 66 = .ok (.iinc 5 1, 3) := by decide +kernel
theorem dX4_digestRows_69 : decode cX4_digestRows 69 = .ok (.goto (-64), 3) := by decide +kernel
theorem dX4_digestRows_72 : decode cX4_digestRows 72 = .ok (.lload_n 3, 1) := by decide +kernel
theorem dX4_digestRows_73 : decode cX4_digestRows 73 = .ok (.lreturn, 1) := by decide +kernel
theorem dX4_farmByCode_0 : decode cX4_farmByCode 0 = .ok (.iload_n 0, 1) := by decide +kernel
theorem dX4_farmByCode_1 : decode cX4_farmByCode 1 = .ok (.iload_n 1, 1) := by decide +kernel
theorem dX4_farmByCode_2 : decode cX4_farmByCode 2 = .ok (.iconst 1, 1) := by decide +kernel
theorem dX4_farmByCode_3 : decode cX4_farmByCode 3 = .ok (.isub, 1) := by decide +kernel
theorem dX4_farmByCode_4 : decode cX4_farmByCode 4 = .ok (.iload_n 2, 1) := by decide +kernel
theorem dX4_farmByCode_5 : decode cX4_farmByCode 5 = .ok (.isub, 1) := by decide +kernel
theorem dX4_farmByCode_6 : decode cX4_farmByCode 6 = .ok (.ishr, 1) := by decide +kernel
theorem dX4_farmByCode_7 : decode cX4_farmByCode 7 = .ok (.iconst 1, 1) := by decide +kernel
theorem dX4_farmByCode_8 : decode cX4_farmByCode 8 = .ok (.iand, 1) := by decide +kernel
theorem dX4_farmByCode_9 : decode cX4_farmByCode 9 = .ok (.ireturn, 1) := by decide +kernel
set_option maxRecDepth 20000 in
theorem ggX4_leadByCode_X4_farmByCode : GoodIn wsX4_leadByCode wsX4_farmByCode := goodIn_r _ [5] (by decide +kernel) (by decide +kernel)
set_option maxRecDepth 20000 in
theorem gX4_leadByCode_X4_farmByCode : GoodIn wsX4_leadByCode (va_wsS RX4 305 yX4_farmByCode wsX4_farmByCode) := goodIn_app (goodIn_of _ (by decide +kernel)) ggX4_leadByCode_X4_farmByCode
set_option maxRecDepth 20000 in
theorem ggX4_leadByCode_X1_milkOn : GoodIn wsX4_leadByCode wsX1_milkOn := goodIn_r _ [10, 11, 12, 23, 24, 25, 26, 27, 28, 29, 30, 31, 32, 33] (by decide +kernel) (by decide +kernel)
set_option maxRecDepth 20000 in
theorem gX4_leadByCode_X1_milkOn : GoodIn wsX4_leadByCode (wsV RX4 308 RX1 yX1_milkOn wsX1_milkOn) := goodIn_app (goodIn_of _ (by decide +kernel)) ggX4_leadByCode_X1_milkOn
theorem dX4_leadByCode_0 : decode cX4_leadByCode 0 = .ok (.iconst 0, 1) := by decide +kernel
theorem dX4_leadByCode_1 : decode cX4_leadByCode 1 = .ok (.istore_n 3, 1) := by decide +kernel
theorem dX4_leadByCode_2 : decode cX4_leadByCode 2 = .ok (.iconst 0, 1) := by decide +kernel
theorem dX4_leadByCode_3 : decode cX4_leadByCode 3 = .ok (.istore 4, 2) := by decide +kernel
theorem dX4_leadByCode_5 : decode cX4_leadByCode 5 = .ok (.iload 4, 2) := by decide +kernel
theorem dX4_leadByCode_7 : decode cX4_leadByCode 7 = .ok (.iload_n 2, 1) := by decide +kernel
theorem dX4_leadByCode_8 : decode cX4_leadByCode 8 = .ok (.if_icmp .ge 44, 3) := by decide +kernel
theorem dX4_leadByCode_11 : decode cX4_leadByCode 11 = .ok (.iload_n 3, 1) := by decide +kernel
theorem dX4_leadByCode_12 : decode cX4_leadByCode 12 = .ok (.iload_n 1, 1) := by decide +kernel
theorem dX4_leadByCode_13 : decode cX4_leadByCode 13 = .ok (.iload_n 2, 1) := by decide +kernel
theorem dX4_leadByCode_14 : decode cX4_leadByCode 14 = .ok (.iload 4, 2) := by decide +kernel
theorem dX4_leadByCode_16 : decode cX4_leadByCode 16 = .ok (.invokestatic 305, 3) := by decide +kernel
theorem dX4_leadByCode_19 : decode cX4_leadByCode 19 = .ok (.ifCond .ne 15, 3) := by decide +kernel
theorem dX4_leadByCode_22 : decode cX4_leadByCode 22 = .ok (.aload_n 0, 1) := by decide +kernel
theorem dX4_leadByCode_23 : decode cX4_leadByCode 23 = .ok (.getfield 21, 3) := by decide +kernel
theorem dX4_leadByCode_26 : decode cX4_leadByCode 26 = .ok (.iload 4, 2) := by decide +kernel
theorem dX4_leadByCode_28 : decode cX4_leadByCode 28 = .ok (.invokevirtual 308, 3) := by decide +kernel
theorem dX4_leadByCode_31 : decode cX4_leadByCode 31 = .ok (.goto 13, 3) := by decide +kernel
theorem dX4_leadByCode_34 : decode cX4_leadByCode 34 = .ok (.aload_n 0, 1) := by decide +kernel
theorem dX4_leadByCode_35 : decode cX4_leadByCode 35 = .ok (.getfield 21, 3) := by decide +kernel
theorem dX4_leadByCode_38 : decode cX4_leadByCode 38 = .ok (.iload 4, 2) := by decide +kernel
theorem dX4_leadByCode_40 : decode cX4_leadByCode 40 = .ok (.invokevirtual 308, 3) := by decide +kernel
theorem dX4_leadByCode_43 : decode cX4_leadByCode 43 = .ok (.ineg, 1) := by decide +kernel
theorem dX4_leadByCode_44 : decode cX4_leadByCode 44 = .ok (.iadd, 1) := by decide +kernel
theorem dX4_leadByCode_45 : decode cX4_leadByCode 45 = .ok (.istore_n 3, 1) := by decide +kernel
theorem dX4_leadByCode_46 : decode cX4_leadByCode 46 = .ok (.iinc 4 1, 3) := by decide +kernel
theorem dX4_leadByCode_49 : decode cX4_leadByCode 49 = .ok (.goto (-44), 3) := by decide +kernel
theorem dX4_leadByCode_52 : decode cX4_leadByCode 52 = .ok (.iload_n 3, 1) := by decide +kernel
theorem dX4_leadByCode_53 : decode cX4_leadByCode 53 = .ok (.ireturn, 1) := by decide +kernel
set_option maxRecDepth 20000 in
theorem ggX4_walksByCode_J6_bitCount_0f7a4 : GoodIn wsX4_walksByCode wsJ6_bitCount_0f7a4 := goodIn_r _ [4, 5, 6, 7] (by decide +kernel) (by decide +kernel)
set_option maxRecDepth 20000 in
theorem gX4_walksByCode_J6_bitCount_0f7a4 : GoodIn wsX4_walksByCode (va_wsS RX4 213 yJ6_bitCount_0f7a4 wsJ6_bitCount_0f7a4) := goodIn_app (goodIn_of _ (by decide +kernel)) ggX4_walksByCode_J6_bitCount_0f7a4
theorem dX4_walksByCode_0 : decode cX4_walksByCode 0 = .ok (.iload_n 0, 1) := by decide +kernel
theorem dX4_walksByCode_1 : decode cX4_walksByCode 1 = .ok (.iload_n 0, 1) := by decide +kernel
theorem dX4_walksByCode_2 : decode cX4_walksByCode 2 = .ok (.iconst 1, 1) := by decide +kernel
theorem dX4_walksByCode_3 : decode cX4_walksByCode 3 = .ok (.ishr, 1) := by decide +kernel
theorem dX4_walksByCode_4 : decode cX4_walksByCode 4 = .ok (.ixor, 1) := by decide +kernel
theorem dX4_walksByCode_5 : decode cX4_walksByCode 5 = .ok (.iconst 1, 1) := by decide +kernel
theorem dX4_walksByCode_6 : decode cX4_walksByCode 6 = .ok (.iload_n 1, 1) := by decide +kernel
theorem dX4_walksByCode_7 : decode cX4_walksByCode 7 = .ok (.iconst 1, 1) := by decide +kernel
theorem dX4_walksByCode_8 : decode cX4_walksByCode 8 = .ok (.isub, 1) := by decide +kernel
theorem dX4_walksByCode_9 : decode cX4_walksByCode 9 = .ok (.ishl, 1) := by decide +kernel
theorem dX4_walksByCode_10 : decode cX4_walksByCode 10 = .ok (.iconst 1, 1) := by decide +kernel
theorem dX4_walksByCode_11 : decode cX4_walksByCode 11 = .ok (.isub, 1) := by decide +kernel
theorem dX4_walksByCode_12 : decode cX4_walksByCode 12 = .ok (.iand, 1) := by decide +kernel
theorem dX4_walksByCode_13 : decode cX4_walksByCode 13 = .ok (.invokestatic 213, 3) := by decide +kernel
theorem dX4_walksByCode_16 : decode cX4_walksByCode 16 = .ok (.ireturn, 1) := by decide +kernel
set_option maxRecDepth 20000 in
theorem ggX4_layCode_X3_become : GoodIn wsX4_layCode wsX3_become := goodIn_r _ [7, 8, 9, 10, 11, 12, 13, 18, 19] (by decide +kernel) (by decide +kernel)
set_option maxRecDepth 20000 in
theorem gX4_layCode_X3_become : GoodIn wsX4_layCode (wsV RX4 299 RX3 yX3_become wsX3_become) := goodIn_app (goodIn_of _ (by decide +kernel)) ggX4_layCode_X3_become
set_option maxRecDepth 20000 in
theorem ggX4_layCode_X4_farmByCode : GoodIn wsX4_layCode wsX4_farmByCode := goodIn_r _ [17] (by decide +kernel) (by decide +kernel)
set_option maxRecDepth 20000 in
theorem gX4_layCode_X4_farmByCode : GoodIn wsX4_layCode (va_wsS RX4 305 yX4_farmByCode wsX4_farmByCode) := goodIn_app (goodIn_of _ (by decide +kernel)) ggX4_layCode_X4_farmByCode
theorem dX4_layCode_0 : decode cX4_layCode 0 = .ok (.aload_n 0, 1) := by decide +kernel
theorem dX4_layCode_1 : decode cX4_layCode 1 = .ok (.iload_n 2, 1) := by decide +kernel
theorem dX4_layCode_2 : decode cX4_layCode 2 = .ok (.iconst 0, 1) := by decide +kernel
theorem dX4_layCode_3 : decode cX4_layCode 3 = .ok (.invokevirtual 299, 3) := by decide +kernel
theorem dX4_layCode_6 : decode cX4_layCode 6 = .ok (.iconst 0, 1) := by decide +kernel
theorem dX4_layCode_7 : decode cX4_layCode 7 = .ok (.istore_n 3, 1) := by decide +kernel
theorem dX4_layCode_8 : decode cX4_layCode 8 = .ok (.iload_n 3, 1) := by decide +kernel
theorem dX4_layCode_9 : decode cX4_layCode 9 = .ok (.aload_n 0, 1) := by decide +kernel
theorem dX4_layCode_10 : decode cX4_layCode 10 = .ok (.getfield 78, 3) := by decide +kernel
theorem dX4_layCode_13 : decode cX4_layCode 13 = .ok (.if_icmp .ge 21, 3) := by decide +kernel
theorem dX4_layCode_16 : decode cX4_layCode 16 = .ok (.aload_n 0, 1) := by decide +kernel
theorem dX4_layCode_17 : decode cX4_layCode 17 = .ok (.getfield 63, 3) := by decide +kernel
theorem dX4_layCode_20 : decode cX4_layCode 20 = .ok (.iload_n 3, 1) := by decide +kernel
theorem dX4_layCode_21 : decode cX4_layCode 21 = .ok (.iload_n 1, 1) := by decide +kernel
theorem dX4_layCode_22 : decode cX4_layCode 22 = .ok (.iload_n 2, 1) := by decide +kernel
theorem dX4_layCode_23 : decode cX4_layCode 23 = .ok (.iload_n 3, 1) := by decide +kernel
theorem dX4_layCode_24 : decode cX4_layCode 24 = .ok (.invokestatic 305, 3) := by decide +kernel
theorem dX4_layCode_27 : decode cX4_layCode 27 = .ok (.iastore, 1) := by decide +kernel
theorem dX4_layCode_28 : decode cX4_layCode 28 = .ok (.iinc 3 1, 3) := by decide +kernel
theorem dX4_layCode_31 : decode cX4_layCode 31 = .ok (.goto (-23), 3) := by decide +kernel
theorem dX4_layCode_34 : decode cX4_layCode 34 = .ok (.return_, 1) := by decide +kernel
set_option maxRecDepth 20000 in
theorem ggX4_leadsByTurn_X4_outside : GoodIn wsX4_leadsByTurn wsX4_outside := goodIn_r _ [7] (by decide +kernel) (by decide +kernel)
set_option maxRecDepth 20000 in
theorem gX4_leadsByTurn_X4_outside : GoodIn wsX4_leadsByTurn (va_wsS RX4 120 yX4_outside wsX4_outside) := goodIn_app (goodIn_of _ (by decide +kernel)) ggX4_leadsByTurn_X4_outside
set_option maxRecDepth 20000 in
theorem ggX4_leadsByTurn_X1_leadOn : GoodIn wsX4_leadsByTurn wsX1_leadOn := goodIn_r _ [12, 13, 14, 15, 11, 16, 17, 18, 19, 20, 21, 22, 23, 24, 35, 36, 37, 38, 39, 40, 41, 42, 43, 44, 45] (by decide +kernel) (by decide +kernel)
set_option maxRecDepth 20000 in
theorem gX4_leadsByTurn_X1_leadOn : GoodIn wsX4_leadsByTurn (wsV RX4 187 RX1 yX1_leadOn wsX1_leadOn) := goodIn_app (goodIn_of _ (by decide +kernel)) ggX4_leadsByTurn_X1_leadOn
theorem dX4_leadsByTurn_0 : decode cX4_leadsByTurn 0 = .ok (.bipush 8, 2) := by decide +kernel
theorem dX4_leadsByTurn_2 : decode cX4_leadsByTurn 2 = .ok (.newarray .int, 2) := by decide +kernel
theorem dX4_leadsByTurn_4 : decode cX4_leadsByTurn 4 = .ok (.astore_n 1, 1) := by decide +kernel
theorem dX4_leadsByTurn_5 : decode cX4_leadsByTurn 5 = .ok (.aload_n 0, 1) := by decide +kernel
theorem dX4_leadsByTurn_6 : decode cX4_leadsByTurn 6 = .ok (.getfield 21, 3) := by decide +kernel
theorem dX4_leadsByTurn_9 : decode cX4_leadsByTurn 9 = .ok (.getfield 145, 3) := by decide +kernel
theorem dX4_leadsByTurn_12 : decode cX4_leadsByTurn 12 = .ok (.iconst 1, 1) := by decide +kernel
theorem dX4_leadsByTurn_13 : decode cX4_leadsByTurn 13 = .ok (.bipush 8, 2) := by decide +kernel
theorem dX4_leadsByTurn_15 : decode cX4_leadsByTurn 15 = .ok (.invokestatic 120, 3) := by decide +kernel
theorem dX4_leadsByTurn_18 : decode cX4_leadsByTurn 18 = .ok (.ifCond .eq 5, 3) := by decide +kernel
theorem dX4_leadsByTurn_21 : decode cX4_leadsByTurn 21 = .ok (.aload_n 1, 1) := by decide +kernel
theorem dX4_leadsByTurn_22 : decode cX4_leadsByTurn 22 = .ok (.areturn, 1) := by decide +kernel
theorem dX4_leadsByTurn_23 : decode cX4_leadsByTurn 23 = .ok (.iconst 0, 1) := by decide +kernel
theorem dX4_leadsByTurn_24 : decode cX4_leadsByTurn 24 = .ok (.istore_n 2, 1) := by decide +kernel
theorem dX4_leadsByTurn_25 : decode cX4_leadsByTurn 25 = .ok (.iload_n 2, 1) := by decide +kernel
theorem dX4_leadsByTurn_26 : decode cX4_leadsByTurn 26 = .ok (.bipush 24, 2) := by decide +kernel
theorem dX4_leadsByTurn_28 : decode cX4_leadsByTurn 28 = .ok (.if_icmp .ge 31, 3) := by decide +kernel
theorem dX4_leadsByTurn_31 : decode cX4_leadsByTurn 31 = .ok (.aload_n 1, 1) := by decide +kernel
theorem dX4_leadsByTurn_32 : decode cX4_leadsByTurn 32 = .ok (.iload_n 2, 1) := by decide +kernel
theorem dX4_leadsByTurn_33 : decode cX4_leadsByTurn 33 = .ok (.aload_n 0, 1) := by decide +kernel
theorem dX4_leadsByTurn_34 : decode cX4_leadsByTurn 34 = .ok (.getfield 21, 3) := by decide +kernel
theorem dX4_leadsByTurn_37 : decode cX4_leadsByTurn 37 = .ok (.getfield 145, 3) := by decide +kernel
theorem dX4_leadsByTurn_40 : decode cX4_leadsByTurn 40 = .ok (.irem, 1) := by decide +kernel
theorem dX4_leadsByTurn_41 : decode cX4_leadsByTurn 41 = .ok (.dup2, 1) := by decide +kernel
theorem dX4_leadsByTurn_42 : decode cX4_leadsByTurn 42 = .ok (.iaload, 1) := by decide +kernel
theorem dX4_leadsByTurn_43 : decode cX4_leadsByTurn 43 = .ok (.aload_n 0, 1) := by decide +kernel
theorem dX4_leadsByTurn_44 : decode cX4_leadsByTurn 44 = .ok (.getfield 21, 3) := by decide +kernel
theorem dX4_leadsByTurn_47 : decode cX4_leadsByTurn 47 = .ok (.iload_n 2, 1) := by decide +kernel
theorem dX4_leadsByTurn_48 : decode cX4_leadsByTurn 48 = .ok (.invokevirtual 187, 3) := by decide +kernel
theorem dX4_leadsByTurn_51 : decode cX4_leadsByTurn 51 = .ok (.iadd, 1) := by decide +kernel
theorem dX4_leadsByTurn_52 : decode cX4_leadsByTurn 52 = .ok (.iastore, 1) := by decide +kernel
theorem dX4_leadsByTurn_53 : decode cX4_leadsByTurn 53 = .ok (.iinc 2 1, 3) := by decide +kernel
theorem dX4_leadsByTurn_56 : decode cX4_leadsByTurn 56 = .ok (.goto (-31), 3) := by decide +kernel
theorem dX4_leadsByTurn_59 : decode cX4_leadsByTurn 59 = .ok (.aload_n 1, 1) := by decide +kernel
theorem dX4_leadsByTurn_60 : decode cX4_leadsByTurn 60 = .ok (.areturn, 1) := by decide +kernel
theorem dX4_leadIfChanged_0 : decode cX4_leadIfChanged 0 = .ok (.iconst 0, 1) := by decide +kernel
theorem dX4_leadIfChanged_1 : decode cX4_leadIfChanged 1 = .ok (.istore_n 2, 1) := by decide +kernel
theorem dX4_leadIfChanged_2 : decode cX4_leadIfChanged 2 = .ok (.iconst 0, 1) := by decide +kernel
theorem dX4_leadIfChanged_3 : decode cX4_leadIfChanged 3 = .ok (.istore_n 3, 1) := by decide +kernel
theorem dX4_leadIfChanged_4 : decode cX4_leadIfChanged 4 = .ok (.iload_n 3, 1) := by decide +kernel
theorem dX4_leadIfChanged_5 : decode cX4_leadIfChanged 5 = .ok (.aload_n 0, 1) := by decide +kernel
theorem dX4_leadIfChanged_6 : decode cX4_leadIfChanged 6 = .ok (.arraylength, 1) := by decide +kernel
theorem dX4_leadIfChanged_7 : decode cX4_leadIfChanged 7 = .ok (.if_icmp .ge 30, 3) := by decide +kernel
theorem dX4_leadIfChanged_10 : decode cX4_leadIfChanged 10 = .ok (.iload_n 2, 1) := by decide +kernel
theorem dX4_leadIfChanged_11 : decode cX4_leadIfChanged 11 = .ok (.iload_n 1, 1) := by decide +kernel
theorem dX4_leadIfChanged_12 : decode cX4_leadIfChanged 12 = .ok (.iload_n 3, 1) := by decide +kernel
theorem dX4_leadIfChanged_13 : decode cX4_leadIfChanged 13 = .ok (.ishr, 1) := by decide +kernel
theorem dX4_leadIfChanged_14 : decode cX4_leadIfChanged 14 = .ok (.iconst 1, 1) := by decide +kernel
theorem dX4_leadIfChanged_15 : decode cX4_leadIfChanged 15 = .ok (.iand, 1) := by decide +kernel
theorem dX4_leadIfChanged_16 : decode cX4_leadIfChanged 16 = .ok (.ifCond .ne 9, 3) := by decide +kernel
theorem dX4_leadIfChanged_19 : decode cX4_leadIfChanged 19 = .ok (.aload_n 0, 1) := by decide +kernel
theorem dX4_leadIfChanged_20 : decode cX4_leadIfChanged 20 = .ok (.iload_n 3, 1) := by decide +kernel
theorem dX4_leadIfChanged_21 : decode cX4_leadIfChanged 21 = .ok (.iaload, 1) := by decide +kernel
theorem dX4_leadIfChanged_22 : decode cX4_leadIfChanged 22 = .ok (.goto 7, 3) := by decide +kernel
theorem dX4_leadIfChanged_25 : decode cX4_leadIfChanged 25 = .ok (.aload_n 0, 1) := by decide +kernel
theorem dX4_leadIfChanged_26 : decode cX4_leadIfChanged 26 = .ok (.iload_n 3, 1) := by decide +kernel
theorem dX4_leadIfChanged_27 : decode cX4_leadIfChanged 27 = .ok (.iaload, 1) := by decide +kernel
theorem dX4_leadIfChanged_28 : decode cX4_leadIfChanged 28 = .ok (.ineg, 1) := by decide +kernel
theorem dX4_leadIfChanged_29 : decode cX4_leadIfChanged 29 = .ok (.iadd, 1) := by decide +kernel
theorem dX4_leadIfChanged_30 : decode cX4_leadIfChanged 30 = .ok (.istore_n 2, 1) := by decide +kernel
theorem dX4_leadIfChanged_31 : decode cX4_leadIfChanged 31 = .ok (.iinc 3 1, 3) := by decide +kernel
theorem dX4_leadIfChanged_34 : decode cX4_leadIfChanged 34 = .ok (.goto (-30), 3) := by decide +kernel
theorem dX4_leadIfChanged_37 : decode cX4_leadIfChanged 37 = .ok (.iload_n 2, 1) := by decide +kernel
theorem dX4_leadIfChanged_38 : decode cX4_leadIfChanged 38 = .ok (.ireturn, 1) := by decide +kernel
theorem dX4_gapOfHeirs_0 : decode cX4_gapOfHeirs 0 = .ok (.iconst 0, 1) := by decide +kernel
theorem dX4_gapOfHeirs_1 : decode cX4_gapOfHeirs 1 = .ok (.istore_n 2, 1) := by decide +kernel
theorem dX4_gapOfHeirs_2 : decode cX4_gapOfHeirs 2 = .ok (.iconst 0, 1) := by decide +kernel
theorem dX4_gapOfHeirs_3 : decode cX4_gapOfHeirs 3 = .ok (.istore_n 3, 1) := by decide +kernel
theorem dX4_gapOfHeirs_4 : decode cX4_gapOfHeirs 4 = .ok (.iconst 0, 1) := by decide +kernel
theorem dX4_gapOfHeirs_5 : decode cX4_gapOfHeirs 5 = .ok (.istore 4, 2) := by decide +kernel
theorem dX4_gapOfHeirs_7 : decode cX4_gapOfHeirs 7 = .ok (.iload_n 1, 1) := by decide +kernel
theorem dX4_gapOfHeirs_8 : decode cX4_gapOfHeirs 8 = .ok (.istore 5, 2) := by decide +kernel
theorem dX4_gapOfHeirs_10 : decode cX4_gapOfHeirs 10 = .ok (.aload_n 0, 1) := by decide +kernel
theorem dX4_gapOfHeirs_11 : decode cX4_gapOfHeirs 11 = .ok (.getfield 21, 3) := by decide +kernel
theorem dX4_gapOfHeirs_14 : decode cX4_gapOfHeirs 14 = .ok (.getfield 108, 3) := by decide +kernel
theorem dX4_gapOfHeirs_17 : decode cX4_gapOfHeirs 17 = .ok (.iconst 1, 1) := by decide +kernel
theorem dX4_gapOfHeirs_18 : decode cX4_gapOfHeirs 18 = .ok (.isub, 1) := by decide +kernel
theorem dX4_gapOfHeirs_19 : decode cX4_gapOfHeirs 19 = .ok (.istore 6, 2) := by decide +kernel
theorem dX4_gapOfHeirs_21 : decode cX4_gapOfHeirs 21 = .ok (.iload 6, 2) := by decide +kernel
theorem dX4_gapOfHeirs_23 : decode cX4_gapOfHeirs 23 = .ok (.ifCond .lt 84, 3) := by decide +kernel
theorem dX4_gapOfHeirs_26 : decode cX4_gapOfHeirs 26 = .ok (.aload_n 0, 1) := by decide +kernel
theorem dX4_gapOfHeirs_27 : decode cX4_gapOfHeirs 27 = .ok (.getfield 21, 3) := by decide +kernel
theorem dX4_gapOfHeirs_30 : decode cX4_gapOfHeirs 30 = .ok (.getfield 111, 3) := by decide +kernel
theorem dX4_gapOfHeirs_33 : decode cX4_gapOfHeirs 33 = .ok (.iload 6, 2) := by decide +kernel
theorem dX4_gapOfHeirs_35 : decode cX4_gapOfHeirs 35 = .ok (.aaload, 1) := by decide +kernel
theorem dX4_gapOfHeirs_36 : decode cX4_gapOfHeirs 36 = .ok (.getfield 130, 3) := by decide +kernel
theorem dX4_gapOfHeirs_39 : decode cX4_gapOfHeirs 39 = .ok (.istore 7, 2) := by decide +kernel
theorem dX4_gapOfHeirs_41 : decode cX4_gapOfHeirs 41 = .ok (.iload 5, 2) := by decide +kernel
theorem dX4_gapOfHeirs_43 : decode cX4_gapOfHeirs 43 = .ok (.iconst 3, 1) := by decide +kernel
theorem dX4_gapOfHeirs_44 : decode cX4_gapOfHeirs 44 = .ok (.irem, 1) := by decide +kernel
theorem dX4_gapOfHeirs_45 : decode cX4_gapOfHeirs 45 = .ok (.lookupswitch 43 #[(0, 27), (1, 35)], 27) := by decide +kernel
theorem dX4_gapOfHeirs_72 : decode cX4_gapOfHeirs 72 = .ok (.iload_n 2, 1) := by decide +kernel
theorem dX4_gapOfHeirs_73 : decode cX4_gapOfHeirs 73 = .ok (.iload 7, 2) := by decide +kernel
theorem dX4_gapOfHeirs_75 : decode cX4_gapOfHeirs 75 = .ok (.iadd, 1) := by decide +kernel
theorem dX4_gapOfHeirs_76 : decode cX4_gapOfHeirs 76 = .ok (.istore_n 2, 1) := by decide +kernel
theorem dX4_gapOfHeirs_77 : decode cX4_gapOfHeirs 77 = .ok (.goto 18, 3) := by decide +kernel
theorem dX4_gapOfHeirs_80 : decode cX4_gapOfHeirs 80 = .ok (.iload_n 3, 1) := by decide +kernel
theorem dX4_gapOfHeirs_81 : decode cX4_gapOfHeirs 81 = .ok (.iload 7, 2) := by decide +kernel
theorem dX4_gapOfHeirs_83 : decode cX4_gapOfHeirs 83 = .ok (.iadd, 1) := by decide +kernel
theorem dX4_gapOfHeirs_84 : decode cX4_gapOfHeirs 84 = .ok (.istore_n 3, 1) := by decide +kernel
theorem dX4_gapOfHeirs_85 : decode cX4_gapOfHeirs 85 = .ok (.goto 10, 3) := by decide +kernel
theorem dX4_gapOfHeirs_88 : decode cX4_gapOfHeirs 88 = .ok (.iload 4, 2) := by decide +kernel
theorem dX4_gapOfHeirs_90 : decode cX4_gapOfHeirs 90 = .ok (.iload 7, 2) := by decide +kernel
theorem dX4_gapOfHeirs_92 : decode cX4_gapOfHeirs 92 = .ok (.iadd, 1) := by decide +kernel
theorem dX4_gapOfHeirs_93 : decode cX4_gapOfHeirs 93 = .ok (.istore 4, 2) := by decide +kernel
theorem dX4_gapOfHeirs_95 : decode cX4_gapOfHeirs 95 = .ok (.iload 5, 2) := by decide +kernel
theorem dX4_gapOfHeirs_97 : decode cX4_gapOfHeirs 97 = .ok (.iconst 3, 1) := by decide +kernel
theorem dX4_gapOfHeirs_98 : decode cX4_gapOfHeirs 98 = .ok (.idiv, 1) := by decide +kernel
theorem dX4_gapOfHeirs_99 : decode cX4_gapOfHeirs 99 = .ok (.istore 5, 2) := by decide +kernel
theorem dX4_gapOfHeirs_101 : decode cX4_gapOfHeirs 101 = .ok (.iinc 6 (-1), 3) := by decide +kernel
theorem dX4_gapOfHeirs_104 : decode cX4_gapOfHeirs 104 = .ok (.goto (-83), 3) := by decide +kernel
theorem dX4_gapOfHeirs_107 : decode cX4_gapOfHeirs 107 = .ok (.iload_n 2, 1) := by decide +kernel
theorem dX4_gapOfHeirs_108 : decode cX4_gapOfHeirs 108 = .ok (.iload_n 3, 1) := by decide +kernel
theorem dX4_gapOfHeirs_109 : decode cX4_gapOfHeirs 109 = .ok (.iload 4, 2) := by decide +kernel
theorem dX4_gapOfHeirs_111 : decode cX4_gapOfHeirs 111 = .ok (.invokestatic 311, 3) := by decide +kernel
theorem dX4_gapOfHeirs_114 : decode cX4_gapOfHeirs 114 = .ok (.invokestatic 311, 3) := by decide +kernel
theorem dX4_gapOfHeirs_117 : decode cX4_gapOfHeirs 117 = .ok (.istore 6, 2) := by decide +kernel
theorem dX4_gapOfHeirs_119 : decode cX4_gapOfHeirs 119 = .ok (.iload 6, 2) := by decide +kernel
theorem dX4_gapOfHeirs_121 : decode cX4_gapOfHeirs 121 = .ok (.iload_n 2, 1) := by decide +kernel
theorem dX4_gapOfHeirs_122 : decode cX4_gapOfHeirs 122 = .ok (.iload_n 3, 1) := by decide +kernel
theorem dX4_gapOfHeirs_123 : decode cX4_gapOfHeirs 123 = .ok (.iload 4, 2) := by decide +kernel
theorem dX4_gapOfHeirs_125 : decode cX4_gapOfHeirs 125 = .ok (.invokestatic 235, 3) := by decide +kernel
theorem dX4_gapOfHeirs_128 : decode cX4_gapOfHeirs 128 = .ok (.invokestatic 235, 3) := by decide +kernel
theorem dX4_gapOfHeirs_131 : decode cX4_gapOfHeirs 131 = .ok (.isub, 1) := by decide +kernel
theorem dX4_gapOfHeirs_132 : decode cX4_gapOfHeirs 132 = .ok (.ireturn, 1) := by decide +kernel
set_option maxRecDepth 20000 in
theorem ggX4_calfByReading_X1_farmOn : GoodIn wsX4_calfByReading wsX1_farmOn := goodIn_r _ [10, 11, 12, 28, 29, 30, 31, 32, 33, 34, 35, 36, 37, 38] (by decide +kernel) (by decide +kernel)
set_option maxRecDepth 20000 in
theorem gX4_calfByReading_X1_farmOn : GoodIn wsX4_calfByReading (wsV RX4 180 RX1 yX1_farmOn wsX1_farmOn) := goodIn_app (goodIn_of _ (by decide +kernel)) ggX4_calfByReading_X1_farmOn
set_option maxRecDepth 20000 in
theorem ggX4_calfByReading_X1_farmWalkedToBehind : GoodIn wsX4_calfByReading wsX1_farmWalkedToBehind := goodIn_r _ [16, 11, 12, 17, 7, 8, 9, 10, 28, 29, 30, 31, 32, 33, 34, 35, 36, 37, 38] (by decide +kernel) (by decide +kernel)
set_option maxRecDepth 20000 in
theorem gX4_calfByReading_X1_farmWalkedToBehind : GoodIn wsX4_calfByReading (wsV RX4 314 RX1 yX1_farmWalkedToBehind wsX1_farmWalkedToBehind) := goodIn_app (goodIn_of _ (by decide +kernel)) ggX4_calfByReading_X1_farmWalkedToBehind
theorem dX4_calfByReading_0 : decode cX4_calfByReading 0 = .ok (.iload_n 2, 1) := by decide +kernel
theorem dX4_calfByReading_1 : decode cX4_calfByReading 1 = .ok (.tableswitch 61 0 2 #[27, 36, 51], 27) := by decide +kernel
theorem dX4_calfByReading_28 : decode cX4_calfByReading 28 = .ok (.aload_n 0, 1) := by decide +kernel
theorem dX4_calfByReading_29 : decode cX4_calfByReading 29 = .ok (.getfield 21, 3) := by decide +kernel
theorem dX4_calfByReading_32 : decode cX4_calfByReading 32 = .ok (.iload_n 1, 1) := by decide +kernel
theorem dX4_calfByReading_33 : decode cX4_calfByReading 33 = .ok (.invokevirtual 180, 3) := by decide +kernel
theorem dX4_calfByReading_36 : decode cX4_calfByReading 36 = .ok (.ireturn, 1) := by decide +kernel
theorem dX4_calfByReading_37 : decode cX4_calfByReading 37 = .ok (.aload_n 0, 1) := by decide +kernel
theorem dX4_calfByReading_38 : decode cX4_calfByReading 38 = .ok (.getfield 21, 3) := by decide +kernel
theorem dX4_calfByReading_41 : decode cX4_calfByReading 41 = .ok (.iconst 0, 1) := by decide +kernel
theorem dX4_calfByReading_42 : decode cX4_calfByReading 42 = .ok (.iload_n 1, 1) := by decide +kernel
theorem dX4_calfByReading_43 : decode cX4_calfByReading 43 = .ok (.iconst 1, 1) := by decide +kernel
theorem dX4_calfByReading_44 : decode cX4_calfByReading 44 = .ok (.isub, 1) := by decide +kernel
theorem dX4_calfByReading_45 : decode cX4_calfByReading 45 = .ok (.invokestatic 311, 3) := by decide +kernel
theorem dX4_calfByReading_48 : decode cX4_calfByReading 48 = .ok (.invokevirtual 180, 3) := by decide +kernel
theorem dX4_calfByReading_51 : decode cX4_calfByReading 51 = .ok (.ireturn, 1) := by decide +kernel
theorem dX4_calfByReading_52 : decode cX4_calfByReading 52 = .ok (.iload_n 3, 1) := by decide +kernel
theorem dX4_calfByReading_53 : decode cX4_calfByReading 53 = .ok (.ifCond .lt 7, 3) := by decide +kernel
theorem dX4_calfByReading_56 : decode cX4_calfByReading 56 = .ok (.iconst 0, 1) := by decide +kernel
theorem dX4_calfByReading_57 : decode cX4_calfByReading 57 = .ok (.goto 4, 3) := by decide +kernel
theorem dX4_calfByReading_60 : decode cX4_calfByReading 60 = .ok (.iconst 1, 1) := by decide +kernel
theorem dX4_calfByReading_61 : decode cX4_calfByReading 61 = .ok (.ireturn, 1) := by decide +kernel
theorem dX4_calfByReading_62 : decode cX4_calfByReading 62 = .ok (.aload_n 0, 1) := by decide +kernel
theorem dX4_calfByReading_63 : decode cX4_calfByReading 63 = .ok (.getfield 21, 3) := by decide +kernel
theorem dX4_calfByReading_66 : decode cX4_calfByReading 66 = .ok (.iload_n 1, 1) := by decide +kernel
theorem dX4_calfByReading_67 : decode cX4_calfByReading 67 = .ok (.invokevirtual 314, 3) := by decide +kernel
theorem dX4_calfByReading_70 : decode cX4_calfByReading 70 = .ok (.ireturn, 1) := by decide +kernel
set_option maxRecDepth 20000 in
theorem ggX4_findingOfBook_X3_isMissing : GoodIn wsX4_findingOfBook wsX3_isMissing := goodIn_r _ [7, 8, 19, 20] (by decide +kernel) (by decide +kernel)
set_option maxRecDepth 20000 in
theorem gX4_findingOfBook_X3_isMissing : GoodIn wsX4_findingOfBook (wsV RX4 66 RX3 yX3_isMissing wsX3_isMissing) := goodIn_app (goodIn_of _ (by decide +kernel)) ggX4_findingOfBook_X3_isMissing
set_option maxRecDepth 20000 in
theorem ggX4_findingOfBook_X4_isNoDay : GoodIn wsX4_findingOfBook wsX4_isNoDay := goodIn_r _ [12, 13, 14, 11, 15] (by decide +kernel) (by decide +kernel)
set_option maxRecDepth 20000 in
theorem gX4_findingOfBook_X4_isNoDay : GoodIn wsX4_findingOfBook (va_wsS RX4 177 yX4_isNoDay wsX4_isNoDay) := goodIn_app (goodIn_of _ (by decide +kernel)) ggX4_findingOfBook_X4_isNoDay
set_option maxRecDepth 20000 in
theorem ggX4_findingOfBook_X4_isNoFarm : GoodIn wsX4_findingOfBook wsX4_isNoFarm := goodIn_r _ [18, 13, 14, 11, 15] (by decide +kernel) (by decide +kernel)
set_option maxRecDepth 20000 in
theorem gX4_findingOfBook_X4_isNoFarm : GoodIn wsX4_findingOfBook (va_wsS RX4 148 yX4_isNoFarm wsX4_isNoFarm) := goodIn_app (goodIn_of _ (by decide +kernel)) ggX4_findingOfBook_X4_isNoFarm
theorem dX4_findingOfBook_0 : decode cX4_findingOfBook 0 = .ok (.aload_n 0, 1) := by decide +kernel
theorem dX4_findingOfBook_1 : decode cX4_findingOfBook 1 = .ok (.invokevirtual 66, 3) := by decide +kernel
theorem dX4_findingOfBook_4 : decode cX4_findingOfBook 4 = .ok (.ifCond .eq 5, 3) := by decide +kernel
theorem dX4_findingOfBook_7 : decode cX4_findingOfBook 7 = .ok (.iconst 1, 1) := by decide +kernel
theorem dX4_findingOfBook_8 : decode cX4_findingOfBook 8 = .ok (.ireturn, 1) := by decide +kernel
theorem dX4_findingOfBook_9 : decode cX4_findingOfBook 9 = .ok (.aload_n 0, 1) := by decide +kernel
theorem dX4_findingOfBook_10 : decode cX4_findingOfBook 10 = .ok (.getfield 78, 3) := by decide +kernel
theorem dX4_findingOfBook_13 : decode cX4_findingOfBook 13 = .ok (.iconst 2, 1) := by decide +kernel
theorem dX4_findingOfBook_14 : decode cX4_findingOfBook 14 = .ok (.irem, 1) := by decide +kernel
theorem dX4_findingOfBook_15 : decode cX4_findingOfBook 15 = .ok (.ifCond .eq 5, 3) := by decide +kernel
theorem dX4_findingOfBook_18 : decode cX4_findingOfBook 18 = .ok (.iconst 5, 1) := by decide +kernel
theorem dX4_findingOfBook_19 : decode cX4_findingOfBook 19 = .ok (.ireturn, 1) := by decide +kernel
theorem dX4_findingOfBook_20 : decode cX4_findingOfBook 20 = .ok (.iconst 0, 1) := by decide +kernel
theorem dX4_findingOfBook_21 : decode cX4_findingOfBook 21 = .ok (.istore_n 1, 1) := by decide +kernel
theorem dX4_findingOfBook_22 : decode cX4_findingOfBook 22 = .ok (.iload_n 1, 1) := by decide +kernel
theorem dX4_findingOfBook_23 : decode cX4_findingOfBook 23 = .ok (.iconst 1, 1) := by decide +kernel
theorem dX4_findingOfBook_24 : decode cX4_findingOfBook 24 = .ok (.iadd, 1) := by decide +kernel
theorem dX4_findingOfBook_25 : decode cX4_findingOfBook 25 = .ok (.aload_n 0, 1) := by decide +kernel
