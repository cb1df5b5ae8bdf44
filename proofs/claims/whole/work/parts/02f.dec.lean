theorem dX4_sum_0 : decode cX4_sum 0 = .ok (.aload_n 0, 1) := by decide +kernel
theorem dX4_sum_1 : decode cX4_sum 1 = .ok (.getfield 21, 3) := by decide +kernel
theorem dX4_sum_4 : decode cX4_sum 4 = .ok (.invokevirtual 157, 3) := by decide +kernel
theorem dX4_sum_7 : decode cX4_sum 7 = .ok (.ifCond .eq 6, 3) := by decide +kernel
theorem dX4_sum_10 : decode cX4_sum 10 = .ok (.bipush (-4), 2) := by decide +kernel
theorem dX4_sum_12 : decode cX4_sum 12 = .ok (.ireturn, 1) := by decide +kernel
theorem dX4_sum_13 : decode cX4_sum 13 = .ok (.aload_n 0, 1) := by decide +kernel
theorem dX4_sum_14 : decode cX4_sum 14 = .ok (.getfield 21, 3) := by decide +kernel
theorem dX4_sum_17 : decode cX4_sum 17 = .ok (.iconst 1, 1) := by decide +kernel
theorem dX4_sum_18 : decode cX4_sum 18 = .ok (.invokevirtual 222, 3) := by decide +kernel
theorem dX4_sum_21 : decode cX4_sum 21 = .ok (.istore_n 1, 1) := by decide +kernel
theorem dX4_sum_22 : decode cX4_sum 22 = .ok (.iconst 0, 1) := by decide +kernel
theorem dX4_sum_23 : decode cX4_sum 23 = .ok (.istore_n 2, 1) := by decide +kernel
theorem dX4_sum_24 : decode cX4_sum 24 = .ok (.iload_n 2, 1) := by decide +kernel
theorem dX4_sum_25 : decode cX4_sum 25 = .ok (.bipush 99, 2) := by decide +kernel
theorem dX4_sum_27 : decode cX4_sum 27 = .ok (.if_icmp .gt 75, 3) := by decide +kernel
theorem dX4_sum_30 : decode cX4_sum 30 = .ok (.aload_n 0, 1) := by decide +kernel
theorem dX4_sum_31 : decode cX4_sum 31 = .ok (.getfield 21, 3) := by decide +kernel
theorem dX4_sum_34 : decode cX4_sum 34 = .ok (.iload_n 1, 1) := by decide +kernel
theorem dX4_sum_35 : decode cX4_sum 35 = .ok (.aload_n 0, 1) := by decide +kernel
theorem dX4_sum_36 : decode cX4_sum 36 = .ok (.getfield 21, 3) := by decide +kernel
theorem dX4_sum_39 : decode cX4_sum 39 = .ok (.getfield 171, 3) := by decide +kernel
theorem dX4_sum_42 : decode cX4_sum 42 = .ok (.iload_n 2, 1) := by decide +kernel
theorem dX4_sum_43 : decode cX4_sum 43 = .ok (.isub, 1) := by decide +kernel
theorem dX4_sum_44 : decode cX4_sum 44 = .ok (.invokevirtual 228, 3) := by decide +kernel
theorem dX4_sum_47 : decode cX4_sum 47 = .ok (.istore_n 3, 1) := by decide +kernel
theorem dX4_sum_48 : decode cX4_sum 48 = .ok (.iload_n 3, 1) := by decide +kernel
theorem dX4_sum_49 : decode cX4_sum 49 = .ok (.ifCond .ne 23, 3) := by decide +kernel
theorem dX4_sum_52 : decode cX4_sum 52 = .ok (.aload_n 0, 1) := by decide +kernel
theorem dX4_sum_53 : decode cX4_sum 53 = .ok (.getfield 21, 3) := by decide +kernel
theorem dX4_sum_56 : decode cX4_sum 56 = .ok (.iload_n 1, 1) := by decide +kernel
theorem dX4_sum_57 : decode cX4_sum 57 = .ok (.aload_n 0, 1) := by decide +kernel
theorem dX4_sum_58 : decode cX4_sum 58 = .ok (.getfield 21, 3) := by decide +kernel
theorem dX4_sum_61 : decode cX4_sum 61 = .ok (.getfield 171, 3) := by decide +kernel
theorem dX4_sum_64 : decode cX4_sum 64 = .ok (.iload_n 2, 1) := by decide +kernel
theorem dX4_sum_65 : decode cX4_sum 65 = .ok (.iadd, 1) := by decide +kernel
theorem dX4_sum_66 : decode cX4_sum 66 = .ok (.invokevirtual 228, 3) := by decide +kernel
theorem dX4_sum_69 : decode cX4_sum 69 = .ok (.ifCond .eq 27, 3) := by decide +kernel
theorem dX4_sum_72 : decode cX4_sum 72 = .ok (.aload_n 0, 1) := by decide +kernel
theorem dX4_sum_73 : decode cX4_sum 73 = .ok (.iload_n 2, 1) := by decide +kernel
theorem dX4_sum_74 : decode cX4_sum 74 = .ok (.ifCond .ne 8, 3) := by decide +kernel
theorem dX4_sum_77 : decode cX4_sum 77 = .ok (.bipush (-9), 2) := by decide +kernel
theorem dX4_sum_79 : decode cX4_sum 79 = .ok (.goto 12, 3) := by decide +kernel
theorem dX4_sum_82 : decode cX4_sum 82 = .ok (.iload_n 3, 1) := by decide +kernel
theorem dX4_sum_83 : decode cX4_sum 83 = .ok (.ifCond .eq 7, 3) := by decide +kernel
theorem dX4_sum_86 : decode cX4_sum 86 = .ok (.iconst 0, 1) := by decide +kernel
theorem dX4_sum_87 : decode cX4_sum 87 = .ok (.goto 4, 3) := by decide +kernel
theorem dX4_sum_90 : decode cX4_sum 90 = .ok (.iconst 1, 1) := by decide +kernel
theorem dX4_sum_91 : decode cX4_sum 91 = .ok (.putfield 74, 3) := by decide +kernel
theorem dX4_sum_94 : decode cX4_sum 94 = .ok (.iload_n 2, 1) := by decide +kernel
theorem dX4_sum_95 : decode cX4_sum 95 = .ok (.ireturn, 1) := by decide +kernel
theorem dX4_sum_96 : decode cX4_sum 96 = .ok (.iinc 2 1, 3) := by decide +kernel
theorem dX4_sum_99 : decode cX4_sum 99 = .ok (.goto (-75), 3) := by decide +kernel
theorem dX4_sum_102 : decode cX4_sum 102 = .ok (.bipush (-9), 2) := by decide +kernel
theorem dX4_sum_104 : decode cX4_sum 104 = .ok (.ireturn, 1) := by decide +kernel
set_option maxRecDepth 20000 in
theorem ggX4_heirs_X1_isMissing : GoodIn wsX4_heirs wsX1_isMissing := goodIn_r _ [9, 10, 35, 36, 37, 38, 39, 40, 41, 42, 43, 44, 45] (by decide +kernel) (by decide +kernel)
set_option maxRecDepth 20000 in
theorem gX4_heirs_X1_isMissing : GoodIn wsX4_heirs (wsV RX4 157 RX1 yX1_isMissing wsX1_isMissing) := goodIn_app (goodIn_of _ (by decide +kernel)) ggX4_heirs_X1_isMissing
set_option maxRecDepth 20000 in
theorem ggX4_heirs_X4_gapOfHeirs : GoodIn wsX4_heirs wsX4_gapOfHeirs := goodIn_r _ [15, 1, 2, 16, 17, 18, 19, 20, 21, 22, 23, 24, 25, 26, 27, 28, 29, 30, 31, 32, 33, 34, 35, 36, 37, 38, 39, 40, 41, 42, 43, 44, 45, 46, 47, 48, 49, 50] (by decide +kernel) (by decide +kernel)
set_option maxRecDepth 20000 in
theorem gX4_heirs_X4_gapOfHeirs : GoodIn wsX4_heirs (wsV RX4 238 RX4 yX4_gapOfHeirs wsX4_gapOfHeirs) := goodIn_app (goodIn_of _ (by decide +kernel)) ggX4_heirs_X4_gapOfHeirs
theorem dX4_heirs_0 : decode cX4_heirs 0 = .ok (.aload_n 0, 1) := by decide +kernel
theorem dX4_heirs_1 : decode cX4_heirs 1 = .ok (.getfield 21, 3) := by decide +kernel
theorem dX4_heirs_4 : decode cX4_heirs 4 = .ok (.invokevirtual 157, 3) := by decide +kernel
theorem dX4_heirs_7 : decode cX4_heirs 7 = .ok (.ifCond .eq 6, 3) := by decide +kernel
theorem dX4_heirs_10 : decode cX4_heirs 10 = .ok (.bipush (-4), 2) := by decide +kernel
theorem dX4_heirs_12 : decode cX4_heirs 12 = .ok (.ireturn, 1) := by decide +kernel
theorem dX4_heirs_13 : decode cX4_heirs 13 = .ok (.iconst 1, 1) := by decide +kernel
theorem dX4_heirs_14 : decode cX4_heirs 14 = .ok (.istore_n 1, 1) := by decide +kernel
theorem dX4_heirs_15 : decode cX4_heirs 15 = .ok (.iconst 0, 1) := by decide +kernel
theorem dX4_heirs_16 : decode cX4_heirs 16 = .ok (.istore_n 2, 1) := by decide +kernel
theorem dX4_heirs_17 : decode cX4_heirs 17 = .ok (.iload_n 2, 1) := by decide +kernel
theorem dX4_heirs_18 : decode cX4_heirs 18 = .ok (.aload_n 0, 1) := by decide +kernel
theorem dX4_heirs_19 : decode cX4_heirs 19 = .ok (.getfield 21, 3) := by decide +kernel
theorem dX4_heirs_22 : decode cX4_heirs 22 = .ok (.getfield 108, 3) := by decide +kernel
theorem dX4_heirs_25 : decode cX4_heirs 25 = .ok (.if_icmp .ge 13, 3) := by decide +kernel
theorem dX4_heirs_28 : decode cX4_heirs 28 = .ok (.iload_n 1, 1) := by decide +kernel
theorem dX4_heirs_29 : decode cX4_heirs 29 = .ok (.iconst 3, 1) := by decide +kernel
theorem dX4_heirs_30 : decode cX4_heirs 30 = .ok (.imul, 1) := by decide +kernel
theorem dX4_heirs_31 : decode cX4_heirs 31 = .ok (.istore_n 1, 1) := by decide +kernel
theorem dX4_heirs_32 : decode cX4_heirs 32 = .ok (.iinc 2 1, 3) := by decide +kernel
theorem dX4_heirs_35 : decode cX4_heirs 35 = .ok (.goto (-18), 3) := by decide +kernel
theorem dX4_heirs_38 : decode cX4_heirs 38 = .ok (.ldc 198, 2) := by decide +kernel
theorem dX4_heirs_40 : decode cX4_heirs 40 = .ok (.istore_n 2, 1) := by decide +kernel
theorem dX4_heirs_41 : decode cX4_heirs 41 = .ok (.iconst 0, 1) := by decide +kernel
theorem dX4_heirs_42 : decode cX4_heirs 42 = .ok (.istore_n 3, 1) := by decide +kernel
theorem dX4_heirs_43 : decode cX4_heirs 43 = .ok (.iconst 0, 1) := by decide +kernel
theorem dX4_heirs_44 : decode cX4_heirs 44 = .ok (.istore 4, 2) := by decide +kernel
theorem dX4_heirs_46 : decode cX4_heirs 46 = .ok (.iload 4, 2) := by decide +kernel
theorem dX4_heirs_48 : decode cX4_heirs 48 = .ok (.iload_n 1, 1) := by decide +kernel
theorem dX4_heirs_49 : decode cX4_heirs 49 = .ok (.if_icmp .ge 29, 3) := by decide +kernel
theorem dX4_heirs_52 : decode cX4_heirs 52 = .ok (.aload_n 0, 1) := by decide +kernel
theorem dX4_heirs_53 : decode cX4_heirs 53 = .ok (.iload 4, 2) := by decide +kernel
theorem dX4_heirs_55 : decode cX4_heirs 55 = .ok (.invokevirtual 238, 3) := by decide +kernel
theorem dX4_heirs_58 : decode cX4_heirs 58 = .ok (.istore 5, 2) := by decide +kernel
theorem dX4_heirs_60 : decode cX4_heirs 60 = .ok (.iload 5, 2) := by decide +kernel
theorem dX4_heirs_62 : decode cX4_heirs 62 = .ok (.iload_n 2, 1) := by decide +kernel
theorem dX4_heirs_63 : decode cX4_heirs 63 = .ok (.if_icmp .ge 9, 3) := by decide +kernel
theorem dX4_heirs_66 : decode cX4_heirs 66 = .ok (.iload 5, 2) := by decide +kernel
theorem dX4_heirs_68 : decode cX4_heirs 68 = .ok (.istore_n 2, 1) := by decide +kernel
theorem dX4_heirs_69 : decode cX4_heirs 69 = .ok (.iload 4, 2) := by decide +kernel
theorem dX4_heirs_71 : decode cX4_heirs 71 = .ok (.istore_n 3, 1) := by decide +kernel
theorem dX4_heirs_72 : decode cX4_heirs 72 = .ok (.iinc 4 1, 3) := by decide +kernel
theorem dX4_heirs_75 : decode cX4_heirs 75 = .ok (.goto (-29), 3) := by decide +kernel
theorem dX4_heirs_78 : decode cX4_heirs 78 = .ok (.aload_n 0, 1) := by decide +kernel
theorem dX4_heirs_79 : decode cX4_heirs 79 = .ok (.iload_n 3, 1) := by decide +kernel
theorem dX4_heirs_80 : decode cX4_heirs 80 = .ok (.putfield 74, 3) := by decide +kernel
theorem dX4_heirs_83 : decode cX4_heirs 83 = .ok (.iload_n 2, 1) := by decide +kernel
theorem dX4_heirs_84 : decode cX4_heirs 84 = .ok (.ireturn, 1) := by decide +kernel
set_option maxRecDepth 20000 in
theorem ggX4_calf_X4_isNoDay : GoodIn wsX4_calf wsX4_isNoDay := goodIn_r _ [5, 6, 7, 4, 8] (by decide +kernel) (by decide +kernel)
set_option maxRecDepth 20000 in
theorem gX4_calf_X4_isNoDay : GoodIn wsX4_calf (va_wsS RX4 177 yX4_isNoDay wsX4_isNoDay) := goodIn_app (goodIn_of _ (by decide +kernel)) ggX4_calf_X4_isNoDay
set_option maxRecDepth 20000 in
theorem ggX4_calf_X4_isNoReading : GoodIn wsX4_calf wsX4_isNoReading := goodIn_r _ [11, 6, 7, 4, 8] (by decide +kernel) (by decide +kernel)
set_option maxRecDepth 20000 in
theorem gX4_calf_X4_isNoReading : GoodIn wsX4_calf (va_wsS RX4 241 yX4_isNoReading wsX4_isNoReading) := goodIn_app (goodIn_of _ (by decide +kernel)) ggX4_calf_X4_isNoReading
set_option maxRecDepth 20000 in
theorem ggX4_calf_X1_isMissing : GoodIn wsX4_calf wsX1_isMissing := goodIn_r _ [16, 17, 61, 62, 63, 64, 65, 66, 67, 68, 69, 70, 71] (by decide +kernel) (by decide +kernel)
set_option maxRecDepth 20000 in
theorem gX4_calf_X1_isMissing : GoodIn wsX4_calf (wsV RX4 157 RX1 yX1_isMissing wsX1_isMissing) := goodIn_app (goodIn_of _ (by decide +kernel)) ggX4_calf_X1_isMissing
set_option maxRecDepth 20000 in
theorem ggX4_calf_X1_leadUpTo : GoodIn wsX4_calf wsX1_leadUpTo := goodIn_r _ [21, 22, 23, 24, 15, 25, 26, 27, 28, 29, 30, 31, 32, 33, 34, 35, 36, 37, 61, 62, 63, 64, 65, 66, 67, 68, 69, 70, 71] (by decide +kernel) (by decide +kernel)
set_option maxRecDepth 20000 in
theorem gX4_calf_X1_leadUpTo : GoodIn wsX4_calf (wsV RX4 244 RX1 yX1_leadUpTo wsX1_leadUpTo) := goodIn_app (goodIn_of _ (by decide +kernel)) ggX4_calf_X1_leadUpTo
set_option maxRecDepth 20000 in
theorem ggX4_calf_X4_calfByReading : GoodIn wsX4_calf wsX4_calfByReading := goodIn_r _ [41, 1, 42, 43, 44, 45, 46, 27, 28, 15, 29, 30, 31, 47, 48, 49, 50, 26, 51, 52, 53, 54, 55, 56, 57, 58, 59, 60, 61, 62, 63, 64, 65, 66, 67, 68, 69, 70, 71] (by decide +kernel) (by decide +kernel)
set_option maxRecDepth 20000 in
theorem gX4_calf_X4_calfByReading : GoodIn wsX4_calf (wsV RX4 247 RX4 yX4_calfByReading wsX4_calfByReading) := goodIn_app (goodIn_of _ (by decide +kernel)) ggX4_calf_X4_calfByReading
theorem dX4_calf_0 : decode cX4_calf 0 = .ok (.iload_n 1, 1) := by decide +kernel
theorem dX4_calf_1 : decode cX4_calf 1 = .ok (.invokestatic 177, 3) := by decide +kernel
theorem dX4_calf_4 : decode cX4_calf 4 = .ok (.ifCond .ne 10, 3) := by decide +kernel
theorem dX4_calf_7 : decode cX4_calf 7 = .ok (.iload_n 2, 1) := by decide +kernel
theorem dX4_calf_8 : decode cX4_calf 8 = .ok (.invokestatic 241, 3) := by decide +kernel
theorem dX4_calf_11 : decode cX4_calf 11 = .ok (.ifCond .eq 5, 3) := by decide +kernel
theorem dX4_calf_14 : decode cX4_calf 14 = .ok (.iconst (-1), 1) := by decide +kernel
theorem dX4_calf_15 : decode cX4_calf 15 = .ok (.ireturn, 1) := by decide +kernel
theorem dX4_calf_16 : decode cX4_calf 16 = .ok (.aload_n 0, 1) := by decide +kernel
theorem dX4_calf_17 : decode cX4_calf 17 = .ok (.getfield 21, 3) := by decide +kernel
theorem dX4_calf_20 : decode cX4_calf 20 = .ok (.invokevirtual 157, 3) := by decide +kernel
theorem dX4_calf_23 : decode cX4_calf 23 = .ok (.ifCond .eq 6, 3) := by decide +kernel
theorem dX4_calf_26 : decode cX4_calf 26 = .ok (.bipush (-4), 2) := by decide +kernel
theorem dX4_calf_28 : decode cX4_calf 28 = .ok (.ireturn, 1) := by decide +kernel
theorem dX4_calf_29 : decode cX4_calf 29 = .ok (.aload_n 0, 1) := by decide +kernel
theorem dX4_calf_30 : decode cX4_calf 30 = .ok (.iload_n 1, 1) := by decide +kernel
theorem dX4_calf_31 : decode cX4_calf 31 = .ok (.iload_n 2, 1) := by decide +kernel
theorem dX4_calf_32 : decode cX4_calf 32 = .ok (.aload_n 0, 1) := by decide +kernel
theorem dX4_calf_33 : decode cX4_calf 33 = .ok (.getfield 21, 3) := by decide +kernel
theorem dX4_calf_36 : decode cX4_calf 36 = .ok (.iload_n 1, 1) := by decide +kernel
theorem dX4_calf_37 : decode cX4_calf 37 = .ok (.invokevirtual 244, 3) := by decide +kernel
theorem dX4_calf_40 : decode cX4_calf 40 = .ok (.invokevirtual 247, 3) := by decide +kernel
theorem dX4_calf_43 : decode cX4_calf 43 = .ok (.ireturn, 1) := by decide +kernel
set_option maxRecDepth 20000 in
theorem ggX4_quarrel_X4_isNoDay : GoodIn wsX4_quarrel wsX4_isNoDay := goodIn_r _ [5, 6, 7, 4, 8] (by decide +kernel) (by decide +kernel)
set_option maxRecDepth 20000 in
theorem gX4_quarrel_X4_isNoDay : GoodIn wsX4_quarrel (va_wsS RX4 177 yX4_isNoDay wsX4_isNoDay) := goodIn_app (goodIn_of _ (by decide +kernel)) ggX4_quarrel_X4_isNoDay
set_option maxRecDepth 20000 in
theorem ggX4_quarrel_X4_isNoReading : GoodIn wsX4_quarrel wsX4_isNoReading := goodIn_r _ [11, 6, 7, 4, 8] (by decide +kernel) (by decide +kernel)
set_option maxRecDepth 20000 in
theorem gX4_quarrel_X4_isNoReading : GoodIn wsX4_quarrel (va_wsS RX4 241 yX4_isNoReading wsX4_isNoReading) := goodIn_app (goodIn_of _ (by decide +kernel)) ggX4_quarrel_X4_isNoReading
set_option maxRecDepth 20000 in
theorem ggX4_quarrel_X1_isMissing : GoodIn wsX4_quarrel wsX1_isMissing := goodIn_r _ [16, 17, 62, 63, 64, 65, 66, 67, 68, 69, 70, 71, 72] (by decide +kernel) (by decide +kernel)
set_option maxRecDepth 20000 in
theorem gX4_quarrel_X1_isMissing : GoodIn wsX4_quarrel (wsV RX4 157 RX1 yX1_isMissing wsX1_isMissing) := goodIn_app (goodIn_of _ (by decide +kernel)) ggX4_quarrel_X1_isMissing
set_option maxRecDepth 20000 in
theorem ggX4_quarrel_X1_leadUpTo : GoodIn wsX4_quarrel wsX1_leadUpTo := goodIn_r _ [21, 22, 23, 24, 15, 25, 26, 27, 28, 29, 30, 31, 32, 33, 34, 35, 36, 37, 62, 63, 64, 65, 66, 67, 68, 69, 70, 71, 72] (by decide +kernel) (by decide +kernel)
set_option maxRecDepth 20000 in
theorem gX4_quarrel_X1_leadUpTo : GoodIn wsX4_quarrel (wsV RX4 244 RX1 yX1_leadUpTo wsX1_leadUpTo) := goodIn_app (goodIn_of _ (by decide +kernel)) ggX4_quarrel_X1_leadUpTo
set_option maxRecDepth 20000 in
theorem ggX4_quarrel_X1_leadOn : GoodIn wsX4_quarrel wsX1_leadOn := goodIn_r _ [25, 26, 27, 28, 15, 29, 30, 31, 32, 33, 34, 35, 36, 37, 62, 63, 64, 65, 66, 67, 68, 69, 70, 71, 72] (by decide +kernel) (by decide +kernel)
set_option maxRecDepth 20000 in
theorem gX4_quarrel_X1_leadOn : GoodIn wsX4_quarrel (wsV RX4 187 RX1 yX1_leadOn wsX1_leadOn) := goodIn_app (goodIn_of _ (by decide +kernel)) ggX4_quarrel_X1_leadOn
set_option maxRecDepth 20000 in
theorem ggX4_quarrel_X4_calfByReading : GoodIn wsX4_quarrel wsX4_calfByReading := goodIn_r _ [42, 1, 43, 44, 45, 46, 47, 27, 28, 15, 29, 30, 31, 48, 49, 50, 51, 26, 52, 53, 54, 55, 56, 57, 58, 59, 60, 61, 62, 63, 64, 65, 66, 67, 68, 69, 70, 71, 72] (by decide +kernel) (by decide +kernel)
set_option maxRecDepth 20000 in
theorem gX4_quarrel_X4_calfByReading : GoodIn wsX4_quarrel (wsV RX4 247 RX4 yX4_calfByReading wsX4_calfByReading) := goodIn_app (goodIn_of _ (by decide +kernel)) ggX4_quarrel_X4_calfByReading
theorem dX4_quarrel_0 : decode cX4_quarrel 0 = .ok (.iload_n 1, 1) := by decide +kernel
theorem dX4_quarrel_1 : decode cX4_quarrel 1 = .ok (.invokestatic 177, 3) := by decide +kernel
theorem dX4_quarrel_4 : decode cX4_quarrel 4 = .ok (.ifCond .ne 22, 3) := by decide +kernel
theorem dX4_quarrel_7 : decode cX4_quarrel 7 = .ok (.iload_n 2, 1) := by decide +kernel
theorem dX4_quarrel_8 : decode cX4_quarrel 8 = .ok (.invokestatic 241, 3) := by decide +kernel
theorem dX4_quarrel_11 : decode cX4_quarrel 11 = .ok (.ifCond .ne 15, 3) := by decide +kernel
theorem dX4_quarrel_14 : decode cX4_quarrel 14 = .ok (.iload_n 3, 1) := by decide +kernel
theorem dX4_quarrel_15 : decode cX4_quarrel 15 = .ok (.invokestatic 241, 3) := by decide +kernel
theorem dX4_quarrel_18 : decode cX4_quarrel 18 = .ok (.ifCond .ne 8, 3) := by decide +kernel
theorem dX4_quarrel_21 : decode cX4_quarrel 21 = .ok (.iload_n 2, 1) := by decide +kernel
theorem dX4_quarrel_22 : decode cX4_quarrel 22 = .ok (.iload_n 3, 1) := by decide +kernel
theorem dX4_quarrel_23 : decode cX4_quarrel 23 = .ok (.if_icmp .ne 5, 3) := by decide +kernel
theorem dX4_quarrel_26 : decode cX4_quarrel 26 = .ok (.iconst (-1), 1) := by decide +kernel
theorem dX4_quarrel_27 : decode cX4_quarrel 27 = .ok (.ireturn, 1) := by decide +kernel
theorem dX4_quarrel_28 : decode cX4_quarrel 28 = .ok (.aload_n 0, 1) := by decide +kernel
theorem dX4_quarrel_29 : decode cX4_quarrel 29 = .ok (.getfield 21, 3) := by decide +kernel
theorem dX4_quarrel_32 : decode cX4_quarrel 32 = .ok (.invokevirtual 157, 3) := by decide +kernel
theorem dX4_quarrel_35 : decode cX4_quarrel 35 = .ok (.ifCond .eq 6, 3) := by decide +kernel
theorem dX4_quarrel_38 : decode cX4_quarrel 38 = .ok (.bipush (-4), 2) := by decide +kernel
theorem dX4_quarrel_40 : decode cX4_quarrel 40 = .ok (.ireturn, 1) := by decide +kernel
theorem dX4_quarrel_41 : decode cX4_quarrel 41 = .ok (.aload_n 0, 1) := by decide +kernel
theorem dX4_quarrel_42 : decode cX4_quarrel 42 = .ok (.getfield 21, 3) := by decide +kernel
theorem dX4_quarrel_45 : decode cX4_quarrel 45 = .ok (.iload_n 1, 1) := by decide +kernel
theorem dX4_quarrel_46 : decode cX4_quarrel 46 = .ok (.iconst 1, 1) := by decide +kernel
theorem dX4_quarrel_47 : decode cX4_quarrel 47 = .ok (.isub, 1) := by decide +kernel
theorem dX4_quarrel_48 : decode cX4_quarrel 48 = .ok (.invokevirtual 244, 3) := by decide +kernel
theorem dX4_quarrel_51 : decode cX4_quarrel 51 = .ok (.istore 4, 2) := by decide +kernel
theorem dX4_quarrel_53 : decode cX4_quarrel 53 = .ok (.iload_n 1, 1) := by decide +kernel
theorem dX4_quarrel_54 : decode cX4_quarrel 54 = .ok (.istore 5, 2) := by decide +kernel
theorem dX4_quarrel_56 : decode cX4_quarrel 56 = .ok (.iload 5, 2) := by decide +kernel
theorem dX4_quarrel_58 : decode cX4_quarrel 58 = .ok (.sipush 999, 3) := by decide +kernel
theorem dX4_quarrel_61 : decode cX4_quarrel 61 = .ok (.if_icmp .gt 47, 3) := by decide +kernel
theorem dX4_quarrel_64 : decode cX4_quarrel 64 = .ok (.iload 4, 2) := by decide +kernel
theorem dX4_quarrel_66 : decode cX4_quarrel 66 = .ok (.aload_n 0, 1) := by decide +kernel
theorem dX4_quarrel_67 : decode cX4_quarrel 67 = .ok (.getfield 21, 3) := by decide +kernel
theorem dX4_quarrel_70 : decode cX4_quarrel 70 = .ok (.iload 5, 2) := by decide +kernel
theorem dX4_quarrel_72 : decode cX4_quarrel 72 = .ok (.invokevirtual 187, 3) := by decide +kernel
theorem dX4_quarrel_75 : decode cX4_quarrel 75 = .ok (.iadd, 1) := by decide +kernel
theorem dX4_quarrel_76 : decode cX4_quarrel 76 = .ok (.istore 4, 2) := by decide +kernel
theorem dX4_quarrel_78 : decode cX4_quarrel 78 = .ok (.aload_n 0, 1) := by decide +kernel
theorem dX4_quarrel_79 : decode cX4_quarrel 79 = .ok (.iload 5, 2) := by decide +kernel
theorem dX4_quarrel_81 : decode cX4_quarrel 81 = .ok (.iload_n 2, 1) := by decide +kernel
theorem dX4_quarrel_82 : decode cX4_quarrel 82 = .ok (.iload 4, 2) := by decide +kernel
theorem dX4_quarrel_84 : decode cX4_quarrel 84 = .ok (.invokevirtual 247, 3) := by decide +kernel
theorem dX4_quarrel_87 : decode cX4_quarrel 87 = .ok (.aload_n 0, 1) := by decide +kernel
theorem dX4_quarrel_88 : decode cX4_quarrel 88 = .ok (.iload 5, 2) := by decide +kernel
theorem dX4_quarrel_90 : decode cX4_quarrel 90 = .ok (.iload_n 3, 1) := by decide +kernel
theorem dX4_quarrel_91 : decode cX4_quarrel 91 = .ok (.iload 4, 2) := by decide +kernel
theorem dX4_quarrel_93 : decode cX4_quarrel 93 = .ok (.invokevirtual 247, 3) := by decide +kernel
theorem dX4_quarrel_96 : decode cX4_quarrel 96 = .ok (.if_icmp .eq 6, 3) := by decide +kernel
theorem dX4_quarrel_99 : decode cX4_quarrel 99 = .ok (.iload 5, 2) := by decide +kernel
theorem dX4_quarrel_101 : decode cX4_quarrel 101 = .ok (.ireturn, 1) := by decide +kernel
theorem dX4_quarrel_102 : decode cX4_quarrel 102 = .ok (.iinc 5 1, 3) := by decide +kernel
theorem dX4_quarrel_105 : decode cX4_quarrel 105 = .ok (.goto (-49), 3) := by decide +kernel
theorem dX4_quarrel_108 : decode cX4_quarrel 108 = .ok (.bipush (-9), 2) := by decide +kernel
theorem dX4_quarrel_110 : decode cX4_quarrel 110 = .ok (.ireturn, 1) := by decide +kernel
set_option maxRecDepth 20000 in
theorem ggX4_bill_X4_outside : GoodIn wsX4_bill wsX4_outside := goodIn_r _ [6] (by decide +kernel) (by decide +kernel)
set_option maxRecDepth 20000 in
theorem gX4_bill_X4_outside : GoodIn wsX4_bill (va_wsS RX4 120 yX4_outside wsX4_outside) := goodIn_app (goodIn_of _ (by decide +kernel)) ggX4_bill_X4_outside
set_option maxRecDepth 20000 in
theorem ggX4_bill_X4_isNoDay : GoodIn wsX4_bill wsX4_isNoDay := goodIn_r _ [9, 3, 4, 5, 6] (by decide +kernel) (by decide +kernel)
set_option maxRecDepth 20000 in
theorem gX4_bill_X4_isNoDay : GoodIn wsX4_bill (va_wsS RX4 177 yX4_isNoDay wsX4_isNoDay) := goodIn_app (goodIn_of _ (by decide +kernel)) ggX4_bill_X4_isNoDay
set_option maxRecDepth 20000 in
theorem ggX4_bill_X1_isMissing : GoodIn wsX4_bill wsX1_isMissing := goodIn_r _ [14, 15, 51, 52, 53, 54, 55, 56, 57, 58, 59, 60, 61] (by decide +kernel) (by decide +kernel)
set_option maxRecDepth 20000 in
theorem gX4_bill_X1_isMissing : GoodIn wsX4_bill (wsV RX4 157 RX1 yX1_isMissing wsX1_isMissing) := goodIn_app (goodIn_of _ (by decide +kernel)) ggX4_bill_X1_isMissing
set_option maxRecDepth 20000 in
theorem ggX4_bill_X1_milkOf : GoodIn wsX4_bill wsX1_milkOf := goodIn_r _ [19, 20, 21, 22, 13, 23, 24, 25, 26, 27, 28, 29, 30, 31, 51, 52, 53, 54, 55, 56, 57, 58, 59, 60, 61] (by decide +kernel) (by decide +kernel)
set_option maxRecDepth 20000 in
theorem gX4_bill_X1_milkOf : GoodIn wsX4_bill (wsV RX4 183 RX1 yX1_milkOf wsX1_milkOf) := goodIn_app (goodIn_of _ (by decide +kernel)) ggX4_bill_X1_milkOf
set_option maxRecDepth 20000 in
theorem ggX4_bill_X4_tellPart : GoodIn wsX4_bill wsX4_tellPart := goodIn_r _ [35, 36, 37, 38, 39, 5, 40, 41, 42, 43, 44, 45, 46, 47, 48, 49, 50] (by decide +kernel) (by decide +kernel)
set_option maxRecDepth 20000 in
theorem gX4_bill_X4_tellPart : GoodIn wsX4_bill (wsV RX4 252 RX4 yX4_tellPart wsX4_tellPart) := goodIn_app (goodIn_of _ (by decide +kernel)) ggX4_bill_X4_tellPart
theorem dX4_bill_0 : decode cX4_bill 0 = .ok (.iload_n 1, 1) := by decide +kernel
theorem dX4_bill_1 : decode cX4_bill 1 = .ok (.iconst 1, 1) := by decide +kernel
theorem dX4_bill_2 : decode cX4_bill 2 = .ok (.sipush 9999, 3) := by decide +kernel
theorem dX4_bill_5 : decode cX4_bill 5 = .ok (.invokestatic 120, 3) := by decide +kernel
theorem dX4_bill_8 : decode cX4_bill 8 = .ok (.ifCond .ne 10, 3) := by decide +kernel
theorem dX4_bill_11 : decode cX4_bill 11 = .ok (.iload_n 2, 1) := by decide +kernel
theorem dX4_bill_12 : decode cX4_bill 12 = .ok (.invokestatic 177, 3) := by decide +kernel
theorem dX4_bill_15 : decode cX4_bill 15 = .ok (.ifCond .eq 5, 3) := by decide +kernel
theorem dX4_bill_18 : decode cX4_bill 18 = .ok (.iconst (-1), 1) := by decide +kernel
theorem dX4_bill_19 : decode cX4_bill 19 = .ok (.ireturn, 1) := by decide +kernel
theorem dX4_bill_20 : decode cX4_bill 20 = .ok (.aload_n 0, 1) := by decide +kernel
theorem dX4_bill_21 : decode cX4_bill 21 = .ok (.getfield 21, 3) := by decide +kernel
theorem dX4_bill_24 : decode cX4_bill 24 = .ok (.invokevirtual 157, 3) := by decide +kernel
theorem dX4_bill_27 : decode cX4_bill 27 = .ok (.ifCond .eq 6, 3) := by decide +kernel
theorem dX4_bill_30 : decode cX4_bill 30 = .ok (.bipush (-4), 2) := by decide +kernel
theorem dX4_bill_32 : decode cX4_bill 32 = .ok (.ireturn, 1) := by decide +kernel
theorem dX4_bill_33 : decode cX4_bill 33 = .ok (.aload_n 0, 1) := by decide +kernel
theorem dX4_bill_34 : decode cX4_bill 34 = .ok (.getfield 21, 3) := by decide +kernel
theorem dX4_bill_37 : decode cX4_bill 37 = .ok (.iconst 0, 1) := by decide +kernel
theorem dX4_bill_38 : decode cX4_bill 38 = .ok (.iconst 0, 1) := by decide +kernel
theorem dX4_bill_39 : decode cX4_bill 39 = .ok (.iload_n 2, 1) := by decide +kernel
theorem dX4_bill_40 : decode cX4_bill 40 = .ok (.invokevirtual 183, 3) := by decide +kernel
theorem dX4_bill_43 : decode cX4_bill 43 = .ok (.istore_n 3, 1) := by decide +kernel
theorem dX4_bill_44 : decode cX4_bill 44 = .ok (.iload_n 3, 1) := by decide +kernel
theorem dX4_bill_45 : decode cX4_bill 45 = .ok (.aload_n 0, 1) := by decide +kernel
theorem dX4_bill_46 : decode cX4_bill 46 = .ok (.getfield 21, 3) := by decide +kernel
theorem dX4_bill_49 : decode cX4_bill 49 = .ok (.iconst 1, 1) := by decide +kernel
theorem dX4_bill_50 : decode cX4_bill 50 = .ok (.iconst 0, 1) := by decide +kernel
theorem dX4_bill_51 : decode cX4_bill 51 = .ok (.iload_n 2, 1) := by decide +kernel
theorem dX4_bill_52 : decode cX4_bill 52 = .ok (.invokevirtual 183, 3) := by decide +kernel
theorem dX4_bill_55 : decode cX4_bill 55 = .ok (.iadd, 1) := by decide +kernel
theorem dX4_bill_56 : decode cX4_bill 56 = .ok (.istore 4, 2) := by decide +kernel
theorem dX4_bill_58 : decode cX4_bill 58 = .ok (.iload 4, 2) := by decide +kernel
theorem dX4_bill_60 : decode cX4_bill 60 = .ok (.ifCond .ne 15, 3) := by decide +kernel
theorem dX4_bill_63 : decode cX4_bill 63 = .ok (.aload_n 0, 1) := by decide +kernel
theorem dX4_bill_64 : decode cX4_bill 64 = .ok (.iload_n 1, 1) := by decide +kernel
theorem dX4_bill_65 : decode cX4_bill 65 = .ok (.i2l, 1) := by decide +kernel
theorem dX4_bill_66 : decode cX4_bill 66 = .ok (.ldc2_w 250, 3) := by decide +kernel
theorem dX4_bill_69 : decode cX4_bill 69 = .ok (.invokevirtual 252, 3) := by decide +kernel
theorem dX4_bill_72 : decode cX4_bill 72 = .ok (.goto 15, 3) := by decide +kernel
theorem dX4_bill_75 : decode cX4_bill 75 = .ok (.aload_n 0, 1) := by decide +kernel
theorem dX4_bill_76 : decode cX4_bill 76 = .ok (.iload_n 1, 1) := by decide +kernel
theorem dX4_bill_77 : decode cX4_bill 77 = .ok (.i2l, 1) := by decide +kernel
theorem dX4_bill_78 : decode cX4_bill 78 = .ok (.iload_n 3, 1) := by decide +kernel
theorem dX4_bill_79 : decode cX4_bill 79 = .ok (.i2l, 1) := by decide +kernel
theorem dX4_bill_80 : decode cX4_bill 80 = .ok (.lmul, 1) := by decide +kernel
theorem dX4_bill_81 : decode cX4_bill 81 = .ok (.iload 4, 2) := by decide +kernel
theorem dX4_bill_83 : decode cX4_bill 83 = .ok (.i2l, 1) := by decide +kernel
theorem dX4_bill_84 : decode cX4_bill 84 = .ok (.invokevirtual 252, 3) := by decide +kernel
theorem dX4_bill_87 : decode cX4_bill 87 = .ok (.iconst 1, 1) := by decide +kernel
theorem dX4_bill_88 : decode cX4_bill 88 = .ok (.ireturn, 1) := by decide +kernel
set_option maxRecDepth 20000 in
theorem ggX4_fits_X4_isNone : GoodIn wsX4_fits wsX4_isNone := goodIn_r _ [6] (by decide +kernel) (by decide +kernel)
set_option maxRecDepth 20000 in
theorem gX4_fits_X4_isNone : GoodIn wsX4_fits (va_wsS RX4 55 yX4_isNone wsX4_isNone) := goodIn_app (goodIn_of _ (by decide +kernel)) ggX4_fits_X4_isNone
set_option maxRecDepth 20000 in
theorem ggX4_fits_X4_outside : GoodIn wsX4_fits wsX4_outside := goodIn_r _ [9] (by decide +kernel) (by decide +kernel)
set_option maxRecDepth 20000 in
theorem gX4_fits_X4_outside : GoodIn wsX4_fits (va_wsS RX4 120 yX4_outside wsX4_outside) := goodIn_app (goodIn_of _ (by decide +kernel)) ggX4_fits_X4_outside
set_option maxRecDepth 20000 in
theorem ggX4_fits_X4_findingOfBook : GoodIn wsX4_fits wsX4_findingOfBook := goodIn_r _ [12, 13, 14, 15, 16, 17, 18, 19, 20, 21, 22, 5, 23, 7, 8, 9, 24, 25, 26, 62, 63] (by decide +kernel) (by decide +kernel)
set_option maxRecDepth 20000 in
theorem gX4_fits_X4_findingOfBook : GoodIn wsX4_fits (va_wsS RX4 256 yX4_findingOfBook wsX4_findingOfBook) := goodIn_app (goodIn_of _ (by decide +kernel)) ggX4_fits_X4_findingOfBook
set_option maxRecDepth 20000 in
theorem ggX4_fits_X4_refuse : GoodIn wsX4_fits wsX4_refuse := goodIn_r _ [30, 31, 32, 3, 4, 5, 6, 52, 53, 54, 55, 56, 57, 58, 59, 60, 61] (by decide +kernel) (by decide +kernel)
set_option maxRecDepth 20000 in
theorem gX4_fits_X4_refuse : GoodIn wsX4_fits (wsV RX4 70 RX4 yX4_refuse wsX4_refuse) := goodIn_app (goodIn_of _ (by decide +kernel)) ggX4_fits_X4_refuse
set_option maxRecDepth 20000 in
theorem ggX4_fits_X4_turnsInBook : GoodIn wsX4_fits wsX4_turnsInBook := goodIn_r _ [35, 13, 14, 62, 63] (by decide +kernel) (by decide +kernel)
set_option maxRecDepth 20000 in
theorem gX4_fits_X4_turnsInBook : GoodIn wsX4_fits (va_wsS RX4 259 yX4_turnsInBook wsX4_turnsInBook) := goodIn_app (goodIn_of _ (by decide +kernel)) ggX4_fits_X4_turnsInBook
set_option maxRecDepth 20000 in
theorem ggX4_fits_X4_tellPart : GoodIn wsX4_fits wsX4_tellPart := goodIn_r _ [39, 40, 41, 42, 43, 5, 44, 52, 53, 54, 55, 56, 57, 58, 59, 60, 61] (by decide +kernel) (by decide +kernel)
set_option maxRecDepth 20000 in
theorem gX4_fits_X4_tellPart : GoodIn wsX4_fits (wsV RX4 252 RX4 yX4_tellPart wsX4_tellPart) := goodIn_app (goodIn_of _ (by decide +kernel)) ggX4_fits_X4_tellPart
set_option maxRecDepth 20000 in
theorem ggX4_fits_J6_bitCount_0f7a4 : GoodIn wsX4_fits wsJ6_bitCount_0f7a4 := goodIn_r _ [48, 49, 50, 51] (by decide +kernel) (by decide +kernel)
set_option maxRecDepth 20000 in
theorem gX4_fits_J6_bitCount_0f7a4 : GoodIn wsX4_fits (va_wsS RX4 213 yJ6_bitCount_0f7a4 wsJ6_bitCount_0f7a4) := goodIn_app (goodIn_of _ (by decide +kernel)) ggX4_fits_J6_bitCount_0f7a4
theorem dX4_fits_0 : decode cX4_fits 0 = .ok (.iload_n 1, 1) := by decide +kernel
theorem dX4_fits_1 : decode cX4_fits 1 = .ok (.bipush 6, 2) := by decide +kernel
theorem dX4_fits_3 : decode cX4_fits 3 = .ok (.invokestatic 55, 3) := by decide +kernel
theorem dX4_fits_6 : decode cX4_fits 6 = .ok (.ifCond .ne 13, 3) := by decide +kernel
theorem dX4_fits_9 : decode cX4_fits 9 = .ok (.iload_n 2, 1) := by decide +kernel
theorem dX4_fits_10 : decode cX4_fits 10 = .ok (.iconst 1, 1) := by decide +kernel
theorem dX4_fits_11 : decode cX4_fits 11 = .ok (.bipush 8, 2) := by decide +kernel
theorem dX4_fits_13 : decode cX4_fits 13 = .ok (.invokestatic 120, 3) := by decide +kernel
theorem dX4_fits_16 : decode cX4_fits 16 = .ok (.ifCond .eq 5, 3) := by decide +kernel
theorem dX4_fits_19 : decode cX4_fits 19 = .ok (.iconst (-1), 1) := by decide +kernel
theorem dX4_fits_20 : decode cX4_fits 20 = .ok (.ireturn, 1) := by decide +kernel
theorem dX4_fits_21 : decode cX4_fits 21 = .ok (.aload_n 0, 1) := by decide +kernel
theorem dX4_fits_22 : decode cX4_fits 22 = .ok (.getfield 11, 3) := by decide +kernel
theorem dX4_fits_25 : decode cX4_fits 25 = .ok (.iload_n 1, 1) := by decide +kernel
theorem dX4_fits_26 : decode cX4_fits 26 = .ok (.aaload, 1) := by decide +kernel
theorem dX4_fits_27 : decode cX4_fits 27 = .ok (.invokestatic 256, 3) := by decide +kernel
theorem dX4_fits_30 : decode cX4_fits 30 = .ok (.istore_n 3, 1) := by decide +kernel
theorem dX4_fits_31 : decode cX4_fits 31 = .ok (.iload_n 3, 1) := by decide +kernel
theorem dX4_fits_32 : decode cX4_fits 32 = .ok (.ifCond .eq 9, 3) := by decide +kernel
theorem dX4_fits_35 : decode cX4_fits 35 = .ok (.aload_n 0, 1) := by decide +kernel
theorem dX4_fits_36 : decode cX4_fits 36 = .ok (.iload_n 3, 1) := by decide +kernel
theorem dX4_fits_37 : decode cX4_fits 37 = .ok (.invokevirtual 70, 3) := by decide +kernel
theorem dX4_fits_40 : decode cX4_fits 40 = .ok (.ireturn, 1) := by decide +kernel
theorem dX4_fits_41 : decode cX4_fits 41 = .ok (.aload_n 0, 1) := by decide +kernel
theorem dX4_fits_42 : decode cX4_fits 42 = .ok (.getfield 11, 3) := by decide +kernel
theorem dX4_fits_45 : decode cX4_fits 45 = .ok (.iload_n 1, 1) := by decide +kernel
theorem dX4_fits_46 : decode cX4_fits 46 = .ok (.aaload, 1) := by decide +kernel
theorem dX4_fits_47 : decode cX4_fits 47 = .ok (.iload_n 2, 1) := by decide +kernel
theorem dX4_fits_48 : decode cX4_fits 48 = .ok (.iconst 0, 1) := by decide +kernel
theorem dX4_fits_49 : decode cX4_fits 49 = .ok (.invokestatic 259, 3) := by decide +kernel
theorem dX4_fits_52 : decode cX4_fits 52 = .ok (.istore 4, 2) := by decide +kernel
theorem dX4_fits_54 : decode cX4_fits 54 = .ok (.aload_n 0, 1) := by decide +kernel
theorem dX4_fits_55 : decode cX4_fits 55 = .ok (.getfield 11, 3) := by decide +kernel
theorem dX4_fits_58 : decode cX4_fits 58 = .ok (.iload_n 1, 1) := by decide +kernel
theorem dX4_fits_59 : decode cX4_fits 59 = .ok (.aaload, 1) := by decide +kernel
theorem dX4_fits_60 : decode cX4_fits 60 = .ok (.iload_n 2, 1) := by decide +kernel
theorem dX4_fits_61 : decode cX4_fits 61 = .ok (.iconst 1, 1) := by decide +kernel
theorem dX4_fits_62 : decode cX4_fits 62 = .ok (.invokestatic 259, 3) := by decide +kernel
theorem dX4_fits_65 : decode cX4_fits 65 = .ok (.istore 5, 2) := by decide +kernel
theorem dX4_fits_67 : decode cX4_fits 67 = .ok (.iload 4, 2) := by decide +kernel
theorem dX4_fits_69 : decode cX4_fits 69 = .ok (.iload 5, 2) := by decide +kernel
theorem dX4_fits_71 : decode cX4_fits 71 = .ok (.iand, 1) := by decide +kernel
theorem dX4_fits_72 : decode cX4_fits 72 = .ok (.ifCond .eq 18, 3) := by decide +kernel
theorem dX4_fits_75 : decode cX4_fits 75 = .ok (.aload_n 0, 1) := by decide +kernel
theorem dX4_fits_76 : decode cX4_fits 76 = .ok (.bipush (-9), 2) := by decide +kernel
theorem dX4_fits_78 : decode cX4_fits 78 = .ok (.putfield 74, 3) := by decide +kernel
theorem dX4_fits_81 : decode cX4_fits 81 = .ok (.aload_n 0, 1) := by decide +kernel
theorem dX4_fits_82 : decode cX4_fits 82 = .ok (.lconst 0, 1) := by decide +kernel
theorem dX4_fits_83 : decode cX4_fits 83 = .ok (.lconst 1, 1) := by decide +kernel
theorem dX4_fits_84 : decode cX4_fits 84 = .ok (.invokevirtual 252, 3) := by decide +kernel
theorem dX4_fits_87 : decode cX4_fits 87 = .ok (.goto 26, 3) := by decide +kernel
theorem dX4_fits_90 : decode cX4_fits 90 = .ok (.aload_n 0, 1) := by decide +kernel
theorem dX4_fits_91 : decode cX4_fits 91 = .ok (.iload 5, 2) := by decide +kernel
theorem dX4_fits_93 : decode cX4_fits 93 = .ok (.putfield 74, 3) := by decide +kernel
theorem dX4_fits_96 : decode cX4_fits 96 = .ok (.aload_n 0, 1) := by decide +kernel
theorem dX4_fits_97 : decode cX4_fits 97 = .ok (.lconst 1, 1) := by decide +kernel
theorem dX4_fits_98 : decode cX4_fits 98 = .ok (.iload_n 2, 1) := by decide +kernel
theorem dX4_fits_99 : decode cX4_fits 99 = .ok (.iload 4, 2) := by decide +kernel
theorem dX4_fits_101 : decode cX4_fits 101 = .ok (.iload 5, 2) := by decide +kernel
theorem dX4_fits_103 : decode cX4_fits 103 = .ok (.ior, 1) := by decide +kernel
theorem dX4_fits_104 : decode cX4_fits 104 = .ok (.invokestatic 213, 3) := by decide +kernel
theorem dX4_fits_107 : decode cX4_fits 107 = .ok (.isub, 1) := by decide +kernel
theorem dX4_fits_108 : decode cX4_fits 108 = .ok (.lshl, 1) := by decide +kernel
theorem dX4_fits_109 : decode cX4_fits 109 = .ok (.lconst 1, 1) := by decide +kernel
theorem dX4_fits_110 : decode cX4_fits 110 = .ok (.invokevirtual 252, 3) := by decide +kernel
theorem dX4_fits_113 : decode cX4_fits 113 = .ok (.iconst 1, 1) := by decide +kernel
theorem dX4_fits_114 : decode cX4_fits 114 = .ok (.ireturn, 1) := by decide +kernel
set_option maxRecDepth 20000 in
theorem ggX4_sure_X4_isNone : GoodIn wsX4_sure wsX4_isNone := goodIn_r _ [5] (by decide +kernel) (by decide +kernel)
set_option maxRecDepth 20000 in
theorem gX4_sure_X4_isNone : GoodIn wsX4_sure (va_wsS RX4 55 yX4_isNone wsX4_isNone) := goodIn_app (goodIn_of _ (by decide +kernel)) ggX4_sure_X4_isNone
set_option maxRecDepth 20000 in
theorem ggX4_sure_X4_outside : GoodIn wsX4_sure wsX4_outside := goodIn_r _ [8] (by decide +kernel) (by decide +kernel)
set_option maxRecDepth 20000 in
theorem gX4_sure_X4_outside : GoodIn wsX4_sure (va_wsS RX4 120 yX4_outside wsX4_outside) := goodIn_app (goodIn_of _ (by decide +kernel)) ggX4_sure_X4_outside
set_option maxRecDepth 20000 in
theorem ggX4_sure_X4_isNoDay : GoodIn wsX4_sure wsX4_isNoDay := goodIn_r _ [11, 6, 7, 4, 8] (by decide +kernel) (by decide +kernel)
set_option maxRecDepth 20000 in
theorem gX4_sure_X4_isNoDay : GoodIn wsX4_sure (va_wsS RX4 177 yX4_isNoDay wsX4_isNoDay) := goodIn_app (goodIn_of _ (by decide +kernel)) ggX4_sure_X4_isNoDay
set_option maxRecDepth 20000 in
theorem ggX4_sure_X4_findingOfBook : GoodIn wsX4_sure wsX4_findingOfBook := goodIn_r _ [14, 15, 16, 17, 18, 19, 20, 21, 22, 9, 10, 4, 11, 6, 7, 8, 23, 24, 25, 45, 46] (by decide +kernel) (by decide +kernel)
set_option maxRecDepth 20000 in
theorem gX4_sure_X4_findingOfBook : GoodIn wsX4_sure (va_wsS RX4 256 yX4_findingOfBook wsX4_findingOfBook) := goodIn_app (goodIn_of _ (by decide +kernel)) ggX4_sure_X4_findingOfBook
set_option maxRecDepth 20000 in
theorem ggX4_sure_X4_refuse : GoodIn wsX4_sure wsX4_refuse := goodIn_r _ [29, 30, 31, 2, 3, 4, 5, 35, 36, 37, 38, 39, 40, 41, 42, 43, 44] (by decide +kernel) (by decide +kernel)
set_option maxRecDepth 20000 in
theorem gX4_sure_X4_refuse : GoodIn wsX4_sure (wsV RX4 70 RX4 yX4_refuse wsX4_refuse) := goodIn_app (goodIn_of _ (by decide +kernel)) ggX4_sure_X4_refuse
set_option maxRecDepth 20000 in
theorem ggX4_sure_X4_turnsInBook : GoodIn wsX4_sure wsX4_turnsInBook := goodIn_r _ [34, 15, 16, 45, 46] (by decide +kernel) (by decide +kernel)
set_option maxRecDepth 20000 in
theorem gX4_sure_X4_turnsInBook : GoodIn wsX4_sure (va_wsS RX4 259 yX4_turnsInBook wsX4_turnsInBook) := goodIn_app (goodIn_of _ (by decide +kernel)) ggX4_sure_X4_turnsInBook
theorem dX4_sure_0 : decode cX4_sure 0 = .ok (.iload_n 1, 1) := by decide +kernel
theorem dX4_sure_1 : decode cX4_sure 1 = .ok (.bipush 6, 2) := by decide +kernel
theorem dX4_sure_3 : decode cX4_sure 3 = .ok (.invokestatic 55, 3) := by decide +kernel
theorem dX4_sure_6 : decode cX4_sure 6 = .ok (.ifCond .ne 20, 3) := by decide +kernel
theorem dX4_sure_9 : decode cX4_sure 9 = .ok (.iload_n 2, 1) := by decide +kernel
theorem dX4_sure_10 : decode cX4_sure 10 = .ok (.iconst 1, 1) := by decide +kernel
theorem dX4_sure_11 : decode cX4_sure 11 = .ok (.bipush 8, 2) := by decide +kernel
theorem dX4_sure_13 : decode cX4_sure 13 = .ok (.invokestatic 120, 3) := by decide +kernel
theorem dX4_sure_16 : decode cX4_sure 16 = .ok (.ifCond .ne 10, 3) := by decide +kernel
theorem dX4_sure_19 : decode cX4_sure 19 = .ok (.iload_n 3, 1) := by decide +kernel
theorem dX4_sure_20 : decode cX4_sure 20 = .ok (.invokestatic 177, 3) := by decide +kernel
theorem dX4_sure_23 : decode cX4_sure 23 = .ok (.ifCond .eq 5, 3) := by decide +kernel
theorem dX4_sure_26 : decode cX4_sure 26 = .ok (.iconst (-1), 1) := by decide +kernel
theorem dX4_sure_27 : decode cX4_sure 27 = .ok (.ireturn, 1) := by decide +kernel
theorem dX4_sure_28 : decode cX4_sure 28 = .ok (.aload_n 0, 1) := by decide +kernel
theorem dX4_sure_29 : decode cX4_sure 29 = .ok (.getfield 11, 3) := by decide +kernel
theorem dX4_sure_32 : decode cX4_sure 32 = .ok (.iload_n 1, 1) := by decide +kernel
theorem dX4_sure_33 : decode cX4_sure 33 = .ok (.aaload, 1) := by decide +kernel
theorem dX4_sure_34 : decode cX4_sure 34 = .ok (.invokestatic 256, 3) := by decide +kernel
theorem dX4_sure_37 : decode cX4_sure 37 = .ok (.istore 4, 2) := by decide +kernel
theorem dX4_sure_39 : decode cX4_sure 39 = .ok (.iload 4, 2) := by decide +kernel
theorem dX4_sure_41 : decode cX4_sure 41 = .ok (.ifCond .eq 10, 3) := by decide +kernel
theorem dX4_sure_44 : decode cX4_sure 44 = .ok (.aload_n 0, 1) := by decide +kernel
theorem dX4_sure_45 : decode cX4_sure 45 = .ok (.iload 4, 2) := by decide +kernel
theorem dX4_sure_47 : decode cX4_sure 47 = .ok (.invokevirtual 70, 3) := by decide +kernel
theorem dX4_sure_50 : decode cX4_sure 50 = .ok (.ireturn, 1) := by decide +kernel
theorem dX4_sure_51 : decode cX4_sure 51 = .ok (.aload_n 0, 1) := by decide +kernel
theorem dX4_sure_52 : decode cX4_sure 52 = .ok (.getfield 11, 3) := by decide +kernel
theorem dX4_sure_55 : decode cX4_sure 55 = .ok (.iload_n 1, 1) := by decide +kernel
theorem dX4_sure_56 : decode cX4_sure 56 = .ok (.aaload, 1) := by decide +kernel
theorem dX4_sure_57 : decode cX4_sure 57 = .ok (.iload_n 2, 1) := by decide +kernel
theorem dX4_sure_58 : decode cX4_sure 58 = .ok (.iconst 0, 1) := by decide +kernel
theorem dX4_sure_59 : decode cX4_sure 59 = .ok (.invokestatic 259, 3) := by decide +kernel
theorem dX4_sure_62 : decode cX4_sure 62 = .ok (.istore 5, 2) := by decide +kernel
theorem dX4_sure_64 : decode cX4_sure 64 = .ok (.aload_n 0, 1) := by decide +kernel
theorem dX4_sure_65 : decode cX4_sure 65 = .ok (.getfield 11, 3) := by decide +kernel
theorem dX4_sure_68 : decode cX4_sure 68 = .ok (.iload_n 1, 1) := by decide +kernel
theorem dX4_sure_69 : decode cX4_sure 69 = .ok (.aaload, 1) := by decide +kernel
theorem dX4_sure_70 : decode cX4_sure 70 = .ok (.iload_n 2, 1) := by decide +kernel
theorem dX4_sure_71 : decode cX4_sure 71 = .ok (.iconst 1, 1) := by decide +kernel
theorem dX4_sure_72 : decode cX4_sure 72 = .ok (.invokestatic 259, 3) := by decide +kernel
theorem dX4_sure_75 : decode cX4_sure 75 = .ok (.istore 6, 2) := by decide +kernel
theorem dX4_sure_77 : decode cX4_sure 77 = .ok (.iconst 1, 1) := by decide +kernel
theorem dX4_sure_78 : decode cX4_sure 78 = .ok (.iload_n 3, 1) := by decide +kernel
theorem dX4_sure_79 : decode cX4_sure 79 = .ok (.iload_n 2, 1) := by decide +kernel
theorem dX4_sure_80 : decode cX4_sure 80 = .ok (.irem, 1) := by decide +kernel
theorem dX4_sure_81 : decode cX4_sure 81 = .ok (.ishl, 1) := by decide +kernel
theorem dX4_sure_82 : decode cX4_sure 82 = .ok (.istore 7, 2) := by decide +kernel
theorem dX4_sure_84 : decode cX4_sure 84 = .ok (.iload 5, 2) := by decide +kernel
theorem dX4_sure_86 : decode cX4_sure 86 = .ok (.iload 6, 2) := by decide +kernel
theorem dX4_sure_88 : decode cX4_sure 88 = .ok (.iand, 1) := by decide +kernel
theorem dX4_sure_89 : decode cX4_sure 89 = .ok (.ifCond .ne 14, 3) := by decide +kernel
theorem dX4_sure_92 : decode cX4_sure 92 = .ok (.iload 5, 2) := by decide +kernel
theorem dX4_sure_94 : decode cX4_sure 94 = .ok (.iload 6, 2) := by decide +kernel
theorem dX4_sure_96 : decode cX4_sure 96 = .ok (.ior, 1) := by decide +kernel
theorem dX4_sure_97 : decode cX4_sure 97 = .ok (.iload 7, 2) := by decide +kernel
theorem dX4_sure_99 : decode cX4_sure 99 = .ok (.iand, 1) := by decide +kernel
theorem dX4_sure_100 : decode cX4_sure 100 = .ok (.ifCond .ne 6, 3) := by decide +kernel
theorem dX4_sure_103 : decode cX4_sure 103 = .ok (.bipush (-9), 2) := by decide +kernel
theorem dX4_sure_105 : decode cX4_sure 105 = .ok (.ireturn, 1) := by decide +kernel
theorem dX4_sure_106 : decode cX4_sure 106 = .ok (.iload 6, 2) := by decide +kernel
theorem dX4_sure_108 : decode cX4_sure 108 = .ok (.iload 7, 2) := by decide +kernel
theorem dX4_sure_110 : decode cX4_sure 110 = .ok (.iand, 1) := by decide +kernel
theorem dX4_sure_111 : decode cX4_sure 111 = .ok (.ifCond .eq 7, 3) := by decide +kernel
theorem dX4_sure_114 : decode cX4_sure 114 = .ok (.iconst 1, 1) := by decide +kernel
theorem dX4_sure_115 : decode cX4_sure 115 = .ok (.goto 4, 3) := by decide +kernel
theorem dX4_sure_118 : decode cX4_sure 118 = .ok (.iconst 0, 1) := by decide +kernel
theorem dX4_sure_119 : decode cX4_sure 119 = .ok (.ireturn, 1) := by decide +kernel
set_option maxRecDepth 20000 in
theorem ggX4_odds_X4_isNoFarm : GoodIn wsX4_odds wsX4_isNoFarm := goodIn_r _ [7, 8, 9, 6, 10] (by decide +kernel) (by decide +kernel)
set_option maxRecDepth 20000 in
theorem gX4_odds_X4_isNoFarm : GoodIn wsX4_odds (va_wsS RX4 148 yX4_isNoFarm wsX4_isNoFarm) := goodIn_app (goodIn_of _ (by decide +kernel)) ggX4_odds_X4_isNoFarm
set_option maxRecDepth 20000 in
theorem ggX4_odds_X4_outside : GoodIn wsX4_odds wsX4_outside := goodIn_r _ [10] (by decide +kernel) (by decide +kernel)
set_option maxRecDepth 20000 in
theorem gX4_odds_X4_outside : GoodIn wsX4_odds (va_wsS RX4 120 yX4_outside wsX4_outside) := goodIn_app (goodIn_of _ (by decide +kernel)) ggX4_odds_X4_outside
set_option maxRecDepth 20000 in
theorem ggX4_odds_X1_isMissing : GoodIn wsX4_odds wsX1_isMissing := goodIn_r _ [15, 16, 42, 43, 44, 45, 46, 47, 48, 49, 50, 51, 52] (by decide +kernel) (by decide +kernel)
set_option maxRecDepth 20000 in
theorem gX4_odds_X1_isMissing : GoodIn wsX4_odds (wsV RX4 157 RX1 yX1_isMissing wsX1_isMissing) := goodIn_app (goodIn_of _ (by decide +kernel)) ggX4_odds_X1_isMissing
set_option maxRecDepth 20000 in
theorem ggX4_odds_X1_farmOn : GoodIn wsX4_odds wsX1_farmOn := goodIn_r _ [20, 21, 22, 42, 43, 44, 45, 46, 47, 48, 49, 50, 51, 52] (by decide +kernel) (by decide +kernel)
set_option maxRecDepth 20000 in
theorem gX4_odds_X1_farmOn : GoodIn wsX4_odds (wsV RX4 180 RX1 yX1_farmOn wsX1_farmOn) := goodIn_app (goodIn_of _ (by decide +kernel)) ggX4_odds_X1_farmOn
set_option maxRecDepth 20000 in
theorem ggX4_odds_X4_tellPart : GoodIn wsX4_odds wsX4_tellPart := goodIn_r _ [26, 27, 28, 29, 30, 6, 31, 32, 33, 34, 35, 36, 37, 38, 39, 40, 41] (by decide +kernel) (by decide +kernel)
set_option maxRecDepth 20000 in
theorem gX4_odds_X4_tellPart : GoodIn wsX4_odds (wsV RX4 252 RX4 yX4_tellPart wsX4_tellPart) := goodIn_app (goodIn_of _ (by decide +kernel)) ggX4_odds_X4_tellPart
theorem dX4_odds_0 : decode cX4_odds 0 = .ok (.iload_n 1, 1) := by decide +kernel
theorem dX4_odds_1 : decode cX4_odds 1 = .ok (.invokestatic 148, 3) := by decide +kernel
theorem dX4_odds_4 : decode cX4_odds 4 = .ok (.ifCond .ne 23, 3) := by decide +kernel
theorem dX4_odds_7 : decode cX4_odds 7 = .ok (.iload_n 2, 1) := by decide +kernel
theorem dX4_odds_8 : decode cX4_odds 8 = .ok (.iconst 0, 1) := by decide +kernel
theorem dX4_odds_9 : decode cX4_odds 9 = .ok (.bipush 8, 2) := by decide +kernel
theorem dX4_odds_11 : decode cX4_odds 11 = .ok (.invokestatic 120, 3) := by decide +kernel
theorem dX4_odds_14 : decode cX4_odds 14 = .ok (.ifCond .ne 13, 3) := by decide +kernel
theorem dX4_odds_17 : decode cX4_odds 17 = .ok (.iload_n 3, 1) := by decide +kernel
theorem dX4_odds_18 : decode cX4_odds 18 = .ok (.iconst 0, 1) := by decide +kernel
theorem dX4_odds_19 : decode cX4_odds 19 = .ok (.bipush 12, 2) := by decide +kernel
theorem dX4_odds_21 : decode cX4_odds 21 = .ok (.invokestatic 120, 3) := by decide +kernel
theorem dX4_odds_24 : decode cX4_odds 24 = .ok (.ifCond .eq 5, 3) := by decide +kernel
theorem dX4_odds_27 : decode cX4_odds 27 = .ok (.iconst (-1), 1) := by decide +kernel
theorem dX4_odds_28 : decode cX4_odds 28 = .ok (.ireturn, 1) := by decide +kernel
theorem dX4_odds_29 : decode cX4_odds 29 = .ok (.aload_n 0, 1) := by decide +kernel
theorem dX4_odds_30 : decode cX4_odds 30 = .ok (.getfield 21, 3) := by decide +kernel
theorem dX4_odds_33 : decode cX4_odds 33 = .ok (.invokevirtual 157, 3) := by decide +kernel
theorem dX4_odds_36 : decode cX4_odds 36 = .ok (.ifCond .eq 6, 3) := by decide +kernel
theorem dX4_odds_39 : decode cX4_odds 39 = .ok (.bipush (-4), 2) := by decide +kernel
theorem dX4_odds_41 : decode cX4_odds 41 = .ok (.ireturn, 1) := by decide +kernel
theorem dX4_odds_42 : decode cX4_odds 42 = .ok (.lconst 0, 1) := by decide +kernel
theorem dX4_odds_43 : decode cX4_odds 43 = .ok (.lstore 4, 2) := by decide +kernel
theorem dX4_odds_45 : decode cX4_odds 45 = .ok (.lconst 1, 1) := by decide +kernel
theorem dX4_odds_46 : decode cX4_odds 46 = .ok (.lstore 6, 2) := by decide +kernel
theorem dX4_odds_48 : decode cX4_odds 48 = .ok (.lconst 1, 1) := by decide +kernel
theorem dX4_odds_49 : decode cX4_odds 49 = .ok (.lstore 8, 2) := by decide +kernel
theorem dX4_odds_51 : decode cX4_odds 51 = .ok (.iconst 0, 1) := by decide +kernel
theorem dX4_odds_52 : decode cX4_odds 52 = .ok (.istore 10, 2) := by decide +kernel
theorem dX4_odds_54 : decode cX4_odds 54 = .ok (.iload 10, 2) := by decide +kernel
theorem dX4_odds_56 : decode cX4_odds 56 = .ok (.iload_n 2, 1) := by decide +kernel
theorem dX4_odds_57 : decode cX4_odds 57 = .ok (.if_icmp .ge 66, 3) := by decide +kernel
theorem dX4_odds_60 : decode cX4_odds 60 = .ok (.lload 4, 2) := by decide +kernel
theorem dX4_odds_62 : decode cX4_odds 62 = .ok (.ldc2_w 263, 3) := by decide +kernel
theorem dX4_odds_65 : decode cX4_odds 65 = .ok (.lmul, 1) := by decide +kernel
theorem dX4_odds_66 : decode cX4_odds 66 = .ok (.lstore 4, 2) := by decide +kernel
theorem dX4_odds_68 : decode cX4_odds 68 = .ok (.aload_n 0, 1) := by decide +kernel
theorem dX4_odds_69 : decode cX4_odds 69 = .ok (.getfield 21, 3) := by decide +kernel
theorem dX4_odds_72 : decode cX4_odds 72 = .ok (.aload_n 0, 1) := by decide +kernel
theorem dX4_odds_73 : decode cX4_odds 73 = .ok (.getfield 21, 3) := by decide +kernel
theorem dX4_odds_76 : decode cX4_odds 76 = .ok (.getfield 158, 3) := by decide +kernel
theorem dX4_odds_79 : decode cX4_odds 79 = .ok (.iload 10, 2) := by decide +kernel
theorem dX4_odds_81 : decode cX4_odds 81 = .ok (.iadd, 1) := by decide +kernel
theorem dX4_odds_82 : decode cX4_odds 82 = .ok (.invokevirtual 180, 3) := by decide +kernel
theorem dX4_odds_85 : decode cX4_odds 85 = .ok (.iload_n 1, 1) := by decide +kernel
theorem dX4_odds_86 : decode cX4_odds 86 = .ok (.if_icmp .ne 13, 3) := by decide +kernel
theorem dX4_odds_89 : decode cX4_odds 89 = .ok (.lload 4, 2) := by decide +kernel
theorem dX4_odds_91 : decode cX4_odds 91 = .ok (.lload 6, 2) := by decide +kernel
theorem dX4_odds_93 : decode cX4_odds 93 = .ok (.iload_n 3, 1) := by decide +kernel
theorem dX4_odds_94 : decode cX4_odds 94 = .ok (.i2l, 1) := by decide +kernel
theorem dX4_odds_95 : decode cX4_odds 95 = .ok (.lmul, 1) := by decide +kernel
theorem dX4_odds_96 : decode cX4_odds 96 = .ok (.ladd, 1) := by decide +kernel
theorem dX4_odds_97 : decode cX4_odds 97 = .ok (.lstore 4, 2) := by decide +kernel
theorem dX4_odds_99 : decode cX4_odds 99 = .ok (.lload 6, 2) := by decide +kernel
theorem dX4_odds_101 : decode cX4_odds 101 = .ok (.bipush 12, 2) := by decide +kernel
theorem dX4_odds_103 : decode cX4_odds 103 = .ok (.iload_n 3, 1) := by decide +kernel
theorem dX4_odds_104 : decode cX4_odds 104 = .ok (.isub, 1) := by decide +kernel
theorem dX4_odds_105 : decode cX4_odds 105 = .ok (.i2l, 1) := by decide +kernel
theorem dX4_odds_106 : decode cX4_odds 106 = .ok (.lmul, 1) := by decide +kernel
theorem dX4_odds_107 : decode cX4_odds 107 = .ok (.lstore 6, 2) := by decide +kernel
theorem dX4_odds_109 : decode cX4_odds 109 = .ok (.lload 8, 2) := by decide +kernel
theorem dX4_odds_111 : decode cX4_odds 111 = .ok (.ldc2_w 263, 3) := by decide +kernel
theorem dX4_odds_114 : decode cX4_odds 114 = .ok (.lmul, 1) := by decide +kernel
theorem dX4_odds_115 : decode cX4_odds 115 = .ok (.lstore 8, 2) := by decide +kernel
theorem dX4_odds_117 : decode cX4_odds 117 = .ok (.iinc 10 1, 3) := by decide +kernel
theorem dX4_odds_120 : decode cX4_odds 120 = .ok (.goto (-66), 3) := by decide +kernel
theorem dX4_odds_123 : decode cX4_odds 123 = .ok (.aload_n 0, 1) := by decide +kernel
theorem dX4_odds_124 : decode cX4_odds 124 = .ok (.lload 4, 2) := by decide +kernel
theorem dX4_odds_126 : decode cX4_odds 126 = .ok (.lload 8, 2) := by decide +kernel
theorem dX4_odds_128 : decode cX4_odds 128 = .ok (.invokevirtual 252, 3) := by decide +kernel
theorem dX4_odds_131 : decode cX4_odds 131 = .ok (.iconst 1, 1) := by decide +kernel
theorem dX4_odds_132 : decode cX4_odds 132 = .ok (.ireturn, 1) := by decide +kernel
set_option maxRecDepth 20000 in
theorem ggX4_lots_X4_outside : GoodIn wsX4_lots wsX4_outside := goodIn_r _ [8] (by decide +kernel) (by decide +kernel)
set_option maxRecDepth 20000 in
theorem gX4_lots_X4_outside : GoodIn wsX4_lots (va_wsS RX4 120 yX4_outside wsX4_outside) := goodIn_app (goodIn_of _ (by decide +kernel)) ggX4_lots_X4_outside
set_option maxRecDepth 20000 in
theorem ggX4_lots_X1_isMissing : GoodIn wsX4_lots wsX1_isMissing := goodIn_r _ [13, 14, 66, 67, 68, 69, 70, 71, 72, 73, 74, 75, 76] (by decide +kernel) (by decide +kernel)
set_option maxRecDepth 20000 in
theorem gX4_lots_X1_isMissing : GoodIn wsX4_lots (wsV RX4 157 RX1 yX1_isMissing wsX1_isMissing) := goodIn_app (goodIn_of _ (by decide +kernel)) ggX4_lots_X1_isMissing
set_option maxRecDepth 20000 in
theorem ggX4_lots_X4_doByLot : GoodIn wsX4_lots wsX4_doByLot := goodIn_r _ [18, 2, 19, 20, 21, 22, 12, 23, 24, 25, 26, 27, 28, 29, 30, 31, 32, 33, 34, 35, 14, 36, 37, 38, 7, 39, 40, 41, 42, 43, 44, 56, 57, 58, 59, 60, 61, 62, 63, 64, 65, 66, 67, 68, 69, 70, 71, 72, 73, 74, 75, 76, 77, 78, 79, 80, 81] (by decide +kernel) (by decide +kernel)
set_option maxRecDepth 20000 in
theorem gX4_lots_X4_doByLot : GoodIn wsX4_lots (wsV RX4 269 RX4 yX4_doByLot wsX4_doByLot) := goodIn_app (goodIn_of _ (by decide +kernel)) ggX4_lots_X4_doByLot
set_option maxRecDepth 20000 in
theorem ggX4_lots_X1_setOf : GoodIn wsX4_lots wsX1_setOf := goodIn_r _ [48, 14, 36, 37, 66, 67, 68, 69, 70, 71, 72, 73, 74, 75, 76, 77, 78, 79, 80, 81] (by decide +kernel) (by decide +kernel)
set_option maxRecDepth 20000 in
theorem gX4_lots_X1_setOf : GoodIn wsX4_lots (wsV RX4 222 RX1 yX1_setOf wsX1_setOf) := goodIn_app (goodIn_of _ (by decide +kernel)) ggX4_lots_X1_setOf
set_option maxRecDepth 20000 in
theorem ggX4_lots_J6_bitCount_0f7a4 : GoodIn wsX4_lots wsJ6_bitCount_0f7a4 := goodIn_r _ [52, 53, 54, 55] (by decide +kernel) (by decide +kernel)
set_option maxRecDepth 20000 in
theorem gX4_lots_J6_bitCount_0f7a4 : GoodIn wsX4_lots (va_wsS RX4 213 yJ6_bitCount_0f7a4 wsJ6_bitCount_0f7a4) := goodIn_app (goodIn_of _ (by decide +kernel)) ggX4_lots_J6_bitCount_0f7a4
theorem dX4_lots_0 : decode cX4_lots 0 = .ok (.iload_n 1, 1) := by decide +kernel
theorem dX4_lots_1 : decode cX4_lots 1 = .ok (.iconst 1, 1) := by decide +kernel
theorem dX4_lots_2 : decode cX4_lots 2 = .ok (.bipush 20, 2) := by decide +kernel
theorem dX4_lots_4 : decode cX4_lots 4 = .ok (.invokestatic 120, 3) := by decide +kernel
theorem dX4_lots_7 : decode cX4_lots 7 = .ok (.ifCond .ne 17, 3) := by decide +kernel
theorem dX4_lots_10 : decode cX4_lots 10 = .ok (.iload_n 2, 1) := by decide +kernel
theorem dX4_lots_11 : decode cX4_lots 11 = .ok (.iconst 1, 1) := by decide +kernel
theorem dX4_lots_12 : decode cX4_lots 12 = .ok (.if_icmp .lt 12, 3) := by decide +kernel
theorem dX4_lots_15 : decode cX4_lots 15 = .ok (.iload_n 2, 1) := by decide +kernel
theorem dX4_lots_16 : decode cX4_lots 16 = .ok (.i2l, 1) := by decide +kernel
theorem dX4_lots_17 : decode cX4_lots 17 = .ok (.ldc2_w 265, 3) := by decide +kernel
theorem dX4_lots_20 : decode cX4_lots 20 = .ok (.lcmp, 1) := by decide +kernel
theorem dX4_lots_21 : decode cX4_lots 21 = .ok (.ifCond .lt 5, 3) := by decide +kernel
theorem dX4_lots_24 : decode cX4_lots 24 = .ok (.iconst (-1), 1) := by decide +kernel
theorem dX4_lots_25 : decode cX4_lots 25 = .ok (.ireturn, 1) := by decide +kernel
theorem dX4_lots_26 : decode cX4_lots 26 = .ok (.aload_n 0, 1) := by decide +kernel
theorem dX4_lots_27 : decode cX4_lots 27 = .ok (.getfield 21, 3) := by decide +kernel
theorem dX4_lots_30 : decode cX4_lots 30 = .ok (.invokevirtual 157, 3) := by decide +kernel
theorem dX4_lots_33 : decode cX4_lots 33 = .ok (.ifCond .eq 6, 3) := by decide +kernel
theorem dX4_lots_36 : decode cX4_lots 36 = .ok (.bipush (-4), 2) := by decide +kernel
theorem dX4_lots_38 : decode cX4_lots 38 = .ok (.ireturn, 1) := by decide +kernel
theorem dX4_lots_39 : decode cX4_lots 39 = .ok (.aload_n 0, 1) := by decide +kernel
theorem dX4_lots_40 : decode cX4_lots 40 = .ok (.getfield 21, 3) := by decide +kernel
theorem dX4_lots_43 : decode cX4_lots 43 = .ok (.getfield 151, 3) := by decide +kernel
theorem dX4_lots_46 : decode cX4_lots 46 = .ok (.iload_n 1, 1) := by decide +kernel
theorem dX4_lots_47 : decode cX4_lots 47 = .ok (.iadd, 1) := by decide +kernel
theorem dX4_lots_48 : decode cX4_lots 48 = .ok (.bipush 60, 2) := by decide +kernel
theorem dX4_lots_50 : decode cX4_lots 50 = .ok (.if_icmp .le 6, 3) := by decide +kernel
theorem dX4_lots_53 : decode cX4_lots 53 = .ok (.bipush (-2), 2) := by decide +kernel
theorem dX4_lots_55 : decode cX4_lots 55 = .ok (.ireturn, 1) := by decide +kernel
theorem dX4_lots_56 : decode cX4_lots 56 = .ok (.iload_n 2, 1) := by decide +kernel
theorem dX4_lots_57 : decode cX4_lots 57 = .ok (.i2l, 1) := by decide +kernel
theorem dX4_lots_58 : decode cX4_lots 58 = .ok (.lstore_n 3, 1) := by decide +kernel
theorem dX4_lots_59 : decode cX4_lots 59 = .ok (.iconst 0, 1) := by decide +kernel
theorem dX4_lots_60 : decode cX4_lots 60 = .ok (.istore 5, 2) := by decide +kernel
theorem dX4_lots_62 : decode cX4_lots 62 = .ok (.iload 5, 2) := by decide +kernel
theorem dX4_lots_64 : decode cX4_lots 64 = .ok (.iload_n 1, 1) := by decide +kernel
theorem dX4_lots_65 : decode cX4_lots 65 = .ok (.if_icmp .ge 25, 3) := by decide +kernel
theorem dX4_lots_68 : decode cX4_lots 68 = .ok (.lload_n 3, 1) := by decide +kernel
theorem dX4_lots_69 : decode cX4_lots 69 = .ok (.ldc2_w 267, 3) := by decide +kernel
theorem dX4_lots_72 : decode cX4_lots 72 = .ok (.lmul, 1) := by decide +kernel
theorem dX4_lots_73 : decode cX4_lots 73 = .ok (.ldc2_w 265, 3) := by decide +kernel
theorem dX4_lots_76 : decode cX4_lots 76 = .ok (.lrem, 1) := by decide +kernel
theorem dX4_lots_77 : decode cX4_lots 77 = .ok (.lstore_n 3, 1) := by decide +kernel
theorem dX4_lots_78 : decode cX4_lots 78 = .ok (.aload_n 0, 1) := by decide +kernel
theorem dX4_lots_79 : decode cX4_lots 79 = .ok (.lload_n 3, 1) := by decide +kernel
theorem dX4_lots_80 : decode cX4_lots 80 = .ok (.l2i, 1) := by decide +kernel
theorem dX4_lots_81 : decode cX4_lots 81 = .ok (.invokevirtual 269, 3) := by decide +kernel
theorem dX4_lots_84 : decode cX4_lots 84 = .ok (.iinc 5 1, 3) := by decide +kernel
theorem dX4_lots_87 : decode cX4_lots 87 = .ok (.goto (-25), 3) := by decide +kernel
theorem dX4_lots_90 : decode cX4_lots 90 = .ok (.aload_n 0, 1) := by decide +kernel
theorem dX4_lots_91 : decode cX4_lots 91 = .ok (.getfield 21, 3) := by decide +kernel
theorem dX4_lots_94 : decode cX4_lots 94 = .ok (.iconst 0, 1) := by decide +kernel
theorem dX4_lots_95 : decode cX4_lots 95 = .ok (.invokevirtual 222, 3) := by decide +kernel
theorem dX4_lots_98 : decode cX4_lots 98 = .ok (.invokestatic 213, 3) := by decide +kernel
theorem dX4_lots_101 : decode cX4_lots 101 = .ok (.ireturn, 1) := by decide +kernel
theorem dX4_asked_0 : decode cX4_asked 0 = .ok (.aload_n 0, 1) := by decide +kernel
theorem dX4_asked_1 : decode cX4_asked 1 = .ok (.getfield 74, 3) := by decide +kernel
theorem dX4_asked_4 : decode cX4_asked 4 = .ok (.ireturn, 1) := by decide +kernel
theorem dX4_upper_0 : decode cX4_upper 0 = .ok (.aload_n 0, 1) := by decide +kernel
theorem dX4_upper_1 : decode cX4_upper 1 = .ok (.getfield 272, 3) := by decide +kernel
theorem dX4_upper_4 : decode cX4_upper 4 = .ok (.lreturn, 1) := by decide +kernel
theorem dX4_lower_0 : decode cX4_lower 0 = .ok (.aload_n 0, 1) := by decide +kernel
theorem dX4_lower_1 : decode cX4_lower 1 = .ok (.getfield 40, 3) := by decide +kernel
theorem dX4_lower_4 : decode cX4_lower 4 = .ok (.lreturn, 1) := by decide +kernel
set_option maxRecDepth 20000 in
theorem ggX4_count_X1_bulls : GoodIn wsX4_count wsX1_bulls := goodIn_r _ [14, 15, 16, 17, 18, 19, 20, 21, 22, 52, 53, 54, 55, 56, 57, 58, 59, 60, 61, 62, 63, 64, 65, 66, 67] (by decide +kernel) (by decide +kernel)
set_option maxRecDepth 20000 in
theorem gX4_count_X1_bulls : GoodIn wsX4_count (wsV RX4 275 RX1 yX1_bulls wsX1_bulls) := goodIn_app (goodIn_of _ (by decide +kernel)) ggX4_count_X1_bulls
set_option maxRecDepth 20000 in
theorem ggX4_count_X4_howManyThere : GoodIn wsX4_count wsX4_howManyThere := goodIn_r _ [26, 27, 28, 29, 30, 31, 32, 68, 69] (by decide +kernel) (by decide +kernel)
set_option maxRecDepth 20000 in
theorem gX4_count_X4_howManyThere : GoodIn wsX4_count (va_wsS RX4 278 yX4_howManyThere wsX4_howManyThere) := goodIn_app (goodIn_of _ (by decide +kernel)) ggX4_count_X4_howManyThere
set_option maxRecDepth 20000 in
theorem ggX4_count_X4_howManyKept : GoodIn wsX4_count wsX4_howManyKept := goodIn_r _ [36, 37, 38, 39, 40, 13, 41, 15, 42, 43, 44, 45, 46, 47, 48, 49, 50, 51, 52, 53, 54, 55, 56, 57, 58, 59, 60, 61, 62] (by decide +kernel) (by decide +kernel)
set_option maxRecDepth 20000 in
theorem gX4_count_X4_howManyKept : GoodIn wsX4_count (wsV RX4 282 RX4 yX4_howManyKept wsX4_howManyKept) := goodIn_app (goodIn_of _ (by decide +kernel)) ggX4_count_X4_howManyKept
theorem dX4_count_0 : decode cX4_count 0 = .ok (.iload_n 1, 1) := by decide +kernel
theorem dX4_count_1 : decode cX4_count 1 = .ok (.tableswitch 136 0 9 #[55, 63, 71, 79, 87, 95, 107, 115, 123, 131], 55) := by decide +kernel
theorem dX4_count_56 : decode cX4_count 56 = .ok (.aload_n 0, 1) := by decide +kernel
theorem dX4_count_57 : decode cX4_count 57 = .ok (.getfield 21, 3) := by decide +kernel
theorem dX4_count_60 : decode cX4_count 60 = .ok (.getfield 108, 3) := by decide +kernel
theorem dX4_count_63 : decode cX4_count 63 = .ok (.ireturn, 1) := by decide +kernel
theorem dX4_count_64 : decode cX4_count 64 = .ok (.aload_n 0, 1) := by decide +kernel
theorem dX4_count_65 : decode cX4_count 65 = .ok (.getfield 21, 3) := by decide +kernel
theorem dX4_count_68 : decode cX4_count 68 = .ok (.getfield 145, 3) := by decide +kernel
theorem dX4_count_71 : decode cX4_count 71 = .ok (.ireturn, 1) := by decide +kernel
theorem dX4_count_72 : decode cX4_count 72 = .ok (.aload_n 0, 1) := by decide +kernel
theorem dX4_count_73 : decode cX4_count 73 = .ok (.getfield 21, 3) := by decide +kernel
theorem dX4_count_76 : decode cX4_count 76 = .ok (.getfield 195, 3) := by decide +kernel
theorem dX4_count_79 : decode cX4_count 79 = .ok (.ireturn, 1) := by decide +kernel
theorem dX4_count_80 : decode cX4_count 80 = .ok (.aload_n 0, 1) := by decide +kernel
theorem dX4_count_81 : decode cX4_count 81 = .ok (.getfield 21, 3) := by decide +kernel
theorem dX4_count_84 : decode cX4_count 84 = .ok (.getfield 158, 3) := by decide +kernel
theorem dX4_count_87 : decode cX4_count 87 = .ok (.ireturn, 1) := by decide +kernel
theorem dX4_count_88 : decode cX4_count 88 = .ok (.aload_n 0, 1) := by decide +kernel
