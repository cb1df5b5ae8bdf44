theorem dX4_init_125 : decode cX4_init 125 = .ok (.if_icmp .ge 22, 3) := by decide +kernel
theorem dX4_init_128 : decode cX4_init 128 = .ok (.aload_n 0, 1) := by decide +kernel
theorem dX4_init_129 : decode cX4_init 129 = .ok (.getfield 25, 3) := by decide +kernel
theorem dX4_init_132 : decode cX4_init 132 = .ok (.iload_n 1, 1) := by decide +kernel
theorem dX4_init_133 : decode cX4_init 133 = .ok (.new 18, 3) := by decide +kernel
theorem dX4_init_136 : decode cX4_init 136 = .ok (.dup, 1) := by decide +kernel
theorem dX4_init_137 : decode cX4_init 137 = .ok (.invokespecial 20, 3) := by decide +kernel
theorem dX4_init_140 : decode cX4_init 140 = .ok (.aastore, 1) := by decide +kernel
theorem dX4_init_141 : decode cX4_init 141 = .ok (.iinc 1 1, 3) := by decide +kernel
theorem dX4_init_144 : decode cX4_init 144 = .ok (.goto (-21), 3) := by decide +kernel
theorem dX4_init_147 : decode cX4_init 147 = .ok (.return_, 1) := by decide +kernel
set_option maxRecDepth 20000 in
theorem ggX4_row_X4_makeAnew : GoodIn wsX4_row wsX4_makeAnew := goodIn_r _ [6, 7, 8, 9, 5, 10, 11, 12, 13, 14, 15, 16, 17, 18, 19, 20, 21, 22, 23, 24, 25, 26, 27, 38, 39, 28, 29, 30, 31, 32, 33, 34, 35, 36, 37] (by decide +kernel) (by decide +kernel)
set_option maxRecDepth 20000 in
theorem gX4_row_X4_makeAnew : GoodIn wsX4_row (wsV RX4 47 RX4 yX4_makeAnew wsX4_makeAnew) := goodIn_app (goodIn_of _ (by decide +kernel)) ggX4_row_X4_makeAnew
theorem dX4_row_0 : decode cX4_row 0 = .ok (.aload_n 0, 1) := by decide +kernel
theorem dX4_row_1 : decode cX4_row 1 = .ok (.aload_n 0, 1) := by decide +kernel
theorem dX4_row_2 : decode cX4_row 2 = .ok (.getfield 11, 3) := by decide +kernel
theorem dX4_row_5 : decode cX4_row 5 = .ok (.iload_n 1, 1) := by decide +kernel
theorem dX4_row_6 : decode cX4_row 6 = .ok (.iload_n 2, 1) := by decide +kernel
theorem dX4_row_7 : decode cX4_row 7 = .ok (.iconst 0, 1) := by decide +kernel
theorem dX4_row_8 : decode cX4_row 8 = .ok (.invokevirtual 47, 3) := by decide +kernel
theorem dX4_row_11 : decode cX4_row 11 = .ok (.ireturn, 1) := by decide +kernel
set_option maxRecDepth 20000 in
theorem ggX4_lay_X4_at : GoodIn wsX4_lay wsX4_at := goodIn_r _ [7, 1, 2, 8, 9, 10, 6, 11, 12, 13, 14, 15, 16, 17, 18, 19, 20, 21, 22, 23, 24, 25, 26, 27, 28, 29, 30, 31, 32, 33, 34, 35, 36, 37, 38, 39] (by decide +kernel) (by decide +kernel)
set_option maxRecDepth 20000 in
theorem gX4_lay_X4_at : GoodIn wsX4_lay (wsV RX4 51 RX4 yX4_at wsX4_at) := goodIn_app (goodIn_of _ (by decide +kernel)) ggX4_lay_X4_at
set_option maxRecDepth 20000 in
theorem ggX4_lay_X4_isNone : GoodIn wsX4_lay wsX4_isNone := goodIn_r _ [11] (by decide +kernel) (by decide +kernel)
set_option maxRecDepth 20000 in
theorem gX4_lay_X4_isNone : GoodIn wsX4_lay (va_wsS RX4 55 yX4_isNone wsX4_isNone) := goodIn_app (goodIn_of _ (by decide +kernel)) ggX4_lay_X4_isNone
set_option maxRecDepth 20000 in
theorem ggX4_lay_X3_has : GoodIn wsX4_lay wsX3_has := goodIn_r _ [27, 17, 38, 39] (by decide +kernel) (by decide +kernel)
set_option maxRecDepth 20000 in
theorem gX4_lay_X3_has : GoodIn wsX4_lay (wsV RX4 59 RX3 yX3_has wsX3_has) := goodIn_app (goodIn_of _ (by decide +kernel)) ggX4_lay_X3_has
theorem dX4_lay_0 : decode cX4_lay 0 = .ok (.aload_n 0, 1) := by decide +kernel
theorem dX4_lay_1 : decode cX4_lay 1 = .ok (.iload_n 1, 1) := by decide +kernel
theorem dX4_lay_2 : decode cX4_lay 2 = .ok (.iload_n 2, 1) := by decide +kernel
theorem dX4_lay_3 : decode cX4_lay 3 = .ok (.invokevirtual 51, 3) := by decide +kernel
theorem dX4_lay_6 : decode cX4_lay 6 = .ok (.istore 4, 2) := by decide +kernel
theorem dX4_lay_8 : decode cX4_lay 8 = .ok (.iload 4, 2) := by decide +kernel
theorem dX4_lay_10 : decode cX4_lay 10 = .ok (.iconst 1, 1) := by decide +kernel
theorem dX4_lay_11 : decode cX4_lay 11 = .ok (.if_icmp .ne 37, 3) := by decide +kernel
theorem dX4_lay_14 : decode cX4_lay 14 = .ok (.iload_n 1, 1) := by decide +kernel
theorem dX4_lay_15 : decode cX4_lay 15 = .ok (.bipush 6, 2) := by decide +kernel
theorem dX4_lay_17 : decode cX4_lay 17 = .ok (.invokestatic 55, 3) := by decide +kernel
theorem dX4_lay_20 : decode cX4_lay 20 = .ok (.ifCond .ne 28, 3) := by decide +kernel
theorem dX4_lay_23 : decode cX4_lay 23 = .ok (.aload_n 0, 1) := by decide +kernel
theorem dX4_lay_24 : decode cX4_lay 24 = .ok (.getfield 11, 3) := by decide +kernel
theorem dX4_lay_27 : decode cX4_lay 27 = .ok (.iload_n 1, 1) := by decide +kernel
theorem dX4_lay_28 : decode cX4_lay 28 = .ok (.aaload, 1) := by decide +kernel
theorem dX4_lay_29 : decode cX4_lay 29 = .ok (.iload_n 2, 1) := by decide +kernel
theorem dX4_lay_30 : decode cX4_lay 30 = .ok (.invokevirtual 59, 3) := by decide +kernel
theorem dX4_lay_33 : decode cX4_lay 33 = .ok (.ifCond .eq 15, 3) := by decide +kernel
theorem dX4_lay_36 : decode cX4_lay 36 = .ok (.aload_n 0, 1) := by decide +kernel
theorem dX4_lay_37 : decode cX4_lay 37 = .ok (.getfield 11, 3) := by decide +kernel
theorem dX4_lay_40 : decode cX4_lay 40 = .ok (.iload_n 1, 1) := by decide +kernel
theorem dX4_lay_41 : decode cX4_lay 41 = .ok (.aaload, 1) := by decide +kernel
theorem dX4_lay_42 : decode cX4_lay 42 = .ok (.getfield 63, 3) := by decide +kernel
theorem dX4_lay_45 : decode cX4_lay 45 = .ok (.iload_n 2, 1) := by decide +kernel
theorem dX4_lay_46 : decode cX4_lay 46 = .ok (.iload_n 3, 1) := by decide +kernel
theorem dX4_lay_47 : decode cX4_lay 47 = .ok (.iastore, 1) := by decide +kernel
theorem dX4_lay_48 : decode cX4_lay 48 = .ok (.iload 4, 2) := by decide +kernel
theorem dX4_lay_50 : decode cX4_lay 50 = .ok (.ireturn, 1) := by decide +kernel
set_option maxRecDepth 20000 in
theorem ggX4_at_X4_isNone : GoodIn wsX4_at wsX4_isNone := goodIn_r _ [7] (by decide +kernel) (by decide +kernel)
set_option maxRecDepth 20000 in
theorem gX4_at_X4_isNone : GoodIn wsX4_at (va_wsS RX4 55 yX4_isNone wsX4_isNone) := goodIn_app (goodIn_of _ (by decide +kernel)) ggX4_at_X4_isNone
set_option maxRecDepth 20000 in
theorem ggX4_at_X3_isMissing : GoodIn wsX4_at wsX3_isMissing := goodIn_r _ [12, 13, 34, 35] (by decide +kernel) (by decide +kernel)
set_option maxRecDepth 20000 in
theorem gX4_at_X3_isMissing : GoodIn wsX4_at (wsV RX4 66 RX3 yX3_isMissing wsX3_isMissing) := goodIn_app (goodIn_of _ (by decide +kernel)) ggX4_at_X3_isMissing
set_option maxRecDepth 20000 in
theorem ggX4_at_X4_refuse : GoodIn wsX4_at wsX4_refuse := goodIn_r _ [17, 18, 19, 4, 5, 6, 7, 24, 25, 26, 27, 28, 29, 30, 31, 32, 33] (by decide +kernel) (by decide +kernel)
set_option maxRecDepth 20000 in
theorem gX4_at_X4_refuse : GoodIn wsX4_at (wsV RX4 70 RX4 yX4_refuse wsX4_refuse) := goodIn_app (goodIn_of _ (by decide +kernel)) ggX4_at_X4_refuse
set_option maxRecDepth 20000 in
theorem ggX4_at_X3_has : GoodIn wsX4_at wsX3_has := goodIn_r _ [23, 13, 34, 35] (by decide +kernel) (by decide +kernel)
set_option maxRecDepth 20000 in
theorem gX4_at_X3_has : GoodIn wsX4_at (wsV RX4 59 RX3 yX3_has wsX3_has) := goodIn_app (goodIn_of _ (by decide +kernel)) ggX4_at_X3_has
theorem dX4_at_0 : decode cX4_at 0 = .ok (.iload_n 1, 1) := by decide +kernel
theorem dX4_at_1 : decode cX4_at 1 = .ok (.bipush 6, 2) := by decide +kernel
theorem dX4_at_3 : decode cX4_at 3 = .ok (.invokestatic 55, 3) := by decide +kernel
theorem dX4_at_6 : decode cX4_at 6 = .ok (.ifCond .eq 5, 3) := by decide +kernel
theorem dX4_at_9 : decode cX4_at 9 = .ok (.iconst (-1), 1) := by decide +kernel
theorem dX4_at_10 : decode cX4_at 10 = .ok (.ireturn, 1) := by decide +kernel
theorem dX4_at_11 : decode cX4_at 11 = .ok (.aload_n 0, 1) := by decide +kernel
theorem dX4_at_12 : decode cX4_at 12 = .ok (.getfield 11, 3) := by decide +kernel
theorem dX4_at_15 : decode cX4_at 15 = .ok (.iload_n 1, 1) := by decide +kernel
theorem dX4_at_16 : decode cX4_at 16 = .ok (.aaload, 1) := by decide +kernel
theorem dX4_at_17 : decode cX4_at 17 = .ok (.astore_n 3, 1) := by decide +kernel
theorem dX4_at_18 : decode cX4_at 18 = .ok (.aload_n 3, 1) := by decide +kernel
theorem dX4_at_19 : decode cX4_at 19 = .ok (.invokevirtual 66, 3) := by decide +kernel
theorem dX4_at_22 : decode cX4_at 22 = .ok (.ifCond .eq 9, 3) := by decide +kernel
theorem dX4_at_25 : decode cX4_at 25 = .ok (.aload_n 0, 1) := by decide +kernel
theorem dX4_at_26 : decode cX4_at 26 = .ok (.iconst 1, 1) := by decide +kernel
theorem dX4_at_27 : decode cX4_at 27 = .ok (.invokevirtual 70, 3) := by decide +kernel
theorem dX4_at_30 : decode cX4_at 30 = .ok (.ireturn, 1) := by decide +kernel
theorem dX4_at_31 : decode cX4_at 31 = .ok (.aload_n 3, 1) := by decide +kernel
theorem dX4_at_32 : decode cX4_at 32 = .ok (.iload_n 2, 1) := by decide +kernel
theorem dX4_at_33 : decode cX4_at 33 = .ok (.invokevirtual 59, 3) := by decide +kernel
theorem dX4_at_36 : decode cX4_at 36 = .ok (.ifCond .ne 9, 3) := by decide +kernel
theorem dX4_at_39 : decode cX4_at 39 = .ok (.aload_n 0, 1) := by decide +kernel
theorem dX4_at_40 : decode cX4_at 40 = .ok (.iconst 2, 1) := by decide +kernel
theorem dX4_at_41 : decode cX4_at 41 = .ok (.invokevirtual 70, 3) := by decide +kernel
theorem dX4_at_44 : decode cX4_at 44 = .ok (.ireturn, 1) := by decide +kernel
theorem dX4_at_45 : decode cX4_at 45 = .ok (.aload_n 0, 1) := by decide +kernel
theorem dX4_at_46 : decode cX4_at 46 = .ok (.aload_n 3, 1) := by decide +kernel
theorem dX4_at_47 : decode cX4_at 47 = .ok (.getfield 63, 3) := by decide +kernel
theorem dX4_at_50 : decode cX4_at 50 = .ok (.iload_n 2, 1) := by decide +kernel
theorem dX4_at_51 : decode cX4_at 51 = .ok (.iaload, 1) := by decide +kernel
theorem dX4_at_52 : decode cX4_at 52 = .ok (.putfield 74, 3) := by decide +kernel
theorem dX4_at_55 : decode cX4_at 55 = .ok (.iconst 1, 1) := by decide +kernel
theorem dX4_at_56 : decode cX4_at 56 = .ok (.ireturn, 1) := by decide +kernel
set_option maxRecDepth 20000 in
theorem ggX4_tear_X4_isNone : GoodIn wsX4_tear wsX4_isNone := goodIn_r _ [6] (by decide +kernel) (by decide +kernel)
set_option maxRecDepth 20000 in
theorem gX4_tear_X4_isNone : GoodIn wsX4_tear (va_wsS RX4 55 yX4_isNone wsX4_isNone) := goodIn_app (goodIn_of _ (by decide +kernel)) ggX4_tear_X4_isNone
set_option maxRecDepth 20000 in
theorem ggX4_tear_X3_isMissing : GoodIn wsX4_tear wsX3_isMissing := goodIn_r _ [11, 12, 29, 30] (by decide +kernel) (by decide +kernel)
set_option maxRecDepth 20000 in
theorem gX4_tear_X3_isMissing : GoodIn wsX4_tear (wsV RX4 66 RX3 yX3_isMissing wsX3_isMissing) := goodIn_app (goodIn_of _ (by decide +kernel)) ggX4_tear_X3_isMissing
set_option maxRecDepth 20000 in
theorem ggX4_tear_X4_refuse : GoodIn wsX4_tear wsX4_refuse := goodIn_r _ [16, 17, 18, 3, 4, 5, 6, 19, 20, 21, 22, 23, 24, 25, 26, 27, 28] (by decide +kernel) (by decide +kernel)
set_option maxRecDepth 20000 in
theorem gX4_tear_X4_refuse : GoodIn wsX4_tear (wsV RX4 70 RX4 yX4_refuse wsX4_refuse) := goodIn_app (goodIn_of _ (by decide +kernel)) ggX4_tear_X4_refuse
theorem dX4_tear_0 : decode cX4_tear 0 = .ok (.iload_n 1, 1) := by decide +kernel
theorem dX4_tear_1 : decode cX4_tear 1 = .ok (.bipush 6, 2) := by decide +kernel
theorem dX4_tear_3 : decode cX4_tear 3 = .ok (.invokestatic 55, 3) := by decide +kernel
theorem dX4_tear_6 : decode cX4_tear 6 = .ok (.ifCond .eq 5, 3) := by decide +kernel
theorem dX4_tear_9 : decode cX4_tear 9 = .ok (.iconst (-1), 1) := by decide +kernel
theorem dX4_tear_10 : decode cX4_tear 10 = .ok (.ireturn, 1) := by decide +kernel
theorem dX4_tear_11 : decode cX4_tear 11 = .ok (.aload_n 0, 1) := by decide +kernel
theorem dX4_tear_12 : decode cX4_tear 12 = .ok (.getfield 11, 3) := by decide +kernel
theorem dX4_tear_15 : decode cX4_tear 15 = .ok (.iload_n 1, 1) := by decide +kernel
theorem dX4_tear_16 : decode cX4_tear 16 = .ok (.aaload, 1) := by decide +kernel
theorem dX4_tear_17 : decode cX4_tear 17 = .ok (.invokevirtual 66, 3) := by decide +kernel
theorem dX4_tear_20 : decode cX4_tear 20 = .ok (.ifCond .eq 9, 3) := by decide +kernel
theorem dX4_tear_23 : decode cX4_tear 23 = .ok (.aload_n 0, 1) := by decide +kernel
theorem dX4_tear_24 : decode cX4_tear 24 = .ok (.iconst 1, 1) := by decide +kernel
theorem dX4_tear_25 : decode cX4_tear 25 = .ok (.invokevirtual 70, 3) := by decide +kernel
theorem dX4_tear_28 : decode cX4_tear 28 = .ok (.ireturn, 1) := by decide +kernel
theorem dX4_tear_29 : decode cX4_tear 29 = .ok (.aload_n 0, 1) := by decide +kernel
theorem dX4_tear_30 : decode cX4_tear 30 = .ok (.getfield 11, 3) := by decide +kernel
theorem dX4_tear_33 : decode cX4_tear 33 = .ok (.iload_n 1, 1) := by decide +kernel
theorem dX4_tear_34 : decode cX4_tear 34 = .ok (.aaload, 1) := by decide +kernel
theorem dX4_tear_35 : decode cX4_tear 35 = .ok (.iconst (-1), 1) := by decide +kernel
theorem dX4_tear_36 : decode cX4_tear 36 = .ok (.putfield 78, 3) := by decide +kernel
theorem dX4_tear_39 : decode cX4_tear 39 = .ok (.iconst 1, 1) := by decide +kernel
theorem dX4_tear_40 : decode cX4_tear 40 = .ok (.ireturn, 1) := by decide +kernel
set_option maxRecDepth 20000 in
theorem ggX4_copy_X4_isNone : GoodIn wsX4_copy wsX4_isNone := goodIn_r _ [10] (by decide +kernel) (by decide +kernel)
set_option maxRecDepth 20000 in
theorem gX4_copy_X4_isNone : GoodIn wsX4_copy (va_wsS RX4 55 yX4_isNone wsX4_isNone) := goodIn_app (goodIn_of _ (by decide +kernel)) ggX4_copy_X4_isNone
set_option maxRecDepth 20000 in
theorem ggX4_copy_X4_refuse : GoodIn wsX4_copy wsX4_refuse := goodIn_r _ [14, 15, 16, 7, 8, 9, 10, 27, 28, 29, 30, 31, 32, 33, 34, 35, 36] (by decide +kernel) (by decide +kernel)
set_option maxRecDepth 20000 in
theorem gX4_copy_X4_refuse : GoodIn wsX4_copy (wsV RX4 70 RX4 yX4_refuse wsX4_refuse) := goodIn_app (goodIn_of _ (by decide +kernel)) ggX4_copy_X4_refuse
set_option maxRecDepth 20000 in
theorem ggX4_copy_X3_isMissing : GoodIn wsX4_copy wsX3_isMissing := goodIn_r _ [21, 22, 37, 38] (by decide +kernel) (by decide +kernel)
set_option maxRecDepth 20000 in
theorem gX4_copy_X3_isMissing : GoodIn wsX4_copy (wsV RX4 66 RX3 yX3_isMissing wsX3_isMissing) := goodIn_app (goodIn_of _ (by decide +kernel)) ggX4_copy_X3_isMissing
set_option maxRecDepth 20000 in
theorem ggX4_copy_X3_hasRun : GoodIn wsX4_copy wsX3_hasRun := goodIn_r _ [26, 22, 37, 38] (by decide +kernel) (by decide +kernel)
set_option maxRecDepth 20000 in
theorem gX4_copy_X3_hasRun : GoodIn wsX4_copy (wsV RX4 81 RX3 yX3_hasRun wsX3_hasRun) := goodIn_app (goodIn_of _ (by decide +kernel)) ggX4_copy_X3_hasRun
theorem dX4_copy_0 : decode cX4_copy 0 = .ok (.iload_n 1, 1) := by decide +kernel
theorem dX4_copy_1 : decode cX4_copy 1 = .ok (.bipush 6, 2) := by decide +kernel
theorem dX4_copy_3 : decode cX4_copy 3 = .ok (.invokestatic 55, 3) := by decide +kernel
theorem dX4_copy_6 : decode cX4_copy 6 = .ok (.ifCond .ne 12, 3) := by decide +kernel
theorem dX4_copy_9 : decode cX4_copy 9 = .ok (.iload_n 3, 1) := by decide +kernel
theorem dX4_copy_10 : decode cX4_copy 10 = .ok (.bipush 6, 2) := by decide +kernel
theorem dX4_copy_12 : decode cX4_copy 12 = .ok (.invokestatic 55, 3) := by decide +kernel
theorem dX4_copy_15 : decode cX4_copy 15 = .ok (.ifCond .eq 5, 3) := by decide +kernel
theorem dX4_copy_18 : decode cX4_copy 18 = .ok (.iconst (-1), 1) := by decide +kernel
theorem dX4_copy_19 : decode cX4_copy 19 = .ok (.ireturn, 1) := by decide +kernel
theorem dX4_copy_20 : decode cX4_copy 20 = .ok (.iload 5, 2) := by decide +kernel
theorem dX4_copy_22 : decode cX4_copy 22 = .ok (.ifCond .ge 9, 3) := by decide +kernel
theorem dX4_copy_25 : decode cX4_copy 25 = .ok (.aload_n 0, 1) := by decide +kernel
theorem dX4_copy_26 : decode cX4_copy 26 = .ok (.iconst 5, 1) := by decide +kernel
theorem dX4_copy_27 : decode cX4_copy 27 = .ok (.invokevirtual 70, 3) := by decide +kernel
theorem dX4_copy_30 : decode cX4_copy 30 = .ok (.ireturn, 1) := by decide +kernel
theorem dX4_copy_31 : decode cX4_copy 31 = .ok (.aload_n 0, 1) := by decide +kernel
theorem dX4_copy_32 : decode cX4_copy 32 = .ok (.getfield 11, 3) := by decide +kernel
theorem dX4_copy_35 : decode cX4_copy 35 = .ok (.iload_n 1, 1) := by decide +kernel
theorem dX4_copy_36 : decode cX4_copy 36 = .ok (.aaload, 1) := by decide +kernel
theorem dX4_copy_37 : decode cX4_copy 37 = .ok (.invokevirtual 66, 3) := by decide +kernel
theorem dX4_copy_40 : decode cX4_copy 40 = .ok (.ifCond .ne 15, 3) := by decide +kernel
theorem dX4_copy_43 : decode cX4_copy 43 = .ok (.aload_n 0, 1) := by decide +kernel
theorem dX4_copy_44 : decode cX4_copy 44 = .ok (.getfield 11, 3) := by decide +kernel
theorem dX4_copy_47 : decode cX4_copy 47 = .ok (.iload_n 3, 1) := by decide +kernel
theorem dX4_copy_48 : decode cX4_copy 48 = .ok (.aaload, 1) := by decide +kernel
theorem dX4_copy_49 : decode cX4_copy 49 = .ok (.invokevirtual 66, 3) := by decide +kernel
theorem dX4_copy_52 : decode cX4_copy 52 = .ok (.ifCond .eq 9, 3) := by decide +kernel
theorem dX4_copy_55 : decode cX4_copy 55 = .ok (.aload_n 0, 1) := by decide +kernel
theorem dX4_copy_56 : decode cX4_copy 56 = .ok (.iconst 1, 1) := by decide +kernel
theorem dX4_copy_57 : decode cX4_copy 57 = .ok (.invokevirtual 70, 3) := by decide +kernel
theorem dX4_copy_60 : decode cX4_copy 60 = .ok (.ireturn, 1) := by decide +kernel
theorem dX4_copy_61 : decode cX4_copy 61 = .ok (.aload_n 0, 1) := by decide +kernel
theorem dX4_copy_62 : decode cX4_copy 62 = .ok (.getfield 11, 3) := by decide +kernel
theorem dX4_copy_65 : decode cX4_copy 65 = .ok (.iload_n 1, 1) := by decide +kernel
theorem dX4_copy_66 : decode cX4_copy 66 = .ok (.aaload, 1) := by decide +kernel
theorem dX4_copy_67 : decode cX4_copy 67 = .ok (.iload_n 2, 1) := by decide +kernel
theorem dX4_copy_68 : decode cX4_copy 68 = .ok (.iload 5, 2) := by decide +kernel
theorem dX4_copy_70 : decode cX4_copy 70 = .ok (.invokevirtual 81, 3) := by decide +kernel
theorem dX4_copy_73 : decode cX4_copy 73 = .ok (.ifCond .eq 19, 3) := by decide +kernel
theorem dX4_copy_76 : decode cX4_copy 76 = .ok (.aload_n 0, 1) := by decide +kernel
theorem dX4_copy_77 : decode cX4_copy 77 = .ok (.getfield 11, 3) := by decide +kernel
theorem dX4_copy_80 : decode cX4_copy 80 = .ok (.iload_n 3, 1) := by decide +kernel
theorem dX4_copy_81 : decode cX4_copy 81 = .ok (.aaload, 1) := by decide +kernel
theorem dX4_copy_82 : decode cX4_copy 82 = .ok (.iload 4, 2) := by decide +kernel
theorem dX4_copy_84 : decode cX4_copy 84 = .ok (.iload 5, 2) := by decide +kernel
theorem dX4_copy_86 : decode cX4_copy 86 = .ok (.invokevirtual 81, 3) := by decide +kernel
theorem dX4_copy_89 : decode cX4_copy 89 = .ok (.ifCond .ne 9, 3) := by decide +kernel
theorem dX4_copy_92 : decode cX4_copy 92 = .ok (.aload_n 0, 1) := by decide +kernel
theorem dX4_copy_93 : decode cX4_copy 93 = .ok (.iconst 2, 1) := by decide +kernel
theorem dX4_copy_94 : decode cX4_copy 94 = .ok (.invokevirtual 70, 3) := by decide +kernel
theorem dX4_copy_97 : decode cX4_copy 97 = .ok (.ireturn, 1) := by decide +kernel
theorem dX4_copy_98 : decode cX4_copy 98 = .ok (.aload_n 0, 1) := by decide +kernel
theorem dX4_copy_99 : decode cX4_copy 99 = .ok (.getfield 11, 3) := by decide +kernel
theorem dX4_copy_102 : decode cX4_copy 102 = .ok (.iload_n 1, 1) := by decide +kernel
theorem dX4_copy_103 : decode cX4_copy 103 = .ok (.aaload, 1) := by decide +kernel
theorem dX4_copy_104 : decode cX4_copy 104 = .ok (.getfield 63, 3) := by decide +kernel
theorem dX4_copy_107 : decode cX4_copy 107 = .ok (.iload_n 2, 1) := by decide +kernel
theorem dX4_copy_108 : decode cX4_copy 108 = .ok (.aload_n 0, 1) := by decide +kernel
theorem dX4_copy_109 : decode cX4_copy 109 = .ok (.getfield 11, 3) := by decide +kernel
theorem dX4_copy_112 : decode cX4_copy 112 = .ok (.iload_n 3, 1) := by decide +kernel
theorem dX4_copy_113 : decode cX4_copy 113 = .ok (.aaload, 1) := by decide +kernel
theorem dX4_copy_114 : decode cX4_copy 114 = .ok (.getfield 63, 3) := by decide +kernel
theorem dX4_copy_117 : decode cX4_copy 117 = .ok (.iload 4, 2) := by decide +kernel
theorem dX4_copy_119 : decode cX4_copy 119 = .ok (.iload 5, 2) := by decide +kernel
theorem dX4_copy_121 : decode cX4_copy 121 = .ok (.invokestatic 84, 3) := by decide +kernel
theorem dX4_copy_124 : decode cX4_copy 124 = .ok (.iconst 1, 1) := by decide +kernel
theorem dX4_copy_125 : decode cX4_copy 125 = .ok (.ireturn, 1) := by decide +kernel
set_option maxRecDepth 20000 in
theorem ggX4_mean_X4_isNone : GoodIn wsX4_mean wsX4_isNone := goodIn_r _ [7] (by decide +kernel) (by decide +kernel)
set_option maxRecDepth 20000 in
theorem gX4_mean_X4_isNone : GoodIn wsX4_mean (va_wsS RX4 55 yX4_isNone wsX4_isNone) := goodIn_app (goodIn_of _ (by decide +kernel)) ggX4_mean_X4_isNone
set_option maxRecDepth 20000 in
theorem ggX4_mean_X3_isMissing : GoodIn wsX4_mean wsX3_isMissing := goodIn_r _ [12, 13, 35, 36] (by decide +kernel) (by decide +kernel)
set_option maxRecDepth 20000 in
theorem gX4_mean_X3_isMissing : GoodIn wsX4_mean (wsV RX4 66 RX3 yX3_isMissing wsX3_isMissing) := goodIn_app (goodIn_of _ (by decide +kernel)) ggX4_mean_X3_isMissing
set_option maxRecDepth 20000 in
theorem ggX4_mean_X4_refuse : GoodIn wsX4_mean wsX4_refuse := goodIn_r _ [17, 18, 19, 4, 5, 6, 7, 25, 26, 27, 28, 29, 30, 31, 32, 33, 34] (by decide +kernel) (by decide +kernel)
set_option maxRecDepth 20000 in
theorem gX4_mean_X4_refuse : GoodIn wsX4_mean (wsV RX4 70 RX4 yX4_refuse wsX4_refuse) := goodIn_app (goodIn_of _ (by decide +kernel)) ggX4_mean_X4_refuse
set_option maxRecDepth 20000 in
theorem ggX4_mean_X3_total : GoodIn wsX4_mean wsX3_total := goodIn_r _ [23, 13, 24, 35, 36] (by decide +kernel) (by decide +kernel)
set_option maxRecDepth 20000 in
theorem gX4_mean_X3_total : GoodIn wsX4_mean (wsV RX4 90 RX3 yX3_total wsX3_total) := goodIn_app (goodIn_of _ (by decide +kernel)) ggX4_mean_X3_total
theorem dX4_mean_0 : decode cX4_mean 0 = .ok (.iload_n 1, 1) := by decide +kernel
theorem dX4_mean_1 : decode cX4_mean 1 = .ok (.bipush 6, 2) := by decide +kernel
theorem dX4_mean_3 : decode cX4_mean 3 = .ok (.invokestatic 55, 3) := by decide +kernel
theorem dX4_mean_6 : decode cX4_mean 6 = .ok (.ifCond .eq 5, 3) := by decide +kernel
theorem dX4_mean_9 : decode cX4_mean 9 = .ok (.iconst (-1), 1) := by decide +kernel
theorem dX4_mean_10 : decode cX4_mean 10 = .ok (.ireturn, 1) := by decide +kernel
theorem dX4_mean_11 : decode cX4_mean 11 = .ok (.aload_n 0, 1) := by decide +kernel
theorem dX4_mean_12 : decode cX4_mean 12 = .ok (.getfield 11, 3) := by decide +kernel
theorem dX4_mean_15 : decode cX4_mean 15 = .ok (.iload_n 1, 1) := by decide +kernel
theorem dX4_mean_16 : decode cX4_mean 16 = .ok (.aaload, 1) := by decide +kernel
theorem dX4_mean_17 : decode cX4_mean 17 = .ok (.astore_n 2, 1) := by decide +kernel
theorem dX4_mean_18 : decode cX4_mean 18 = .ok (.aload_n 2, 1) := by decide +kernel
theorem dX4_mean_19 : decode cX4_mean 19 = .ok (.invokevirtual 66, 3) := by decide +kernel
theorem dX4_mean_22 : decode cX4_mean 22 = .ok (.ifCond .eq 9, 3) := by decide +kernel
theorem dX4_mean_25 : decode cX4_mean 25 = .ok (.aload_n 0, 1) := by decide +kernel
theorem dX4_mean_26 : decode cX4_mean 26 = .ok (.iconst 1, 1) := by decide +kernel
theorem dX4_mean_27 : decode cX4_mean 27 = .ok (.invokevirtual 70, 3) := by decide +kernel
theorem dX4_mean_30 : decode cX4_mean 30 = .ok (.ireturn, 1) := by decide +kernel
theorem dX4_mean_31 : decode cX4_mean 31 = .ok (.aload_n 2, 1) := by decide +kernel
theorem dX4_mean_32 : decode cX4_mean 32 = .ok (.getfield 78, 3) := by decide +kernel
theorem dX4_mean_35 : decode cX4_mean 35 = .ok (.ifCond .ne 9, 3) := by decide +kernel
theorem dX4_mean_38 : decode cX4_mean 38 = .ok (.aload_n 0, 1) := by decide +kernel
theorem dX4_mean_39 : decode cX4_mean 39 = .ok (.iconst 4, 1) := by decide +kernel
theorem dX4_mean_40 : decode cX4_mean 40 = .ok (.invokevirtual 70, 3) := by decide +kernel
theorem dX4_mean_43 : decode cX4_mean 43 = .ok (.ireturn, 1) := by decide +kernel
theorem dX4_mean_44 : decode cX4_mean 44 = .ok (.aload_n 0, 1) := by decide +kernel
theorem dX4_mean_45 : decode cX4_mean 45 = .ok (.aload_n 2, 1) := by decide +kernel
theorem dX4_mean_46 : decode cX4_mean 46 = .ok (.invokevirtual 90, 3) := by decide +kernel
theorem dX4_mean_49 : decode cX4_mean 49 = .ok (.aload_n 2, 1) := by decide +kernel
theorem dX4_mean_50 : decode cX4_mean 50 = .ok (.getfield 78, 3) := by decide +kernel
theorem dX4_mean_53 : decode cX4_mean 53 = .ok (.i2l, 1) := by decide +kernel
theorem dX4_mean_54 : decode cX4_mean 54 = .ok (.ldiv, 1) := by decide +kernel
theorem dX4_mean_55 : decode cX4_mean 55 = .ok (.l2i, 1) := by decide +kernel
theorem dX4_mean_56 : decode cX4_mean 56 = .ok (.putfield 74, 3) := by decide +kernel
theorem dX4_mean_59 : decode cX4_mean 59 = .ok (.iconst 1, 1) := by decide +kernel
theorem dX4_mean_60 : decode cX4_mean 60 = .ok (.ireturn, 1) := by decide +kernel
set_option maxRecDepth 20000 in
theorem ggX4_text_X4_makeAnew : GoodIn wsX4_text wsX4_makeAnew := goodIn_r _ [6, 7, 8, 9, 5, 10, 11, 12, 13, 14, 15, 16, 17, 18, 19, 20, 21, 22, 23, 24, 25, 26, 27, 38, 39, 28, 29, 30, 31, 32, 33, 34, 35, 36, 37] (by decide +kernel) (by decide +kernel)
set_option maxRecDepth 20000 in
theorem gX4_text_X4_makeAnew : GoodIn wsX4_text (wsV RX4 47 RX4 yX4_makeAnew wsX4_makeAnew) := goodIn_app (goodIn_of _ (by decide +kernel)) ggX4_text_X4_makeAnew
theorem dX4_text_0 : decode cX4_text 0 = .ok (.aload_n 0, 1) := by decide +kernel
theorem dX4_text_1 : decode cX4_text 1 = .ok (.aload_n 0, 1) := by decide +kernel
theorem dX4_text_2 : decode cX4_text 2 = .ok (.getfield 15, 3) := by decide +kernel
theorem dX4_text_5 : decode cX4_text 5 = .ok (.iload_n 1, 1) := by decide +kernel
theorem dX4_text_6 : decode cX4_text 6 = .ok (.iload_n 2, 1) := by decide +kernel
theorem dX4_text_7 : decode cX4_text 7 = .ok (.bipush 32, 2) := by decide +kernel
theorem dX4_text_9 : decode cX4_text 9 = .ok (.invokevirtual 47, 3) := by decide +kernel
theorem dX4_text_12 : decode cX4_text 12 = .ok (.ireturn, 1) := by decide +kernel
set_option maxRecDepth 20000 in
theorem ggX4_put_X4_isNone : GoodIn wsX4_put wsX4_isNone := goodIn_r _ [6] (by decide +kernel) (by decide +kernel)
set_option maxRecDepth 20000 in
theorem gX4_put_X4_isNone : GoodIn wsX4_put (va_wsS RX4 55 yX4_isNone wsX4_isNone) := goodIn_app (goodIn_of _ (by decide +kernel)) ggX4_put_X4_isNone
set_option maxRecDepth 20000 in
theorem ggX4_put_X3_isMissing : GoodIn wsX4_put wsX3_isMissing := goodIn_r _ [11, 12, 33, 34] (by decide +kernel) (by decide +kernel)
set_option maxRecDepth 20000 in
theorem gX4_put_X3_isMissing : GoodIn wsX4_put (wsV RX4 66 RX3 yX3_isMissing wsX3_isMissing) := goodIn_app (goodIn_of _ (by decide +kernel)) ggX4_put_X3_isMissing
set_option maxRecDepth 20000 in
theorem ggX4_put_X4_refuse : GoodIn wsX4_put wsX4_refuse := goodIn_r _ [16, 17, 18, 3, 4, 5, 6, 23, 24, 25, 26, 27, 28, 29, 30, 31, 32] (by decide +kernel) (by decide +kernel)
set_option maxRecDepth 20000 in
theorem gX4_put_X4_refuse : GoodIn wsX4_put (wsV RX4 70 RX4 yX4_refuse wsX4_refuse) := goodIn_app (goodIn_of _ (by decide +kernel)) ggX4_put_X4_refuse
set_option maxRecDepth 20000 in
theorem ggX4_put_X3_has : GoodIn wsX4_put wsX3_has := goodIn_r _ [22, 12, 33, 34] (by decide +kernel) (by decide +kernel)
set_option maxRecDepth 20000 in
theorem gX4_put_X3_has : GoodIn wsX4_put (wsV RX4 59 RX3 yX3_has wsX3_has) := goodIn_app (goodIn_of _ (by decide +kernel)) ggX4_put_X3_has
theorem dX4_put_0 : decode cX4_put 0 = .ok (.iload_n 1, 1) := by decide +kernel
theorem dX4_put_1 : decode cX4_put 1 = .ok (.iconst 4, 1) := by decide +kernel
theorem dX4_put_2 : decode cX4_put 2 = .ok (.invokestatic 55, 3) := by decide +kernel
theorem dX4_put_5 : decode cX4_put 5 = .ok (.ifCond .eq 5, 3) := by decide +kernel
theorem dX4_put_8 : decode cX4_put 8 = .ok (.iconst (-1), 1) := by decide +kernel
theorem dX4_put_9 : decode cX4_put 9 = .ok (.ireturn, 1) := by decide +kernel
theorem dX4_put_10 : decode cX4_put 10 = .ok (.aload_n 0, 1) := by decide +kernel
theorem dX4_put_11 : decode cX4_put 11 = .ok (.getfield 15, 3) := by decide +kernel
theorem dX4_put_14 : decode cX4_put 14 = .ok (.iload_n 1, 1) := by decide +kernel
theorem dX4_put_15 : decode cX4_put 15 = .ok (.aaload, 1) := by decide +kernel
theorem dX4_put_16 : decode cX4_put 16 = .ok (.astore 4, 2) := by decide +kernel
theorem dX4_put_18 : decode cX4_put 18 = .ok (.aload 4, 2) := by decide +kernel
theorem dX4_put_20 : decode cX4_put 20 = .ok (.invokevirtual 66, 3) := by decide +kernel
theorem dX4_put_23 : decode cX4_put 23 = .ok (.ifCond .eq 9, 3) := by decide +kernel
theorem dX4_put_26 : decode cX4_put 26 = .ok (.aload_n 0, 1) := by decide +kernel
theorem dX4_put_27 : decode cX4_put 27 = .ok (.iconst 1, 1) := by decide +kernel
theorem dX4_put_28 : decode cX4_put 28 = .ok (.invokevirtual 70, 3) := by decide +kernel
theorem dX4_put_31 : decode cX4_put 31 = .ok (.ireturn, 1) := by decide +kernel
theorem dX4_put_32 : decode cX4_put 32 = .ok (.aload 4, 2) := by decide +kernel
theorem dX4_put_34 : decode cX4_put 34 = .ok (.iload_n 2, 1) := by decide +kernel
theorem dX4_put_35 : decode cX4_put 35 = .ok (.invokevirtual 59, 3) := by decide +kernel
theorem dX4_put_38 : decode cX4_put 38 = .ok (.ifCond .ne 9, 3) := by decide +kernel
theorem dX4_put_41 : decode cX4_put 41 = .ok (.aload_n 0, 1) := by decide +kernel
theorem dX4_put_42 : decode cX4_put 42 = .ok (.iconst 2, 1) := by decide +kernel
theorem dX4_put_43 : decode cX4_put 43 = .ok (.invokevirtual 70, 3) := by decide +kernel
theorem dX4_put_46 : decode cX4_put 46 = .ok (.ireturn, 1) := by decide +kernel
theorem dX4_put_47 : decode cX4_put 47 = .ok (.aload 4, 2) := by decide +kernel
theorem dX4_put_49 : decode cX4_put 49 = .ok (.getfield 63, 3) := by decide +kernel
theorem dX4_put_52 : decode cX4_put 52 = .ok (.iload_n 2, 1) := by decide +kernel
theorem dX4_put_53 : decode cX4_put 53 = .ok (.iaload, 1) := by decide +kernel
theorem dX4_put_54 : decode cX4_put 54 = .ok (.istore 5, 2) := by decide +kernel
theorem dX4_put_56 : decode cX4_put 56 = .ok (.aload 4, 2) := by decide +kernel
theorem dX4_put_58 : decode cX4_put 58 = .ok (.getfield 63, 3) := by decide +kernel
theorem dX4_put_61 : decode cX4_put 61 = .ok (.iload_n 2, 1) := by decide +kernel
theorem dX4_put_62 : decode cX4_put 62 = .ok (.iload_n 3, 1) := by decide +kernel
theorem dX4_put_63 : decode cX4_put 63 = .ok (.i2b, 1) := by decide +kernel
theorem dX4_put_64 : decode cX4_put 64 = .ok (.iastore, 1) := by decide +kernel
theorem dX4_put_65 : decode cX4_put 65 = .ok (.iload 5, 2) := by decide +kernel
theorem dX4_put_67 : decode cX4_put 67 = .ok (.sipush 1000, 3) := by decide +kernel
theorem dX4_put_70 : decode cX4_put 70 = .ok (.iadd, 1) := by decide +kernel
theorem dX4_put_71 : decode cX4_put 71 = .ok (.ireturn, 1) := by decide +kernel
set_option maxRecDepth 20000 in
theorem ggX4_fault_X4_isNone : GoodIn wsX4_fault wsX4_isNone := goodIn_r _ [6] (by decide +kernel) (by decide +kernel)
set_option maxRecDepth 20000 in
theorem gX4_fault_X4_isNone : GoodIn wsX4_fault (va_wsS RX4 55 yX4_isNone wsX4_isNone) := goodIn_app (goodIn_of _ (by decide +kernel)) ggX4_fault_X4_isNone
set_option maxRecDepth 20000 in
theorem ggX4_fault_X3_isMissing : GoodIn wsX4_fault wsX3_isMissing := goodIn_r _ [11, 12, 121, 122] (by decide +kernel) (by decide +kernel)
set_option maxRecDepth 20000 in
theorem gX4_fault_X3_isMissing : GoodIn wsX4_fault (wsV RX4 66 RX3 yX3_isMissing wsX3_isMissing) := goodIn_app (goodIn_of _ (by decide +kernel)) ggX4_fault_X3_isMissing
set_option maxRecDepth 20000 in
theorem ggX4_fault_X4_refuse : GoodIn wsX4_fault wsX4_refuse := goodIn_r _ [16, 17, 18, 3, 4, 5, 6, 111, 112, 113, 114, 115, 116, 117, 118, 119, 120] (by decide +kernel) (by decide +kernel)
set_option maxRecDepth 20000 in
theorem gX4_fault_X4_refuse : GoodIn wsX4_fault (wsV RX4 70 RX4 yX4_refuse wsX4_refuse) := goodIn_app (goodIn_of _ (by decide +kernel)) ggX4_fault_X4_refuse
set_option maxRecDepth 20000 in
theorem ggX4_fault_X2_read : GoodIn wsX4_fault wsX2_read := goodIn_r _ [23, 24, 25, 26, 27, 28, 29, 30, 31, 32, 33, 34, 35, 36, 37, 38, 39, 22, 40, 41, 42, 43, 44, 45, 46, 47, 48, 49, 50, 51, 52, 53, 54, 55, 56, 57, 58, 10, 59, 12, 60, 61, 62, 63, 64, 65, 66, 67, 68, 69, 70, 71, 72, 73, 5, 74, 75, 76, 77, 78, 79, 80, 81, 82, 83, 84, 85, 86, 87, 88, 89, 90, 91, 92, 93, 94, 95, 96, 97, 98, 99, 100, 101, 102, 103, 104, 105, 106, 107, 108, 109, 110, 123, 124, 125, 126, 127, 128, 129, 130, 131, 132, 133, 134, 135, 121, 122, 136, 137, 138, 139, 140] (by decide +kernel) (by decide +kernel)
set_option maxRecDepth 20000 in
theorem gX4_fault_X2_read : GoodIn wsX4_fault (wsV RX4 94 RX2 yX2_read wsX2_read) := goodIn_app (goodIn_of _ (by decide +kernel)) ggX4_fault_X2_read
theorem dX4_fault_0 : decode cX4_fault 0 = .ok (.iload_n 1, 1) := by decide +kernel
theorem dX4_fault_1 : decode cX4_fault 1 = .ok (.iconst 4, 1) := by decide +kernel
theorem dX4_fault_2 : decode cX4_fault 2 = .ok (.invokestatic 55, 3) := by decide +kernel
theorem dX4_fault_5 : decode cX4_fault 5 = .ok (.ifCond .eq 5, 3) := by decide +kernel
theorem dX4_fault_8 : decode cX4_fault 8 = .ok (.iconst (-1), 1) := by decide +kernel
theorem dX4_fault_9 : decode cX4_fault 9 = .ok (.ireturn, 1) := by decide +kernel
theorem dX4_fault_10 : decode cX4_fault 10 = .ok (.aload_n 0, 1) := by decide +kernel
theorem dX4_fault_11 : decode cX4_fault 11 = .ok (.getfield 15, 3) := by decide +kernel
theorem dX4_fault_14 : decode cX4_fault 14 = .ok (.iload_n 1, 1) := by decide +kernel
theorem dX4_fault_15 : decode cX4_fault 15 = .ok (.aaload, 1) := by decide +kernel
theorem dX4_fault_16 : decode cX4_fault 16 = .ok (.invokevirtual 66, 3) := by decide +kernel
theorem dX4_fault_19 : decode cX4_fault 19 = .ok (.ifCond .eq 9, 3) := by decide +kernel
theorem dX4_fault_22 : decode cX4_fault 22 = .ok (.aload_n 0, 1) := by decide +kernel
theorem dX4_fault_23 : decode cX4_fault 23 = .ok (.iconst 1, 1) := by decide +kernel
theorem dX4_fault_24 : decode cX4_fault 24 = .ok (.invokevirtual 70, 3) := by decide +kernel
theorem dX4_fault_27 : decode cX4_fault 27 = .ok (.ireturn, 1) := by decide +kernel
theorem dX4_fault_28 : decode cX4_fault 28 = .ok (.aload_n 0, 1) := by decide +kernel
theorem dX4_fault_29 : decode cX4_fault 29 = .ok (.getfield 32, 3) := by decide +kernel
theorem dX4_fault_32 : decode cX4_fault 32 = .ok (.aload_n 0, 1) := by decide +kernel
theorem dX4_fault_33 : decode cX4_fault 33 = .ok (.getfield 15, 3) := by decide +kernel
theorem dX4_fault_36 : decode cX4_fault 36 = .ok (.iload_n 1, 1) := by decide +kernel
theorem dX4_fault_37 : decode cX4_fault 37 = .ok (.aaload, 1) := by decide +kernel
theorem dX4_fault_38 : decode cX4_fault 38 = .ok (.invokevirtual 94, 3) := by decide +kernel
theorem dX4_fault_41 : decode cX4_fault 41 = .ok (.ireturn, 1) := by decide +kernel
set_option maxRecDepth 20000 in
theorem ggX4_farms_X4_isNone : GoodIn wsX4_farms wsX4_isNone := goodIn_r _ [10] (by decide +kernel) (by decide +kernel)
set_option maxRecDepth 20000 in
theorem gX4_farms_X4_isNone : GoodIn wsX4_farms (va_wsS RX4 55 yX4_isNone wsX4_isNone) := goodIn_app (goodIn_of _ (by decide +kernel)) ggX4_farms_X4_isNone
set_option maxRecDepth 20000 in
theorem ggX4_farms_X3_isMissing : GoodIn wsX4_farms wsX3_isMissing := goodIn_r _ [15, 16, 152, 153] (by decide +kernel) (by decide +kernel)
set_option maxRecDepth 20000 in
theorem gX4_farms_X3_isMissing : GoodIn wsX4_farms (wsV RX4 66 RX3 yX3_isMissing wsX3_isMissing) := goodIn_app (goodIn_of _ (by decide +kernel)) ggX4_farms_X3_isMissing
set_option maxRecDepth 20000 in
theorem ggX4_farms_X4_refuse : GoodIn wsX4_farms wsX4_refuse := goodIn_r _ [20, 21, 22, 7, 8, 9, 10, 129, 130, 131, 132, 133, 134, 135, 136, 137, 138] (by decide +kernel) (by decide +kernel)
set_option maxRecDepth 20000 in
theorem gX4_farms_X4_refuse : GoodIn wsX4_farms (wsV RX4 70 RX4 yX4_refuse wsX4_refuse) := goodIn_app (goodIn_of _ (by decide +kernel)) ggX4_farms_X4_refuse
set_option maxRecDepth 20000 in
theorem ggX4_farms_X2_read : GoodIn wsX4_farms wsX2_read := goodIn_r _ [27, 28, 29, 30, 31, 32, 33, 34, 35, 36, 37, 38, 39, 40, 41, 42, 43, 26, 44, 45, 46, 47, 48, 49, 50, 51, 52, 53, 54, 55, 56, 57, 58, 59, 60, 61, 62, 14, 63, 16, 64, 65, 66, 67, 68, 69, 70, 71, 72, 73, 74, 75, 76, 77, 9, 78, 79, 80, 81, 82, 83, 84, 85, 86, 87, 88, 89, 90, 91, 92, 93, 94, 95, 96, 97, 98, 99, 100, 101, 102, 103, 104, 105, 106, 107, 108, 109, 110, 111, 112, 113, 114, 139, 140, 141, 142, 143, 144, 145, 146, 147, 148, 149, 150, 151, 152, 153, 154, 155, 156, 157, 158] (by decide +kernel) (by decide +kernel)
set_option maxRecDepth 20000 in
theorem gX4_farms_X2_read : GoodIn wsX4_farms (wsV RX4 94 RX2 yX2_read wsX2_read) := goodIn_app (goodIn_of _ (by decide +kernel)) ggX4_farms_X2_read
set_option maxRecDepth 20000 in
theorem ggX4_farms_X1_become : GoodIn wsX4_farms wsX1_become := goodIn_r _ [118, 71, 119, 120, 121, 122, 83, 37, 100, 123, 124, 125, 126, 127, 35, 36, 38, 39, 40, 101, 102, 103, 104, 105, 106, 107, 108, 109, 110, 111, 112, 113, 114, 141, 142, 143, 144, 145, 146, 147, 148, 149, 150, 151, 154, 155, 156, 157, 158] (by decide +kernel) (by decide +kernel)
set_option maxRecDepth 20000 in
theorem gX4_farms_X1_become : GoodIn wsX4_farms (wsV RX4 101 RX1 yX1_become wsX1_become) := goodIn_app (goodIn_of _ (by decide +kernel)) ggX4_farms_X1_become
set_option maxRecDepth 20000 in
theorem ggX4_farms_X1_clear : GoodIn wsX4_farms wsX1_clear := goodIn_r _ [34, 35, 36, 37, 38, 39, 40, 141, 142, 143, 144, 145, 146, 147, 148, 149, 150, 151] (by decide +kernel) (by decide +kernel)
set_option maxRecDepth 20000 in
theorem gX4_farms_X1_clear : GoodIn wsX4_farms (wsV RX4 105 RX1 yX1_clear wsX1_clear) := goodIn_app (goodIn_of _ (by decide +kernel)) ggX4_farms_X1_clear
theorem dX4_farms_0 : decode cX4_farms 0 = .ok (.iload_n 1, 1) := by decide +kernel
theorem dX4_farms_1 : decode cX4_farms 1 = .ok (.iconst 4, 1) := by decide +kernel
theorem dX4_farms_2 : decode cX4_farms 2 = .ok (.invokestatic 55, 3) := by decide +kernel
theorem dX4_farms_5 : decode cX4_farms 5 = .ok (.ifCond .eq 5, 3) := by decide +kernel
theorem dX4_farms_8 : decode cX4_farms 8 = .ok (.iconst (-1), 1) := by decide +kernel
theorem dX4_farms_9 : decode cX4_farms 9 = .ok (.ireturn, 1) := by decide +kernel
theorem dX4_farms_10 : decode cX4_farms 10 = .ok (.aload_n 0, 1) := by decide +kernel
theorem dX4_farms_11 : decode cX4_farms 11 = .ok (.getfield 15, 3) := by decide +kernel
theorem dX4_farms_14 : decode cX4_farms 14 = .ok (.iload_n 1, 1) := by decide +kernel
theorem dX4_farms_15 : decode cX4_farms 15 = .ok (.aaload, 1) := by decide +kernel
theorem dX4_farms_16 : decode cX4_farms 16 = .ok (.invokevirtual 66, 3) := by decide +kernel
theorem dX4_farms_19 : decode cX4_farms 19 = .ok (.ifCond .eq 9, 3) := by decide +kernel
theorem dX4_farms_22 : decode cX4_farms 22 = .ok (.aload_n 0, 1) := by decide +kernel
theorem dX4_farms_23 : decode cX4_farms 23 = .ok (.iconst 1, 1) := by decide +kernel
theorem dX4_farms_24 : decode cX4_farms 24 = .ok (.invokevirtual 70, 3) := by decide +kernel
theorem dX4_farms_27 : decode cX4_farms 27 = .ok (.ireturn, 1) := by decide +kernel
theorem dX4_farms_28 : decode cX4_farms 28 = .ok (.aload_n 0, 1) := by decide +kernel
theorem dX4_farms_29 : decode cX4_farms 29 = .ok (.getfield 32, 3) := by decide +kernel
theorem dX4_farms_32 : decode cX4_farms 32 = .ok (.aload_n 0, 1) := by decide +kernel
theorem dX4_farms_33 : decode cX4_farms 33 = .ok (.getfield 15, 3) := by decide +kernel
theorem dX4_farms_36 : decode cX4_farms 36 = .ok (.iload_n 1, 1) := by decide +kernel
theorem dX4_farms_37 : decode cX4_farms 37 = .ok (.aaload, 1) := by decide +kernel
theorem dX4_farms_38 : decode cX4_farms 38 = .ok (.invokevirtual 94, 3) := by decide +kernel
theorem dX4_farms_41 : decode cX4_farms 41 = .ok (.bipush (-9), 2) := by decide +kernel
theorem dX4_farms_43 : decode cX4_farms 43 = .ok (.if_icmp .eq 6, 3) := by decide +kernel
theorem dX4_farms_46 : decode cX4_farms 46 = .ok (.bipush (-4), 2) := by decide +kernel
theorem dX4_farms_48 : decode cX4_farms 48 = .ok (.ireturn, 1) := by decide +kernel
theorem dX4_farms_49 : decode cX4_farms 49 = .ok (.aload_n 0, 1) := by decide +kernel
theorem dX4_farms_50 : decode cX4_farms 50 = .ok (.getfield 21, 3) := by decide +kernel
theorem dX4_farms_53 : decode cX4_farms 53 = .ok (.aload_n 0, 1) := by decide +kernel
theorem dX4_farms_54 : decode cX4_farms 54 = .ok (.getfield 32, 3) := by decide +kernel
theorem dX4_farms_57 : decode cX4_farms 57 = .ok (.getfield 98, 3) := by decide +kernel
theorem dX4_farms_60 : decode cX4_farms 60 = .ok (.invokevirtual 101, 3) := by decide +kernel
theorem dX4_farms_63 : decode cX4_farms 63 = .ok (.iconst 0, 1) := by decide +kernel
theorem dX4_farms_64 : decode cX4_farms 64 = .ok (.istore_n 2, 1) := by decide +kernel
theorem dX4_farms_65 : decode cX4_farms 65 = .ok (.iload_n 2, 1) := by decide +kernel
theorem dX4_farms_66 : decode cX4_farms 66 = .ok (.iconst 3, 1) := by decide +kernel
theorem dX4_farms_67 : decode cX4_farms 67 = .ok (.if_icmp .ge 18, 3) := by decide +kernel
theorem dX4_farms_70 : decode cX4_farms 70 = .ok (.aload_n 0, 1) := by decide +kernel
theorem dX4_farms_71 : decode cX4_farms 71 = .ok (.getfield 25, 3) := by decide +kernel
theorem dX4_farms_74 : decode cX4_farms 74 = .ok (.iload_n 2, 1) := by decide +kernel
theorem dX4_farms_75 : decode cX4_farms 75 = .ok (.aaload, 1) := by decide +kernel
theorem dX4_farms_76 : decode cX4_farms 76 = .ok (.invokevirtual 105, 3) := by decide +kernel
theorem dX4_farms_79 : decode cX4_farms 79 = .ok (.iinc 2 1, 3) := by decide +kernel
theorem dX4_farms_82 : decode cX4_farms 82 = .ok (.goto (-17), 3) := by decide +kernel
theorem dX4_farms_85 : decode cX4_farms 85 = .ok (.aload_n 0, 1) := by decide +kernel
theorem dX4_farms_86 : decode cX4_farms 86 = .ok (.getfield 21, 3) := by decide +kernel
theorem dX4_farms_89 : decode cX4_farms 89 = .ok (.getfield 108, 3) := by decide +kernel
theorem dX4_farms_92 : decode cX4_farms 92 = .ok (.ireturn, 1) := by decide +kernel
set_option maxRecDepth 20000 in
theorem ggX4_beast_X4_isNone : GoodIn wsX4_beast wsX4_isNone := goodIn_r _ [8] (by decide +kernel) (by decide +kernel)
set_option maxRecDepth 20000 in
theorem gX4_beast_X4_isNone : GoodIn wsX4_beast (va_wsS RX4 55 yX4_isNone wsX4_isNone) := goodIn_app (goodIn_of _ (by decide +kernel)) ggX4_beast_X4_isNone
set_option maxRecDepth 20000 in
theorem ggX4_beast_X0_tell : GoodIn wsX4_beast wsX0_tell := goodIn_r _ [13, 14, 15, 16, 17, 18, 40, 41, 42, 43, 44] (by decide +kernel) (by decide +kernel)
set_option maxRecDepth 20000 in
theorem gX4_beast_X0_tell : GoodIn wsX4_beast (wsV RX4 115 RX0 yX0_tell wsX0_tell) := goodIn_app (goodIn_of _ (by decide +kernel)) ggX4_beast_X0_tell
theorem dX4_beast_0 : decode cX4_beast 0 = .ok (.iload_n 1, 1) := by decide +kernel
theorem dX4_beast_1 : decode cX4_beast 1 = .ok (.aload_n 0, 1) := by decide +kernel
theorem dX4_beast_2 : decode cX4_beast 2 = .ok (.getfield 21, 3) := by decide +kernel
theorem dX4_beast_5 : decode cX4_beast 5 = .ok (.getfield 108, 3) := by decide +kernel
theorem dX4_beast_8 : decode cX4_beast 8 = .ok (.invokestatic 55, 3) := by decide +kernel
theorem dX4_beast_11 : decode cX4_beast 11 = .ok (.ifCond .ne 11, 3) := by decide +kernel
theorem dX4_beast_14 : decode cX4_beast 14 = .ok (.iload_n 2, 1) := by decide +kernel
theorem dX4_beast_15 : decode cX4_beast 15 = .ok (.iconst 5, 1) := by decide +kernel
theorem dX4_beast_16 : decode cX4_beast 16 = .ok (.invokestatic 55, 3) := by decide +kernel
theorem dX4_beast_19 : decode cX4_beast 19 = .ok (.ifCond .eq 5, 3) := by decide +kernel
theorem dX4_beast_22 : decode cX4_beast 22 = .ok (.iconst (-1), 1) := by decide +kernel
theorem dX4_beast_23 : decode cX4_beast 23 = .ok (.ireturn, 1) := by decide +kernel
theorem dX4_beast_24 : decode cX4_beast 24 = .ok (.aload_n 0, 1) := by decide +kernel
theorem dX4_beast_25 : decode cX4_beast 25 = .ok (.aload_n 0, 1) := by decide +kernel
theorem dX4_beast_26 : decode cX4_beast 26 = .ok (.getfield 21, 3) := by decide +kernel
theorem dX4_beast_29 : decode cX4_beast 29 = .ok (.getfield 111, 3) := by decide +kernel
theorem dX4_beast_32 : decode cX4_beast 32 = .ok (.iload_n 1, 1) := by decide +kernel
theorem dX4_beast_33 : decode cX4_beast 33 = .ok (.aaload, 1) := by decide +kernel
theorem dX4_beast_34 : decode cX4_beast 34 = .ok (.iload_n 2, 1) := by decide +kernel
theorem dX4_beast_35 : decode cX4_beast 35 = .ok (.invokevirtual 115, 3) := by decide +kernel
theorem dX4_beast_38 : decode cX4_beast 38 = .ok (.putfield 74, 3) := by decide +kernel
theorem dX4_beast_41 : decode cX4_beast 41 = .ok (.iconst 1, 1) := by decide +kernel
theorem dX4_beast_42 : decode cX4_beast 42 = .ok (.ireturn, 1) := by decide +kernel
set_option maxRecDepth 20000 in
theorem ggX4_mark_X4_isNone : GoodIn wsX4_mark wsX4_isNone := goodIn_r _ [11] (by decide +kernel) (by decide +kernel)
set_option maxRecDepth 20000 in
theorem gX4_mark_X4_isNone : GoodIn wsX4_mark (va_wsS RX4 55 yX4_isNone wsX4_isNone) := goodIn_app (goodIn_of _ (by decide +kernel)) ggX4_mark_X4_isNone
set_option maxRecDepth 20000 in
theorem ggX4_mark_X4_outside : GoodIn wsX4_mark wsX4_outside := goodIn_r _ [14] (by decide +kernel) (by decide +kernel)
set_option maxRecDepth 20000 in
theorem gX4_mark_X4_outside : GoodIn wsX4_mark (va_wsS RX4 120 yX4_outside wsX4_outside) := goodIn_app (goodIn_of _ (by decide +kernel)) ggX4_mark_X4_outside
set_option maxRecDepth 20000 in
theorem ggX4_mark_X0_isOf : GoodIn wsX4_mark wsX0_isOf := goodIn_r _ [19, 20, 62, 63, 64, 65, 66] (by decide +kernel) (by decide +kernel)
set_option maxRecDepth 20000 in
theorem gX4_mark_X0_isOf : GoodIn wsX4_mark (wsV RX4 124 RX0 yX0_isOf wsX0_isOf) := goodIn_app (goodIn_of _ (by decide +kernel)) ggX4_mark_X0_isOf
set_option maxRecDepth 20000 in
theorem ggX4_mark_X4_refuse : GoodIn wsX4_mark wsX4_refuse := goodIn_r _ [24, 25, 26, 8, 9, 10, 11, 41, 42, 43, 44, 45, 46, 47, 48, 49, 50] (by decide +kernel) (by decide +kernel)
set_option maxRecDepth 20000 in
theorem gX4_mark_X4_refuse : GoodIn wsX4_mark (wsV RX4 70 RX4 yX4_refuse wsX4_refuse) := goodIn_app (goodIn_of _ (by decide +kernel)) ggX4_mark_X4_refuse
set_option maxRecDepth 20000 in
theorem ggX4_mark_X1_youngOnesOf : GoodIn wsX4_mark wsX1_youngOnesOf := goodIn_r _ [31, 32, 33, 34, 35, 16, 17, 18, 19, 20, 51, 52, 53, 54, 55, 56, 57, 58, 59, 60, 61, 62, 63, 64, 65, 66] (by decide +kernel) (by decide +kernel)
set_option maxRecDepth 20000 in
theorem gX4_mark_X1_youngOnesOf : GoodIn wsX4_mark (wsV RX4 139 RX1 yX1_youngOnesOf wsX1_youngOnesOf) := goodIn_app (goodIn_of _ (by decide +kernel)) ggX4_mark_X1_youngOnesOf
set_option maxRecDepth 20000 in
theorem ggX4_mark_X1_howManyBelow : GoodIn wsX4_mark wsX1_howManyBelow := goodIn_r _ [39, 32, 33, 40, 51, 52, 53, 54, 55, 56, 57, 58, 59, 60, 61, 62, 63, 64, 65, 66] (by decide +kernel) (by decide +kernel)
set_option maxRecDepth 20000 in
theorem gX4_mark_X1_howManyBelow : GoodIn wsX4_mark (wsV RX4 142 RX1 yX1_howManyBelow wsX1_howManyBelow) := goodIn_app (goodIn_of _ (by decide +kernel)) ggX4_mark_X1_howManyBelow
theorem dX4_mark_0 : decode cX4_mark 0 = .ok (.iload_n 1, 1) := by decide +kernel
theorem dX4_mark_1 : decode cX4_mark 1 = .ok (.aload_n 0, 1) := by decide +kernel
theorem dX4_mark_2 : decode cX4_mark 2 = .ok (.getfield 21, 3) := by decide +kernel
theorem dX4_mark_5 : decode cX4_mark 5 = .ok (.getfield 108, 3) := by decide +kernel
theorem dX4_mark_8 : decode cX4_mark 8 = .ok (.invokestatic 55, 3) := by decide +kernel
theorem dX4_mark_11 : decode cX4_mark 11 = .ok (.ifCond .ne 12, 3) := by decide +kernel
theorem dX4_mark_14 : decode cX4_mark 14 = .ok (.iload_n 2, 1) := by decide +kernel
theorem dX4_mark_15 : decode cX4_mark 15 = .ok (.iconst 1, 1) := by decide +kernel
theorem dX4_mark_16 : decode cX4_mark 16 = .ok (.iconst 5, 1) := by decide +kernel
theorem dX4_mark_17 : decode cX4_mark 17 = .ok (.invokestatic 120, 3) := by decide +kernel
theorem dX4_mark_20 : decode cX4_mark 20 = .ok (.ifCond .eq 5, 3) := by decide +kernel
theorem dX4_mark_23 : decode cX4_mark 23 = .ok (.iconst (-1), 1) := by decide +kernel
theorem dX4_mark_24 : decode cX4_mark 24 = .ok (.ireturn, 1) := by decide +kernel
theorem dX4_mark_25 : decode cX4_mark 25 = .ok (.aload_n 0, 1) := by decide +kernel
theorem dX4_mark_26 : decode cX4_mark 26 = .ok (.getfield 21, 3) := by decide +kernel
theorem dX4_mark_29 : decode cX4_mark 29 = .ok (.getfield 111, 3) := by decide +kernel
theorem dX4_mark_32 : decode cX4_mark 32 = .ok (.iload_n 1, 1) := by decide +kernel
theorem dX4_mark_33 : decode cX4_mark 33 = .ok (.aaload, 1) := by decide +kernel
theorem dX4_mark_34 : decode cX4_mark 34 = .ok (.astore_n 3, 1) := by decide +kernel
theorem dX4_mark_35 : decode cX4_mark 35 = .ok (.aload_n 3, 1) := by decide +kernel
theorem dX4_mark_36 : decode cX4_mark 36 = .ok (.iload_n 2, 1) := by decide +kernel
theorem dX4_mark_37 : decode cX4_mark 37 = .ok (.invokevirtual 124, 3) := by decide +kernel
theorem dX4_mark_40 : decode cX4_mark 40 = .ok (.ifCond .ne 9, 3) := by decide +kernel
theorem dX4_mark_43 : decode cX4_mark 43 = .ok (.aload_n 0, 1) := by decide +kernel
theorem dX4_mark_44 : decode cX4_mark 44 = .ok (.iconst 3, 1) := by decide +kernel
theorem dX4_mark_45 : decode cX4_mark 45 = .ok (.invokevirtual 70, 3) := by decide +kernel
theorem dX4_mark_48 : decode cX4_mark 48 = .ok (.ireturn, 1) := by decide +kernel
theorem dX4_mark_49 : decode cX4_mark 49 = .ok (.iload_n 2, 1) := by decide +kernel
theorem dX4_mark_50 : decode cX4_mark 50 = .ok (.tableswitch 76 1 4 #[30, 42, 52, 62], 30) := by decide +kernel
theorem dX4_mark_80 : decode cX4_mark 80 = .ok (.iconst 2, 1) := by decide +kernel
theorem dX4_mark_81 : decode cX4_mark 81 = .ok (.aload_n 3, 1) := by decide +kernel
theorem dX4_mark_82 : decode cX4_mark 82 = .ok (.getfield 127, 3) := by decide +kernel
theorem dX4_mark_85 : decode cX4_mark 85 = .ok (.imul, 1) := by decide +kernel
theorem dX4_mark_86 : decode cX4_mark 86 = .ok (.aload_n 3, 1) := by decide +kernel
theorem dX4_mark_87 : decode cX4_mark 87 = .ok (.getfield 130, 3) := by decide +kernel
theorem dX4_mark_90 : decode cX4_mark 90 = .ok (.isub, 1) := by decide +kernel
theorem dX4_mark_91 : decode cX4_mark 91 = .ok (.ireturn, 1) := by decide +kernel
theorem dX4_mark_92 : decode cX4_mark 92 = .ok (.aload_n 3, 1) := by decide +kernel
theorem dX4_mark_93 : decode cX4_mark 93 = .ok (.getfield 133, 3) := by decide +kernel
theorem dX4_mark_96 : decode cX4_mark 96 = .ok (.aload_n 3, 1) := by decide +kernel
theorem dX4_mark_97 : decode cX4_mark 97 = .ok (.getfield 130, 3) := by decide +kernel
theorem dX4_mark_100 : decode cX4_mark 100 = .ok (.isub, 1) := by decide +kernel
theorem dX4_mark_101 : decode cX4_mark 101 = .ok (.ireturn, 1) := by decide +kernel
theorem dX4_mark_102 : decode cX4_mark 102 = .ok (.aload_n 3, 1) := by decide +kernel
theorem dX4_mark_103 : decode cX4_mark 103 = .ok (.getfield 130, 3) := by decide +kernel
theorem dX4_mark_106 : decode cX4_mark 106 = .ok (.aload_n 3, 1) := by decide +kernel
theorem dX4_mark_107 : decode cX4_mark 107 = .ok (.getfield 133, 3) := by decide +kernel
theorem dX4_mark_110 : decode cX4_mark 110 = .ok (.isub, 1) := by decide +kernel
theorem dX4_mark_111 : decode cX4_mark 111 = .ok (.ireturn, 1) := by decide +kernel
theorem dX4_mark_112 : decode cX4_mark 112 = .ok (.aload_n 0, 1) := by decide +kernel
theorem dX4_mark_113 : decode cX4_mark 113 = .ok (.getfield 21, 3) := by decide +kernel
theorem dX4_mark_116 : decode cX4_mark 116 = .ok (.aload_n 3, 1) := by decide +kernel
theorem dX4_mark_117 : decode cX4_mark 117 = .ok (.getfield 136, 3) := by decide +kernel
theorem dX4_mark_120 : decode cX4_mark 120 = .ok (.invokevirtual 139, 3) := by decide +kernel
theorem dX4_mark_123 : decode cX4_mark 123 = .ok (.iconst 1, 1) := by decide +kernel
theorem dX4_mark_124 : decode cX4_mark 124 = .ok (.isub, 1) := by decide +kernel
theorem dX4_mark_125 : decode cX4_mark 125 = .ok (.ireturn, 1) := by decide +kernel
theorem dX4_mark_126 : decode cX4_mark 126 = .ok (.aload_n 0, 1) := by decide +kernel
theorem dX4_mark_127 : decode cX4_mark 127 = .ok (.getfield 21, 3) := by decide +kernel
theorem dX4_mark_130 : decode cX4_mark 130 = .ok (.aload_n 3, 1) := by decide +kernel
theorem dX4_mark_131 : decode cX4_mark 131 = .ok (.getfield 130, 3) := by decide +kernel
theorem dX4_mark_134 : decode cX4_mark 134 = .ok (.invokevirtual 142, 3) := by decide +kernel
theorem dX4_mark_137 : decode cX4_mark 137 = .ok (.ireturn, 1) := by decide +kernel
set_option maxRecDepth 20000 in
theorem ggX4_turn_X4_isNone : GoodIn wsX4_turn wsX4_isNone := goodIn_r _ [8] (by decide +kernel) (by decide +kernel)
set_option maxRecDepth 20000 in
theorem gX4_turn_X4_isNone : GoodIn wsX4_turn (va_wsS RX4 55 yX4_isNone wsX4_isNone) := goodIn_app (goodIn_of _ (by decide +kernel)) ggX4_turn_X4_isNone
set_option maxRecDepth 20000 in
theorem ggX4_turn_X4_isNoFarm : GoodIn wsX4_turn wsX4_isNoFarm := goodIn_r _ [11, 12, 13, 7, 14] (by decide +kernel) (by decide +kernel)
set_option maxRecDepth 20000 in
theorem gX4_turn_X4_isNoFarm : GoodIn wsX4_turn (va_wsS RX4 148 yX4_isNoFarm wsX4_isNoFarm) := goodIn_app (goodIn_of _ (by decide +kernel)) ggX4_turn_X4_isNoFarm
theorem dX4_turn_0 : decode cX4_turn 0 = .ok (.iload_n 1, 1) := by decide +kernel
theorem dX4_turn_1 : decode cX4_turn 1 = .ok (.aload_n 0, 1) := by decide +kernel
theorem dX4_turn_2 : decode cX4_turn 2 = .ok (.getfield 21, 3) := by decide +kernel
theorem dX4_turn_5 : decode cX4_turn 5 = .ok (.getfield 145, 3) := by decide +kernel
theorem dX4_turn_8 : decode cX4_turn 8 = .ok (.invokestatic 55, 3) := by decide +kernel
theorem dX4_turn_11 : decode cX4_turn 11 = .ok (.ifCond .ne 10, 3) := by decide +kernel
theorem dX4_turn_14 : decode cX4_turn 14 = .ok (.iload_n 2, 1) := by decide +kernel
theorem dX4_turn_15 : decode cX4_turn 15 = .ok (.invokestatic 148, 3) := by decide +kernel
theorem dX4_turn_18 : decode cX4_turn 18 = .ok (.ifCond .eq 5, 3) := by decide +kernel
theorem dX4_turn_21 : decode cX4_turn 21 = .ok (.iconst (-1), 1) := by decide +kernel
theorem dX4_turn_22 : decode cX4_turn 22 = .ok (.ireturn, 1) := by decide +kernel
theorem dX4_turn_23 : decode cX4_turn 23 = .ok (.aload_n 0, 1) := by decide +kernel
theorem dX4_turn_24 : decode cX4_turn 24 = .ok (.getfield 21, 3) := by decide +kernel
theorem dX4_turn_27 : decode cX4_turn 27 = .ok (.getfield 151, 3) := by decide +kernel
theorem dX4_turn_30 : decode cX4_turn 30 = .ok (.ifCond .le 6, 3) := by decide +kernel
theorem dX4_turn_33 : decode cX4_turn 33 = .ok (.bipush (-4), 2) := by decide +kernel
theorem dX4_turn_35 : decode cX4_turn 35 = .ok (.ireturn, 1) := by decide +kernel
theorem dX4_turn_36 : decode cX4_turn 36 = .ok (.aload_n 0, 1) := by decide +kernel
theorem dX4_turn_37 : decode cX4_turn 37 = .ok (.getfield 21, 3) := by decide +kernel
theorem dX4_turn_40 : decode cX4_turn 40 = .ok (.getfield 154, 3) := by decide +kernel
theorem dX4_turn_43 : decode cX4_turn 43 = .ok (.iload_n 1, 1) := by decide +kernel
theorem dX4_turn_44 : decode cX4_turn 44 = .ok (.iaload, 1) := by decide +kernel
theorem dX4_turn_45 : decode cX4_turn 45 = .ok (.istore_n 3, 1) := by decide +kernel
theorem dX4_turn_46 : decode cX4_turn 46 = .ok (.aload_n 0, 1) := by decide +kernel
theorem dX4_turn_47 : decode cX4_turn 47 = .ok (.getfield 21, 3) := by decide +kernel
theorem dX4_turn_50 : decode cX4_turn 50 = .ok (.getfield 154, 3) := by decide +kernel
theorem dX4_turn_53 : decode cX4_turn 53 = .ok (.iload_n 1, 1) := by decide +kernel
theorem dX4_turn_54 : decode cX4_turn 54 = .ok (.iload_n 2, 1) := by decide +kernel
theorem dX4_turn_55 : decode cX4_turn 55 = .ok (.iastore, 1) := by decide +kernel
theorem dX4_turn_56 : decode cX4_turn 56 = .ok (.iload_n 3, 1) := by decide +kernel
theorem dX4_turn_57 : decode cX4_turn 57 = .ok (.ireturn, 1) := by decide +kernel
set_option maxRecDepth 20000 in
theorem ggX4_day_X1_isMissing : GoodIn wsX4_day wsX1_isMissing := goodIn_r _ [8, 9, 32, 33, 34, 35, 36, 37, 38, 39, 40, 41, 42] (by decide +kernel) (by decide +kernel)
set_option maxRecDepth 20000 in
theorem gX4_day_X1_isMissing : GoodIn wsX4_day (wsV RX4 157 RX1 yX1_isMissing wsX1_isMissing) := goodIn_app (goodIn_of _ (by decide +kernel)) ggX4_day_X1_isMissing
set_option maxRecDepth 20000 in
theorem ggX4_day_X1_letDayGoBy : GoodIn wsX4_day wsX1_letDayGoBy := goodIn_r _ [13, 14, 15, 16, 17, 7, 18, 19, 20, 21, 32, 33, 34, 35, 36, 37, 38, 39, 40, 41, 42] (by decide +kernel) (by decide +kernel)
set_option maxRecDepth 20000 in
theorem gX4_day_X1_letDayGoBy : GoodIn wsX4_day (wsV RX4 161 RX1 yX1_letDayGoBy wsX1_letDayGoBy) := goodIn_app (goodIn_of _ (by decide +kernel)) ggX4_day_X1_letDayGoBy
theorem dX4_day_0 : decode cX4_day 0 = .ok (.aload_n 0, 1) := by decide +kernel
theorem dX4_day_1 : decode cX4_day 1 = .ok (.getfield 21, 3) := by decide +kernel
theorem dX4_day_4 : decode cX4_day 4 = .ok (.invokevirtual 157, 3) := by decide +kernel
theorem dX4_day_7 : decode cX4_day 7 = .ok (.ifCond .ne 16, 3) := by decide +kernel
theorem dX4_day_10 : decode cX4_day 10 = .ok (.aload_n 0, 1) := by decide +kernel
theorem dX4_day_11 : decode cX4_day 11 = .ok (.getfield 21, 3) := by decide +kernel
theorem dX4_day_14 : decode cX4_day 14 = .ok (.getfield 158, 3) := by decide +kernel
theorem dX4_day_17 : decode cX4_day 17 = .ok (.sipush 999, 3) := by decide +kernel
theorem dX4_day_20 : decode cX4_day 20 = .ok (.if_icmp .lt 6, 3) := by decide +kernel
theorem dX4_day_23 : decode cX4_day 23 = .ok (.bipush (-4), 2) := by decide +kernel
theorem dX4_day_25 : decode cX4_day 25 = .ok (.ireturn, 1) := by decide +kernel
theorem dX4_day_26 : decode cX4_day 26 = .ok (.aload_n 0, 1) := by decide +kernel
theorem dX4_day_27 : decode cX4_day 27 = .ok (.getfield 21, 3) := by decide +kernel
theorem dX4_day_30 : decode cX4_day 30 = .ok (.getfield 151, 3) := by decide +kernel
theorem dX4_day_33 : decode cX4_day 33 = .ok (.bipush 60, 2) := by decide +kernel
theorem dX4_day_35 : decode cX4_day 35 = .ok (.if_icmp .lt 6, 3) := by decide +kernel
theorem dX4_day_38 : decode cX4_day 38 = .ok (.bipush (-2), 2) := by decide +kernel
theorem dX4_day_40 : decode cX4_day 40 = .ok (.ireturn, 1) := by decide +kernel
theorem dX4_day_41 : decode cX4_day 41 = .ok (.aload_n 0, 1) := by decide +kernel
theorem dX4_day_42 : decode cX4_day 42 = .ok (.getfield 21, 3) := by decide +kernel
theorem dX4_day_45 : decode cX4_day 45 = .ok (.invokevirtual 161, 3) := by decide +kernel
theorem dX4_day_48 : decode cX4_day 48 = .ok (.aload_n 0, 1) := by decide +kernel
theorem dX4_day_49 : decode cX4_day 49 = .ok (.getfield 21, 3) := by decide +kernel
theorem dX4_day_52 : decode cX4_day 52 = .ok (.getfield 158, 3) := by decide +kernel
theorem dX4_day_55 : decode cX4_day 55 = .ok (.ireturn, 1) := by decide +kernel
set_option maxRecDepth 20000 in
theorem ggX4_drive_X4_isNone : GoodIn wsX4_drive wsX4_isNone := goodIn_r _ [9] (by decide +kernel) (by decide +kernel)
set_option maxRecDepth 20000 in
theorem gX4_drive_X4_isNone : GoodIn wsX4_drive (va_wsS RX4 55 yX4_isNone wsX4_isNone) := goodIn_app (goodIn_of _ (by decide +kernel)) ggX4_drive_X4_isNone
set_option maxRecDepth 20000 in
theorem ggX4_drive_X1_driveOver : GoodIn wsX4_drive wsX1_driveOver := goodIn_r _ [14, 15, 16, 17, 7, 8, 9, 18, 19, 20, 13, 21, 22, 23, 24, 35, 36, 37, 38, 39, 40, 41, 42, 43, 44, 45, 46, 47, 48, 49, 50] (by decide +kernel) (by decide +kernel)
set_option maxRecDepth 20000 in
theorem gX4_drive_X1_driveOver : GoodIn wsX4_drive (wsV RX4 164 RX1 yX1_driveOver wsX1_driveOver) := goodIn_app (goodIn_of _ (by decide +kernel)) ggX4_drive_X1_driveOver
theorem dX4_drive_0 : decode cX4_drive 0 = .ok (.iload_n 1, 1) := by decide +kernel
theorem dX4_drive_1 : decode cX4_drive 1 = .ok (.aload_n 0, 1) := by decide +kernel
theorem dX4_drive_2 : decode cX4_drive 2 = .ok (.getfield 21, 3) := by decide +kernel
theorem dX4_drive_5 : decode cX4_drive 5 = .ok (.getfield 108, 3) := by decide +kernel
theorem dX4_drive_8 : decode cX4_drive 8 = .ok (.invokestatic 55, 3) := by decide +kernel
theorem dX4_drive_11 : decode cX4_drive 11 = .ok (.ifCond .eq 5, 3) := by decide +kernel
theorem dX4_drive_14 : decode cX4_drive 14 = .ok (.iconst (-1), 1) := by decide +kernel
theorem dX4_drive_15 : decode cX4_drive 15 = .ok (.ireturn, 1) := by decide +kernel
theorem dX4_drive_16 : decode cX4_drive 16 = .ok (.aload_n 0, 1) := by decide +kernel
theorem dX4_drive_17 : decode cX4_drive 17 = .ok (.getfield 21, 3) := by decide +kernel
theorem dX4_drive_20 : decode cX4_drive 20 = .ok (.getfield 151, 3) := by decide +kernel
theorem dX4_drive_23 : decode cX4_drive 23 = .ok (.bipush 60, 2) := by decide +kernel
theorem dX4_drive_25 : decode cX4_drive 25 = .ok (.if_icmp .lt 6, 3) := by decide +kernel
theorem dX4_drive_28 : decode cX4_drive 28 = .ok (.bipush (-2), 2) := by decide +kernel
theorem dX4_drive_30 : decode cX4_drive 30 = .ok (.ireturn, 1) := by decide +kernel
theorem dX4_drive_31 : decode cX4_drive 31 = .ok (.aload_n 0, 1) := by decide +kernel
theorem dX4_drive_32 : decode cX4_drive 32 = .ok (.getfield 21, 3) := by decide +kernel
theorem dX4_drive_35 : decode cX4_drive 35 = .ok (.iload_n 1, 1) := by decide +kernel
theorem dX4_drive_36 : decode cX4_drive 36 = .ok (.invokevirtual 164, 3) := by decide +kernel
theorem dX4_drive_39 : decode cX4_drive 39 = .ok (.aload_n 0, 1) := by decide +kernel
theorem dX4_drive_40 : decode cX4_drive 40 = .ok (.getfield 21, 3) := by decide +kernel
theorem dX4_drive_43 : decode cX4_drive 43 = .ok (.getfield 111, 3) := by decide +kernel
theorem dX4_drive_46 : decode cX4_drive 46 = .ok (.iload_n 1, 1) := by decide +kernel
theorem dX4_drive_47 : decode cX4_drive 47 = .ok (.aaload, 1) := by decide +kernel
theorem dX4_drive_48 : decode cX4_drive 48 = .ok (.getfield 136, 3) := by decide +kernel
theorem dX4_drive_51 : decode cX4_drive 51 = .ok (.ireturn, 1) := by decide +kernel
set_option maxRecDepth 20000 in
theorem ggX4_pay_X4_isNoFarm : GoodIn wsX4_pay wsX4_isNoFarm := goodIn_r _ [7, 8, 9, 6, 10] (by decide +kernel) (by decide +kernel)
set_option maxRecDepth 20000 in
theorem gX4_pay_X4_isNoFarm : GoodIn wsX4_pay (va_wsS RX4 148 yX4_isNoFarm wsX4_isNoFarm) := goodIn_app (goodIn_of _ (by decide +kernel)) ggX4_pay_X4_isNoFarm
set_option maxRecDepth 20000 in
theorem ggX4_pay_X4_outside : GoodIn wsX4_pay wsX4_outside := goodIn_r _ [10] (by decide +kernel) (by decide +kernel)
set_option maxRecDepth 20000 in
theorem gX4_pay_X4_outside : GoodIn wsX4_pay (va_wsS RX4 120 yX4_outside wsX4_outside) := goodIn_app (goodIn_of _ (by decide +kernel)) ggX4_pay_X4_outside
set_option maxRecDepth 20000 in
theorem ggX4_pay_X1_isMissing : GoodIn wsX4_pay wsX1_isMissing := goodIn_r _ [15, 16, 39, 40, 41, 42, 43, 44, 45, 46, 47, 48, 49] (by decide +kernel) (by decide +kernel)
set_option maxRecDepth 20000 in
theorem gX4_pay_X1_isMissing : GoodIn wsX4_pay (wsV RX4 157 RX1 yX1_isMissing wsX1_isMissing) := goodIn_app (goodIn_of _ (by decide +kernel)) ggX4_pay_X1_isMissing
set_option maxRecDepth 20000 in
theorem ggX4_pay_X1_payOver : GoodIn wsX4_pay wsX1_payOver := goodIn_r _ [20, 21, 22, 23, 24, 14, 25, 26, 27, 28, 39, 40, 41, 42, 43, 44, 45, 46, 47, 48, 49] (by decide +kernel) (by decide +kernel)
set_option maxRecDepth 20000 in
theorem gX4_pay_X1_payOver : GoodIn wsX4_pay (wsV RX4 167 RX1 yX1_payOver wsX1_payOver) := goodIn_app (goodIn_of _ (by decide +kernel)) ggX4_pay_X1_payOver
