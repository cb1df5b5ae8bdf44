theorem dX5_fitsBy_41 : decode cX5_fitsBy 41 = .ok (.getfield 13, 3) := by decide +kernel
theorem dX5_fitsBy_44 : decode cX5_fitsBy 44 = .ok (.bipush 40, 2) := by decide +kernel
theorem dX5_fitsBy_46 : decode cX5_fitsBy 46 = .ok (.iload_n 2, 1) := by decide +kernel
theorem dX5_fitsBy_47 : decode cX5_fitsBy 47 = .ok (.imul, 1) := by decide +kernel
theorem dX5_fitsBy_48 : decode cX5_fitsBy 48 = .ok (.iload 5, 2) := by decide +kernel
theorem dX5_fitsBy_50 : decode cX5_fitsBy 50 = .ok (.iadd, 1) := by decide +kernel
theorem dX5_fitsBy_51 : decode cX5_fitsBy 51 = .ok (.iconst 1, 1) := by decide +kernel
theorem dX5_fitsBy_52 : decode cX5_fitsBy 52 = .ok (.iadd, 1) := by decide +kernel
theorem dX5_fitsBy_53 : decode cX5_fitsBy 53 = .ok (.iaload, 1) := by decide +kernel
theorem dX5_fitsBy_54 : decode cX5_fitsBy 54 = .ok (.if_icmp .ne 7, 3) := by decide +kernel
theorem dX5_fitsBy_57 : decode cX5_fitsBy 57 = .ok (.iconst 1, 1) := by decide +kernel
theorem dX5_fitsBy_58 : decode cX5_fitsBy 58 = .ok (.goto 4, 3) := by decide +kernel
theorem dX5_fitsBy_61 : decode cX5_fitsBy 61 = .ok (.iconst 0, 1) := by decide +kernel
theorem dX5_fitsBy_62 : decode cX5_fitsBy 62 = .ok (.istore 4, 2) := by decide +kernel
theorem dX5_fitsBy_64 : decode cX5_fitsBy 64 = .ok (.iinc 5 2, 3) := by decide +kernel
theorem dX5_fitsBy_67 : decode cX5_fitsBy 67 = .ok (.goto (-61), 3) := by decide +kernel
theorem dX5_fitsBy_70 : decode cX5_fitsBy 70 = .ok (.iload 4, 2) := by decide +kernel
theorem dX5_fitsBy_72 : decode cX5_fitsBy 72 = .ok (.ireturn, 1) := by decide +kernel
set_option maxRecDepth 20000 in
theorem ggX5_fits_X5_isRow : GoodIn wsX5_fits wsX5_isRow := goodIn_r _ [6, 7, 8, 5, 9] (by decide +kernel) (by decide +kernel)
set_option maxRecDepth 20000 in
theorem gX5_fits_X5_isRow : GoodIn wsX5_fits (va_wsS RX5 62 yX5_isRow wsX5_isRow) := goodIn_app (goodIn_of _ (by decide +kernel)) ggX5_fits_X5_isRow
set_option maxRecDepth 20000 in
theorem ggX5_fits_X5_in : GoodIn wsX5_fits wsX5_in := goodIn_r _ [9] (by decide +kernel) (by decide +kernel)
set_option maxRecDepth 20000 in
theorem gX5_fits_X5_in : GoodIn wsX5_fits (va_wsS RX5 58 yX5_in wsX5_in) := goodIn_app (goodIn_of _ (by decide +kernel)) ggX5_fits_X5_in
set_option maxRecDepth 20000 in
theorem ggX5_fits_X5_wrongIn : GoodIn wsX5_fits wsX5_wrongIn := goodIn_r _ [13, 14, 15, 16, 17, 5, 18, 7, 8, 9, 34, 35, 36, 37, 38, 39, 40, 41, 42, 43, 44, 45, 46, 47, 48, 49, 50] (by decide +kernel) (by decide +kernel)
set_option maxRecDepth 20000 in
theorem gX5_fits_X5_wrongIn : GoodIn wsX5_fits (wsV RX5 200 RX5 yX5_wrongIn wsX5_wrongIn) := goodIn_app (goodIn_of _ (by decide +kernel)) ggX5_fits_X5_wrongIn
set_option maxRecDepth 20000 in
theorem ggX5_fits_X5_finds : GoodIn wsX5_fits wsX5_finds := goodIn_r _ [22, 23, 24, 34, 35, 36, 37, 38, 39, 40, 41, 42, 43, 44, 45, 46, 47, 48, 49, 50] (by decide +kernel) (by decide +kernel)
set_option maxRecDepth 20000 in
theorem gX5_fits_X5_finds : GoodIn wsX5_fits (wsV RX5 66 RX5 yX5_finds wsX5_finds) := goodIn_app (goodIn_of _ (by decide +kernel)) ggX5_fits_X5_finds
set_option maxRecDepth 20000 in
theorem ggX5_fits_X5_fitsBy : GoodIn wsX5_fits wsX5_fitsBy := goodIn_r _ [28, 14, 15, 34, 35, 36, 37, 38, 39, 40, 41, 42, 43, 44, 45, 46, 47, 48, 49, 50] (by decide +kernel) (by decide +kernel)
set_option maxRecDepth 20000 in
theorem gX5_fits_X5_fitsBy : GoodIn wsX5_fits (wsV RX5 203 RX5 yX5_fitsBy wsX5_fitsBy) := goodIn_app (goodIn_of _ (by decide +kernel)) ggX5_fits_X5_fitsBy
set_option maxRecDepth 20000 in
theorem ggX5_fits_X5_tells : GoodIn wsX5_fits wsX5_tells := goodIn_r _ [32, 33, 34, 35, 36, 37, 38, 39, 40, 41, 42, 43, 44, 45, 46, 47, 48, 49, 50] (by decide +kernel) (by decide +kernel)
set_option maxRecDepth 20000 in
theorem gX5_fits_X5_tells : GoodIn wsX5_fits (wsV RX5 78 RX5 yX5_tells wsX5_tells) := goodIn_app (goodIn_of _ (by decide +kernel)) ggX5_fits_X5_tells
theorem dX5_fits_0 : decode cX5_fits 0 = .ok (.iload_n 1, 1) := by decide +kernel
theorem dX5_fits_1 : decode cX5_fits 1 = .ok (.invokestatic 62, 3) := by decide +kernel
theorem dX5_fits_4 : decode cX5_fits 4 = .ok (.ifCond .eq 13, 3) := by decide +kernel
theorem dX5_fits_7 : decode cX5_fits 7 = .ok (.iload_n 2, 1) := by decide +kernel
theorem dX5_fits_8 : decode cX5_fits 8 = .ok (.iconst 1, 1) := by decide +kernel
theorem dX5_fits_9 : decode cX5_fits 9 = .ok (.bipush 8, 2) := by decide +kernel
theorem dX5_fits_11 : decode cX5_fits 11 = .ok (.invokestatic 58, 3) := by decide +kernel
theorem dX5_fits_14 : decode cX5_fits 14 = .ok (.ifCond .ne 5, 3) := by decide +kernel
theorem dX5_fits_17 : decode cX5_fits 17 = .ok (.iconst (-1), 1) := by decide +kernel
theorem dX5_fits_18 : decode cX5_fits 18 = .ok (.ireturn, 1) := by decide +kernel
theorem dX5_fits_19 : decode cX5_fits 19 = .ok (.aload_n 0, 1) := by decide +kernel
theorem dX5_fits_20 : decode cX5_fits 20 = .ok (.iload_n 1, 1) := by decide +kernel
theorem dX5_fits_21 : decode cX5_fits 21 = .ok (.invokevirtual 200, 3) := by decide +kernel
theorem dX5_fits_24 : decode cX5_fits 24 = .ok (.istore_n 3, 1) := by decide +kernel
theorem dX5_fits_25 : decode cX5_fits 25 = .ok (.iload_n 3, 1) := by decide +kernel
theorem dX5_fits_26 : decode cX5_fits 26 = .ok (.ifCond .eq 9, 3) := by decide +kernel
theorem dX5_fits_29 : decode cX5_fits 29 = .ok (.aload_n 0, 1) := by decide +kernel
theorem dX5_fits_30 : decode cX5_fits 30 = .ok (.iload_n 3, 1) := by decide +kernel
theorem dX5_fits_31 : decode cX5_fits 31 = .ok (.invokevirtual 66, 3) := by decide +kernel
theorem dX5_fits_34 : decode cX5_fits 34 = .ok (.ireturn, 1) := by decide +kernel
theorem dX5_fits_35 : decode cX5_fits 35 = .ok (.iconst 0, 1) := by decide +kernel
theorem dX5_fits_36 : decode cX5_fits 36 = .ok (.istore 4, 2) := by decide +kernel
theorem dX5_fits_38 : decode cX5_fits 38 = .ok (.bipush (-9), 2) := by decide +kernel
theorem dX5_fits_40 : decode cX5_fits 40 = .ok (.istore 5, 2) := by decide +kernel
theorem dX5_fits_42 : decode cX5_fits 42 = .ok (.iconst 0, 1) := by decide +kernel
theorem dX5_fits_43 : decode cX5_fits 43 = .ok (.istore 6, 2) := by decide +kernel
theorem dX5_fits_45 : decode cX5_fits 45 = .ok (.iload 6, 2) := by decide +kernel
theorem dX5_fits_47 : decode cX5_fits 47 = .ok (.iconst 1, 1) := by decide +kernel
theorem dX5_fits_48 : decode cX5_fits 48 = .ok (.iload_n 2, 1) := by decide +kernel
theorem dX5_fits_49 : decode cX5_fits 49 = .ok (.ishl, 1) := by decide +kernel
theorem dX5_fits_50 : decode cX5_fits 50 = .ok (.if_icmp .ge 53, 3) := by decide +kernel
theorem dX5_fits_53 : decode cX5_fits 53 = .ok (.aload_n 0, 1) := by decide +kernel
theorem dX5_fits_54 : decode cX5_fits 54 = .ok (.iload 6, 2) := by decide +kernel
theorem dX5_fits_56 : decode cX5_fits 56 = .ok (.iload_n 1, 1) := by decide +kernel
theorem dX5_fits_57 : decode cX5_fits 57 = .ok (.iload_n 2, 1) := by decide +kernel
theorem dX5_fits_58 : decode cX5_fits 58 = .ok (.invokevirtual 203, 3) := by decide +kernel
theorem dX5_fits_61 : decode cX5_fits 61 = .ok (.istore 7, 2) := by decide +kernel
theorem dX5_fits_63 : decode cX5_fits 63 = .ok (.iload 7, 2) := by decide +kernel
theorem dX5_fits_65 : decode cX5_fits 65 = .ok (.ifCond .eq 13, 3) := by decide +kernel
theorem dX5_fits_68 : decode cX5_fits 68 = .ok (.iload 4, 2) := by decide +kernel
theorem dX5_fits_70 : decode cX5_fits 70 = .ok (.ifCond .ne 8, 3) := by decide +kernel
theorem dX5_fits_73 : decode cX5_fits 73 = .ok (.iload 6, 2) := by decide +kernel
theorem dX5_fits_75 : decode cX5_fits 75 = .ok (.goto 5, 3) := by decide +kernel
theorem dX5_fits_78 : decode cX5_fits 78 = .ok (.iload 5, 2) := by decide +kernel
theorem dX5_fits_80 : decode cX5_fits 80 = .ok (.istore 5, 2) := by decide +kernel
theorem dX5_fits_82 : decode cX5_fits 82 = .ok (.iload 4, 2) := by decide +kernel
theorem dX5_fits_84 : decode cX5_fits 84 = .ok (.iload 7, 2) := by decide +kernel
theorem dX5_fits_86 : decode cX5_fits 86 = .ok (.ifCond .eq 7, 3) := by decide +kernel
theorem dX5_fits_89 : decode cX5_fits 89 = .ok (.iconst 1, 1) := by decide +kernel
theorem dX5_fits_90 : decode cX5_fits 90 = .ok (.goto 4, 3) := by decide +kernel
theorem dX5_fits_93 : decode cX5_fits 93 = .ok (.iconst 0, 1) := by decide +kernel
theorem dX5_fits_94 : decode cX5_fits 94 = .ok (.iadd, 1) := by decide +kernel
theorem dX5_fits_95 : decode cX5_fits 95 = .ok (.istore 4, 2) := by decide +kernel
theorem dX5_fits_97 : decode cX5_fits 97 = .ok (.iinc 6 1, 3) := by decide +kernel
theorem dX5_fits_100 : decode cX5_fits 100 = .ok (.goto (-55), 3) := by decide +kernel
theorem dX5_fits_103 : decode cX5_fits 103 = .ok (.aload_n 0, 1) := by decide +kernel
theorem dX5_fits_104 : decode cX5_fits 104 = .ok (.iload 4, 2) := by decide +kernel
theorem dX5_fits_106 : decode cX5_fits 106 = .ok (.i2l, 1) := by decide +kernel
theorem dX5_fits_107 : decode cX5_fits 107 = .ok (.putfield 55, 3) := by decide +kernel
theorem dX5_fits_110 : decode cX5_fits 110 = .ok (.aload_n 0, 1) := by decide +kernel
theorem dX5_fits_111 : decode cX5_fits 111 = .ok (.lconst 1, 1) := by decide +kernel
theorem dX5_fits_112 : decode cX5_fits 112 = .ok (.putfield 44, 3) := by decide +kernel
theorem dX5_fits_115 : decode cX5_fits 115 = .ok (.aload_n 0, 1) := by decide +kernel
theorem dX5_fits_116 : decode cX5_fits 116 = .ok (.iconst 1, 1) := by decide +kernel
theorem dX5_fits_117 : decode cX5_fits 117 = .ok (.iload 5, 2) := by decide +kernel
theorem dX5_fits_119 : decode cX5_fits 119 = .ok (.invokevirtual 78, 3) := by decide +kernel
theorem dX5_fits_122 : decode cX5_fits 122 = .ok (.ireturn, 1) := by decide +kernel
set_option maxRecDepth 20000 in
theorem ggX5_sure_X5_isRow : GoodIn wsX5_sure wsX5_isRow := goodIn_r _ [4, 5, 6, 3, 7] (by decide +kernel) (by decide +kernel)
set_option maxRecDepth 20000 in
theorem gX5_sure_X5_isRow : GoodIn wsX5_sure (va_wsS RX5 62 yX5_isRow wsX5_isRow) := goodIn_app (goodIn_of _ (by decide +kernel)) ggX5_sure_X5_isRow
set_option maxRecDepth 20000 in
theorem ggX5_sure_X5_in : GoodIn wsX5_sure wsX5_in := goodIn_r _ [7] (by decide +kernel) (by decide +kernel)
set_option maxRecDepth 20000 in
theorem gX5_sure_X5_in : GoodIn wsX5_sure (va_wsS RX5 58 yX5_in wsX5_in) := goodIn_app (goodIn_of _ (by decide +kernel)) ggX5_sure_X5_in
set_option maxRecDepth 20000 in
theorem ggX5_sure_X5_isDay : GoodIn wsX5_sure wsX5_isDay := goodIn_r _ [10, 5, 6, 3, 7] (by decide +kernel) (by decide +kernel)
set_option maxRecDepth 20000 in
theorem gX5_sure_X5_isDay : GoodIn wsX5_sure (va_wsS RX5 153 yX5_isDay wsX5_isDay) := goodIn_app (goodIn_of _ (by decide +kernel)) ggX5_sure_X5_isDay
set_option maxRecDepth 20000 in
theorem ggX5_sure_X5_wrongIn : GoodIn wsX5_sure wsX5_wrongIn := goodIn_r _ [14, 15, 16, 8, 9, 3, 10, 5, 6, 7, 27, 28, 29, 30, 31, 32, 33, 34, 35, 36, 37, 38, 39, 40, 41, 42, 43] (by decide +kernel) (by decide +kernel)
set_option maxRecDepth 20000 in
theorem gX5_sure_X5_wrongIn : GoodIn wsX5_sure (wsV RX5 200 RX5 yX5_wrongIn wsX5_wrongIn) := goodIn_app (goodIn_of _ (by decide +kernel)) ggX5_sure_X5_wrongIn
set_option maxRecDepth 20000 in
theorem ggX5_sure_X5_finds : GoodIn wsX5_sure wsX5_finds := goodIn_r _ [20, 21, 22, 27, 28, 29, 30, 31, 32, 33, 34, 35, 36, 37, 38, 39, 40, 41, 42, 43] (by decide +kernel) (by decide +kernel)
set_option maxRecDepth 20000 in
theorem gX5_sure_X5_finds : GoodIn wsX5_sure (wsV RX5 66 RX5 yX5_finds wsX5_finds) := goodIn_app (goodIn_of _ (by decide +kernel)) ggX5_sure_X5_finds
set_option maxRecDepth 20000 in
theorem ggX5_sure_X5_fitsBy : GoodIn wsX5_sure wsX5_fitsBy := goodIn_r _ [26, 15, 16, 27, 28, 29, 30, 31, 32, 33, 34, 35, 36, 37, 38, 39, 40, 41, 42, 43] (by decide +kernel) (by decide +kernel)
set_option maxRecDepth 20000 in
theorem gX5_sure_X5_fitsBy : GoodIn wsX5_sure (wsV RX5 203 RX5 yX5_fitsBy wsX5_fitsBy) := goodIn_app (goodIn_of _ (by decide +kernel)) ggX5_sure_X5_fitsBy
theorem dX5_sure_0 : decode cX5_sure 0 = .ok (.iload_n 1, 1) := by decide +kernel
theorem dX5_sure_1 : decode cX5_sure 1 = .ok (.invokestatic 62, 3) := by decide +kernel
theorem dX5_sure_4 : decode cX5_sure 4 = .ok (.ifCond .eq 20, 3) := by decide +kernel
theorem dX5_sure_7 : decode cX5_sure 7 = .ok (.iload_n 2, 1) := by decide +kernel
theorem dX5_sure_8 : decode cX5_sure 8 = .ok (.iconst 1, 1) := by decide +kernel
theorem dX5_sure_9 : decode cX5_sure 9 = .ok (.bipush 8, 2) := by decide +kernel
theorem dX5_sure_11 : decode cX5_sure 11 = .ok (.invokestatic 58, 3) := by decide +kernel
theorem dX5_sure_14 : decode cX5_sure 14 = .ok (.ifCond .eq 10, 3) := by decide +kernel
theorem dX5_sure_17 : decode cX5_sure 17 = .ok (.iload_n 3, 1) := by decide +kernel
theorem dX5_sure_18 : decode cX5_sure 18 = .ok (.invokestatic 153, 3) := by decide +kernel
theorem dX5_sure_21 : decode cX5_sure 21 = .ok (.ifCond .ne 5, 3) := by decide +kernel
theorem dX5_sure_24 : decode cX5_sure 24 = .ok (.iconst (-1), 1) := by decide +kernel
theorem dX5_sure_25 : decode cX5_sure 25 = .ok (.ireturn, 1) := by decide +kernel
theorem dX5_sure_26 : decode cX5_sure 26 = .ok (.aload_n 0, 1) := by decide +kernel
theorem dX5_sure_27 : decode cX5_sure 27 = .ok (.iload_n 1, 1) := by decide +kernel
theorem dX5_sure_28 : decode cX5_sure 28 = .ok (.invokevirtual 200, 3) := by decide +kernel
theorem dX5_sure_31 : decode cX5_sure 31 = .ok (.istore 4, 2) := by decide +kernel
theorem dX5_sure_33 : decode cX5_sure 33 = .ok (.iload 4, 2) := by decide +kernel
theorem dX5_sure_35 : decode cX5_sure 35 = .ok (.ifCond .eq 10, 3) := by decide +kernel
theorem dX5_sure_38 : decode cX5_sure 38 = .ok (.aload_n 0, 1) := by decide +kernel
theorem dX5_sure_39 : decode cX5_sure 39 = .ok (.iload 4, 2) := by decide +kernel
theorem dX5_sure_41 : decode cX5_sure 41 = .ok (.invokevirtual 66, 3) := by decide +kernel
theorem dX5_sure_44 : decode cX5_sure 44 = .ok (.ireturn, 1) := by decide +kernel
theorem dX5_sure_45 : decode cX5_sure 45 = .ok (.iconst 0, 1) := by decide +kernel
theorem dX5_sure_46 : decode cX5_sure 46 = .ok (.istore 5, 2) := by decide +kernel
theorem dX5_sure_48 : decode cX5_sure 48 = .ok (.iconst 0, 1) := by decide +kernel
theorem dX5_sure_49 : decode cX5_sure 49 = .ok (.istore 6, 2) := by decide +kernel
theorem dX5_sure_51 : decode cX5_sure 51 = .ok (.iload 6, 2) := by decide +kernel
theorem dX5_sure_53 : decode cX5_sure 53 = .ok (.iconst 1, 1) := by decide +kernel
theorem dX5_sure_54 : decode cX5_sure 54 = .ok (.iload_n 2, 1) := by decide +kernel
theorem dX5_sure_55 : decode cX5_sure 55 = .ok (.ishl, 1) := by decide +kernel
theorem dX5_sure_56 : decode cX5_sure 56 = .ok (.if_icmp .ge 39, 3) := by decide +kernel
theorem dX5_sure_59 : decode cX5_sure 59 = .ok (.iload 5, 2) := by decide +kernel
theorem dX5_sure_61 : decode cX5_sure 61 = .ok (.aload_n 0, 1) := by decide +kernel
theorem dX5_sure_62 : decode cX5_sure 62 = .ok (.iload 6, 2) := by decide +kernel
theorem dX5_sure_64 : decode cX5_sure 64 = .ok (.iload_n 1, 1) := by decide +kernel
theorem dX5_sure_65 : decode cX5_sure 65 = .ok (.iload_n 2, 1) := by decide +kernel
theorem dX5_sure_66 : decode cX5_sure 66 = .ok (.invokevirtual 203, 3) := by decide +kernel
theorem dX5_sure_69 : decode cX5_sure 69 = .ok (.ifCond .eq 16, 3) := by decide +kernel
theorem dX5_sure_72 : decode cX5_sure 72 = .ok (.iconst 1, 1) := by decide +kernel
theorem dX5_sure_73 : decode cX5_sure 73 = .ok (.iload 6, 2) := by decide +kernel
theorem dX5_sure_75 : decode cX5_sure 75 = .ok (.iload_n 3, 1) := by decide +kernel
theorem dX5_sure_76 : decode cX5_sure 76 = .ok (.iload_n 2, 1) := by decide +kernel
theorem dX5_sure_77 : decode cX5_sure 77 = .ok (.irem, 1) := by decide +kernel
theorem dX5_sure_78 : decode cX5_sure 78 = .ok (.ishr, 1) := by decide +kernel
theorem dX5_sure_79 : decode cX5_sure 79 = .ok (.iconst 1, 1) := by decide +kernel
theorem dX5_sure_80 : decode cX5_sure 80 = .ok (.iand, 1) := by decide +kernel
theorem dX5_sure_81 : decode cX5_sure 81 = .ok (.ishl, 1) := by decide +kernel
theorem dX5_sure_82 : decode cX5_sure 82 = .ok (.goto 4, 3) := by decide +kernel
theorem dX5_sure_85 : decode cX5_sure 85 = .ok (.iconst 0, 1) := by decide +kernel
theorem dX5_sure_86 : decode cX5_sure 86 = .ok (.ior, 1) := by decide +kernel
theorem dX5_sure_87 : decode cX5_sure 87 = .ok (.istore 5, 2) := by decide +kernel
theorem dX5_sure_89 : decode cX5_sure 89 = .ok (.iinc 6 1, 3) := by decide +kernel
theorem dX5_sure_92 : decode cX5_sure 92 = .ok (.goto (-41), 3) := by decide +kernel
theorem dX5_sure_95 : decode cX5_sure 95 = .ok (.iload 5, 2) := by decide +kernel
theorem dX5_sure_97 : decode cX5_sure 97 = .ok (.iconst 1, 1) := by decide +kernel
theorem dX5_sure_98 : decode cX5_sure 98 = .ok (.if_icmp .ne 7, 3) := by decide +kernel
theorem dX5_sure_101 : decode cX5_sure 101 = .ok (.iconst 0, 1) := by decide +kernel
theorem dX5_sure_102 : decode cX5_sure 102 = .ok (.goto 15, 3) := by decide +kernel
theorem dX5_sure_105 : decode cX5_sure 105 = .ok (.iload 5, 2) := by decide +kernel
theorem dX5_sure_107 : decode cX5_sure 107 = .ok (.iconst 2, 1) := by decide +kernel
theorem dX5_sure_108 : decode cX5_sure 108 = .ok (.if_icmp .ne 7, 3) := by decide +kernel
theorem dX5_sure_111 : decode cX5_sure 111 = .ok (.iconst 1, 1) := by decide +kernel
theorem dX5_sure_112 : decode cX5_sure 112 = .ok (.goto 5, 3) := by decide +kernel
theorem dX5_sure_115 : decode cX5_sure 115 = .ok (.bipush (-9), 2) := by decide +kernel
theorem dX5_sure_117 : decode cX5_sure 117 = .ok (.ireturn, 1) := by decide +kernel
set_option maxRecDepth 20000 in
theorem ggX5_odds_X5_in : GoodIn wsX5_odds wsX5_in := goodIn_r _ [6] (by decide +kernel) (by decide +kernel)
set_option maxRecDepth 20000 in
theorem gX5_odds_X5_in : GoodIn wsX5_odds (va_wsS RX5 58 yX5_in wsX5_in) := goodIn_app (goodIn_of _ (by decide +kernel)) ggX5_odds_X5_in
set_option maxRecDepth 20000 in
theorem ggX5_odds_X5_are : GoodIn wsX5_odds wsX5_are := goodIn_r _ [10, 2, 21, 22, 23, 24, 25, 26, 27, 28, 29, 30, 31, 32, 33, 34, 35, 36, 37] (by decide +kernel) (by decide +kernel)
set_option maxRecDepth 20000 in
theorem gX5_odds_X5_are : GoodIn wsX5_odds (wsV RX5 146 RX5 yX5_are wsX5_are) := goodIn_app (goodIn_of _ (by decide +kernel)) ggX5_odds_X5_are
set_option maxRecDepth 20000 in
theorem ggX5_odds_X5_farmOn : GoodIn wsX5_odds wsX5_farmOn := goodIn_r _ [14, 2, 21, 22, 23, 24, 25, 26, 27, 28, 29, 30, 31, 32, 33, 34, 35, 36, 37] (by decide +kernel) (by decide +kernel)
set_option maxRecDepth 20000 in
theorem gX5_odds_X5_farmOn : GoodIn wsX5_odds (wsV RX5 156 RX5 yX5_farmOn wsX5_farmOn) := goodIn_app (goodIn_of _ (by decide +kernel)) ggX5_odds_X5_farmOn
set_option maxRecDepth 20000 in
theorem ggX5_odds_X5_tellsParts : GoodIn wsX5_odds wsX5_tellsParts := goodIn_r _ [18, 19, 20, 21, 22, 23, 24, 25, 26, 27, 28, 29, 30, 31, 32, 33, 34, 35, 36, 37] (by decide +kernel) (by decide +kernel)
set_option maxRecDepth 20000 in
theorem gX5_odds_X5_tellsParts : GoodIn wsX5_odds (wsV RX5 196 RX5 yX5_tellsParts wsX5_tellsParts) := goodIn_app (goodIn_of _ (by decide +kernel)) ggX5_odds_X5_tellsParts
theorem dX5_odds_0 : decode cX5_odds 0 = .ok (.iload_n 1, 1) := by decide +kernel
theorem dX5_odds_1 : decode cX5_odds 1 = .ok (.iconst 0, 1) := by decide +kernel
theorem dX5_odds_2 : decode cX5_odds 2 = .ok (.iconst 1, 1) := by decide +kernel
theorem dX5_odds_3 : decode cX5_odds 3 = .ok (.invokestatic 58, 3) := by decide +kernel
theorem dX5_odds_6 : decode cX5_odds 6 = .ok (.ifCond .eq 23, 3) := by decide +kernel
theorem dX5_odds_9 : decode cX5_odds 9 = .ok (.iload_n 2, 1) := by decide +kernel
theorem dX5_odds_10 : decode cX5_odds 10 = .ok (.iconst 0, 1) := by decide +kernel
theorem dX5_odds_11 : decode cX5_odds 11 = .ok (.bipush 8, 2) := by decide +kernel
theorem dX5_odds_13 : decode cX5_odds 13 = .ok (.invokestatic 58, 3) := by decide +kernel
theorem dX5_odds_16 : decode cX5_odds 16 = .ok (.ifCond .eq 13, 3) := by decide +kernel
theorem dX5_odds_19 : decode cX5_odds 19 = .ok (.iload_n 3, 1) := by decide +kernel
theorem dX5_odds_20 : decode cX5_odds 20 = .ok (.iconst 0, 1) := by decide +kernel
theorem dX5_odds_21 : decode cX5_odds 21 = .ok (.bipush 12, 2) := by decide +kernel
theorem dX5_odds_23 : decode cX5_odds 23 = .ok (.invokestatic 58, 3) := by decide +kernel
theorem dX5_odds_26 : decode cX5_odds 26 = .ok (.ifCond .ne 5, 3) := by decide +kernel
theorem dX5_odds_29 : decode cX5_odds 29 = .ok (.iconst (-1), 1) := by decide +kernel
theorem dX5_odds_30 : decode cX5_odds 30 = .ok (.ireturn, 1) := by decide +kernel
theorem dX5_odds_31 : decode cX5_odds 31 = .ok (.aload_n 0, 1) := by decide +kernel
theorem dX5_odds_32 : decode cX5_odds 32 = .ok (.invokevirtual 146, 3) := by decide +kernel
theorem dX5_odds_35 : decode cX5_odds 35 = .ok (.ifCond .ne 6, 3) := by decide +kernel
theorem dX5_odds_38 : decode cX5_odds 38 = .ok (.bipush (-4), 2) := by decide +kernel
theorem dX5_odds_40 : decode cX5_odds 40 = .ok (.ireturn, 1) := by decide +kernel
theorem dX5_odds_41 : decode cX5_odds 41 = .ok (.lconst 0, 1) := by decide +kernel
theorem dX5_odds_42 : decode cX5_odds 42 = .ok (.lstore 4, 2) := by decide +kernel
theorem dX5_odds_44 : decode cX5_odds 44 = .ok (.lconst 1, 1) := by decide +kernel
theorem dX5_odds_45 : decode cX5_odds 45 = .ok (.lstore 6, 2) := by decide +kernel
theorem dX5_odds_47 : decode cX5_odds 47 = .ok (.lconst 1, 1) := by decide +kernel
theorem dX5_odds_48 : decode cX5_odds 48 = .ok (.lstore 8, 2) := by decide +kernel
theorem dX5_odds_50 : decode cX5_odds 50 = .ok (.iconst 0, 1) := by decide +kernel
theorem dX5_odds_51 : decode cX5_odds 51 = .ok (.istore 10, 2) := by decide +kernel
theorem dX5_odds_53 : decode cX5_odds 53 = .ok (.iload 10, 2) := by decide +kernel
theorem dX5_odds_55 : decode cX5_odds 55 = .ok (.iload_n 2, 1) := by decide +kernel
theorem dX5_odds_56 : decode cX5_odds 56 = .ok (.if_icmp .ge 62, 3) := by decide +kernel
theorem dX5_odds_59 : decode cX5_odds 59 = .ok (.lload 4, 2) := by decide +kernel
theorem dX5_odds_61 : decode cX5_odds 61 = .ok (.ldc2_w 206, 3) := by decide +kernel
theorem dX5_odds_64 : decode cX5_odds 64 = .ok (.lmul, 1) := by decide +kernel
theorem dX5_odds_65 : decode cX5_odds 65 = .ok (.aload_n 0, 1) := by decide +kernel
theorem dX5_odds_66 : decode cX5_odds 66 = .ok (.aload_n 0, 1) := by decide +kernel
theorem dX5_odds_67 : decode cX5_odds 67 = .ok (.getfield 25, 3) := by decide +kernel
theorem dX5_odds_70 : decode cX5_odds 70 = .ok (.iconst 3, 1) := by decide +kernel
theorem dX5_odds_71 : decode cX5_odds 71 = .ok (.iaload, 1) := by decide +kernel
theorem dX5_odds_72 : decode cX5_odds 72 = .ok (.iload 10, 2) := by decide +kernel
theorem dX5_odds_74 : decode cX5_odds 74 = .ok (.iadd, 1) := by decide +kernel
theorem dX5_odds_75 : decode cX5_odds 75 = .ok (.invokevirtual 156, 3) := by decide +kernel
theorem dX5_odds_78 : decode cX5_odds 78 = .ok (.iload_n 1, 1) := by decide +kernel
theorem dX5_odds_79 : decode cX5_odds 79 = .ok (.if_icmp .ne 11, 3) := by decide +kernel
theorem dX5_odds_82 : decode cX5_odds 82 = .ok (.lload 8, 2) := by decide +kernel
theorem dX5_odds_84 : decode cX5_odds 84 = .ok (.iload_n 3, 1) := by decide +kernel
theorem dX5_odds_85 : decode cX5_odds 85 = .ok (.i2l, 1) := by decide +kernel
theorem dX5_odds_86 : decode cX5_odds 86 = .ok (.lmul, 1) := by decide +kernel
theorem dX5_odds_87 : decode cX5_odds 87 = .ok (.goto 4, 3) := by decide +kernel
theorem dX5_odds_90 : decode cX5_odds 90 = .ok (.lconst 0, 1) := by decide +kernel
theorem dX5_odds_91 : decode cX5_odds 91 = .ok (.ladd, 1) := by decide +kernel
theorem dX5_odds_92 : decode cX5_odds 92 = .ok (.lstore 4, 2) := by decide +kernel
theorem dX5_odds_94 : decode cX5_odds 94 = .ok (.lload 8, 2) := by decide +kernel
theorem dX5_odds_96 : decode cX5_odds 96 = .ok (.bipush 12, 2) := by decide +kernel
theorem dX5_odds_98 : decode cX5_odds 98 = .ok (.iload_n 3, 1) := by decide +kernel
theorem dX5_odds_99 : decode cX5_odds 99 = .ok (.isub, 1) := by decide +kernel
theorem dX5_odds_100 : decode cX5_odds 100 = .ok (.i2l, 1) := by decide +kernel
theorem dX5_odds_101 : decode cX5_odds 101 = .ok (.lmul, 1) := by decide +kernel
theorem dX5_odds_102 : decode cX5_odds 102 = .ok (.lstore 8, 2) := by decide +kernel
theorem dX5_odds_104 : decode cX5_odds 104 = .ok (.lload 6, 2) := by decide +kernel
theorem dX5_odds_106 : decode cX5_odds 106 = .ok (.ldc2_w 206, 3) := by decide +kernel
theorem dX5_odds_109 : decode cX5_odds 109 = .ok (.lmul, 1) := by decide +kernel
theorem dX5_odds_110 : decode cX5_odds 110 = .ok (.lstore 6, 2) := by decide +kernel
theorem dX5_odds_112 : decode cX5_odds 112 = .ok (.iinc 10 1, 3) := by decide +kernel
theorem dX5_odds_115 : decode cX5_odds 115 = .ok (.goto (-62), 3) := by decide +kernel
theorem dX5_odds_118 : decode cX5_odds 118 = .ok (.aload_n 0, 1) := by decide +kernel
theorem dX5_odds_119 : decode cX5_odds 119 = .ok (.lload 4, 2) := by decide +kernel
theorem dX5_odds_121 : decode cX5_odds 121 = .ok (.lload 6, 2) := by decide +kernel
theorem dX5_odds_123 : decode cX5_odds 123 = .ok (.invokevirtual 196, 3) := by decide +kernel
theorem dX5_odds_126 : decode cX5_odds 126 = .ok (.ireturn, 1) := by decide +kernel
set_option maxRecDepth 20000 in
theorem ggX5_lots_X5_in : GoodIn wsX5_lots wsX5_in := goodIn_r _ [14] (by decide +kernel) (by decide +kernel)
set_option maxRecDepth 20000 in
theorem gX5_lots_X5_in : GoodIn wsX5_lots (va_wsS RX5 58 yX5_in wsX5_in) := goodIn_app (goodIn_of _ (by decide +kernel)) ggX5_lots_X5_in
set_option maxRecDepth 20000 in
theorem ggX5_lots_X5_are : GoodIn wsX5_lots wsX5_are := goodIn_r _ [18, 2, 38, 39, 40, 41, 42, 43, 44, 45, 46, 47, 48, 49, 50, 51, 52, 53, 54] (by decide +kernel) (by decide +kernel)
set_option maxRecDepth 20000 in
theorem gX5_lots_X5_are : GoodIn wsX5_lots (wsV RX5 146 RX5 yX5_are wsX5_are) := goodIn_app (goodIn_of _ (by decide +kernel)) ggX5_lots_X5_are
set_option maxRecDepth 20000 in
theorem ggX5_lots_X5_does : GoodIn wsX5_lots wsX5_does := goodIn_r _ [22, 2, 23, 24, 25, 13, 26, 27, 28, 29, 30, 38, 39, 40, 41, 42, 43, 44, 45, 46, 47, 48, 49, 50, 51, 52, 53, 54] (by decide +kernel) (by decide +kernel)
set_option maxRecDepth 20000 in
theorem gX5_lots_X5_does : GoodIn wsX5_lots (wsV RX5 150 RX5 yX5_does wsX5_does) := goodIn_app (goodIn_of _ (by decide +kernel)) ggX5_lots_X5_does
set_option maxRecDepth 20000 in
theorem ggX5_lots_X5_ownedByOne : GoodIn wsX5_lots wsX5_ownedByOne := goodIn_r _ [34, 2, 27, 28, 29, 13, 30, 38, 39, 40, 41, 42, 43, 44, 45, 46, 47, 48, 49, 50, 51, 52, 53, 54] (by decide +kernel) (by decide +kernel)
set_option maxRecDepth 20000 in
theorem gX5_lots_X5_ownedByOne : GoodIn wsX5_lots (wsV RX5 178 RX5 yX5_ownedByOne wsX5_ownedByOne) := goodIn_app (goodIn_of _ (by decide +kernel)) ggX5_lots_X5_ownedByOne
set_option maxRecDepth 20000 in
theorem ggX5_lots_X5_ones : GoodIn wsX5_lots wsX5_ones := goodIn_r _ [37] (by decide +kernel) (by decide +kernel)
set_option maxRecDepth 20000 in
theorem gX5_lots_X5_ones : GoodIn wsX5_lots (va_wsS RX5 175 yX5_ones wsX5_ones) := goodIn_app (goodIn_of _ (by decide +kernel)) ggX5_lots_X5_ones
theorem dX5_lots_0 : decode cX5_lots 0 = .ok (.iload_n 1, 1) := by decide +kernel
theorem dX5_lots_1 : decode cX5_lots 1 = .ok (.iconst 1, 1) := by decide +kernel
theorem dX5_lots_2 : decode cX5_lots 2 = .ok (.bipush 20, 2) := by decide +kernel
theorem dX5_lots_4 : decode cX5_lots 4 = .ok (.invokestatic 58, 3) := by decide +kernel
theorem dX5_lots_7 : decode cX5_lots 7 = .ok (.ifCond .eq 13, 3) := by decide +kernel
theorem dX5_lots_10 : decode cX5_lots 10 = .ok (.iload_n 2, 1) := by decide +kernel
theorem dX5_lots_11 : decode cX5_lots 11 = .ok (.iconst 1, 1) := by decide +kernel
theorem dX5_lots_12 : decode cX5_lots 12 = .ok (.ldc 208, 2) := by decide +kernel
theorem dX5_lots_14 : decode cX5_lots 14 = .ok (.invokestatic 58, 3) := by decide +kernel
theorem dX5_lots_17 : decode cX5_lots 17 = .ok (.ifCond .ne 5, 3) := by decide +kernel
theorem dX5_lots_20 : decode cX5_lots 20 = .ok (.iconst (-1), 1) := by decide +kernel
theorem dX5_lots_21 : decode cX5_lots 21 = .ok (.ireturn, 1) := by decide +kernel
theorem dX5_lots_22 : decode cX5_lots 22 = .ok (.aload_n 0, 1) := by decide +kernel
theorem dX5_lots_23 : decode cX5_lots 23 = .ok (.invokevirtual 146, 3) := by decide +kernel
theorem dX5_lots_26 : decode cX5_lots 26 = .ok (.ifCond .ne 6, 3) := by decide +kernel
theorem dX5_lots_29 : decode cX5_lots 29 = .ok (.bipush (-4), 2) := by decide +kernel
theorem dX5_lots_31 : decode cX5_lots 31 = .ok (.ireturn, 1) := by decide +kernel
theorem dX5_lots_32 : decode cX5_lots 32 = .ok (.aload_n 0, 1) := by decide +kernel
theorem dX5_lots_33 : decode cX5_lots 33 = .ok (.getfield 25, 3) := by decide +kernel
theorem dX5_lots_36 : decode cX5_lots 36 = .ok (.iconst 4, 1) := by decide +kernel
theorem dX5_lots_37 : decode cX5_lots 37 = .ok (.iaload, 1) := by decide +kernel
theorem dX5_lots_38 : decode cX5_lots 38 = .ok (.iload_n 1, 1) := by decide +kernel
theorem dX5_lots_39 : decode cX5_lots 39 = .ok (.iadd, 1) := by decide +kernel
theorem dX5_lots_40 : decode cX5_lots 40 = .ok (.bipush 60, 2) := by decide +kernel
theorem dX5_lots_42 : decode cX5_lots 42 = .ok (.if_icmp .le 6, 3) := by decide +kernel
theorem dX5_lots_45 : decode cX5_lots 45 = .ok (.bipush (-2), 2) := by decide +kernel
theorem dX5_lots_47 : decode cX5_lots 47 = .ok (.ireturn, 1) := by decide +kernel
theorem dX5_lots_48 : decode cX5_lots 48 = .ok (.iload_n 2, 1) := by decide +kernel
theorem dX5_lots_49 : decode cX5_lots 49 = .ok (.i2l, 1) := by decide +kernel
theorem dX5_lots_50 : decode cX5_lots 50 = .ok (.lstore_n 3, 1) := by decide +kernel
theorem dX5_lots_51 : decode cX5_lots 51 = .ok (.iconst 0, 1) := by decide +kernel
theorem dX5_lots_52 : decode cX5_lots 52 = .ok (.istore 5, 2) := by decide +kernel
theorem dX5_lots_54 : decode cX5_lots 54 = .ok (.iload 5, 2) := by decide +kernel
theorem dX5_lots_56 : decode cX5_lots 56 = .ok (.iload_n 1, 1) := by decide +kernel
theorem dX5_lots_57 : decode cX5_lots 57 = .ok (.if_icmp .ge 117, 3) := by decide +kernel
theorem dX5_lots_60 : decode cX5_lots 60 = .ok (.lload_n 3, 1) := by decide +kernel
theorem dX5_lots_61 : decode cX5_lots 61 = .ok (.ldc2_w 209, 3) := by decide +kernel
theorem dX5_lots_64 : decode cX5_lots 64 = .ok (.lmul, 1) := by decide +kernel
theorem dX5_lots_65 : decode cX5_lots 65 = .ok (.ldc2_w 211, 3) := by decide +kernel
theorem dX5_lots_68 : decode cX5_lots 68 = .ok (.lrem, 1) := by decide +kernel
theorem dX5_lots_69 : decode cX5_lots 69 = .ok (.lstore_n 3, 1) := by decide +kernel
theorem dX5_lots_70 : decode cX5_lots 70 = .ok (.lload_n 3, 1) := by decide +kernel
theorem dX5_lots_71 : decode cX5_lots 71 = .ok (.ldc2_w 213, 3) := by decide +kernel
theorem dX5_lots_74 : decode cX5_lots 74 = .ok (.lrem, 1) := by decide +kernel
theorem dX5_lots_75 : decode cX5_lots 75 = .ok (.lconst 1, 1) := by decide +kernel
theorem dX5_lots_76 : decode cX5_lots 76 = .ok (.lcmp, 1) := by decide +kernel
theorem dX5_lots_77 : decode cX5_lots 77 = .ok (.ifCond .ne 26, 3) := by decide +kernel
theorem dX5_lots_80 : decode cX5_lots 80 = .ok (.aload_n 0, 1) := by decide +kernel
theorem dX5_lots_81 : decode cX5_lots 81 = .ok (.iconst 1, 1) := by decide +kernel
theorem dX5_lots_82 : decode cX5_lots 82 = .ok (.lload_n 3, 1) := by decide +kernel
theorem dX5_lots_83 : decode cX5_lots 83 = .ok (.ldc2_w 215, 3) := by decide +kernel
theorem dX5_lots_86 : decode cX5_lots 86 = .ok (.ldiv, 1) := by decide +kernel
theorem dX5_lots_87 : decode cX5_lots 87 = .ok (.aload_n 0, 1) := by decide +kernel
theorem dX5_lots_88 : decode cX5_lots 88 = .ok (.getfield 25, 3) := by decide +kernel
theorem dX5_lots_91 : decode cX5_lots 91 = .ok (.iconst 0, 1) := by decide +kernel
theorem dX5_lots_92 : decode cX5_lots 92 = .ok (.iaload, 1) := by decide +kernel
theorem dX5_lots_93 : decode cX5_lots 93 = .ok (.i2l, 1) := by decide +kernel
theorem dX5_lots_94 : decode cX5_lots 94 = .ok (.lrem, 1) := by decide +kernel
theorem dX5_lots_95 : decode cX5_lots 95 = .ok (.l2i, 1) := by decide +kernel
theorem dX5_lots_96 : decode cX5_lots 96 = .ok (.iadd, 1) := by decide +kernel
theorem dX5_lots_97 : decode cX5_lots 97 = .ok (.invokevirtual 150, 3) := by decide +kernel
theorem dX5_lots_100 : decode cX5_lots 100 = .ok (.goto 68, 3) := by decide +kernel
theorem dX5_lots_103 : decode cX5_lots 103 = .ok (.lload_n 3, 1) := by decide +kernel
theorem dX5_lots_104 : decode cX5_lots 104 = .ok (.ldc2_w 213, 3) := by decide +kernel
theorem dX5_lots_107 : decode cX5_lots 107 = .ok (.lrem, 1) := by decide +kernel
theorem dX5_lots_108 : decode cX5_lots 108 = .ok (.ldc2_w 194, 3) := by decide +kernel
theorem dX5_lots_111 : decode cX5_lots 111 = .ok (.lcmp, 1) := by decide +kernel
theorem dX5_lots_112 : decode cX5_lots 112 = .ok (.ifCond .ne 39, 3) := by decide +kernel
theorem dX5_lots_115 : decode cX5_lots 115 = .ok (.aload_n 0, 1) := by decide +kernel
theorem dX5_lots_116 : decode cX5_lots 116 = .ok (.bipush 100, 2) := by decide +kernel
theorem dX5_lots_118 : decode cX5_lots 118 = .ok (.bipush 100, 2) := by decide +kernel
theorem dX5_lots_120 : decode cX5_lots 120 = .ok (.lload_n 3, 1) := by decide +kernel
theorem dX5_lots_121 : decode cX5_lots 121 = .ok (.ldc2_w 217, 3) := by decide +kernel
theorem dX5_lots_124 : decode cX5_lots 124 = .ok (.ldiv, 1) := by decide +kernel
theorem dX5_lots_125 : decode cX5_lots 125 = .ok (.ldc2_w 194, 3) := by decide +kernel
theorem dX5_lots_128 : decode cX5_lots 128 = .ok (.lrem, 1) := by decide +kernel
theorem dX5_lots_129 : decode cX5_lots 129 = .ok (.l2i, 1) := by decide +kernel
theorem dX5_lots_130 : decode cX5_lots 130 = .ok (.imul, 1) := by decide +kernel
theorem dX5_lots_131 : decode cX5_lots 131 = .ok (.iadd, 1) := by decide +kernel
theorem dX5_lots_132 : decode cX5_lots 132 = .ok (.lload_n 3, 1) := by decide +kernel
theorem dX5_lots_133 : decode cX5_lots 133 = .ok (.ldc2_w 219, 3) := by decide +kernel
theorem dX5_lots_136 : decode cX5_lots 136 = .ok (.ldiv, 1) := by decide +kernel
theorem dX5_lots_137 : decode cX5_lots 137 = .ok (.ldc2_w 221, 3) := by decide +kernel
theorem dX5_lots_140 : decode cX5_lots 140 = .ok (.lrem, 1) := by decide +kernel
theorem dX5_lots_141 : decode cX5_lots 141 = .ok (.l2i, 1) := by decide +kernel
theorem dX5_lots_142 : decode cX5_lots 142 = .ok (.iadd, 1) := by decide +kernel
theorem dX5_lots_143 : decode cX5_lots 143 = .ok (.iconst 1, 1) := by decide +kernel
theorem dX5_lots_144 : decode cX5_lots 144 = .ok (.iadd, 1) := by decide +kernel
theorem dX5_lots_145 : decode cX5_lots 145 = .ok (.invokevirtual 150, 3) := by decide +kernel
theorem dX5_lots_148 : decode cX5_lots 148 = .ok (.goto 20, 3) := by decide +kernel
theorem dX5_lots_151 : decode cX5_lots 151 = .ok (.aload_n 0, 1) := by decide +kernel
theorem dX5_lots_152 : decode cX5_lots 152 = .ok (.getfield 25, 3) := by decide +kernel
theorem dX5_lots_155 : decode cX5_lots 155 = .ok (.iconst 3, 1) := by decide +kernel
theorem dX5_lots_156 : decode cX5_lots 156 = .ok (.iaload, 1) := by decide +kernel
theorem dX5_lots_157 : decode cX5_lots 157 = .ok (.sipush 999, 3) := by decide +kernel
theorem dX5_lots_160 : decode cX5_lots 160 = .ok (.if_icmp .ge 8, 3) := by decide +kernel
theorem dX5_lots_163 : decode cX5_lots 163 = .ok (.aload_n 0, 1) := by decide +kernel
theorem dX5_lots_164 : decode cX5_lots 164 = .ok (.iconst 0, 1) := by decide +kernel
theorem dX5_lots_165 : decode cX5_lots 165 = .ok (.invokevirtual 150, 3) := by decide +kernel
theorem dX5_lots_168 : decode cX5_lots 168 = .ok (.iinc 5 1, 3) := by decide +kernel
theorem dX5_lots_171 : decode cX5_lots 171 = .ok (.goto (-117), 3) := by decide +kernel
theorem dX5_lots_174 : decode cX5_lots 174 = .ok (.aload_n 0, 1) := by decide +kernel
theorem dX5_lots_175 : decode cX5_lots 175 = .ok (.getfield 25, 3) := by decide +kernel
theorem dX5_lots_178 : decode cX5_lots 178 = .ok (.iconst 0, 1) := by decide +kernel
theorem dX5_lots_179 : decode cX5_lots 179 = .ok (.iaload, 1) := by decide +kernel
theorem dX5_lots_180 : decode cX5_lots 180 = .ok (.aload_n 0, 1) := by decide +kernel
theorem dX5_lots_181 : decode cX5_lots 181 = .ok (.invokevirtual 178, 3) := by decide +kernel
theorem dX5_lots_184 : decode cX5_lots 184 = .ok (.invokestatic 175, 3) := by decide +kernel
theorem dX5_lots_187 : decode cX5_lots 187 = .ok (.isub, 1) := by decide +kernel
theorem dX5_lots_188 : decode cX5_lots 188 = .ok (.ireturn, 1) := by decide +kernel
theorem dX5_asked_0 : decode cX5_asked 0 = .ok (.aload_n 0, 1) := by decide +kernel
theorem dX5_asked_1 : decode cX5_asked 1 = .ok (.getfield 52, 3) := by decide +kernel
theorem dX5_asked_4 : decode cX5_asked 4 = .ok (.ireturn, 1) := by decide +kernel
theorem dX5_upper_0 : decode cX5_upper 0 = .ok (.aload_n 0, 1) := by decide +kernel
theorem dX5_upper_1 : decode cX5_upper 1 = .ok (.getfield 55, 3) := by decide +kernel
theorem dX5_upper_4 : decode cX5_upper 4 = .ok (.lreturn, 1) := by decide +kernel
theorem dX5_lower_0 : decode cX5_lower 0 = .ok (.aload_n 0, 1) := by decide +kernel
theorem dX5_lower_1 : decode cX5_lower 1 = .ok (.getfield 44, 3) := by decide +kernel
theorem dX5_lower_4 : decode cX5_lower 4 = .ok (.lreturn, 1) := by decide +kernel
set_option maxRecDepth 20000 in
theorem ggX5_count_X5_isOf : GoodIn wsX5_count wsX5_isOf := goodIn_r _ [9, 10, 11, 12, 8, 13, 1, 14, 15, 16, 17, 18, 19, 20, 21, 22, 23, 24, 25, 26, 27, 28, 29, 30] (by decide +kernel) (by decide +kernel)
set_option maxRecDepth 20000 in
theorem gX5_count_X5_isOf : GoodIn wsX5_count (wsV RX5 136 RX5 yX5_isOf wsX5_isOf) := goodIn_app (goodIn_of _ (by decide +kernel)) ggX5_count_X5_isOf
theorem dX5_count_0 : decode cX5_count 0 = .ok (.iconst 0, 1) := by decide +kernel
theorem dX5_count_1 : decode cX5_count 1 = .ok (.istore_n 2, 1) := by decide +kernel
theorem dX5_count_2 : decode cX5_count 2 = .ok (.iload_n 1, 1) := by decide +kernel
theorem dX5_count_3 : decode cX5_count 3 = .ok (.tableswitch 233 0 9 #[53, 60, 67, 74, 81, 88, 99, 136, 169, 201], 53) := by decide +kernel
theorem dX5_count_56 : decode cX5_count 56 = .ok (.aload_n 0, 1) := by decide +kernel
theorem dX5_count_57 : decode cX5_count 57 = .ok (.getfield 25, 3) := by decide +kernel
theorem dX5_count_60 : decode cX5_count 60 = .ok (.iconst 0, 1) := by decide +kernel
theorem dX5_count_61 : decode cX5_count 61 = .ok (.iaload, 1) := by decide +kernel
theorem dX5_count_62 : decode cX5_count 62 = .ok (.ireturn, 1) := by decide +kernel
theorem dX5_count_63 : decode cX5_count 63 = .ok (.aload_n 0, 1) := by decide +kernel
theorem dX5_count_64 : decode cX5_count 64 = .ok (.getfield 25, 3) := by decide +kernel
theorem dX5_count_67 : decode cX5_count 67 = .ok (.iconst 1, 1) := by decide +kernel
theorem dX5_count_68 : decode cX5_count 68 = .ok (.iaload, 1) := by decide +kernel
theorem dX5_count_69 : decode cX5_count 69 = .ok (.ireturn, 1) := by decide +kernel
theorem dX5_count_70 : decode cX5_count 70 = .ok (.aload_n 0, 1) := by decide +kernel
theorem dX5_count_71 : decode cX5_count 71 = .ok (.getfield 25, 3) := by decide +kernel
theorem dX5_count_74 : decode cX5_count 74 = .ok (.iconst 2, 1) := by decide +kernel
theorem dX5_count_75 : decode cX5_count 75 = .ok (.iaload, 1) := by decide +kernel
theorem dX5_count_76 : decode cX5_count 76 = .ok (.ireturn, 1) := by decide +kernel
theorem dX5_count_77 : decode cX5_count 77 = .ok (.aload_n 0, 1) := by decide +kernel
theorem dX5_count_78 : decode cX5_count 78 = .ok (.getfield 25, 3) := by decide +kernel
theorem dX5_count_81 : decode cX5_count 81 = .ok (.iconst 3, 1) := by decide +kernel
theorem dX5_count_82 : decode cX5_count 82 = .ok (.iaload, 1) := by decide +kernel
theorem dX5_count_83 : decode cX5_count 83 = .ok (.ireturn, 1) := by decide +kernel
theorem dX5_count_84 : decode cX5_count 84 = .ok (.aload_n 0, 1) := by decide +kernel
theorem dX5_count_85 : decode cX5_count 85 = .ok (.getfield 25, 3) := by decide +kernel
theorem dX5_count_88 : decode cX5_count 88 = .ok (.iconst 4, 1) := by decide +kernel
theorem dX5_count_89 : decode cX5_count 89 = .ok (.iaload, 1) := by decide +kernel
theorem dX5_count_90 : decode cX5_count 90 = .ok (.ireturn, 1) := by decide +kernel
theorem dX5_count_91 : decode cX5_count 91 = .ok (.aload_n 0, 1) := by decide +kernel
theorem dX5_count_92 : decode cX5_count 92 = .ok (.getfield 25, 3) := by decide +kernel
theorem dX5_count_95 : decode cX5_count 95 = .ok (.iconst 5, 1) := by decide +kernel
theorem dX5_count_96 : decode cX5_count 96 = .ok (.iaload, 1) := by decide +kernel
theorem dX5_count_97 : decode cX5_count 97 = .ok (.sipush 10000, 3) := by decide +kernel
theorem dX5_count_100 : decode cX5_count 100 = .ok (.iadd, 1) := by decide +kernel
theorem dX5_count_101 : decode cX5_count 101 = .ok (.ireturn, 1) := by decide +kernel
theorem dX5_count_102 : decode cX5_count 102 = .ok (.iconst 0, 1) := by decide +kernel
theorem dX5_count_103 : decode cX5_count 103 = .ok (.istore_n 3, 1) := by decide +kernel
theorem dX5_count_104 : decode cX5_count 104 = .ok (.iload_n 3, 1) := by decide +kernel
theorem dX5_count_105 : decode cX5_count 105 = .ok (.aload_n 0, 1) := by decide +kernel
theorem dX5_count_106 : decode cX5_count 106 = .ok (.getfield 25, 3) := by decide +kernel
theorem dX5_count_109 : decode cX5_count 109 = .ok (.iconst 0, 1) := by decide +kernel
theorem dX5_count_110 : decode cX5_count 110 = .ok (.iaload, 1) := by decide +kernel
theorem dX5_count_111 : decode cX5_count 111 = .ok (.if_icmp .ge 26, 3) := by decide +kernel
theorem dX5_count_114 : decode cX5_count 114 = .ok (.iload_n 2, 1) := by decide +kernel
theorem dX5_count_115 : decode cX5_count 115 = .ok (.aload_n 0, 1) := by decide +kernel
theorem dX5_count_116 : decode cX5_count 116 = .ok (.iload_n 3, 1) := by decide +kernel
theorem dX5_count_117 : decode cX5_count 117 = .ok (.iconst 3, 1) := by decide +kernel
theorem dX5_count_118 : decode cX5_count 118 = .ok (.invokevirtual 136, 3) := by decide +kernel
theorem dX5_count_121 : decode cX5_count 121 = .ok (.ifCond .eq 7, 3) := by decide +kernel
theorem dX5_count_124 : decode cX5_count 124 = .ok (.iconst 1, 1) := by decide +kernel
theorem dX5_count_125 : decode cX5_count 125 = .ok (.goto 4, 3) := by decide +kernel
theorem dX5_count_128 : decode cX5_count 128 = .ok (.iconst 0, 1) := by decide +kernel
theorem dX5_count_129 : decode cX5_count 129 = .ok (.iadd, 1) := by decide +kernel
theorem dX5_count_130 : decode cX5_count 130 = .ok (.istore_n 2, 1) := by decide +kernel
theorem dX5_count_131 : decode cX5_count 131 = .ok (.iinc 3 1, 3) := by decide +kernel
theorem dX5_count_134 : decode cX5_count 134 = .ok (.goto (-30), 3) := by decide +kernel
theorem dX5_count_137 : decode cX5_count 137 = .ok (.iload_n 2, 1) := by decide +kernel
theorem dX5_count_138 : decode cX5_count 138 = .ok (.ireturn, 1) := by decide +kernel
theorem dX5_count_139 : decode cX5_count 139 = .ok (.iconst 0, 1) := by decide +kernel
theorem dX5_count_140 : decode cX5_count 140 = .ok (.istore_n 3, 1) := by decide +kernel
theorem dX5_count_141 : decode cX5_count 141 = .ok (.iload_n 3, 1) := by decide +kernel
theorem dX5_count_142 : decode cX5_count 142 = .ok (.bipush 6, 2) := by decide +kernel
theorem dX5_count_144 : decode cX5_count 144 = .ok (.if_icmp .ge 26, 3) := by decide +kernel
theorem dX5_count_147 : decode cX5_count 147 = .ok (.iload_n 2, 1) := by decide +kernel
theorem dX5_count_148 : decode cX5_count 148 = .ok (.aload_n 0, 1) := by decide +kernel
theorem dX5_count_149 : decode cX5_count 149 = .ok (.getfield 7, 3) := by decide +kernel
theorem dX5_count_152 : decode cX5_count 152 = .ok (.iload_n 3, 1) := by decide +kernel
theorem dX5_count_153 : decode cX5_count 153 = .ok (.iaload, 1) := by decide +kernel
theorem dX5_count_154 : decode cX5_count 154 = .ok (.ifCond .ge 7, 3) := by decide +kernel
theorem dX5_count_157 : decode cX5_count 157 = .ok (.iconst 0, 1) := by decide +kernel
theorem dX5_count_158 : decode cX5_count 158 = .ok (.goto 4, 3) := by decide +kernel
theorem dX5_count_161 : decode cX5_count 161 = .ok (.iconst 1, 1) := by decide +kernel
theorem dX5_count_162 : decode cX5_count 162 = .ok (.iadd, 1) := by decide +kernel
theorem dX5_count_163 : decode cX5_count 163 = .ok (.istore_n 2, 1) := by decide +kernel
theorem dX5_count_164 : decode cX5_count 164 = .ok (.iinc 3 1, 3) := by decide +kernel
theorem dX5_count_167 : decode cX5_count 167 = .ok (.goto (-26), 3) := by decide +kernel
theorem dX5_count_170 : decode cX5_count 170 = .ok (.iload_n 2, 1) := by decide +kernel
theorem dX5_count_171 : decode cX5_count 171 = .ok (.ireturn, 1) := by decide +kernel
theorem dX5_count_172 : decode cX5_count 172 = .ok (.iconst 0, 1) := by decide +kernel
theorem dX5_count_173 : decode cX5_count 173 = .ok (.istore_n 3, 1) := by decide +kernel
theorem dX5_count_174 : decode cX5_count 174 = .ok (.iload_n 3, 1) := by decide +kernel
theorem dX5_count_175 : decode cX5_count 175 = .ok (.iconst 4, 1) := by decide +kernel
theorem dX5_count_176 : decode cX5_count 176 = .ok (.if_icmp .ge 26, 3) := by decide +kernel
theorem dX5_count_179 : decode cX5_count 179 = .ok (.iload_n 2, 1) := by decide +kernel
theorem dX5_count_180 : decode cX5_count 180 = .ok (.aload_n 0, 1) := by decide +kernel
theorem dX5_count_181 : decode cX5_count 181 = .ok (.getfield 19, 3) := by decide +kernel
theorem dX5_count_184 : decode cX5_count 184 = .ok (.iload_n 3, 1) := by decide +kernel
theorem dX5_count_185 : decode cX5_count 185 = .ok (.iaload, 1) := by decide +kernel
theorem dX5_count_186 : decode cX5_count 186 = .ok (.ifCond .ge 7, 3) := by decide +kernel
theorem dX5_count_189 : decode cX5_count 189 = .ok (.iconst 0, 1) := by decide +kernel
theorem dX5_count_190 : decode cX5_count 190 = .ok (.goto 4, 3) := by decide +kernel
theorem dX5_count_193 : decode cX5_count 193 = .ok (.iconst 1, 1) := by decide +kernel
theorem dX5_count_194 : decode cX5_count 194 = .ok (.iadd, 1) := by decide +kernel
theorem dX5_count_195 : decode cX5_count 195 = .ok (.istore_n 2, 1) := by decide +kernel
theorem dX5_count_196 : decode cX5_count 196 = .ok (.iinc 3 1, 3) := by decide +kernel
theorem dX5_count_199 : decode cX5_count 199 = .ok (.goto (-25), 3) := by decide +kernel
theorem dX5_count_202 : decode cX5_count 202 = .ok (.iload_n 2, 1) := by decide +kernel
theorem dX5_count_203 : decode cX5_count 203 = .ok (.ireturn, 1) := by decide +kernel
theorem dX5_count_204 : decode cX5_count 204 = .ok (.iconst 0, 1) := by decide +kernel
theorem dX5_count_205 : decode cX5_count 205 = .ok (.istore_n 3, 1) := by decide +kernel
theorem dX5_count_206 : decode cX5_count 206 = .ok (.iload_n 3, 1) := by decide +kernel
theorem dX5_count_207 : decode cX5_count 207 = .ok (.iconst 3, 1) := by decide +kernel
theorem dX5_count_208 : decode cX5_count 208 = .ok (.if_icmp .ge 26, 3) := by decide +kernel
theorem dX5_count_211 : decode cX5_count 211 = .ok (.iload_n 2, 1) := by decide +kernel
theorem dX5_count_212 : decode cX5_count 212 = .ok (.aload_n 0, 1) := by decide +kernel
theorem dX5_count_213 : decode cX5_count 213 = .ok (.getfield 34, 3) := by decide +kernel
theorem dX5_count_216 : decode cX5_count 216 = .ok (.iload_n 3, 1) := by decide +kernel
theorem dX5_count_217 : decode cX5_count 217 = .ok (.baload, 1) := by decide +kernel
theorem dX5_count_218 : decode cX5_count 218 = .ok (.ifCond .eq 7, 3) := by decide +kernel
theorem dX5_count_221 : decode cX5_count 221 = .ok (.iconst 1, 1) := by decide +kernel
theorem dX5_count_222 : decode cX5_count 222 = .ok (.goto 4, 3) := by decide +kernel
theorem dX5_count_225 : decode cX5_count 225 = .ok (.iconst 0, 1) := by decide +kernel
theorem dX5_count_226 : decode cX5_count 226 = .ok (.iadd, 1) := by decide +kernel
theorem dX5_count_227 : decode cX5_count 227 = .ok (.istore_n 2, 1) := by decide +kernel
theorem dX5_count_228 : decode cX5_count 228 = .ok (.iinc 3 1, 3) := by decide +kernel
theorem dX5_count_231 : decode cX5_count 231 = .ok (.goto (-25), 3) := by decide +kernel
theorem dX5_count_234 : decode cX5_count 234 = .ok (.iload_n 2, 1) := by decide +kernel
theorem dX5_count_235 : decode cX5_count 235 = .ok (.ireturn, 1) := by decide +kernel
theorem dX5_count_236 : decode cX5_count 236 = .ok (.iconst (-1), 1) := by decide +kernel
theorem dX5_count_237 : decode cX5_count 237 = .ok (.ireturn, 1) := by decide +kernel
theorem dX5_finding_0 : decode cX5_finding 0 = .ok (.aload_n 0, 1) := by decide +kernel
theorem dX5_finding_1 : decode cX5_finding 1 = .ok (.getfield 48, 3) := by decide +kernel
theorem dX5_finding_4 : decode cX5_finding 4 = .ok (.ireturn, 1) := by decide +kernel
set_option maxRecDepth 20000 in
theorem ggX5_findings_X5_in : GoodIn wsX5_findings wsX5_in := goodIn_r _ [5] (by decide +kernel) (by decide +kernel)
set_option maxRecDepth 20000 in
theorem gX5_findings_X5_in : GoodIn wsX5_findings (va_wsS RX5 58 yX5_in wsX5_in) := goodIn_app (goodIn_of _ (by decide +kernel)) ggX5_findings_X5_in
theorem dX5_findings_0 : decode cX5_findings 0 = .ok (.iload_n 1, 1) := by decide +kernel
theorem dX5_findings_1 : decode cX5_findings 1 = .ok (.iconst 1, 1) := by decide +kernel
theorem dX5_findings_2 : decode cX5_findings 2 = .ok (.iconst 5, 1) := by decide +kernel
theorem dX5_findings_3 : decode cX5_findings 3 = .ok (.invokestatic 58, 3) := by decide +kernel
theorem dX5_findings_6 : decode cX5_findings 6 = .ok (.ifCond .eq 12, 3) := by decide +kernel
theorem dX5_findings_9 : decode cX5_findings 9 = .ok (.aload_n 0, 1) := by decide +kernel
theorem dX5_findings_10 : decode cX5_findings 10 = .ok (.getfield 38, 3) := by decide +kernel
theorem dX5_findings_13 : decode cX5_findings 13 = .ok (.iload_n 1, 1) := by decide +kernel
theorem dX5_findings_14 : decode cX5_findings 14 = .ok (.iaload, 1) := by decide +kernel
theorem dX5_findings_15 : decode cX5_findings 15 = .ok (.goto 4, 3) := by decide +kernel
theorem dX5_findings_18 : decode cX5_findings 18 = .ok (.iconst (-1), 1) := by decide +kernel
theorem dX5_findings_19 : decode cX5_findings 19 = .ok (.ireturn, 1) := by decide +kernel
set_option maxRecDepth 20000 in
theorem ggX5_digest_X5_count : GoodIn wsX5_digest wsX5_count := goodIn_r _ [14, 3, 6, 8, 4, 15, 16, 17, 13, 18, 19, 20, 21, 22, 31, 32, 33, 34, 35, 36, 37, 38, 39, 40, 41, 42, 43, 44, 45, 46, 47] (by decide +kernel) (by decide +kernel)
set_option maxRecDepth 20000 in
theorem gX5_digest_X5_count : GoodIn wsX5_digest (wsV RX5 227 RX5 yX5_count wsX5_count) := goodIn_app (goodIn_of _ (by decide +kernel)) ggX5_digest_X5_count
set_option maxRecDepth 20000 in
theorem ggX5_digest_X5_beastHas : GoodIn wsX5_digest wsX5_beastHas := goodIn_r _ [26, 3, 27, 28, 29, 13, 30, 19, 20, 21, 22, 31, 32, 33, 34, 35, 36, 37, 38, 39, 40, 41, 42, 43, 44, 45, 46, 47] (by decide +kernel) (by decide +kernel)
set_option maxRecDepth 20000 in
theorem gX5_digest_X5_beastHas : GoodIn wsX5_digest (wsV RX5 133 RX5 yX5_beastHas wsX5_beastHas) := goodIn_app (goodIn_of _ (by decide +kernel)) ggX5_digest_X5_beastHas
theorem dX5_digest_0 : decode cX5_digest 0 = .ok (.ldc2_w 223, 3) := by decide +kernel
theorem dX5_digest_3 : decode cX5_digest 3 = .ok (.lstore_n 1, 1) := by decide +kernel
theorem dX5_digest_4 : decode cX5_digest 4 = .ok (.iconst 0, 1) := by decide +kernel
theorem dX5_digest_5 : decode cX5_digest 5 = .ok (.istore_n 3, 1) := by decide +kernel
theorem dX5_digest_6 : decode cX5_digest 6 = .ok (.iload_n 3, 1) := by decide +kernel
theorem dX5_digest_7 : decode cX5_digest 7 = .ok (.bipush 10, 2) := by decide +kernel
theorem dX5_digest_9 : decode cX5_digest 9 = .ok (.if_icmp .ge 22, 3) := by decide +kernel
theorem dX5_digest_12 : decode cX5_digest 12 = .ok (.ldc2_w 225, 3) := by decide +kernel
theorem dX5_digest_15 : decode cX5_digest 15 = .ok (.lload_n 1, 1) := by decide +kernel
theorem dX5_digest_16 : decode cX5_digest 16 = .ok (.lmul, 1) := by decide +kernel
theorem dX5_digest_17 : decode cX5_digest 17 = .ok (.aload_n 0, 1) := by decide +kernel
theorem dX5_digest_18 : decode cX5_digest 18 = .ok (.iload_n 3, 1) := by decide +kernel
theorem dX5_digest_19 : decode cX5_digest 19 = .ok (.invokevirtual 227, 3) := by decide +kernel
theorem dX5_digest_22 : decode cX5_digest 22 = .ok (.i2l, 1) := by decide +kernel
theorem dX5_digest_23 : decode cX5_digest 23 = .ok (.ladd, 1) := by decide +kernel
theorem dX5_digest_24 : decode cX5_digest 24 = .ok (.lstore_n 1, 1) := by decide +kernel
theorem dX5_digest_25 : decode cX5_digest 25 = .ok (.iinc 3 1, 3) := by decide +kernel
theorem dX5_digest_28 : decode cX5_digest 28 = .ok (.goto (-22), 3) := by decide +kernel
theorem dX5_digest_31 : decode cX5_digest 31 = .ok (.iconst 0, 1) := by decide +kernel
theorem dX5_digest_32 : decode cX5_digest 32 = .ok (.istore_n 3, 1) := by decide +kernel
theorem dX5_digest_33 : decode cX5_digest 33 = .ok (.iload_n 3, 1) := by decide +kernel
theorem dX5_digest_34 : decode cX5_digest 34 = .ok (.aload_n 0, 1) := by decide +kernel
theorem dX5_digest_35 : decode cX5_digest 35 = .ok (.getfield 25, 3) := by decide +kernel
theorem dX5_digest_38 : decode cX5_digest 38 = .ok (.iconst 1, 1) := by decide +kernel
theorem dX5_digest_39 : decode cX5_digest 39 = .ok (.iaload, 1) := by decide +kernel
theorem dX5_digest_40 : decode cX5_digest 40 = .ok (.if_icmp .ge 26, 3) := by decide +kernel
theorem dX5_digest_43 : decode cX5_digest 43 = .ok (.ldc2_w 225, 3) := by decide +kernel
theorem dX5_digest_46 : decode cX5_digest 46 = .ok (.lload_n 1, 1) := by decide +kernel
theorem dX5_digest_47 : decode cX5_digest 47 = .ok (.lmul, 1) := by decide +kernel
theorem dX5_digest_48 : decode cX5_digest 48 = .ok (.aload_n 0, 1) := by decide +kernel
theorem dX5_digest_49 : decode cX5_digest 49 = .ok (.getfield 25, 3) := by decide +kernel
theorem dX5_digest_52 : decode cX5_digest 52 = .ok (.bipush 6, 2) := by decide +kernel
theorem dX5_digest_54 : decode cX5_digest 54 = .ok (.iload_n 3, 1) := by decide +kernel
theorem dX5_digest_55 : decode cX5_digest 55 = .ok (.iadd, 1) := by decide +kernel
theorem dX5_digest_56 : decode cX5_digest 56 = .ok (.iaload, 1) := by decide +kernel
theorem dX5_digest_57 : decode cX5_digest 57 = .ok (.i2l, 1) := by decide +kernel
theorem dX5_digest_58 : decode cX5_digest 58 = .ok (.ladd, 1) := by decide +kernel
theorem dX5_digest_59 : decode cX5_digest 59 = .ok (.lstore_n 1, 1) := by decide +kernel
theorem dX5_digest_60 : decode cX5_digest 60 = .ok (.iinc 3 1, 3) := by decide +kernel
theorem dX5_digest_63 : decode cX5_digest 63 = .ok (.goto (-30), 3) := by decide +kernel
theorem dX5_digest_66 : decode cX5_digest 66 = .ok (.iconst 0, 1) := by decide +kernel
theorem dX5_digest_67 : decode cX5_digest 67 = .ok (.istore_n 3, 1) := by decide +kernel
theorem dX5_digest_68 : decode cX5_digest 68 = .ok (.iload_n 3, 1) := by decide +kernel
theorem dX5_digest_69 : decode cX5_digest 69 = .ok (.iconst 5, 1) := by decide +kernel
theorem dX5_digest_70 : decode cX5_digest 70 = .ok (.aload_n 0, 1) := by decide +kernel
theorem dX5_digest_71 : decode cX5_digest 71 = .ok (.getfield 25, 3) := by decide +kernel
theorem dX5_digest_74 : decode cX5_digest 74 = .ok (.iconst 0, 1) := by decide +kernel
theorem dX5_digest_75 : decode cX5_digest 75 = .ok (.iaload, 1) := by decide +kernel
theorem dX5_digest_76 : decode cX5_digest 76 = .ok (.imul, 1) := by decide +kernel
theorem dX5_digest_77 : decode cX5_digest 77 = .ok (.if_icmp .ge 27, 3) := by decide +kernel
theorem dX5_digest_80 : decode cX5_digest 80 = .ok (.ldc2_w 225, 3) := by decide +kernel
theorem dX5_digest_83 : decode cX5_digest 83 = .ok (.lload_n 1, 1) := by decide +kernel
theorem dX5_digest_84 : decode cX5_digest 84 = .ok (.lmul, 1) := by decide +kernel
theorem dX5_digest_85 : decode cX5_digest 85 = .ok (.aload_n 0, 1) := by decide +kernel
theorem dX5_digest_86 : decode cX5_digest 86 = .ok (.iload_n 3, 1) := by decide +kernel
theorem dX5_digest_87 : decode cX5_digest 87 = .ok (.iconst 5, 1) := by decide +kernel
theorem dX5_digest_88 : decode cX5_digest 88 = .ok (.idiv, 1) := by decide +kernel
theorem dX5_digest_89 : decode cX5_digest 89 = .ok (.iload_n 3, 1) := by decide +kernel
theorem dX5_digest_90 : decode cX5_digest 90 = .ok (.iconst 5, 1) := by decide +kernel
theorem dX5_digest_91 : decode cX5_digest 91 = .ok (.irem, 1) := by decide +kernel
theorem dX5_digest_92 : decode cX5_digest 92 = .ok (.invokevirtual 133, 3) := by decide +kernel
theorem dX5_digest_95 : decode cX5_digest 95 = .ok (.i2l, 1) := by decide +kernel
theorem dX5_digest_96 : decode cX5_digest 96 = .ok (.ladd, 1) := by decide +kernel
theorem dX5_digest_97 : decode cX5_digest 97 = .ok (.lstore_n 1, 1) := by decide +kernel
theorem dX5_digest_98 : decode cX5_digest 98 = .ok (.iinc 3 1, 3) := by decide +kernel
theorem dX5_digest_101 : decode cX5_digest 101 = .ok (.goto (-33), 3) := by decide +kernel
theorem dX5_digest_104 : decode cX5_digest 104 = .ok (.iconst 0, 1) := by decide +kernel
theorem dX5_digest_105 : decode cX5_digest 105 = .ok (.istore_n 3, 1) := by decide +kernel
theorem dX5_digest_106 : decode cX5_digest 106 = .ok (.iload_n 3, 1) := by decide +kernel
theorem dX5_digest_107 : decode cX5_digest 107 = .ok (.iconst 3, 1) := by decide +kernel
theorem dX5_digest_108 : decode cX5_digest 108 = .ok (.if_icmp .ge 41, 3) := by decide +kernel
theorem dX5_digest_111 : decode cX5_digest 111 = .ok (.ldc2_w 225, 3) := by decide +kernel
theorem dX5_digest_114 : decode cX5_digest 114 = .ok (.lload_n 1, 1) := by decide +kernel
theorem dX5_digest_115 : decode cX5_digest 115 = .ok (.lmul, 1) := by decide +kernel
theorem dX5_digest_116 : decode cX5_digest 116 = .ok (.aload_n 0, 1) := by decide +kernel
theorem dX5_digest_117 : decode cX5_digest 117 = .ok (.getfield 34, 3) := by decide +kernel
theorem dX5_digest_120 : decode cX5_digest 120 = .ok (.iload_n 3, 1) := by decide +kernel
theorem dX5_digest_121 : decode cX5_digest 121 = .ok (.baload, 1) := by decide +kernel
theorem dX5_digest_122 : decode cX5_digest 122 = .ok (.ifCond .eq 17, 3) := by decide +kernel
theorem dX5_digest_125 : decode cX5_digest 125 = .ok (.aload_n 0, 1) := by decide +kernel
theorem dX5_digest_126 : decode cX5_digest 126 = .ok (.getfield 31, 3) := by decide +kernel
theorem dX5_digest_129 : decode cX5_digest 129 = .ok (.bipush 98, 2) := by decide +kernel
theorem dX5_digest_131 : decode cX5_digest 131 = .ok (.iload_n 3, 1) := by decide +kernel
theorem dX5_digest_132 : decode cX5_digest 132 = .ok (.imul, 1) := by decide +kernel
theorem dX5_digest_133 : decode cX5_digest 133 = .ok (.iconst 4, 1) := by decide +kernel
theorem dX5_digest_134 : decode cX5_digest 134 = .ok (.iadd, 1) := by decide +kernel
theorem dX5_digest_135 : decode cX5_digest 135 = .ok (.iaload, 1) := by decide +kernel
theorem dX5_digest_136 : decode cX5_digest 136 = .ok (.goto 4, 3) := by decide +kernel
theorem dX5_digest_139 : decode cX5_digest 139 = .ok (.iconst (-1), 1) := by decide +kernel
theorem dX5_digest_140 : decode cX5_digest 140 = .ok (.i2l, 1) := by decide +kernel
theorem dX5_digest_141 : decode cX5_digest 141 = .ok (.ladd, 1) := by decide +kernel
theorem dX5_digest_142 : decode cX5_digest 142 = .ok (.lstore_n 1, 1) := by decide +kernel
theorem dX5_digest_143 : decode cX5_digest 143 = .ok (.iinc 3 1, 3) := by decide +kernel
theorem dX5_digest_146 : decode cX5_digest 146 = .ok (.goto (-40), 3) := by decide +kernel
theorem dX5_digest_149 : decode cX5_digest 149 = .ok (.iconst 0, 1) := by decide +kernel
theorem dX5_digest_150 : decode cX5_digest 150 = .ok (.istore_n 3, 1) := by decide +kernel
theorem dX5_digest_151 : decode cX5_digest 151 = .ok (.iload_n 3, 1) := by decide +kernel
theorem dX5_digest_152 : decode cX5_digest 152 = .ok (.bipush 6, 2) := by decide +kernel
theorem dX5_digest_154 : decode cX5_digest 154 = .ok (.if_icmp .ge 63, 3) := by decide +kernel
theorem dX5_digest_157 : decode cX5_digest 157 = .ok (.ldc2_w 225, 3) := by decide +kernel
theorem dX5_digest_160 : decode cX5_digest 160 = .ok (.lload_n 1, 1) := by decide +kernel
theorem dX5_digest_161 : decode cX5_digest 161 = .ok (.lmul, 1) := by decide +kernel
theorem dX5_digest_162 : decode cX5_digest 162 = .ok (.aload_n 0, 1) := by decide +kernel
theorem dX5_digest_163 : decode cX5_digest 163 = .ok (.getfield 7, 3) := by decide +kernel
theorem dX5_digest_166 : decode cX5_digest 166 = .ok (.iload_n 3, 1) := by decide +kernel
theorem dX5_digest_167 : decode cX5_digest 167 = .ok (.iaload, 1) := by decide +kernel
theorem dX5_digest_168 : decode cX5_digest 168 = .ok (.i2l, 1) := by decide +kernel
theorem dX5_digest_169 : decode cX5_digest 169 = .ok (.ladd, 1) := by decide +kernel
theorem dX5_digest_170 : decode cX5_digest 170 = .ok (.lstore_n 1, 1) := by decide +kernel
theorem dX5_digest_171 : decode cX5_digest 171 = .ok (.iconst 0, 1) := by decide +kernel
theorem dX5_digest_172 : decode cX5_digest 172 = .ok (.istore 4, 2) := by decide +kernel
theorem dX5_digest_174 : decode cX5_digest 174 = .ok (.iload 4, 2) := by decide +kernel
theorem dX5_digest_176 : decode cX5_digest 176 = .ok (.aload_n 0, 1) := by decide +kernel
theorem dX5_digest_177 : decode cX5_digest 177 = .ok (.getfield 7, 3) := by decide +kernel
theorem dX5_digest_180 : decode cX5_digest 180 = .ok (.iload_n 3, 1) := by decide +kernel
theorem dX5_digest_181 : decode cX5_digest 181 = .ok (.iaload, 1) := by decide +kernel
theorem dX5_digest_182 : decode cX5_digest 182 = .ok (.if_icmp .ge 29, 3) := by decide +kernel
theorem dX5_digest_185 : decode cX5_digest 185 = .ok (.ldc2_w 225, 3) := by decide +kernel
theorem dX5_digest_188 : decode cX5_digest 188 = .ok (.lload_n 1, 1) := by decide +kernel
theorem dX5_digest_189 : decode cX5_digest 189 = .ok (.lmul, 1) := by decide +kernel
theorem dX5_digest_190 : decode cX5_digest 190 = .ok (.aload_n 0, 1) := by decide +kernel
theorem dX5_digest_191 : decode cX5_digest 191 = .ok (.getfield 13, 3) := by decide +kernel
