theorem dX5_valueTo_90 : decode cX5_valueTo 90 = .ok (.iconst 4, 1) := by decide +kernel
theorem dX5_valueTo_91 : decode cX5_valueTo 91 = .ok (.iload_n 3, 1) := by decide +kernel
theorem dX5_valueTo_92 : decode cX5_valueTo 92 = .ok (.imul, 1) := by decide +kernel
theorem dX5_valueTo_93 : decode cX5_valueTo 93 = .ok (.iconst 1, 1) := by decide +kernel
theorem dX5_valueTo_94 : decode cX5_valueTo 94 = .ok (.isub, 1) := by decide +kernel
theorem dX5_valueTo_95 : decode cX5_valueTo 95 = .ok (.goto 8, 3) := by decide +kernel
theorem dX5_valueTo_98 : decode cX5_valueTo 98 = .ok (.iconst 2, 1) := by decide +kernel
theorem dX5_valueTo_99 : decode cX5_valueTo 99 = .ok (.iload_n 3, 1) := by decide +kernel
theorem dX5_valueTo_100 : decode cX5_valueTo 100 = .ok (.imul, 1) := by decide +kernel
theorem dX5_valueTo_101 : decode cX5_valueTo 101 = .ok (.iconst 1, 1) := by decide +kernel
theorem dX5_valueTo_102 : decode cX5_valueTo 102 = .ok (.isub, 1) := by decide +kernel
theorem dX5_valueTo_103 : decode cX5_valueTo 103 = .ok (.ireturn, 1) := by decide +kernel
theorem dX5_valueTo_104 : decode cX5_valueTo 104 = .ok (.iconst 2, 1) := by decide +kernel
theorem dX5_valueTo_105 : decode cX5_valueTo 105 = .ok (.iload_n 3, 1) := by decide +kernel
theorem dX5_valueTo_106 : decode cX5_valueTo 106 = .ok (.imul, 1) := by decide +kernel
theorem dX5_valueTo_107 : decode cX5_valueTo 107 = .ok (.ireturn, 1) := by decide +kernel
set_option maxRecDepth 20000 in
theorem ggX5_beastHas_X5_valueTo : GoodIn wsX5_beastHas wsX5_valueTo := goodIn_r _ [6, 1, 7, 8, 9, 5, 10, 11, 12, 13, 14, 15, 16, 17, 18, 19, 20, 21, 22, 23, 24, 25, 26, 27] (by decide +kernel) (by decide +kernel)
set_option maxRecDepth 20000 in
theorem gX5_beastHas_X5_valueTo : GoodIn wsX5_beastHas (wsV RX5 127 RX5 yX5_valueTo wsX5_valueTo) := goodIn_app (goodIn_of _ (by decide +kernel)) ggX5_beastHas_X5_valueTo
theorem dX5_beastHas_0 : decode cX5_beastHas 0 = .ok (.iload_n 2, 1) := by decide +kernel
theorem dX5_beastHas_1 : decode cX5_beastHas 1 = .ok (.iconst 3, 1) := by decide +kernel
theorem dX5_beastHas_2 : decode cX5_beastHas 2 = .ok (.if_icmp .ge 19, 3) := by decide +kernel
theorem dX5_beastHas_5 : decode cX5_beastHas 5 = .ok (.aload_n 0, 1) := by decide +kernel
theorem dX5_beastHas_6 : decode cX5_beastHas 6 = .ok (.getfield 25, 3) := by decide +kernel
theorem dX5_beastHas_9 : decode cX5_beastHas 9 = .ok (.bipush 20, 2) := by decide +kernel
theorem dX5_beastHas_11 : decode cX5_beastHas 11 = .ok (.iconst 3, 1) := by decide +kernel
theorem dX5_beastHas_12 : decode cX5_beastHas 12 = .ok (.iload_n 1, 1) := by decide +kernel
theorem dX5_beastHas_13 : decode cX5_beastHas 13 = .ok (.imul, 1) := by decide +kernel
theorem dX5_beastHas_14 : decode cX5_beastHas 14 = .ok (.iadd, 1) := by decide +kernel
theorem dX5_beastHas_15 : decode cX5_beastHas 15 = .ok (.iload_n 2, 1) := by decide +kernel
theorem dX5_beastHas_16 : decode cX5_beastHas 16 = .ok (.iadd, 1) := by decide +kernel
theorem dX5_beastHas_17 : decode cX5_beastHas 17 = .ok (.iaload, 1) := by decide +kernel
theorem dX5_beastHas_18 : decode cX5_beastHas 18 = .ok (.goto 11, 3) := by decide +kernel
theorem dX5_beastHas_21 : decode cX5_beastHas 21 = .ok (.aload_n 0, 1) := by decide +kernel
theorem dX5_beastHas_22 : decode cX5_beastHas 22 = .ok (.iload_n 1, 1) := by decide +kernel
theorem dX5_beastHas_23 : decode cX5_beastHas 23 = .ok (.iload_n 2, 1) := by decide +kernel
theorem dX5_beastHas_24 : decode cX5_beastHas 24 = .ok (.iconst 3, 1) := by decide +kernel
theorem dX5_beastHas_25 : decode cX5_beastHas 25 = .ok (.isub, 1) := by decide +kernel
theorem dX5_beastHas_26 : decode cX5_beastHas 26 = .ok (.invokevirtual 127, 3) := by decide +kernel
theorem dX5_beastHas_29 : decode cX5_beastHas 29 = .ok (.ireturn, 1) := by decide +kernel
set_option maxRecDepth 20000 in
theorem ggX5_beast_X5_isBeast : GoodIn wsX5_beast wsX5_isBeast := goodIn_r _ [5, 6, 7, 8, 4, 9, 27, 28, 29, 30, 31, 32, 33, 34, 35, 36, 37, 38, 39, 40, 41, 42, 43] (by decide +kernel) (by decide +kernel)
set_option maxRecDepth 20000 in
theorem gX5_beast_X5_isBeast : GoodIn wsX5_beast (wsV RX5 130 RX5 yX5_isBeast wsX5_isBeast) := goodIn_app (goodIn_of _ (by decide +kernel)) ggX5_beast_X5_isBeast
set_option maxRecDepth 20000 in
theorem ggX5_beast_X5_in : GoodIn wsX5_beast wsX5_in := goodIn_r _ [9] (by decide +kernel) (by decide +kernel)
set_option maxRecDepth 20000 in
theorem gX5_beast_X5_in : GoodIn wsX5_beast (va_wsS RX5 58 yX5_in wsX5_in) := goodIn_app (goodIn_of _ (by decide +kernel)) ggX5_beast_X5_in
set_option maxRecDepth 20000 in
theorem ggX5_beast_X5_beastHas : GoodIn wsX5_beast wsX5_beastHas := goodIn_r _ [13, 6, 14, 15, 16, 4, 17, 18, 19, 20, 21, 27, 28, 29, 30, 31, 32, 33, 34, 35, 36, 37, 38, 39, 40, 41, 42, 43] (by decide +kernel) (by decide +kernel)
set_option maxRecDepth 20000 in
theorem gX5_beast_X5_beastHas : GoodIn wsX5_beast (wsV RX5 133 RX5 yX5_beastHas wsX5_beastHas) := goodIn_app (goodIn_of _ (by decide +kernel)) ggX5_beast_X5_beastHas
set_option maxRecDepth 20000 in
theorem ggX5_beast_X5_tells : GoodIn wsX5_beast wsX5_tells := goodIn_r _ [25, 26, 27, 28, 29, 30, 31, 32, 33, 34, 35, 36, 37, 38, 39, 40, 41, 42, 43] (by decide +kernel) (by decide +kernel)
set_option maxRecDepth 20000 in
theorem gX5_beast_X5_tells : GoodIn wsX5_beast (wsV RX5 78 RX5 yX5_tells wsX5_tells) := goodIn_app (goodIn_of _ (by decide +kernel)) ggX5_beast_X5_tells
theorem dX5_beast_0 : decode cX5_beast 0 = .ok (.aload_n 0, 1) := by decide +kernel
theorem dX5_beast_1 : decode cX5_beast 1 = .ok (.iload_n 1, 1) := by decide +kernel
theorem dX5_beast_2 : decode cX5_beast 2 = .ok (.invokevirtual 130, 3) := by decide +kernel
theorem dX5_beast_5 : decode cX5_beast 5 = .ok (.ifCond .eq 26, 3) := by decide +kernel
theorem dX5_beast_8 : decode cX5_beast 8 = .ok (.iload_n 2, 1) := by decide +kernel
theorem dX5_beast_9 : decode cX5_beast 9 = .ok (.iconst 0, 1) := by decide +kernel
theorem dX5_beast_10 : decode cX5_beast 10 = .ok (.iconst 4, 1) := by decide +kernel
theorem dX5_beast_11 : decode cX5_beast 11 = .ok (.invokestatic 58, 3) := by decide +kernel
theorem dX5_beast_14 : decode cX5_beast 14 = .ok (.ifCond .eq 17, 3) := by decide +kernel
theorem dX5_beast_17 : decode cX5_beast 17 = .ok (.aload_n 0, 1) := by decide +kernel
theorem dX5_beast_18 : decode cX5_beast 18 = .ok (.iconst 1, 1) := by decide +kernel
theorem dX5_beast_19 : decode cX5_beast 19 = .ok (.aload_n 0, 1) := by decide +kernel
theorem dX5_beast_20 : decode cX5_beast 20 = .ok (.iload_n 1, 1) := by decide +kernel
theorem dX5_beast_21 : decode cX5_beast 21 = .ok (.iload_n 2, 1) := by decide +kernel
theorem dX5_beast_22 : decode cX5_beast 22 = .ok (.invokevirtual 133, 3) := by decide +kernel
theorem dX5_beast_25 : decode cX5_beast 25 = .ok (.invokevirtual 78, 3) := by decide +kernel
theorem dX5_beast_28 : decode cX5_beast 28 = .ok (.goto 4, 3) := by decide +kernel
theorem dX5_beast_31 : decode cX5_beast 31 = .ok (.iconst (-1), 1) := by decide +kernel
theorem dX5_beast_32 : decode cX5_beast 32 = .ok (.ireturn, 1) := by decide +kernel
set_option maxRecDepth 20000 in
theorem ggX5_isOf_X5_kindIn : GoodIn wsX5_isOf wsX5_kindIn := goodIn_r _ [5, 6, 7, 8, 9, 10, 11, 12, 13, 14, 15, 16, 17, 18, 19, 20, 21, 22, 23] (by decide +kernel) (by decide +kernel)
set_option maxRecDepth 20000 in
theorem gX5_isOf_X5_kindIn : GoodIn wsX5_isOf (wsV RX5 124 RX5 yX5_kindIn wsX5_kindIn) := goodIn_app (goodIn_of _ (by decide +kernel)) ggX5_isOf_X5_kindIn
theorem dX5_isOf_0 : decode cX5_isOf 0 = .ok (.aload_n 0, 1) := by decide +kernel
theorem dX5_isOf_1 : decode cX5_isOf 1 = .ok (.iload_n 1, 1) := by decide +kernel
theorem dX5_isOf_2 : decode cX5_isOf 2 = .ok (.invokevirtual 124, 3) := by decide +kernel
theorem dX5_isOf_5 : decode cX5_isOf 5 = .ok (.istore_n 3, 1) := by decide +kernel
theorem dX5_isOf_6 : decode cX5_isOf 6 = .ok (.iload_n 3, 1) := by decide +kernel
theorem dX5_isOf_7 : decode cX5_isOf 7 = .ok (.iload_n 2, 1) := by decide +kernel
theorem dX5_isOf_8 : decode cX5_isOf 8 = .ok (.if_icmp .eq 23, 3) := by decide +kernel
theorem dX5_isOf_11 : decode cX5_isOf 11 = .ok (.iload_n 3, 1) := by decide +kernel
theorem dX5_isOf_12 : decode cX5_isOf 12 = .ok (.iconst 4, 1) := by decide +kernel
theorem dX5_isOf_13 : decode cX5_isOf 13 = .ok (.if_icmp .ne 8, 3) := by decide +kernel
theorem dX5_isOf_16 : decode cX5_isOf 16 = .ok (.iload_n 2, 1) := by decide +kernel
theorem dX5_isOf_17 : decode cX5_isOf 17 = .ok (.iconst 2, 1) := by decide +kernel
theorem dX5_isOf_18 : decode cX5_isOf 18 = .ok (.if_icmp .eq 13, 3) := by decide +kernel
theorem dX5_isOf_21 : decode cX5_isOf 21 = .ok (.iload_n 3, 1) := by decide +kernel
theorem dX5_isOf_22 : decode cX5_isOf 22 = .ok (.iconst 5, 1) := by decide +kernel
theorem dX5_isOf_23 : decode cX5_isOf 23 = .ok (.if_icmp .ne 12, 3) := by decide +kernel
theorem dX5_isOf_26 : decode cX5_isOf 26 = .ok (.iload_n 2, 1) := by decide +kernel
theorem dX5_isOf_27 : decode cX5_isOf 27 = .ok (.iconst 3, 1) := by decide +kernel
theorem dX5_isOf_28 : decode cX5_isOf 28 = .ok (.if_icmp .ne 7, 3) := by decide +kernel
theorem dX5_isOf_31 : decode cX5_isOf 31 = .ok (.iconst 1, 1) := by decide +kernel
theorem dX5_isOf_32 : decode cX5_isOf 32 = .ok (.goto 4, 3) := by decide +kernel
theorem dX5_isOf_35 : decode cX5_isOf 35 = .ok (.iconst 0, 1) := by decide +kernel
theorem dX5_isOf_36 : decode cX5_isOf 36 = .ok (.ireturn, 1) := by decide +kernel
set_option maxRecDepth 20000 in
theorem ggX5_mark_X5_isBeast : GoodIn wsX5_mark wsX5_isBeast := goodIn_r _ [6, 1, 7, 8, 5, 9, 32, 33, 34, 35, 36, 37, 38, 39, 40, 41, 42, 43, 44, 45, 46, 47, 48] (by decide +kernel) (by decide +kernel)
set_option maxRecDepth 20000 in
theorem gX5_mark_X5_isBeast : GoodIn wsX5_mark (wsV RX5 130 RX5 yX5_isBeast wsX5_isBeast) := goodIn_app (goodIn_of _ (by decide +kernel)) ggX5_mark_X5_isBeast
set_option maxRecDepth 20000 in
theorem ggX5_mark_X5_in : GoodIn wsX5_mark wsX5_in := goodIn_r _ [9] (by decide +kernel) (by decide +kernel)
set_option maxRecDepth 20000 in
theorem gX5_mark_X5_in : GoodIn wsX5_mark (va_wsS RX5 58 yX5_in wsX5_in) := goodIn_app (goodIn_of _ (by decide +kernel)) ggX5_mark_X5_in
set_option maxRecDepth 20000 in
theorem ggX5_mark_X5_isOf : GoodIn wsX5_mark wsX5_isOf := goodIn_r _ [13, 14, 15, 16, 5, 17, 1, 32, 33, 34, 35, 36, 37, 38, 39, 40, 41, 42, 43, 44, 45, 46, 47, 48] (by decide +kernel) (by decide +kernel)
set_option maxRecDepth 20000 in
theorem gX5_mark_X5_isOf : GoodIn wsX5_mark (wsV RX5 136 RX5 yX5_isOf wsX5_isOf) := goodIn_app (goodIn_of _ (by decide +kernel)) ggX5_mark_X5_isOf
set_option maxRecDepth 20000 in
theorem ggX5_mark_X5_finds : GoodIn wsX5_mark wsX5_finds := goodIn_r _ [21, 22, 23, 32, 33, 34, 35, 36, 37, 38, 39, 40, 41, 42, 43, 44, 45, 46, 47, 48] (by decide +kernel) (by decide +kernel)
set_option maxRecDepth 20000 in
theorem gX5_mark_X5_finds : GoodIn wsX5_mark (wsV RX5 66 RX5 yX5_finds wsX5_finds) := goodIn_app (goodIn_of _ (by decide +kernel)) ggX5_mark_X5_finds
set_option maxRecDepth 20000 in
theorem ggX5_mark_X5_valueTo : GoodIn wsX5_mark wsX5_valueTo := goodIn_r _ [27, 1, 14, 15, 16, 5, 17, 32, 33, 34, 35, 36, 37, 38, 39, 40, 41, 42, 43, 44, 45, 46, 47, 48] (by decide +kernel) (by decide +kernel)
set_option maxRecDepth 20000 in
theorem gX5_mark_X5_valueTo : GoodIn wsX5_mark (wsV RX5 127 RX5 yX5_valueTo wsX5_valueTo) := goodIn_app (goodIn_of _ (by decide +kernel)) ggX5_mark_X5_valueTo
set_option maxRecDepth 20000 in
theorem ggX5_mark_X5_ownerOf : GoodIn wsX5_mark wsX5_ownerOf := goodIn_r _ [31, 1, 32, 33, 34, 35, 36, 37, 38, 39, 40, 41, 42, 43, 44, 45, 46, 47, 48] (by decide +kernel) (by decide +kernel)
set_option maxRecDepth 20000 in
theorem gX5_mark_X5_ownerOf : GoodIn wsX5_mark (wsV RX5 140 RX5 yX5_ownerOf wsX5_ownerOf) := goodIn_app (goodIn_of _ (by decide +kernel)) ggX5_mark_X5_ownerOf
theorem dX5_mark_0 : decode cX5_mark 0 = .ok (.aload_n 0, 1) := by decide +kernel
theorem dX5_mark_1 : decode cX5_mark 1 = .ok (.iload_n 1, 1) := by decide +kernel
theorem dX5_mark_2 : decode cX5_mark 2 = .ok (.invokevirtual 130, 3) := by decide +kernel
theorem dX5_mark_5 : decode cX5_mark 5 = .ok (.ifCond .eq 12, 3) := by decide +kernel
theorem dX5_mark_8 : decode cX5_mark 8 = .ok (.iload_n 2, 1) := by decide +kernel
theorem dX5_mark_9 : decode cX5_mark 9 = .ok (.iconst 1, 1) := by decide +kernel
theorem dX5_mark_10 : decode cX5_mark 10 = .ok (.iconst 5, 1) := by decide +kernel
theorem dX5_mark_11 : decode cX5_mark 11 = .ok (.invokestatic 58, 3) := by decide +kernel
theorem dX5_mark_14 : decode cX5_mark 14 = .ok (.ifCond .ne 5, 3) := by decide +kernel
theorem dX5_mark_17 : decode cX5_mark 17 = .ok (.iconst (-1), 1) := by decide +kernel
theorem dX5_mark_18 : decode cX5_mark 18 = .ok (.ireturn, 1) := by decide +kernel
theorem dX5_mark_19 : decode cX5_mark 19 = .ok (.aload_n 0, 1) := by decide +kernel
theorem dX5_mark_20 : decode cX5_mark 20 = .ok (.iload_n 1, 1) := by decide +kernel
theorem dX5_mark_21 : decode cX5_mark 21 = .ok (.iload_n 2, 1) := by decide +kernel
theorem dX5_mark_22 : decode cX5_mark 22 = .ok (.invokevirtual 136, 3) := by decide +kernel
theorem dX5_mark_25 : decode cX5_mark 25 = .ok (.ifCond .ne 9, 3) := by decide +kernel
theorem dX5_mark_28 : decode cX5_mark 28 = .ok (.aload_n 0, 1) := by decide +kernel
theorem dX5_mark_29 : decode cX5_mark 29 = .ok (.iconst 3, 1) := by decide +kernel
theorem dX5_mark_30 : decode cX5_mark 30 = .ok (.invokevirtual 66, 3) := by decide +kernel
theorem dX5_mark_33 : decode cX5_mark 33 = .ok (.ireturn, 1) := by decide +kernel
theorem dX5_mark_34 : decode cX5_mark 34 = .ok (.iconst 0, 1) := by decide +kernel
theorem dX5_mark_35 : decode cX5_mark 35 = .ok (.istore_n 3, 1) := by decide +kernel
theorem dX5_mark_36 : decode cX5_mark 36 = .ok (.iload_n 2, 1) := by decide +kernel
theorem dX5_mark_37 : decode cX5_mark 37 = .ok (.tableswitch 142 1 4 #[31, 54, 68, 82], 31) := by decide +kernel
theorem dX5_mark_68 : decode cX5_mark 68 = .ok (.iconst 2, 1) := by decide +kernel
theorem dX5_mark_69 : decode cX5_mark 69 = .ok (.aload_n 0, 1) := by decide +kernel
theorem dX5_mark_70 : decode cX5_mark 70 = .ok (.getfield 25, 3) := by decide +kernel
theorem dX5_mark_73 : decode cX5_mark 73 = .ok (.bipush 20, 2) := by decide +kernel
theorem dX5_mark_75 : decode cX5_mark 75 = .ok (.iconst 3, 1) := by decide +kernel
theorem dX5_mark_76 : decode cX5_mark 76 = .ok (.iload_n 1, 1) := by decide +kernel
theorem dX5_mark_77 : decode cX5_mark 77 = .ok (.imul, 1) := by decide +kernel
theorem dX5_mark_78 : decode cX5_mark 78 = .ok (.iadd, 1) := by decide +kernel
theorem dX5_mark_79 : decode cX5_mark 79 = .ok (.iconst 1, 1) := by decide +kernel
theorem dX5_mark_80 : decode cX5_mark 80 = .ok (.iadd, 1) := by decide +kernel
theorem dX5_mark_81 : decode cX5_mark 81 = .ok (.iaload, 1) := by decide +kernel
theorem dX5_mark_82 : decode cX5_mark 82 = .ok (.imul, 1) := by decide +kernel
theorem dX5_mark_83 : decode cX5_mark 83 = .ok (.aload_n 0, 1) := by decide +kernel
theorem dX5_mark_84 : decode cX5_mark 84 = .ok (.iload_n 1, 1) := by decide +kernel
theorem dX5_mark_85 : decode cX5_mark 85 = .ok (.iconst 0, 1) := by decide +kernel
theorem dX5_mark_86 : decode cX5_mark 86 = .ok (.invokevirtual 127, 3) := by decide +kernel
theorem dX5_mark_89 : decode cX5_mark 89 = .ok (.isub, 1) := by decide +kernel
theorem dX5_mark_90 : decode cX5_mark 90 = .ok (.ireturn, 1) := by decide +kernel
theorem dX5_mark_91 : decode cX5_mark 91 = .ok (.aload_n 0, 1) := by decide +kernel
theorem dX5_mark_92 : decode cX5_mark 92 = .ok (.iload_n 1, 1) := by decide +kernel
theorem dX5_mark_93 : decode cX5_mark 93 = .ok (.iconst 1, 1) := by decide +kernel
theorem dX5_mark_94 : decode cX5_mark 94 = .ok (.invokevirtual 127, 3) := by decide +kernel
theorem dX5_mark_97 : decode cX5_mark 97 = .ok (.aload_n 0, 1) := by decide +kernel
theorem dX5_mark_98 : decode cX5_mark 98 = .ok (.iload_n 1, 1) := by decide +kernel
theorem dX5_mark_99 : decode cX5_mark 99 = .ok (.iconst 0, 1) := by decide +kernel
theorem dX5_mark_100 : decode cX5_mark 100 = .ok (.invokevirtual 127, 3) := by decide +kernel
theorem dX5_mark_103 : decode cX5_mark 103 = .ok (.isub, 1) := by decide +kernel
theorem dX5_mark_104 : decode cX5_mark 104 = .ok (.ireturn, 1) := by decide +kernel
theorem dX5_mark_105 : decode cX5_mark 105 = .ok (.aload_n 0, 1) := by decide +kernel
theorem dX5_mark_106 : decode cX5_mark 106 = .ok (.iload_n 1, 1) := by decide +kernel
theorem dX5_mark_107 : decode cX5_mark 107 = .ok (.iconst 0, 1) := by decide +kernel
theorem dX5_mark_108 : decode cX5_mark 108 = .ok (.invokevirtual 127, 3) := by decide +kernel
theorem dX5_mark_111 : decode cX5_mark 111 = .ok (.aload_n 0, 1) := by decide +kernel
theorem dX5_mark_112 : decode cX5_mark 112 = .ok (.iload_n 1, 1) := by decide +kernel
theorem dX5_mark_113 : decode cX5_mark 113 = .ok (.iconst 1, 1) := by decide +kernel
theorem dX5_mark_114 : decode cX5_mark 114 = .ok (.invokevirtual 127, 3) := by decide +kernel
theorem dX5_mark_117 : decode cX5_mark 117 = .ok (.isub, 1) := by decide +kernel
theorem dX5_mark_118 : decode cX5_mark 118 = .ok (.ireturn, 1) := by decide +kernel
theorem dX5_mark_119 : decode cX5_mark 119 = .ok (.iconst 0, 1) := by decide +kernel
theorem dX5_mark_120 : decode cX5_mark 120 = .ok (.istore 4, 2) := by decide +kernel
theorem dX5_mark_122 : decode cX5_mark 122 = .ok (.iload 4, 2) := by decide +kernel
theorem dX5_mark_124 : decode cX5_mark 124 = .ok (.aload_n 0, 1) := by decide +kernel
theorem dX5_mark_125 : decode cX5_mark 125 = .ok (.getfield 25, 3) := by decide +kernel
theorem dX5_mark_128 : decode cX5_mark 128 = .ok (.iconst 0, 1) := by decide +kernel
theorem dX5_mark_129 : decode cX5_mark 129 = .ok (.iaload, 1) := by decide +kernel
theorem dX5_mark_130 : decode cX5_mark 130 = .ok (.if_icmp .ge 47, 3) := by decide +kernel
theorem dX5_mark_133 : decode cX5_mark 133 = .ok (.iload_n 3, 1) := by decide +kernel
theorem dX5_mark_134 : decode cX5_mark 134 = .ok (.iload 4, 2) := by decide +kernel
theorem dX5_mark_136 : decode cX5_mark 136 = .ok (.iload_n 1, 1) := by decide +kernel
theorem dX5_mark_137 : decode cX5_mark 137 = .ok (.if_icmp .eq 31, 3) := by decide +kernel
theorem dX5_mark_140 : decode cX5_mark 140 = .ok (.aload_n 0, 1) := by decide +kernel
theorem dX5_mark_141 : decode cX5_mark 141 = .ok (.iload 4, 2) := by decide +kernel
theorem dX5_mark_143 : decode cX5_mark 143 = .ok (.iconst 2, 1) := by decide +kernel
theorem dX5_mark_144 : decode cX5_mark 144 = .ok (.invokevirtual 136, 3) := by decide +kernel
theorem dX5_mark_147 : decode cX5_mark 147 = .ok (.ifCond .eq 21, 3) := by decide +kernel
theorem dX5_mark_150 : decode cX5_mark 150 = .ok (.aload_n 0, 1) := by decide +kernel
theorem dX5_mark_151 : decode cX5_mark 151 = .ok (.iload 4, 2) := by decide +kernel
theorem dX5_mark_153 : decode cX5_mark 153 = .ok (.invokevirtual 140, 3) := by decide +kernel
theorem dX5_mark_156 : decode cX5_mark 156 = .ok (.aload_n 0, 1) := by decide +kernel
theorem dX5_mark_157 : decode cX5_mark 157 = .ok (.iload_n 1, 1) := by decide +kernel
theorem dX5_mark_158 : decode cX5_mark 158 = .ok (.invokevirtual 140, 3) := by decide +kernel
theorem dX5_mark_161 : decode cX5_mark 161 = .ok (.if_icmp .ne 7, 3) := by decide +kernel
theorem dX5_mark_164 : decode cX5_mark 164 = .ok (.iconst 1, 1) := by decide +kernel
theorem dX5_mark_165 : decode cX5_mark 165 = .ok (.goto 4, 3) := by decide +kernel
theorem dX5_mark_168 : decode cX5_mark 168 = .ok (.iconst 0, 1) := by decide +kernel
theorem dX5_mark_169 : decode cX5_mark 169 = .ok (.iadd, 1) := by decide +kernel
theorem dX5_mark_170 : decode cX5_mark 170 = .ok (.istore_n 3, 1) := by decide +kernel
theorem dX5_mark_171 : decode cX5_mark 171 = .ok (.iinc 4 1, 3) := by decide +kernel
theorem dX5_mark_174 : decode cX5_mark 174 = .ok (.goto (-52), 3) := by decide +kernel
theorem dX5_mark_177 : decode cX5_mark 177 = .ok (.iload_n 3, 1) := by decide +kernel
theorem dX5_mark_178 : decode cX5_mark 178 = .ok (.ireturn, 1) := by decide +kernel
theorem dX5_mark_179 : decode cX5_mark 179 = .ok (.iconst 0, 1) := by decide +kernel
theorem dX5_mark_180 : decode cX5_mark 180 = .ok (.istore 4, 2) := by decide +kernel
theorem dX5_mark_182 : decode cX5_mark 182 = .ok (.iload 4, 2) := by decide +kernel
theorem dX5_mark_184 : decode cX5_mark 184 = .ok (.aload_n 0, 1) := by decide +kernel
theorem dX5_mark_185 : decode cX5_mark 185 = .ok (.getfield 25, 3) := by decide +kernel
theorem dX5_mark_188 : decode cX5_mark 188 = .ok (.iconst 0, 1) := by decide +kernel
theorem dX5_mark_189 : decode cX5_mark 189 = .ok (.iaload, 1) := by decide +kernel
theorem dX5_mark_190 : decode cX5_mark 190 = .ok (.if_icmp .ge 33, 3) := by decide +kernel
theorem dX5_mark_193 : decode cX5_mark 193 = .ok (.iload_n 3, 1) := by decide +kernel
theorem dX5_mark_194 : decode cX5_mark 194 = .ok (.aload_n 0, 1) := by decide +kernel
theorem dX5_mark_195 : decode cX5_mark 195 = .ok (.iload 4, 2) := by decide +kernel
theorem dX5_mark_197 : decode cX5_mark 197 = .ok (.iconst 0, 1) := by decide +kernel
theorem dX5_mark_198 : decode cX5_mark 198 = .ok (.invokevirtual 127, 3) := by decide +kernel
theorem dX5_mark_201 : decode cX5_mark 201 = .ok (.aload_n 0, 1) := by decide +kernel
theorem dX5_mark_202 : decode cX5_mark 202 = .ok (.iload_n 1, 1) := by decide +kernel
theorem dX5_mark_203 : decode cX5_mark 203 = .ok (.iconst 0, 1) := by decide +kernel
theorem dX5_mark_204 : decode cX5_mark 204 = .ok (.invokevirtual 127, 3) := by decide +kernel
theorem dX5_mark_207 : decode cX5_mark 207 = .ok (.if_icmp .ge 7, 3) := by decide +kernel
theorem dX5_mark_210 : decode cX5_mark 210 = .ok (.iconst 1, 1) := by decide +kernel
theorem dX5_mark_211 : decode cX5_mark 211 = .ok (.goto 4, 3) := by decide +kernel
theorem dX5_mark_214 : decode cX5_mark 214 = .ok (.iconst 0, 1) := by decide +kernel
theorem dX5_mark_215 : decode cX5_mark 215 = .ok (.iadd, 1) := by decide +kernel
theorem dX5_mark_216 : decode cX5_mark 216 = .ok (.istore_n 3, 1) := by decide +kernel
theorem dX5_mark_217 : decode cX5_mark 217 = .ok (.iinc 4 1, 3) := by decide +kernel
theorem dX5_mark_220 : decode cX5_mark 220 = .ok (.goto (-38), 3) := by decide +kernel
theorem dX5_mark_223 : decode cX5_mark 223 = .ok (.iload_n 3, 1) := by decide +kernel
theorem dX5_mark_224 : decode cX5_mark 224 = .ok (.ireturn, 1) := by decide +kernel
set_option maxRecDepth 20000 in
theorem ggX5_turn_X5_in : GoodIn wsX5_turn wsX5_in := goodIn_r _ [5] (by decide +kernel) (by decide +kernel)
set_option maxRecDepth 20000 in
theorem gX5_turn_X5_in : GoodIn wsX5_turn (va_wsS RX5 58 yX5_in wsX5_in) := goodIn_app (goodIn_of _ (by decide +kernel)) ggX5_turn_X5_in
theorem dX5_turn_0 : decode cX5_turn 0 = .ok (.iload_n 1, 1) := by decide +kernel
theorem dX5_turn_1 : decode cX5_turn 1 = .ok (.iconst 0, 1) := by decide +kernel
theorem dX5_turn_2 : decode cX5_turn 2 = .ok (.aload_n 0, 1) := by decide +kernel
theorem dX5_turn_3 : decode cX5_turn 3 = .ok (.getfield 25, 3) := by decide +kernel
theorem dX5_turn_6 : decode cX5_turn 6 = .ok (.iconst 1, 1) := by decide +kernel
theorem dX5_turn_7 : decode cX5_turn 7 = .ok (.iaload, 1) := by decide +kernel
theorem dX5_turn_8 : decode cX5_turn 8 = .ok (.iconst 1, 1) := by decide +kernel
theorem dX5_turn_9 : decode cX5_turn 9 = .ok (.isub, 1) := by decide +kernel
theorem dX5_turn_10 : decode cX5_turn 10 = .ok (.invokestatic 58, 3) := by decide +kernel
theorem dX5_turn_13 : decode cX5_turn 13 = .ok (.ifCond .eq 12, 3) := by decide +kernel
theorem dX5_turn_16 : decode cX5_turn 16 = .ok (.iload_n 2, 1) := by decide +kernel
theorem dX5_turn_17 : decode cX5_turn 17 = .ok (.iconst 0, 1) := by decide +kernel
theorem dX5_turn_18 : decode cX5_turn 18 = .ok (.iconst 1, 1) := by decide +kernel
theorem dX5_turn_19 : decode cX5_turn 19 = .ok (.invokestatic 58, 3) := by decide +kernel
theorem dX5_turn_22 : decode cX5_turn 22 = .ok (.ifCond .ne 5, 3) := by decide +kernel
theorem dX5_turn_25 : decode cX5_turn 25 = .ok (.iconst (-1), 1) := by decide +kernel
theorem dX5_turn_26 : decode cX5_turn 26 = .ok (.ireturn, 1) := by decide +kernel
theorem dX5_turn_27 : decode cX5_turn 27 = .ok (.aload_n 0, 1) := by decide +kernel
theorem dX5_turn_28 : decode cX5_turn 28 = .ok (.getfield 25, 3) := by decide +kernel
theorem dX5_turn_31 : decode cX5_turn 31 = .ok (.iconst 4, 1) := by decide +kernel
theorem dX5_turn_32 : decode cX5_turn 32 = .ok (.iaload, 1) := by decide +kernel
theorem dX5_turn_33 : decode cX5_turn 33 = .ok (.ifCond .le 6, 3) := by decide +kernel
theorem dX5_turn_36 : decode cX5_turn 36 = .ok (.bipush (-4), 2) := by decide +kernel
theorem dX5_turn_38 : decode cX5_turn 38 = .ok (.ireturn, 1) := by decide +kernel
theorem dX5_turn_39 : decode cX5_turn 39 = .ok (.aload_n 0, 1) := by decide +kernel
theorem dX5_turn_40 : decode cX5_turn 40 = .ok (.getfield 25, 3) := by decide +kernel
theorem dX5_turn_43 : decode cX5_turn 43 = .ok (.bipush 6, 2) := by decide +kernel
theorem dX5_turn_45 : decode cX5_turn 45 = .ok (.iload_n 1, 1) := by decide +kernel
theorem dX5_turn_46 : decode cX5_turn 46 = .ok (.iadd, 1) := by decide +kernel
theorem dX5_turn_47 : decode cX5_turn 47 = .ok (.iaload, 1) := by decide +kernel
theorem dX5_turn_48 : decode cX5_turn 48 = .ok (.istore_n 3, 1) := by decide +kernel
theorem dX5_turn_49 : decode cX5_turn 49 = .ok (.aload_n 0, 1) := by decide +kernel
theorem dX5_turn_50 : decode cX5_turn 50 = .ok (.getfield 25, 3) := by decide +kernel
theorem dX5_turn_53 : decode cX5_turn 53 = .ok (.bipush 6, 2) := by decide +kernel
theorem dX5_turn_55 : decode cX5_turn 55 = .ok (.iload_n 1, 1) := by decide +kernel
theorem dX5_turn_56 : decode cX5_turn 56 = .ok (.iadd, 1) := by decide +kernel
theorem dX5_turn_57 : decode cX5_turn 57 = .ok (.iload_n 2, 1) := by decide +kernel
theorem dX5_turn_58 : decode cX5_turn 58 = .ok (.iastore, 1) := by decide +kernel
theorem dX5_turn_59 : decode cX5_turn 59 = .ok (.iload_n 3, 1) := by decide +kernel
theorem dX5_turn_60 : decode cX5_turn 60 = .ok (.ireturn, 1) := by decide +kernel
set_option maxRecDepth 20000 in
theorem ggX5_does_X5_turns : GoodIn wsX5_does wsX5_turns := goodIn_r _ [6, 1, 7, 8, 9, 5, 10, 11, 12, 13, 14, 15, 16, 17, 18, 19, 20, 21, 22, 23, 24, 25, 26, 27] (by decide +kernel) (by decide +kernel)
set_option maxRecDepth 20000 in
theorem gX5_does_X5_turns : GoodIn wsX5_does (wsV RX5 143 RX5 yX5_turns wsX5_turns) := goodIn_app (goodIn_of _ (by decide +kernel)) ggX5_does_X5_turns
theorem dX5_does_0 : decode cX5_does 0 = .ok (.aload_n 0, 1) := by decide +kernel
theorem dX5_does_1 : decode cX5_does 1 = .ok (.getfield 25, 3) := by decide +kernel
theorem dX5_does_4 : decode cX5_does 4 = .ok (.bipush 38, 2) := by decide +kernel
theorem dX5_does_6 : decode cX5_does 6 = .ok (.aload_n 0, 1) := by decide +kernel
theorem dX5_does_7 : decode cX5_does 7 = .ok (.getfield 25, 3) := by decide +kernel
theorem dX5_does_10 : decode cX5_does 10 = .ok (.iconst 4, 1) := by decide +kernel
theorem dX5_does_11 : decode cX5_does 11 = .ok (.iaload, 1) := by decide +kernel
theorem dX5_does_12 : decode cX5_does 12 = .ok (.iadd, 1) := by decide +kernel
theorem dX5_does_13 : decode cX5_does 13 = .ok (.iload_n 1, 1) := by decide +kernel
theorem dX5_does_14 : decode cX5_does 14 = .ok (.iastore, 1) := by decide +kernel
theorem dX5_does_15 : decode cX5_does 15 = .ok (.aload_n 0, 1) := by decide +kernel
theorem dX5_does_16 : decode cX5_does 16 = .ok (.getfield 25, 3) := by decide +kernel
theorem dX5_does_19 : decode cX5_does 19 = .ok (.iconst 4, 1) := by decide +kernel
theorem dX5_does_20 : decode cX5_does 20 = .ok (.dup2, 1) := by decide +kernel
theorem dX5_does_21 : decode cX5_does 21 = .ok (.iaload, 1) := by decide +kernel
theorem dX5_does_22 : decode cX5_does 22 = .ok (.iconst 1, 1) := by decide +kernel
theorem dX5_does_23 : decode cX5_does 23 = .ok (.iadd, 1) := by decide +kernel
theorem dX5_does_24 : decode cX5_does 24 = .ok (.iastore, 1) := by decide +kernel
theorem dX5_does_25 : decode cX5_does 25 = .ok (.aload_n 0, 1) := by decide +kernel
theorem dX5_does_26 : decode cX5_does 26 = .ok (.iload_n 1, 1) := by decide +kernel
theorem dX5_does_27 : decode cX5_does 27 = .ok (.iconst 1, 1) := by decide +kernel
theorem dX5_does_28 : decode cX5_does 28 = .ok (.invokevirtual 143, 3) := by decide +kernel
theorem dX5_does_31 : decode cX5_does 31 = .ok (.return_, 1) := by decide +kernel
set_option maxRecDepth 20000 in
theorem ggX5_turns_X5_ownerOf : GoodIn wsX5_turns wsX5_ownerOf := goodIn_r _ [6, 1, 7, 8, 9, 10, 11, 12, 13, 14, 15, 16, 17, 18, 19, 20, 21, 22, 23] (by decide +kernel) (by decide +kernel)
set_option maxRecDepth 20000 in
theorem gX5_turns_X5_ownerOf : GoodIn wsX5_turns (wsV RX5 140 RX5 yX5_ownerOf wsX5_ownerOf) := goodIn_app (goodIn_of _ (by decide +kernel)) ggX5_turns_X5_ownerOf
theorem dX5_turns_0 : decode cX5_turns 0 = .ok (.iload_n 1, 1) := by decide +kernel
theorem dX5_turns_1 : decode cX5_turns 1 = .ok (.ifCond .ne 16, 3) := by decide +kernel
theorem dX5_turns_4 : decode cX5_turns 4 = .ok (.aload_n 0, 1) := by decide +kernel
theorem dX5_turns_5 : decode cX5_turns 5 = .ok (.getfield 25, 3) := by decide +kernel
theorem dX5_turns_8 : decode cX5_turns 8 = .ok (.iconst 3, 1) := by decide +kernel
theorem dX5_turns_9 : decode cX5_turns 9 = .ok (.dup2, 1) := by decide +kernel
theorem dX5_turns_10 : decode cX5_turns 10 = .ok (.iaload, 1) := by decide +kernel
theorem dX5_turns_11 : decode cX5_turns 11 = .ok (.iload_n 2, 1) := by decide +kernel
theorem dX5_turns_12 : decode cX5_turns 12 = .ok (.iadd, 1) := by decide +kernel
theorem dX5_turns_13 : decode cX5_turns 13 = .ok (.iastore, 1) := by decide +kernel
theorem dX5_turns_14 : decode cX5_turns 14 = .ok (.goto 68, 3) := by decide +kernel
theorem dX5_turns_17 : decode cX5_turns 17 = .ok (.iload_n 1, 1) := by decide +kernel
theorem dX5_turns_18 : decode cX5_turns 18 = .ok (.bipush 100, 2) := by decide +kernel
theorem dX5_turns_20 : decode cX5_turns 20 = .ok (.if_icmp .ge 30, 3) := by decide +kernel
theorem dX5_turns_23 : decode cX5_turns 23 = .ok (.aload_n 0, 1) := by decide +kernel
theorem dX5_turns_24 : decode cX5_turns 24 = .ok (.getfield 25, 3) := by decide +kernel
theorem dX5_turns_27 : decode cX5_turns 27 = .ok (.bipush 20, 2) := by decide +kernel
theorem dX5_turns_29 : decode cX5_turns 29 = .ok (.iconst 3, 1) := by decide +kernel
theorem dX5_turns_30 : decode cX5_turns 30 = .ok (.iload_n 1, 1) := by decide +kernel
theorem dX5_turns_31 : decode cX5_turns 31 = .ok (.iconst 1, 1) := by decide +kernel
theorem dX5_turns_32 : decode cX5_turns 32 = .ok (.isub, 1) := by decide +kernel
theorem dX5_turns_33 : decode cX5_turns 33 = .ok (.imul, 1) := by decide +kernel
theorem dX5_turns_34 : decode cX5_turns 34 = .ok (.iadd, 1) := by decide +kernel
theorem dX5_turns_35 : decode cX5_turns 35 = .ok (.iconst 2, 1) := by decide +kernel
theorem dX5_turns_36 : decode cX5_turns 36 = .ok (.iadd, 1) := by decide +kernel
theorem dX5_turns_37 : decode cX5_turns 37 = .ok (.iconst 1, 1) := by decide +kernel
theorem dX5_turns_38 : decode cX5_turns 38 = .ok (.aload_n 0, 1) := by decide +kernel
theorem dX5_turns_39 : decode cX5_turns 39 = .ok (.iload_n 1, 1) := by decide +kernel
theorem dX5_turns_40 : decode cX5_turns 40 = .ok (.iconst 1, 1) := by decide +kernel
theorem dX5_turns_41 : decode cX5_turns 41 = .ok (.isub, 1) := by decide +kernel
theorem dX5_turns_42 : decode cX5_turns 42 = .ok (.invokevirtual 140, 3) := by decide +kernel
theorem dX5_turns_45 : decode cX5_turns 45 = .ok (.isub, 1) := by decide +kernel
theorem dX5_turns_46 : decode cX5_turns 46 = .ok (.iastore, 1) := by decide +kernel
theorem dX5_turns_47 : decode cX5_turns 47 = .ok (.goto 35, 3) := by decide +kernel
theorem dX5_turns_50 : decode cX5_turns 50 = .ok (.aload_n 0, 1) := by decide +kernel
theorem dX5_turns_51 : decode cX5_turns 51 = .ok (.getfield 25, 3) := by decide +kernel
theorem dX5_turns_54 : decode cX5_turns 54 = .ok (.iconst 5, 1) := by decide +kernel
theorem dX5_turns_55 : decode cX5_turns 55 = .ok (.dup2, 1) := by decide +kernel
theorem dX5_turns_56 : decode cX5_turns 56 = .ok (.iaload, 1) := by decide +kernel
theorem dX5_turns_57 : decode cX5_turns 57 = .ok (.iload_n 1, 1) := by decide +kernel
theorem dX5_turns_58 : decode cX5_turns 58 = .ok (.sipush 200, 3) := by decide +kernel
theorem dX5_turns_61 : decode cX5_turns 61 = .ok (.if_icmp .ge 12, 3) := by decide +kernel
theorem dX5_turns_64 : decode cX5_turns 64 = .ok (.iload_n 2, 1) := by decide +kernel
theorem dX5_turns_65 : decode cX5_turns 65 = .ok (.bipush 100, 2) := by decide +kernel
theorem dX5_turns_67 : decode cX5_turns 67 = .ok (.iload_n 1, 1) := by decide +kernel
theorem dX5_turns_68 : decode cX5_turns 68 = .ok (.isub, 1) := by decide +kernel
theorem dX5_turns_69 : decode cX5_turns 69 = .ok (.imul, 1) := by decide +kernel
theorem dX5_turns_70 : decode cX5_turns 70 = .ok (.goto 10, 3) := by decide +kernel
theorem dX5_turns_73 : decode cX5_turns 73 = .ok (.iload_n 2, 1) := by decide +kernel
theorem dX5_turns_74 : decode cX5_turns 74 = .ok (.iload_n 1, 1) := by decide +kernel
theorem dX5_turns_75 : decode cX5_turns 75 = .ok (.sipush 200, 3) := by decide +kernel
theorem dX5_turns_78 : decode cX5_turns 78 = .ok (.isub, 1) := by decide +kernel
theorem dX5_turns_79 : decode cX5_turns 79 = .ok (.imul, 1) := by decide +kernel
theorem dX5_turns_80 : decode cX5_turns 80 = .ok (.iadd, 1) := by decide +kernel
theorem dX5_turns_81 : decode cX5_turns 81 = .ok (.iastore, 1) := by decide +kernel
theorem dX5_turns_82 : decode cX5_turns 82 = .ok (.return_, 1) := by decide +kernel
set_option maxRecDepth 20000 in
theorem ggX5_day_X5_are : GoodIn wsX5_day wsX5_are := goodIn_r _ [6, 1, 19, 20, 21, 22, 23, 24, 25, 26, 27, 28, 29, 30, 31, 32, 33, 34, 35] (by decide +kernel) (by decide +kernel)
set_option maxRecDepth 20000 in
theorem gX5_day_X5_are : GoodIn wsX5_day (wsV RX5 146 RX5 yX5_are wsX5_are) := goodIn_app (goodIn_of _ (by decide +kernel)) ggX5_day_X5_are
set_option maxRecDepth 20000 in
theorem ggX5_day_X5_does : GoodIn wsX5_day wsX5_does := goodIn_r _ [10, 1, 11, 12, 13, 5, 14, 15, 16, 17, 18, 19, 20, 21, 22, 23, 24, 25, 26, 27, 28, 29, 30, 31, 32, 33, 34, 35] (by decide +kernel) (by decide +kernel)
set_option maxRecDepth 20000 in
theorem gX5_day_X5_does : GoodIn wsX5_day (wsV RX5 150 RX5 yX5_does wsX5_does) := goodIn_app (goodIn_of _ (by decide +kernel)) ggX5_day_X5_does
theorem dX5_day_0 : decode cX5_day 0 = .ok (.aload_n 0, 1) := by decide +kernel
theorem dX5_day_1 : decode cX5_day 1 = .ok (.invokevirtual 146, 3) := by decide +kernel
theorem dX5_day_4 : decode cX5_day 4 = .ok (.ifCond .eq 15, 3) := by decide +kernel
theorem dX5_day_7 : decode cX5_day 7 = .ok (.aload_n 0, 1) := by decide +kernel
theorem dX5_day_8 : decode cX5_day 8 = .ok (.getfield 25, 3) := by decide +kernel
theorem dX5_day_11 : decode cX5_day 11 = .ok (.iconst 3, 1) := by decide +kernel
theorem dX5_day_12 : decode cX5_day 12 = .ok (.iaload, 1) := by decide +kernel
theorem dX5_day_13 : decode cX5_day 13 = .ok (.sipush 999, 3) := by decide +kernel
theorem dX5_day_16 : decode cX5_day 16 = .ok (.if_icmp .ne 6, 3) := by decide +kernel
theorem dX5_day_19 : decode cX5_day 19 = .ok (.bipush (-4), 2) := by decide +kernel
theorem dX5_day_21 : decode cX5_day 21 = .ok (.ireturn, 1) := by decide +kernel
theorem dX5_day_22 : decode cX5_day 22 = .ok (.aload_n 0, 1) := by decide +kernel
theorem dX5_day_23 : decode cX5_day 23 = .ok (.getfield 25, 3) := by decide +kernel
theorem dX5_day_26 : decode cX5_day 26 = .ok (.iconst 4, 1) := by decide +kernel
theorem dX5_day_27 : decode cX5_day 27 = .ok (.iaload, 1) := by decide +kernel
theorem dX5_day_28 : decode cX5_day 28 = .ok (.bipush 60, 2) := by decide +kernel
theorem dX5_day_30 : decode cX5_day 30 = .ok (.if_icmp .ne 6, 3) := by decide +kernel
theorem dX5_day_33 : decode cX5_day 33 = .ok (.bipush (-2), 2) := by decide +kernel
theorem dX5_day_35 : decode cX5_day 35 = .ok (.ireturn, 1) := by decide +kernel
theorem dX5_day_36 : decode cX5_day 36 = .ok (.aload_n 0, 1) := by decide +kernel
theorem dX5_day_37 : decode cX5_day 37 = .ok (.iconst 0, 1) := by decide +kernel
theorem dX5_day_38 : decode cX5_day 38 = .ok (.invokevirtual 150, 3) := by decide +kernel
theorem dX5_day_41 : decode cX5_day 41 = .ok (.aload_n 0, 1) := by decide +kernel
theorem dX5_day_42 : decode cX5_day 42 = .ok (.getfield 25, 3) := by decide +kernel
theorem dX5_day_45 : decode cX5_day 45 = .ok (.iconst 3, 1) := by decide +kernel
theorem dX5_day_46 : decode cX5_day 46 = .ok (.iaload, 1) := by decide +kernel
theorem dX5_day_47 : decode cX5_day 47 = .ok (.ireturn, 1) := by decide +kernel
set_option maxRecDepth 20000 in
theorem ggX5_drive_X5_isBeast : GoodIn wsX5_drive wsX5_isBeast := goodIn_r _ [6, 1, 7, 8, 5, 9, 22, 23, 24, 25, 26, 27, 28, 29, 30, 31, 32, 33, 34, 35, 36, 37, 38] (by decide +kernel) (by decide +kernel)
set_option maxRecDepth 20000 in
theorem gX5_drive_X5_isBeast : GoodIn wsX5_drive (wsV RX5 130 RX5 yX5_isBeast wsX5_isBeast) := goodIn_app (goodIn_of _ (by decide +kernel)) ggX5_drive_X5_isBeast
set_option maxRecDepth 20000 in
theorem ggX5_drive_X5_does : GoodIn wsX5_drive wsX5_does := goodIn_r _ [13, 1, 14, 15, 16, 5, 17, 18, 19, 20, 21, 22, 23, 24, 25, 26, 27, 28, 29, 30, 31, 32, 33, 34, 35, 36, 37, 38] (by decide +kernel) (by decide +kernel)
set_option maxRecDepth 20000 in
theorem gX5_drive_X5_does : GoodIn wsX5_drive (wsV RX5 150 RX5 yX5_does wsX5_does) := goodIn_app (goodIn_of _ (by decide +kernel)) ggX5_drive_X5_does
set_option maxRecDepth 20000 in
theorem ggX5_drive_X5_ownerOf : GoodIn wsX5_drive wsX5_ownerOf := goodIn_r _ [21, 1, 22, 23, 24, 25, 26, 27, 28, 29, 30, 31, 32, 33, 34, 35, 36, 37, 38] (by decide +kernel) (by decide +kernel)
set_option maxRecDepth 20000 in
theorem gX5_drive_X5_ownerOf : GoodIn wsX5_drive (wsV RX5 140 RX5 yX5_ownerOf wsX5_ownerOf) := goodIn_app (goodIn_of _ (by decide +kernel)) ggX5_drive_X5_ownerOf
theorem dX5_drive_0 : decode cX5_drive 0 = .ok (.aload_n 0, 1) := by decide +kernel
theorem dX5_drive_1 : decode cX5_drive 1 = .ok (.iload_n 1, 1) := by decide +kernel
theorem dX5_drive_2 : decode cX5_drive 2 = .ok (.invokevirtual 130, 3) := by decide +kernel
theorem dX5_drive_5 : decode cX5_drive 5 = .ok (.ifCond .ne 5, 3) := by decide +kernel
theorem dX5_drive_8 : decode cX5_drive 8 = .ok (.iconst (-1), 1) := by decide +kernel
theorem dX5_drive_9 : decode cX5_drive 9 = .ok (.ireturn, 1) := by decide +kernel
theorem dX5_drive_10 : decode cX5_drive 10 = .ok (.aload_n 0, 1) := by decide +kernel
theorem dX5_drive_11 : decode cX5_drive 11 = .ok (.getfield 25, 3) := by decide +kernel
theorem dX5_drive_14 : decode cX5_drive 14 = .ok (.iconst 4, 1) := by decide +kernel
theorem dX5_drive_15 : decode cX5_drive 15 = .ok (.iaload, 1) := by decide +kernel
theorem dX5_drive_16 : decode cX5_drive 16 = .ok (.bipush 60, 2) := by decide +kernel
theorem dX5_drive_18 : decode cX5_drive 18 = .ok (.if_icmp .ne 6, 3) := by decide +kernel
theorem dX5_drive_21 : decode cX5_drive 21 = .ok (.bipush (-2), 2) := by decide +kernel
theorem dX5_drive_23 : decode cX5_drive 23 = .ok (.ireturn, 1) := by decide +kernel
theorem dX5_drive_24 : decode cX5_drive 24 = .ok (.aload_n 0, 1) := by decide +kernel
theorem dX5_drive_25 : decode cX5_drive 25 = .ok (.iconst 1, 1) := by decide +kernel
theorem dX5_drive_26 : decode cX5_drive 26 = .ok (.iload_n 1, 1) := by decide +kernel
theorem dX5_drive_27 : decode cX5_drive 27 = .ok (.iadd, 1) := by decide +kernel
theorem dX5_drive_28 : decode cX5_drive 28 = .ok (.invokevirtual 150, 3) := by decide +kernel
theorem dX5_drive_31 : decode cX5_drive 31 = .ok (.aload_n 0, 1) := by decide +kernel
theorem dX5_drive_32 : decode cX5_drive 32 = .ok (.iload_n 1, 1) := by decide +kernel
theorem dX5_drive_33 : decode cX5_drive 33 = .ok (.invokevirtual 140, 3) := by decide +kernel
theorem dX5_drive_36 : decode cX5_drive 36 = .ok (.ireturn, 1) := by decide +kernel
set_option maxRecDepth 20000 in
theorem ggX5_pay_X5_in : GoodIn wsX5_pay wsX5_in := goodIn_r _ [5] (by decide +kernel) (by decide +kernel)
set_option maxRecDepth 20000 in
theorem gX5_pay_X5_in : GoodIn wsX5_pay (va_wsS RX5 58 yX5_in wsX5_in) := goodIn_app (goodIn_of _ (by decide +kernel)) ggX5_pay_X5_in
set_option maxRecDepth 20000 in
theorem ggX5_pay_X5_are : GoodIn wsX5_pay wsX5_are := goodIn_r _ [9, 1, 22, 23, 24, 25, 26, 27, 28, 29, 30, 31, 32, 33, 34, 35, 36, 37, 38] (by decide +kernel) (by decide +kernel)
set_option maxRecDepth 20000 in
theorem gX5_pay_X5_are : GoodIn wsX5_pay (wsV RX5 146 RX5 yX5_are wsX5_are) := goodIn_app (goodIn_of _ (by decide +kernel)) ggX5_pay_X5_are
set_option maxRecDepth 20000 in
theorem ggX5_pay_X5_does : GoodIn wsX5_pay wsX5_does := goodIn_r _ [13, 1, 14, 15, 16, 4, 17, 18, 19, 20, 21, 22, 23, 24, 25, 26, 27, 28, 29, 30, 31, 32, 33, 34, 35, 36, 37, 38] (by decide +kernel) (by decide +kernel)
set_option maxRecDepth 20000 in
theorem gX5_pay_X5_does : GoodIn wsX5_pay (wsV RX5 150 RX5 yX5_does wsX5_does) := goodIn_app (goodIn_of _ (by decide +kernel)) ggX5_pay_X5_does
theorem dX5_pay_0 : decode cX5_pay 0 = .ok (.iload_n 1, 1) := by decide +kernel
theorem dX5_pay_1 : decode cX5_pay 1 = .ok (.iconst 0, 1) := by decide +kernel
theorem dX5_pay_2 : decode cX5_pay 2 = .ok (.iconst 1, 1) := by decide +kernel
theorem dX5_pay_3 : decode cX5_pay 3 = .ok (.invokestatic 58, 3) := by decide +kernel
theorem dX5_pay_6 : decode cX5_pay 6 = .ok (.ifCond .eq 13, 3) := by decide +kernel
theorem dX5_pay_9 : decode cX5_pay 9 = .ok (.iload_n 2, 1) := by decide +kernel
theorem dX5_pay_10 : decode cX5_pay 10 = .ok (.iconst 1, 1) := by decide +kernel
theorem dX5_pay_11 : decode cX5_pay 11 = .ok (.bipush 99, 2) := by decide +kernel
theorem dX5_pay_13 : decode cX5_pay 13 = .ok (.invokestatic 58, 3) := by decide +kernel
theorem dX5_pay_16 : decode cX5_pay 16 = .ok (.ifCond .ne 5, 3) := by decide +kernel
theorem dX5_pay_19 : decode cX5_pay 19 = .ok (.iconst (-1), 1) := by decide +kernel
theorem dX5_pay_20 : decode cX5_pay 20 = .ok (.ireturn, 1) := by decide +kernel
theorem dX5_pay_21 : decode cX5_pay 21 = .ok (.aload_n 0, 1) := by decide +kernel
theorem dX5_pay_22 : decode cX5_pay 22 = .ok (.invokevirtual 146, 3) := by decide +kernel
theorem dX5_pay_25 : decode cX5_pay 25 = .ok (.ifCond .ne 6, 3) := by decide +kernel
theorem dX5_pay_28 : decode cX5_pay 28 = .ok (.bipush (-4), 2) := by decide +kernel
theorem dX5_pay_30 : decode cX5_pay 30 = .ok (.ireturn, 1) := by decide +kernel
theorem dX5_pay_31 : decode cX5_pay 31 = .ok (.aload_n 0, 1) := by decide +kernel
theorem dX5_pay_32 : decode cX5_pay 32 = .ok (.getfield 25, 3) := by decide +kernel
theorem dX5_pay_35 : decode cX5_pay 35 = .ok (.iconst 4, 1) := by decide +kernel
theorem dX5_pay_36 : decode cX5_pay 36 = .ok (.iaload, 1) := by decide +kernel
theorem dX5_pay_37 : decode cX5_pay 37 = .ok (.bipush 60, 2) := by decide +kernel
theorem dX5_pay_39 : decode cX5_pay 39 = .ok (.if_icmp .ne 6, 3) := by decide +kernel
theorem dX5_pay_42 : decode cX5_pay 42 = .ok (.bipush (-2), 2) := by decide +kernel
theorem dX5_pay_44 : decode cX5_pay 44 = .ok (.ireturn, 1) := by decide +kernel
theorem dX5_pay_45 : decode cX5_pay 45 = .ok (.aload_n 0, 1) := by decide +kernel
theorem dX5_pay_46 : decode cX5_pay 46 = .ok (.bipush 100, 2) := by decide +kernel
theorem dX5_pay_48 : decode cX5_pay 48 = .ok (.bipush 100, 2) := by decide +kernel
theorem dX5_pay_50 : decode cX5_pay 50 = .ok (.iload_n 1, 1) := by decide +kernel
theorem dX5_pay_51 : decode cX5_pay 51 = .ok (.imul, 1) := by decide +kernel
theorem dX5_pay_52 : decode cX5_pay 52 = .ok (.iadd, 1) := by decide +kernel
theorem dX5_pay_53 : decode cX5_pay 53 = .ok (.iload_n 2, 1) := by decide +kernel
theorem dX5_pay_54 : decode cX5_pay 54 = .ok (.iadd, 1) := by decide +kernel
theorem dX5_pay_55 : decode cX5_pay 55 = .ok (.invokevirtual 150, 3) := by decide +kernel
theorem dX5_pay_58 : decode cX5_pay 58 = .ok (.aload_n 0, 1) := by decide +kernel
theorem dX5_pay_59 : decode cX5_pay 59 = .ok (.getfield 25, 3) := by decide +kernel
theorem dX5_pay_62 : decode cX5_pay 62 = .ok (.iconst 5, 1) := by decide +kernel
theorem dX5_pay_63 : decode cX5_pay 63 = .ok (.iaload, 1) := by decide +kernel
theorem dX5_pay_64 : decode cX5_pay 64 = .ok (.sipush 10000, 3) := by decide +kernel
theorem dX5_pay_67 : decode cX5_pay 67 = .ok (.iadd, 1) := by decide +kernel
theorem dX5_pay_68 : decode cX5_pay 68 = .ok (.ireturn, 1) := by decide +kernel
set_option maxRecDepth 20000 in
theorem ggX5_undo_X5_in : GoodIn wsX5_undo wsX5_in := goodIn_r _ [5] (by decide +kernel) (by decide +kernel)
set_option maxRecDepth 20000 in
theorem gX5_undo_X5_in : GoodIn wsX5_undo (va_wsS RX5 58 yX5_in wsX5_in) := goodIn_app (goodIn_of _ (by decide +kernel)) ggX5_undo_X5_in
set_option maxRecDepth 20000 in
theorem ggX5_undo_X5_turns : GoodIn wsX5_undo wsX5_turns := goodIn_r _ [9, 1, 10, 11, 12, 4, 13, 14, 15, 16, 17, 18, 19, 20, 21, 22, 23, 24, 25, 26, 27, 28, 29, 30] (by decide +kernel) (by decide +kernel)
set_option maxRecDepth 20000 in
theorem gX5_undo_X5_turns : GoodIn wsX5_undo (wsV RX5 143 RX5 yX5_turns wsX5_turns) := goodIn_app (goodIn_of _ (by decide +kernel)) ggX5_undo_X5_turns
theorem dX5_undo_0 : decode cX5_undo 0 = .ok (.iload_n 1, 1) := by decide +kernel
theorem dX5_undo_1 : decode cX5_undo 1 = .ok (.iconst 0, 1) := by decide +kernel
theorem dX5_undo_2 : decode cX5_undo 2 = .ok (.aload_n 0, 1) := by decide +kernel
theorem dX5_undo_3 : decode cX5_undo 3 = .ok (.getfield 25, 3) := by decide +kernel
theorem dX5_undo_6 : decode cX5_undo 6 = .ok (.iconst 4, 1) := by decide +kernel
theorem dX5_undo_7 : decode cX5_undo 7 = .ok (.iaload, 1) := by decide +kernel
theorem dX5_undo_8 : decode cX5_undo 8 = .ok (.invokestatic 58, 3) := by decide +kernel
theorem dX5_undo_11 : decode cX5_undo 11 = .ok (.ifCond .ne 5, 3) := by decide +kernel
theorem dX5_undo_14 : decode cX5_undo 14 = .ok (.iconst (-1), 1) := by decide +kernel
theorem dX5_undo_15 : decode cX5_undo 15 = .ok (.ireturn, 1) := by decide +kernel
theorem dX5_undo_16 : decode cX5_undo 16 = .ok (.aload_n 0, 1) := by decide +kernel
theorem dX5_undo_17 : decode cX5_undo 17 = .ok (.getfield 25, 3) := by decide +kernel
theorem dX5_undo_20 : decode cX5_undo 20 = .ok (.iconst 4, 1) := by decide +kernel
theorem dX5_undo_21 : decode cX5_undo 21 = .ok (.iaload, 1) := by decide +kernel
theorem dX5_undo_22 : decode cX5_undo 22 = .ok (.iload_n 1, 1) := by decide +kernel
theorem dX5_undo_23 : decode cX5_undo 23 = .ok (.isub, 1) := by decide +kernel
theorem dX5_undo_24 : decode cX5_undo 24 = .ok (.istore_n 2, 1) := by decide +kernel
theorem dX5_undo_25 : decode cX5_undo 25 = .ok (.aload_n 0, 1) := by decide +kernel
theorem dX5_undo_26 : decode cX5_undo 26 = .ok (.getfield 25, 3) := by decide +kernel
theorem dX5_undo_29 : decode cX5_undo 29 = .ok (.iconst 4, 1) := by decide +kernel
theorem dX5_undo_30 : decode cX5_undo 30 = .ok (.iaload, 1) := by decide +kernel
theorem dX5_undo_31 : decode cX5_undo 31 = .ok (.iconst 1, 1) := by decide +kernel
theorem dX5_undo_32 : decode cX5_undo 32 = .ok (.isub, 1) := by decide +kernel
theorem dX5_undo_33 : decode cX5_undo 33 = .ok (.istore_n 3, 1) := by decide +kernel
theorem dX5_undo_34 : decode cX5_undo 34 = .ok (.iload_n 3, 1) := by decide +kernel
theorem dX5_undo_35 : decode cX5_undo 35 = .ok (.iload_n 1, 1) := by decide +kernel
theorem dX5_undo_36 : decode cX5_undo 36 = .ok (.if_icmp .lt 33, 3) := by decide +kernel
theorem dX5_undo_39 : decode cX5_undo 39 = .ok (.aload_n 0, 1) := by decide +kernel
theorem dX5_undo_40 : decode cX5_undo 40 = .ok (.aload_n 0, 1) := by decide +kernel
theorem dX5_undo_41 : decode cX5_undo 41 = .ok (.getfield 25, 3) := by decide +kernel
theorem dX5_undo_44 : decode cX5_undo 44 = .ok (.bipush 38, 2) := by decide +kernel
theorem dX5_undo_46 : decode cX5_undo 46 = .ok (.iload_n 3, 1) := by decide +kernel
theorem dX5_undo_47 : decode cX5_undo 47 = .ok (.iadd, 1) := by decide +kernel
theorem dX5_undo_48 : decode cX5_undo 48 = .ok (.iaload, 1) := by decide +kernel
theorem dX5_undo_49 : decode cX5_undo 49 = .ok (.iconst (-1), 1) := by decide +kernel
theorem dX5_undo_50 : decode cX5_undo 50 = .ok (.invokevirtual 143, 3) := by decide +kernel
theorem dX5_undo_53 : decode cX5_undo 53 = .ok (.aload_n 0, 1) := by decide +kernel
theorem dX5_undo_54 : decode cX5_undo 54 = .ok (.getfield 25, 3) := by decide +kernel
theorem dX5_undo_57 : decode cX5_undo 57 = .ok (.bipush 38, 2) := by decide +kernel
theorem dX5_undo_59 : decode cX5_undo 59 = .ok (.iload_n 3, 1) := by decide +kernel
theorem dX5_undo_60 : decode cX5_undo 60 = .ok (.iadd, 1) := by decide +kernel
theorem dX5_undo_61 : decode cX5_undo 61 = .ok (.iconst 0, 1) := by decide +kernel
theorem dX5_undo_62 : decode cX5_undo 62 = .ok (.iastore, 1) := by decide +kernel
theorem dX5_undo_63 : decode cX5_undo 63 = .ok (.iinc 3 (-1), 3) := by decide +kernel
theorem dX5_undo_66 : decode cX5_undo 66 = .ok (.goto (-32), 3) := by decide +kernel
theorem dX5_undo_69 : decode cX5_undo 69 = .ok (.aload_n 0, 1) := by decide +kernel
theorem dX5_undo_70 : decode cX5_undo 70 = .ok (.getfield 25, 3) := by decide +kernel
theorem dX5_undo_73 : decode cX5_undo 73 = .ok (.iconst 4, 1) := by decide +kernel
theorem dX5_undo_74 : decode cX5_undo 74 = .ok (.iload_n 1, 1) := by decide +kernel
theorem dX5_undo_75 : decode cX5_undo 75 = .ok (.iastore, 1) := by decide +kernel
theorem dX5_undo_76 : decode cX5_undo 76 = .ok (.iload_n 2, 1) := by decide +kernel
theorem dX5_undo_77 : decode cX5_undo 77 = .ok (.ireturn, 1) := by decide +kernel
set_option maxRecDepth 20000 in
theorem ggX5_keep_X5_in : GoodIn wsX5_keep wsX5_in := goodIn_r _ [7] (by decide +kernel) (by decide +kernel)
set_option maxRecDepth 20000 in
theorem gX5_keep_X5_in : GoodIn wsX5_keep (va_wsS RX5 58 yX5_in wsX5_in) := goodIn_app (goodIn_of _ (by decide +kernel)) ggX5_keep_X5_in
set_option maxRecDepth 20000 in
theorem ggX5_keep_X5_are : GoodIn wsX5_keep wsX5_are := goodIn_r _ [11, 1, 15, 16, 17, 18, 19, 20, 21, 22, 23, 24, 25, 26, 27, 28, 29, 30, 31] (by decide +kernel) (by decide +kernel)
set_option maxRecDepth 20000 in
theorem gX5_keep_X5_are : GoodIn wsX5_keep (wsV RX5 146 RX5 yX5_are wsX5_are) := goodIn_app (goodIn_of _ (by decide +kernel)) ggX5_keep_X5_are
set_option maxRecDepth 20000 in
theorem ggX5_keep_X5_copies : GoodIn wsX5_keep wsX5_copies := goodIn_r _ [14] (by decide +kernel) (by decide +kernel)
set_option maxRecDepth 20000 in
theorem gX5_keep_X5_copies : GoodIn wsX5_keep (va_wsS RX5 120 yX5_copies wsX5_copies) := goodIn_app (goodIn_of _ (by decide +kernel)) ggX5_keep_X5_copies
theorem dX5_keep_0 : decode cX5_keep 0 = .ok (.iload_n 1, 1) := by decide +kernel
theorem dX5_keep_1 : decode cX5_keep 1 = .ok (.iconst 0, 1) := by decide +kernel
theorem dX5_keep_2 : decode cX5_keep 2 = .ok (.iconst 2, 1) := by decide +kernel
theorem dX5_keep_3 : decode cX5_keep 3 = .ok (.invokestatic 58, 3) := by decide +kernel
theorem dX5_keep_6 : decode cX5_keep 6 = .ok (.ifCond .ne 5, 3) := by decide +kernel
theorem dX5_keep_9 : decode cX5_keep 9 = .ok (.iconst (-1), 1) := by decide +kernel
theorem dX5_keep_10 : decode cX5_keep 10 = .ok (.ireturn, 1) := by decide +kernel
theorem dX5_keep_11 : decode cX5_keep 11 = .ok (.aload_n 0, 1) := by decide +kernel
theorem dX5_keep_12 : decode cX5_keep 12 = .ok (.invokevirtual 146, 3) := by decide +kernel
theorem dX5_keep_15 : decode cX5_keep 15 = .ok (.ifCond .ne 6, 3) := by decide +kernel
theorem dX5_keep_18 : decode cX5_keep 18 = .ok (.bipush (-4), 2) := by decide +kernel
theorem dX5_keep_20 : decode cX5_keep 20 = .ok (.ireturn, 1) := by decide +kernel
theorem dX5_keep_21 : decode cX5_keep 21 = .ok (.aload_n 0, 1) := by decide +kernel
theorem dX5_keep_22 : decode cX5_keep 22 = .ok (.getfield 25, 3) := by decide +kernel
theorem dX5_keep_25 : decode cX5_keep 25 = .ok (.iconst 0, 1) := by decide +kernel
theorem dX5_keep_26 : decode cX5_keep 26 = .ok (.aload_n 0, 1) := by decide +kernel
theorem dX5_keep_27 : decode cX5_keep 27 = .ok (.getfield 31, 3) := by decide +kernel
theorem dX5_keep_30 : decode cX5_keep 30 = .ok (.bipush 98, 2) := by decide +kernel
theorem dX5_keep_32 : decode cX5_keep 32 = .ok (.iload_n 1, 1) := by decide +kernel
theorem dX5_keep_33 : decode cX5_keep 33 = .ok (.imul, 1) := by decide +kernel
theorem dX5_keep_34 : decode cX5_keep 34 = .ok (.invokestatic 120, 3) := by decide +kernel
theorem dX5_keep_37 : decode cX5_keep 37 = .ok (.aload_n 0, 1) := by decide +kernel
theorem dX5_keep_38 : decode cX5_keep 38 = .ok (.getfield 34, 3) := by decide +kernel
theorem dX5_keep_41 : decode cX5_keep 41 = .ok (.iload_n 1, 1) := by decide +kernel
theorem dX5_keep_42 : decode cX5_keep 42 = .ok (.iconst 1, 1) := by decide +kernel
theorem dX5_keep_43 : decode cX5_keep 43 = .ok (.bastore, 1) := by decide +kernel
theorem dX5_keep_44 : decode cX5_keep 44 = .ok (.aload_n 0, 1) := by decide +kernel
theorem dX5_keep_45 : decode cX5_keep 45 = .ok (.getfield 25, 3) := by decide +kernel
theorem dX5_keep_48 : decode cX5_keep 48 = .ok (.iconst 4, 1) := by decide +kernel
theorem dX5_keep_49 : decode cX5_keep 49 = .ok (.iaload, 1) := by decide +kernel
theorem dX5_keep_50 : decode cX5_keep 50 = .ok (.ireturn, 1) := by decide +kernel
set_option maxRecDepth 20000 in
theorem ggX5_on_X5_in : GoodIn wsX5_on wsX5_in := goodIn_r _ [7] (by decide +kernel) (by decide +kernel)
set_option maxRecDepth 20000 in
theorem gX5_on_X5_in : GoodIn wsX5_on (va_wsS RX5 58 yX5_in wsX5_in) := goodIn_app (goodIn_of _ (by decide +kernel)) ggX5_on_X5_in
set_option maxRecDepth 20000 in
theorem ggX5_on_X5_finds : GoodIn wsX5_on wsX5_finds := goodIn_r _ [11, 12, 13, 17, 18, 19, 20, 21, 22, 23, 24, 25, 26, 27, 28, 29, 30, 31, 32, 33] (by decide +kernel) (by decide +kernel)
set_option maxRecDepth 20000 in
theorem gX5_on_X5_finds : GoodIn wsX5_on (wsV RX5 66 RX5 yX5_finds wsX5_finds) := goodIn_app (goodIn_of _ (by decide +kernel)) ggX5_on_X5_finds
set_option maxRecDepth 20000 in
theorem ggX5_on_X5_copies : GoodIn wsX5_on wsX5_copies := goodIn_r _ [16] (by decide +kernel) (by decide +kernel)
set_option maxRecDepth 20000 in
theorem gX5_on_X5_copies : GoodIn wsX5_on (va_wsS RX5 120 yX5_copies wsX5_copies) := goodIn_app (goodIn_of _ (by decide +kernel)) ggX5_on_X5_copies
theorem dX5_on_0 : decode cX5_on 0 = .ok (.iload_n 1, 1) := by decide +kernel
theorem dX5_on_1 : decode cX5_on 1 = .ok (.iconst 0, 1) := by decide +kernel
theorem dX5_on_2 : decode cX5_on 2 = .ok (.iconst 2, 1) := by decide +kernel
theorem dX5_on_3 : decode cX5_on 3 = .ok (.invokestatic 58, 3) := by decide +kernel
theorem dX5_on_6 : decode cX5_on 6 = .ok (.ifCond .ne 5, 3) := by decide +kernel
theorem dX5_on_9 : decode cX5_on 9 = .ok (.iconst (-1), 1) := by decide +kernel
theorem dX5_on_10 : decode cX5_on 10 = .ok (.ireturn, 1) := by decide +kernel
theorem dX5_on_11 : decode cX5_on 11 = .ok (.aload_n 0, 1) := by decide +kernel
theorem dX5_on_12 : decode cX5_on 12 = .ok (.getfield 34, 3) := by decide +kernel
theorem dX5_on_15 : decode cX5_on 15 = .ok (.iload_n 1, 1) := by decide +kernel
theorem dX5_on_16 : decode cX5_on 16 = .ok (.baload, 1) := by decide +kernel
theorem dX5_on_17 : decode cX5_on 17 = .ok (.ifCond .ne 9, 3) := by decide +kernel
theorem dX5_on_20 : decode cX5_on 20 = .ok (.aload_n 0, 1) := by decide +kernel
theorem dX5_on_21 : decode cX5_on 21 = .ok (.iconst 1, 1) := by decide +kernel
theorem dX5_on_22 : decode cX5_on 22 = .ok (.invokevirtual 66, 3) := by decide +kernel
theorem dX5_on_25 : decode cX5_on 25 = .ok (.ireturn, 1) := by decide +kernel
theorem dX5_on_26 : decode cX5_on 26 = .ok (.aload_n 0, 1) := by decide +kernel
theorem dX5_on_27 : decode cX5_on 27 = .ok (.getfield 31, 3) := by decide +kernel
theorem dX5_on_30 : decode cX5_on 30 = .ok (.bipush 98, 2) := by decide +kernel
theorem dX5_on_32 : decode cX5_on 32 = .ok (.iload_n 1, 1) := by decide +kernel
theorem dX5_on_33 : decode cX5_on 33 = .ok (.imul, 1) := by decide +kernel
theorem dX5_on_34 : decode cX5_on 34 = .ok (.aload_n 0, 1) := by decide +kernel
theorem dX5_on_35 : decode cX5_on 35 = .ok (.getfield 25, 3) := by decide +kernel
theorem dX5_on_38 : decode cX5_on 38 = .ok (.iconst 0, 1) := by decide +kernel
theorem dX5_on_39 : decode cX5_on 39 = .ok (.invokestatic 120, 3) := by decide +kernel
theorem dX5_on_42 : decode cX5_on 42 = .ok (.aload_n 0, 1) := by decide +kernel
theorem dX5_on_43 : decode cX5_on 43 = .ok (.getfield 25, 3) := by decide +kernel
theorem dX5_on_46 : decode cX5_on 46 = .ok (.iconst 4, 1) := by decide +kernel
theorem dX5_on_47 : decode cX5_on 47 = .ok (.iaload, 1) := by decide +kernel
theorem dX5_on_48 : decode cX5_on 48 = .ok (.ireturn, 1) := by decide +kernel
theorem dX5_farmOn_0 : decode cX5_farmOn 0 = .ok (.aload_n 0, 1) := by decide +kernel
theorem dX5_farmOn_1 : decode cX5_farmOn 1 = .ok (.getfield 25, 3) := by decide +kernel
theorem dX5_farmOn_4 : decode cX5_farmOn 4 = .ok (.bipush 6, 2) := by decide +kernel
theorem dX5_farmOn_6 : decode cX5_farmOn 6 = .ok (.iload_n 1, 1) := by decide +kernel
theorem dX5_farmOn_7 : decode cX5_farmOn 7 = .ok (.aload_n 0, 1) := by decide +kernel
theorem dX5_farmOn_8 : decode cX5_farmOn 8 = .ok (.getfield 25, 3) := by decide +kernel
theorem dX5_farmOn_11 : decode cX5_farmOn 11 = .ok (.iconst 1, 1) := by decide +kernel
theorem dX5_farmOn_12 : decode cX5_farmOn 12 = .ok (.iaload, 1) := by decide +kernel
theorem dX5_farmOn_13 : decode cX5_farmOn 13 = .ok (.irem, 1) := by decide +kernel
theorem dX5_farmOn_14 : decode cX5_farmOn 14 = .ok (.iadd, 1) := by decide +kernel
theorem dX5_farmOn_15 : decode cX5_farmOn 15 = .ok (.iaload, 1) := by decide +kernel
theorem dX5_farmOn_16 : decode cX5_farmOn 16 = .ok (.ireturn, 1) := by decide +kernel
theorem dX5_milkOn_0 : decode cX5_milkOn 0 = .ok (.aload_n 0, 1) := by decide +kernel
theorem dX5_milkOn_1 : decode cX5_milkOn 1 = .ok (.getfield 25, 3) := by decide +kernel
theorem dX5_milkOn_4 : decode cX5_milkOn 4 = .ok (.bipush 14, 2) := by decide +kernel
theorem dX5_milkOn_6 : decode cX5_milkOn 6 = .ok (.iload_n 1, 1) := by decide +kernel
theorem dX5_milkOn_7 : decode cX5_milkOn 7 = .ok (.aload_n 0, 1) := by decide +kernel
theorem dX5_milkOn_8 : decode cX5_milkOn 8 = .ok (.getfield 25, 3) := by decide +kernel
theorem dX5_milkOn_11 : decode cX5_milkOn 11 = .ok (.iconst 2, 1) := by decide +kernel
theorem dX5_milkOn_12 : decode cX5_milkOn 12 = .ok (.iaload, 1) := by decide +kernel
theorem dX5_milkOn_13 : decode cX5_milkOn 13 = .ok (.irem, 1) := by decide +kernel
theorem dX5_milkOn_14 : decode cX5_milkOn 14 = .ok (.iadd, 1) := by decide +kernel
theorem dX5_milkOn_15 : decode cX5_milkOn 15 = .ok (.iaload, 1) := by decide +kernel
theorem dX5_milkOn_16 : decode cX5_milkOn 16 = .ok (.ireturn, 1) := by decide +kernel
set_option maxRecDepth 20000 in
theorem ggX5_where_X5_isDay : GoodIn wsX5_where wsX5_isDay := goodIn_r _ [4, 5, 6, 3, 7] (by decide +kernel) (by decide +kernel)
set_option maxRecDepth 20000 in
theorem gX5_where_X5_isDay : GoodIn wsX5_where (va_wsS RX5 153 yX5_isDay wsX5_isDay) := goodIn_app (goodIn_of _ (by decide +kernel)) ggX5_where_X5_isDay
set_option maxRecDepth 20000 in
theorem ggX5_where_X5_are : GoodIn wsX5_where wsX5_are := goodIn_r _ [11, 12, 17, 18, 19, 20, 21, 22, 23, 24, 25, 26, 27, 28, 29, 30, 31, 32, 33] (by decide +kernel) (by decide +kernel)
set_option maxRecDepth 20000 in
theorem gX5_where_X5_are : GoodIn wsX5_where (wsV RX5 146 RX5 yX5_are wsX5_are) := goodIn_app (goodIn_of _ (by decide +kernel)) ggX5_where_X5_are
set_option maxRecDepth 20000 in
theorem ggX5_where_X5_farmOn : GoodIn wsX5_where wsX5_farmOn := goodIn_r _ [16, 12, 17, 18, 19, 20, 21, 22, 23, 24, 25, 26, 27, 28, 29, 30, 31, 32, 33] (by decide +kernel) (by decide +kernel)
set_option maxRecDepth 20000 in
theorem gX5_where_X5_farmOn : GoodIn wsX5_where (wsV RX5 156 RX5 yX5_farmOn wsX5_farmOn) := goodIn_app (goodIn_of _ (by decide +kernel)) ggX5_where_X5_farmOn
theorem dX5_where_0 : decode cX5_where 0 = .ok (.iload_n 1, 1) := by decide +kernel
theorem dX5_where_1 : decode cX5_where 1 = .ok (.invokestatic 153, 3) := by decide +kernel
theorem dX5_where_4 : decode cX5_where 4 = .ok (.ifCond .ne 5, 3) := by decide +kernel
theorem dX5_where_7 : decode cX5_where 7 = .ok (.iconst (-1), 1) := by decide +kernel
theorem dX5_where_8 : decode cX5_where 8 = .ok (.ireturn, 1) := by decide +kernel
theorem dX5_where_9 : decode cX5_where 9 = .ok (.aload_n 0, 1) := by decide +kernel
theorem dX5_where_10 : decode cX5_where 10 = .ok (.invokevirtual 146, 3) := by decide +kernel
theorem dX5_where_13 : decode cX5_where 13 = .ok (.ifCond .eq 11, 3) := by decide +kernel
theorem dX5_where_16 : decode cX5_where 16 = .ok (.aload_n 0, 1) := by decide +kernel
theorem dX5_where_17 : decode cX5_where 17 = .ok (.iload_n 1, 1) := by decide +kernel
theorem dX5_where_18 : decode cX5_where 18 = .ok (.invokevirtual 156, 3) := by decide +kernel
theorem dX5_where_21 : decode cX5_where 21 = .ok (.goto 5, 3) := by decide +kernel
theorem dX5_where_24 : decode cX5_where 24 = .ok (.bipush (-4), 2) := by decide +kernel
theorem dX5_where_26 : decode cX5_where 26 = .ok (.ireturn, 1) := by decide +kernel
set_option maxRecDepth 20000 in
theorem ggX5_milkOf_X5_farmOn : GoodIn wsX5_milkOf wsX5_farmOn := goodIn_r _ [5, 6, 11, 12, 13, 14, 15, 16, 17, 18, 19, 20, 21, 22, 23, 24, 25, 26, 27] (by decide +kernel) (by decide +kernel)
set_option maxRecDepth 20000 in
theorem gX5_milkOf_X5_farmOn : GoodIn wsX5_milkOf (wsV RX5 156 RX5 yX5_farmOn wsX5_farmOn) := goodIn_app (goodIn_of _ (by decide +kernel)) ggX5_milkOf_X5_farmOn
set_option maxRecDepth 20000 in
theorem ggX5_milkOf_X5_milkOn : GoodIn wsX5_milkOf wsX5_milkOn := goodIn_r _ [10, 6, 11, 12, 13, 14, 15, 16, 17, 18, 19, 20, 21, 22, 23, 24, 25, 26, 27] (by decide +kernel) (by decide +kernel)
set_option maxRecDepth 20000 in
theorem gX5_milkOf_X5_milkOn : GoodIn wsX5_milkOf (wsV RX5 159 RX5 yX5_milkOn wsX5_milkOn) := goodIn_app (goodIn_of _ (by decide +kernel)) ggX5_milkOf_X5_milkOn
