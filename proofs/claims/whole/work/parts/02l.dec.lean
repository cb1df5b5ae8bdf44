theorem dX5_ways_0 : decode cX5_ways 0 = .ok (.aload_n 0, 1) := by decide +kernel
theorem dX5_ways_1 : decode cX5_ways 1 = .ok (.invokevirtual 146, 3) := by decide +kernel
theorem dX5_ways_4 : decode cX5_ways 4 = .ok (.ifCond .ne 6, 3) := by decide +kernel
theorem dX5_ways_7 : decode cX5_ways 7 = .ok (.bipush (-4), 2) := by decide +kernel
theorem dX5_ways_9 : decode cX5_ways 9 = .ok (.ireturn, 1) := by decide +kernel
theorem dX5_ways_10 : decode cX5_ways 10 = .ok (.iconst 0, 1) := by decide +kernel
theorem dX5_ways_11 : decode cX5_ways 11 = .ok (.istore_n 1, 1) := by decide +kernel
theorem dX5_ways_12 : decode cX5_ways 12 = .ok (.bipush (-9), 2) := by decide +kernel
theorem dX5_ways_14 : decode cX5_ways 14 = .ok (.istore_n 2, 1) := by decide +kernel
theorem dX5_ways_15 : decode cX5_ways 15 = .ok (.iconst 0, 1) := by decide +kernel
theorem dX5_ways_16 : decode cX5_ways 16 = .ok (.istore_n 3, 1) := by decide +kernel
theorem dX5_ways_17 : decode cX5_ways 17 = .ok (.iload_n 3, 1) := by decide +kernel
theorem dX5_ways_18 : decode cX5_ways 18 = .ok (.iconst 1, 1) := by decide +kernel
theorem dX5_ways_19 : decode cX5_ways 19 = .ok (.aload_n 0, 1) := by decide +kernel
theorem dX5_ways_20 : decode cX5_ways 20 = .ok (.getfield 25, 3) := by decide +kernel
theorem dX5_ways_23 : decode cX5_ways 23 = .ok (.iconst 0, 1) := by decide +kernel
theorem dX5_ways_24 : decode cX5_ways 24 = .ok (.iaload, 1) := by decide +kernel
theorem dX5_ways_25 : decode cX5_ways 25 = .ok (.ishl, 1) := by decide +kernel
theorem dX5_ways_26 : decode cX5_ways 26 = .ok (.if_icmp .ge 51, 3) := by decide +kernel
theorem dX5_ways_29 : decode cX5_ways 29 = .ok (.aload_n 0, 1) := by decide +kernel
theorem dX5_ways_30 : decode cX5_ways 30 = .ok (.iload_n 3, 1) := by decide +kernel
theorem dX5_ways_31 : decode cX5_ways 31 = .ok (.iconst 0, 1) := by decide +kernel
theorem dX5_ways_32 : decode cX5_ways 32 = .ok (.invokevirtual 185, 3) := by decide +kernel
theorem dX5_ways_35 : decode cX5_ways 35 = .ok (.ifCond .eq 36, 3) := by decide +kernel
theorem dX5_ways_38 : decode cX5_ways 38 = .ok (.iload_n 3, 1) := by decide +kernel
theorem dX5_ways_39 : decode cX5_ways 39 = .ok (.aload_n 0, 1) := by decide +kernel
theorem dX5_ways_40 : decode cX5_ways 40 = .ok (.invokevirtual 178, 3) := by decide +kernel
theorem dX5_ways_43 : decode cX5_ways 43 = .ok (.ixor, 1) := by decide +kernel
theorem dX5_ways_44 : decode cX5_ways 44 = .ok (.invokestatic 175, 3) := by decide +kernel
theorem dX5_ways_47 : decode cX5_ways 47 = .ok (.istore 4, 2) := by decide +kernel
theorem dX5_ways_49 : decode cX5_ways 49 = .ok (.iinc 1 1, 3) := by decide +kernel
theorem dX5_ways_52 : decode cX5_ways 52 = .ok (.iload_n 2, 1) := by decide +kernel
theorem dX5_ways_53 : decode cX5_ways 53 = .ok (.bipush (-9), 2) := by decide +kernel
theorem dX5_ways_55 : decode cX5_ways 55 = .ok (.if_icmp .eq 9, 3) := by decide +kernel
theorem dX5_ways_58 : decode cX5_ways 58 = .ok (.iload 4, 2) := by decide +kernel
theorem dX5_ways_60 : decode cX5_ways 60 = .ok (.iload_n 2, 1) := by decide +kernel
theorem dX5_ways_61 : decode cX5_ways 61 = .ok (.if_icmp .ge 8, 3) := by decide +kernel
theorem dX5_ways_64 : decode cX5_ways 64 = .ok (.iload 4, 2) := by decide +kernel
theorem dX5_ways_66 : decode cX5_ways 66 = .ok (.goto 4, 3) := by decide +kernel
theorem dX5_ways_69 : decode cX5_ways 69 = .ok (.iload_n 2, 1) := by decide +kernel
theorem dX5_ways_70 : decode cX5_ways 70 = .ok (.istore_n 2, 1) := by decide +kernel
theorem dX5_ways_71 : decode cX5_ways 71 = .ok (.iinc 3 1, 3) := by decide +kernel
theorem dX5_ways_74 : decode cX5_ways 74 = .ok (.goto (-57), 3) := by decide +kernel
theorem dX5_ways_77 : decode cX5_ways 77 = .ok (.aload_n 0, 1) := by decide +kernel
theorem dX5_ways_78 : decode cX5_ways 78 = .ok (.iload_n 1, 1) := by decide +kernel
theorem dX5_ways_79 : decode cX5_ways 79 = .ok (.iload_n 2, 1) := by decide +kernel
theorem dX5_ways_80 : decode cX5_ways 80 = .ok (.invokevirtual 78, 3) := by decide +kernel
theorem dX5_ways_83 : decode cX5_ways 83 = .ok (.ireturn, 1) := by decide +kernel
set_option maxRecDepth 20000 in
theorem ggX5_lesserBy_X5_valueBy : GoodIn wsX5_lesserBy wsX5_valueBy := goodIn_r _ [5, 6, 7, 8, 4, 9, 10, 11, 12, 13, 14, 15, 16, 17, 18, 19, 20, 21, 22, 23, 24, 25, 26, 27, 28, 29, 30, 31, 32, 33, 34] (by decide +kernel) (by decide +kernel)
set_option maxRecDepth 20000 in
theorem gX5_lesserBy_X5_valueBy : GoodIn wsX5_lesserBy (wsV RX5 182 RX5 yX5_valueBy wsX5_valueBy) := goodIn_app (goodIn_of _ (by decide +kernel)) ggX5_lesserBy_X5_valueBy
theorem dX5_lesserBy_0 : decode cX5_lesserBy 0 = .ok (.aload_n 0, 1) := by decide +kernel
theorem dX5_lesserBy_1 : decode cX5_lesserBy 1 = .ok (.iload_n 1, 1) := by decide +kernel
theorem dX5_lesserBy_2 : decode cX5_lesserBy 2 = .ok (.iconst 0, 1) := by decide +kernel
theorem dX5_lesserBy_3 : decode cX5_lesserBy 3 = .ok (.iconst 0, 1) := by decide +kernel
theorem dX5_lesserBy_4 : decode cX5_lesserBy 4 = .ok (.invokevirtual 182, 3) := by decide +kernel
theorem dX5_lesserBy_7 : decode cX5_lesserBy 7 = .ok (.istore_n 2, 1) := by decide +kernel
theorem dX5_lesserBy_8 : decode cX5_lesserBy 8 = .ok (.aload_n 0, 1) := by decide +kernel
theorem dX5_lesserBy_9 : decode cX5_lesserBy 9 = .ok (.iload_n 1, 1) := by decide +kernel
theorem dX5_lesserBy_10 : decode cX5_lesserBy 10 = .ok (.iconst 1, 1) := by decide +kernel
theorem dX5_lesserBy_11 : decode cX5_lesserBy 11 = .ok (.iconst 1, 1) := by decide +kernel
theorem dX5_lesserBy_12 : decode cX5_lesserBy 12 = .ok (.invokevirtual 182, 3) := by decide +kernel
theorem dX5_lesserBy_15 : decode cX5_lesserBy 15 = .ok (.istore_n 3, 1) := by decide +kernel
theorem dX5_lesserBy_16 : decode cX5_lesserBy 16 = .ok (.iload_n 2, 1) := by decide +kernel
theorem dX5_lesserBy_17 : decode cX5_lesserBy 17 = .ok (.iload_n 3, 1) := by decide +kernel
theorem dX5_lesserBy_18 : decode cX5_lesserBy 18 = .ok (.if_icmp .ge 7, 3) := by decide +kernel
theorem dX5_lesserBy_21 : decode cX5_lesserBy 21 = .ok (.iload_n 2, 1) := by decide +kernel
theorem dX5_lesserBy_22 : decode cX5_lesserBy 22 = .ok (.goto 4, 3) := by decide +kernel
theorem dX5_lesserBy_25 : decode cX5_lesserBy 25 = .ok (.iload_n 3, 1) := by decide +kernel
theorem dX5_lesserBy_26 : decode cX5_lesserBy 26 = .ok (.ireturn, 1) := by decide +kernel
set_option maxRecDepth 20000 in
theorem ggX5_part_X5_are : GoodIn wsX5_part wsX5_are := goodIn_r _ [6, 1, 31, 32, 33, 34, 35, 36, 37, 38, 39, 40, 41, 42, 43, 44, 45, 46, 47] (by decide +kernel) (by decide +kernel)
set_option maxRecDepth 20000 in
theorem gX5_part_X5_are : GoodIn wsX5_part (wsV RX5 146 RX5 yX5_are wsX5_are) := goodIn_app (goodIn_of _ (by decide +kernel)) ggX5_part_X5_are
set_option maxRecDepth 20000 in
theorem ggX5_part_X5_lesserBy : GoodIn wsX5_part wsX5_lesserBy := goodIn_r _ [10, 11, 12, 13, 5, 14, 1, 15, 16, 17, 18, 19, 20, 21, 22, 23, 24, 25, 31, 32, 33, 34, 35, 36, 37, 38, 39, 40, 41, 42, 43, 44, 45, 46, 47] (by decide +kernel) (by decide +kernel)
set_option maxRecDepth 20000 in
theorem gX5_part_X5_lesserBy : GoodIn wsX5_part (wsV RX5 188 RX5 yX5_lesserBy wsX5_lesserBy) := goodIn_app (goodIn_of _ (by decide +kernel)) ggX5_part_X5_lesserBy
set_option maxRecDepth 20000 in
theorem ggX5_part_X5_tells : GoodIn wsX5_part wsX5_tells := goodIn_r _ [29, 30, 31, 32, 33, 34, 35, 36, 37, 38, 39, 40, 41, 42, 43, 44, 45, 46, 47] (by decide +kernel) (by decide +kernel)
set_option maxRecDepth 20000 in
theorem gX5_part_X5_tells : GoodIn wsX5_part (wsV RX5 78 RX5 yX5_tells wsX5_tells) := goodIn_app (goodIn_of _ (by decide +kernel)) ggX5_part_X5_tells
theorem dX5_part_0 : decode cX5_part 0 = .ok (.aload_n 0, 1) := by decide +kernel
theorem dX5_part_1 : decode cX5_part 1 = .ok (.invokevirtual 146, 3) := by decide +kernel
theorem dX5_part_4 : decode cX5_part 4 = .ok (.ifCond .ne 6, 3) := by decide +kernel
theorem dX5_part_7 : decode cX5_part 7 = .ok (.bipush (-4), 2) := by decide +kernel
theorem dX5_part_9 : decode cX5_part 9 = .ok (.ireturn, 1) := by decide +kernel
theorem dX5_part_10 : decode cX5_part 10 = .ok (.iconst 0, 1) := by decide +kernel
theorem dX5_part_11 : decode cX5_part 11 = .ok (.istore_n 1, 1) := by decide +kernel
theorem dX5_part_12 : decode cX5_part 12 = .ok (.iconst 1, 1) := by decide +kernel
theorem dX5_part_13 : decode cX5_part 13 = .ok (.istore_n 2, 1) := by decide +kernel
theorem dX5_part_14 : decode cX5_part 14 = .ok (.iload_n 2, 1) := by decide +kernel
theorem dX5_part_15 : decode cX5_part 15 = .ok (.iconst 1, 1) := by decide +kernel
theorem dX5_part_16 : decode cX5_part 16 = .ok (.aload_n 0, 1) := by decide +kernel
theorem dX5_part_17 : decode cX5_part 17 = .ok (.getfield 25, 3) := by decide +kernel
theorem dX5_part_20 : decode cX5_part 20 = .ok (.iconst 0, 1) := by decide +kernel
theorem dX5_part_21 : decode cX5_part 21 = .ok (.iaload, 1) := by decide +kernel
theorem dX5_part_22 : decode cX5_part 22 = .ok (.ishl, 1) := by decide +kernel
theorem dX5_part_23 : decode cX5_part 23 = .ok (.if_icmp .ge 28, 3) := by decide +kernel
theorem dX5_part_26 : decode cX5_part 26 = .ok (.aload_n 0, 1) := by decide +kernel
theorem dX5_part_27 : decode cX5_part 27 = .ok (.iload_n 2, 1) := by decide +kernel
theorem dX5_part_28 : decode cX5_part 28 = .ok (.invokevirtual 188, 3) := by decide +kernel
theorem dX5_part_31 : decode cX5_part 31 = .ok (.aload_n 0, 1) := by decide +kernel
theorem dX5_part_32 : decode cX5_part 32 = .ok (.iload_n 1, 1) := by decide +kernel
theorem dX5_part_33 : decode cX5_part 33 = .ok (.invokevirtual 188, 3) := by decide +kernel
theorem dX5_part_36 : decode cX5_part 36 = .ok (.if_icmp .le 7, 3) := by decide +kernel
theorem dX5_part_39 : decode cX5_part 39 = .ok (.iload_n 2, 1) := by decide +kernel
theorem dX5_part_40 : decode cX5_part 40 = .ok (.goto 4, 3) := by decide +kernel
theorem dX5_part_43 : decode cX5_part 43 = .ok (.iload_n 1, 1) := by decide +kernel
theorem dX5_part_44 : decode cX5_part 44 = .ok (.istore_n 1, 1) := by decide +kernel
theorem dX5_part_45 : decode cX5_part 45 = .ok (.iinc 2 1, 3) := by decide +kernel
theorem dX5_part_48 : decode cX5_part 48 = .ok (.goto (-34), 3) := by decide +kernel
theorem dX5_part_51 : decode cX5_part 51 = .ok (.aload_n 0, 1) := by decide +kernel
theorem dX5_part_52 : decode cX5_part 52 = .ok (.iload_n 1, 1) := by decide +kernel
theorem dX5_part_53 : decode cX5_part 53 = .ok (.aload_n 0, 1) := by decide +kernel
theorem dX5_part_54 : decode cX5_part 54 = .ok (.iload_n 1, 1) := by decide +kernel
theorem dX5_part_55 : decode cX5_part 55 = .ok (.invokevirtual 188, 3) := by decide +kernel
theorem dX5_part_58 : decode cX5_part 58 = .ok (.invokevirtual 78, 3) := by decide +kernel
theorem dX5_part_61 : decode cX5_part 61 = .ok (.ireturn, 1) := by decide +kernel
set_option maxRecDepth 20000 in
theorem ggX5_sum_X5_are : GoodIn wsX5_sum wsX5_are := goodIn_r _ [6, 1, 39, 40, 41, 42, 43, 44, 45, 46, 47, 48, 49, 50, 51, 52, 53, 54, 55] (by decide +kernel) (by decide +kernel)
set_option maxRecDepth 20000 in
theorem gX5_sum_X5_are : GoodIn wsX5_sum (wsV RX5 146 RX5 yX5_are wsX5_are) := goodIn_app (goodIn_of _ (by decide +kernel)) ggX5_sum_X5_are
set_option maxRecDepth 20000 in
theorem ggX5_sum_X5_ownedByOne : GoodIn wsX5_sum wsX5_ownedByOne := goodIn_r _ [10, 1, 11, 12, 13, 5, 14, 39, 40, 41, 42, 43, 44, 45, 46, 47, 48, 49, 50, 51, 52, 53, 54, 55] (by decide +kernel) (by decide +kernel)
set_option maxRecDepth 20000 in
theorem gX5_sum_X5_ownedByOne : GoodIn wsX5_sum (wsV RX5 178 RX5 yX5_ownedByOne wsX5_ownedByOne) := goodIn_app (goodIn_of _ (by decide +kernel)) ggX5_sum_X5_ownedByOne
set_option maxRecDepth 20000 in
theorem ggX5_sum_X5_isFair : GoodIn wsX5_sum wsX5_isFair := goodIn_r _ [18, 19, 20, 21, 5, 22, 1, 23, 24, 25, 26, 27, 28, 29, 30, 31, 32, 33, 39, 40, 41, 42, 43, 44, 45, 46, 47, 48, 49, 50, 51, 52, 53, 54, 55] (by decide +kernel) (by decide +kernel)
set_option maxRecDepth 20000 in
theorem gX5_sum_X5_isFair : GoodIn wsX5_sum (wsV RX5 185 RX5 yX5_isFair wsX5_isFair) := goodIn_app (goodIn_of _ (by decide +kernel)) ggX5_sum_X5_isFair
set_option maxRecDepth 20000 in
theorem ggX5_sum_X5_tells : GoodIn wsX5_sum wsX5_tells := goodIn_r _ [37, 38, 39, 40, 41, 42, 43, 44, 45, 46, 47, 48, 49, 50, 51, 52, 53, 54, 55] (by decide +kernel) (by decide +kernel)
set_option maxRecDepth 20000 in
theorem gX5_sum_X5_tells : GoodIn wsX5_sum (wsV RX5 78 RX5 yX5_tells wsX5_tells) := goodIn_app (goodIn_of _ (by decide +kernel)) ggX5_sum_X5_tells
theorem dX5_sum_0 : decode cX5_sum 0 = .ok (.aload_n 0, 1) := by decide +kernel
theorem dX5_sum_1 : decode cX5_sum 1 = .ok (.invokevirtual 146, 3) := by decide +kernel
theorem dX5_sum_4 : decode cX5_sum 4 = .ok (.ifCond .ne 6, 3) := by decide +kernel
theorem dX5_sum_7 : decode cX5_sum 7 = .ok (.bipush (-4), 2) := by decide +kernel
theorem dX5_sum_9 : decode cX5_sum 9 = .ok (.ireturn, 1) := by decide +kernel
theorem dX5_sum_10 : decode cX5_sum 10 = .ok (.aload_n 0, 1) := by decide +kernel
theorem dX5_sum_11 : decode cX5_sum 11 = .ok (.invokevirtual 178, 3) := by decide +kernel
theorem dX5_sum_14 : decode cX5_sum 14 = .ok (.istore_n 1, 1) := by decide +kernel
theorem dX5_sum_15 : decode cX5_sum 15 = .ok (.iconst 0, 1) := by decide +kernel
theorem dX5_sum_16 : decode cX5_sum 16 = .ok (.istore_n 2, 1) := by decide +kernel
theorem dX5_sum_17 : decode cX5_sum 17 = .ok (.iload_n 2, 1) := by decide +kernel
theorem dX5_sum_18 : decode cX5_sum 18 = .ok (.bipush 100, 2) := by decide +kernel
theorem dX5_sum_20 : decode cX5_sum 20 = .ok (.if_icmp .ge 67, 3) := by decide +kernel
theorem dX5_sum_23 : decode cX5_sum 23 = .ok (.aload_n 0, 1) := by decide +kernel
theorem dX5_sum_24 : decode cX5_sum 24 = .ok (.iload_n 1, 1) := by decide +kernel
theorem dX5_sum_25 : decode cX5_sum 25 = .ok (.aload_n 0, 1) := by decide +kernel
theorem dX5_sum_26 : decode cX5_sum 26 = .ok (.getfield 25, 3) := by decide +kernel
theorem dX5_sum_29 : decode cX5_sum 29 = .ok (.iconst 5, 1) := by decide +kernel
theorem dX5_sum_30 : decode cX5_sum 30 = .ok (.iaload, 1) := by decide +kernel
theorem dX5_sum_31 : decode cX5_sum 31 = .ok (.iload_n 2, 1) := by decide +kernel
theorem dX5_sum_32 : decode cX5_sum 32 = .ok (.isub, 1) := by decide +kernel
theorem dX5_sum_33 : decode cX5_sum 33 = .ok (.invokevirtual 185, 3) := by decide +kernel
theorem dX5_sum_36 : decode cX5_sum 36 = .ok (.istore_n 3, 1) := by decide +kernel
theorem dX5_sum_37 : decode cX5_sum 37 = .ok (.iload_n 3, 1) := by decide +kernel
theorem dX5_sum_38 : decode cX5_sum 38 = .ok (.ifCond .ne 19, 3) := by decide +kernel
theorem dX5_sum_41 : decode cX5_sum 41 = .ok (.aload_n 0, 1) := by decide +kernel
theorem dX5_sum_42 : decode cX5_sum 42 = .ok (.iload_n 1, 1) := by decide +kernel
theorem dX5_sum_43 : decode cX5_sum 43 = .ok (.aload_n 0, 1) := by decide +kernel
theorem dX5_sum_44 : decode cX5_sum 44 = .ok (.getfield 25, 3) := by decide +kernel
theorem dX5_sum_47 : decode cX5_sum 47 = .ok (.iconst 5, 1) := by decide +kernel
theorem dX5_sum_48 : decode cX5_sum 48 = .ok (.iaload, 1) := by decide +kernel
theorem dX5_sum_49 : decode cX5_sum 49 = .ok (.iload_n 2, 1) := by decide +kernel
theorem dX5_sum_50 : decode cX5_sum 50 = .ok (.iadd, 1) := by decide +kernel
theorem dX5_sum_51 : decode cX5_sum 51 = .ok (.invokevirtual 185, 3) := by decide +kernel
theorem dX5_sum_54 : decode cX5_sum 54 = .ok (.ifCond .eq 27, 3) := by decide +kernel
theorem dX5_sum_57 : decode cX5_sum 57 = .ok (.aload_n 0, 1) := by decide +kernel
theorem dX5_sum_58 : decode cX5_sum 58 = .ok (.iload_n 2, 1) := by decide +kernel
theorem dX5_sum_59 : decode cX5_sum 59 = .ok (.iload_n 2, 1) := by decide +kernel
theorem dX5_sum_60 : decode cX5_sum 60 = .ok (.ifCond .ne 8, 3) := by decide +kernel
theorem dX5_sum_63 : decode cX5_sum 63 = .ok (.bipush (-9), 2) := by decide +kernel
theorem dX5_sum_65 : decode cX5_sum 65 = .ok (.goto 12, 3) := by decide +kernel
theorem dX5_sum_68 : decode cX5_sum 68 = .ok (.iload_n 3, 1) := by decide +kernel
theorem dX5_sum_69 : decode cX5_sum 69 = .ok (.ifCond .eq 7, 3) := by decide +kernel
theorem dX5_sum_72 : decode cX5_sum 72 = .ok (.iconst 0, 1) := by decide +kernel
theorem dX5_sum_73 : decode cX5_sum 73 = .ok (.goto 4, 3) := by decide +kernel
theorem dX5_sum_76 : decode cX5_sum 76 = .ok (.iconst 1, 1) := by decide +kernel
theorem dX5_sum_77 : decode cX5_sum 77 = .ok (.invokevirtual 78, 3) := by decide +kernel
theorem dX5_sum_80 : decode cX5_sum 80 = .ok (.ireturn, 1) := by decide +kernel
theorem dX5_sum_81 : decode cX5_sum 81 = .ok (.iinc 2 1, 3) := by decide +kernel
theorem dX5_sum_84 : decode cX5_sum 84 = .ok (.goto (-67), 3) := by decide +kernel
theorem dX5_sum_87 : decode cX5_sum 87 = .ok (.bipush (-9), 2) := by decide +kernel
theorem dX5_sum_89 : decode cX5_sum 89 = .ok (.ireturn, 1) := by decide +kernel
set_option maxRecDepth 20000 in
theorem ggX5_heirs_X5_are : GoodIn wsX5_heirs wsX5_are := goodIn_r _ [7, 1, 21, 22, 23, 24, 25, 26, 27, 28, 29, 30, 31, 32, 33, 34, 35, 36, 37] (by decide +kernel) (by decide +kernel)
set_option maxRecDepth 20000 in
theorem gX5_heirs_X5_are : GoodIn wsX5_heirs (wsV RX5 146 RX5 yX5_are wsX5_are) := goodIn_app (goodIn_of _ (by decide +kernel)) ggX5_heirs_X5_are
set_option maxRecDepth 20000 in
theorem ggX5_heirs_X5_valueTo : GoodIn wsX5_heirs wsX5_valueTo := goodIn_r _ [11, 1, 12, 13, 14, 6, 15, 21, 22, 23, 24, 25, 26, 27, 28, 29, 30, 31, 32, 33, 34, 35, 36, 37] (by decide +kernel) (by decide +kernel)
set_option maxRecDepth 20000 in
theorem gX5_heirs_X5_valueTo : GoodIn wsX5_heirs (wsV RX5 127 RX5 yX5_valueTo wsX5_valueTo) := goodIn_app (goodIn_of _ (by decide +kernel)) ggX5_heirs_X5_valueTo
set_option maxRecDepth 20000 in
theorem ggX5_heirs_X5_tells : GoodIn wsX5_heirs wsX5_tells := goodIn_r _ [19, 20, 21, 22, 23, 24, 25, 26, 27, 28, 29, 30, 31, 32, 33, 34, 35, 36, 37] (by decide +kernel) (by decide +kernel)
set_option maxRecDepth 20000 in
theorem gX5_heirs_X5_tells : GoodIn wsX5_heirs (wsV RX5 78 RX5 yX5_tells wsX5_tells) := goodIn_app (goodIn_of _ (by decide +kernel)) ggX5_heirs_X5_tells
theorem dX5_heirs_0 : decode cX5_heirs 0 = .ok (.aload_n 0, 1) := by decide +kernel
theorem dX5_heirs_1 : decode cX5_heirs 1 = .ok (.invokevirtual 146, 3) := by decide +kernel
theorem dX5_heirs_4 : decode cX5_heirs 4 = .ok (.ifCond .ne 6, 3) := by decide +kernel
theorem dX5_heirs_7 : decode cX5_heirs 7 = .ok (.bipush (-4), 2) := by decide +kernel
theorem dX5_heirs_9 : decode cX5_heirs 9 = .ok (.ireturn, 1) := by decide +kernel
theorem dX5_heirs_10 : decode cX5_heirs 10 = .ok (.iconst 1, 1) := by decide +kernel
theorem dX5_heirs_11 : decode cX5_heirs 11 = .ok (.istore_n 1, 1) := by decide +kernel
theorem dX5_heirs_12 : decode cX5_heirs 12 = .ok (.iconst 0, 1) := by decide +kernel
theorem dX5_heirs_13 : decode cX5_heirs 13 = .ok (.istore_n 2, 1) := by decide +kernel
theorem dX5_heirs_14 : decode cX5_heirs 14 = .ok (.iload_n 2, 1) := by decide +kernel
theorem dX5_heirs_15 : decode cX5_heirs 15 = .ok (.aload_n 0, 1) := by decide +kernel
theorem dX5_heirs_16 : decode cX5_heirs 16 = .ok (.getfield 25, 3) := by decide +kernel
theorem dX5_heirs_19 : decode cX5_heirs 19 = .ok (.iconst 0, 1) := by decide +kernel
theorem dX5_heirs_20 : decode cX5_heirs 20 = .ok (.iaload, 1) := by decide +kernel
theorem dX5_heirs_21 : decode cX5_heirs 21 = .ok (.if_icmp .ge 13, 3) := by decide +kernel
theorem dX5_heirs_24 : decode cX5_heirs 24 = .ok (.iload_n 1, 1) := by decide +kernel
theorem dX5_heirs_25 : decode cX5_heirs 25 = .ok (.iconst 3, 1) := by decide +kernel
theorem dX5_heirs_26 : decode cX5_heirs 26 = .ok (.imul, 1) := by decide +kernel
theorem dX5_heirs_27 : decode cX5_heirs 27 = .ok (.istore_n 1, 1) := by decide +kernel
theorem dX5_heirs_28 : decode cX5_heirs 28 = .ok (.iinc 2 1, 3) := by decide +kernel
theorem dX5_heirs_31 : decode cX5_heirs 31 = .ok (.goto (-17), 3) := by decide +kernel
theorem dX5_heirs_34 : decode cX5_heirs 34 = .ok (.iconst 0, 1) := by decide +kernel
theorem dX5_heirs_35 : decode cX5_heirs 35 = .ok (.istore_n 2, 1) := by decide +kernel
theorem dX5_heirs_36 : decode cX5_heirs 36 = .ok (.iconst (-1), 1) := by decide +kernel
theorem dX5_heirs_37 : decode cX5_heirs 37 = .ok (.istore_n 3, 1) := by decide +kernel
theorem dX5_heirs_38 : decode cX5_heirs 38 = .ok (.iconst 0, 1) := by decide +kernel
theorem dX5_heirs_39 : decode cX5_heirs 39 = .ok (.istore 4, 2) := by decide +kernel
theorem dX5_heirs_41 : decode cX5_heirs 41 = .ok (.iload 4, 2) := by decide +kernel
theorem dX5_heirs_43 : decode cX5_heirs 43 = .ok (.iload_n 1, 1) := by decide +kernel
theorem dX5_heirs_44 : decode cX5_heirs 44 = .ok (.if_icmp .ge 239, 3) := by decide +kernel
theorem dX5_heirs_47 : decode cX5_heirs 47 = .ok (.aload_n 0, 1) := by decide +kernel
theorem dX5_heirs_48 : decode cX5_heirs 48 = .ok (.getfield 41, 3) := by decide +kernel
theorem dX5_heirs_51 : decode cX5_heirs 51 = .ok (.iconst 0, 1) := by decide +kernel
theorem dX5_heirs_52 : decode cX5_heirs 52 = .ok (.iconst 0, 1) := by decide +kernel
theorem dX5_heirs_53 : decode cX5_heirs 53 = .ok (.iastore, 1) := by decide +kernel
theorem dX5_heirs_54 : decode cX5_heirs 54 = .ok (.aload_n 0, 1) := by decide +kernel
theorem dX5_heirs_55 : decode cX5_heirs 55 = .ok (.getfield 41, 3) := by decide +kernel
theorem dX5_heirs_58 : decode cX5_heirs 58 = .ok (.iconst 1, 1) := by decide +kernel
theorem dX5_heirs_59 : decode cX5_heirs 59 = .ok (.iconst 0, 1) := by decide +kernel
theorem dX5_heirs_60 : decode cX5_heirs 60 = .ok (.iastore, 1) := by decide +kernel
theorem dX5_heirs_61 : decode cX5_heirs 61 = .ok (.aload_n 0, 1) := by decide +kernel
theorem dX5_heirs_62 : decode cX5_heirs 62 = .ok (.getfield 41, 3) := by decide +kernel
theorem dX5_heirs_65 : decode cX5_heirs 65 = .ok (.iconst 2, 1) := by decide +kernel
theorem dX5_heirs_66 : decode cX5_heirs 66 = .ok (.iconst 0, 1) := by decide +kernel
theorem dX5_heirs_67 : decode cX5_heirs 67 = .ok (.iastore, 1) := by decide +kernel
theorem dX5_heirs_68 : decode cX5_heirs 68 = .ok (.iload 4, 2) := by decide +kernel
theorem dX5_heirs_70 : decode cX5_heirs 70 = .ok (.istore 5, 2) := by decide +kernel
theorem dX5_heirs_72 : decode cX5_heirs 72 = .ok (.aload_n 0, 1) := by decide +kernel
theorem dX5_heirs_73 : decode cX5_heirs 73 = .ok (.getfield 25, 3) := by decide +kernel
theorem dX5_heirs_76 : decode cX5_heirs 76 = .ok (.iconst 0, 1) := by decide +kernel
theorem dX5_heirs_77 : decode cX5_heirs 77 = .ok (.iaload, 1) := by decide +kernel
theorem dX5_heirs_78 : decode cX5_heirs 78 = .ok (.iconst 1, 1) := by decide +kernel
theorem dX5_heirs_79 : decode cX5_heirs 79 = .ok (.isub, 1) := by decide +kernel
theorem dX5_heirs_80 : decode cX5_heirs 80 = .ok (.istore 6, 2) := by decide +kernel
theorem dX5_heirs_82 : decode cX5_heirs 82 = .ok (.iload 6, 2) := by decide +kernel
theorem dX5_heirs_84 : decode cX5_heirs 84 = .ok (.ifCond .lt 34, 3) := by decide +kernel
theorem dX5_heirs_87 : decode cX5_heirs 87 = .ok (.aload_n 0, 1) := by decide +kernel
theorem dX5_heirs_88 : decode cX5_heirs 88 = .ok (.getfield 41, 3) := by decide +kernel
theorem dX5_heirs_91 : decode cX5_heirs 91 = .ok (.iload 5, 2) := by decide +kernel
theorem dX5_heirs_93 : decode cX5_heirs 93 = .ok (.iconst 3, 1) := by decide +kernel
theorem dX5_heirs_94 : decode cX5_heirs 94 = .ok (.irem, 1) := by decide +kernel
theorem dX5_heirs_95 : decode cX5_heirs 95 = .ok (.dup2, 1) := by decide +kernel
theorem dX5_heirs_96 : decode cX5_heirs 96 = .ok (.iaload, 1) := by decide +kernel
theorem dX5_heirs_97 : decode cX5_heirs 97 = .ok (.aload_n 0, 1) := by decide +kernel
theorem dX5_heirs_98 : decode cX5_heirs 98 = .ok (.iload 6, 2) := by decide +kernel
theorem dX5_heirs_100 : decode cX5_heirs 100 = .ok (.iconst 0, 1) := by decide +kernel
theorem dX5_heirs_101 : decode cX5_heirs 101 = .ok (.invokevirtual 127, 3) := by decide +kernel
theorem dX5_heirs_104 : decode cX5_heirs 104 = .ok (.iadd, 1) := by decide +kernel
theorem dX5_heirs_105 : decode cX5_heirs 105 = .ok (.iastore, 1) := by decide +kernel
theorem dX5_heirs_106 : decode cX5_heirs 106 = .ok (.iload 5, 2) := by decide +kernel
theorem dX5_heirs_108 : decode cX5_heirs 108 = .ok (.iconst 3, 1) := by decide +kernel
theorem dX5_heirs_109 : decode cX5_heirs 109 = .ok (.idiv, 1) := by decide +kernel
theorem dX5_heirs_110 : decode cX5_heirs 110 = .ok (.istore 5, 2) := by decide +kernel
theorem dX5_heirs_112 : decode cX5_heirs 112 = .ok (.iinc 6 (-1), 3) := by decide +kernel
theorem dX5_heirs_115 : decode cX5_heirs 115 = .ok (.goto (-33), 3) := by decide +kernel
theorem dX5_heirs_118 : decode cX5_heirs 118 = .ok (.aload_n 0, 1) := by decide +kernel
theorem dX5_heirs_119 : decode cX5_heirs 119 = .ok (.getfield 41, 3) := by decide +kernel
theorem dX5_heirs_122 : decode cX5_heirs 122 = .ok (.iconst 0, 1) := by decide +kernel
theorem dX5_heirs_123 : decode cX5_heirs 123 = .ok (.iaload, 1) := by decide +kernel
theorem dX5_heirs_124 : decode cX5_heirs 124 = .ok (.aload_n 0, 1) := by decide +kernel
theorem dX5_heirs_125 : decode cX5_heirs 125 = .ok (.getfield 41, 3) := by decide +kernel
theorem dX5_heirs_128 : decode cX5_heirs 128 = .ok (.iconst 1, 1) := by decide +kernel
theorem dX5_heirs_129 : decode cX5_heirs 129 = .ok (.iaload, 1) := by decide +kernel
theorem dX5_heirs_130 : decode cX5_heirs 130 = .ok (.if_icmp .le 12, 3) := by decide +kernel
theorem dX5_heirs_133 : decode cX5_heirs 133 = .ok (.aload_n 0, 1) := by decide +kernel
theorem dX5_heirs_134 : decode cX5_heirs 134 = .ok (.getfield 41, 3) := by decide +kernel
theorem dX5_heirs_137 : decode cX5_heirs 137 = .ok (.iconst 0, 1) := by decide +kernel
theorem dX5_heirs_138 : decode cX5_heirs 138 = .ok (.iaload, 1) := by decide +kernel
theorem dX5_heirs_139 : decode cX5_heirs 139 = .ok (.goto 9, 3) := by decide +kernel
theorem dX5_heirs_142 : decode cX5_heirs 142 = .ok (.aload_n 0, 1) := by decide +kernel
theorem dX5_heirs_143 : decode cX5_heirs 143 = .ok (.getfield 41, 3) := by decide +kernel
theorem dX5_heirs_146 : decode cX5_heirs 146 = .ok (.iconst 1, 1) := by decide +kernel
theorem dX5_heirs_147 : decode cX5_heirs 147 = .ok (.iaload, 1) := by decide +kernel
theorem dX5_heirs_148 : decode cX5_heirs 148 = .ok (.istore 6, 2) := by decide +kernel
theorem dX5_heirs_150 : decode cX5_heirs 150 = .ok (.iload 6, 2) := by decide +kernel
theorem dX5_heirs_152 : decode cX5_heirs 152 = .ok (.aload_n 0, 1) := by decide +kernel
theorem dX5_heirs_153 : decode cX5_heirs 153 = .ok (.getfield 41, 3) := by decide +kernel
theorem dX5_heirs_156 : decode cX5_heirs 156 = .ok (.iconst 2, 1) := by decide +kernel
theorem dX5_heirs_157 : decode cX5_heirs 157 = .ok (.iaload, 1) := by decide +kernel
theorem dX5_heirs_158 : decode cX5_heirs 158 = .ok (.if_icmp .le 8, 3) := by decide +kernel
theorem dX5_heirs_161 : decode cX5_heirs 161 = .ok (.iload 6, 2) := by decide +kernel
theorem dX5_heirs_163 : decode cX5_heirs 163 = .ok (.goto 9, 3) := by decide +kernel
theorem dX5_heirs_166 : decode cX5_heirs 166 = .ok (.aload_n 0, 1) := by decide +kernel
theorem dX5_heirs_167 : decode cX5_heirs 167 = .ok (.getfield 41, 3) := by decide +kernel
theorem dX5_heirs_170 : decode cX5_heirs 170 = .ok (.iconst 2, 1) := by decide +kernel
theorem dX5_heirs_171 : decode cX5_heirs 171 = .ok (.iaload, 1) := by decide +kernel
theorem dX5_heirs_172 : decode cX5_heirs 172 = .ok (.istore 6, 2) := by decide +kernel
theorem dX5_heirs_174 : decode cX5_heirs 174 = .ok (.aload_n 0, 1) := by decide +kernel
theorem dX5_heirs_175 : decode cX5_heirs 175 = .ok (.getfield 41, 3) := by decide +kernel
theorem dX5_heirs_178 : decode cX5_heirs 178 = .ok (.iconst 0, 1) := by decide +kernel
theorem dX5_heirs_179 : decode cX5_heirs 179 = .ok (.iaload, 1) := by decide +kernel
theorem dX5_heirs_180 : decode cX5_heirs 180 = .ok (.aload_n 0, 1) := by decide +kernel
theorem dX5_heirs_181 : decode cX5_heirs 181 = .ok (.getfield 41, 3) := by decide +kernel
theorem dX5_heirs_184 : decode cX5_heirs 184 = .ok (.iconst 1, 1) := by decide +kernel
theorem dX5_heirs_185 : decode cX5_heirs 185 = .ok (.iaload, 1) := by decide +kernel
theorem dX5_heirs_186 : decode cX5_heirs 186 = .ok (.if_icmp .ge 12, 3) := by decide +kernel
theorem dX5_heirs_189 : decode cX5_heirs 189 = .ok (.aload_n 0, 1) := by decide +kernel
theorem dX5_heirs_190 : decode cX5_heirs 190 = .ok (.getfield 41, 3) := by decide +kernel
theorem dX5_heirs_193 : decode cX5_heirs 193 = .ok (.iconst 0, 1) := by decide +kernel
theorem dX5_heirs_194 : decode cX5_heirs 194 = .ok (.iaload, 1) := by decide +kernel
theorem dX5_heirs_195 : decode cX5_heirs 195 = .ok (.goto 9, 3) := by decide +kernel
theorem dX5_heirs_198 : decode cX5_heirs 198 = .ok (.aload_n 0, 1) := by decide +kernel
theorem dX5_heirs_199 : decode cX5_heirs 199 = .ok (.getfield 41, 3) := by decide +kernel
theorem dX5_heirs_202 : decode cX5_heirs 202 = .ok (.iconst 1, 1) := by decide +kernel
theorem dX5_heirs_203 : decode cX5_heirs 203 = .ok (.iaload, 1) := by decide +kernel
theorem dX5_heirs_204 : decode cX5_heirs 204 = .ok (.istore 7, 2) := by decide +kernel
theorem dX5_heirs_206 : decode cX5_heirs 206 = .ok (.iload 7, 2) := by decide +kernel
theorem dX5_heirs_208 : decode cX5_heirs 208 = .ok (.aload_n 0, 1) := by decide +kernel
theorem dX5_heirs_209 : decode cX5_heirs 209 = .ok (.getfield 41, 3) := by decide +kernel
theorem dX5_heirs_212 : decode cX5_heirs 212 = .ok (.iconst 2, 1) := by decide +kernel
theorem dX5_heirs_213 : decode cX5_heirs 213 = .ok (.iaload, 1) := by decide +kernel
theorem dX5_heirs_214 : decode cX5_heirs 214 = .ok (.if_icmp .ge 8, 3) := by decide +kernel
theorem dX5_heirs_217 : decode cX5_heirs 217 = .ok (.iload 7, 2) := by decide +kernel
theorem dX5_heirs_219 : decode cX5_heirs 219 = .ok (.goto 9, 3) := by decide +kernel
theorem dX5_heirs_222 : decode cX5_heirs 222 = .ok (.aload_n 0, 1) := by decide +kernel
theorem dX5_heirs_223 : decode cX5_heirs 223 = .ok (.getfield 41, 3) := by decide +kernel
theorem dX5_heirs_226 : decode cX5_heirs 226 = .ok (.iconst 2, 1) := by decide +kernel
theorem dX5_heirs_227 : decode cX5_heirs 227 = .ok (.iaload, 1) := by decide +kernel
theorem dX5_heirs_228 : decode cX5_heirs 228 = .ok (.istore 7, 2) := by decide +kernel
theorem dX5_heirs_230 : decode cX5_heirs 230 = .ok (.iload_n 3, 1) := by decide +kernel
theorem dX5_heirs_231 : decode cX5_heirs 231 = .ok (.ifCond .lt 12, 3) := by decide +kernel
theorem dX5_heirs_234 : decode cX5_heirs 234 = .ok (.iload 6, 2) := by decide +kernel
theorem dX5_heirs_236 : decode cX5_heirs 236 = .ok (.iload 7, 2) := by decide +kernel
theorem dX5_heirs_238 : decode cX5_heirs 238 = .ok (.isub, 1) := by decide +kernel
theorem dX5_heirs_239 : decode cX5_heirs 239 = .ok (.iload_n 3, 1) := by decide +kernel
theorem dX5_heirs_240 : decode cX5_heirs 240 = .ok (.if_icmp .ge 7, 3) := by decide +kernel
theorem dX5_heirs_243 : decode cX5_heirs 243 = .ok (.iconst 1, 1) := by decide +kernel
theorem dX5_heirs_244 : decode cX5_heirs 244 = .ok (.goto 4, 3) := by decide +kernel
theorem dX5_heirs_247 : decode cX5_heirs 247 = .ok (.iconst 0, 1) := by decide +kernel
theorem dX5_heirs_248 : decode cX5_heirs 248 = .ok (.istore 8, 2) := by decide +kernel
theorem dX5_heirs_250 : decode cX5_heirs 250 = .ok (.iload 8, 2) := by decide +kernel
theorem dX5_heirs_252 : decode cX5_heirs 252 = .ok (.ifCond .eq 8, 3) := by decide +kernel
theorem dX5_heirs_255 : decode cX5_heirs 255 = .ok (.iload 4, 2) := by decide +kernel
theorem dX5_heirs_257 : decode cX5_heirs 257 = .ok (.goto 4, 3) := by decide +kernel
theorem dX5_heirs_260 : decode cX5_heirs 260 = .ok (.iload_n 2, 1) := by decide +kernel
theorem dX5_heirs_261 : decode cX5_heirs 261 = .ok (.istore_n 2, 1) := by decide +kernel
theorem dX5_heirs_262 : decode cX5_heirs 262 = .ok (.iload 8, 2) := by decide +kernel
theorem dX5_heirs_264 : decode cX5_heirs 264 = .ok (.ifCond .eq 11, 3) := by decide +kernel
theorem dX5_heirs_267 : decode cX5_heirs 267 = .ok (.iload 6, 2) := by decide +kernel
theorem dX5_heirs_269 : decode cX5_heirs 269 = .ok (.iload 7, 2) := by decide +kernel
theorem dX5_heirs_271 : decode cX5_heirs 271 = .ok (.isub, 1) := by decide +kernel
theorem dX5_heirs_272 : decode cX5_heirs 272 = .ok (.goto 4, 3) := by decide +kernel
theorem dX5_heirs_275 : decode cX5_heirs 275 = .ok (.iload_n 3, 1) := by decide +kernel
theorem dX5_heirs_276 : decode cX5_heirs 276 = .ok (.istore_n 3, 1) := by decide +kernel
theorem dX5_heirs_277 : decode cX5_heirs 277 = .ok (.iinc 4 1, 3) := by decide +kernel
theorem dX5_heirs_280 : decode cX5_heirs 280 = .ok (.goto (-239), 3) := by decide +kernel
theorem dX5_heirs_283 : decode cX5_heirs 283 = .ok (.aload_n 0, 1) := by decide +kernel
theorem dX5_heirs_284 : decode cX5_heirs 284 = .ok (.iload_n 3, 1) := by decide +kernel
theorem dX5_heirs_285 : decode cX5_heirs 285 = .ok (.iload_n 2, 1) := by decide +kernel
theorem dX5_heirs_286 : decode cX5_heirs 286 = .ok (.invokevirtual 78, 3) := by decide +kernel
theorem dX5_heirs_289 : decode cX5_heirs 289 = .ok (.ireturn, 1) := by decide +kernel
set_option maxRecDepth 20000 in
theorem ggX5_calfOf_X5_farmOn : GoodIn wsX5_calfOf wsX5_farmOn := goodIn_r _ [5, 6, 15, 16, 17, 18, 19, 20, 21, 22, 23, 24, 25, 26, 27, 28, 29, 30, 31] (by decide +kernel) (by decide +kernel)
set_option maxRecDepth 20000 in
theorem gX5_calfOf_X5_farmOn : GoodIn wsX5_calfOf (wsV RX5 156 RX5 yX5_farmOn wsX5_farmOn) := goodIn_app (goodIn_of _ (by decide +kernel)) ggX5_calfOf_X5_farmOn
set_option maxRecDepth 20000 in
theorem ggX5_calfOf_X5_milkOf : GoodIn wsX5_calfOf wsX5_milkOf := goodIn_r _ [10, 1, 2, 3, 4, 5, 6, 11, 12, 13, 14, 15, 16, 17, 18, 19, 20, 21, 22, 23, 24, 25, 26, 27, 28, 29, 30, 31] (by decide +kernel) (by decide +kernel)
set_option maxRecDepth 20000 in
theorem gX5_calfOf_X5_milkOf : GoodIn wsX5_calfOf (wsV RX5 162 RX5 yX5_milkOf wsX5_milkOf) := goodIn_app (goodIn_of _ (by decide +kernel)) ggX5_calfOf_X5_milkOf
theorem dX5_calfOf_0 : decode cX5_calfOf 0 = .ok (.iload_n 2, 1) := by decide +kernel
theorem dX5_calfOf_1 : decode cX5_calfOf 1 = .ok (.tableswitch 72 0 2 #[27, 33, 49], 27) := by decide +kernel
theorem dX5_calfOf_28 : decode cX5_calfOf 28 = .ok (.aload_n 0, 1) := by decide +kernel
theorem dX5_calfOf_29 : decode cX5_calfOf 29 = .ok (.iload_n 1, 1) := by decide +kernel
theorem dX5_calfOf_30 : decode cX5_calfOf 30 = .ok (.invokevirtual 156, 3) := by decide +kernel
theorem dX5_calfOf_33 : decode cX5_calfOf 33 = .ok (.ireturn, 1) := by decide +kernel
theorem dX5_calfOf_34 : decode cX5_calfOf 34 = .ok (.aload_n 0, 1) := by decide +kernel
theorem dX5_calfOf_35 : decode cX5_calfOf 35 = .ok (.iload_n 1, 1) := by decide +kernel
theorem dX5_calfOf_36 : decode cX5_calfOf 36 = .ok (.ifCond .ne 7, 3) := by decide +kernel
theorem dX5_calfOf_39 : decode cX5_calfOf 39 = .ok (.iconst 0, 1) := by decide +kernel
theorem dX5_calfOf_40 : decode cX5_calfOf 40 = .ok (.goto 6, 3) := by decide +kernel
theorem dX5_calfOf_43 : decode cX5_calfOf 43 = .ok (.iload_n 1, 1) := by decide +kernel
theorem dX5_calfOf_44 : decode cX5_calfOf 44 = .ok (.iconst 1, 1) := by decide +kernel
theorem dX5_calfOf_45 : decode cX5_calfOf 45 = .ok (.isub, 1) := by decide +kernel
theorem dX5_calfOf_46 : decode cX5_calfOf 46 = .ok (.invokevirtual 156, 3) := by decide +kernel
theorem dX5_calfOf_49 : decode cX5_calfOf 49 = .ok (.ireturn, 1) := by decide +kernel
theorem dX5_calfOf_50 : decode cX5_calfOf 50 = .ok (.aload_n 0, 1) := by decide +kernel
theorem dX5_calfOf_51 : decode cX5_calfOf 51 = .ok (.iconst 1, 1) := by decide +kernel
theorem dX5_calfOf_52 : decode cX5_calfOf 52 = .ok (.iconst 0, 1) := by decide +kernel
theorem dX5_calfOf_53 : decode cX5_calfOf 53 = .ok (.iload_n 1, 1) := by decide +kernel
theorem dX5_calfOf_54 : decode cX5_calfOf 54 = .ok (.invokevirtual 162, 3) := by decide +kernel
theorem dX5_calfOf_57 : decode cX5_calfOf 57 = .ok (.aload_n 0, 1) := by decide +kernel
theorem dX5_calfOf_58 : decode cX5_calfOf 58 = .ok (.iconst 0, 1) := by decide +kernel
theorem dX5_calfOf_59 : decode cX5_calfOf 59 = .ok (.iconst 0, 1) := by decide +kernel
theorem dX5_calfOf_60 : decode cX5_calfOf 60 = .ok (.iload_n 1, 1) := by decide +kernel
theorem dX5_calfOf_61 : decode cX5_calfOf 61 = .ok (.invokevirtual 162, 3) := by decide +kernel
theorem dX5_calfOf_64 : decode cX5_calfOf 64 = .ok (.if_icmp .le 7, 3) := by decide +kernel
theorem dX5_calfOf_67 : decode cX5_calfOf 67 = .ok (.iconst 1, 1) := by decide +kernel
theorem dX5_calfOf_68 : decode cX5_calfOf 68 = .ok (.goto 4, 3) := by decide +kernel
theorem dX5_calfOf_71 : decode cX5_calfOf 71 = .ok (.iconst 0, 1) := by decide +kernel
theorem dX5_calfOf_72 : decode cX5_calfOf 72 = .ok (.ireturn, 1) := by decide +kernel
theorem dX5_calfOf_73 : decode cX5_calfOf 73 = .ok (.iload_n 1, 1) := by decide +kernel
theorem dX5_calfOf_74 : decode cX5_calfOf 74 = .ok (.iconst 1, 1) := by decide +kernel
theorem dX5_calfOf_75 : decode cX5_calfOf 75 = .ok (.iadd, 1) := by decide +kernel
theorem dX5_calfOf_76 : decode cX5_calfOf 76 = .ok (.istore_n 3, 1) := by decide +kernel
theorem dX5_calfOf_77 : decode cX5_calfOf 77 = .ok (.iload_n 3, 1) := by decide +kernel
theorem dX5_calfOf_78 : decode cX5_calfOf 78 = .ok (.iload_n 1, 1) := by decide +kernel
theorem dX5_calfOf_79 : decode cX5_calfOf 79 = .ok (.bipush 10, 2) := by decide +kernel
theorem dX5_calfOf_81 : decode cX5_calfOf 81 = .ok (.iadd, 1) := by decide +kernel
theorem dX5_calfOf_82 : decode cX5_calfOf 82 = .ok (.if_icmp .ge 30, 3) := by decide +kernel
theorem dX5_calfOf_85 : decode cX5_calfOf 85 = .ok (.aload_n 0, 1) := by decide +kernel
theorem dX5_calfOf_86 : decode cX5_calfOf 86 = .ok (.iload_n 3, 1) := by decide +kernel
theorem dX5_calfOf_87 : decode cX5_calfOf 87 = .ok (.invokevirtual 156, 3) := by decide +kernel
theorem dX5_calfOf_90 : decode cX5_calfOf 90 = .ok (.aload_n 0, 1) := by decide +kernel
theorem dX5_calfOf_91 : decode cX5_calfOf 91 = .ok (.iload_n 3, 1) := by decide +kernel
theorem dX5_calfOf_92 : decode cX5_calfOf 92 = .ok (.iconst 1, 1) := by decide +kernel
theorem dX5_calfOf_93 : decode cX5_calfOf 93 = .ok (.isub, 1) := by decide +kernel
theorem dX5_calfOf_94 : decode cX5_calfOf 94 = .ok (.invokevirtual 156, 3) := by decide +kernel
theorem dX5_calfOf_97 : decode cX5_calfOf 97 = .ok (.if_icmp .eq 9, 3) := by decide +kernel
theorem dX5_calfOf_100 : decode cX5_calfOf 100 = .ok (.aload_n 0, 1) := by decide +kernel
theorem dX5_calfOf_101 : decode cX5_calfOf 101 = .ok (.iload_n 3, 1) := by decide +kernel
theorem dX5_calfOf_102 : decode cX5_calfOf 102 = .ok (.invokevirtual 156, 3) := by decide +kernel
theorem dX5_calfOf_105 : decode cX5_calfOf 105 = .ok (.ireturn, 1) := by decide +kernel
theorem dX5_calfOf_106 : decode cX5_calfOf 106 = .ok (.iinc 3 1, 3) := by decide +kernel
theorem dX5_calfOf_109 : decode cX5_calfOf 109 = .ok (.goto (-32), 3) := by decide +kernel
theorem dX5_calfOf_112 : decode cX5_calfOf 112 = .ok (.bipush (-9), 2) := by decide +kernel
theorem dX5_calfOf_114 : decode cX5_calfOf 114 = .ok (.ireturn, 1) := by decide +kernel
set_option maxRecDepth 20000 in
theorem ggX5_calf_X5_isDay : GoodIn wsX5_calf wsX5_isDay := goodIn_r _ [4, 5, 6, 3, 7] (by decide +kernel) (by decide +kernel)
set_option maxRecDepth 20000 in
theorem gX5_calf_X5_isDay : GoodIn wsX5_calf (va_wsS RX5 153 yX5_isDay wsX5_isDay) := goodIn_app (goodIn_of _ (by decide +kernel)) ggX5_calf_X5_isDay
set_option maxRecDepth 20000 in
theorem ggX5_calf_X5_in : GoodIn wsX5_calf wsX5_in := goodIn_r _ [7] (by decide +kernel) (by decide +kernel)
set_option maxRecDepth 20000 in
theorem gX5_calf_X5_in : GoodIn wsX5_calf (va_wsS RX5 58 yX5_in wsX5_in) := goodIn_app (goodIn_of _ (by decide +kernel)) ggX5_calf_X5_in
set_option maxRecDepth 20000 in
theorem ggX5_calf_X5_are : GoodIn wsX5_calf wsX5_are := goodIn_r _ [11, 12, 29, 30, 31, 32, 33, 34, 35, 36, 37, 38, 39, 40, 41, 42, 43, 44, 45] (by decide +kernel) (by decide +kernel)
set_option maxRecDepth 20000 in
theorem gX5_calf_X5_are : GoodIn wsX5_calf (wsV RX5 146 RX5 yX5_are wsX5_are) := goodIn_app (goodIn_of _ (by decide +kernel)) ggX5_calf_X5_are
set_option maxRecDepth 20000 in
theorem ggX5_calf_X5_calfOf : GoodIn wsX5_calf wsX5_calfOf := goodIn_r _ [16, 17, 18, 19, 3, 20, 12, 21, 22, 23, 24, 25, 26, 27, 28, 29, 30, 31, 32, 33, 34, 35, 36, 37, 38, 39, 40, 41, 42, 43, 44, 45] (by decide +kernel) (by decide +kernel)
set_option maxRecDepth 20000 in
theorem gX5_calf_X5_calfOf : GoodIn wsX5_calf (wsV RX5 191 RX5 yX5_calfOf wsX5_calfOf) := goodIn_app (goodIn_of _ (by decide +kernel)) ggX5_calf_X5_calfOf
theorem dX5_calf_0 : decode cX5_calf 0 = .ok (.iload_n 1, 1) := by decide +kernel
theorem dX5_calf_1 : decode cX5_calf 1 = .ok (.invokestatic 153, 3) := by decide +kernel
theorem dX5_calf_4 : decode cX5_calf 4 = .ok (.ifCond .eq 12, 3) := by decide +kernel
theorem dX5_calf_7 : decode cX5_calf 7 = .ok (.iload_n 2, 1) := by decide +kernel
theorem dX5_calf_8 : decode cX5_calf 8 = .ok (.iconst 0, 1) := by decide +kernel
theorem dX5_calf_9 : decode cX5_calf 9 = .ok (.iconst 3, 1) := by decide +kernel
theorem dX5_calf_10 : decode cX5_calf 10 = .ok (.invokestatic 58, 3) := by decide +kernel
theorem dX5_calf_13 : decode cX5_calf 13 = .ok (.ifCond .ne 5, 3) := by decide +kernel
theorem dX5_calf_16 : decode cX5_calf 16 = .ok (.iconst (-1), 1) := by decide +kernel
theorem dX5_calf_17 : decode cX5_calf 17 = .ok (.ireturn, 1) := by decide +kernel
theorem dX5_calf_18 : decode cX5_calf 18 = .ok (.aload_n 0, 1) := by decide +kernel
theorem dX5_calf_19 : decode cX5_calf 19 = .ok (.invokevirtual 146, 3) := by decide +kernel
theorem dX5_calf_22 : decode cX5_calf 22 = .ok (.ifCond .eq 12, 3) := by decide +kernel
theorem dX5_calf_25 : decode cX5_calf 25 = .ok (.aload_n 0, 1) := by decide +kernel
theorem dX5_calf_26 : decode cX5_calf 26 = .ok (.iload_n 1, 1) := by decide +kernel
theorem dX5_calf_27 : decode cX5_calf 27 = .ok (.iload_n 2, 1) := by decide +kernel
theorem dX5_calf_28 : decode cX5_calf 28 = .ok (.invokevirtual 191, 3) := by decide +kernel
theorem dX5_calf_31 : decode cX5_calf 31 = .ok (.goto 5, 3) := by decide +kernel
theorem dX5_calf_34 : decode cX5_calf 34 = .ok (.bipush (-4), 2) := by decide +kernel
theorem dX5_calf_36 : decode cX5_calf 36 = .ok (.ireturn, 1) := by decide +kernel
set_option maxRecDepth 20000 in
theorem ggX5_quarrel_X5_isDay : GoodIn wsX5_quarrel wsX5_isDay := goodIn_r _ [4, 5, 6, 3, 7] (by decide +kernel) (by decide +kernel)
set_option maxRecDepth 20000 in
theorem gX5_quarrel_X5_isDay : GoodIn wsX5_quarrel (va_wsS RX5 153 yX5_isDay wsX5_isDay) := goodIn_app (goodIn_of _ (by decide +kernel)) ggX5_quarrel_X5_isDay
set_option maxRecDepth 20000 in
theorem ggX5_quarrel_X5_in : GoodIn wsX5_quarrel wsX5_in := goodIn_r _ [7] (by decide +kernel) (by decide +kernel)
set_option maxRecDepth 20000 in
theorem gX5_quarrel_X5_in : GoodIn wsX5_quarrel (va_wsS RX5 58 yX5_in wsX5_in) := goodIn_app (goodIn_of _ (by decide +kernel)) ggX5_quarrel_X5_in
set_option maxRecDepth 20000 in
theorem ggX5_quarrel_X5_are : GoodIn wsX5_quarrel wsX5_are := goodIn_r _ [11, 12, 29, 30, 31, 32, 33, 34, 35, 36, 37, 38, 39, 40, 41, 42, 43, 44, 45] (by decide +kernel) (by decide +kernel)
set_option maxRecDepth 20000 in
theorem gX5_quarrel_X5_are : GoodIn wsX5_quarrel (wsV RX5 146 RX5 yX5_are wsX5_are) := goodIn_app (goodIn_of _ (by decide +kernel)) ggX5_quarrel_X5_are
set_option maxRecDepth 20000 in
theorem ggX5_quarrel_X5_calfOf : GoodIn wsX5_quarrel wsX5_calfOf := goodIn_r _ [16, 17, 18, 19, 3, 20, 12, 21, 22, 23, 24, 25, 26, 27, 28, 29, 30, 31, 32, 33, 34, 35, 36, 37, 38, 39, 40, 41, 42, 43, 44, 45] (by decide +kernel) (by decide +kernel)
set_option maxRecDepth 20000 in
theorem gX5_quarrel_X5_calfOf : GoodIn wsX5_quarrel (wsV RX5 191 RX5 yX5_calfOf wsX5_calfOf) := goodIn_app (goodIn_of _ (by decide +kernel)) ggX5_quarrel_X5_calfOf
theorem dX5_quarrel_0 : decode cX5_quarrel 0 = .ok (.iload_n 1, 1) := by decide +kernel
theorem dX5_quarrel_1 : decode cX5_quarrel 1 = .ok (.invokestatic 153, 3) := by decide +kernel
theorem dX5_quarrel_4 : decode cX5_quarrel 4 = .ok (.ifCond .eq 26, 3) := by decide +kernel
theorem dX5_quarrel_7 : decode cX5_quarrel 7 = .ok (.iload_n 2, 1) := by decide +kernel
theorem dX5_quarrel_8 : decode cX5_quarrel 8 = .ok (.iconst 0, 1) := by decide +kernel
theorem dX5_quarrel_9 : decode cX5_quarrel 9 = .ok (.iconst 3, 1) := by decide +kernel
theorem dX5_quarrel_10 : decode cX5_quarrel 10 = .ok (.invokestatic 58, 3) := by decide +kernel
theorem dX5_quarrel_13 : decode cX5_quarrel 13 = .ok (.ifCond .eq 17, 3) := by decide +kernel
theorem dX5_quarrel_16 : decode cX5_quarrel 16 = .ok (.iload_n 3, 1) := by decide +kernel
theorem dX5_quarrel_17 : decode cX5_quarrel 17 = .ok (.iconst 0, 1) := by decide +kernel
theorem dX5_quarrel_18 : decode cX5_quarrel 18 = .ok (.iconst 3, 1) := by decide +kernel
theorem dX5_quarrel_19 : decode cX5_quarrel 19 = .ok (.invokestatic 58, 3) := by decide +kernel
theorem dX5_quarrel_22 : decode cX5_quarrel 22 = .ok (.ifCond .eq 8, 3) := by decide +kernel
theorem dX5_quarrel_25 : decode cX5_quarrel 25 = .ok (.iload_n 2, 1) := by decide +kernel
theorem dX5_quarrel_26 : decode cX5_quarrel 26 = .ok (.iload_n 3, 1) := by decide +kernel
theorem dX5_quarrel_27 : decode cX5_quarrel 27 = .ok (.if_icmp .ne 5, 3) := by decide +kernel
theorem dX5_quarrel_30 : decode cX5_quarrel 30 = .ok (.iconst (-1), 1) := by decide +kernel
theorem dX5_quarrel_31 : decode cX5_quarrel 31 = .ok (.ireturn, 1) := by decide +kernel
theorem dX5_quarrel_32 : decode cX5_quarrel 32 = .ok (.aload_n 0, 1) := by decide +kernel
theorem dX5_quarrel_33 : decode cX5_quarrel 33 = .ok (.invokevirtual 146, 3) := by decide +kernel
theorem dX5_quarrel_36 : decode cX5_quarrel 36 = .ok (.ifCond .ne 6, 3) := by decide +kernel
theorem dX5_quarrel_39 : decode cX5_quarrel 39 = .ok (.bipush (-4), 2) := by decide +kernel
theorem dX5_quarrel_41 : decode cX5_quarrel 41 = .ok (.ireturn, 1) := by decide +kernel
theorem dX5_quarrel_42 : decode cX5_quarrel 42 = .ok (.iload_n 1, 1) := by decide +kernel
theorem dX5_quarrel_43 : decode cX5_quarrel 43 = .ok (.istore 4, 2) := by decide +kernel
theorem dX5_quarrel_45 : decode cX5_quarrel 45 = .ok (.iload 4, 2) := by decide +kernel
theorem dX5_quarrel_47 : decode cX5_quarrel 47 = .ok (.sipush 1000, 3) := by decide +kernel
theorem dX5_quarrel_50 : decode cX5_quarrel 50 = .ok (.if_icmp .ge 29, 3) := by decide +kernel
theorem dX5_quarrel_53 : decode cX5_quarrel 53 = .ok (.aload_n 0, 1) := by decide +kernel
theorem dX5_quarrel_54 : decode cX5_quarrel 54 = .ok (.iload 4, 2) := by decide +kernel
theorem dX5_quarrel_56 : decode cX5_quarrel 56 = .ok (.iload_n 2, 1) := by decide +kernel
theorem dX5_quarrel_57 : decode cX5_quarrel 57 = .ok (.invokevirtual 191, 3) := by decide +kernel
theorem dX5_quarrel_60 : decode cX5_quarrel 60 = .ok (.aload_n 0, 1) := by decide +kernel
theorem dX5_quarrel_61 : decode cX5_quarrel 61 = .ok (.iload 4, 2) := by decide +kernel
theorem dX5_quarrel_63 : decode cX5_quarrel 63 = .ok (.iload_n 3, 1) := by decide +kernel
theorem dX5_quarrel_64 : decode cX5_quarrel 64 = .ok (.invokevirtual 191, 3) := by decide +kernel
theorem dX5_quarrel_67 : decode cX5_quarrel 67 = .ok (.if_icmp .eq 6, 3) := by decide +kernel
theorem dX5_quarrel_70 : decode cX5_quarrel 70 = .ok (.iload 4, 2) := by decide +kernel
theorem dX5_quarrel_72 : decode cX5_quarrel 72 = .ok (.ireturn, 1) := by decide +kernel
theorem dX5_quarrel_73 : decode cX5_quarrel 73 = .ok (.iinc 4 1, 3) := by decide +kernel
theorem dX5_quarrel_76 : decode cX5_quarrel 76 = .ok (.goto (-31), 3) := by decide +kernel
theorem dX5_quarrel_79 : decode cX5_quarrel 79 = .ok (.bipush (-9), 2) := by decide +kernel
theorem dX5_quarrel_81 : decode cX5_quarrel 81 = .ok (.ireturn, 1) := by decide +kernel
set_option maxRecDepth 20000 in
theorem ggX5_bill_X5_in : GoodIn wsX5_bill wsX5_in := goodIn_r _ [5] (by decide +kernel) (by decide +kernel)
set_option maxRecDepth 20000 in
theorem gX5_bill_X5_in : GoodIn wsX5_bill (va_wsS RX5 58 yX5_in wsX5_in) := goodIn_app (goodIn_of _ (by decide +kernel)) ggX5_bill_X5_in
set_option maxRecDepth 20000 in
theorem ggX5_bill_X5_isDay : GoodIn wsX5_bill wsX5_isDay := goodIn_r _ [8, 2, 3, 4, 5] (by decide +kernel) (by decide +kernel)
set_option maxRecDepth 20000 in
theorem gX5_bill_X5_isDay : GoodIn wsX5_bill (va_wsS RX5 153 yX5_isDay wsX5_isDay) := goodIn_app (goodIn_of _ (by decide +kernel)) ggX5_bill_X5_isDay
set_option maxRecDepth 20000 in
theorem ggX5_bill_X5_are : GoodIn wsX5_bill wsX5_are := goodIn_r _ [12, 13, 32, 33, 34, 35, 36, 37, 38, 39, 40, 41, 42, 43, 44, 45, 46, 47, 48] (by decide +kernel) (by decide +kernel)
set_option maxRecDepth 20000 in
theorem gX5_bill_X5_are : GoodIn wsX5_bill (wsV RX5 146 RX5 yX5_are wsX5_are) := goodIn_app (goodIn_of _ (by decide +kernel)) ggX5_bill_X5_are
set_option maxRecDepth 20000 in
theorem ggX5_bill_X5_milkOf : GoodIn wsX5_bill wsX5_milkOf := goodIn_r _ [17, 18, 19, 20, 4, 21, 13, 22, 23, 24, 25, 32, 33, 34, 35, 36, 37, 38, 39, 40, 41, 42, 43, 44, 45, 46, 47, 48] (by decide +kernel) (by decide +kernel)
set_option maxRecDepth 20000 in
theorem gX5_bill_X5_milkOf : GoodIn wsX5_bill (wsV RX5 162 RX5 yX5_milkOf wsX5_milkOf) := goodIn_app (goodIn_of _ (by decide +kernel)) ggX5_bill_X5_milkOf
set_option maxRecDepth 20000 in
theorem ggX5_bill_X5_tellsParts : GoodIn wsX5_bill wsX5_tellsParts := goodIn_r _ [29, 30, 31, 32, 33, 34, 35, 36, 37, 38, 39, 40, 41, 42, 43, 44, 45, 46, 47, 48] (by decide +kernel) (by decide +kernel)
set_option maxRecDepth 20000 in
theorem gX5_bill_X5_tellsParts : GoodIn wsX5_bill (wsV RX5 196 RX5 yX5_tellsParts wsX5_tellsParts) := goodIn_app (goodIn_of _ (by decide +kernel)) ggX5_bill_X5_tellsParts
theorem dX5_bill_0 : decode cX5_bill 0 = .ok (.iload_n 1, 1) := by decide +kernel
theorem dX5_bill_1 : decode cX5_bill 1 = .ok (.iconst 1, 1) := by decide +kernel
theorem dX5_bill_2 : decode cX5_bill 2 = .ok (.sipush 9999, 3) := by decide +kernel
theorem dX5_bill_5 : decode cX5_bill 5 = .ok (.invokestatic 58, 3) := by decide +kernel
theorem dX5_bill_8 : decode cX5_bill 8 = .ok (.ifCond .eq 10, 3) := by decide +kernel
theorem dX5_bill_11 : decode cX5_bill 11 = .ok (.iload_n 2, 1) := by decide +kernel
theorem dX5_bill_12 : decode cX5_bill 12 = .ok (.invokestatic 153, 3) := by decide +kernel
theorem dX5_bill_15 : decode cX5_bill 15 = .ok (.ifCond .ne 5, 3) := by decide +kernel
theorem dX5_bill_18 : decode cX5_bill 18 = .ok (.iconst (-1), 1) := by decide +kernel
theorem dX5_bill_19 : decode cX5_bill 19 = .ok (.ireturn, 1) := by decide +kernel
theorem dX5_bill_20 : decode cX5_bill 20 = .ok (.aload_n 0, 1) := by decide +kernel
theorem dX5_bill_21 : decode cX5_bill 21 = .ok (.invokevirtual 146, 3) := by decide +kernel
theorem dX5_bill_24 : decode cX5_bill 24 = .ok (.ifCond .ne 6, 3) := by decide +kernel
theorem dX5_bill_27 : decode cX5_bill 27 = .ok (.bipush (-4), 2) := by decide +kernel
theorem dX5_bill_29 : decode cX5_bill 29 = .ok (.ireturn, 1) := by decide +kernel
theorem dX5_bill_30 : decode cX5_bill 30 = .ok (.aload_n 0, 1) := by decide +kernel
theorem dX5_bill_31 : decode cX5_bill 31 = .ok (.iconst 0, 1) := by decide +kernel
theorem dX5_bill_32 : decode cX5_bill 32 = .ok (.iconst 0, 1) := by decide +kernel
theorem dX5_bill_33 : decode cX5_bill 33 = .ok (.iload_n 2, 1) := by decide +kernel
theorem dX5_bill_34 : decode cX5_bill 34 = .ok (.invokevirtual 162, 3) := by decide +kernel
theorem dX5_bill_37 : decode cX5_bill 37 = .ok (.i2l, 1) := by decide +kernel
theorem dX5_bill_38 : decode cX5_bill 38 = .ok (.lstore_n 3, 1) := by decide +kernel
theorem dX5_bill_39 : decode cX5_bill 39 = .ok (.lload_n 3, 1) := by decide +kernel
theorem dX5_bill_40 : decode cX5_bill 40 = .ok (.aload_n 0, 1) := by decide +kernel
theorem dX5_bill_41 : decode cX5_bill 41 = .ok (.iconst 1, 1) := by decide +kernel
theorem dX5_bill_42 : decode cX5_bill 42 = .ok (.iconst 0, 1) := by decide +kernel
theorem dX5_bill_43 : decode cX5_bill 43 = .ok (.iload_n 2, 1) := by decide +kernel
theorem dX5_bill_44 : decode cX5_bill 44 = .ok (.invokevirtual 162, 3) := by decide +kernel
theorem dX5_bill_47 : decode cX5_bill 47 = .ok (.i2l, 1) := by decide +kernel
theorem dX5_bill_48 : decode cX5_bill 48 = .ok (.ladd, 1) := by decide +kernel
theorem dX5_bill_49 : decode cX5_bill 49 = .ok (.lstore 5, 2) := by decide +kernel
theorem dX5_bill_51 : decode cX5_bill 51 = .ok (.lload 5, 2) := by decide +kernel
theorem dX5_bill_53 : decode cX5_bill 53 = .ok (.lconst 0, 1) := by decide +kernel
theorem dX5_bill_54 : decode cX5_bill 54 = .ok (.lcmp, 1) := by decide +kernel
theorem dX5_bill_55 : decode cX5_bill 55 = .ok (.ifCond .ne 15, 3) := by decide +kernel
theorem dX5_bill_58 : decode cX5_bill 58 = .ok (.aload_n 0, 1) := by decide +kernel
theorem dX5_bill_59 : decode cX5_bill 59 = .ok (.iload_n 1, 1) := by decide +kernel
theorem dX5_bill_60 : decode cX5_bill 60 = .ok (.i2l, 1) := by decide +kernel
theorem dX5_bill_61 : decode cX5_bill 61 = .ok (.ldc2_w 194, 3) := by decide +kernel
theorem dX5_bill_64 : decode cX5_bill 64 = .ok (.invokevirtual 196, 3) := by decide +kernel
theorem dX5_bill_67 : decode cX5_bill 67 = .ok (.goto 13, 3) := by decide +kernel
theorem dX5_bill_70 : decode cX5_bill 70 = .ok (.aload_n 0, 1) := by decide +kernel
theorem dX5_bill_71 : decode cX5_bill 71 = .ok (.iload_n 1, 1) := by decide +kernel
theorem dX5_bill_72 : decode cX5_bill 72 = .ok (.i2l, 1) := by decide +kernel
theorem dX5_bill_73 : decode cX5_bill 73 = .ok (.lload_n 3, 1) := by decide +kernel
theorem dX5_bill_74 : decode cX5_bill 74 = .ok (.lmul, 1) := by decide +kernel
theorem dX5_bill_75 : decode cX5_bill 75 = .ok (.lload 5, 2) := by decide +kernel
theorem dX5_bill_77 : decode cX5_bill 77 = .ok (.invokevirtual 196, 3) := by decide +kernel
theorem dX5_bill_80 : decode cX5_bill 80 = .ok (.ireturn, 1) := by decide +kernel
set_option maxRecDepth 20000 in
theorem ggX5_wrongIn_X5_isDay : GoodIn wsX5_wrongIn wsX5_isDay := goodIn_r _ [6, 7, 8, 5, 9] (by decide +kernel) (by decide +kernel)
set_option maxRecDepth 20000 in
theorem gX5_wrongIn_X5_isDay : GoodIn wsX5_wrongIn (va_wsS RX5 153 yX5_isDay wsX5_isDay) := goodIn_app (goodIn_of _ (by decide +kernel)) ggX5_wrongIn_X5_isDay
set_option maxRecDepth 20000 in
theorem ggX5_wrongIn_X5_in : GoodIn wsX5_wrongIn wsX5_in := goodIn_r _ [9] (by decide +kernel) (by decide +kernel)
set_option maxRecDepth 20000 in
theorem gX5_wrongIn_X5_in : GoodIn wsX5_wrongIn (va_wsS RX5 58 yX5_in wsX5_in) := goodIn_app (goodIn_of _ (by decide +kernel)) ggX5_wrongIn_X5_in
theorem dX5_wrongIn_0 : decode cX5_wrongIn 0 = .ok (.aload_n 0, 1) := by decide +kernel
theorem dX5_wrongIn_1 : decode cX5_wrongIn 1 = .ok (.getfield 7, 3) := by decide +kernel
theorem dX5_wrongIn_4 : decode cX5_wrongIn 4 = .ok (.iload_n 1, 1) := by decide +kernel
theorem dX5_wrongIn_5 : decode cX5_wrongIn 5 = .ok (.iaload, 1) := by decide +kernel
theorem dX5_wrongIn_6 : decode cX5_wrongIn 6 = .ok (.ifCond .ge 5, 3) := by decide +kernel
theorem dX5_wrongIn_9 : decode cX5_wrongIn 9 = .ok (.iconst 1, 1) := by decide +kernel
theorem dX5_wrongIn_10 : decode cX5_wrongIn 10 = .ok (.ireturn, 1) := by decide +kernel
theorem dX5_wrongIn_11 : decode cX5_wrongIn 11 = .ok (.aload_n 0, 1) := by decide +kernel
theorem dX5_wrongIn_12 : decode cX5_wrongIn 12 = .ok (.getfield 7, 3) := by decide +kernel
theorem dX5_wrongIn_15 : decode cX5_wrongIn 15 = .ok (.iload_n 1, 1) := by decide +kernel
theorem dX5_wrongIn_16 : decode cX5_wrongIn 16 = .ok (.iaload, 1) := by decide +kernel
theorem dX5_wrongIn_17 : decode cX5_wrongIn 17 = .ok (.iconst 2, 1) := by decide +kernel
theorem dX5_wrongIn_18 : decode cX5_wrongIn 18 = .ok (.irem, 1) := by decide +kernel
theorem dX5_wrongIn_19 : decode cX5_wrongIn 19 = .ok (.iconst 1, 1) := by decide +kernel
theorem dX5_wrongIn_20 : decode cX5_wrongIn 20 = .ok (.if_icmp .ne 5, 3) := by decide +kernel
theorem dX5_wrongIn_23 : decode cX5_wrongIn 23 = .ok (.iconst 5, 1) := by decide +kernel
theorem dX5_wrongIn_24 : decode cX5_wrongIn 24 = .ok (.ireturn, 1) := by decide +kernel
theorem dX5_wrongIn_25 : decode cX5_wrongIn 25 = .ok (.iconst 1, 1) := by decide +kernel
theorem dX5_wrongIn_26 : decode cX5_wrongIn 26 = .ok (.istore_n 2, 1) := by decide +kernel
theorem dX5_wrongIn_27 : decode cX5_wrongIn 27 = .ok (.iconst 0, 1) := by decide +kernel
theorem dX5_wrongIn_28 : decode cX5_wrongIn 28 = .ok (.istore_n 3, 1) := by decide +kernel
theorem dX5_wrongIn_29 : decode cX5_wrongIn 29 = .ok (.iload_n 3, 1) := by decide +kernel
theorem dX5_wrongIn_30 : decode cX5_wrongIn 30 = .ok (.aload_n 0, 1) := by decide +kernel
theorem dX5_wrongIn_31 : decode cX5_wrongIn 31 = .ok (.getfield 7, 3) := by decide +kernel
theorem dX5_wrongIn_34 : decode cX5_wrongIn 34 = .ok (.iload_n 1, 1) := by decide +kernel
theorem dX5_wrongIn_35 : decode cX5_wrongIn 35 = .ok (.iaload, 1) := by decide +kernel
theorem dX5_wrongIn_36 : decode cX5_wrongIn 36 = .ok (.if_icmp .ge 57, 3) := by decide +kernel
theorem dX5_wrongIn_39 : decode cX5_wrongIn 39 = .ok (.iload_n 2, 1) := by decide +kernel
theorem dX5_wrongIn_40 : decode cX5_wrongIn 40 = .ok (.ifCond .eq 45, 3) := by decide +kernel
theorem dX5_wrongIn_43 : decode cX5_wrongIn 43 = .ok (.aload_n 0, 1) := by decide +kernel
theorem dX5_wrongIn_44 : decode cX5_wrongIn 44 = .ok (.getfield 13, 3) := by decide +kernel
theorem dX5_wrongIn_47 : decode cX5_wrongIn 47 = .ok (.bipush 40, 2) := by decide +kernel
theorem dX5_wrongIn_49 : decode cX5_wrongIn 49 = .ok (.iload_n 1, 1) := by decide +kernel
theorem dX5_wrongIn_50 : decode cX5_wrongIn 50 = .ok (.imul, 1) := by decide +kernel
theorem dX5_wrongIn_51 : decode cX5_wrongIn 51 = .ok (.iload_n 3, 1) := by decide +kernel
theorem dX5_wrongIn_52 : decode cX5_wrongIn 52 = .ok (.iadd, 1) := by decide +kernel
theorem dX5_wrongIn_53 : decode cX5_wrongIn 53 = .ok (.iaload, 1) := by decide +kernel
theorem dX5_wrongIn_54 : decode cX5_wrongIn 54 = .ok (.invokestatic 153, 3) := by decide +kernel
theorem dX5_wrongIn_57 : decode cX5_wrongIn 57 = .ok (.ifCond .eq 28, 3) := by decide +kernel
theorem dX5_wrongIn_60 : decode cX5_wrongIn 60 = .ok (.aload_n 0, 1) := by decide +kernel
theorem dX5_wrongIn_61 : decode cX5_wrongIn 61 = .ok (.getfield 13, 3) := by decide +kernel
theorem dX5_wrongIn_64 : decode cX5_wrongIn 64 = .ok (.bipush 40, 2) := by decide +kernel
theorem dX5_wrongIn_66 : decode cX5_wrongIn 66 = .ok (.iload_n 1, 1) := by decide +kernel
theorem dX5_wrongIn_67 : decode cX5_wrongIn 67 = .ok (.imul, 1) := by decide +kernel
theorem dX5_wrongIn_68 : decode cX5_wrongIn 68 = .ok (.iload_n 3, 1) := by decide +kernel
theorem dX5_wrongIn_69 : decode cX5_wrongIn 69 = .ok (.iadd, 1) := by decide +kernel
theorem dX5_wrongIn_70 : decode cX5_wrongIn 70 = .ok (.iconst 1, 1) := by decide +kernel
theorem dX5_wrongIn_71 : decode cX5_wrongIn 71 = .ok (.iadd, 1) := by decide +kernel
theorem dX5_wrongIn_72 : decode cX5_wrongIn 72 = .ok (.iaload, 1) := by decide +kernel
theorem dX5_wrongIn_73 : decode cX5_wrongIn 73 = .ok (.iconst 0, 1) := by decide +kernel
theorem dX5_wrongIn_74 : decode cX5_wrongIn 74 = .ok (.iconst 1, 1) := by decide +kernel
theorem dX5_wrongIn_75 : decode cX5_wrongIn 75 = .ok (.invokestatic 58, 3) := by decide +kernel
theorem dX5_wrongIn_78 : decode cX5_wrongIn 78 = .ok (.ifCond .eq 7, 3) := by decide +kernel
theorem dX5_wrongIn_81 : decode cX5_wrongIn 81 = .ok (.iconst 1, 1) := by decide +kernel
theorem dX5_wrongIn_82 : decode cX5_wrongIn 82 = .ok (.goto 4, 3) := by decide +kernel
theorem dX5_wrongIn_85 : decode cX5_wrongIn 85 = .ok (.iconst 0, 1) := by decide +kernel
theorem dX5_wrongIn_86 : decode cX5_wrongIn 86 = .ok (.istore_n 2, 1) := by decide +kernel
theorem dX5_wrongIn_87 : decode cX5_wrongIn 87 = .ok (.iinc 3 2, 3) := by decide +kernel
theorem dX5_wrongIn_90 : decode cX5_wrongIn 90 = .ok (.goto (-61), 3) := by decide +kernel
theorem dX5_wrongIn_93 : decode cX5_wrongIn 93 = .ok (.iload_n 2, 1) := by decide +kernel
theorem dX5_wrongIn_94 : decode cX5_wrongIn 94 = .ok (.ifCond .eq 7, 3) := by decide +kernel
theorem dX5_wrongIn_97 : decode cX5_wrongIn 97 = .ok (.iconst 0, 1) := by decide +kernel
theorem dX5_wrongIn_98 : decode cX5_wrongIn 98 = .ok (.goto 4, 3) := by decide +kernel
theorem dX5_wrongIn_101 : decode cX5_wrongIn 101 = .ok (.iconst 3, 1) := by decide +kernel
theorem dX5_wrongIn_102 : decode cX5_wrongIn 102 = .ok (.ireturn, 1) := by decide +kernel
theorem dX5_fitsBy_0 : decode cX5_fitsBy 0 = .ok (.iconst 1, 1) := by decide +kernel
theorem dX5_fitsBy_1 : decode cX5_fitsBy 1 = .ok (.istore 4, 2) := by decide +kernel
theorem dX5_fitsBy_3 : decode cX5_fitsBy 3 = .ok (.iconst 0, 1) := by decide +kernel
theorem dX5_fitsBy_4 : decode cX5_fitsBy 4 = .ok (.istore 5, 2) := by decide +kernel
theorem dX5_fitsBy_6 : decode cX5_fitsBy 6 = .ok (.iload 5, 2) := by decide +kernel
theorem dX5_fitsBy_8 : decode cX5_fitsBy 8 = .ok (.aload_n 0, 1) := by decide +kernel
theorem dX5_fitsBy_9 : decode cX5_fitsBy 9 = .ok (.getfield 7, 3) := by decide +kernel
theorem dX5_fitsBy_12 : decode cX5_fitsBy 12 = .ok (.iload_n 2, 1) := by decide +kernel
theorem dX5_fitsBy_13 : decode cX5_fitsBy 13 = .ok (.iaload, 1) := by decide +kernel
theorem dX5_fitsBy_14 : decode cX5_fitsBy 14 = .ok (.if_icmp .ge 56, 3) := by decide +kernel
theorem dX5_fitsBy_17 : decode cX5_fitsBy 17 = .ok (.iload 4, 2) := by decide +kernel
theorem dX5_fitsBy_19 : decode cX5_fitsBy 19 = .ok (.ifCond .eq 42, 3) := by decide +kernel
theorem dX5_fitsBy_22 : decode cX5_fitsBy 22 = .ok (.iload_n 1, 1) := by decide +kernel
theorem dX5_fitsBy_23 : decode cX5_fitsBy 23 = .ok (.aload_n 0, 1) := by decide +kernel
theorem dX5_fitsBy_24 : decode cX5_fitsBy 24 = .ok (.getfield 13, 3) := by decide +kernel
theorem dX5_fitsBy_27 : decode cX5_fitsBy 27 = .ok (.bipush 40, 2) := by decide +kernel
theorem dX5_fitsBy_29 : decode cX5_fitsBy 29 = .ok (.iload_n 2, 1) := by decide +kernel
theorem dX5_fitsBy_30 : decode cX5_fitsBy 30 = .ok (.imul, 1) := by decide +kernel
theorem dX5_fitsBy_31 : decode cX5_fitsBy 31 = .ok (.iload 5, 2) := by decide +kernel
theorem dX5_fitsBy_33 : decode cX5_fitsBy 33 = .ok (.iadd, 1) := by decide +kernel
theorem dX5_fitsBy_34 : decode cX5_fitsBy 34 = .ok (.iaload, 1) := by decide +kernel
theorem dX5_fitsBy_35 : decode cX5_fitsBy 35 = .ok (.iload_n 3, 1) := by decide +kernel
theorem dX5_fitsBy_36 : decode cX5_fitsBy 36 = .ok (.irem, 1) := by decide +kernel
theorem dX5_fitsBy_37 : decode cX5_fitsBy 37 = .ok (.ishr, 1) := by decide +kernel
theorem dX5_fitsBy_38 : decode cX5_fitsBy 38 = .ok (.iconst 1, 1) := by decide +kernel
theorem dX5_fitsBy_39 : decode cX5_fitsBy 39 = .ok (.iand, 1) := by decide +kernel
theorem dX5_fitsBy_40 : decode cX5_fitsBy 40 = .ok (.aload_n 0, 1) := by decide +kernel
