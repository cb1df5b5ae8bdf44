theorem dX5_milkOf_0 : decode cX5_milkOf 0 = .ok (.iconst 0, 1) := by decide +kernel
theorem dX5_milkOf_1 : decode cX5_milkOf 1 = .ok (.istore 4, 2) := by decide +kernel
theorem dX5_milkOf_3 : decode cX5_milkOf 3 = .ok (.iload_n 2, 1) := by decide +kernel
theorem dX5_milkOf_4 : decode cX5_milkOf 4 = .ok (.istore 5, 2) := by decide +kernel
theorem dX5_milkOf_6 : decode cX5_milkOf 6 = .ok (.iload 5, 2) := by decide +kernel
theorem dX5_milkOf_8 : decode cX5_milkOf 8 = .ok (.iload_n 3, 1) := by decide +kernel
theorem dX5_milkOf_9 : decode cX5_milkOf 9 = .ok (.if_icmp .gt 34, 3) := by decide +kernel
theorem dX5_milkOf_12 : decode cX5_milkOf 12 = .ok (.iload 4, 2) := by decide +kernel
theorem dX5_milkOf_14 : decode cX5_milkOf 14 = .ok (.aload_n 0, 1) := by decide +kernel
theorem dX5_milkOf_15 : decode cX5_milkOf 15 = .ok (.iload 5, 2) := by decide +kernel
theorem dX5_milkOf_17 : decode cX5_milkOf 17 = .ok (.invokevirtual 156, 3) := by decide +kernel
theorem dX5_milkOf_20 : decode cX5_milkOf 20 = .ok (.iload_n 1, 1) := by decide +kernel
theorem dX5_milkOf_21 : decode cX5_milkOf 21 = .ok (.if_icmp .ne 12, 3) := by decide +kernel
theorem dX5_milkOf_24 : decode cX5_milkOf 24 = .ok (.aload_n 0, 1) := by decide +kernel
theorem dX5_milkOf_25 : decode cX5_milkOf 25 = .ok (.iload 5, 2) := by decide +kernel
theorem dX5_milkOf_27 : decode cX5_milkOf 27 = .ok (.invokevirtual 159, 3) := by decide +kernel
theorem dX5_milkOf_30 : decode cX5_milkOf 30 = .ok (.goto 4, 3) := by decide +kernel
theorem dX5_milkOf_33 : decode cX5_milkOf 33 = .ok (.iconst 0, 1) := by decide +kernel
theorem dX5_milkOf_34 : decode cX5_milkOf 34 = .ok (.iadd, 1) := by decide +kernel
theorem dX5_milkOf_35 : decode cX5_milkOf 35 = .ok (.istore 4, 2) := by decide +kernel
theorem dX5_milkOf_37 : decode cX5_milkOf 37 = .ok (.iinc 5 1, 3) := by decide +kernel
theorem dX5_milkOf_40 : decode cX5_milkOf 40 = .ok (.goto (-34), 3) := by decide +kernel
theorem dX5_milkOf_43 : decode cX5_milkOf 43 = .ok (.iload 4, 2) := by decide +kernel
theorem dX5_milkOf_45 : decode cX5_milkOf 45 = .ok (.ireturn, 1) := by decide +kernel
set_option maxRecDepth 20000 in
theorem ggX5_milk_X5_in : GoodIn wsX5_milk wsX5_in := goodIn_r _ [4] (by decide +kernel) (by decide +kernel)
set_option maxRecDepth 20000 in
theorem gX5_milk_X5_in : GoodIn wsX5_milk (va_wsS RX5 58 yX5_in wsX5_in) := goodIn_app (goodIn_of _ (by decide +kernel)) ggX5_milk_X5_in
set_option maxRecDepth 20000 in
theorem ggX5_milk_X5_isDay : GoodIn wsX5_milk wsX5_isDay := goodIn_r _ [7, 1, 2, 3, 4] (by decide +kernel) (by decide +kernel)
set_option maxRecDepth 20000 in
theorem gX5_milk_X5_isDay : GoodIn wsX5_milk (va_wsS RX5 153 yX5_isDay wsX5_isDay) := goodIn_app (goodIn_of _ (by decide +kernel)) ggX5_milk_X5_isDay
set_option maxRecDepth 20000 in
theorem ggX5_milk_X5_are : GoodIn wsX5_milk wsX5_are := goodIn_r _ [11, 12, 25, 26, 27, 28, 29, 30, 31, 32, 33, 34, 35, 36, 37, 38, 39, 40, 41] (by decide +kernel) (by decide +kernel)
set_option maxRecDepth 20000 in
theorem gX5_milk_X5_are : GoodIn wsX5_milk (wsV RX5 146 RX5 yX5_are wsX5_are) := goodIn_app (goodIn_of _ (by decide +kernel)) ggX5_milk_X5_are
set_option maxRecDepth 20000 in
theorem ggX5_milk_X5_milkOf : GoodIn wsX5_milk wsX5_milkOf := goodIn_r _ [16, 17, 18, 19, 3, 20, 12, 21, 22, 23, 24, 25, 26, 27, 28, 29, 30, 31, 32, 33, 34, 35, 36, 37, 38, 39, 40, 41] (by decide +kernel) (by decide +kernel)
set_option maxRecDepth 20000 in
theorem gX5_milk_X5_milkOf : GoodIn wsX5_milk (wsV RX5 162 RX5 yX5_milkOf wsX5_milkOf) := goodIn_app (goodIn_of _ (by decide +kernel)) ggX5_milk_X5_milkOf
theorem dX5_milk_0 : decode cX5_milk 0 = .ok (.iload_n 1, 1) := by decide +kernel
theorem dX5_milk_1 : decode cX5_milk 1 = .ok (.iconst 0, 1) := by decide +kernel
theorem dX5_milk_2 : decode cX5_milk 2 = .ok (.iconst 1, 1) := by decide +kernel
theorem dX5_milk_3 : decode cX5_milk 3 = .ok (.invokestatic 58, 3) := by decide +kernel
theorem dX5_milk_6 : decode cX5_milk 6 = .ok (.ifCond .eq 22, 3) := by decide +kernel
theorem dX5_milk_9 : decode cX5_milk 9 = .ok (.iload_n 2, 1) := by decide +kernel
theorem dX5_milk_10 : decode cX5_milk 10 = .ok (.invokestatic 153, 3) := by decide +kernel
theorem dX5_milk_13 : decode cX5_milk 13 = .ok (.ifCond .eq 15, 3) := by decide +kernel
theorem dX5_milk_16 : decode cX5_milk 16 = .ok (.iload_n 3, 1) := by decide +kernel
theorem dX5_milk_17 : decode cX5_milk 17 = .ok (.invokestatic 153, 3) := by decide +kernel
theorem dX5_milk_20 : decode cX5_milk 20 = .ok (.ifCond .eq 8, 3) := by decide +kernel
theorem dX5_milk_23 : decode cX5_milk 23 = .ok (.iload_n 3, 1) := by decide +kernel
theorem dX5_milk_24 : decode cX5_milk 24 = .ok (.iload_n 2, 1) := by decide +kernel
theorem dX5_milk_25 : decode cX5_milk 25 = .ok (.if_icmp .ge 5, 3) := by decide +kernel
theorem dX5_milk_28 : decode cX5_milk 28 = .ok (.iconst (-1), 1) := by decide +kernel
theorem dX5_milk_29 : decode cX5_milk 29 = .ok (.ireturn, 1) := by decide +kernel
theorem dX5_milk_30 : decode cX5_milk 30 = .ok (.aload_n 0, 1) := by decide +kernel
theorem dX5_milk_31 : decode cX5_milk 31 = .ok (.invokevirtual 146, 3) := by decide +kernel
theorem dX5_milk_34 : decode cX5_milk 34 = .ok (.ifCond .eq 13, 3) := by decide +kernel
theorem dX5_milk_37 : decode cX5_milk 37 = .ok (.aload_n 0, 1) := by decide +kernel
theorem dX5_milk_38 : decode cX5_milk 38 = .ok (.iload_n 1, 1) := by decide +kernel
theorem dX5_milk_39 : decode cX5_milk 39 = .ok (.iload_n 2, 1) := by decide +kernel
theorem dX5_milk_40 : decode cX5_milk 40 = .ok (.iload_n 3, 1) := by decide +kernel
theorem dX5_milk_41 : decode cX5_milk 41 = .ok (.invokevirtual 162, 3) := by decide +kernel
theorem dX5_milk_44 : decode cX5_milk 44 = .ok (.goto 5, 3) := by decide +kernel
theorem dX5_milk_47 : decode cX5_milk 47 = .ok (.bipush (-4), 2) := by decide +kernel
theorem dX5_milk_49 : decode cX5_milk 49 = .ok (.ireturn, 1) := by decide +kernel
set_option maxRecDepth 20000 in
theorem ggX5_walks_X5_isDay : GoodIn wsX5_walks wsX5_isDay := goodIn_r _ [4, 5, 6, 3, 7] (by decide +kernel) (by decide +kernel)
set_option maxRecDepth 20000 in
theorem gX5_walks_X5_isDay : GoodIn wsX5_walks (va_wsS RX5 153 yX5_isDay wsX5_isDay) := goodIn_app (goodIn_of _ (by decide +kernel)) ggX5_walks_X5_isDay
set_option maxRecDepth 20000 in
theorem ggX5_walks_X5_are : GoodIn wsX5_walks wsX5_are := goodIn_r _ [11, 12, 17, 18, 19, 20, 21, 22, 23, 24, 25, 26, 27, 28, 29, 30, 31, 32, 33] (by decide +kernel) (by decide +kernel)
set_option maxRecDepth 20000 in
theorem gX5_walks_X5_are : GoodIn wsX5_walks (wsV RX5 146 RX5 yX5_are wsX5_are) := goodIn_app (goodIn_of _ (by decide +kernel)) ggX5_walks_X5_are
set_option maxRecDepth 20000 in
theorem ggX5_walks_X5_farmOn : GoodIn wsX5_walks wsX5_farmOn := goodIn_r _ [16, 12, 17, 18, 19, 20, 21, 22, 23, 24, 25, 26, 27, 28, 29, 30, 31, 32, 33] (by decide +kernel) (by decide +kernel)
set_option maxRecDepth 20000 in
theorem gX5_walks_X5_farmOn : GoodIn wsX5_walks (wsV RX5 156 RX5 yX5_farmOn wsX5_farmOn) := goodIn_app (goodIn_of _ (by decide +kernel)) ggX5_walks_X5_farmOn
theorem dX5_walks_0 : decode cX5_walks 0 = .ok (.iload_n 1, 1) := by decide +kernel
theorem dX5_walks_1 : decode cX5_walks 1 = .ok (.invokestatic 153, 3) := by decide +kernel
theorem dX5_walks_4 : decode cX5_walks 4 = .ok (.ifCond .ne 5, 3) := by decide +kernel
theorem dX5_walks_7 : decode cX5_walks 7 = .ok (.iconst (-1), 1) := by decide +kernel
theorem dX5_walks_8 : decode cX5_walks 8 = .ok (.ireturn, 1) := by decide +kernel
theorem dX5_walks_9 : decode cX5_walks 9 = .ok (.aload_n 0, 1) := by decide +kernel
theorem dX5_walks_10 : decode cX5_walks 10 = .ok (.invokevirtual 146, 3) := by decide +kernel
theorem dX5_walks_13 : decode cX5_walks 13 = .ok (.ifCond .ne 6, 3) := by decide +kernel
theorem dX5_walks_16 : decode cX5_walks 16 = .ok (.bipush (-4), 2) := by decide +kernel
theorem dX5_walks_18 : decode cX5_walks 18 = .ok (.ireturn, 1) := by decide +kernel
theorem dX5_walks_19 : decode cX5_walks 19 = .ok (.iconst 0, 1) := by decide +kernel
theorem dX5_walks_20 : decode cX5_walks 20 = .ok (.istore_n 2, 1) := by decide +kernel
theorem dX5_walks_21 : decode cX5_walks 21 = .ok (.iconst 1, 1) := by decide +kernel
theorem dX5_walks_22 : decode cX5_walks 22 = .ok (.istore_n 3, 1) := by decide +kernel
theorem dX5_walks_23 : decode cX5_walks 23 = .ok (.iload_n 3, 1) := by decide +kernel
theorem dX5_walks_24 : decode cX5_walks 24 = .ok (.iload_n 1, 1) := by decide +kernel
theorem dX5_walks_25 : decode cX5_walks 25 = .ok (.if_icmp .gt 32, 3) := by decide +kernel
theorem dX5_walks_28 : decode cX5_walks 28 = .ok (.iload_n 2, 1) := by decide +kernel
theorem dX5_walks_29 : decode cX5_walks 29 = .ok (.aload_n 0, 1) := by decide +kernel
theorem dX5_walks_30 : decode cX5_walks 30 = .ok (.iload_n 3, 1) := by decide +kernel
theorem dX5_walks_31 : decode cX5_walks 31 = .ok (.invokevirtual 156, 3) := by decide +kernel
theorem dX5_walks_34 : decode cX5_walks 34 = .ok (.aload_n 0, 1) := by decide +kernel
theorem dX5_walks_35 : decode cX5_walks 35 = .ok (.iload_n 3, 1) := by decide +kernel
theorem dX5_walks_36 : decode cX5_walks 36 = .ok (.iconst 1, 1) := by decide +kernel
theorem dX5_walks_37 : decode cX5_walks 37 = .ok (.isub, 1) := by decide +kernel
theorem dX5_walks_38 : decode cX5_walks 38 = .ok (.invokevirtual 156, 3) := by decide +kernel
theorem dX5_walks_41 : decode cX5_walks 41 = .ok (.if_icmp .ne 7, 3) := by decide +kernel
theorem dX5_walks_44 : decode cX5_walks 44 = .ok (.iconst 0, 1) := by decide +kernel
theorem dX5_walks_45 : decode cX5_walks 45 = .ok (.goto 4, 3) := by decide +kernel
theorem dX5_walks_48 : decode cX5_walks 48 = .ok (.iconst 1, 1) := by decide +kernel
theorem dX5_walks_49 : decode cX5_walks 49 = .ok (.iadd, 1) := by decide +kernel
theorem dX5_walks_50 : decode cX5_walks 50 = .ok (.istore_n 2, 1) := by decide +kernel
theorem dX5_walks_51 : decode cX5_walks 51 = .ok (.iinc 3 1, 3) := by decide +kernel
theorem dX5_walks_54 : decode cX5_walks 54 = .ok (.goto (-31), 3) := by decide +kernel
theorem dX5_walks_57 : decode cX5_walks 57 = .ok (.iload_n 2, 1) := by decide +kernel
theorem dX5_walks_58 : decode cX5_walks 58 = .ok (.ireturn, 1) := by decide +kernel
set_option maxRecDepth 20000 in
theorem ggX5_out_X5_in : GoodIn wsX5_out wsX5_in := goodIn_r _ [4] (by decide +kernel) (by decide +kernel)
set_option maxRecDepth 20000 in
theorem gX5_out_X5_in : GoodIn wsX5_out (va_wsS RX5 58 yX5_in wsX5_in) := goodIn_app (goodIn_of _ (by decide +kernel)) ggX5_out_X5_in
set_option maxRecDepth 20000 in
theorem ggX5_out_X5_are : GoodIn wsX5_out wsX5_are := goodIn_r _ [8, 9, 23, 24, 25, 26, 27, 28, 29, 30, 31, 32, 33, 34, 35, 36, 37, 38, 39] (by decide +kernel) (by decide +kernel)
set_option maxRecDepth 20000 in
theorem gX5_out_X5_are : GoodIn wsX5_out (wsV RX5 146 RX5 yX5_are wsX5_are) := goodIn_app (goodIn_of _ (by decide +kernel)) ggX5_out_X5_are
set_option maxRecDepth 20000 in
theorem ggX5_out_X5_farmOn : GoodIn wsX5_out wsX5_farmOn := goodIn_r _ [13, 9, 23, 24, 25, 26, 27, 28, 29, 30, 31, 32, 33, 34, 35, 36, 37, 38, 39] (by decide +kernel) (by decide +kernel)
set_option maxRecDepth 20000 in
theorem gX5_out_X5_farmOn : GoodIn wsX5_out (wsV RX5 156 RX5 yX5_farmOn wsX5_farmOn) := goodIn_app (goodIn_of _ (by decide +kernel)) ggX5_out_X5_farmOn
set_option maxRecDepth 20000 in
theorem ggX5_out_X5_milkOn : GoodIn wsX5_out wsX5_milkOn := goodIn_r _ [17, 9, 23, 24, 25, 26, 27, 28, 29, 30, 31, 32, 33, 34, 35, 36, 37, 38, 39] (by decide +kernel) (by decide +kernel)
set_option maxRecDepth 20000 in
theorem gX5_out_X5_milkOn : GoodIn wsX5_out (wsV RX5 159 RX5 yX5_milkOn wsX5_milkOn) := goodIn_app (goodIn_of _ (by decide +kernel)) ggX5_out_X5_milkOn
set_option maxRecDepth 20000 in
theorem ggX5_out_X5_tells : GoodIn wsX5_out wsX5_tells := goodIn_r _ [21, 22, 23, 24, 25, 26, 27, 28, 29, 30, 31, 32, 33, 34, 35, 36, 37, 38, 39] (by decide +kernel) (by decide +kernel)
set_option maxRecDepth 20000 in
theorem gX5_out_X5_tells : GoodIn wsX5_out (wsV RX5 78 RX5 yX5_tells wsX5_tells) := goodIn_app (goodIn_of _ (by decide +kernel)) ggX5_out_X5_tells
theorem dX5_out_0 : decode cX5_out 0 = .ok (.iload_n 1, 1) := by decide +kernel
theorem dX5_out_1 : decode cX5_out 1 = .ok (.iconst 0, 1) := by decide +kernel
theorem dX5_out_2 : decode cX5_out 2 = .ok (.bipush 99, 2) := by decide +kernel
theorem dX5_out_4 : decode cX5_out 4 = .ok (.invokestatic 58, 3) := by decide +kernel
theorem dX5_out_7 : decode cX5_out 7 = .ok (.ifCond .ne 5, 3) := by decide +kernel
theorem dX5_out_10 : decode cX5_out 10 = .ok (.iconst (-1), 1) := by decide +kernel
theorem dX5_out_11 : decode cX5_out 11 = .ok (.ireturn, 1) := by decide +kernel
theorem dX5_out_12 : decode cX5_out 12 = .ok (.aload_n 0, 1) := by decide +kernel
theorem dX5_out_13 : decode cX5_out 13 = .ok (.invokevirtual 146, 3) := by decide +kernel
theorem dX5_out_16 : decode cX5_out 16 = .ok (.ifCond .ne 6, 3) := by decide +kernel
theorem dX5_out_19 : decode cX5_out 19 = .ok (.bipush (-4), 2) := by decide +kernel
theorem dX5_out_21 : decode cX5_out 21 = .ok (.ireturn, 1) := by decide +kernel
theorem dX5_out_22 : decode cX5_out 22 = .ok (.iconst 0, 1) := by decide +kernel
theorem dX5_out_23 : decode cX5_out 23 = .ok (.istore_n 2, 1) := by decide +kernel
theorem dX5_out_24 : decode cX5_out 24 = .ok (.iconst 0, 1) := by decide +kernel
theorem dX5_out_25 : decode cX5_out 25 = .ok (.istore_n 3, 1) := by decide +kernel
theorem dX5_out_26 : decode cX5_out 26 = .ok (.iload_n 3, 1) := by decide +kernel
theorem dX5_out_27 : decode cX5_out 27 = .ok (.sipush 1000, 3) := by decide +kernel
theorem dX5_out_30 : decode cX5_out 30 = .ok (.if_icmp .ge 60, 3) := by decide +kernel
theorem dX5_out_33 : decode cX5_out 33 = .ok (.iload_n 2, 1) := by decide +kernel
theorem dX5_out_34 : decode cX5_out 34 = .ok (.aload_n 0, 1) := by decide +kernel
theorem dX5_out_35 : decode cX5_out 35 = .ok (.iload_n 3, 1) := by decide +kernel
theorem dX5_out_36 : decode cX5_out 36 = .ok (.invokevirtual 156, 3) := by decide +kernel
theorem dX5_out_39 : decode cX5_out 39 = .ok (.ifCond .ne 11, 3) := by decide +kernel
theorem dX5_out_42 : decode cX5_out 42 = .ok (.aload_n 0, 1) := by decide +kernel
theorem dX5_out_43 : decode cX5_out 43 = .ok (.iload_n 3, 1) := by decide +kernel
theorem dX5_out_44 : decode cX5_out 44 = .ok (.invokevirtual 159, 3) := by decide +kernel
theorem dX5_out_47 : decode cX5_out 47 = .ok (.goto 9, 3) := by decide +kernel
theorem dX5_out_50 : decode cX5_out 50 = .ok (.aload_n 0, 1) := by decide +kernel
theorem dX5_out_51 : decode cX5_out 51 = .ok (.iload_n 3, 1) := by decide +kernel
theorem dX5_out_52 : decode cX5_out 52 = .ok (.invokevirtual 159, 3) := by decide +kernel
theorem dX5_out_55 : decode cX5_out 55 = .ok (.ineg, 1) := by decide +kernel
theorem dX5_out_56 : decode cX5_out 56 = .ok (.iadd, 1) := by decide +kernel
theorem dX5_out_57 : decode cX5_out 57 = .ok (.istore_n 2, 1) := by decide +kernel
theorem dX5_out_58 : decode cX5_out 58 = .ok (.iload_n 2, 1) := by decide +kernel
theorem dX5_out_59 : decode cX5_out 59 = .ok (.iload_n 1, 1) := by decide +kernel
theorem dX5_out_60 : decode cX5_out 60 = .ok (.if_icmp .gt 9, 3) := by decide +kernel
theorem dX5_out_63 : decode cX5_out 63 = .ok (.iload_n 2, 1) := by decide +kernel
theorem dX5_out_64 : decode cX5_out 64 = .ok (.ineg, 1) := by decide +kernel
theorem dX5_out_65 : decode cX5_out 65 = .ok (.iload_n 1, 1) := by decide +kernel
theorem dX5_out_66 : decode cX5_out 66 = .ok (.if_icmp .le 18, 3) := by decide +kernel
theorem dX5_out_69 : decode cX5_out 69 = .ok (.aload_n 0, 1) := by decide +kernel
theorem dX5_out_70 : decode cX5_out 70 = .ok (.iload_n 3, 1) := by decide +kernel
theorem dX5_out_71 : decode cX5_out 71 = .ok (.iload_n 2, 1) := by decide +kernel
theorem dX5_out_72 : decode cX5_out 72 = .ok (.ifCond .le 7, 3) := by decide +kernel
theorem dX5_out_75 : decode cX5_out 75 = .ok (.iconst 0, 1) := by decide +kernel
theorem dX5_out_76 : decode cX5_out 76 = .ok (.goto 4, 3) := by decide +kernel
theorem dX5_out_79 : decode cX5_out 79 = .ok (.iconst 1, 1) := by decide +kernel
theorem dX5_out_80 : decode cX5_out 80 = .ok (.invokevirtual 78, 3) := by decide +kernel
theorem dX5_out_83 : decode cX5_out 83 = .ok (.ireturn, 1) := by decide +kernel
theorem dX5_out_84 : decode cX5_out 84 = .ok (.iinc 3 1, 3) := by decide +kernel
theorem dX5_out_87 : decode cX5_out 87 = .ok (.goto (-61), 3) := by decide +kernel
theorem dX5_out_90 : decode cX5_out 90 = .ok (.bipush (-9), 2) := by decide +kernel
theorem dX5_out_92 : decode cX5_out 92 = .ok (.ireturn, 1) := by decide +kernel
set_option maxRecDepth 20000 in
theorem ggX5_round_X5_are : GoodIn wsX5_round wsX5_are := goodIn_r _ [6, 1, 7, 8, 9, 10, 11, 12, 13, 14, 15, 16, 17, 18, 19, 20, 21, 22, 23] (by decide +kernel) (by decide +kernel)
set_option maxRecDepth 20000 in
theorem gX5_round_X5_are : GoodIn wsX5_round (wsV RX5 146 RX5 yX5_are wsX5_are) := goodIn_app (goodIn_of _ (by decide +kernel)) ggX5_round_X5_are
theorem dX5_round_0 : decode cX5_round 0 = .ok (.aload_n 0, 1) := by decide +kernel
theorem dX5_round_1 : decode cX5_round 1 = .ok (.invokevirtual 146, 3) := by decide +kernel
theorem dX5_round_4 : decode cX5_round 4 = .ok (.ifCond .ne 6, 3) := by decide +kernel
theorem dX5_round_7 : decode cX5_round 7 = .ok (.bipush (-4), 2) := by decide +kernel
theorem dX5_round_9 : decode cX5_round 9 = .ok (.ireturn, 1) := by decide +kernel
theorem dX5_round_10 : decode cX5_round 10 = .ok (.aload_n 0, 1) := by decide +kernel
theorem dX5_round_11 : decode cX5_round 11 = .ok (.getfield 25, 3) := by decide +kernel
theorem dX5_round_14 : decode cX5_round 14 = .ok (.iconst 1, 1) := by decide +kernel
theorem dX5_round_15 : decode cX5_round 15 = .ok (.iaload, 1) := by decide +kernel
theorem dX5_round_16 : decode cX5_round 16 = .ok (.istore_n 1, 1) := by decide +kernel
theorem dX5_round_17 : decode cX5_round 17 = .ok (.iload_n 1, 1) := by decide +kernel
theorem dX5_round_18 : decode cX5_round 18 = .ok (.aload_n 0, 1) := by decide +kernel
theorem dX5_round_19 : decode cX5_round 19 = .ok (.getfield 25, 3) := by decide +kernel
theorem dX5_round_22 : decode cX5_round 22 = .ok (.iconst 2, 1) := by decide +kernel
theorem dX5_round_23 : decode cX5_round 23 = .ok (.iaload, 1) := by decide +kernel
theorem dX5_round_24 : decode cX5_round 24 = .ok (.irem, 1) := by decide +kernel
theorem dX5_round_25 : decode cX5_round 25 = .ok (.ifCond .eq 15, 3) := by decide +kernel
theorem dX5_round_28 : decode cX5_round 28 = .ok (.iload_n 1, 1) := by decide +kernel
theorem dX5_round_29 : decode cX5_round 29 = .ok (.aload_n 0, 1) := by decide +kernel
theorem dX5_round_30 : decode cX5_round 30 = .ok (.getfield 25, 3) := by decide +kernel
theorem dX5_round_33 : decode cX5_round 33 = .ok (.iconst 1, 1) := by decide +kernel
theorem dX5_round_34 : decode cX5_round 34 = .ok (.iaload, 1) := by decide +kernel
theorem dX5_round_35 : decode cX5_round 35 = .ok (.iadd, 1) := by decide +kernel
theorem dX5_round_36 : decode cX5_round 36 = .ok (.istore_n 1, 1) := by decide +kernel
theorem dX5_round_37 : decode cX5_round 37 = .ok (.goto (-20), 3) := by decide +kernel
theorem dX5_round_40 : decode cX5_round 40 = .ok (.iload_n 1, 1) := by decide +kernel
theorem dX5_round_41 : decode cX5_round 41 = .ok (.ireturn, 1) := by decide +kernel
set_option maxRecDepth 20000 in
theorem ggX5_apartBy_X5_has : GoodIn wsX5_apartBy wsX5_has := goodIn_r _ [4] (by decide +kernel) (by decide +kernel)
set_option maxRecDepth 20000 in
theorem gX5_apartBy_X5_has : GoodIn wsX5_apartBy (va_wsS RX5 166 yX5_has wsX5_has) := goodIn_app (goodIn_of _ (by decide +kernel)) ggX5_apartBy_X5_has
set_option maxRecDepth 20000 in
theorem ggX5_apartBy_X5_milkOn : GoodIn wsX5_apartBy wsX5_milkOn := goodIn_r _ [8, 9, 10, 11, 12, 13, 14, 15, 16, 17, 18, 19, 20, 21, 22, 23, 24, 25, 26] (by decide +kernel) (by decide +kernel)
set_option maxRecDepth 20000 in
theorem gX5_apartBy_X5_milkOn : GoodIn wsX5_apartBy (wsV RX5 159 RX5 yX5_milkOn wsX5_milkOn) := goodIn_app (goodIn_of _ (by decide +kernel)) ggX5_apartBy_X5_milkOn
theorem dX5_apartBy_0 : decode cX5_apartBy 0 = .ok (.iconst 0, 1) := by decide +kernel
theorem dX5_apartBy_1 : decode cX5_apartBy 1 = .ok (.istore_n 3, 1) := by decide +kernel
theorem dX5_apartBy_2 : decode cX5_apartBy 2 = .ok (.iconst 0, 1) := by decide +kernel
theorem dX5_apartBy_3 : decode cX5_apartBy 3 = .ok (.istore 4, 2) := by decide +kernel
theorem dX5_apartBy_5 : decode cX5_apartBy 5 = .ok (.iload 4, 2) := by decide +kernel
theorem dX5_apartBy_7 : decode cX5_apartBy 7 = .ok (.iload_n 2, 1) := by decide +kernel
theorem dX5_apartBy_8 : decode cX5_apartBy 8 = .ok (.if_icmp .ge 41, 3) := by decide +kernel
theorem dX5_apartBy_11 : decode cX5_apartBy 11 = .ok (.iload_n 3, 1) := by decide +kernel
theorem dX5_apartBy_12 : decode cX5_apartBy 12 = .ok (.iload_n 1, 1) := by decide +kernel
theorem dX5_apartBy_13 : decode cX5_apartBy 13 = .ok (.iload_n 2, 1) := by decide +kernel
theorem dX5_apartBy_14 : decode cX5_apartBy 14 = .ok (.iconst 1, 1) := by decide +kernel
theorem dX5_apartBy_15 : decode cX5_apartBy 15 = .ok (.isub, 1) := by decide +kernel
theorem dX5_apartBy_16 : decode cX5_apartBy 16 = .ok (.iload 4, 2) := by decide +kernel
theorem dX5_apartBy_18 : decode cX5_apartBy 18 = .ok (.isub, 1) := by decide +kernel
theorem dX5_apartBy_19 : decode cX5_apartBy 19 = .ok (.invokestatic 166, 3) := by decide +kernel
theorem dX5_apartBy_22 : decode cX5_apartBy 22 = .ok (.ifCond .eq 12, 3) := by decide +kernel
theorem dX5_apartBy_25 : decode cX5_apartBy 25 = .ok (.aload_n 0, 1) := by decide +kernel
theorem dX5_apartBy_26 : decode cX5_apartBy 26 = .ok (.iload 4, 2) := by decide +kernel
theorem dX5_apartBy_28 : decode cX5_apartBy 28 = .ok (.invokevirtual 159, 3) := by decide +kernel
theorem dX5_apartBy_31 : decode cX5_apartBy 31 = .ok (.goto 10, 3) := by decide +kernel
theorem dX5_apartBy_34 : decode cX5_apartBy 34 = .ok (.aload_n 0, 1) := by decide +kernel
theorem dX5_apartBy_35 : decode cX5_apartBy 35 = .ok (.iload 4, 2) := by decide +kernel
theorem dX5_apartBy_37 : decode cX5_apartBy 37 = .ok (.invokevirtual 159, 3) := by decide +kernel
theorem dX5_apartBy_40 : decode cX5_apartBy 40 = .ok (.ineg, 1) := by decide +kernel
theorem dX5_apartBy_41 : decode cX5_apartBy 41 = .ok (.iadd, 1) := by decide +kernel
theorem dX5_apartBy_42 : decode cX5_apartBy 42 = .ok (.istore_n 3, 1) := by decide +kernel
theorem dX5_apartBy_43 : decode cX5_apartBy 43 = .ok (.iinc 4 1, 3) := by decide +kernel
theorem dX5_apartBy_46 : decode cX5_apartBy 46 = .ok (.goto (-41), 3) := by decide +kernel
theorem dX5_apartBy_49 : decode cX5_apartBy 49 = .ok (.iload_n 3, 1) := by decide +kernel
theorem dX5_apartBy_50 : decode cX5_apartBy 50 = .ok (.ifCond .ge 8, 3) := by decide +kernel
theorem dX5_apartBy_53 : decode cX5_apartBy 53 = .ok (.iload_n 3, 1) := by decide +kernel
theorem dX5_apartBy_54 : decode cX5_apartBy 54 = .ok (.ineg, 1) := by decide +kernel
theorem dX5_apartBy_55 : decode cX5_apartBy 55 = .ok (.goto 4, 3) := by decide +kernel
theorem dX5_apartBy_58 : decode cX5_apartBy 58 = .ok (.iload_n 3, 1) := by decide +kernel
theorem dX5_apartBy_59 : decode cX5_apartBy 59 = .ok (.ireturn, 1) := by decide +kernel
set_option maxRecDepth 20000 in
theorem ggX5_walksBy_X5_has : GoodIn wsX5_walksBy wsX5_has := goodIn_r _ [4] (by decide +kernel) (by decide +kernel)
set_option maxRecDepth 20000 in
theorem gX5_walksBy_X5_has : GoodIn wsX5_walksBy (va_wsS RX5 166 yX5_has wsX5_has) := goodIn_app (goodIn_of _ (by decide +kernel)) ggX5_walksBy_X5_has
theorem dX5_walksBy_0 : decode cX5_walksBy 0 = .ok (.iconst 0, 1) := by decide +kernel
theorem dX5_walksBy_1 : decode cX5_walksBy 1 = .ok (.istore_n 2, 1) := by decide +kernel
theorem dX5_walksBy_2 : decode cX5_walksBy 2 = .ok (.iconst 1, 1) := by decide +kernel
theorem dX5_walksBy_3 : decode cX5_walksBy 3 = .ok (.istore_n 3, 1) := by decide +kernel
theorem dX5_walksBy_4 : decode cX5_walksBy 4 = .ok (.iload_n 3, 1) := by decide +kernel
theorem dX5_walksBy_5 : decode cX5_walksBy 5 = .ok (.iload_n 1, 1) := by decide +kernel
theorem dX5_walksBy_6 : decode cX5_walksBy 6 = .ok (.if_icmp .ge 36, 3) := by decide +kernel
theorem dX5_walksBy_9 : decode cX5_walksBy 9 = .ok (.iload_n 2, 1) := by decide +kernel
theorem dX5_walksBy_10 : decode cX5_walksBy 10 = .ok (.iload_n 0, 1) := by decide +kernel
theorem dX5_walksBy_11 : decode cX5_walksBy 11 = .ok (.iload_n 1, 1) := by decide +kernel
theorem dX5_walksBy_12 : decode cX5_walksBy 12 = .ok (.iconst 1, 1) := by decide +kernel
theorem dX5_walksBy_13 : decode cX5_walksBy 13 = .ok (.isub, 1) := by decide +kernel
theorem dX5_walksBy_14 : decode cX5_walksBy 14 = .ok (.iload_n 3, 1) := by decide +kernel
theorem dX5_walksBy_15 : decode cX5_walksBy 15 = .ok (.isub, 1) := by decide +kernel
theorem dX5_walksBy_16 : decode cX5_walksBy 16 = .ok (.invokestatic 166, 3) := by decide +kernel
theorem dX5_walksBy_19 : decode cX5_walksBy 19 = .ok (.iload_n 0, 1) := by decide +kernel
theorem dX5_walksBy_20 : decode cX5_walksBy 20 = .ok (.iload_n 1, 1) := by decide +kernel
theorem dX5_walksBy_21 : decode cX5_walksBy 21 = .ok (.iload_n 3, 1) := by decide +kernel
theorem dX5_walksBy_22 : decode cX5_walksBy 22 = .ok (.isub, 1) := by decide +kernel
theorem dX5_walksBy_23 : decode cX5_walksBy 23 = .ok (.invokestatic 166, 3) := by decide +kernel
theorem dX5_walksBy_26 : decode cX5_walksBy 26 = .ok (.if_icmp .ne 7, 3) := by decide +kernel
theorem dX5_walksBy_29 : decode cX5_walksBy 29 = .ok (.iconst 0, 1) := by decide +kernel
theorem dX5_walksBy_30 : decode cX5_walksBy 30 = .ok (.goto 4, 3) := by decide +kernel
theorem dX5_walksBy_33 : decode cX5_walksBy 33 = .ok (.iconst 1, 1) := by decide +kernel
theorem dX5_walksBy_34 : decode cX5_walksBy 34 = .ok (.iadd, 1) := by decide +kernel
theorem dX5_walksBy_35 : decode cX5_walksBy 35 = .ok (.istore_n 2, 1) := by decide +kernel
theorem dX5_walksBy_36 : decode cX5_walksBy 36 = .ok (.iinc 3 1, 3) := by decide +kernel
theorem dX5_walksBy_39 : decode cX5_walksBy 39 = .ok (.goto (-35), 3) := by decide +kernel
theorem dX5_walksBy_42 : decode cX5_walksBy 42 = .ok (.iload_n 2, 1) := by decide +kernel
theorem dX5_walksBy_43 : decode cX5_walksBy 43 = .ok (.ireturn, 1) := by decide +kernel
set_option maxRecDepth 20000 in
theorem ggX5_best_X5_in : GoodIn wsX5_best wsX5_in := goodIn_r _ [5] (by decide +kernel) (by decide +kernel)
set_option maxRecDepth 20000 in
theorem gX5_best_X5_in : GoodIn wsX5_best (va_wsS RX5 58 yX5_in wsX5_in) := goodIn_app (goodIn_of _ (by decide +kernel)) ggX5_best_X5_in
set_option maxRecDepth 20000 in
theorem ggX5_best_X5_isRow : GoodIn wsX5_best wsX5_isRow := goodIn_r _ [8, 2, 3, 4, 5] (by decide +kernel) (by decide +kernel)
set_option maxRecDepth 20000 in
theorem gX5_best_X5_isRow : GoodIn wsX5_best (va_wsS RX5 62 yX5_isRow wsX5_isRow) := goodIn_app (goodIn_of _ (by decide +kernel)) ggX5_best_X5_isRow
set_option maxRecDepth 20000 in
theorem ggX5_best_X5_are : GoodIn wsX5_best wsX5_are := goodIn_r _ [12, 13, 38, 39, 40, 41, 42, 43, 44, 45, 46, 47, 48, 49, 50, 51, 52, 53, 54] (by decide +kernel) (by decide +kernel)
set_option maxRecDepth 20000 in
theorem gX5_best_X5_are : GoodIn wsX5_best (wsV RX5 146 RX5 yX5_are wsX5_are) := goodIn_app (goodIn_of _ (by decide +kernel)) ggX5_best_X5_are
set_option maxRecDepth 20000 in
theorem ggX5_best_X5_apartBy : GoodIn wsX5_best wsX5_apartBy := goodIn_r _ [17, 18, 19, 4, 20, 21, 22, 23, 24, 13, 38, 39, 40, 41, 42, 43, 44, 45, 46, 47, 48, 49, 50, 51, 52, 53, 54] (by decide +kernel) (by decide +kernel)
set_option maxRecDepth 20000 in
theorem gX5_best_X5_apartBy : GoodIn wsX5_best (wsV RX5 169 RX5 yX5_apartBy wsX5_apartBy) := goodIn_app (goodIn_of _ (by decide +kernel)) ggX5_best_X5_apartBy
set_option maxRecDepth 20000 in
theorem ggX5_best_X5_walksBy : GoodIn wsX5_best wsX5_walksBy := goodIn_r _ [27, 18, 19, 4, 20] (by decide +kernel) (by decide +kernel)
set_option maxRecDepth 20000 in
theorem gX5_best_X5_walksBy : GoodIn wsX5_best (va_wsS RX5 172 yX5_walksBy wsX5_walksBy) := goodIn_app (goodIn_of _ (by decide +kernel)) ggX5_best_X5_walksBy
set_option maxRecDepth 20000 in
theorem ggX5_best_X5_lays : GoodIn wsX5_best wsX5_lays := goodIn_r _ [31, 32, 1, 38, 39, 40, 41, 42, 43, 44, 45, 46, 47, 48, 49, 50, 51, 52, 53, 54] (by decide +kernel) (by decide +kernel)
set_option maxRecDepth 20000 in
theorem gX5_best_X5_lays : GoodIn wsX5_best (wsV RX5 70 RX5 yX5_lays wsX5_lays) := goodIn_app (goodIn_of _ (by decide +kernel)) ggX5_best_X5_lays
set_option maxRecDepth 20000 in
theorem ggX5_best_X5_has : GoodIn wsX5_best wsX5_has := goodIn_r _ [20] (by decide +kernel) (by decide +kernel)
set_option maxRecDepth 20000 in
theorem gX5_best_X5_has : GoodIn wsX5_best (va_wsS RX5 166 yX5_has wsX5_has) := goodIn_app (goodIn_of _ (by decide +kernel)) ggX5_best_X5_has
set_option maxRecDepth 20000 in
theorem ggX5_best_X5_tells : GoodIn wsX5_best wsX5_tells := goodIn_r _ [36, 37, 38, 39, 40, 41, 42, 43, 44, 45, 46, 47, 48, 49, 50, 51, 52, 53, 54] (by decide +kernel) (by decide +kernel)
set_option maxRecDepth 20000 in
theorem gX5_best_X5_tells : GoodIn wsX5_best (wsV RX5 78 RX5 yX5_tells wsX5_tells) := goodIn_app (goodIn_of _ (by decide +kernel)) ggX5_best_X5_tells
theorem dX5_best_0 : decode cX5_best 0 = .ok (.iload_n 1, 1) := by decide +kernel
theorem dX5_best_1 : decode cX5_best 1 = .ok (.iconst 1, 1) := by decide +kernel
theorem dX5_best_2 : decode cX5_best 2 = .ok (.bipush 8, 2) := by decide +kernel
theorem dX5_best_4 : decode cX5_best 4 = .ok (.invokestatic 58, 3) := by decide +kernel
theorem dX5_best_7 : decode cX5_best 7 = .ok (.ifCond .eq 10, 3) := by decide +kernel
theorem dX5_best_10 : decode cX5_best 10 = .ok (.iload_n 2, 1) := by decide +kernel
theorem dX5_best_11 : decode cX5_best 11 = .ok (.invokestatic 62, 3) := by decide +kernel
theorem dX5_best_14 : decode cX5_best 14 = .ok (.ifCond .ne 5, 3) := by decide +kernel
theorem dX5_best_17 : decode cX5_best 17 = .ok (.iconst (-1), 1) := by decide +kernel
theorem dX5_best_18 : decode cX5_best 18 = .ok (.ireturn, 1) := by decide +kernel
theorem dX5_best_19 : decode cX5_best 19 = .ok (.aload_n 0, 1) := by decide +kernel
theorem dX5_best_20 : decode cX5_best 20 = .ok (.invokevirtual 146, 3) := by decide +kernel
theorem dX5_best_23 : decode cX5_best 23 = .ok (.ifCond .ne 6, 3) := by decide +kernel
theorem dX5_best_26 : decode cX5_best 26 = .ok (.bipush (-4), 2) := by decide +kernel
theorem dX5_best_28 : decode cX5_best 28 = .ok (.ireturn, 1) := by decide +kernel
theorem dX5_best_29 : decode cX5_best 29 = .ok (.iconst 0, 1) := by decide +kernel
theorem dX5_best_30 : decode cX5_best 30 = .ok (.istore_n 3, 1) := by decide +kernel
theorem dX5_best_31 : decode cX5_best 31 = .ok (.iconst 1, 1) := by decide +kernel
theorem dX5_best_32 : decode cX5_best 32 = .ok (.istore 4, 2) := by decide +kernel
theorem dX5_best_34 : decode cX5_best 34 = .ok (.iload 4, 2) := by decide +kernel
theorem dX5_best_36 : decode cX5_best 36 = .ok (.iconst 1, 1) := by decide +kernel
theorem dX5_best_37 : decode cX5_best 37 = .ok (.iload_n 1, 1) := by decide +kernel
theorem dX5_best_38 : decode cX5_best 38 = .ok (.ishl, 1) := by decide +kernel
theorem dX5_best_39 : decode cX5_best 39 = .ok (.if_icmp .ge 56, 3) := by decide +kernel
theorem dX5_best_42 : decode cX5_best 42 = .ok (.aload_n 0, 1) := by decide +kernel
theorem dX5_best_43 : decode cX5_best 43 = .ok (.iload_n 3, 1) := by decide +kernel
theorem dX5_best_44 : decode cX5_best 44 = .ok (.iload_n 1, 1) := by decide +kernel
theorem dX5_best_45 : decode cX5_best 45 = .ok (.invokevirtual 169, 3) := by decide +kernel
theorem dX5_best_48 : decode cX5_best 48 = .ok (.aload_n 0, 1) := by decide +kernel
theorem dX5_best_49 : decode cX5_best 49 = .ok (.iload 4, 2) := by decide +kernel
theorem dX5_best_51 : decode cX5_best 51 = .ok (.iload_n 1, 1) := by decide +kernel
theorem dX5_best_52 : decode cX5_best 52 = .ok (.invokevirtual 169, 3) := by decide +kernel
theorem dX5_best_55 : decode cX5_best 55 = .ok (.isub, 1) := by decide +kernel
theorem dX5_best_56 : decode cX5_best 56 = .ok (.istore 5, 2) := by decide +kernel
theorem dX5_best_58 : decode cX5_best 58 = .ok (.iload 5, 2) := by decide +kernel
theorem dX5_best_60 : decode cX5_best 60 = .ok (.ifCond .gt 22, 3) := by decide +kernel
theorem dX5_best_63 : decode cX5_best 63 = .ok (.iload 5, 2) := by decide +kernel
theorem dX5_best_65 : decode cX5_best 65 = .ok (.ifCond .ne 22, 3) := by decide +kernel
theorem dX5_best_68 : decode cX5_best 68 = .ok (.iload 4, 2) := by decide +kernel
theorem dX5_best_70 : decode cX5_best 70 = .ok (.iload_n 1, 1) := by decide +kernel
theorem dX5_best_71 : decode cX5_best 71 = .ok (.invokestatic 172, 3) := by decide +kernel
theorem dX5_best_74 : decode cX5_best 74 = .ok (.iload_n 3, 1) := by decide +kernel
theorem dX5_best_75 : decode cX5_best 75 = .ok (.iload_n 1, 1) := by decide +kernel
theorem dX5_best_76 : decode cX5_best 76 = .ok (.invokestatic 172, 3) := by decide +kernel
theorem dX5_best_79 : decode cX5_best 79 = .ok (.if_icmp .ge 8, 3) := by decide +kernel
theorem dX5_best_82 : decode cX5_best 82 = .ok (.iload 4, 2) := by decide +kernel
theorem dX5_best_84 : decode cX5_best 84 = .ok (.goto 4, 3) := by decide +kernel
theorem dX5_best_87 : decode cX5_best 87 = .ok (.iload_n 3, 1) := by decide +kernel
theorem dX5_best_88 : decode cX5_best 88 = .ok (.istore_n 3, 1) := by decide +kernel
theorem dX5_best_89 : decode cX5_best 89 = .ok (.iinc 4 1, 3) := by decide +kernel
theorem dX5_best_92 : decode cX5_best 92 = .ok (.goto (-58), 3) := by decide +kernel
theorem dX5_best_95 : decode cX5_best 95 = .ok (.aload_n 0, 1) := by decide +kernel
theorem dX5_best_96 : decode cX5_best 96 = .ok (.iload_n 2, 1) := by decide +kernel
theorem dX5_best_97 : decode cX5_best 97 = .ok (.iload_n 1, 1) := by decide +kernel
theorem dX5_best_98 : decode cX5_best 98 = .ok (.invokevirtual 70, 3) := by decide +kernel
theorem dX5_best_101 : decode cX5_best 101 = .ok (.iconst 0, 1) := by decide +kernel
theorem dX5_best_102 : decode cX5_best 102 = .ok (.istore 4, 2) := by decide +kernel
theorem dX5_best_104 : decode cX5_best 104 = .ok (.iload 4, 2) := by decide +kernel
theorem dX5_best_106 : decode cX5_best 106 = .ok (.iload_n 1, 1) := by decide +kernel
theorem dX5_best_107 : decode cX5_best 107 = .ok (.if_icmp .ge 39, 3) := by decide +kernel
theorem dX5_best_110 : decode cX5_best 110 = .ok (.aload_n 0, 1) := by decide +kernel
theorem dX5_best_111 : decode cX5_best 111 = .ok (.getfield 13, 3) := by decide +kernel
theorem dX5_best_114 : decode cX5_best 114 = .ok (.bipush 40, 2) := by decide +kernel
theorem dX5_best_116 : decode cX5_best 116 = .ok (.iload_n 2, 1) := by decide +kernel
theorem dX5_best_117 : decode cX5_best 117 = .ok (.imul, 1) := by decide +kernel
theorem dX5_best_118 : decode cX5_best 118 = .ok (.iload 4, 2) := by decide +kernel
theorem dX5_best_120 : decode cX5_best 120 = .ok (.iadd, 1) := by decide +kernel
theorem dX5_best_121 : decode cX5_best 121 = .ok (.iload_n 3, 1) := by decide +kernel
theorem dX5_best_122 : decode cX5_best 122 = .ok (.iload_n 1, 1) := by decide +kernel
theorem dX5_best_123 : decode cX5_best 123 = .ok (.iconst 1, 1) := by decide +kernel
theorem dX5_best_124 : decode cX5_best 124 = .ok (.isub, 1) := by decide +kernel
theorem dX5_best_125 : decode cX5_best 125 = .ok (.iload 4, 2) := by decide +kernel
theorem dX5_best_127 : decode cX5_best 127 = .ok (.isub, 1) := by decide +kernel
theorem dX5_best_128 : decode cX5_best 128 = .ok (.invokestatic 166, 3) := by decide +kernel
theorem dX5_best_131 : decode cX5_best 131 = .ok (.ifCond .eq 7, 3) := by decide +kernel
theorem dX5_best_134 : decode cX5_best 134 = .ok (.iconst 1, 1) := by decide +kernel
theorem dX5_best_135 : decode cX5_best 135 = .ok (.goto 4, 3) := by decide +kernel
theorem dX5_best_138 : decode cX5_best 138 = .ok (.iconst 0, 1) := by decide +kernel
theorem dX5_best_139 : decode cX5_best 139 = .ok (.iastore, 1) := by decide +kernel
theorem dX5_best_140 : decode cX5_best 140 = .ok (.iinc 4 1, 3) := by decide +kernel
theorem dX5_best_143 : decode cX5_best 143 = .ok (.goto (-39), 3) := by decide +kernel
theorem dX5_best_146 : decode cX5_best 146 = .ok (.aload_n 0, 1) := by decide +kernel
theorem dX5_best_147 : decode cX5_best 147 = .ok (.aload_n 0, 1) := by decide +kernel
theorem dX5_best_148 : decode cX5_best 148 = .ok (.iload_n 3, 1) := by decide +kernel
theorem dX5_best_149 : decode cX5_best 149 = .ok (.iload_n 1, 1) := by decide +kernel
theorem dX5_best_150 : decode cX5_best 150 = .ok (.invokevirtual 169, 3) := by decide +kernel
theorem dX5_best_153 : decode cX5_best 153 = .ok (.iload_n 3, 1) := by decide +kernel
theorem dX5_best_154 : decode cX5_best 154 = .ok (.iload_n 1, 1) := by decide +kernel
theorem dX5_best_155 : decode cX5_best 155 = .ok (.invokestatic 172, 3) := by decide +kernel
theorem dX5_best_158 : decode cX5_best 158 = .ok (.invokevirtual 78, 3) := by decide +kernel
theorem dX5_best_161 : decode cX5_best 161 = .ok (.ireturn, 1) := by decide +kernel
set_option maxRecDepth 20000 in
theorem ggX5_even_X5_are : GoodIn wsX5_even wsX5_are := goodIn_r _ [6, 1, 26, 27, 28, 29, 30, 31, 32, 33, 34, 35, 36, 37, 38, 39, 40, 41, 42] (by decide +kernel) (by decide +kernel)
set_option maxRecDepth 20000 in
theorem gX5_even_X5_are : GoodIn wsX5_even (wsV RX5 146 RX5 yX5_are wsX5_are) := goodIn_app (goodIn_of _ (by decide +kernel)) ggX5_even_X5_are
set_option maxRecDepth 20000 in
theorem ggX5_even_X5_farmOn : GoodIn wsX5_even wsX5_farmOn := goodIn_r _ [10, 1, 26, 27, 28, 29, 30, 31, 32, 33, 34, 35, 36, 37, 38, 39, 40, 41, 42] (by decide +kernel) (by decide +kernel)
set_option maxRecDepth 20000 in
theorem gX5_even_X5_farmOn : GoodIn wsX5_even (wsV RX5 156 RX5 yX5_farmOn wsX5_farmOn) := goodIn_app (goodIn_of _ (by decide +kernel)) ggX5_even_X5_farmOn
set_option maxRecDepth 20000 in
theorem ggX5_even_X5_has : GoodIn wsX5_even wsX5_has := goodIn_r _ [13] (by decide +kernel) (by decide +kernel)
set_option maxRecDepth 20000 in
theorem gX5_even_X5_has : GoodIn wsX5_even (va_wsS RX5 166 yX5_has wsX5_has) := goodIn_app (goodIn_of _ (by decide +kernel)) ggX5_even_X5_has
set_option maxRecDepth 20000 in
theorem ggX5_even_X5_milkOn : GoodIn wsX5_even wsX5_milkOn := goodIn_r _ [17, 1, 26, 27, 28, 29, 30, 31, 32, 33, 34, 35, 36, 37, 38, 39, 40, 41, 42] (by decide +kernel) (by decide +kernel)
set_option maxRecDepth 20000 in
theorem gX5_even_X5_milkOn : GoodIn wsX5_even (wsV RX5 159 RX5 yX5_milkOn wsX5_milkOn) := goodIn_app (goodIn_of _ (by decide +kernel)) ggX5_even_X5_milkOn
set_option maxRecDepth 20000 in
theorem ggX5_even_X5_ones : GoodIn wsX5_even wsX5_ones := goodIn_r _ [20] (by decide +kernel) (by decide +kernel)
set_option maxRecDepth 20000 in
theorem gX5_even_X5_ones : GoodIn wsX5_even (va_wsS RX5 175 yX5_ones wsX5_ones) := goodIn_app (goodIn_of _ (by decide +kernel)) ggX5_even_X5_ones
set_option maxRecDepth 20000 in
theorem ggX5_even_X5_tells : GoodIn wsX5_even wsX5_tells := goodIn_r _ [24, 25, 26, 27, 28, 29, 30, 31, 32, 33, 34, 35, 36, 37, 38, 39, 40, 41, 42] (by decide +kernel) (by decide +kernel)
set_option maxRecDepth 20000 in
theorem gX5_even_X5_tells : GoodIn wsX5_even (wsV RX5 78 RX5 yX5_tells wsX5_tells) := goodIn_app (goodIn_of _ (by decide +kernel)) ggX5_even_X5_tells
theorem dX5_even_0 : decode cX5_even 0 = .ok (.aload_n 0, 1) := by decide +kernel
theorem dX5_even_1 : decode cX5_even 1 = .ok (.invokevirtual 146, 3) := by decide +kernel
theorem dX5_even_4 : decode cX5_even 4 = .ok (.ifCond .ne 6, 3) := by decide +kernel
theorem dX5_even_7 : decode cX5_even 7 = .ok (.bipush (-4), 2) := by decide +kernel
theorem dX5_even_9 : decode cX5_even 9 = .ok (.ireturn, 1) := by decide +kernel
theorem dX5_even_10 : decode cX5_even 10 = .ok (.bipush (-9), 2) := by decide +kernel
theorem dX5_even_12 : decode cX5_even 12 = .ok (.istore_n 1, 1) := by decide +kernel
theorem dX5_even_13 : decode cX5_even 13 = .ok (.iconst 0, 1) := by decide +kernel
theorem dX5_even_14 : decode cX5_even 14 = .ok (.istore_n 2, 1) := by decide +kernel
theorem dX5_even_15 : decode cX5_even 15 = .ok (.iload_n 2, 1) := by decide +kernel
theorem dX5_even_16 : decode cX5_even 16 = .ok (.iconst 1, 1) := by decide +kernel
theorem dX5_even_17 : decode cX5_even 17 = .ok (.aload_n 0, 1) := by decide +kernel
theorem dX5_even_18 : decode cX5_even 18 = .ok (.getfield 25, 3) := by decide +kernel
theorem dX5_even_21 : decode cX5_even 21 = .ok (.iconst 1, 1) := by decide +kernel
theorem dX5_even_22 : decode cX5_even 22 = .ok (.iaload, 1) := by decide +kernel
theorem dX5_even_23 : decode cX5_even 23 = .ok (.ishl, 1) := by decide +kernel
theorem dX5_even_24 : decode cX5_even 24 = .ok (.if_icmp .ge 116, 3) := by decide +kernel
theorem dX5_even_27 : decode cX5_even 27 = .ok (.iconst 0, 1) := by decide +kernel
theorem dX5_even_28 : decode cX5_even 28 = .ok (.istore_n 3, 1) := by decide +kernel
theorem dX5_even_29 : decode cX5_even 29 = .ok (.iconst 0, 1) := by decide +kernel
theorem dX5_even_30 : decode cX5_even 30 = .ok (.istore 4, 2) := by decide +kernel
theorem dX5_even_32 : decode cX5_even 32 = .ok (.iload 4, 2) := by decide +kernel
theorem dX5_even_34 : decode cX5_even 34 = .ok (.bipush 24, 2) := by decide +kernel
theorem dX5_even_36 : decode cX5_even 36 = .ok (.if_icmp .ge 71, 3) := by decide +kernel
theorem dX5_even_39 : decode cX5_even 39 = .ok (.aload_n 0, 1) := by decide +kernel
theorem dX5_even_40 : decode cX5_even 40 = .ok (.iload 4, 2) := by decide +kernel
theorem dX5_even_42 : decode cX5_even 42 = .ok (.invokevirtual 156, 3) := by decide +kernel
theorem dX5_even_45 : decode cX5_even 45 = .ok (.iconst 1, 1) := by decide +kernel
theorem dX5_even_46 : decode cX5_even 46 = .ok (.if_icmp .ne 7, 3) := by decide +kernel
theorem dX5_even_49 : decode cX5_even 49 = .ok (.iconst 1, 1) := by decide +kernel
theorem dX5_even_50 : decode cX5_even 50 = .ok (.goto 4, 3) := by decide +kernel
theorem dX5_even_53 : decode cX5_even 53 = .ok (.iconst 0, 1) := by decide +kernel
theorem dX5_even_54 : decode cX5_even 54 = .ok (.iload_n 2, 1) := by decide +kernel
theorem dX5_even_55 : decode cX5_even 55 = .ok (.iload 4, 2) := by decide +kernel
theorem dX5_even_57 : decode cX5_even 57 = .ok (.aload_n 0, 1) := by decide +kernel
theorem dX5_even_58 : decode cX5_even 58 = .ok (.getfield 25, 3) := by decide +kernel
theorem dX5_even_61 : decode cX5_even 61 = .ok (.iconst 1, 1) := by decide +kernel
theorem dX5_even_62 : decode cX5_even 62 = .ok (.iaload, 1) := by decide +kernel
theorem dX5_even_63 : decode cX5_even 63 = .ok (.irem, 1) := by decide +kernel
theorem dX5_even_64 : decode cX5_even 64 = .ok (.invokestatic 166, 3) := by decide +kernel
theorem dX5_even_67 : decode cX5_even 67 = .ok (.if_icmp .eq 7, 3) := by decide +kernel
theorem dX5_even_70 : decode cX5_even 70 = .ok (.iconst 1, 1) := by decide +kernel
theorem dX5_even_71 : decode cX5_even 71 = .ok (.goto 4, 3) := by decide +kernel
theorem dX5_even_74 : decode cX5_even 74 = .ok (.iconst 0, 1) := by decide +kernel
theorem dX5_even_75 : decode cX5_even 75 = .ok (.istore 5, 2) := by decide +kernel
theorem dX5_even_77 : decode cX5_even 77 = .ok (.iload_n 3, 1) := by decide +kernel
theorem dX5_even_78 : decode cX5_even 78 = .ok (.iload 5, 2) := by decide +kernel
theorem dX5_even_80 : decode cX5_even 80 = .ok (.ifCond .eq 12, 3) := by decide +kernel
theorem dX5_even_83 : decode cX5_even 83 = .ok (.aload_n 0, 1) := by decide +kernel
theorem dX5_even_84 : decode cX5_even 84 = .ok (.iload 4, 2) := by decide +kernel
theorem dX5_even_86 : decode cX5_even 86 = .ok (.invokevirtual 159, 3) := by decide +kernel
theorem dX5_even_89 : decode cX5_even 89 = .ok (.goto 10, 3) := by decide +kernel
theorem dX5_even_92 : decode cX5_even 92 = .ok (.aload_n 0, 1) := by decide +kernel
theorem dX5_even_93 : decode cX5_even 93 = .ok (.iload 4, 2) := by decide +kernel
theorem dX5_even_95 : decode cX5_even 95 = .ok (.invokevirtual 159, 3) := by decide +kernel
theorem dX5_even_98 : decode cX5_even 98 = .ok (.ineg, 1) := by decide +kernel
theorem dX5_even_99 : decode cX5_even 99 = .ok (.iadd, 1) := by decide +kernel
theorem dX5_even_100 : decode cX5_even 100 = .ok (.istore_n 3, 1) := by decide +kernel
theorem dX5_even_101 : decode cX5_even 101 = .ok (.iinc 4 1, 3) := by decide +kernel
theorem dX5_even_104 : decode cX5_even 104 = .ok (.goto (-72), 3) := by decide +kernel
theorem dX5_even_107 : decode cX5_even 107 = .ok (.iload_n 3, 1) := by decide +kernel
theorem dX5_even_108 : decode cX5_even 108 = .ok (.ifCond .ne 24, 3) := by decide +kernel
theorem dX5_even_111 : decode cX5_even 111 = .ok (.iload_n 1, 1) := by decide +kernel
theorem dX5_even_112 : decode cX5_even 112 = .ok (.bipush (-9), 2) := by decide +kernel
theorem dX5_even_114 : decode cX5_even 114 = .ok (.if_icmp .eq 14, 3) := by decide +kernel
theorem dX5_even_117 : decode cX5_even 117 = .ok (.iload_n 2, 1) := by decide +kernel
theorem dX5_even_118 : decode cX5_even 118 = .ok (.invokestatic 175, 3) := by decide +kernel
theorem dX5_even_121 : decode cX5_even 121 = .ok (.iload_n 1, 1) := by decide +kernel
theorem dX5_even_122 : decode cX5_even 122 = .ok (.invokestatic 175, 3) := by decide +kernel
theorem dX5_even_125 : decode cX5_even 125 = .ok (.if_icmp .ge 7, 3) := by decide +kernel
theorem dX5_even_128 : decode cX5_even 128 = .ok (.iload_n 2, 1) := by decide +kernel
theorem dX5_even_129 : decode cX5_even 129 = .ok (.goto 4, 3) := by decide +kernel
theorem dX5_even_132 : decode cX5_even 132 = .ok (.iload_n 1, 1) := by decide +kernel
theorem dX5_even_133 : decode cX5_even 133 = .ok (.istore_n 1, 1) := by decide +kernel
theorem dX5_even_134 : decode cX5_even 134 = .ok (.iinc 2 1, 3) := by decide +kernel
theorem dX5_even_137 : decode cX5_even 137 = .ok (.goto (-122), 3) := by decide +kernel
theorem dX5_even_140 : decode cX5_even 140 = .ok (.iload_n 1, 1) := by decide +kernel
theorem dX5_even_141 : decode cX5_even 141 = .ok (.bipush (-9), 2) := by decide +kernel
theorem dX5_even_143 : decode cX5_even 143 = .ok (.if_icmp .ne 8, 3) := by decide +kernel
theorem dX5_even_146 : decode cX5_even 146 = .ok (.bipush (-9), 2) := by decide +kernel
theorem dX5_even_148 : decode cX5_even 148 = .ok (.goto 12, 3) := by decide +kernel
theorem dX5_even_151 : decode cX5_even 151 = .ok (.aload_n 0, 1) := by decide +kernel
theorem dX5_even_152 : decode cX5_even 152 = .ok (.iload_n 1, 1) := by decide +kernel
theorem dX5_even_153 : decode cX5_even 153 = .ok (.invokestatic 175, 3) := by decide +kernel
theorem dX5_even_156 : decode cX5_even 156 = .ok (.iload_n 1, 1) := by decide +kernel
theorem dX5_even_157 : decode cX5_even 157 = .ok (.invokevirtual 78, 3) := by decide +kernel
theorem dX5_even_160 : decode cX5_even 160 = .ok (.ireturn, 1) := by decide +kernel
set_option maxRecDepth 20000 in
theorem ggX5_ownedByOne_X5_ownerOf : GoodIn wsX5_ownedByOne wsX5_ownerOf := goodIn_r _ [6, 1, 7, 8, 9, 10, 11, 12, 13, 14, 15, 16, 17, 18, 19, 20, 21, 22, 23] (by decide +kernel) (by decide +kernel)
set_option maxRecDepth 20000 in
theorem gX5_ownedByOne_X5_ownerOf : GoodIn wsX5_ownedByOne (wsV RX5 140 RX5 yX5_ownerOf wsX5_ownerOf) := goodIn_app (goodIn_of _ (by decide +kernel)) ggX5_ownedByOne_X5_ownerOf
theorem dX5_ownedByOne_0 : decode cX5_ownedByOne 0 = .ok (.iconst 0, 1) := by decide +kernel
theorem dX5_ownedByOne_1 : decode cX5_ownedByOne 1 = .ok (.istore_n 1, 1) := by decide +kernel
theorem dX5_ownedByOne_2 : decode cX5_ownedByOne 2 = .ok (.iconst 0, 1) := by decide +kernel
theorem dX5_ownedByOne_3 : decode cX5_ownedByOne 3 = .ok (.istore_n 2, 1) := by decide +kernel
theorem dX5_ownedByOne_4 : decode cX5_ownedByOne 4 = .ok (.iload_n 2, 1) := by decide +kernel
theorem dX5_ownedByOne_5 : decode cX5_ownedByOne 5 = .ok (.aload_n 0, 1) := by decide +kernel
theorem dX5_ownedByOne_6 : decode cX5_ownedByOne 6 = .ok (.getfield 25, 3) := by decide +kernel
theorem dX5_ownedByOne_9 : decode cX5_ownedByOne 9 = .ok (.iconst 0, 1) := by decide +kernel
theorem dX5_ownedByOne_10 : decode cX5_ownedByOne 10 = .ok (.iaload, 1) := by decide +kernel
theorem dX5_ownedByOne_11 : decode cX5_ownedByOne 11 = .ok (.if_icmp .ge 19, 3) := by decide +kernel
theorem dX5_ownedByOne_14 : decode cX5_ownedByOne 14 = .ok (.iload_n 1, 1) := by decide +kernel
theorem dX5_ownedByOne_15 : decode cX5_ownedByOne 15 = .ok (.aload_n 0, 1) := by decide +kernel
theorem dX5_ownedByOne_16 : decode cX5_ownedByOne 16 = .ok (.iload_n 2, 1) := by decide +kernel
theorem dX5_ownedByOne_17 : decode cX5_ownedByOne 17 = .ok (.invokevirtual 140, 3) := by decide +kernel
theorem dX5_ownedByOne_20 : decode cX5_ownedByOne 20 = .ok (.iload_n 2, 1) := by decide +kernel
theorem dX5_ownedByOne_21 : decode cX5_ownedByOne 21 = .ok (.ishl, 1) := by decide +kernel
theorem dX5_ownedByOne_22 : decode cX5_ownedByOne 22 = .ok (.ior, 1) := by decide +kernel
theorem dX5_ownedByOne_23 : decode cX5_ownedByOne 23 = .ok (.istore_n 1, 1) := by decide +kernel
theorem dX5_ownedByOne_24 : decode cX5_ownedByOne 24 = .ok (.iinc 2 1, 3) := by decide +kernel
theorem dX5_ownedByOne_27 : decode cX5_ownedByOne 27 = .ok (.goto (-23), 3) := by decide +kernel
theorem dX5_ownedByOne_30 : decode cX5_ownedByOne 30 = .ok (.iload_n 1, 1) := by decide +kernel
theorem dX5_ownedByOne_31 : decode cX5_ownedByOne 31 = .ok (.ireturn, 1) := by decide +kernel
set_option maxRecDepth 20000 in
theorem ggX5_valueBy_X5_has : GoodIn wsX5_valueBy wsX5_has := goodIn_r _ [5] (by decide +kernel) (by decide +kernel)
set_option maxRecDepth 20000 in
theorem gX5_valueBy_X5_has : GoodIn wsX5_valueBy (va_wsS RX5 166 yX5_has wsX5_has) := goodIn_app (goodIn_of _ (by decide +kernel)) ggX5_valueBy_X5_has
set_option maxRecDepth 20000 in
theorem ggX5_valueBy_X5_valueTo : GoodIn wsX5_valueBy wsX5_valueTo := goodIn_r _ [9, 1, 10, 11, 12, 4, 13, 14, 15, 16, 17, 18, 19, 20, 21, 22, 23, 24, 25, 26, 27, 28, 29, 30] (by decide +kernel) (by decide +kernel)
set_option maxRecDepth 20000 in
theorem gX5_valueBy_X5_valueTo : GoodIn wsX5_valueBy (wsV RX5 127 RX5 yX5_valueTo wsX5_valueTo) := goodIn_app (goodIn_of _ (by decide +kernel)) ggX5_valueBy_X5_valueTo
theorem dX5_valueBy_0 : decode cX5_valueBy 0 = .ok (.iconst 0, 1) := by decide +kernel
theorem dX5_valueBy_1 : decode cX5_valueBy 1 = .ok (.istore 4, 2) := by decide +kernel
theorem dX5_valueBy_3 : decode cX5_valueBy 3 = .ok (.iconst 0, 1) := by decide +kernel
theorem dX5_valueBy_4 : decode cX5_valueBy 4 = .ok (.istore 5, 2) := by decide +kernel
theorem dX5_valueBy_6 : decode cX5_valueBy 6 = .ok (.iload 5, 2) := by decide +kernel
theorem dX5_valueBy_8 : decode cX5_valueBy 8 = .ok (.aload_n 0, 1) := by decide +kernel
theorem dX5_valueBy_9 : decode cX5_valueBy 9 = .ok (.getfield 25, 3) := by decide +kernel
theorem dX5_valueBy_12 : decode cX5_valueBy 12 = .ok (.iconst 0, 1) := by decide +kernel
theorem dX5_valueBy_13 : decode cX5_valueBy 13 = .ok (.iaload, 1) := by decide +kernel
theorem dX5_valueBy_14 : decode cX5_valueBy 14 = .ok (.if_icmp .ge 44, 3) := by decide +kernel
theorem dX5_valueBy_17 : decode cX5_valueBy 17 = .ok (.iload 4, 2) := by decide +kernel
theorem dX5_valueBy_19 : decode cX5_valueBy 19 = .ok (.iload_n 1, 1) := by decide +kernel
theorem dX5_valueBy_20 : decode cX5_valueBy 20 = .ok (.iload 5, 2) := by decide +kernel
theorem dX5_valueBy_22 : decode cX5_valueBy 22 = .ok (.invokestatic 166, 3) := by decide +kernel
theorem dX5_valueBy_25 : decode cX5_valueBy 25 = .ok (.iload_n 2, 1) := by decide +kernel
theorem dX5_valueBy_26 : decode cX5_valueBy 26 = .ok (.iconst 1, 1) := by decide +kernel
theorem dX5_valueBy_27 : decode cX5_valueBy 27 = .ok (.if_icmp .ne 7, 3) := by decide +kernel
theorem dX5_valueBy_30 : decode cX5_valueBy 30 = .ok (.iconst 1, 1) := by decide +kernel
theorem dX5_valueBy_31 : decode cX5_valueBy 31 = .ok (.goto 4, 3) := by decide +kernel
theorem dX5_valueBy_34 : decode cX5_valueBy 34 = .ok (.iconst 0, 1) := by decide +kernel
theorem dX5_valueBy_35 : decode cX5_valueBy 35 = .ok (.if_icmp .ne 13, 3) := by decide +kernel
theorem dX5_valueBy_38 : decode cX5_valueBy 38 = .ok (.aload_n 0, 1) := by decide +kernel
theorem dX5_valueBy_39 : decode cX5_valueBy 39 = .ok (.iload 5, 2) := by decide +kernel
theorem dX5_valueBy_41 : decode cX5_valueBy 41 = .ok (.iload_n 3, 1) := by decide +kernel
theorem dX5_valueBy_42 : decode cX5_valueBy 42 = .ok (.invokevirtual 127, 3) := by decide +kernel
theorem dX5_valueBy_45 : decode cX5_valueBy 45 = .ok (.goto 4, 3) := by decide +kernel
theorem dX5_valueBy_48 : decode cX5_valueBy 48 = .ok (.iconst 0, 1) := by decide +kernel
theorem dX5_valueBy_49 : decode cX5_valueBy 49 = .ok (.iadd, 1) := by decide +kernel
theorem dX5_valueBy_50 : decode cX5_valueBy 50 = .ok (.istore 4, 2) := by decide +kernel
theorem dX5_valueBy_52 : decode cX5_valueBy 52 = .ok (.iinc 5 1, 3) := by decide +kernel
theorem dX5_valueBy_55 : decode cX5_valueBy 55 = .ok (.goto (-49), 3) := by decide +kernel
theorem dX5_valueBy_58 : decode cX5_valueBy 58 = .ok (.iload 4, 2) := by decide +kernel
theorem dX5_valueBy_60 : decode cX5_valueBy 60 = .ok (.ireturn, 1) := by decide +kernel
set_option maxRecDepth 20000 in
theorem ggX5_value_X5_in : GoodIn wsX5_value wsX5_in := goodIn_r _ [4] (by decide +kernel) (by decide +kernel)
set_option maxRecDepth 20000 in
theorem gX5_value_X5_in : GoodIn wsX5_value (va_wsS RX5 58 yX5_in wsX5_in) := goodIn_app (goodIn_of _ (by decide +kernel)) ggX5_value_X5_in
set_option maxRecDepth 20000 in
theorem ggX5_value_X5_ownedByOne : GoodIn wsX5_value wsX5_ownedByOne := goodIn_r _ [8, 9, 10, 11, 12, 3, 13, 29, 30, 31, 32, 33, 34, 35, 36, 37, 38, 39, 40, 41, 42, 43, 44, 45] (by decide +kernel) (by decide +kernel)
set_option maxRecDepth 20000 in
theorem gX5_value_X5_ownedByOne : GoodIn wsX5_value (wsV RX5 178 RX5 yX5_ownedByOne wsX5_ownedByOne) := goodIn_app (goodIn_of _ (by decide +kernel)) ggX5_value_X5_ownedByOne
set_option maxRecDepth 20000 in
theorem ggX5_value_X5_valueBy : GoodIn wsX5_value wsX5_valueBy := goodIn_r _ [17, 9, 18, 19, 3, 20, 21, 22, 23, 24, 25, 26, 27, 28, 29, 30, 31, 32, 33, 34, 35, 36, 37, 38, 39, 40, 41, 42, 43, 44, 45] (by decide +kernel) (by decide +kernel)
set_option maxRecDepth 20000 in
theorem gX5_value_X5_valueBy : GoodIn wsX5_value (wsV RX5 182 RX5 yX5_valueBy wsX5_valueBy) := goodIn_app (goodIn_of _ (by decide +kernel)) ggX5_value_X5_valueBy
theorem dX5_value_0 : decode cX5_value 0 = .ok (.iload_n 1, 1) := by decide +kernel
theorem dX5_value_1 : decode cX5_value 1 = .ok (.iconst 0, 1) := by decide +kernel
theorem dX5_value_2 : decode cX5_value 2 = .ok (.iconst 1, 1) := by decide +kernel
theorem dX5_value_3 : decode cX5_value 3 = .ok (.invokestatic 58, 3) := by decide +kernel
theorem dX5_value_6 : decode cX5_value 6 = .ok (.ifCond .eq 25, 3) := by decide +kernel
theorem dX5_value_9 : decode cX5_value 9 = .ok (.iload_n 2, 1) := by decide +kernel
theorem dX5_value_10 : decode cX5_value 10 = .ok (.iconst 0, 1) := by decide +kernel
theorem dX5_value_11 : decode cX5_value 11 = .ok (.iconst 1, 1) := by decide +kernel
theorem dX5_value_12 : decode cX5_value 12 = .ok (.invokestatic 58, 3) := by decide +kernel
theorem dX5_value_15 : decode cX5_value 15 = .ok (.ifCond .eq 16, 3) := by decide +kernel
theorem dX5_value_18 : decode cX5_value 18 = .ok (.aload_n 0, 1) := by decide +kernel
theorem dX5_value_19 : decode cX5_value 19 = .ok (.aload_n 0, 1) := by decide +kernel
theorem dX5_value_20 : decode cX5_value 20 = .ok (.invokevirtual 178, 3) := by decide +kernel
theorem dX5_value_23 : decode cX5_value 23 = .ok (.iload_n 1, 1) := by decide +kernel
theorem dX5_value_24 : decode cX5_value 24 = .ok (.iload_n 2, 1) := by decide +kernel
theorem dX5_value_25 : decode cX5_value 25 = .ok (.invokevirtual 182, 3) := by decide +kernel
theorem dX5_value_28 : decode cX5_value 28 = .ok (.goto 4, 3) := by decide +kernel
theorem dX5_value_31 : decode cX5_value 31 = .ok (.iconst (-1), 1) := by decide +kernel
theorem dX5_value_32 : decode cX5_value 32 = .ok (.ireturn, 1) := by decide +kernel
set_option maxRecDepth 20000 in
theorem ggX5_isFair_X5_valueBy : GoodIn wsX5_isFair wsX5_valueBy := goodIn_r _ [5, 6, 7, 8, 4, 9, 10, 11, 12, 13, 14, 15, 16, 17, 18, 19, 20, 21, 22, 23, 24, 25, 26, 27, 28, 29, 30, 31, 32, 33, 34] (by decide +kernel) (by decide +kernel)
set_option maxRecDepth 20000 in
theorem gX5_isFair_X5_valueBy : GoodIn wsX5_isFair (wsV RX5 182 RX5 yX5_valueBy wsX5_valueBy) := goodIn_app (goodIn_of _ (by decide +kernel)) ggX5_isFair_X5_valueBy
theorem dX5_isFair_0 : decode cX5_isFair 0 = .ok (.aload_n 0, 1) := by decide +kernel
theorem dX5_isFair_1 : decode cX5_isFair 1 = .ok (.iload_n 1, 1) := by decide +kernel
theorem dX5_isFair_2 : decode cX5_isFair 2 = .ok (.iconst 0, 1) := by decide +kernel
theorem dX5_isFair_3 : decode cX5_isFair 3 = .ok (.iconst 0, 1) := by decide +kernel
theorem dX5_isFair_4 : decode cX5_isFair 4 = .ok (.invokevirtual 182, 3) := by decide +kernel
theorem dX5_isFair_7 : decode cX5_isFair 7 = .ok (.iload_n 2, 1) := by decide +kernel
theorem dX5_isFair_8 : decode cX5_isFair 8 = .ok (.iadd, 1) := by decide +kernel
theorem dX5_isFair_9 : decode cX5_isFair 9 = .ok (.aload_n 0, 1) := by decide +kernel
theorem dX5_isFair_10 : decode cX5_isFair 10 = .ok (.iload_n 1, 1) := by decide +kernel
theorem dX5_isFair_11 : decode cX5_isFair 11 = .ok (.iconst 1, 1) := by decide +kernel
theorem dX5_isFair_12 : decode cX5_isFair 12 = .ok (.iconst 0, 1) := by decide +kernel
theorem dX5_isFair_13 : decode cX5_isFair 13 = .ok (.invokevirtual 182, 3) := by decide +kernel
theorem dX5_isFair_16 : decode cX5_isFair 16 = .ok (.iload_n 2, 1) := by decide +kernel
theorem dX5_isFair_17 : decode cX5_isFair 17 = .ok (.isub, 1) := by decide +kernel
theorem dX5_isFair_18 : decode cX5_isFair 18 = .ok (.if_icmp .lt 28, 3) := by decide +kernel
theorem dX5_isFair_21 : decode cX5_isFair 21 = .ok (.aload_n 0, 1) := by decide +kernel
theorem dX5_isFair_22 : decode cX5_isFair 22 = .ok (.iload_n 1, 1) := by decide +kernel
theorem dX5_isFair_23 : decode cX5_isFair 23 = .ok (.iconst 1, 1) := by decide +kernel
theorem dX5_isFair_24 : decode cX5_isFair 24 = .ok (.iconst 1, 1) := by decide +kernel
theorem dX5_isFair_25 : decode cX5_isFair 25 = .ok (.invokevirtual 182, 3) := by decide +kernel
theorem dX5_isFair_28 : decode cX5_isFair 28 = .ok (.iload_n 2, 1) := by decide +kernel
theorem dX5_isFair_29 : decode cX5_isFair 29 = .ok (.isub, 1) := by decide +kernel
theorem dX5_isFair_30 : decode cX5_isFair 30 = .ok (.aload_n 0, 1) := by decide +kernel
theorem dX5_isFair_31 : decode cX5_isFair 31 = .ok (.iload_n 1, 1) := by decide +kernel
theorem dX5_isFair_32 : decode cX5_isFair 32 = .ok (.iconst 0, 1) := by decide +kernel
theorem dX5_isFair_33 : decode cX5_isFair 33 = .ok (.iconst 1, 1) := by decide +kernel
theorem dX5_isFair_34 : decode cX5_isFair 34 = .ok (.invokevirtual 182, 3) := by decide +kernel
theorem dX5_isFair_37 : decode cX5_isFair 37 = .ok (.iload_n 2, 1) := by decide +kernel
theorem dX5_isFair_38 : decode cX5_isFair 38 = .ok (.iadd, 1) := by decide +kernel
theorem dX5_isFair_39 : decode cX5_isFair 39 = .ok (.if_icmp .lt 7, 3) := by decide +kernel
theorem dX5_isFair_42 : decode cX5_isFair 42 = .ok (.iconst 1, 1) := by decide +kernel
theorem dX5_isFair_43 : decode cX5_isFair 43 = .ok (.goto 4, 3) := by decide +kernel
theorem dX5_isFair_46 : decode cX5_isFair 46 = .ok (.iconst 0, 1) := by decide +kernel
theorem dX5_isFair_47 : decode cX5_isFair 47 = .ok (.ireturn, 1) := by decide +kernel
set_option maxRecDepth 20000 in
theorem ggX5_fair_X5_are : GoodIn wsX5_fair wsX5_are := goodIn_r _ [6, 1, 34, 35, 36, 37, 38, 39, 40, 41, 42, 43, 44, 45, 46, 47, 48, 49, 50] (by decide +kernel) (by decide +kernel)
set_option maxRecDepth 20000 in
theorem gX5_fair_X5_are : GoodIn wsX5_fair (wsV RX5 146 RX5 yX5_are wsX5_are) := goodIn_app (goodIn_of _ (by decide +kernel)) ggX5_fair_X5_are
set_option maxRecDepth 20000 in
theorem ggX5_fair_X5_ownedByOne : GoodIn wsX5_fair wsX5_ownedByOne := goodIn_r _ [10, 1, 11, 12, 13, 5, 14, 34, 35, 36, 37, 38, 39, 40, 41, 42, 43, 44, 45, 46, 47, 48, 49, 50] (by decide +kernel) (by decide +kernel)
set_option maxRecDepth 20000 in
theorem gX5_fair_X5_ownedByOne : GoodIn wsX5_fair (wsV RX5 178 RX5 yX5_ownedByOne wsX5_ownedByOne) := goodIn_app (goodIn_of _ (by decide +kernel)) ggX5_fair_X5_ownedByOne
set_option maxRecDepth 20000 in
theorem ggX5_fair_X5_isFair : GoodIn wsX5_fair wsX5_isFair := goodIn_r _ [18, 19, 20, 21, 5, 22, 1, 23, 24, 25, 26, 27, 28, 29, 30, 31, 32, 33, 34, 35, 36, 37, 38, 39, 40, 41, 42, 43, 44, 45, 46, 47, 48, 49, 50] (by decide +kernel) (by decide +kernel)
set_option maxRecDepth 20000 in
theorem gX5_fair_X5_isFair : GoodIn wsX5_fair (wsV RX5 185 RX5 yX5_isFair wsX5_isFair) := goodIn_app (goodIn_of _ (by decide +kernel)) ggX5_fair_X5_isFair
theorem dX5_fair_0 : decode cX5_fair 0 = .ok (.aload_n 0, 1) := by decide +kernel
theorem dX5_fair_1 : decode cX5_fair 1 = .ok (.invokevirtual 146, 3) := by decide +kernel
theorem dX5_fair_4 : decode cX5_fair 4 = .ok (.ifCond .ne 8, 3) := by decide +kernel
theorem dX5_fair_7 : decode cX5_fair 7 = .ok (.bipush (-4), 2) := by decide +kernel
theorem dX5_fair_9 : decode cX5_fair 9 = .ok (.goto 25, 3) := by decide +kernel
theorem dX5_fair_12 : decode cX5_fair 12 = .ok (.aload_n 0, 1) := by decide +kernel
theorem dX5_fair_13 : decode cX5_fair 13 = .ok (.aload_n 0, 1) := by decide +kernel
theorem dX5_fair_14 : decode cX5_fair 14 = .ok (.invokevirtual 178, 3) := by decide +kernel
theorem dX5_fair_17 : decode cX5_fair 17 = .ok (.aload_n 0, 1) := by decide +kernel
theorem dX5_fair_18 : decode cX5_fair 18 = .ok (.getfield 25, 3) := by decide +kernel
theorem dX5_fair_21 : decode cX5_fair 21 = .ok (.iconst 5, 1) := by decide +kernel
theorem dX5_fair_22 : decode cX5_fair 22 = .ok (.iaload, 1) := by decide +kernel
theorem dX5_fair_23 : decode cX5_fair 23 = .ok (.invokevirtual 185, 3) := by decide +kernel
theorem dX5_fair_26 : decode cX5_fair 26 = .ok (.ifCond .eq 7, 3) := by decide +kernel
theorem dX5_fair_29 : decode cX5_fair 29 = .ok (.iconst 1, 1) := by decide +kernel
theorem dX5_fair_30 : decode cX5_fair 30 = .ok (.goto 4, 3) := by decide +kernel
theorem dX5_fair_33 : decode cX5_fair 33 = .ok (.iconst 0, 1) := by decide +kernel
theorem dX5_fair_34 : decode cX5_fair 34 = .ok (.ireturn, 1) := by decide +kernel
set_option maxRecDepth 20000 in
theorem ggX5_ways_X5_are : GoodIn wsX5_ways wsX5_are := goodIn_r _ [6, 1, 42, 43, 44, 45, 46, 47, 48, 49, 50, 51, 52, 53, 54, 55, 56, 57, 58] (by decide +kernel) (by decide +kernel)
set_option maxRecDepth 20000 in
theorem gX5_ways_X5_are : GoodIn wsX5_ways (wsV RX5 146 RX5 yX5_are wsX5_are) := goodIn_app (goodIn_of _ (by decide +kernel)) ggX5_ways_X5_are
set_option maxRecDepth 20000 in
theorem ggX5_ways_X5_isFair : GoodIn wsX5_ways wsX5_isFair := goodIn_r _ [10, 11, 12, 13, 5, 14, 1, 15, 16, 17, 18, 19, 20, 21, 22, 23, 24, 25, 42, 43, 44, 45, 46, 47, 48, 49, 50, 51, 52, 53, 54, 55, 56, 57, 58] (by decide +kernel) (by decide +kernel)
set_option maxRecDepth 20000 in
theorem gX5_ways_X5_isFair : GoodIn wsX5_ways (wsV RX5 185 RX5 yX5_isFair wsX5_isFair) := goodIn_app (goodIn_of _ (by decide +kernel)) ggX5_ways_X5_isFair
set_option maxRecDepth 20000 in
theorem ggX5_ways_X5_ownedByOne : GoodIn wsX5_ways wsX5_ownedByOne := goodIn_r _ [29, 1, 30, 31, 32, 5, 33, 42, 43, 44, 45, 46, 47, 48, 49, 50, 51, 52, 53, 54, 55, 56, 57, 58] (by decide +kernel) (by decide +kernel)
set_option maxRecDepth 20000 in
theorem gX5_ways_X5_ownedByOne : GoodIn wsX5_ways (wsV RX5 178 RX5 yX5_ownedByOne wsX5_ownedByOne) := goodIn_app (goodIn_of _ (by decide +kernel)) ggX5_ways_X5_ownedByOne
set_option maxRecDepth 20000 in
theorem ggX5_ways_X5_ones : GoodIn wsX5_ways wsX5_ones := goodIn_r _ [36] (by decide +kernel) (by decide +kernel)
set_option maxRecDepth 20000 in
theorem gX5_ways_X5_ones : GoodIn wsX5_ways (va_wsS RX5 175 yX5_ones wsX5_ones) := goodIn_app (goodIn_of _ (by decide +kernel)) ggX5_ways_X5_ones
set_option maxRecDepth 20000 in
theorem ggX5_ways_X5_tells : GoodIn wsX5_ways wsX5_tells := goodIn_r _ [40, 41, 42, 43, 44, 45, 46, 47, 48, 49, 50, 51, 52, 53, 54, 55, 56, 57, 58] (by decide +kernel) (by decide +kernel)
set_option maxRecDepth 20000 in
theorem gX5_ways_X5_tells : GoodIn wsX5_ways (wsV RX5 78 RX5 yX5_tells wsX5_tells) := goodIn_app (goodIn_of _ (by decide +kernel)) ggX5_ways_X5_tells
