theorem dX4_pay_0 : decode cX4_pay 0 = .ok (.iload_n 1, 1) := by decide +kernel
theorem dX4_pay_1 : decode cX4_pay 1 = .ok (.invokestatic 148, 3) := by decide +kernel
theorem dX4_pay_4 : decode cX4_pay 4 = .ok (.ifCond .ne 13, 3) := by decide +kernel
theorem dX4_pay_7 : decode cX4_pay 7 = .ok (.iload_n 2, 1) := by decide +kernel
theorem dX4_pay_8 : decode cX4_pay 8 = .ok (.iconst 1, 1) := by decide +kernel
theorem dX4_pay_9 : decode cX4_pay 9 = .ok (.bipush 99, 2) := by decide +kernel
theorem dX4_pay_11 : decode cX4_pay 11 = .ok (.invokestatic 120, 3) := by decide +kernel
theorem dX4_pay_14 : decode cX4_pay 14 = .ok (.ifCond .eq 5, 3) := by decide +kernel
theorem dX4_pay_17 : decode cX4_pay 17 = .ok (.iconst (-1), 1) := by decide +kernel
theorem dX4_pay_18 : decode cX4_pay 18 = .ok (.ireturn, 1) := by decide +kernel
theorem dX4_pay_19 : decode cX4_pay 19 = .ok (.aload_n 0, 1) := by decide +kernel
theorem dX4_pay_20 : decode cX4_pay 20 = .ok (.getfield 21, 3) := by decide +kernel
theorem dX4_pay_23 : decode cX4_pay 23 = .ok (.invokevirtual 157, 3) := by decide +kernel
theorem dX4_pay_26 : decode cX4_pay 26 = .ok (.ifCond .eq 6, 3) := by decide +kernel
theorem dX4_pay_29 : decode cX4_pay 29 = .ok (.bipush (-4), 2) := by decide +kernel
theorem dX4_pay_31 : decode cX4_pay 31 = .ok (.ireturn, 1) := by decide +kernel
theorem dX4_pay_32 : decode cX4_pay 32 = .ok (.aload_n 0, 1) := by decide +kernel
theorem dX4_pay_33 : decode cX4_pay 33 = .ok (.getfield 21, 3) := by decide +kernel
theorem dX4_pay_36 : decode cX4_pay 36 = .ok (.getfield 151, 3) := by decide +kernel
theorem dX4_pay_39 : decode cX4_pay 39 = .ok (.bipush 60, 2) := by decide +kernel
theorem dX4_pay_41 : decode cX4_pay 41 = .ok (.if_icmp .lt 6, 3) := by decide +kernel
theorem dX4_pay_44 : decode cX4_pay 44 = .ok (.bipush (-2), 2) := by decide +kernel
theorem dX4_pay_46 : decode cX4_pay 46 = .ok (.ireturn, 1) := by decide +kernel
theorem dX4_pay_47 : decode cX4_pay 47 = .ok (.aload_n 0, 1) := by decide +kernel
theorem dX4_pay_48 : decode cX4_pay 48 = .ok (.getfield 21, 3) := by decide +kernel
theorem dX4_pay_51 : decode cX4_pay 51 = .ok (.iload_n 1, 1) := by decide +kernel
theorem dX4_pay_52 : decode cX4_pay 52 = .ok (.iload_n 2, 1) := by decide +kernel
theorem dX4_pay_53 : decode cX4_pay 53 = .ok (.invokevirtual 167, 3) := by decide +kernel
theorem dX4_pay_56 : decode cX4_pay 56 = .ok (.aload_n 0, 1) := by decide +kernel
theorem dX4_pay_57 : decode cX4_pay 57 = .ok (.getfield 21, 3) := by decide +kernel
theorem dX4_pay_60 : decode cX4_pay 60 = .ok (.getfield 171, 3) := by decide +kernel
theorem dX4_pay_63 : decode cX4_pay 63 = .ok (.sipush 10000, 3) := by decide +kernel
theorem dX4_pay_66 : decode cX4_pay 66 = .ok (.iadd, 1) := by decide +kernel
theorem dX4_pay_67 : decode cX4_pay 67 = .ok (.ireturn, 1) := by decide +kernel
set_option maxRecDepth 20000 in
theorem ggX4_undo_X4_outside : GoodIn wsX4_undo wsX4_outside := goodIn_r _ [6] (by decide +kernel) (by decide +kernel)
set_option maxRecDepth 20000 in
theorem gX4_undo_X4_outside : GoodIn wsX4_undo (va_wsS RX4 120 yX4_outside wsX4_outside) := goodIn_app (goodIn_of _ (by decide +kernel)) ggX4_undo_X4_outside
set_option maxRecDepth 20000 in
theorem ggX4_undo_X1_undoFrom : GoodIn wsX4_undo wsX1_undoFrom := goodIn_r _ [11, 12, 13, 14, 15, 16, 17, 10, 18, 19, 20, 21, 22, 23, 5, 24, 35, 36, 37, 38, 39, 40, 41, 42, 43, 44, 45, 46, 47, 48, 49, 50] (by decide +kernel) (by decide +kernel)
set_option maxRecDepth 20000 in
theorem gX4_undo_X1_undoFrom : GoodIn wsX4_undo (wsV RX4 174 RX1 yX1_undoFrom wsX1_undoFrom) := goodIn_app (goodIn_of _ (by decide +kernel)) ggX4_undo_X1_undoFrom
theorem dX4_undo_0 : decode cX4_undo 0 = .ok (.iload_n 1, 1) := by decide +kernel
theorem dX4_undo_1 : decode cX4_undo 1 = .ok (.iconst 0, 1) := by decide +kernel
theorem dX4_undo_2 : decode cX4_undo 2 = .ok (.aload_n 0, 1) := by decide +kernel
theorem dX4_undo_3 : decode cX4_undo 3 = .ok (.getfield 21, 3) := by decide +kernel
theorem dX4_undo_6 : decode cX4_undo 6 = .ok (.getfield 151, 3) := by decide +kernel
theorem dX4_undo_9 : decode cX4_undo 9 = .ok (.invokestatic 120, 3) := by decide +kernel
theorem dX4_undo_12 : decode cX4_undo 12 = .ok (.ifCond .eq 5, 3) := by decide +kernel
theorem dX4_undo_15 : decode cX4_undo 15 = .ok (.iconst (-1), 1) := by decide +kernel
theorem dX4_undo_16 : decode cX4_undo 16 = .ok (.ireturn, 1) := by decide +kernel
theorem dX4_undo_17 : decode cX4_undo 17 = .ok (.aload_n 0, 1) := by decide +kernel
theorem dX4_undo_18 : decode cX4_undo 18 = .ok (.getfield 21, 3) := by decide +kernel
theorem dX4_undo_21 : decode cX4_undo 21 = .ok (.getfield 151, 3) := by decide +kernel
theorem dX4_undo_24 : decode cX4_undo 24 = .ok (.iload_n 1, 1) := by decide +kernel
theorem dX4_undo_25 : decode cX4_undo 25 = .ok (.isub, 1) := by decide +kernel
theorem dX4_undo_26 : decode cX4_undo 26 = .ok (.istore_n 2, 1) := by decide +kernel
theorem dX4_undo_27 : decode cX4_undo 27 = .ok (.aload_n 0, 1) := by decide +kernel
theorem dX4_undo_28 : decode cX4_undo 28 = .ok (.getfield 21, 3) := by decide +kernel
theorem dX4_undo_31 : decode cX4_undo 31 = .ok (.iload_n 1, 1) := by decide +kernel
theorem dX4_undo_32 : decode cX4_undo 32 = .ok (.invokevirtual 174, 3) := by decide +kernel
theorem dX4_undo_35 : decode cX4_undo 35 = .ok (.iload_n 2, 1) := by decide +kernel
theorem dX4_undo_36 : decode cX4_undo 36 = .ok (.ireturn, 1) := by decide +kernel
set_option maxRecDepth 20000 in
theorem ggX4_keep_X4_isNone : GoodIn wsX4_keep wsX4_isNone := goodIn_r _ [7] (by decide +kernel) (by decide +kernel)
set_option maxRecDepth 20000 in
theorem gX4_keep_X4_isNone : GoodIn wsX4_keep (va_wsS RX4 55 yX4_isNone wsX4_isNone) := goodIn_app (goodIn_of _ (by decide +kernel)) ggX4_keep_X4_isNone
set_option maxRecDepth 20000 in
theorem ggX4_keep_X1_isMissing : GoodIn wsX4_keep wsX1_isMissing := goodIn_r _ [12, 13, 59, 60, 61, 62, 63, 64, 65, 66, 67, 68, 69] (by decide +kernel) (by decide +kernel)
set_option maxRecDepth 20000 in
theorem gX4_keep_X1_isMissing : GoodIn wsX4_keep (wsV RX4 157 RX1 yX1_isMissing wsX1_isMissing) := goodIn_app (goodIn_of _ (by decide +kernel)) ggX4_keep_X1_isMissing
set_option maxRecDepth 20000 in
theorem ggX4_keep_X1_become : GoodIn wsX4_keep wsX1_become := goodIn_r _ [17, 18, 19, 20, 21, 22, 23, 13, 24, 25, 26, 27, 28, 29, 30, 31, 32, 33, 34, 35, 36, 37, 38, 39, 40, 41, 42, 43, 44, 45, 46, 47, 48, 59, 60, 61, 62, 63, 64, 65, 66, 67, 68, 69, 70, 71, 72, 73, 74] (by decide +kernel) (by decide +kernel)
set_option maxRecDepth 20000 in
theorem gX4_keep_X1_become : GoodIn wsX4_keep (wsV RX4 101 RX1 yX1_become wsX1_become) := goodIn_app (goodIn_of _ (by decide +kernel)) ggX4_keep_X1_become
theorem dX4_keep_0 : decode cX4_keep 0 = .ok (.iload_n 1, 1) := by decide +kernel
theorem dX4_keep_1 : decode cX4_keep 1 = .ok (.iconst 3, 1) := by decide +kernel
theorem dX4_keep_2 : decode cX4_keep 2 = .ok (.invokestatic 55, 3) := by decide +kernel
theorem dX4_keep_5 : decode cX4_keep 5 = .ok (.ifCond .eq 5, 3) := by decide +kernel
theorem dX4_keep_8 : decode cX4_keep 8 = .ok (.iconst (-1), 1) := by decide +kernel
theorem dX4_keep_9 : decode cX4_keep 9 = .ok (.ireturn, 1) := by decide +kernel
theorem dX4_keep_10 : decode cX4_keep 10 = .ok (.aload_n 0, 1) := by decide +kernel
theorem dX4_keep_11 : decode cX4_keep 11 = .ok (.getfield 21, 3) := by decide +kernel
theorem dX4_keep_14 : decode cX4_keep 14 = .ok (.invokevirtual 157, 3) := by decide +kernel
theorem dX4_keep_17 : decode cX4_keep 17 = .ok (.ifCond .eq 6, 3) := by decide +kernel
theorem dX4_keep_20 : decode cX4_keep 20 = .ok (.bipush (-4), 2) := by decide +kernel
theorem dX4_keep_22 : decode cX4_keep 22 = .ok (.ireturn, 1) := by decide +kernel
theorem dX4_keep_23 : decode cX4_keep 23 = .ok (.aload_n 0, 1) := by decide +kernel
theorem dX4_keep_24 : decode cX4_keep 24 = .ok (.getfield 25, 3) := by decide +kernel
theorem dX4_keep_27 : decode cX4_keep 27 = .ok (.iload_n 1, 1) := by decide +kernel
theorem dX4_keep_28 : decode cX4_keep 28 = .ok (.aaload, 1) := by decide +kernel
theorem dX4_keep_29 : decode cX4_keep 29 = .ok (.aload_n 0, 1) := by decide +kernel
theorem dX4_keep_30 : decode cX4_keep 30 = .ok (.getfield 21, 3) := by decide +kernel
theorem dX4_keep_33 : decode cX4_keep 33 = .ok (.invokevirtual 101, 3) := by decide +kernel
theorem dX4_keep_36 : decode cX4_keep 36 = .ok (.aload_n 0, 1) := by decide +kernel
theorem dX4_keep_37 : decode cX4_keep 37 = .ok (.getfield 21, 3) := by decide +kernel
theorem dX4_keep_40 : decode cX4_keep 40 = .ok (.getfield 151, 3) := by decide +kernel
theorem dX4_keep_43 : decode cX4_keep 43 = .ok (.ireturn, 1) := by decide +kernel
set_option maxRecDepth 20000 in
theorem ggX4_on_X4_isNone : GoodIn wsX4_on wsX4_isNone := goodIn_r _ [7] (by decide +kernel) (by decide +kernel)
set_option maxRecDepth 20000 in
theorem gX4_on_X4_isNone : GoodIn wsX4_on (va_wsS RX4 55 yX4_isNone wsX4_isNone) := goodIn_app (goodIn_of _ (by decide +kernel)) ggX4_on_X4_isNone
set_option maxRecDepth 20000 in
theorem ggX4_on_X1_isMissing : GoodIn wsX4_on wsX1_isMissing := goodIn_r _ [12, 13, 65, 66, 67, 68, 69, 70, 71, 72, 73, 74, 75] (by decide +kernel) (by decide +kernel)
set_option maxRecDepth 20000 in
theorem gX4_on_X1_isMissing : GoodIn wsX4_on (wsV RX4 157 RX1 yX1_isMissing wsX1_isMissing) := goodIn_app (goodIn_of _ (by decide +kernel)) ggX4_on_X1_isMissing
set_option maxRecDepth 20000 in
theorem ggX4_on_X4_refuse : GoodIn wsX4_on wsX4_refuse := goodIn_r _ [17, 18, 19, 4, 5, 6, 7, 55, 56, 57, 58, 59, 60, 61, 62, 63, 64] (by decide +kernel) (by decide +kernel)
set_option maxRecDepth 20000 in
theorem gX4_on_X4_refuse : GoodIn wsX4_on (wsV RX4 70 RX4 yX4_refuse wsX4_refuse) := goodIn_app (goodIn_of _ (by decide +kernel)) ggX4_on_X4_refuse
set_option maxRecDepth 20000 in
theorem ggX4_on_X1_become : GoodIn wsX4_on wsX1_become := goodIn_r _ [23, 24, 25, 26, 27, 28, 29, 13, 30, 31, 32, 33, 34, 35, 36, 37, 38, 39, 40, 41, 42, 43, 44, 45, 46, 47, 48, 49, 50, 51, 52, 53, 54, 65, 66, 67, 68, 69, 70, 71, 72, 73, 74, 75, 76, 77, 78, 79, 80] (by decide +kernel) (by decide +kernel)
set_option maxRecDepth 20000 in
theorem gX4_on_X1_become : GoodIn wsX4_on (wsV RX4 101 RX1 yX1_become wsX1_become) := goodIn_app (goodIn_of _ (by decide +kernel)) ggX4_on_X1_become
theorem dX4_on_0 : decode cX4_on 0 = .ok (.iload_n 1, 1) := by decide +kernel
theorem dX4_on_1 : decode cX4_on 1 = .ok (.iconst 3, 1) := by decide +kernel
theorem dX4_on_2 : decode cX4_on 2 = .ok (.invokestatic 55, 3) := by decide +kernel
theorem dX4_on_5 : decode cX4_on 5 = .ok (.ifCond .eq 5, 3) := by decide +kernel
theorem dX4_on_8 : decode cX4_on 8 = .ok (.iconst (-1), 1) := by decide +kernel
theorem dX4_on_9 : decode cX4_on 9 = .ok (.ireturn, 1) := by decide +kernel
theorem dX4_on_10 : decode cX4_on 10 = .ok (.aload_n 0, 1) := by decide +kernel
theorem dX4_on_11 : decode cX4_on 11 = .ok (.getfield 25, 3) := by decide +kernel
theorem dX4_on_14 : decode cX4_on 14 = .ok (.iload_n 1, 1) := by decide +kernel
theorem dX4_on_15 : decode cX4_on 15 = .ok (.aaload, 1) := by decide +kernel
theorem dX4_on_16 : decode cX4_on 16 = .ok (.invokevirtual 157, 3) := by decide +kernel
theorem dX4_on_19 : decode cX4_on 19 = .ok (.ifCond .eq 9, 3) := by decide +kernel
theorem dX4_on_22 : decode cX4_on 22 = .ok (.aload_n 0, 1) := by decide +kernel
theorem dX4_on_23 : decode cX4_on 23 = .ok (.iconst 1, 1) := by decide +kernel
theorem dX4_on_24 : decode cX4_on 24 = .ok (.invokevirtual 70, 3) := by decide +kernel
theorem dX4_on_27 : decode cX4_on 27 = .ok (.ireturn, 1) := by decide +kernel
theorem dX4_on_28 : decode cX4_on 28 = .ok (.aload_n 0, 1) := by decide +kernel
theorem dX4_on_29 : decode cX4_on 29 = .ok (.getfield 21, 3) := by decide +kernel
theorem dX4_on_32 : decode cX4_on 32 = .ok (.aload_n 0, 1) := by decide +kernel
theorem dX4_on_33 : decode cX4_on 33 = .ok (.getfield 25, 3) := by decide +kernel
theorem dX4_on_36 : decode cX4_on 36 = .ok (.iload_n 1, 1) := by decide +kernel
theorem dX4_on_37 : decode cX4_on 37 = .ok (.aaload, 1) := by decide +kernel
theorem dX4_on_38 : decode cX4_on 38 = .ok (.invokevirtual 101, 3) := by decide +kernel
theorem dX4_on_41 : decode cX4_on 41 = .ok (.aload_n 0, 1) := by decide +kernel
theorem dX4_on_42 : decode cX4_on 42 = .ok (.getfield 21, 3) := by decide +kernel
theorem dX4_on_45 : decode cX4_on 45 = .ok (.getfield 151, 3) := by decide +kernel
theorem dX4_on_48 : decode cX4_on 48 = .ok (.ireturn, 1) := by decide +kernel
set_option maxRecDepth 20000 in
theorem ggX4_where_X4_isNoDay : GoodIn wsX4_where wsX4_isNoDay := goodIn_r _ [5, 6, 7, 4, 8] (by decide +kernel) (by decide +kernel)
set_option maxRecDepth 20000 in
theorem gX4_where_X4_isNoDay : GoodIn wsX4_where (va_wsS RX4 177 yX4_isNoDay wsX4_isNoDay) := goodIn_app (goodIn_of _ (by decide +kernel)) ggX4_where_X4_isNoDay
set_option maxRecDepth 20000 in
theorem ggX4_where_X1_isMissing : GoodIn wsX4_where wsX1_isMissing := goodIn_r _ [13, 14, 31, 32, 33, 34, 35, 36, 37, 38, 39, 40, 41] (by decide +kernel) (by decide +kernel)
set_option maxRecDepth 20000 in
theorem gX4_where_X1_isMissing : GoodIn wsX4_where (wsV RX4 157 RX1 yX1_isMissing wsX1_isMissing) := goodIn_app (goodIn_of _ (by decide +kernel)) ggX4_where_X1_isMissing
set_option maxRecDepth 20000 in
theorem ggX4_where_X1_farmOn : GoodIn wsX4_where wsX1_farmOn := goodIn_r _ [18, 19, 20, 31, 32, 33, 34, 35, 36, 37, 38, 39, 40, 41] (by decide +kernel) (by decide +kernel)
set_option maxRecDepth 20000 in
theorem gX4_where_X1_farmOn : GoodIn wsX4_where (wsV RX4 180 RX1 yX1_farmOn wsX1_farmOn) := goodIn_app (goodIn_of _ (by decide +kernel)) ggX4_where_X1_farmOn
theorem dX4_where_0 : decode cX4_where 0 = .ok (.iload_n 1, 1) := by decide +kernel
theorem dX4_where_1 : decode cX4_where 1 = .ok (.invokestatic 177, 3) := by decide +kernel
theorem dX4_where_4 : decode cX4_where 4 = .ok (.ifCond .eq 5, 3) := by decide +kernel
theorem dX4_where_7 : decode cX4_where 7 = .ok (.iconst (-1), 1) := by decide +kernel
theorem dX4_where_8 : decode cX4_where 8 = .ok (.ireturn, 1) := by decide +kernel
theorem dX4_where_9 : decode cX4_where 9 = .ok (.aload_n 0, 1) := by decide +kernel
theorem dX4_where_10 : decode cX4_where 10 = .ok (.getfield 21, 3) := by decide +kernel
theorem dX4_where_13 : decode cX4_where 13 = .ok (.invokevirtual 157, 3) := by decide +kernel
theorem dX4_where_16 : decode cX4_where 16 = .ok (.ifCond .eq 6, 3) := by decide +kernel
theorem dX4_where_19 : decode cX4_where 19 = .ok (.bipush (-4), 2) := by decide +kernel
theorem dX4_where_21 : decode cX4_where 21 = .ok (.ireturn, 1) := by decide +kernel
theorem dX4_where_22 : decode cX4_where 22 = .ok (.aload_n 0, 1) := by decide +kernel
theorem dX4_where_23 : decode cX4_where 23 = .ok (.getfield 21, 3) := by decide +kernel
theorem dX4_where_26 : decode cX4_where 26 = .ok (.iload_n 1, 1) := by decide +kernel
theorem dX4_where_27 : decode cX4_where 27 = .ok (.invokevirtual 180, 3) := by decide +kernel
theorem dX4_where_30 : decode cX4_where 30 = .ok (.ireturn, 1) := by decide +kernel
set_option maxRecDepth 20000 in
theorem ggX4_milk_X4_isNoFarm : GoodIn wsX4_milk wsX4_isNoFarm := goodIn_r _ [5, 6, 7, 4, 8] (by decide +kernel) (by decide +kernel)
set_option maxRecDepth 20000 in
theorem gX4_milk_X4_isNoFarm : GoodIn wsX4_milk (va_wsS RX4 148 yX4_isNoFarm wsX4_isNoFarm) := goodIn_app (goodIn_of _ (by decide +kernel)) ggX4_milk_X4_isNoFarm
set_option maxRecDepth 20000 in
theorem ggX4_milk_X4_isNoDay : GoodIn wsX4_milk wsX4_isNoDay := goodIn_r _ [11, 6, 7, 4, 8] (by decide +kernel) (by decide +kernel)
set_option maxRecDepth 20000 in
theorem gX4_milk_X4_isNoDay : GoodIn wsX4_milk (va_wsS RX4 177 yX4_isNoDay wsX4_isNoDay) := goodIn_app (goodIn_of _ (by decide +kernel)) ggX4_milk_X4_isNoDay
set_option maxRecDepth 20000 in
theorem ggX4_milk_X1_isMissing : GoodIn wsX4_milk wsX1_isMissing := goodIn_r _ [16, 17, 44, 45, 46, 47, 48, 49, 50, 51, 52, 53, 54] (by decide +kernel) (by decide +kernel)
set_option maxRecDepth 20000 in
theorem gX4_milk_X1_isMissing : GoodIn wsX4_milk (wsV RX4 157 RX1 yX1_isMissing wsX1_isMissing) := goodIn_app (goodIn_of _ (by decide +kernel)) ggX4_milk_X1_isMissing
set_option maxRecDepth 20000 in
theorem ggX4_milk_X1_milkOf : GoodIn wsX4_milk wsX1_milkOf := goodIn_r _ [21, 22, 23, 24, 15, 25, 26, 27, 28, 29, 30, 31, 32, 33, 44, 45, 46, 47, 48, 49, 50, 51, 52, 53, 54] (by decide +kernel) (by decide +kernel)
set_option maxRecDepth 20000 in
theorem gX4_milk_X1_milkOf : GoodIn wsX4_milk (wsV RX4 183 RX1 yX1_milkOf wsX1_milkOf) := goodIn_app (goodIn_of _ (by decide +kernel)) ggX4_milk_X1_milkOf
theorem dX4_milk_0 : decode cX4_milk 0 = .ok (.iload_n 1, 1) := by decide +kernel
theorem dX4_milk_1 : decode cX4_milk 1 = .ok (.invokestatic 148, 3) := by decide +kernel
theorem dX4_milk_4 : decode cX4_milk 4 = .ok (.ifCond .ne 22, 3) := by decide +kernel
theorem dX4_milk_7 : decode cX4_milk 7 = .ok (.iload_n 2, 1) := by decide +kernel
theorem dX4_milk_8 : decode cX4_milk 8 = .ok (.invokestatic 177, 3) := by decide +kernel
theorem dX4_milk_11 : decode cX4_milk 11 = .ok (.ifCond .ne 15, 3) := by decide +kernel
theorem dX4_milk_14 : decode cX4_milk 14 = .ok (.iload_n 3, 1) := by decide +kernel
theorem dX4_milk_15 : decode cX4_milk 15 = .ok (.invokestatic 177, 3) := by decide +kernel
theorem dX4_milk_18 : decode cX4_milk 18 = .ok (.ifCond .ne 8, 3) := by decide +kernel
theorem dX4_milk_21 : decode cX4_milk 21 = .ok (.iload_n 3, 1) := by decide +kernel
theorem dX4_milk_22 : decode cX4_milk 22 = .ok (.iload_n 2, 1) := by decide +kernel
theorem dX4_milk_23 : decode cX4_milk 23 = .ok (.if_icmp .ge 5, 3) := by decide +kernel
theorem dX4_milk_26 : decode cX4_milk 26 = .ok (.iconst (-1), 1) := by decide +kernel
theorem dX4_milk_27 : decode cX4_milk 27 = .ok (.ireturn, 1) := by decide +kernel
theorem dX4_milk_28 : decode cX4_milk 28 = .ok (.aload_n 0, 1) := by decide +kernel
theorem dX4_milk_29 : decode cX4_milk 29 = .ok (.getfield 21, 3) := by decide +kernel
theorem dX4_milk_32 : decode cX4_milk 32 = .ok (.invokevirtual 157, 3) := by decide +kernel
theorem dX4_milk_35 : decode cX4_milk 35 = .ok (.ifCond .eq 6, 3) := by decide +kernel
theorem dX4_milk_38 : decode cX4_milk 38 = .ok (.bipush (-4), 2) := by decide +kernel
theorem dX4_milk_40 : decode cX4_milk 40 = .ok (.ireturn, 1) := by decide +kernel
theorem dX4_milk_41 : decode cX4_milk 41 = .ok (.aload_n 0, 1) := by decide +kernel
theorem dX4_milk_42 : decode cX4_milk 42 = .ok (.getfield 21, 3) := by decide +kernel
theorem dX4_milk_45 : decode cX4_milk 45 = .ok (.iload_n 1, 1) := by decide +kernel
theorem dX4_milk_46 : decode cX4_milk 46 = .ok (.iload_n 2, 1) := by decide +kernel
theorem dX4_milk_47 : decode cX4_milk 47 = .ok (.iload_n 3, 1) := by decide +kernel
theorem dX4_milk_48 : decode cX4_milk 48 = .ok (.invokevirtual 183, 3) := by decide +kernel
theorem dX4_milk_51 : decode cX4_milk 51 = .ok (.ireturn, 1) := by decide +kernel
set_option maxRecDepth 20000 in
theorem ggX4_walks_X4_isNoDay : GoodIn wsX4_walks wsX4_isNoDay := goodIn_r _ [5, 6, 7, 4, 8] (by decide +kernel) (by decide +kernel)
set_option maxRecDepth 20000 in
theorem gX4_walks_X4_isNoDay : GoodIn wsX4_walks (va_wsS RX4 177 yX4_isNoDay wsX4_isNoDay) := goodIn_app (goodIn_of _ (by decide +kernel)) ggX4_walks_X4_isNoDay
set_option maxRecDepth 20000 in
theorem ggX4_walks_X1_isMissing : GoodIn wsX4_walks wsX1_isMissing := goodIn_r _ [13, 14, 31, 32, 33, 34, 35, 36, 37, 38, 39, 40, 41] (by decide +kernel) (by decide +kernel)
set_option maxRecDepth 20000 in
theorem gX4_walks_X1_isMissing : GoodIn wsX4_walks (wsV RX4 157 RX1 yX1_isMissing wsX1_isMissing) := goodIn_app (goodIn_of _ (by decide +kernel)) ggX4_walks_X1_isMissing
set_option maxRecDepth 20000 in
theorem ggX4_walks_X1_farmOn : GoodIn wsX4_walks wsX1_farmOn := goodIn_r _ [18, 19, 20, 31, 32, 33, 34, 35, 36, 37, 38, 39, 40, 41] (by decide +kernel) (by decide +kernel)
set_option maxRecDepth 20000 in
theorem gX4_walks_X1_farmOn : GoodIn wsX4_walks (wsV RX4 180 RX1 yX1_farmOn wsX1_farmOn) := goodIn_app (goodIn_of _ (by decide +kernel)) ggX4_walks_X1_farmOn
theorem dX4_walks_0 : decode cX4_walks 0 = .ok (.iload_n 1, 1) := by decide +kernel
theorem dX4_walks_1 : decode cX4_walks 1 = .ok (.invokestatic 177, 3) := by decide +kernel
theorem dX4_walks_4 : decode cX4_walks 4 = .ok (.ifCond .eq 5, 3) := by decide +kernel
theorem dX4_walks_7 : decode cX4_walks 7 = .ok (.iconst (-1), 1) := by decide +kernel
theorem dX4_walks_8 : decode cX4_walks 8 = .ok (.ireturn, 1) := by decide +kernel
theorem dX4_walks_9 : decode cX4_walks 9 = .ok (.aload_n 0, 1) := by decide +kernel
theorem dX4_walks_10 : decode cX4_walks 10 = .ok (.getfield 21, 3) := by decide +kernel
theorem dX4_walks_13 : decode cX4_walks 13 = .ok (.invokevirtual 157, 3) := by decide +kernel
theorem dX4_walks_16 : decode cX4_walks 16 = .ok (.ifCond .eq 6, 3) := by decide +kernel
theorem dX4_walks_19 : decode cX4_walks 19 = .ok (.bipush (-4), 2) := by decide +kernel
theorem dX4_walks_21 : decode cX4_walks 21 = .ok (.ireturn, 1) := by decide +kernel
theorem dX4_walks_22 : decode cX4_walks 22 = .ok (.iconst 0, 1) := by decide +kernel
theorem dX4_walks_23 : decode cX4_walks 23 = .ok (.istore_n 2, 1) := by decide +kernel
theorem dX4_walks_24 : decode cX4_walks 24 = .ok (.iconst 1, 1) := by decide +kernel
theorem dX4_walks_25 : decode cX4_walks 25 = .ok (.istore_n 3, 1) := by decide +kernel
theorem dX4_walks_26 : decode cX4_walks 26 = .ok (.iload_n 3, 1) := by decide +kernel
theorem dX4_walks_27 : decode cX4_walks 27 = .ok (.iload_n 1, 1) := by decide +kernel
theorem dX4_walks_28 : decode cX4_walks 28 = .ok (.if_icmp .gt 33, 3) := by decide +kernel
theorem dX4_walks_31 : decode cX4_walks 31 = .ok (.aload_n 0, 1) := by decide +kernel
theorem dX4_walks_32 : decode cX4_walks 32 = .ok (.getfield 21, 3) := by decide +kernel
theorem dX4_walks_35 : decode cX4_walks 35 = .ok (.iload_n 3, 1) := by decide +kernel
theorem dX4_walks_36 : decode cX4_walks 36 = .ok (.invokevirtual 180, 3) := by decide +kernel
theorem dX4_walks_39 : decode cX4_walks 39 = .ok (.aload_n 0, 1) := by decide +kernel
theorem dX4_walks_40 : decode cX4_walks 40 = .ok (.getfield 21, 3) := by decide +kernel
theorem dX4_walks_43 : decode cX4_walks 43 = .ok (.iload_n 3, 1) := by decide +kernel
theorem dX4_walks_44 : decode cX4_walks 44 = .ok (.iconst 1, 1) := by decide +kernel
theorem dX4_walks_45 : decode cX4_walks 45 = .ok (.isub, 1) := by decide +kernel
theorem dX4_walks_46 : decode cX4_walks 46 = .ok (.invokevirtual 180, 3) := by decide +kernel
theorem dX4_walks_49 : decode cX4_walks 49 = .ok (.if_icmp .eq 6, 3) := by decide +kernel
theorem dX4_walks_52 : decode cX4_walks 52 = .ok (.iinc 2 1, 3) := by decide +kernel
theorem dX4_walks_55 : decode cX4_walks 55 = .ok (.iinc 3 1, 3) := by decide +kernel
theorem dX4_walks_58 : decode cX4_walks 58 = .ok (.goto (-32), 3) := by decide +kernel
theorem dX4_walks_61 : decode cX4_walks 61 = .ok (.iload_n 2, 1) := by decide +kernel
theorem dX4_walks_62 : decode cX4_walks 62 = .ok (.ireturn, 1) := by decide +kernel
set_option maxRecDepth 20000 in
theorem ggX4_out_X4_outside : GoodIn wsX4_out wsX4_outside := goodIn_r _ [10] (by decide +kernel) (by decide +kernel)
set_option maxRecDepth 20000 in
theorem gX4_out_X4_outside : GoodIn wsX4_out (va_wsS RX4 120 yX4_outside wsX4_outside) := goodIn_app (goodIn_of _ (by decide +kernel)) ggX4_out_X4_outside
set_option maxRecDepth 20000 in
theorem ggX4_out_X1_isMissing : GoodIn wsX4_out wsX1_isMissing := goodIn_r _ [15, 16, 43, 44, 45, 46, 47, 48, 49, 50, 51, 52, 53] (by decide +kernel) (by decide +kernel)
set_option maxRecDepth 20000 in
theorem gX4_out_X1_isMissing : GoodIn wsX4_out (wsV RX4 157 RX1 yX1_isMissing wsX1_isMissing) := goodIn_app (goodIn_of _ (by decide +kernel)) ggX4_out_X1_isMissing
set_option maxRecDepth 20000 in
theorem ggX4_out_X1_leadOn : GoodIn wsX4_out wsX1_leadOn := goodIn_r _ [20, 21, 22, 23, 14, 24, 25, 26, 27, 28, 29, 30, 31, 32, 43, 44, 45, 46, 47, 48, 49, 50, 51, 52, 53] (by decide +kernel) (by decide +kernel)
set_option maxRecDepth 20000 in
theorem gX4_out_X1_leadOn : GoodIn wsX4_out (wsV RX4 187 RX1 yX1_leadOn wsX1_leadOn) := goodIn_app (goodIn_of _ (by decide +kernel)) ggX4_out_X1_leadOn
theorem dX4_out_0 : decode cX4_out 0 = .ok (.iload_n 1, 1) := by decide +kernel
theorem dX4_out_1 : decode cX4_out 1 = .ok (.iconst 0, 1) := by decide +kernel
theorem dX4_out_2 : decode cX4_out 2 = .ok (.bipush 99, 2) := by decide +kernel
theorem dX4_out_4 : decode cX4_out 4 = .ok (.invokestatic 120, 3) := by decide +kernel
theorem dX4_out_7 : decode cX4_out 7 = .ok (.ifCond .eq 5, 3) := by decide +kernel
theorem dX4_out_10 : decode cX4_out 10 = .ok (.iconst (-1), 1) := by decide +kernel
theorem dX4_out_11 : decode cX4_out 11 = .ok (.ireturn, 1) := by decide +kernel
theorem dX4_out_12 : decode cX4_out 12 = .ok (.aload_n 0, 1) := by decide +kernel
theorem dX4_out_13 : decode cX4_out 13 = .ok (.getfield 21, 3) := by decide +kernel
theorem dX4_out_16 : decode cX4_out 16 = .ok (.invokevirtual 157, 3) := by decide +kernel
theorem dX4_out_19 : decode cX4_out 19 = .ok (.ifCond .eq 6, 3) := by decide +kernel
theorem dX4_out_22 : decode cX4_out 22 = .ok (.bipush (-4), 2) := by decide +kernel
theorem dX4_out_24 : decode cX4_out 24 = .ok (.ireturn, 1) := by decide +kernel
theorem dX4_out_25 : decode cX4_out 25 = .ok (.iconst 0, 1) := by decide +kernel
theorem dX4_out_26 : decode cX4_out 26 = .ok (.istore_n 2, 1) := by decide +kernel
theorem dX4_out_27 : decode cX4_out 27 = .ok (.iconst 0, 1) := by decide +kernel
theorem dX4_out_28 : decode cX4_out 28 = .ok (.istore_n 3, 1) := by decide +kernel
theorem dX4_out_29 : decode cX4_out 29 = .ok (.iload_n 3, 1) := by decide +kernel
theorem dX4_out_30 : decode cX4_out 30 = .ok (.sipush 999, 3) := by decide +kernel
theorem dX4_out_33 : decode cX4_out 33 = .ok (.if_icmp .gt 43, 3) := by decide +kernel
theorem dX4_out_36 : decode cX4_out 36 = .ok (.iload_n 2, 1) := by decide +kernel
theorem dX4_out_37 : decode cX4_out 37 = .ok (.aload_n 0, 1) := by decide +kernel
theorem dX4_out_38 : decode cX4_out 38 = .ok (.getfield 21, 3) := by decide +kernel
theorem dX4_out_41 : decode cX4_out 41 = .ok (.iload_n 3, 1) := by decide +kernel
theorem dX4_out_42 : decode cX4_out 42 = .ok (.invokevirtual 187, 3) := by decide +kernel
theorem dX4_out_45 : decode cX4_out 45 = .ok (.iadd, 1) := by decide +kernel
theorem dX4_out_46 : decode cX4_out 46 = .ok (.istore_n 2, 1) := by decide +kernel
theorem dX4_out_47 : decode cX4_out 47 = .ok (.iload_n 2, 1) := by decide +kernel
theorem dX4_out_48 : decode cX4_out 48 = .ok (.invokestatic 190, 3) := by decide +kernel
theorem dX4_out_51 : decode cX4_out 51 = .ok (.iload_n 1, 1) := by decide +kernel
theorem dX4_out_52 : decode cX4_out 52 = .ok (.if_icmp .le 18, 3) := by decide +kernel
theorem dX4_out_55 : decode cX4_out 55 = .ok (.aload_n 0, 1) := by decide +kernel
theorem dX4_out_56 : decode cX4_out 56 = .ok (.iload_n 2, 1) := by decide +kernel
theorem dX4_out_57 : decode cX4_out 57 = .ok (.ifCond .le 7, 3) := by decide +kernel
theorem dX4_out_60 : decode cX4_out 60 = .ok (.iconst 0, 1) := by decide +kernel
theorem dX4_out_61 : decode cX4_out 61 = .ok (.goto 4, 3) := by decide +kernel
theorem dX4_out_64 : decode cX4_out 64 = .ok (.iconst 1, 1) := by decide +kernel
theorem dX4_out_65 : decode cX4_out 65 = .ok (.putfield 74, 3) := by decide +kernel
theorem dX4_out_68 : decode cX4_out 68 = .ok (.iload_n 3, 1) := by decide +kernel
theorem dX4_out_69 : decode cX4_out 69 = .ok (.ireturn, 1) := by decide +kernel
theorem dX4_out_70 : decode cX4_out 70 = .ok (.iinc 3 1, 3) := by decide +kernel
theorem dX4_out_73 : decode cX4_out 73 = .ok (.goto (-44), 3) := by decide +kernel
theorem dX4_out_76 : decode cX4_out 76 = .ok (.bipush (-9), 2) := by decide +kernel
theorem dX4_out_78 : decode cX4_out 78 = .ok (.ireturn, 1) := by decide +kernel
theorem dX4_round_0 : decode cX4_round 0 = .ok (.aload_n 0, 1) := by decide +kernel
theorem dX4_round_1 : decode cX4_round 1 = .ok (.getfield 21, 3) := by decide +kernel
theorem dX4_round_4 : decode cX4_round 4 = .ok (.getfield 145, 3) := by decide +kernel
theorem dX4_round_7 : decode cX4_round 7 = .ok (.iconst 1, 1) := by decide +kernel
theorem dX4_round_8 : decode cX4_round 8 = .ok (.if_icmp .lt 14, 3) := by decide +kernel
theorem dX4_round_11 : decode cX4_round 11 = .ok (.aload_n 0, 1) := by decide +kernel
theorem dX4_round_12 : decode cX4_round 12 = .ok (.getfield 21, 3) := by decide +kernel
theorem dX4_round_15 : decode cX4_round 15 = .ok (.getfield 195, 3) := by decide +kernel
theorem dX4_round_18 : decode cX4_round 18 = .ok (.iconst 1, 1) := by decide +kernel
theorem dX4_round_19 : decode cX4_round 19 = .ok (.if_icmp .ge 6, 3) := by decide +kernel
theorem dX4_round_22 : decode cX4_round 22 = .ok (.bipush (-4), 2) := by decide +kernel
theorem dX4_round_24 : decode cX4_round 24 = .ok (.ireturn, 1) := by decide +kernel
theorem dX4_round_25 : decode cX4_round 25 = .ok (.iconst 1, 1) := by decide +kernel
theorem dX4_round_26 : decode cX4_round 26 = .ok (.istore_n 1, 1) := by decide +kernel
theorem dX4_round_27 : decode cX4_round 27 = .ok (.iload_n 1, 1) := by decide +kernel
theorem dX4_round_28 : decode cX4_round 28 = .ok (.sipush 999, 3) := by decide +kernel
theorem dX4_round_31 : decode cX4_round 31 = .ok (.if_icmp .gt 35, 3) := by decide +kernel
theorem dX4_round_34 : decode cX4_round 34 = .ok (.iload_n 1, 1) := by decide +kernel
theorem dX4_round_35 : decode cX4_round 35 = .ok (.aload_n 0, 1) := by decide +kernel
theorem dX4_round_36 : decode cX4_round 36 = .ok (.getfield 21, 3) := by decide +kernel
theorem dX4_round_39 : decode cX4_round 39 = .ok (.getfield 145, 3) := by decide +kernel
theorem dX4_round_42 : decode cX4_round 42 = .ok (.irem, 1) := by decide +kernel
theorem dX4_round_43 : decode cX4_round 43 = .ok (.ifCond .ne 17, 3) := by decide +kernel
theorem dX4_round_46 : decode cX4_round 46 = .ok (.iload_n 1, 1) := by decide +kernel
theorem dX4_round_47 : decode cX4_round 47 = .ok (.aload_n 0, 1) := by decide +kernel
theorem dX4_round_48 : decode cX4_round 48 = .ok (.getfield 21, 3) := by decide +kernel
theorem dX4_round_51 : decode cX4_round 51 = .ok (.getfield 195, 3) := by decide +kernel
theorem dX4_round_54 : decode cX4_round 54 = .ok (.irem, 1) := by decide +kernel
theorem dX4_round_55 : decode cX4_round 55 = .ok (.ifCond .ne 5, 3) := by decide +kernel
theorem dX4_round_58 : decode cX4_round 58 = .ok (.iload_n 1, 1) := by decide +kernel
theorem dX4_round_59 : decode cX4_round 59 = .ok (.ireturn, 1) := by decide +kernel
theorem dX4_round_60 : decode cX4_round 60 = .ok (.iinc 1 1, 3) := by decide +kernel
theorem dX4_round_63 : decode cX4_round 63 = .ok (.goto (-36), 3) := by decide +kernel
theorem dX4_round_66 : decode cX4_round 66 = .ok (.bipush (-9), 2) := by decide +kernel
theorem dX4_round_68 : decode cX4_round 68 = .ok (.ireturn, 1) := by decide +kernel
set_option maxRecDepth 20000 in
theorem ggX4_best_X4_outside : GoodIn wsX4_best wsX4_outside := goodIn_r _ [12] (by decide +kernel) (by decide +kernel)
set_option maxRecDepth 20000 in
theorem gX4_best_X4_outside : GoodIn wsX4_best (va_wsS RX4 120 yX4_outside wsX4_outside) := goodIn_app (goodIn_of _ (by decide +kernel)) ggX4_best_X4_outside
set_option maxRecDepth 20000 in
theorem ggX4_best_X4_isNone : GoodIn wsX4_best wsX4_isNone := goodIn_r _ [15] (by decide +kernel) (by decide +kernel)
set_option maxRecDepth 20000 in
theorem gX4_best_X4_isNone : GoodIn wsX4_best (va_wsS RX4 55 yX4_isNone wsX4_isNone) := goodIn_app (goodIn_of _ (by decide +kernel)) ggX4_best_X4_isNone
set_option maxRecDepth 20000 in
theorem ggX4_best_X1_isMissing : GoodIn wsX4_best wsX1_isMissing := goodIn_r _ [20, 21, 70, 71, 72, 73, 74, 75, 76, 77, 78, 79, 80] (by decide +kernel) (by decide +kernel)
set_option maxRecDepth 20000 in
theorem gX4_best_X1_isMissing : GoodIn wsX4_best (wsV RX4 157 RX1 yX1_isMissing wsX1_isMissing) := goodIn_app (goodIn_of _ (by decide +kernel)) ggX4_best_X1_isMissing
set_option maxRecDepth 20000 in
theorem ggX4_best_X4_leadByCode : GoodIn wsX4_best wsX4_leadByCode := goodIn_r _ [25, 1, 26, 27, 11, 28, 29, 30, 31, 19, 32, 33, 34, 60, 61, 62, 63, 64, 65, 66, 67, 68, 69, 70, 71, 72, 73, 74, 75, 76, 77, 78, 79, 80] (by decide +kernel) (by decide +kernel)
set_option maxRecDepth 20000 in
theorem gX4_best_X4_leadByCode : GoodIn wsX4_best (wsV RX4 199 RX4 yX4_leadByCode wsX4_leadByCode) := goodIn_app (goodIn_of _ (by decide +kernel)) ggX4_best_X4_leadByCode
set_option maxRecDepth 20000 in
theorem ggX4_best_X4_walksByCode : GoodIn wsX4_best wsX4_walksByCode := goodIn_r _ [37, 38, 39, 40, 41, 42, 43, 44] (by decide +kernel) (by decide +kernel)
set_option maxRecDepth 20000 in
theorem gX4_best_X4_walksByCode : GoodIn wsX4_best (va_wsS RX4 202 yX4_walksByCode wsX4_walksByCode) := goodIn_app (goodIn_of _ (by decide +kernel)) ggX4_best_X4_walksByCode
set_option maxRecDepth 20000 in
theorem ggX4_best_X4_layCode : GoodIn wsX4_best wsX4_layCode := goodIn_r _ [47, 48, 49, 50, 51, 52, 53, 54, 55, 56, 57, 5, 58, 59, 26, 27, 11, 28, 81, 82] (by decide +kernel) (by decide +kernel)
set_option maxRecDepth 20000 in
theorem gX4_best_X4_layCode : GoodIn wsX4_best (va_wsS RX4 205 yX4_layCode wsX4_layCode) := goodIn_app (goodIn_of _ (by decide +kernel)) ggX4_best_X4_layCode
theorem dX4_best_0 : decode cX4_best 0 = .ok (.iload_n 1, 1) := by decide +kernel
theorem dX4_best_1 : decode cX4_best 1 = .ok (.iconst 1, 1) := by decide +kernel
theorem dX4_best_2 : decode cX4_best 2 = .ok (.bipush 8, 2) := by decide +kernel
theorem dX4_best_4 : decode cX4_best 4 = .ok (.invokestatic 120, 3) := by decide +kernel
theorem dX4_best_7 : decode cX4_best 7 = .ok (.ifCond .ne 12, 3) := by decide +kernel
theorem dX4_best_10 : decode cX4_best 10 = .ok (.iload_n 2, 1) := by decide +kernel
theorem dX4_best_11 : decode cX4_best 11 = .ok (.bipush 6, 2) := by decide +kernel
theorem dX4_best_13 : decode cX4_best 13 = .ok (.invokestatic 55, 3) := by decide +kernel
theorem dX4_best_16 : decode cX4_best 16 = .ok (.ifCond .eq 5, 3) := by decide +kernel
theorem dX4_best_19 : decode cX4_best 19 = .ok (.iconst (-1), 1) := by decide +kernel
theorem dX4_best_20 : decode cX4_best 20 = .ok (.ireturn, 1) := by decide +kernel
theorem dX4_best_21 : decode cX4_best 21 = .ok (.aload_n 0, 1) := by decide +kernel
theorem dX4_best_22 : decode cX4_best 22 = .ok (.getfield 21, 3) := by decide +kernel
theorem dX4_best_25 : decode cX4_best 25 = .ok (.invokevirtual 157, 3) := by decide +kernel
theorem dX4_best_28 : decode cX4_best 28 = .ok (.ifCond .eq 6, 3) := by decide +kernel
theorem dX4_best_31 : decode cX4_best 31 = .ok (.bipush (-4), 2) := by decide +kernel
theorem dX4_best_33 : decode cX4_best 33 = .ok (.ireturn, 1) := by decide +kernel
theorem dX4_best_34 : decode cX4_best 34 = .ok (.iconst 0, 1) := by decide +kernel
theorem dX4_best_35 : decode cX4_best 35 = .ok (.istore_n 3, 1) := by decide +kernel
theorem dX4_best_36 : decode cX4_best 36 = .ok (.ldc 198, 2) := by decide +kernel
theorem dX4_best_38 : decode cX4_best 38 = .ok (.istore 4, 2) := by decide +kernel
theorem dX4_best_40 : decode cX4_best 40 = .ok (.ldc 198, 2) := by decide +kernel
theorem dX4_best_42 : decode cX4_best 42 = .ok (.istore 5, 2) := by decide +kernel
theorem dX4_best_44 : decode cX4_best 44 = .ok (.iconst 0, 1) := by decide +kernel
theorem dX4_best_45 : decode cX4_best 45 = .ok (.istore 6, 2) := by decide +kernel
theorem dX4_best_47 : decode cX4_best 47 = .ok (.iload 6, 2) := by decide +kernel
theorem dX4_best_49 : decode cX4_best 49 = .ok (.iconst 1, 1) := by decide +kernel
theorem dX4_best_50 : decode cX4_best 50 = .ok (.iload_n 1, 1) := by decide +kernel
theorem dX4_best_51 : decode cX4_best 51 = .ok (.ishl, 1) := by decide +kernel
theorem dX4_best_52 : decode cX4_best 52 = .ok (.if_icmp .ge 61, 3) := by decide +kernel
theorem dX4_best_55 : decode cX4_best 55 = .ok (.aload_n 0, 1) := by decide +kernel
theorem dX4_best_56 : decode cX4_best 56 = .ok (.iload 6, 2) := by decide +kernel
theorem dX4_best_58 : decode cX4_best 58 = .ok (.iload_n 1, 1) := by decide +kernel
theorem dX4_best_59 : decode cX4_best 59 = .ok (.invokevirtual 199, 3) := by decide +kernel
theorem dX4_best_62 : decode cX4_best 62 = .ok (.invokestatic 190, 3) := by decide +kernel
theorem dX4_best_65 : decode cX4_best 65 = .ok (.istore 7, 2) := by decide +kernel
theorem dX4_best_67 : decode cX4_best 67 = .ok (.iload 6, 2) := by decide +kernel
theorem dX4_best_69 : decode cX4_best 69 = .ok (.iload_n 1, 1) := by decide +kernel
theorem dX4_best_70 : decode cX4_best 70 = .ok (.invokestatic 202, 3) := by decide +kernel
theorem dX4_best_73 : decode cX4_best 73 = .ok (.istore 8, 2) := by decide +kernel
theorem dX4_best_75 : decode cX4_best 75 = .ok (.iload 7, 2) := by decide +kernel
theorem dX4_best_77 : decode cX4_best 77 = .ok (.iload 4, 2) := by decide +kernel
theorem dX4_best_79 : decode cX4_best 79 = .ok (.if_icmp .lt 17, 3) := by decide +kernel
theorem dX4_best_82 : decode cX4_best 82 = .ok (.iload 7, 2) := by decide +kernel
theorem dX4_best_84 : decode cX4_best 84 = .ok (.iload 4, 2) := by decide +kernel
theorem dX4_best_86 : decode cX4_best 86 = .ok (.if_icmp .ne 21, 3) := by decide +kernel
theorem dX4_best_89 : decode cX4_best 89 = .ok (.iload 8, 2) := by decide +kernel
theorem dX4_best_91 : decode cX4_best 91 = .ok (.iload 5, 2) := by decide +kernel
theorem dX4_best_93 : decode cX4_best 93 = .ok (.if_icmp .ge 14, 3) := by decide +kernel
theorem dX4_best_96 : decode cX4_best 96 = .ok (.iload 6, 2) := by decide +kernel
theorem dX4_best_98 : decode cX4_best 98 = .ok (.istore_n 3, 1) := by decide +kernel
theorem dX4_best_99 : decode cX4_best 99 = .ok (.iload 7, 2) := by decide +kernel
theorem dX4_best_101 : decode cX4_best 101 = .ok (.istore 4, 2) := by decide +kernel
theorem dX4_best_103 : decode cX4_best 103 = .ok (.iload 8, 2) := by decide +kernel
theorem dX4_best_105 : decode cX4_best 105 = .ok (.istore 5, 2) := by decide +kernel
theorem dX4_best_107 : decode cX4_best 107 = .ok (.iinc 6 1, 3) := by decide +kernel
theorem dX4_best_110 : decode cX4_best 110 = .ok (.goto (-63), 3) := by decide +kernel
theorem dX4_best_113 : decode cX4_best 113 = .ok (.aload_n 0, 1) := by decide +kernel
theorem dX4_best_114 : decode cX4_best 114 = .ok (.getfield 11, 3) := by decide +kernel
theorem dX4_best_117 : decode cX4_best 117 = .ok (.iload_n 2, 1) := by decide +kernel
theorem dX4_best_118 : decode cX4_best 118 = .ok (.aaload, 1) := by decide +kernel
theorem dX4_best_119 : decode cX4_best 119 = .ok (.iload_n 3, 1) := by decide +kernel
theorem dX4_best_120 : decode cX4_best 120 = .ok (.iload_n 1, 1) := by decide +kernel
theorem dX4_best_121 : decode cX4_best 121 = .ok (.invokestatic 205, 3) := by decide +kernel
theorem dX4_best_124 : decode cX4_best 124 = .ok (.aload_n 0, 1) := by decide +kernel
theorem dX4_best_125 : decode cX4_best 125 = .ok (.iload 5, 2) := by decide +kernel
theorem dX4_best_127 : decode cX4_best 127 = .ok (.putfield 74, 3) := by decide +kernel
theorem dX4_best_130 : decode cX4_best 130 = .ok (.iload 4, 2) := by decide +kernel
theorem dX4_best_132 : decode cX4_best 132 = .ok (.ireturn, 1) := by decide +kernel
set_option maxRecDepth 20000 in
theorem ggX4_even_X1_isMissing : GoodIn wsX4_even wsX1_isMissing := goodIn_r _ [8, 9, 55, 56, 57, 58, 59, 60, 61, 62, 63, 64, 65] (by decide +kernel) (by decide +kernel)
set_option maxRecDepth 20000 in
theorem gX4_even_X1_isMissing : GoodIn wsX4_even (wsV RX4 157 RX1 yX1_isMissing wsX1_isMissing) := goodIn_app (goodIn_of _ (by decide +kernel)) ggX4_even_X1_isMissing
set_option maxRecDepth 20000 in
theorem ggX4_even_X4_leadsByTurn : GoodIn wsX4_even wsX4_leadsByTurn := goodIn_r _ [14, 15, 1, 2, 16, 17, 13, 18, 19, 20, 21, 7, 22, 23, 24, 25, 26, 27, 28, 29, 30, 31, 32, 33, 34, 45, 46, 47, 48, 49, 50, 51, 52, 53, 54, 55, 56, 57, 58, 59, 60, 61, 62, 63, 64, 65] (by decide +kernel) (by decide +kernel)
set_option maxRecDepth 20000 in
theorem gX4_even_X4_leadsByTurn : GoodIn wsX4_even (wsV RX4 209 RX4 yX4_leadsByTurn wsX4_leadsByTurn) := goodIn_app (goodIn_of _ (by decide +kernel)) ggX4_even_X4_leadsByTurn
set_option maxRecDepth 20000 in
theorem ggX4_even_J6_bitCount_0f7a4 : GoodIn wsX4_even wsJ6_bitCount_0f7a4 := goodIn_r _ [38, 39, 40, 41] (by decide +kernel) (by decide +kernel)
set_option maxRecDepth 20000 in
theorem gX4_even_J6_bitCount_0f7a4 : GoodIn wsX4_even (va_wsS RX4 213 yJ6_bitCount_0f7a4 wsJ6_bitCount_0f7a4) := goodIn_app (goodIn_of _ (by decide +kernel)) ggX4_even_J6_bitCount_0f7a4
set_option maxRecDepth 20000 in
theorem ggX4_even_X4_leadIfChanged : GoodIn wsX4_even wsX4_leadIfChanged := goodIn_r _ [44] (by decide +kernel) (by decide +kernel)
set_option maxRecDepth 20000 in
theorem gX4_even_X4_leadIfChanged : GoodIn wsX4_even (va_wsS RX4 218 yX4_leadIfChanged wsX4_leadIfChanged) := goodIn_app (goodIn_of _ (by decide +kernel)) ggX4_even_X4_leadIfChanged
theorem dX4_even_0 : decode cX4_even 0 = .ok (.aload_n 0, 1) := by decide +kernel
theorem dX4_even_1 : decode cX4_even 1 = .ok (.getfield 21, 3) := by decide +kernel
theorem dX4_even_4 : decode cX4_even 4 = .ok (.invokevirtual 157, 3) := by decide +kernel
theorem dX4_even_7 : decode cX4_even 7 = .ok (.ifCond .eq 6, 3) := by decide +kernel
theorem dX4_even_10 : decode cX4_even 10 = .ok (.bipush (-4), 2) := by decide +kernel
theorem dX4_even_12 : decode cX4_even 12 = .ok (.ireturn, 1) := by decide +kernel
theorem dX4_even_13 : decode cX4_even 13 = .ok (.aload_n 0, 1) := by decide +kernel
theorem dX4_even_14 : decode cX4_even 14 = .ok (.invokevirtual 209, 3) := by decide +kernel
theorem dX4_even_17 : decode cX4_even 17 = .ok (.astore_n 1, 1) := by decide +kernel
theorem dX4_even_18 : decode cX4_even 18 = .ok (.bipush 9, 2) := by decide +kernel
theorem dX4_even_20 : decode cX4_even 20 = .ok (.istore_n 2, 1) := by decide +kernel
theorem dX4_even_21 : decode cX4_even 21 = .ok (.iconst 0, 1) := by decide +kernel
theorem dX4_even_22 : decode cX4_even 22 = .ok (.istore_n 3, 1) := by decide +kernel
theorem dX4_even_23 : decode cX4_even 23 = .ok (.iconst 0, 1) := by decide +kernel
theorem dX4_even_24 : decode cX4_even 24 = .ok (.istore 4, 2) := by decide +kernel
theorem dX4_even_26 : decode cX4_even 26 = .ok (.iload 4, 2) := by decide +kernel
theorem dX4_even_28 : decode cX4_even 28 = .ok (.iconst 1, 1) := by decide +kernel
theorem dX4_even_29 : decode cX4_even 29 = .ok (.aload_n 0, 1) := by decide +kernel
theorem dX4_even_30 : decode cX4_even 30 = .ok (.getfield 21, 3) := by decide +kernel
theorem dX4_even_33 : decode cX4_even 33 = .ok (.getfield 145, 3) := by decide +kernel
theorem dX4_even_36 : decode cX4_even 36 = .ok (.ishl, 1) := by decide +kernel
theorem dX4_even_37 : decode cX4_even 37 = .ok (.if_icmp .ge 37, 3) := by decide +kernel
theorem dX4_even_40 : decode cX4_even 40 = .ok (.iload 4, 2) := by decide +kernel
theorem dX4_even_42 : decode cX4_even 42 = .ok (.invokestatic 213, 3) := by decide +kernel
theorem dX4_even_45 : decode cX4_even 45 = .ok (.istore 5, 2) := by decide +kernel
theorem dX4_even_47 : decode cX4_even 47 = .ok (.iload 5, 2) := by decide +kernel
theorem dX4_even_49 : decode cX4_even 49 = .ok (.iload_n 2, 1) := by decide +kernel
theorem dX4_even_50 : decode cX4_even 50 = .ok (.if_icmp .ge 18, 3) := by decide +kernel
theorem dX4_even_53 : decode cX4_even 53 = .ok (.aload_n 1, 1) := by decide +kernel
theorem dX4_even_54 : decode cX4_even 54 = .ok (.iload 4, 2) := by decide +kernel
theorem dX4_even_56 : decode cX4_even 56 = .ok (.invokestatic 218, 3) := by decide +kernel
theorem dX4_even_59 : decode cX4_even 59 = .ok (.ifCond .ne 9, 3) := by decide +kernel
theorem dX4_even_62 : decode cX4_even 62 = .ok (.iload 5, 2) := by decide +kernel
theorem dX4_even_64 : decode cX4_even 64 = .ok (.istore_n 2, 1) := by decide +kernel
theorem dX4_even_65 : decode cX4_even 65 = .ok (.iload 4, 2) := by decide +kernel
theorem dX4_even_67 : decode cX4_even 67 = .ok (.istore_n 3, 1) := by decide +kernel
theorem dX4_even_68 : decode cX4_even 68 = .ok (.iinc 4 1, 3) := by decide +kernel
theorem dX4_even_71 : decode cX4_even 71 = .ok (.goto (-45), 3) := by decide +kernel
theorem dX4_even_74 : decode cX4_even 74 = .ok (.iload_n 2, 1) := by decide +kernel
theorem dX4_even_75 : decode cX4_even 75 = .ok (.bipush 8, 2) := by decide +kernel
theorem dX4_even_77 : decode cX4_even 77 = .ok (.if_icmp .le 6, 3) := by decide +kernel
theorem dX4_even_80 : decode cX4_even 80 = .ok (.bipush (-9), 2) := by decide +kernel
theorem dX4_even_82 : decode cX4_even 82 = .ok (.ireturn, 1) := by decide +kernel
theorem dX4_even_83 : decode cX4_even 83 = .ok (.aload_n 0, 1) := by decide +kernel
theorem dX4_even_84 : decode cX4_even 84 = .ok (.iload_n 3, 1) := by decide +kernel
theorem dX4_even_85 : decode cX4_even 85 = .ok (.putfield 74, 3) := by decide +kernel
theorem dX4_even_88 : decode cX4_even 88 = .ok (.iload_n 2, 1) := by decide +kernel
theorem dX4_even_89 : decode cX4_even 89 = .ok (.ireturn, 1) := by decide +kernel
set_option maxRecDepth 20000 in
theorem ggX4_value_X4_isNoFarm : GoodIn wsX4_value wsX4_isNoFarm := goodIn_r _ [5, 6, 7, 4, 8] (by decide +kernel) (by decide +kernel)
set_option maxRecDepth 20000 in
theorem gX4_value_X4_isNoFarm : GoodIn wsX4_value (va_wsS RX4 148 yX4_isNoFarm wsX4_isNoFarm) := goodIn_app (goodIn_of _ (by decide +kernel)) ggX4_value_X4_isNoFarm
set_option maxRecDepth 20000 in
theorem ggX4_value_X1_setOf : GoodIn wsX4_value wsX1_setOf := goodIn_r _ [13, 14, 15, 16, 38, 39, 40, 41, 42, 43, 44, 45, 46, 47, 48, 49, 50, 51, 52, 53] (by decide +kernel) (by decide +kernel)
set_option maxRecDepth 20000 in
theorem gX4_value_X1_setOf : GoodIn wsX4_value (wsV RX4 222 RX1 yX1_setOf wsX1_setOf) := goodIn_app (goodIn_of _ (by decide +kernel)) ggX4_value_X1_setOf
set_option maxRecDepth 20000 in
theorem ggX4_value_X1_valueOfSet : GoodIn wsX4_value wsX1_valueOfSet := goodIn_r _ [20, 14, 15, 21, 22, 23, 24, 25, 26, 27, 38, 39, 40, 41, 42, 43, 44, 45, 46, 47, 48, 49, 50, 51, 52, 53] (by decide +kernel) (by decide +kernel)
set_option maxRecDepth 20000 in
theorem gX4_value_X1_valueOfSet : GoodIn wsX4_value (wsV RX4 225 RX1 yX1_valueOfSet wsX1_valueOfSet) := goodIn_app (goodIn_of _ (by decide +kernel)) ggX4_value_X1_valueOfSet
theorem dX4_value_0 : decode cX4_value 0 = .ok (.iload_n 1, 1) := by decide +kernel
theorem dX4_value_1 : decode cX4_value 1 = .ok (.invokestatic 148, 3) := by decide +kernel
theorem dX4_value_4 : decode cX4_value 4 = .ok (.ifCond .ne 10, 3) := by decide +kernel
theorem dX4_value_7 : decode cX4_value 7 = .ok (.iload_n 2, 1) := by decide +kernel
theorem dX4_value_8 : decode cX4_value 8 = .ok (.invokestatic 148, 3) := by decide +kernel
theorem dX4_value_11 : decode cX4_value 11 = .ok (.ifCond .eq 5, 3) := by decide +kernel
theorem dX4_value_14 : decode cX4_value 14 = .ok (.iconst (-1), 1) := by decide +kernel
theorem dX4_value_15 : decode cX4_value 15 = .ok (.ireturn, 1) := by decide +kernel
theorem dX4_value_16 : decode cX4_value 16 = .ok (.aload_n 0, 1) := by decide +kernel
theorem dX4_value_17 : decode cX4_value 17 = .ok (.getfield 21, 3) := by decide +kernel
theorem dX4_value_20 : decode cX4_value 20 = .ok (.aload_n 0, 1) := by decide +kernel
theorem dX4_value_21 : decode cX4_value 21 = .ok (.getfield 21, 3) := by decide +kernel
theorem dX4_value_24 : decode cX4_value 24 = .ok (.iload_n 1, 1) := by decide +kernel
theorem dX4_value_25 : decode cX4_value 25 = .ok (.invokevirtual 222, 3) := by decide +kernel
theorem dX4_value_28 : decode cX4_value 28 = .ok (.iload_n 2, 1) := by decide +kernel
theorem dX4_value_29 : decode cX4_value 29 = .ok (.invokevirtual 225, 3) := by decide +kernel
theorem dX4_value_32 : decode cX4_value 32 = .ok (.ireturn, 1) := by decide +kernel
set_option maxRecDepth 20000 in
theorem ggX4_fair_X1_isMissing : GoodIn wsX4_fair wsX1_isMissing := goodIn_r _ [7, 8, 44, 45, 46, 47, 48, 49, 50, 51, 52, 53, 54] (by decide +kernel) (by decide +kernel)
set_option maxRecDepth 20000 in
theorem gX4_fair_X1_isMissing : GoodIn wsX4_fair (wsV RX4 157 RX1 yX1_isMissing wsX1_isMissing) := goodIn_app (goodIn_of _ (by decide +kernel)) ggX4_fair_X1_isMissing
set_option maxRecDepth 20000 in
theorem ggX4_fair_X1_setOf : GoodIn wsX4_fair wsX1_setOf := goodIn_r _ [12, 8, 13, 14, 44, 45, 46, 47, 48, 49, 50, 51, 52, 53, 54, 55, 56, 57, 58, 59] (by decide +kernel) (by decide +kernel)
set_option maxRecDepth 20000 in
theorem gX4_fair_X1_setOf : GoodIn wsX4_fair (wsV RX4 222 RX1 yX1_setOf wsX1_setOf) := goodIn_app (goodIn_of _ (by decide +kernel)) ggX4_fair_X1_setOf
set_option maxRecDepth 20000 in
theorem ggX4_fair_X1_noneEnvies : GoodIn wsX4_fair wsX1_noneEnvies := goodIn_r _ [18, 19, 20, 21, 6, 22, 8, 23, 24, 25, 26, 13, 27, 28, 29, 30, 31, 32, 33, 44, 45, 46, 47, 48, 49, 50, 51, 52, 53, 54, 55, 56, 57, 58, 59] (by decide +kernel) (by decide +kernel)
set_option maxRecDepth 20000 in
theorem gX4_fair_X1_noneEnvies : GoodIn wsX4_fair (wsV RX4 228 RX1 yX1_noneEnvies wsX1_noneEnvies) := goodIn_app (goodIn_of _ (by decide +kernel)) ggX4_fair_X1_noneEnvies
theorem dX4_fair_0 : decode cX4_fair 0 = .ok (.aload_n 0, 1) := by decide +kernel
theorem dX4_fair_1 : decode cX4_fair 1 = .ok (.getfield 21, 3) := by decide +kernel
theorem dX4_fair_4 : decode cX4_fair 4 = .ok (.invokevirtual 157, 3) := by decide +kernel
theorem dX4_fair_7 : decode cX4_fair 7 = .ok (.ifCond .eq 6, 3) := by decide +kernel
theorem dX4_fair_10 : decode cX4_fair 10 = .ok (.bipush (-4), 2) := by decide +kernel
theorem dX4_fair_12 : decode cX4_fair 12 = .ok (.ireturn, 1) := by decide +kernel
theorem dX4_fair_13 : decode cX4_fair 13 = .ok (.aload_n 0, 1) := by decide +kernel
theorem dX4_fair_14 : decode cX4_fair 14 = .ok (.getfield 21, 3) := by decide +kernel
theorem dX4_fair_17 : decode cX4_fair 17 = .ok (.aload_n 0, 1) := by decide +kernel
theorem dX4_fair_18 : decode cX4_fair 18 = .ok (.getfield 21, 3) := by decide +kernel
theorem dX4_fair_21 : decode cX4_fair 21 = .ok (.iconst 1, 1) := by decide +kernel
theorem dX4_fair_22 : decode cX4_fair 22 = .ok (.invokevirtual 222, 3) := by decide +kernel
theorem dX4_fair_25 : decode cX4_fair 25 = .ok (.aload_n 0, 1) := by decide +kernel
theorem dX4_fair_26 : decode cX4_fair 26 = .ok (.getfield 21, 3) := by decide +kernel
theorem dX4_fair_29 : decode cX4_fair 29 = .ok (.getfield 171, 3) := by decide +kernel
theorem dX4_fair_32 : decode cX4_fair 32 = .ok (.invokevirtual 228, 3) := by decide +kernel
theorem dX4_fair_35 : decode cX4_fair 35 = .ok (.ifCond .eq 7, 3) := by decide +kernel
theorem dX4_fair_38 : decode cX4_fair 38 = .ok (.iconst 1, 1) := by decide +kernel
theorem dX4_fair_39 : decode cX4_fair 39 = .ok (.goto 4, 3) := by decide +kernel
theorem dX4_fair_42 : decode cX4_fair 42 = .ok (.iconst 0, 1) := by decide +kernel
theorem dX4_fair_43 : decode cX4_fair 43 = .ok (.ireturn, 1) := by decide +kernel
set_option maxRecDepth 20000 in
theorem ggX4_ways_X1_isMissing : GoodIn wsX4_ways wsX1_isMissing := goodIn_r _ [11, 12, 56, 57, 58, 59, 60, 61, 62, 63, 64, 65, 66] (by decide +kernel) (by decide +kernel)
set_option maxRecDepth 20000 in
theorem gX4_ways_X1_isMissing : GoodIn wsX4_ways (wsV RX4 157 RX1 yX1_isMissing wsX1_isMissing) := goodIn_app (goodIn_of _ (by decide +kernel)) ggX4_ways_X1_isMissing
set_option maxRecDepth 20000 in
theorem ggX4_ways_X1_allBeasts : GoodIn wsX4_ways wsX1_allBeasts := goodIn_r _ [16, 12, 56, 57, 58, 59, 60, 61, 62, 63, 64, 65, 66] (by decide +kernel) (by decide +kernel)
set_option maxRecDepth 20000 in
theorem gX4_ways_X1_allBeasts : GoodIn wsX4_ways (wsV RX4 231 RX1 yX1_allBeasts wsX1_allBeasts) := goodIn_app (goodIn_of _ (by decide +kernel)) ggX4_ways_X1_allBeasts
set_option maxRecDepth 20000 in
theorem ggX4_ways_X1_setOf : GoodIn wsX4_ways wsX1_setOf := goodIn_r _ [20, 12, 21, 22, 56, 57, 58, 59, 60, 61, 62, 63, 64, 65, 66, 67, 68, 69, 70, 71] (by decide +kernel) (by decide +kernel)
set_option maxRecDepth 20000 in
theorem gX4_ways_X1_setOf : GoodIn wsX4_ways (wsV RX4 222 RX1 yX1_setOf wsX1_setOf) := goodIn_app (goodIn_of _ (by decide +kernel)) ggX4_ways_X1_setOf
set_option maxRecDepth 20000 in
theorem ggX4_ways_X1_noneEnvies : GoodIn wsX4_ways wsX1_noneEnvies := goodIn_r _ [26, 27, 14, 15, 10, 16, 12, 28, 29, 30, 31, 21, 32, 33, 34, 35, 36, 37, 38, 56, 57, 58, 59, 60, 61, 62, 63, 64, 65, 66, 67, 68, 69, 70, 71] (by decide +kernel) (by decide +kernel)
set_option maxRecDepth 20000 in
theorem gX4_ways_X1_noneEnvies : GoodIn wsX4_ways (wsV RX4 228 RX1 yX1_noneEnvies wsX1_noneEnvies) := goodIn_app (goodIn_of _ (by decide +kernel)) ggX4_ways_X1_noneEnvies
set_option maxRecDepth 20000 in
theorem ggX4_ways_J6_bitCount_0f7a4 : GoodIn wsX4_ways wsJ6_bitCount_0f7a4 := goodIn_r _ [42, 43, 44, 45] (by decide +kernel) (by decide +kernel)
set_option maxRecDepth 20000 in
theorem gX4_ways_J6_bitCount_0f7a4 : GoodIn wsX4_ways (va_wsS RX4 213 yJ6_bitCount_0f7a4 wsJ6_bitCount_0f7a4) := goodIn_app (goodIn_of _ (by decide +kernel)) ggX4_ways_J6_bitCount_0f7a4
theorem dX4_ways_0 : decode cX4_ways 0 = .ok (.aload_n 0, 1) := by decide +kernel
theorem dX4_ways_1 : decode cX4_ways 1 = .ok (.getfield 21, 3) := by decide +kernel
theorem dX4_ways_4 : decode cX4_ways 4 = .ok (.invokevirtual 157, 3) := by decide +kernel
theorem dX4_ways_7 : decode cX4_ways 7 = .ok (.ifCond .eq 6, 3) := by decide +kernel
theorem dX4_ways_10 : decode cX4_ways 10 = .ok (.bipush (-4), 2) := by decide +kernel
theorem dX4_ways_12 : decode cX4_ways 12 = .ok (.ireturn, 1) := by decide +kernel
theorem dX4_ways_13 : decode cX4_ways 13 = .ok (.iconst 0, 1) := by decide +kernel
theorem dX4_ways_14 : decode cX4_ways 14 = .ok (.istore_n 1, 1) := by decide +kernel
theorem dX4_ways_15 : decode cX4_ways 15 = .ok (.bipush (-9), 2) := by decide +kernel
theorem dX4_ways_17 : decode cX4_ways 17 = .ok (.istore_n 2, 1) := by decide +kernel
theorem dX4_ways_18 : decode cX4_ways 18 = .ok (.aload_n 0, 1) := by decide +kernel
theorem dX4_ways_19 : decode cX4_ways 19 = .ok (.getfield 21, 3) := by decide +kernel
theorem dX4_ways_22 : decode cX4_ways 22 = .ok (.invokevirtual 231, 3) := by decide +kernel
theorem dX4_ways_25 : decode cX4_ways 25 = .ok (.istore_n 3, 1) := by decide +kernel
theorem dX4_ways_26 : decode cX4_ways 26 = .ok (.aload_n 0, 1) := by decide +kernel
theorem dX4_ways_27 : decode cX4_ways 27 = .ok (.getfield 21, 3) := by decide +kernel
theorem dX4_ways_30 : decode cX4_ways 30 = .ok (.iconst 1, 1) := by decide +kernel
theorem dX4_ways_31 : decode cX4_ways 31 = .ok (.invokevirtual 222, 3) := by decide +kernel
theorem dX4_ways_34 : decode cX4_ways 34 = .ok (.istore 4, 2) := by decide +kernel
theorem dX4_ways_36 : decode cX4_ways 36 = .ok (.iconst 0, 1) := by decide +kernel
theorem dX4_ways_37 : decode cX4_ways 37 = .ok (.istore 5, 2) := by decide +kernel
theorem dX4_ways_39 : decode cX4_ways 39 = .ok (.iload 5, 2) := by decide +kernel
theorem dX4_ways_41 : decode cX4_ways 41 = .ok (.iload_n 3, 1) := by decide +kernel
theorem dX4_ways_42 : decode cX4_ways 42 = .ok (.if_icmp .gt 53, 3) := by decide +kernel
theorem dX4_ways_45 : decode cX4_ways 45 = .ok (.aload_n 0, 1) := by decide +kernel
theorem dX4_ways_46 : decode cX4_ways 46 = .ok (.getfield 21, 3) := by decide +kernel
theorem dX4_ways_49 : decode cX4_ways 49 = .ok (.iload 5, 2) := by decide +kernel
theorem dX4_ways_51 : decode cX4_ways 51 = .ok (.iconst 0, 1) := by decide +kernel
theorem dX4_ways_52 : decode cX4_ways 52 = .ok (.invokevirtual 228, 3) := by decide +kernel
theorem dX4_ways_55 : decode cX4_ways 55 = .ok (.ifCond .eq 34, 3) := by decide +kernel
theorem dX4_ways_58 : decode cX4_ways 58 = .ok (.iload 5, 2) := by decide +kernel
theorem dX4_ways_60 : decode cX4_ways 60 = .ok (.iload 4, 2) := by decide +kernel
theorem dX4_ways_62 : decode cX4_ways 62 = .ok (.ixor, 1) := by decide +kernel
theorem dX4_ways_63 : decode cX4_ways 63 = .ok (.invokestatic 213, 3) := by decide +kernel
theorem dX4_ways_66 : decode cX4_ways 66 = .ok (.istore 6, 2) := by decide +kernel
theorem dX4_ways_68 : decode cX4_ways 68 = .ok (.iinc 1 1, 3) := by decide +kernel
theorem dX4_ways_71 : decode cX4_ways 71 = .ok (.iload_n 2, 1) := by decide +kernel
theorem dX4_ways_72 : decode cX4_ways 72 = .ok (.bipush (-9), 2) := by decide +kernel
theorem dX4_ways_74 : decode cX4_ways 74 = .ok (.if_icmp .ne 8, 3) := by decide +kernel
theorem dX4_ways_77 : decode cX4_ways 77 = .ok (.iload 6, 2) := by decide +kernel
theorem dX4_ways_79 : decode cX4_ways 79 = .ok (.goto 9, 3) := by decide +kernel
theorem dX4_ways_82 : decode cX4_ways 82 = .ok (.iload_n 2, 1) := by decide +kernel
theorem dX4_ways_83 : decode cX4_ways 83 = .ok (.iload 6, 2) := by decide +kernel
theorem dX4_ways_85 : decode cX4_ways 85 = .ok (.invokestatic 235, 3) := by decide +kernel
theorem dX4_ways_88 : decode cX4_ways 88 = .ok (.istore_n 2, 1) := by decide +kernel
theorem dX4_ways_89 : decode cX4_ways 89 = .ok (.iinc 5 1, 3) := by decide +kernel
theorem dX4_ways_92 : decode cX4_ways 92 = .ok (.goto (-53), 3) := by decide +kernel
theorem dX4_ways_95 : decode cX4_ways 95 = .ok (.aload_n 0, 1) := by decide +kernel
theorem dX4_ways_96 : decode cX4_ways 96 = .ok (.iload_n 2, 1) := by decide +kernel
theorem dX4_ways_97 : decode cX4_ways 97 = .ok (.putfield 74, 3) := by decide +kernel
theorem dX4_ways_100 : decode cX4_ways 100 = .ok (.iload_n 1, 1) := by decide +kernel
theorem dX4_ways_101 : decode cX4_ways 101 = .ok (.ireturn, 1) := by decide +kernel
set_option maxRecDepth 20000 in
theorem ggX4_part_X1_isMissing : GoodIn wsX4_part wsX1_isMissing := goodIn_r _ [11, 12, 39, 40, 41, 42, 43, 44, 45, 46, 47, 48, 49] (by decide +kernel) (by decide +kernel)
set_option maxRecDepth 20000 in
theorem gX4_part_X1_isMissing : GoodIn wsX4_part (wsV RX4 157 RX1 yX1_isMissing wsX1_isMissing) := goodIn_app (goodIn_of _ (by decide +kernel)) ggX4_part_X1_isMissing
set_option maxRecDepth 20000 in
theorem ggX4_part_X1_allBeasts : GoodIn wsX4_part wsX1_allBeasts := goodIn_r _ [16, 12, 39, 40, 41, 42, 43, 44, 45, 46, 47, 48, 49] (by decide +kernel) (by decide +kernel)
set_option maxRecDepth 20000 in
theorem gX4_part_X1_allBeasts : GoodIn wsX4_part (wsV RX4 231 RX1 yX1_allBeasts wsX1_allBeasts) := goodIn_app (goodIn_of _ (by decide +kernel)) ggX4_part_X1_allBeasts
set_option maxRecDepth 20000 in
theorem ggX4_part_X1_valueOfSet : GoodIn wsX4_part wsX1_valueOfSet := goodIn_r _ [20, 12, 21, 22, 23, 24, 25, 26, 27, 28, 39, 40, 41, 42, 43, 44, 45, 46, 47, 48, 49, 50, 51, 52, 53, 54] (by decide +kernel) (by decide +kernel)
set_option maxRecDepth 20000 in
theorem gX4_part_X1_valueOfSet : GoodIn wsX4_part (wsV RX4 225 RX1 yX1_valueOfSet wsX1_valueOfSet) := goodIn_app (goodIn_of _ (by decide +kernel)) ggX4_part_X1_valueOfSet
theorem dX4_part_0 : decode cX4_part 0 = .ok (.aload_n 0, 1) := by decide +kernel
theorem dX4_part_1 : decode cX4_part 1 = .ok (.getfield 21, 3) := by decide +kernel
theorem dX4_part_4 : decode cX4_part 4 = .ok (.invokevirtual 157, 3) := by decide +kernel
theorem dX4_part_7 : decode cX4_part 7 = .ok (.ifCond .eq 6, 3) := by decide +kernel
theorem dX4_part_10 : decode cX4_part 10 = .ok (.bipush (-4), 2) := by decide +kernel
theorem dX4_part_12 : decode cX4_part 12 = .ok (.ireturn, 1) := by decide +kernel
theorem dX4_part_13 : decode cX4_part 13 = .ok (.iconst 0, 1) := by decide +kernel
theorem dX4_part_14 : decode cX4_part 14 = .ok (.istore_n 1, 1) := by decide +kernel
theorem dX4_part_15 : decode cX4_part 15 = .ok (.iconst (-1), 1) := by decide +kernel
theorem dX4_part_16 : decode cX4_part 16 = .ok (.istore_n 2, 1) := by decide +kernel
theorem dX4_part_17 : decode cX4_part 17 = .ok (.aload_n 0, 1) := by decide +kernel
theorem dX4_part_18 : decode cX4_part 18 = .ok (.getfield 21, 3) := by decide +kernel
theorem dX4_part_21 : decode cX4_part 21 = .ok (.invokevirtual 231, 3) := by decide +kernel
theorem dX4_part_24 : decode cX4_part 24 = .ok (.istore_n 3, 1) := by decide +kernel
theorem dX4_part_25 : decode cX4_part 25 = .ok (.iconst 0, 1) := by decide +kernel
theorem dX4_part_26 : decode cX4_part 26 = .ok (.istore 4, 2) := by decide +kernel
theorem dX4_part_28 : decode cX4_part 28 = .ok (.iload 4, 2) := by decide +kernel
theorem dX4_part_30 : decode cX4_part 30 = .ok (.iload_n 3, 1) := by decide +kernel
theorem dX4_part_31 : decode cX4_part 31 = .ok (.if_icmp .gt 48, 3) := by decide +kernel
theorem dX4_part_34 : decode cX4_part 34 = .ok (.aload_n 0, 1) := by decide +kernel
theorem dX4_part_35 : decode cX4_part 35 = .ok (.getfield 21, 3) := by decide +kernel
theorem dX4_part_38 : decode cX4_part 38 = .ok (.iload_n 3, 1) := by decide +kernel
theorem dX4_part_39 : decode cX4_part 39 = .ok (.iload 4, 2) := by decide +kernel
theorem dX4_part_41 : decode cX4_part 41 = .ok (.ixor, 1) := by decide +kernel
theorem dX4_part_42 : decode cX4_part 42 = .ok (.iconst 0, 1) := by decide +kernel
theorem dX4_part_43 : decode cX4_part 43 = .ok (.invokevirtual 225, 3) := by decide +kernel
theorem dX4_part_46 : decode cX4_part 46 = .ok (.aload_n 0, 1) := by decide +kernel
theorem dX4_part_47 : decode cX4_part 47 = .ok (.getfield 21, 3) := by decide +kernel
theorem dX4_part_50 : decode cX4_part 50 = .ok (.iload 4, 2) := by decide +kernel
theorem dX4_part_52 : decode cX4_part 52 = .ok (.iconst 1, 1) := by decide +kernel
theorem dX4_part_53 : decode cX4_part 53 = .ok (.invokevirtual 225, 3) := by decide +kernel
theorem dX4_part_56 : decode cX4_part 56 = .ok (.invokestatic 235, 3) := by decide +kernel
theorem dX4_part_59 : decode cX4_part 59 = .ok (.istore 5, 2) := by decide +kernel
theorem dX4_part_61 : decode cX4_part 61 = .ok (.iload 5, 2) := by decide +kernel
theorem dX4_part_63 : decode cX4_part 63 = .ok (.iload_n 2, 1) := by decide +kernel
theorem dX4_part_64 : decode cX4_part 64 = .ok (.if_icmp .le 9, 3) := by decide +kernel
theorem dX4_part_67 : decode cX4_part 67 = .ok (.iload 5, 2) := by decide +kernel
theorem dX4_part_69 : decode cX4_part 69 = .ok (.istore_n 2, 1) := by decide +kernel
theorem dX4_part_70 : decode cX4_part 70 = .ok (.iload 4, 2) := by decide +kernel
theorem dX4_part_72 : decode cX4_part 72 = .ok (.istore_n 1, 1) := by decide +kernel
theorem dX4_part_73 : decode cX4_part 73 = .ok (.iinc 4 1, 3) := by decide +kernel
theorem dX4_part_76 : decode cX4_part 76 = .ok (.goto (-48), 3) := by decide +kernel
theorem dX4_part_79 : decode cX4_part 79 = .ok (.aload_n 0, 1) := by decide +kernel
theorem dX4_part_80 : decode cX4_part 80 = .ok (.iload_n 2, 1) := by decide +kernel
theorem dX4_part_81 : decode cX4_part 81 = .ok (.putfield 74, 3) := by decide +kernel
theorem dX4_part_84 : decode cX4_part 84 = .ok (.iload_n 1, 1) := by decide +kernel
theorem dX4_part_85 : decode cX4_part 85 = .ok (.ireturn, 1) := by decide +kernel
set_option maxRecDepth 20000 in
theorem ggX4_sum_X1_isMissing : GoodIn wsX4_sum wsX1_isMissing := goodIn_r _ [8, 9, 45, 46, 47, 48, 49, 50, 51, 52, 53, 54, 55] (by decide +kernel) (by decide +kernel)
set_option maxRecDepth 20000 in
theorem gX4_sum_X1_isMissing : GoodIn wsX4_sum (wsV RX4 157 RX1 yX1_isMissing wsX1_isMissing) := goodIn_app (goodIn_of _ (by decide +kernel)) ggX4_sum_X1_isMissing
set_option maxRecDepth 20000 in
theorem ggX4_sum_X1_setOf : GoodIn wsX4_sum wsX1_setOf := goodIn_r _ [13, 9, 14, 15, 45, 46, 47, 48, 49, 50, 51, 52, 53, 54, 55, 56, 57, 58, 59, 60] (by decide +kernel) (by decide +kernel)
set_option maxRecDepth 20000 in
theorem gX4_sum_X1_setOf : GoodIn wsX4_sum (wsV RX4 222 RX1 yX1_setOf wsX1_setOf) := goodIn_app (goodIn_of _ (by decide +kernel)) ggX4_sum_X1_setOf
set_option maxRecDepth 20000 in
theorem ggX4_sum_X1_noneEnvies : GoodIn wsX4_sum wsX1_noneEnvies := goodIn_r _ [19, 20, 21, 22, 7, 23, 9, 24, 25, 26, 27, 14, 28, 29, 30, 31, 32, 33, 34, 45, 46, 47, 48, 49, 50, 51, 52, 53, 54, 55, 56, 57, 58, 59, 60] (by decide +kernel) (by decide +kernel)
set_option maxRecDepth 20000 in
theorem gX4_sum_X1_noneEnvies : GoodIn wsX4_sum (wsV RX4 228 RX1 yX1_noneEnvies wsX1_noneEnvies) := goodIn_app (goodIn_of _ (by decide +kernel)) ggX4_sum_X1_noneEnvies
