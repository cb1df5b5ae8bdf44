theorem dX1_valueOfSet_15 : decode cX1_valueOfSet 15 = .ok (.iload 4, 2) := by decide +kernel
theorem dX1_valueOfSet_17 : decode cX1_valueOfSet 17 = .ok (.ishr, 1) := by decide +kernel
theorem dX1_valueOfSet_18 : decode cX1_valueOfSet 18 = .ok (.iconst 1, 1) := by decide +kernel
theorem dX1_valueOfSet_19 : decode cX1_valueOfSet 19 = .ok (.iand, 1) := by decide +kernel
theorem dX1_valueOfSet_20 : decode cX1_valueOfSet 20 = .ok (.ifCond .eq 17, 3) := by decide +kernel
theorem dX1_valueOfSet_23 : decode cX1_valueOfSet 23 = .ok (.iload_n 3, 1) := by decide +kernel
theorem dX1_valueOfSet_24 : decode cX1_valueOfSet 24 = .ok (.aload_n 0, 1) := by decide +kernel
theorem dX1_valueOfSet_25 : decode cX1_valueOfSet 25 = .ok (.getfield 20, 3) := by decide +kernel
theorem dX1_valueOfSet_28 : decode cX1_valueOfSet 28 = .ok (.iload 4, 2) := by decide +kernel
theorem dX1_valueOfSet_30 : decode cX1_valueOfSet 30 = .ok (.aaload, 1) := by decide +kernel
theorem dX1_valueOfSet_31 : decode cX1_valueOfSet 31 = .ok (.iload_n 2, 1) := by decide +kernel
theorem dX1_valueOfSet_32 : decode cX1_valueOfSet 32 = .ok (.invokevirtual 90, 3) := by decide +kernel
theorem dX1_valueOfSet_35 : decode cX1_valueOfSet 35 = .ok (.iadd, 1) := by decide +kernel
theorem dX1_valueOfSet_36 : decode cX1_valueOfSet 36 = .ok (.istore_n 3, 1) := by decide +kernel
theorem dX1_valueOfSet_37 : decode cX1_valueOfSet 37 = .ok (.iinc 4 1, 3) := by decide +kernel
theorem dX1_valueOfSet_40 : decode cX1_valueOfSet 40 = .ok (.goto (-35), 3) := by decide +kernel
theorem dX1_valueOfSet_43 : decode cX1_valueOfSet 43 = .ok (.iload_n 3, 1) := by decide +kernel
theorem dX1_valueOfSet_44 : decode cX1_valueOfSet 44 = .ok (.ireturn, 1) := by decide +kernel
set_option maxRecDepth 20000 in
theorem ggX1_noneEnvies_X1_allBeasts : GoodIn wsX1_noneEnvies wsX1_allBeasts := goodIn_r _ [5, 6, 19, 20, 21, 22, 23, 24, 25, 26, 27, 28, 29] (by decide +kernel) (by decide +kernel)
set_option maxRecDepth 20000 in
theorem gX1_noneEnvies_X1_allBeasts : GoodIn wsX1_noneEnvies (wsV RX1 93 RX1 yX1_allBeasts wsX1_allBeasts) := goodIn_app (goodIn_of _ (by decide +kernel)) ggX1_noneEnvies_X1_allBeasts
set_option maxRecDepth 20000 in
theorem ggX1_noneEnvies_X1_valueOfSet : GoodIn wsX1_noneEnvies wsX1_valueOfSet := goodIn_r _ [10, 6, 11, 12, 13, 14, 15, 16, 17, 18, 19, 20, 21, 22, 23, 24, 25, 26, 27, 28, 29, 30, 31, 32, 33, 34] (by decide +kernel) (by decide +kernel)
set_option maxRecDepth 20000 in
theorem gX1_noneEnvies_X1_valueOfSet : GoodIn wsX1_noneEnvies (wsV RX1 97 RX1 yX1_valueOfSet wsX1_valueOfSet) := goodIn_app (goodIn_of _ (by decide +kernel)) ggX1_noneEnvies_X1_valueOfSet
theorem dX1_noneEnvies_0 : decode cX1_noneEnvies 0 = .ok (.aload_n 0, 1) := by decide +kernel
theorem dX1_noneEnvies_1 : decode cX1_noneEnvies 1 = .ok (.invokevirtual 93, 3) := by decide +kernel
theorem dX1_noneEnvies_4 : decode cX1_noneEnvies 4 = .ok (.iload_n 1, 1) := by decide +kernel
theorem dX1_noneEnvies_5 : decode cX1_noneEnvies 5 = .ok (.ixor, 1) := by decide +kernel
theorem dX1_noneEnvies_6 : decode cX1_noneEnvies 6 = .ok (.istore_n 3, 1) := by decide +kernel
theorem dX1_noneEnvies_7 : decode cX1_noneEnvies 7 = .ok (.aload_n 0, 1) := by decide +kernel
theorem dX1_noneEnvies_8 : decode cX1_noneEnvies 8 = .ok (.iload_n 3, 1) := by decide +kernel
theorem dX1_noneEnvies_9 : decode cX1_noneEnvies 9 = .ok (.iconst 0, 1) := by decide +kernel
theorem dX1_noneEnvies_10 : decode cX1_noneEnvies 10 = .ok (.invokevirtual 97, 3) := by decide +kernel
theorem dX1_noneEnvies_13 : decode cX1_noneEnvies 13 = .ok (.iload_n 2, 1) := by decide +kernel
theorem dX1_noneEnvies_14 : decode cX1_noneEnvies 14 = .ok (.iadd, 1) := by decide +kernel
theorem dX1_noneEnvies_15 : decode cX1_noneEnvies 15 = .ok (.aload_n 0, 1) := by decide +kernel
theorem dX1_noneEnvies_16 : decode cX1_noneEnvies 16 = .ok (.iload_n 1, 1) := by decide +kernel
theorem dX1_noneEnvies_17 : decode cX1_noneEnvies 17 = .ok (.iconst 0, 1) := by decide +kernel
theorem dX1_noneEnvies_18 : decode cX1_noneEnvies 18 = .ok (.invokevirtual 97, 3) := by decide +kernel
theorem dX1_noneEnvies_21 : decode cX1_noneEnvies 21 = .ok (.iload_n 2, 1) := by decide +kernel
theorem dX1_noneEnvies_22 : decode cX1_noneEnvies 22 = .ok (.isub, 1) := by decide +kernel
theorem dX1_noneEnvies_23 : decode cX1_noneEnvies 23 = .ok (.if_icmp .lt 26, 3) := by decide +kernel
theorem dX1_noneEnvies_26 : decode cX1_noneEnvies 26 = .ok (.aload_n 0, 1) := by decide +kernel
theorem dX1_noneEnvies_27 : decode cX1_noneEnvies 27 = .ok (.iload_n 1, 1) := by decide +kernel
theorem dX1_noneEnvies_28 : decode cX1_noneEnvies 28 = .ok (.iconst 1, 1) := by decide +kernel
theorem dX1_noneEnvies_29 : decode cX1_noneEnvies 29 = .ok (.invokevirtual 97, 3) := by decide +kernel
theorem dX1_noneEnvies_32 : decode cX1_noneEnvies 32 = .ok (.iload_n 2, 1) := by decide +kernel
theorem dX1_noneEnvies_33 : decode cX1_noneEnvies 33 = .ok (.isub, 1) := by decide +kernel
theorem dX1_noneEnvies_34 : decode cX1_noneEnvies 34 = .ok (.aload_n 0, 1) := by decide +kernel
theorem dX1_noneEnvies_35 : decode cX1_noneEnvies 35 = .ok (.iload_n 3, 1) := by decide +kernel
theorem dX1_noneEnvies_36 : decode cX1_noneEnvies 36 = .ok (.iconst 1, 1) := by decide +kernel
theorem dX1_noneEnvies_37 : decode cX1_noneEnvies 37 = .ok (.invokevirtual 97, 3) := by decide +kernel
theorem dX1_noneEnvies_40 : decode cX1_noneEnvies 40 = .ok (.iload_n 2, 1) := by decide +kernel
theorem dX1_noneEnvies_41 : decode cX1_noneEnvies 41 = .ok (.iadd, 1) := by decide +kernel
theorem dX1_noneEnvies_42 : decode cX1_noneEnvies 42 = .ok (.if_icmp .lt 7, 3) := by decide +kernel
theorem dX1_noneEnvies_45 : decode cX1_noneEnvies 45 = .ok (.iconst 1, 1) := by decide +kernel
theorem dX1_noneEnvies_46 : decode cX1_noneEnvies 46 = .ok (.goto 4, 3) := by decide +kernel
theorem dX1_noneEnvies_49 : decode cX1_noneEnvies 49 = .ok (.iconst 0, 1) := by decide +kernel
theorem dX1_noneEnvies_50 : decode cX1_noneEnvies 50 = .ok (.ireturn, 1) := by decide +kernel
set_option maxRecDepth 20000 in
theorem ggX1_youngOnesOf_X0_isOf : GoodIn wsX1_youngOnesOf wsX0_isOf := goodIn_r _ [8, 9, 21, 22, 23, 24, 25] (by decide +kernel) (by decide +kernel)
set_option maxRecDepth 20000 in
theorem gX1_youngOnesOf_X0_isOf : GoodIn wsX1_youngOnesOf (wsV RX1 101 RX0 yX0_isOf wsX0_isOf) := goodIn_app (goodIn_of _ (by decide +kernel)) ggX1_youngOnesOf_X0_isOf
theorem dX1_youngOnesOf_0 : decode cX1_youngOnesOf 0 = .ok (.iconst 0, 1) := by decide +kernel
theorem dX1_youngOnesOf_1 : decode cX1_youngOnesOf 1 = .ok (.istore_n 2, 1) := by decide +kernel
theorem dX1_youngOnesOf_2 : decode cX1_youngOnesOf 2 = .ok (.iconst 0, 1) := by decide +kernel
theorem dX1_youngOnesOf_3 : decode cX1_youngOnesOf 3 = .ok (.istore_n 3, 1) := by decide +kernel
theorem dX1_youngOnesOf_4 : decode cX1_youngOnesOf 4 = .ok (.iload_n 3, 1) := by decide +kernel
theorem dX1_youngOnesOf_5 : decode cX1_youngOnesOf 5 = .ok (.aload_n 0, 1) := by decide +kernel
theorem dX1_youngOnesOf_6 : decode cX1_youngOnesOf 6 = .ok (.getfield 31, 3) := by decide +kernel
theorem dX1_youngOnesOf_9 : decode cX1_youngOnesOf 9 = .ok (.if_icmp .ge 38, 3) := by decide +kernel
theorem dX1_youngOnesOf_12 : decode cX1_youngOnesOf 12 = .ok (.aload_n 0, 1) := by decide +kernel
theorem dX1_youngOnesOf_13 : decode cX1_youngOnesOf 13 = .ok (.getfield 20, 3) := by decide +kernel
theorem dX1_youngOnesOf_16 : decode cX1_youngOnesOf 16 = .ok (.iload_n 3, 1) := by decide +kernel
theorem dX1_youngOnesOf_17 : decode cX1_youngOnesOf 17 = .ok (.aaload, 1) := by decide +kernel
theorem dX1_youngOnesOf_18 : decode cX1_youngOnesOf 18 = .ok (.getfield 62, 3) := by decide +kernel
theorem dX1_youngOnesOf_21 : decode cX1_youngOnesOf 21 = .ok (.iload_n 1, 1) := by decide +kernel
theorem dX1_youngOnesOf_22 : decode cX1_youngOnesOf 22 = .ok (.if_icmp .ne 19, 3) := by decide +kernel
theorem dX1_youngOnesOf_25 : decode cX1_youngOnesOf 25 = .ok (.aload_n 0, 1) := by decide +kernel
theorem dX1_youngOnesOf_26 : decode cX1_youngOnesOf 26 = .ok (.getfield 20, 3) := by decide +kernel
theorem dX1_youngOnesOf_29 : decode cX1_youngOnesOf 29 = .ok (.iload_n 3, 1) := by decide +kernel
theorem dX1_youngOnesOf_30 : decode cX1_youngOnesOf 30 = .ok (.aaload, 1) := by decide +kernel
theorem dX1_youngOnesOf_31 : decode cX1_youngOnesOf 31 = .ok (.iconst 2, 1) := by decide +kernel
theorem dX1_youngOnesOf_32 : decode cX1_youngOnesOf 32 = .ok (.invokevirtual 101, 3) := by decide +kernel
theorem dX1_youngOnesOf_35 : decode cX1_youngOnesOf 35 = .ok (.ifCond .eq 6, 3) := by decide +kernel
theorem dX1_youngOnesOf_38 : decode cX1_youngOnesOf 38 = .ok (.iinc 2 1, 3) := by decide +kernel
theorem dX1_youngOnesOf_41 : decode cX1_youngOnesOf 41 = .ok (.iinc 3 1, 3) := by decide +kernel
theorem dX1_youngOnesOf_44 : decode cX1_youngOnesOf 44 = .ok (.goto (-40), 3) := by decide +kernel
theorem dX1_youngOnesOf_47 : decode cX1_youngOnesOf 47 = .ok (.iload_n 2, 1) := by decide +kernel
theorem dX1_youngOnesOf_48 : decode cX1_youngOnesOf 48 = .ok (.ireturn, 1) := by decide +kernel
theorem dX1_howManyBelow_0 : decode cX1_howManyBelow 0 = .ok (.iconst 0, 1) := by decide +kernel
theorem dX1_howManyBelow_1 : decode cX1_howManyBelow 1 = .ok (.istore_n 2, 1) := by decide +kernel
theorem dX1_howManyBelow_2 : decode cX1_howManyBelow 2 = .ok (.iconst 0, 1) := by decide +kernel
theorem dX1_howManyBelow_3 : decode cX1_howManyBelow 3 = .ok (.istore_n 3, 1) := by decide +kernel
theorem dX1_howManyBelow_4 : decode cX1_howManyBelow 4 = .ok (.iload_n 3, 1) := by decide +kernel
theorem dX1_howManyBelow_5 : decode cX1_howManyBelow 5 = .ok (.aload_n 0, 1) := by decide +kernel
theorem dX1_howManyBelow_6 : decode cX1_howManyBelow 6 = .ok (.getfield 31, 3) := by decide +kernel
theorem dX1_howManyBelow_9 : decode cX1_howManyBelow 9 = .ok (.if_icmp .ge 25, 3) := by decide +kernel
theorem dX1_howManyBelow_12 : decode cX1_howManyBelow 12 = .ok (.aload_n 0, 1) := by decide +kernel
theorem dX1_howManyBelow_13 : decode cX1_howManyBelow 13 = .ok (.getfield 20, 3) := by decide +kernel
theorem dX1_howManyBelow_16 : decode cX1_howManyBelow 16 = .ok (.iload_n 3, 1) := by decide +kernel
theorem dX1_howManyBelow_17 : decode cX1_howManyBelow 17 = .ok (.aaload, 1) := by decide +kernel
theorem dX1_howManyBelow_18 : decode cX1_howManyBelow 18 = .ok (.getfield 105, 3) := by decide +kernel
theorem dX1_howManyBelow_21 : decode cX1_howManyBelow 21 = .ok (.iload_n 1, 1) := by decide +kernel
theorem dX1_howManyBelow_22 : decode cX1_howManyBelow 22 = .ok (.if_icmp .ge 6, 3) := by decide +kernel
theorem dX1_howManyBelow_25 : decode cX1_howManyBelow 25 = .ok (.iinc 2 1, 3) := by decide +kernel
theorem dX1_howManyBelow_28 : decode cX1_howManyBelow 28 = .ok (.iinc 3 1, 3) := by decide +kernel
theorem dX1_howManyBelow_31 : decode cX1_howManyBelow 31 = .ok (.goto (-27), 3) := by decide +kernel
theorem dX1_howManyBelow_34 : decode cX1_howManyBelow 34 = .ok (.iload_n 2, 1) := by decide +kernel
theorem dX1_howManyBelow_35 : decode cX1_howManyBelow 35 = .ok (.ireturn, 1) := by decide +kernel
set_option maxRecDepth 20000 in
theorem ggX1_bulls_X0_isOf : GoodIn wsX1_bulls wsX0_isOf := goodIn_r _ [7, 8, 20, 21, 22, 23, 24] (by decide +kernel) (by decide +kernel)
set_option maxRecDepth 20000 in
theorem gX1_bulls_X0_isOf : GoodIn wsX1_bulls (wsV RX1 101 RX0 yX0_isOf wsX0_isOf) := goodIn_app (goodIn_of _ (by decide +kernel)) ggX1_bulls_X0_isOf
theorem dX1_bulls_0 : decode cX1_bulls 0 = .ok (.iconst 0, 1) := by decide +kernel
theorem dX1_bulls_1 : decode cX1_bulls 1 = .ok (.istore_n 1, 1) := by decide +kernel
theorem dX1_bulls_2 : decode cX1_bulls 2 = .ok (.iconst 0, 1) := by decide +kernel
theorem dX1_bulls_3 : decode cX1_bulls 3 = .ok (.istore_n 2, 1) := by decide +kernel
theorem dX1_bulls_4 : decode cX1_bulls 4 = .ok (.iload_n 2, 1) := by decide +kernel
theorem dX1_bulls_5 : decode cX1_bulls 5 = .ok (.aload_n 0, 1) := by decide +kernel
theorem dX1_bulls_6 : decode cX1_bulls 6 = .ok (.getfield 31, 3) := by decide +kernel
theorem dX1_bulls_9 : decode cX1_bulls 9 = .ok (.if_icmp .ge 25, 3) := by decide +kernel
theorem dX1_bulls_12 : decode cX1_bulls 12 = .ok (.aload_n 0, 1) := by decide +kernel
theorem dX1_bulls_13 : decode cX1_bulls 13 = .ok (.getfield 20, 3) := by decide +kernel
theorem dX1_bulls_16 : decode cX1_bulls 16 = .ok (.iload_n 2, 1) := by decide +kernel
theorem dX1_bulls_17 : decode cX1_bulls 17 = .ok (.aaload, 1) := by decide +kernel
theorem dX1_bulls_18 : decode cX1_bulls 18 = .ok (.iconst 3, 1) := by decide +kernel
theorem dX1_bulls_19 : decode cX1_bulls 19 = .ok (.invokevirtual 101, 3) := by decide +kernel
theorem dX1_bulls_22 : decode cX1_bulls 22 = .ok (.ifCond .eq 6, 3) := by decide +kernel
theorem dX1_bulls_25 : decode cX1_bulls 25 = .ok (.iinc 1 1, 3) := by decide +kernel
theorem dX1_bulls_28 : decode cX1_bulls 28 = .ok (.iinc 2 1, 3) := by decide +kernel
theorem dX1_bulls_31 : decode cX1_bulls 31 = .ok (.goto (-27), 3) := by decide +kernel
theorem dX1_bulls_34 : decode cX1_bulls 34 = .ok (.iload_n 1, 1) := by decide +kernel
theorem dX1_bulls_35 : decode cX1_bulls 35 = .ok (.ireturn, 1) := by decide +kernel
set_option maxRecDepth 20000 in
theorem ggX2_init_X1_init : GoodIn wsX2_init wsX1_init := goodIn_r _ [10, 11, 2, 3, 12, 13, 14, 15, 16, 17, 18, 19, 20, 21, 22, 23, 24, 25, 26, 27, 28, 29, 30, 31, 32, 33, 34, 37, 38, 39, 40, 41] (by decide +kernel) (by decide +kernel)
set_option maxRecDepth 20000 in
theorem gX2_init_X1_init : GoodIn wsX2_init (wsX1_init) := ggX2_init_X1_init
theorem dX2_init_0 : decode cX2_init 0 = .ok (.aload_n 0, 1) := by decide +kernel
theorem dX2_init_1 : decode cX2_init 1 = .ok (.invokespecial 3, 3) := by decide +kernel
theorem dX2_init_4 : decode cX2_init 4 = .ok (.aload_n 0, 1) := by decide +kernel
theorem dX2_init_5 : decode cX2_init 5 = .ok (.new 9, 3) := by decide +kernel
theorem dX2_init_8 : decode cX2_init 8 = .ok (.dup, 1) := by decide +kernel
theorem dX2_init_9 : decode cX2_init 9 = .ok (.invokespecial 11, 3) := by decide +kernel
theorem dX2_init_12 : decode cX2_init 12 = .ok (.putfield 12, 3) := by decide +kernel
theorem dX2_init_15 : decode cX2_init 15 = .ok (.return_, 1) := by decide +kernel
set_option maxRecDepth 20000 in
theorem ggX2_read_X1_clear : GoodIn wsX2_read wsX1_clear := goodIn_r _ [7, 8, 9, 10, 11, 12, 13, 94, 95, 96, 97, 98, 99, 100, 101, 102, 103, 104] (by decide +kernel) (by decide +kernel)
set_option maxRecDepth 20000 in
theorem gX2_read_X1_clear : GoodIn wsX2_read (wsV RX2 18 RX1 yX1_clear wsX1_clear) := goodIn_app (goodIn_of _ (by decide +kernel)) ggX2_read_X1_clear
set_option maxRecDepth 20000 in
theorem ggX2_read_X2_readTurns : GoodIn wsX2_read wsX2_readTurns := goodIn_r _ [18, 2, 19, 20, 1, 21, 22, 23, 24, 17, 25, 26, 27, 28, 29, 30, 31, 32, 33, 34, 35, 36, 37, 38, 39, 40, 41, 42, 43, 44, 45, 6, 46, 8, 47, 92, 93, 105, 106, 94, 95, 96, 97, 98, 99, 100, 101, 102, 103, 104] (by decide +kernel) (by decide +kernel)
set_option maxRecDepth 20000 in
theorem gX2_read_X2_readTurns : GoodIn wsX2_read (wsV RX2 25 RX2 yX2_readTurns wsX2_readTurns) := goodIn_app (goodIn_of _ (by decide +kernel)) ggX2_read_X2_readTurns
set_option maxRecDepth 20000 in
theorem ggX2_read_X2_readMilks : GoodIn wsX2_read wsX2_readMilks := goodIn_r _ [51, 2, 19, 20, 1, 52, 22, 23, 24, 17, 25, 26, 27, 28, 29, 30, 31, 32, 33, 34, 35, 36, 37, 38, 39, 53, 54, 55, 56, 57, 58, 6, 59, 9, 60, 92, 93, 105, 106, 94, 95, 96, 97, 98, 99, 100, 101, 102, 103, 104] (by decide +kernel) (by decide +kernel)
set_option maxRecDepth 20000 in
theorem gX2_read_X2_readMilks : GoodIn wsX2_read (wsV RX2 29 RX2 yX2_readMilks wsX2_readMilks) := goodIn_app (goodIn_of _ (by decide +kernel)) ggX2_read_X2_readMilks
set_option maxRecDepth 20000 in
theorem ggX2_read_X2_readBeasts : GoodIn wsX2_read wsX2_readBeasts := goodIn_r _ [64, 2, 19, 1, 65, 22, 23, 24, 17, 25, 20, 66, 67, 68, 69, 30, 31, 32, 33, 34, 35, 36, 37, 38, 39, 70, 71, 72, 53, 54, 55, 40, 41, 42, 73, 74, 75, 6, 76, 10, 77, 78, 79, 80, 81, 82, 83, 84, 85, 86, 87, 88, 89, 90, 91, 92, 93, 105, 106, 94, 95, 96, 97, 98, 99, 100, 101, 102, 103, 104, 107, 108, 109, 110, 111] (by decide +kernel) (by decide +kernel)
set_option maxRecDepth 20000 in
theorem gX2_read_X2_readBeasts : GoodIn wsX2_read (wsV RX2 32 RX2 yX2_readBeasts wsX2_readBeasts) := goodIn_app (goodIn_of _ (by decide +kernel)) ggX2_read_X2_readBeasts
theorem dX2_read_0 : decode cX2_read 0 = .ok (.aload_n 0, 1) := by decide +kernel
theorem dX2_read_1 : decode cX2_read 1 = .ok (.getfield 12, 3) := by decide +kernel
theorem dX2_read_4 : decode cX2_read 4 = .ok (.invokevirtual 18, 3) := by decide +kernel
theorem dX2_read_7 : decode cX2_read 7 = .ok (.aload_n 0, 1) := by decide +kernel
theorem dX2_read_8 : decode cX2_read 8 = .ok (.iconst 0, 1) := by decide +kernel
theorem dX2_read_9 : decode cX2_read 9 = .ok (.putfield 21, 3) := by decide +kernel
theorem dX2_read_12 : decode cX2_read 12 = .ok (.aload_n 0, 1) := by decide +kernel
theorem dX2_read_13 : decode cX2_read 13 = .ok (.aload_n 1, 1) := by decide +kernel
theorem dX2_read_14 : decode cX2_read 14 = .ok (.invokevirtual 25, 3) := by decide +kernel
theorem dX2_read_17 : decode cX2_read 17 = .ok (.ifCond .eq 23, 3) := by decide +kernel
theorem dX2_read_20 : decode cX2_read 20 = .ok (.aload_n 0, 1) := by decide +kernel
theorem dX2_read_21 : decode cX2_read 21 = .ok (.aload_n 1, 1) := by decide +kernel
theorem dX2_read_22 : decode cX2_read 22 = .ok (.invokevirtual 29, 3) := by decide +kernel
theorem dX2_read_25 : decode cX2_read 25 = .ok (.ifCond .eq 15, 3) := by decide +kernel
theorem dX2_read_28 : decode cX2_read 28 = .ok (.aload_n 0, 1) := by decide +kernel
theorem dX2_read_29 : decode cX2_read 29 = .ok (.aload_n 1, 1) := by decide +kernel
theorem dX2_read_30 : decode cX2_read 30 = .ok (.invokevirtual 32, 3) := by decide +kernel
theorem dX2_read_33 : decode cX2_read 33 = .ok (.ifCond .eq 7, 3) := by decide +kernel
theorem dX2_read_36 : decode cX2_read 36 = .ok (.iconst 1, 1) := by decide +kernel
theorem dX2_read_37 : decode cX2_read 37 = .ok (.goto 4, 3) := by decide +kernel
theorem dX2_read_40 : decode cX2_read 40 = .ok (.iconst 0, 1) := by decide +kernel
theorem dX2_read_41 : decode cX2_read 41 = .ok (.istore_n 2, 1) := by decide +kernel
theorem dX2_read_42 : decode cX2_read 42 = .ok (.iload_n 2, 1) := by decide +kernel
theorem dX2_read_43 : decode cX2_read 43 = .ok (.ifCond .eq 8, 3) := by decide +kernel
theorem dX2_read_46 : decode cX2_read 46 = .ok (.bipush (-9), 2) := by decide +kernel
theorem dX2_read_48 : decode cX2_read 48 = .ok (.goto 7, 3) := by decide +kernel
theorem dX2_read_51 : decode cX2_read 51 = .ok (.aload_n 0, 1) := by decide +kernel
theorem dX2_read_52 : decode cX2_read 52 = .ok (.getfield 21, 3) := by decide +kernel
theorem dX2_read_55 : decode cX2_read 55 = .ok (.ireturn, 1) := by decide +kernel
set_option maxRecDepth 20000 in
theorem ggX2_readTurns_X2_skipBlanks : GoodIn wsX2_readTurns wsX2_skipBlanks := goodIn_r _ [10, 1, 2, 3, 35, 36, 37, 38] (by decide +kernel) (by decide +kernel)
set_option maxRecDepth 20000 in
theorem gX2_readTurns_X2_skipBlanks : GoodIn wsX2_readTurns (wsV RX2 35 RX2 yX2_skipBlanks wsX2_skipBlanks) := goodIn_app (goodIn_of _ (by decide +kernel)) ggX2_readTurns_X2_skipBlanks
set_option maxRecDepth 20000 in
theorem ggX2_readTurns_X2_take : GoodIn wsX2_readTurns wsX2_take := goodIn_r _ [14, 1, 15, 16, 17, 9, 18, 3, 19, 20, 21, 22, 23, 24, 35, 36, 37, 38] (by decide +kernel) (by decide +kernel)
set_option maxRecDepth 20000 in
theorem gX2_readTurns_X2_take : GoodIn wsX2_readTurns (wsV RX2 39 RX2 yX2_take wsX2_take) := goodIn_app (goodIn_of _ (by decide +kernel)) ggX2_readTurns_X2_take
set_option maxRecDepth 20000 in
theorem ggX2_readTurns_X2_farmOfLetter : GoodIn wsX2_readTurns wsX2_farmOfLetter := goodIn_r _ [27] (by decide +kernel) (by decide +kernel)
set_option maxRecDepth 20000 in
theorem gX2_readTurns_X2_farmOfLetter : GoodIn wsX2_readTurns (va_wsS RX2 52 yX2_farmOfLetter wsX2_farmOfLetter) := goodIn_app (goodIn_of _ (by decide +kernel)) ggX2_readTurns_X2_farmOfLetter
set_option maxRecDepth 20000 in
theorem ggX2_readTurns_X1_addTurn : GoodIn wsX2_readTurns wsX1_addTurn := goodIn_r _ [32, 33, 34, 39, 40, 41, 42, 43, 44, 45, 46, 47, 48, 49] (by decide +kernel) (by decide +kernel)
set_option maxRecDepth 20000 in
theorem gX2_readTurns_X1_addTurn : GoodIn wsX2_readTurns (wsV RX2 56 RX1 yX1_addTurn wsX1_addTurn) := goodIn_app (goodIn_of _ (by decide +kernel)) ggX2_readTurns_X1_addTurn
theorem dX2_readTurns_0 : decode cX2_readTurns 0 = .ok (.aload_n 0, 1) := by decide +kernel
theorem dX2_readTurns_1 : decode cX2_readTurns 1 = .ok (.aload_n 1, 1) := by decide +kernel
theorem dX2_readTurns_2 : decode cX2_readTurns 2 = .ok (.invokevirtual 35, 3) := by decide +kernel
theorem dX2_readTurns_5 : decode cX2_readTurns 5 = .ok (.aload_n 0, 1) := by decide +kernel
theorem dX2_readTurns_6 : decode cX2_readTurns 6 = .ok (.aload_n 1, 1) := by decide +kernel
theorem dX2_readTurns_7 : decode cX2_readTurns 7 = .ok (.bipush 116, 2) := by decide +kernel
theorem dX2_readTurns_9 : decode cX2_readTurns 9 = .ok (.invokevirtual 39, 3) := by decide +kernel
theorem dX2_readTurns_12 : decode cX2_readTurns 12 = .ok (.ifCond .ne 5, 3) := by decide +kernel
theorem dX2_readTurns_15 : decode cX2_readTurns 15 = .ok (.iconst 0, 1) := by decide +kernel
theorem dX2_readTurns_16 : decode cX2_readTurns 16 = .ok (.ireturn, 1) := by decide +kernel
theorem dX2_readTurns_17 : decode cX2_readTurns 17 = .ok (.aload_n 0, 1) := by decide +kernel
theorem dX2_readTurns_18 : decode cX2_readTurns 18 = .ok (.getfield 21, 3) := by decide +kernel
theorem dX2_readTurns_21 : decode cX2_readTurns 21 = .ok (.aload_n 1, 1) := by decide +kernel
theorem dX2_readTurns_22 : decode cX2_readTurns 22 = .ok (.getfield 43, 3) := by decide +kernel
theorem dX2_readTurns_25 : decode cX2_readTurns 25 = .ok (.if_icmp .ge 57, 3) := by decide +kernel
theorem dX2_readTurns_28 : decode cX2_readTurns 28 = .ok (.aload_n 1, 1) := by decide +kernel
theorem dX2_readTurns_29 : decode cX2_readTurns 29 = .ok (.getfield 48, 3) := by decide +kernel
theorem dX2_readTurns_32 : decode cX2_readTurns 32 = .ok (.aload_n 0, 1) := by decide +kernel
theorem dX2_readTurns_33 : decode cX2_readTurns 33 = .ok (.getfield 21, 3) := by decide +kernel
theorem dX2_readTurns_36 : decode cX2_readTurns 36 = .ok (.iaload, 1) := by decide +kernel
theorem dX2_readTurns_37 : decode cX2_readTurns 37 = .ok (.invokestatic 52, 3) := by decide +kernel
theorem dX2_readTurns_40 : decode cX2_readTurns 40 = .ok (.bipush (-9), 2) := by decide +kernel
theorem dX2_readTurns_42 : decode cX2_readTurns 42 = .ok (.if_icmp .eq 40, 3) := by decide +kernel
theorem dX2_readTurns_45 : decode cX2_readTurns 45 = .ok (.aload_n 0, 1) := by decide +kernel
theorem dX2_readTurns_46 : decode cX2_readTurns 46 = .ok (.getfield 12, 3) := by decide +kernel
theorem dX2_readTurns_49 : decode cX2_readTurns 49 = .ok (.aload_n 1, 1) := by decide +kernel
theorem dX2_readTurns_50 : decode cX2_readTurns 50 = .ok (.getfield 48, 3) := by decide +kernel
theorem dX2_readTurns_53 : decode cX2_readTurns 53 = .ok (.aload_n 0, 1) := by decide +kernel
theorem dX2_readTurns_54 : decode cX2_readTurns 54 = .ok (.getfield 21, 3) := by decide +kernel
theorem dX2_readTurns_57 : decode cX2_readTurns 57 = .ok (.iaload, 1) := by decide +kernel
theorem dX2_readTurns_58 : decode cX2_readTurns 58 = .ok (.invokestatic 52, 3) := by decide +kernel
theorem dX2_readTurns_61 : decode cX2_readTurns 61 = .ok (.invokevirtual 56, 3) := by decide +kernel
theorem dX2_readTurns_64 : decode cX2_readTurns 64 = .ok (.ifCond .ne 5, 3) := by decide +kernel
theorem dX2_readTurns_67 : decode cX2_readTurns 67 = .ok (.iconst 0, 1) := by decide +kernel
theorem dX2_readTurns_68 : decode cX2_readTurns 68 = .ok (.ireturn, 1) := by decide +kernel
theorem dX2_readTurns_69 : decode cX2_readTurns 69 = .ok (.aload_n 0, 1) := by decide +kernel
theorem dX2_readTurns_70 : decode cX2_readTurns 70 = .ok (.dup, 1) := by decide +kernel
theorem dX2_readTurns_71 : decode cX2_readTurns 71 = .ok (.getfield 21, 3) := by decide +kernel
theorem dX2_readTurns_74 : decode cX2_readTurns 74 = .ok (.iconst 1, 1) := by decide +kernel
theorem dX2_readTurns_75 : decode cX2_readTurns 75 = .ok (.iadd, 1) := by decide +kernel
theorem dX2_readTurns_76 : decode cX2_readTurns 76 = .ok (.putfield 21, 3) := by decide +kernel
theorem dX2_readTurns_79 : decode cX2_readTurns 79 = .ok (.goto (-62), 3) := by decide +kernel
theorem dX2_readTurns_82 : decode cX2_readTurns 82 = .ok (.aload_n 0, 1) := by decide +kernel
theorem dX2_readTurns_83 : decode cX2_readTurns 83 = .ok (.getfield 12, 3) := by decide +kernel
theorem dX2_readTurns_86 : decode cX2_readTurns 86 = .ok (.getfield 60, 3) := by decide +kernel
theorem dX2_readTurns_89 : decode cX2_readTurns 89 = .ok (.ifCond .le 7, 3) := by decide +kernel
theorem dX2_readTurns_92 : decode cX2_readTurns 92 = .ok (.iconst 1, 1) := by decide +kernel
theorem dX2_readTurns_93 : decode cX2_readTurns 93 = .ok (.goto 4, 3) := by decide +kernel
theorem dX2_readTurns_96 : decode cX2_readTurns 96 = .ok (.iconst 0, 1) := by decide +kernel
theorem dX2_readTurns_97 : decode cX2_readTurns 97 = .ok (.ireturn, 1) := by decide +kernel
set_option maxRecDepth 20000 in
theorem ggX2_readMilks_X2_skipBlanks : GoodIn wsX2_readMilks wsX2_skipBlanks := goodIn_r _ [10, 1, 2, 3, 35, 36, 37, 38] (by decide +kernel) (by decide +kernel)
set_option maxRecDepth 20000 in
theorem gX2_readMilks_X2_skipBlanks : GoodIn wsX2_readMilks (wsV RX2 35 RX2 yX2_skipBlanks wsX2_skipBlanks) := goodIn_app (goodIn_of _ (by decide +kernel)) ggX2_readMilks_X2_skipBlanks
set_option maxRecDepth 20000 in
theorem ggX2_readMilks_X2_take : GoodIn wsX2_readMilks wsX2_take := goodIn_r _ [14, 1, 15, 16, 17, 9, 18, 3, 19, 20, 21, 22, 23, 24, 35, 36, 37, 38] (by decide +kernel) (by decide +kernel)
set_option maxRecDepth 20000 in
theorem gX2_readMilks_X2_take : GoodIn wsX2_readMilks (wsV RX2 39 RX2 yX2_take wsX2_take) := goodIn_app (goodIn_of _ (by decide +kernel)) ggX2_readMilks_X2_take
set_option maxRecDepth 20000 in
theorem ggX2_readMilks_X4_outside : GoodIn wsX2_readMilks wsX4_outside := goodIn_r _ [27] (by decide +kernel) (by decide +kernel)
set_option maxRecDepth 20000 in
theorem gX2_readMilks_X4_outside_n63 : GoodIn wsX2_readMilks (wsX4_outside) := ggX2_readMilks_X4_outside
set_option maxRecDepth 20000 in
theorem ggX2_readMilks_X1_addMilk : GoodIn wsX2_readMilks wsX1_addMilk := goodIn_r _ [32, 33, 34, 39, 40, 41, 42, 43, 44, 45, 46, 47, 48, 49] (by decide +kernel) (by decide +kernel)
set_option maxRecDepth 20000 in
theorem gX2_readMilks_X1_addMilk : GoodIn wsX2_readMilks (wsV RX2 67 RX1 yX1_addMilk wsX1_addMilk) := goodIn_app (goodIn_of _ (by decide +kernel)) ggX2_readMilks_X1_addMilk
theorem dX2_readMilks_0 : decode cX2_readMilks 0 = .ok (.aload_n 0, 1) := by decide +kernel
theorem dX2_readMilks_1 : decode cX2_readMilks 1 = .ok (.aload_n 1, 1) := by decide +kernel
theorem dX2_readMilks_2 : decode cX2_readMilks 2 = .ok (.invokevirtual 35, 3) := by decide +kernel
theorem dX2_readMilks_5 : decode cX2_readMilks 5 = .ok (.aload_n 0, 1) := by decide +kernel
theorem dX2_readMilks_6 : decode cX2_readMilks 6 = .ok (.aload_n 1, 1) := by decide +kernel
theorem dX2_readMilks_7 : decode cX2_readMilks 7 = .ok (.bipush 109, 2) := by decide +kernel
theorem dX2_readMilks_9 : decode cX2_readMilks 9 = .ok (.invokevirtual 39, 3) := by decide +kernel
theorem dX2_readMilks_12 : decode cX2_readMilks 12 = .ok (.ifCond .ne 5, 3) := by decide +kernel
theorem dX2_readMilks_15 : decode cX2_readMilks 15 = .ok (.iconst 0, 1) := by decide +kernel
theorem dX2_readMilks_16 : decode cX2_readMilks 16 = .ok (.ireturn, 1) := by decide +kernel
theorem dX2_readMilks_17 : decode cX2_readMilks 17 = .ok (.aload_n 0, 1) := by decide +kernel
theorem dX2_readMilks_18 : decode cX2_readMilks 18 = .ok (.getfield 21, 3) := by decide +kernel
theorem dX2_readMilks_21 : decode cX2_readMilks 21 = .ok (.aload_n 1, 1) := by decide +kernel
theorem dX2_readMilks_22 : decode cX2_readMilks 22 = .ok (.getfield 43, 3) := by decide +kernel
theorem dX2_readMilks_25 : decode cX2_readMilks 25 = .ok (.if_icmp .ge 59, 3) := by decide +kernel
theorem dX2_readMilks_28 : decode cX2_readMilks 28 = .ok (.aload_n 1, 1) := by decide +kernel
theorem dX2_readMilks_29 : decode cX2_readMilks 29 = .ok (.getfield 48, 3) := by decide +kernel
theorem dX2_readMilks_32 : decode cX2_readMilks 32 = .ok (.aload_n 0, 1) := by decide +kernel
theorem dX2_readMilks_33 : decode cX2_readMilks 33 = .ok (.getfield 21, 3) := by decide +kernel
theorem dX2_readMilks_36 : decode cX2_readMilks 36 = .ok (.iaload, 1) := by decide +kernel
theorem dX2_readMilks_37 : decode cX2_readMilks 37 = .ok (.bipush 48, 2) := by decide +kernel
theorem dX2_readMilks_39 : decode cX2_readMilks 39 = .ok (.bipush 57, 2) := by decide +kernel
theorem dX2_readMilks_41 : decode cX2_readMilks 41 = .ok (.invokestatic 63, 3) := by decide +kernel
theorem dX2_readMilks_44 : decode cX2_readMilks 44 = .ok (.ifCond .ne 40, 3) := by decide +kernel
theorem dX2_readMilks_47 : decode cX2_readMilks 47 = .ok (.aload_n 0, 1) := by decide +kernel
theorem dX2_readMilks_48 : decode cX2_readMilks 48 = .ok (.getfield 12, 3) := by decide +kernel
theorem dX2_readMilks_51 : decode cX2_readMilks 51 = .ok (.aload_n 1, 1) := by decide +kernel
theorem dX2_readMilks_52 : decode cX2_readMilks 52 = .ok (.getfield 48, 3) := by decide +kernel
theorem dX2_readMilks_55 : decode cX2_readMilks 55 = .ok (.aload_n 0, 1) := by decide +kernel
theorem dX2_readMilks_56 : decode cX2_readMilks 56 = .ok (.getfield 21, 3) := by decide +kernel
theorem dX2_readMilks_59 : decode cX2_readMilks 59 = .ok (.iaload, 1) := by decide +kernel
theorem dX2_readMilks_60 : decode cX2_readMilks 60 = .ok (.bipush 48, 2) := by decide +kernel
theorem dX2_readMilks_62 : decode cX2_readMilks 62 = .ok (.isub, 1) := by decide +kernel
theorem dX2_readMilks_63 : decode cX2_readMilks 63 = .ok (.invokevirtual 67, 3) := by decide +kernel
theorem dX2_readMilks_66 : decode cX2_readMilks 66 = .ok (.ifCond .ne 5, 3) := by decide +kernel
theorem dX2_readMilks_69 : decode cX2_readMilks 69 = .ok (.iconst 0, 1) := by decide +kernel
theorem dX2_readMilks_70 : decode cX2_readMilks 70 = .ok (.ireturn, 1) := by decide +kernel
theorem dX2_readMilks_71 : decode cX2_readMilks 71 = .ok (.aload_n 0, 1) := by decide +kernel
theorem dX2_readMilks_72 : decode cX2_readMilks 72 = .ok (.dup, 1) := by decide +kernel
theorem dX2_readMilks_73 : decode cX2_readMilks 73 = .ok (.getfield 21, 3) := by decide +kernel
theorem dX2_readMilks_76 : decode cX2_readMilks 76 = .ok (.iconst 1, 1) := by decide +kernel
theorem dX2_readMilks_77 : decode cX2_readMilks 77 = .ok (.iadd, 1) := by decide +kernel
theorem dX2_readMilks_78 : decode cX2_readMilks 78 = .ok (.putfield 21, 3) := by decide +kernel
theorem dX2_readMilks_81 : decode cX2_readMilks 81 = .ok (.goto (-64), 3) := by decide +kernel
theorem dX2_readMilks_84 : decode cX2_readMilks 84 = .ok (.aload_n 0, 1) := by decide +kernel
theorem dX2_readMilks_85 : decode cX2_readMilks 85 = .ok (.getfield 12, 3) := by decide +kernel
theorem dX2_readMilks_88 : decode cX2_readMilks 88 = .ok (.getfield 70, 3) := by decide +kernel
theorem dX2_readMilks_91 : decode cX2_readMilks 91 = .ok (.ifCond .le 7, 3) := by decide +kernel
theorem dX2_readMilks_94 : decode cX2_readMilks 94 = .ok (.iconst 1, 1) := by decide +kernel
theorem dX2_readMilks_95 : decode cX2_readMilks 95 = .ok (.goto 4, 3) := by decide +kernel
theorem dX2_readMilks_98 : decode cX2_readMilks 98 = .ok (.iconst 0, 1) := by decide +kernel
theorem dX2_readMilks_99 : decode cX2_readMilks 99 = .ok (.ireturn, 1) := by decide +kernel
set_option maxRecDepth 20000 in
theorem ggX2_readBeasts_X2_skipBlanks : GoodIn wsX2_readBeasts wsX2_skipBlanks := goodIn_r _ [9, 1, 2, 10, 55, 56, 57, 58] (by decide +kernel) (by decide +kernel)
set_option maxRecDepth 20000 in
theorem gX2_readBeasts_X2_skipBlanks : GoodIn wsX2_readBeasts (wsV RX2 35 RX2 yX2_skipBlanks wsX2_skipBlanks) := goodIn_app (goodIn_of _ (by decide +kernel)) ggX2_readBeasts_X2_skipBlanks
set_option maxRecDepth 20000 in
theorem ggX2_readBeasts_X2_readBeast : GoodIn wsX2_readBeasts wsX2_readBeast := goodIn_r _ [14, 1, 3, 15, 16, 17, 8, 18, 10, 19, 20, 21, 22, 23, 24, 25, 26, 27, 28, 29, 30, 31, 32, 33, 34, 35, 36, 37, 38, 39, 40, 41, 42, 43, 44, 45, 46, 47, 48, 49, 50, 51, 52, 53, 54, 55, 56, 57, 58, 59, 60, 61, 62, 63, 64, 65, 66, 67, 68, 69, 70, 71, 72, 73, 74] (by decide +kernel) (by decide +kernel)
set_option maxRecDepth 20000 in
theorem gX2_readBeasts_X2_readBeast : GoodIn wsX2_readBeasts (wsV RX2 73 RX2 yX2_readBeast wsX2_readBeast) := goodIn_app (goodIn_of _ (by decide +kernel)) ggX2_readBeasts_X2_readBeast
theorem dX2_readBeasts_0 : decode cX2_readBeasts 0 = .ok (.aload_n 0, 1) := by decide +kernel
theorem dX2_readBeasts_1 : decode cX2_readBeasts 1 = .ok (.aload_n 1, 1) := by decide +kernel
theorem dX2_readBeasts_2 : decode cX2_readBeasts 2 = .ok (.invokevirtual 35, 3) := by decide +kernel
theorem dX2_readBeasts_5 : decode cX2_readBeasts 5 = .ok (.iconst 0, 1) := by decide +kernel
theorem dX2_readBeasts_6 : decode cX2_readBeasts 6 = .ok (.istore_n 2, 1) := by decide +kernel
theorem dX2_readBeasts_7 : decode cX2_readBeasts 7 = .ok (.iload_n 2, 1) := by decide +kernel
theorem dX2_readBeasts_8 : decode cX2_readBeasts 8 = .ok (.bipush 6, 2) := by decide +kernel
theorem dX2_readBeasts_10 : decode cX2_readBeasts 10 = .ok (.if_icmp .ge 35, 3) := by decide +kernel
theorem dX2_readBeasts_13 : decode cX2_readBeasts 13 = .ok (.aload_n 0, 1) := by decide +kernel
theorem dX2_readBeasts_14 : decode cX2_readBeasts 14 = .ok (.getfield 21, 3) := by decide +kernel
theorem dX2_readBeasts_17 : decode cX2_readBeasts 17 = .ok (.aload_n 1, 1) := by decide +kernel
theorem dX2_readBeasts_18 : decode cX2_readBeasts 18 = .ok (.getfield 43, 3) := by decide +kernel
theorem dX2_readBeasts_21 : decode cX2_readBeasts 21 = .ok (.if_icmp .ge 24, 3) := by decide +kernel
theorem dX2_readBeasts_24 : decode cX2_readBeasts 24 = .ok (.aload_n 0, 1) := by decide +kernel
theorem dX2_readBeasts_25 : decode cX2_readBeasts 25 = .ok (.aload_n 1, 1) := by decide +kernel
theorem dX2_readBeasts_26 : decode cX2_readBeasts 26 = .ok (.invokevirtual 73, 3) := by decide +kernel
theorem dX2_readBeasts_29 : decode cX2_readBeasts 29 = .ok (.ifCond .ne 5, 3) := by decide +kernel
theorem dX2_readBeasts_32 : decode cX2_readBeasts 32 = .ok (.iconst 0, 1) := by decide +kernel
theorem dX2_readBeasts_33 : decode cX2_readBeasts 33 = .ok (.ireturn, 1) := by decide +kernel
theorem dX2_readBeasts_34 : decode cX2_readBeasts 34 = .ok (.aload_n 0, 1) := by decide +kernel
theorem dX2_readBeasts_35 : decode cX2_readBeasts 35 = .ok (.aload_n 1, 1) := by decide +kernel
theorem dX2_readBeasts_36 : decode cX2_readBeasts 36 = .ok (.invokevirtual 35, 3) := by decide +kernel
theorem dX2_readBeasts_39 : decode cX2_readBeasts 39 = .ok (.iinc 2 1, 3) := by decide +kernel
theorem dX2_readBeasts_42 : decode cX2_readBeasts 42 = .ok (.goto (-35), 3) := by decide +kernel
theorem dX2_readBeasts_45 : decode cX2_readBeasts 45 = .ok (.aload_n 0, 1) := by decide +kernel
theorem dX2_readBeasts_46 : decode cX2_readBeasts 46 = .ok (.getfield 12, 3) := by decide +kernel
theorem dX2_readBeasts_49 : decode cX2_readBeasts 49 = .ok (.getfield 76, 3) := by decide +kernel
theorem dX2_readBeasts_52 : decode cX2_readBeasts 52 = .ok (.ifCond .le 18, 3) := by decide +kernel
theorem dX2_readBeasts_55 : decode cX2_readBeasts 55 = .ok (.aload_n 0, 1) := by decide +kernel
theorem dX2_readBeasts_56 : decode cX2_readBeasts 56 = .ok (.getfield 21, 3) := by decide +kernel
theorem dX2_readBeasts_59 : decode cX2_readBeasts 59 = .ok (.aload_n 1, 1) := by decide +kernel
theorem dX2_readBeasts_60 : decode cX2_readBeasts 60 = .ok (.getfield 43, 3) := by decide +kernel
theorem dX2_readBeasts_63 : decode cX2_readBeasts 63 = .ok (.if_icmp .lt 7, 3) := by decide +kernel
theorem dX2_readBeasts_66 : decode cX2_readBeasts 66 = .ok (.iconst 1, 1) := by decide +kernel
theorem dX2_readBeasts_67 : decode cX2_readBeasts 67 = .ok (.goto 4, 3) := by decide +kernel
theorem dX2_readBeasts_70 : decode cX2_readBeasts 70 = .ok (.iconst 0, 1) := by decide +kernel
theorem dX2_readBeasts_71 : decode cX2_readBeasts 71 = .ok (.ireturn, 1) := by decide +kernel
set_option maxRecDepth 20000 in
theorem ggX2_readBeast_X2_signHere : GoodIn wsX2_readBeast wsX2_signHere := goodIn_r _ [7, 1, 8, 9, 10, 11, 12, 13, 14, 45, 46, 47, 48] (by decide +kernel) (by decide +kernel)
set_option maxRecDepth 20000 in
theorem gX2_readBeast_X2_signHere : GoodIn wsX2_readBeast (wsV RX2 79 RX2 yX2_signHere wsX2_signHere) := goodIn_app (goodIn_of _ (by decide +kernel)) ggX2_readBeast_X2_signHere
set_option maxRecDepth 20000 in
theorem ggX2_readBeast_X2_kindOfLetter : GoodIn wsX2_readBeast wsX2_kindOfLetter := goodIn_r _ [17] (by decide +kernel) (by decide +kernel)
set_option maxRecDepth 20000 in
theorem gX2_readBeast_X2_kindOfLetter : GoodIn wsX2_readBeast (va_wsS RX2 83 yX2_kindOfLetter wsX2_kindOfLetter) := goodIn_app (goodIn_of _ (by decide +kernel)) ggX2_readBeast_X2_kindOfLetter
set_option maxRecDepth 20000 in
theorem ggX2_readBeast_X4_outside : GoodIn wsX2_readBeast wsX4_outside := goodIn_r _ [20] (by decide +kernel) (by decide +kernel)
set_option maxRecDepth 20000 in
theorem gX2_readBeast_X4_outside_n63 : GoodIn wsX2_readBeast (wsX4_outside) := ggX2_readBeast_X4_outside
set_option maxRecDepth 20000 in
theorem ggX2_readBeast_X2_farmOfLetter : GoodIn wsX2_readBeast wsX2_farmOfLetter := goodIn_r _ [23] (by decide +kernel) (by decide +kernel)
set_option maxRecDepth 20000 in
theorem gX2_readBeast_X2_farmOfLetter : GoodIn wsX2_readBeast (va_wsS RX2 52 yX2_farmOfLetter wsX2_farmOfLetter) := goodIn_app (goodIn_of _ (by decide +kernel)) ggX2_readBeast_X2_farmOfLetter
set_option maxRecDepth 20000 in
theorem ggX2_readBeast_X1_addBeast : GoodIn wsX2_readBeast wsX1_addBeast := goodIn_r _ [28, 29, 30, 31, 32, 33, 34, 35, 36, 37, 38, 39, 40, 41, 42, 43, 44, 49, 50, 51, 52, 53, 54, 55, 56, 57, 58, 59, 60, 61, 62, 63, 64] (by decide +kernel) (by decide +kernel)
set_option maxRecDepth 20000 in
theorem gX2_readBeast_X1_addBeast : GoodIn wsX2_readBeast (wsV RX2 86 RX1 yX1_addBeast wsX1_addBeast) := goodIn_app (goodIn_of _ (by decide +kernel)) ggX2_readBeast_X1_addBeast
theorem dX2_readBeast_0 : decode cX2_readBeast 0 = .ok (.aload_n 0, 1) := by decide +kernel
theorem dX2_readBeast_1 : decode cX2_readBeast 1 = .ok (.aload_n 1, 1) := by decide +kernel
theorem dX2_readBeast_2 : decode cX2_readBeast 2 = .ok (.invokevirtual 79, 3) := by decide +kernel
theorem dX2_readBeast_5 : decode cX2_readBeast 5 = .ok (.invokestatic 83, 3) := by decide +kernel
theorem dX2_readBeast_8 : decode cX2_readBeast 8 = .ok (.istore_n 2, 1) := by decide +kernel
theorem dX2_readBeast_9 : decode cX2_readBeast 9 = .ok (.iload_n 2, 1) := by decide +kernel
theorem dX2_readBeast_10 : decode cX2_readBeast 10 = .ok (.bipush (-9), 2) := by decide +kernel
theorem dX2_readBeast_12 : decode cX2_readBeast 12 = .ok (.if_icmp .ne 5, 3) := by decide +kernel
theorem dX2_readBeast_15 : decode cX2_readBeast 15 = .ok (.iconst 0, 1) := by decide +kernel
theorem dX2_readBeast_16 : decode cX2_readBeast 16 = .ok (.ireturn, 1) := by decide +kernel
theorem dX2_readBeast_17 : decode cX2_readBeast 17 = .ok (.aload_n 0, 1) := by decide +kernel
theorem dX2_readBeast_18 : decode cX2_readBeast 18 = .ok (.dup, 1) := by decide +kernel
theorem dX2_readBeast_19 : decode cX2_readBeast 19 = .ok (.getfield 21, 3) := by decide +kernel
theorem dX2_readBeast_22 : decode cX2_readBeast 22 = .ok (.iconst 1, 1) := by decide +kernel
theorem dX2_readBeast_23 : decode cX2_readBeast 23 = .ok (.iadd, 1) := by decide +kernel
theorem dX2_readBeast_24 : decode cX2_readBeast 24 = .ok (.putfield 21, 3) := by decide +kernel
theorem dX2_readBeast_27 : decode cX2_readBeast 27 = .ok (.aload_n 0, 1) := by decide +kernel
theorem dX2_readBeast_28 : decode cX2_readBeast 28 = .ok (.aload_n 1, 1) := by decide +kernel
theorem dX2_readBeast_29 : decode cX2_readBeast 29 = .ok (.invokevirtual 79, 3) := by decide +kernel
theorem dX2_readBeast_32 : decode cX2_readBeast 32 = .ok (.istore_n 3, 1) := by decide +kernel
theorem dX2_readBeast_33 : decode cX2_readBeast 33 = .ok (.iload_n 3, 1) := by decide +kernel
theorem dX2_readBeast_34 : decode cX2_readBeast 34 = .ok (.bipush 49, 2) := by decide +kernel
theorem dX2_readBeast_36 : decode cX2_readBeast 36 = .ok (.bipush 57, 2) := by decide +kernel
theorem dX2_readBeast_38 : decode cX2_readBeast 38 = .ok (.invokestatic 63, 3) := by decide +kernel
theorem dX2_readBeast_41 : decode cX2_readBeast 41 = .ok (.ifCond .eq 5, 3) := by decide +kernel
theorem dX2_readBeast_44 : decode cX2_readBeast 44 = .ok (.iconst 0, 1) := by decide +kernel
theorem dX2_readBeast_45 : decode cX2_readBeast 45 = .ok (.ireturn, 1) := by decide +kernel
theorem dX2_readBeast_46 : decode cX2_readBeast 46 = .ok (.aload_n 0, 1) := by decide +kernel
theorem dX2_readBeast_47 : decode cX2_readBeast 47 = .ok (.dup, 1) := by decide +kernel
theorem dX2_readBeast_48 : decode cX2_readBeast 48 = .ok (.getfield 21, 3) := by decide +kernel
theorem dX2_readBeast_51 : decode cX2_readBeast 51 = .ok (.iconst 1, 1) := by decide +kernel
theorem dX2_readBeast_52 : decode cX2_readBeast 52 = .ok (.iadd, 1) := by decide +kernel
theorem dX2_readBeast_53 : decode cX2_readBeast 53 = .ok (.putfield 21, 3) := by decide +kernel
theorem dX2_readBeast_56 : decode cX2_readBeast 56 = .ok (.aload_n 0, 1) := by decide +kernel
theorem dX2_readBeast_57 : decode cX2_readBeast 57 = .ok (.aload_n 1, 1) := by decide +kernel
theorem dX2_readBeast_58 : decode cX2_readBeast 58 = .ok (.invokevirtual 79, 3) := by decide +kernel
theorem dX2_readBeast_61 : decode cX2_readBeast 61 = .ok (.invokestatic 52, 3) := by decide +kernel
theorem dX2_readBeast_64 : decode cX2_readBeast 64 = .ok (.istore 4, 2) := by decide +kernel
theorem dX2_readBeast_66 : decode cX2_readBeast 66 = .ok (.iload 4, 2) := by decide +kernel
theorem dX2_readBeast_68 : decode cX2_readBeast 68 = .ok (.bipush (-9), 2) := by decide +kernel
theorem dX2_readBeast_70 : decode cX2_readBeast 70 = .ok (.if_icmp .ne 5, 3) := by decide +kernel
theorem dX2_readBeast_73 : decode cX2_readBeast 73 = .ok (.iconst 0, 1) := by decide +kernel
theorem dX2_readBeast_74 : decode cX2_readBeast 74 = .ok (.ireturn, 1) := by decide +kernel
theorem dX2_readBeast_75 : decode cX2_readBeast 75 = .ok (.aload_n 0, 1) := by decide +kernel
theorem dX2_readBeast_76 : decode cX2_readBeast 76 = .ok (.dup, 1) := by decide +kernel
theorem dX2_readBeast_77 : decode cX2_readBeast 77 = .ok (.getfield 21, 3) := by decide +kernel
theorem dX2_readBeast_80 : decode cX2_readBeast 80 = .ok (.iconst 1, 1) := by decide +kernel
theorem dX2_readBeast_81 : decode cX2_readBeast 81 = .ok (.iadd, 1) := by decide +kernel
theorem dX2_readBeast_82 : decode cX2_readBeast 82 = .ok (.putfield 21, 3) := by decide +kernel
theorem dX2_readBeast_85 : decode cX2_readBeast 85 = .ok (.aload_n 0, 1) := by decide +kernel
theorem dX2_readBeast_86 : decode cX2_readBeast 86 = .ok (.getfield 12, 3) := by decide +kernel
theorem dX2_readBeast_89 : decode cX2_readBeast 89 = .ok (.iload_n 2, 1) := by decide +kernel
theorem dX2_readBeast_90 : decode cX2_readBeast 90 = .ok (.iload_n 3, 1) := by decide +kernel
theorem dX2_readBeast_91 : decode cX2_readBeast 91 = .ok (.bipush 48, 2) := by decide +kernel
theorem dX2_readBeast_93 : decode cX2_readBeast 93 = .ok (.isub, 1) := by decide +kernel
theorem dX2_readBeast_94 : decode cX2_readBeast 94 = .ok (.iload 4, 2) := by decide +kernel
theorem dX2_readBeast_96 : decode cX2_readBeast 96 = .ok (.invokevirtual 86, 3) := by decide +kernel
theorem dX2_readBeast_99 : decode cX2_readBeast 99 = .ok (.ireturn, 1) := by decide +kernel
theorem dX2_skipBlanks_0 : decode cX2_skipBlanks 0 = .ok (.aload_n 0, 1) := by decide +kernel
theorem dX2_skipBlanks_1 : decode cX2_skipBlanks 1 = .ok (.getfield 21, 3) := by decide +kernel
theorem dX2_skipBlanks_4 : decode cX2_skipBlanks 4 = .ok (.aload_n 1, 1) := by decide +kernel
theorem dX2_skipBlanks_5 : decode cX2_skipBlanks 5 = .ok (.getfield 43, 3) := by decide +kernel
theorem dX2_skipBlanks_8 : decode cX2_skipBlanks 8 = .ok (.if_icmp .ge 30, 3) := by decide +kernel
theorem dX2_skipBlanks_11 : decode cX2_skipBlanks 11 = .ok (.aload_n 1, 1) := by decide +kernel
theorem dX2_skipBlanks_12 : decode cX2_skipBlanks 12 = .ok (.getfield 48, 3) := by decide +kernel
theorem dX2_skipBlanks_15 : decode cX2_skipBlanks 15 = .ok (.aload_n 0, 1) := by decide +kernel
theorem dX2_skipBlanks_16 : decode cX2_skipBlanks 16 = .ok (.getfield 21, 3) := by decide +kernel
theorem dX2_skipBlanks_19 : decode cX2_skipBlanks 19 = .ok (.iaload, 1) := by decide +kernel
theorem dX2_skipBlanks_20 : decode cX2_skipBlanks 20 = .ok (.bipush 32, 2) := by decide +kernel
theorem dX2_skipBlanks_22 : decode cX2_skipBlanks 22 = .ok (.if_icmp .ne 16, 3) := by decide +kernel
theorem dX2_skipBlanks_25 : decode cX2_skipBlanks 25 = .ok (.aload_n 0, 1) := by decide +kernel
theorem dX2_skipBlanks_26 : decode cX2_skipBlanks 26 = .ok (.dup, 1) := by decide +kernel
theorem dX2_skipBlanks_27 : decode cX2_skipBlanks 27 = .ok (.getfield 21, 3) := by decide +kernel
theorem dX2_skipBlanks_30 : decode cX2_skipBlanks 30 = .ok (.iconst 1, 1) := by decide +kernel
theorem dX2_skipBlanks_31 : decode cX2_skipBlanks 31 = .ok (.iadd, 1) := by decide +kernel
theorem dX2_skipBlanks_32 : decode cX2_skipBlanks 32 = .ok (.putfield 21, 3) := by decide +kernel
theorem dX2_skipBlanks_35 : decode cX2_skipBlanks 35 = .ok (.goto (-35), 3) := by decide +kernel
theorem dX2_skipBlanks_38 : decode cX2_skipBlanks 38 = .ok (.return_, 1) := by decide +kernel
set_option maxRecDepth 20000 in
theorem ggX2_take_X2_signHere : GoodIn wsX2_take wsX2_signHere := goodIn_r _ [6, 1, 7, 8, 9, 10, 11, 12, 13, 14, 15, 16, 17] (by decide +kernel) (by decide +kernel)
set_option maxRecDepth 20000 in
theorem gX2_take_X2_signHere : GoodIn wsX2_take (wsV RX2 79 RX2 yX2_signHere wsX2_signHere) := goodIn_app (goodIn_of _ (by decide +kernel)) ggX2_take_X2_signHere
theorem dX2_take_0 : decode cX2_take 0 = .ok (.aload_n 0, 1) := by decide +kernel
theorem dX2_take_1 : decode cX2_take 1 = .ok (.aload_n 1, 1) := by decide +kernel
theorem dX2_take_2 : decode cX2_take 2 = .ok (.invokevirtual 79, 3) := by decide +kernel
theorem dX2_take_5 : decode cX2_take 5 = .ok (.iload_n 2, 1) := by decide +kernel
theorem dX2_take_6 : decode cX2_take 6 = .ok (.if_icmp .eq 5, 3) := by decide +kernel
theorem dX2_take_9 : decode cX2_take 9 = .ok (.iconst 0, 1) := by decide +kernel
theorem dX2_take_10 : decode cX2_take 10 = .ok (.ireturn, 1) := by decide +kernel
theorem dX2_take_11 : decode cX2_take 11 = .ok (.aload_n 0, 1) := by decide +kernel
theorem dX2_take_12 : decode cX2_take 12 = .ok (.dup, 1) := by decide +kernel
theorem dX2_take_13 : decode cX2_take 13 = .ok (.getfield 21, 3) := by decide +kernel
theorem dX2_take_16 : decode cX2_take 16 = .ok (.iconst 1, 1) := by decide +kernel
theorem dX2_take_17 : decode cX2_take 17 = .ok (.iadd, 1) := by decide +kernel
theorem dX2_take_18 : decode cX2_take 18 = .ok (.putfield 21, 3) := by decide +kernel
theorem dX2_take_21 : decode cX2_take 21 = .ok (.iconst 1, 1) := by decide +kernel
theorem dX2_take_22 : decode cX2_take 22 = .ok (.ireturn, 1) := by decide +kernel
set_option maxRecDepth 20000 in
theorem ggX2_signHere_X3_has : GoodIn wsX2_signHere wsX3_has := goodIn_r _ [7, 8, 11, 12] (by decide +kernel) (by decide +kernel)
set_option maxRecDepth 20000 in
theorem gX2_signHere_X3_has : GoodIn wsX2_signHere (wsV RX2 89 RX3 yX3_has wsX3_has) := goodIn_app (goodIn_of _ (by decide +kernel)) ggX2_signHere_X3_has
theorem dX2_signHere_0 : decode cX2_signHere 0 = .ok (.aload_n 1, 1) := by decide +kernel
theorem dX2_signHere_1 : decode cX2_signHere 1 = .ok (.aload_n 0, 1) := by decide +kernel
theorem dX2_signHere_2 : decode cX2_signHere 2 = .ok (.getfield 21, 3) := by decide +kernel
theorem dX2_signHere_5 : decode cX2_signHere 5 = .ok (.invokevirtual 89, 3) := by decide +kernel
theorem dX2_signHere_8 : decode cX2_signHere 8 = .ok (.ifCond .eq 15, 3) := by decide +kernel
theorem dX2_signHere_11 : decode cX2_signHere 11 = .ok (.aload_n 1, 1) := by decide +kernel
theorem dX2_signHere_12 : decode cX2_signHere 12 = .ok (.getfield 48, 3) := by decide +kernel
theorem dX2_signHere_15 : decode cX2_signHere 15 = .ok (.aload_n 0, 1) := by decide +kernel
theorem dX2_signHere_16 : decode cX2_signHere 16 = .ok (.getfield 21, 3) := by decide +kernel
theorem dX2_signHere_19 : decode cX2_signHere 19 = .ok (.iaload, 1) := by decide +kernel
theorem dX2_signHere_20 : decode cX2_signHere 20 = .ok (.goto 6, 3) := by decide +kernel
theorem dX2_signHere_23 : decode cX2_signHere 23 = .ok (.sipush 256, 3) := by decide +kernel
theorem dX2_signHere_26 : decode cX2_signHere 26 = .ok (.ireturn, 1) := by decide +kernel
theorem dX2_farmOfLetter_0 : decode cX2_farmOfLetter 0 = .ok (.iload_n 0, 1) := by decide +kernel
theorem dX2_farmOfLetter_1 : decode cX2_farmOfLetter 1 = .ok (.bipush 97, 2) := by decide +kernel
theorem dX2_farmOfLetter_3 : decode cX2_farmOfLetter 3 = .ok (.if_icmp .ne 7, 3) := by decide +kernel
theorem dX2_farmOfLetter_6 : decode cX2_farmOfLetter 6 = .ok (.iconst 0, 1) := by decide +kernel
theorem dX2_farmOfLetter_7 : decode cX2_farmOfLetter 7 = .ok (.goto 15, 3) := by decide +kernel
theorem dX2_farmOfLetter_10 : decode cX2_farmOfLetter 10 = .ok (.iload_n 0, 1) := by decide +kernel
theorem dX2_farmOfLetter_11 : decode cX2_farmOfLetter 11 = .ok (.bipush 98, 2) := by decide +kernel
theorem dX2_farmOfLetter_13 : decode cX2_farmOfLetter 13 = .ok (.if_icmp .ne 7, 3) := by decide +kernel
theorem dX2_farmOfLetter_16 : decode cX2_farmOfLetter 16 = .ok (.iconst 1, 1) := by decide +kernel
theorem dX2_farmOfLetter_17 : decode cX2_farmOfLetter 17 = .ok (.goto 5, 3) := by decide +kernel
theorem dX2_farmOfLetter_20 : decode cX2_farmOfLetter 20 = .ok (.bipush (-9), 2) := by decide +kernel
theorem dX2_farmOfLetter_22 : decode cX2_farmOfLetter 22 = .ok (.ireturn, 1) := by decide +kernel
theorem dX2_kindOfLetter_0 : decode cX2_kindOfLetter 0 = .ok (.iconst 0, 1) := by decide +kernel
theorem dX2_kindOfLetter_1 : decode cX2_kindOfLetter 1 = .ok (.istore_n 1, 1) := by decide +kernel
theorem dX2_kindOfLetter_2 : decode cX2_kindOfLetter 2 = .ok (.iload_n 1, 1) := by decide +kernel
theorem dX2_kindOfLetter_3 : decode cX2_kindOfLetter 3 = .ok (.getstatic 92, 3) := by decide +kernel
theorem dX2_kindOfLetter_6 : decode cX2_kindOfLetter 6 = .ok (.arraylength, 1) := by decide +kernel
theorem dX2_kindOfLetter_7 : decode cX2_kindOfLetter 7 = .ok (.if_icmp .ge 20, 3) := by decide +kernel
theorem dX2_kindOfLetter_10 : decode cX2_kindOfLetter 10 = .ok (.getstatic 92, 3) := by decide +kernel
theorem dX2_kindOfLetter_13 : decode cX2_kindOfLetter 13 = .ok (.iload_n 1, 1) := by decide +kernel
theorem dX2_kindOfLetter_14 : decode cX2_kindOfLetter 14 = .ok (.iaload, 1) := by decide +kernel
theorem dX2_kindOfLetter_15 : decode cX2_kindOfLetter 15 = .ok (.iload_n 0, 1) := by decide +kernel
theorem dX2_kindOfLetter_16 : decode cX2_kindOfLetter 16 = .ok (.if_icmp .ne 5, 3) := by decide +kernel
theorem dX2_kindOfLetter_19 : decode cX2_kindOfLetter 19 = .ok (.iload_n 1, 1) := by decide +kernel
theorem dX2_kindOfLetter_20 : decode cX2_kindOfLetter 20 = .ok (.ireturn, 1) := by decide +kernel
theorem dX2_kindOfLetter_21 : decode cX2_kindOfLetter 21 = .ok (.iinc 1 1, 3) := by decide +kernel
theorem dX2_kindOfLetter_24 : decode cX2_kindOfLetter 24 = .ok (.goto (-22), 3) := by decide +kernel
theorem dX2_kindOfLetter_27 : decode cX2_kindOfLetter 27 = .ok (.bipush (-9), 2) := by decide +kernel
theorem dX2_kindOfLetter_29 : decode cX2_kindOfLetter 29 = .ok (.ireturn, 1) := by decide +kernel
theorem dX3_init_0 : decode cX3_init 0 = .ok (.aload_n 0, 1) := by decide +kernel
theorem dX3_init_1 : decode cX3_init 1 = .ok (.invokespecial 3, 3) := by decide +kernel
theorem dX3_init_4 : decode cX3_init 4 = .ok (.aload_n 0, 1) := by decide +kernel
theorem dX3_init_5 : decode cX3_init 5 = .ok (.iconst (-1), 1) := by decide +kernel
theorem dX3_init_6 : decode cX3_init 6 = .ok (.putfield 9, 3) := by decide +kernel
theorem dX3_init_9 : decode cX3_init 9 = .ok (.aload_n 0, 1) := by decide +kernel
theorem dX3_init_10 : decode cX3_init 10 = .ok (.iconst 0, 1) := by decide +kernel
theorem dX3_init_11 : decode cX3_init 11 = .ok (.iload_n 1, 1) := by decide +kernel
theorem dX3_init_12 : decode cX3_init 12 = .ok (.invokestatic 15, 3) := by decide +kernel
theorem dX3_init_15 : decode cX3_init 15 = .ok (.newarray .int, 2) := by decide +kernel
theorem dX3_init_17 : decode cX3_init 17 = .ok (.putfield 21, 3) := by decide +kernel
theorem dX3_init_20 : decode cX3_init 20 = .ok (.return_, 1) := by decide +kernel
theorem dX3_isMissing_0 : decode cX3_isMissing 0 = .ok (.aload_n 0, 1) := by decide +kernel
theorem dX3_isMissing_1 : decode cX3_isMissing 1 = .ok (.getfield 9, 3) := by decide +kernel
theorem dX3_isMissing_4 : decode cX3_isMissing 4 = .ok (.ifCond .ge 7, 3) := by decide +kernel
theorem dX3_isMissing_7 : decode cX3_isMissing 7 = .ok (.iconst 1, 1) := by decide +kernel
theorem dX3_isMissing_8 : decode cX3_isMissing 8 = .ok (.goto 4, 3) := by decide +kernel
theorem dX3_isMissing_11 : decode cX3_isMissing 11 = .ok (.iconst 0, 1) := by decide +kernel
theorem dX3_isMissing_12 : decode cX3_isMissing 12 = .ok (.ireturn, 1) := by decide +kernel
theorem dX3_has_0 : decode cX3_has 0 = .ok (.iload_n 1, 1) := by decide +kernel
theorem dX3_has_1 : decode cX3_has 1 = .ok (.ifCond .lt 15, 3) := by decide +kernel
theorem dX3_has_4 : decode cX3_has 4 = .ok (.iload_n 1, 1) := by decide +kernel
theorem dX3_has_5 : decode cX3_has 5 = .ok (.aload_n 0, 1) := by decide +kernel
theorem dX3_has_6 : decode cX3_has 6 = .ok (.getfield 9, 3) := by decide +kernel
theorem dX3_has_9 : decode cX3_has 9 = .ok (.if_icmp .ge 7, 3) := by decide +kernel
theorem dX3_has_12 : decode cX3_has 12 = .ok (.iconst 1, 1) := by decide +kernel
theorem dX3_has_13 : decode cX3_has 13 = .ok (.goto 4, 3) := by decide +kernel
theorem dX3_has_16 : decode cX3_has 16 = .ok (.iconst 0, 1) := by decide +kernel
theorem dX3_has_17 : decode cX3_has 17 = .ok (.ireturn, 1) := by decide +kernel
theorem dX3_hasRun_0 : decode cX3_hasRun 0 = .ok (.iload_n 1, 1) := by decide +kernel
theorem dX3_hasRun_1 : decode cX3_hasRun 1 = .ok (.ifCond .lt 29, 3) := by decide +kernel
theorem dX3_hasRun_4 : decode cX3_hasRun 4 = .ok (.iload_n 2, 1) := by decide +kernel
theorem dX3_hasRun_5 : decode cX3_hasRun 5 = .ok (.ifCond .lt 25, 3) := by decide +kernel
theorem dX3_hasRun_8 : decode cX3_hasRun 8 = .ok (.iload_n 1, 1) := by decide +kernel
theorem dX3_hasRun_9 : decode cX3_hasRun 9 = .ok (.aload_n 0, 1) := by decide +kernel
theorem dX3_hasRun_10 : decode cX3_hasRun 10 = .ok (.getfield 9, 3) := by decide +kernel
theorem dX3_hasRun_13 : decode cX3_hasRun 13 = .ok (.if_icmp .gt 17, 3) := by decide +kernel
theorem dX3_hasRun_16 : decode cX3_hasRun 16 = .ok (.iload_n 2, 1) := by decide +kernel
theorem dX3_hasRun_17 : decode cX3_hasRun 17 = .ok (.aload_n 0, 1) := by decide +kernel
theorem dX3_hasRun_18 : decode cX3_hasRun 18 = .ok (.getfield 9, 3) := by decide +kernel
theorem dX3_hasRun_21 : decode cX3_hasRun 21 = .ok (.iload_n 1, 1) := by decide +kernel
theorem dX3_hasRun_22 : decode cX3_hasRun 22 = .ok (.isub, 1) := by decide +kernel
theorem dX3_hasRun_23 : decode cX3_hasRun 23 = .ok (.if_icmp .gt 7, 3) := by decide +kernel
theorem dX3_hasRun_26 : decode cX3_hasRun 26 = .ok (.iconst 1, 1) := by decide +kernel
theorem dX3_hasRun_27 : decode cX3_hasRun 27 = .ok (.goto 4, 3) := by decide +kernel
theorem dX3_hasRun_30 : decode cX3_hasRun 30 = .ok (.iconst 0, 1) := by decide +kernel
theorem dX3_hasRun_31 : decode cX3_hasRun 31 = .ok (.ireturn, 1) := by decide +kernel
theorem dX3_become_0 : decode cX3_become 0 = .ok (.aload_n 0, 1) := by decide +kernel
theorem dX3_become_1 : decode cX3_become 1 = .ok (.iload_n 1, 1) := by decide +kernel
theorem dX3_become_2 : decode cX3_become 2 = .ok (.aload_n 0, 1) := by decide +kernel
theorem dX3_become_3 : decode cX3_become 3 = .ok (.getfield 21, 3) := by decide +kernel
theorem dX3_become_6 : decode cX3_become 6 = .ok (.arraylength, 1) := by decide +kernel
theorem dX3_become_7 : decode cX3_become 7 = .ok (.invokestatic 25, 3) := by decide +kernel
theorem dX3_become_10 : decode cX3_become 10 = .ok (.putfield 9, 3) := by decide +kernel
theorem dX3_become_13 : decode cX3_become 13 = .ok (.iconst 0, 1) := by decide +kernel
theorem dX3_become_14 : decode cX3_become 14 = .ok (.istore_n 3, 1) := by decide +kernel
theorem dX3_become_15 : decode cX3_become 15 = .ok (.iload_n 3, 1) := by decide +kernel
theorem dX3_become_16 : decode cX3_become 16 = .ok (.aload_n 0, 1) := by decide +kernel
theorem dX3_become_17 : decode cX3_become 17 = .ok (.getfield 9, 3) := by decide +kernel
theorem dX3_become_20 : decode cX3_become 20 = .ok (.if_icmp .ge 16, 3) := by decide +kernel
theorem dX3_become_23 : decode cX3_become 23 = .ok (.aload_n 0, 1) := by decide +kernel
theorem dX3_become_24 : decode cX3_become 24 = .ok (.getfield 21, 3) := by decide +kernel
theorem dX3_become_27 : decode cX3_become 27 = .ok (.iload_n 3, 1) := by decide +kernel
theorem dX3_become_28 : decode cX3_become 28 = .ok (.iload_n 2, 1) := by decide +kernel
theorem dX3_become_29 : decode cX3_become 29 = .ok (.iastore, 1) := by decide +kernel
theorem dX3_become_30 : decode cX3_become 30 = .ok (.iinc 3 1, 3) := by decide +kernel
theorem dX3_become_33 : decode cX3_become 33 = .ok (.goto (-18), 3) := by decide +kernel
theorem dX3_become_36 : decode cX3_become 36 = .ok (.return_, 1) := by decide +kernel
theorem dX3_total_0 : decode cX3_total 0 = .ok (.lconst 0, 1) := by decide +kernel
theorem dX3_total_1 : decode cX3_total 1 = .ok (.lstore_n 1, 1) := by decide +kernel
theorem dX3_total_2 : decode cX3_total 2 = .ok (.iconst 0, 1) := by decide +kernel
theorem dX3_total_3 : decode cX3_total 3 = .ok (.istore_n 3, 1) := by decide +kernel
theorem dX3_total_4 : decode cX3_total 4 = .ok (.iload_n 3, 1) := by decide +kernel
theorem dX3_total_5 : decode cX3_total 5 = .ok (.aload_n 0, 1) := by decide +kernel
theorem dX3_total_6 : decode cX3_total 6 = .ok (.getfield 9, 3) := by decide +kernel
theorem dX3_total_9 : decode cX3_total 9 = .ok (.if_icmp .ge 19, 3) := by decide +kernel
theorem dX3_total_12 : decode cX3_total 12 = .ok (.lload_n 1, 1) := by decide +kernel
theorem dX3_total_13 : decode cX3_total 13 = .ok (.aload_n 0, 1) := by decide +kernel
theorem dX3_total_14 : decode cX3_total 14 = .ok (.getfield 21, 3) := by decide +kernel
theorem dX3_total_17 : decode cX3_total 17 = .ok (.iload_n 3, 1) := by decide +kernel
theorem dX3_total_18 : decode cX3_total 18 = .ok (.iaload, 1) := by decide +kernel
theorem dX3_total_19 : decode cX3_total 19 = .ok (.i2l, 1) := by decide +kernel
theorem dX3_total_20 : decode cX3_total 20 = .ok (.ladd, 1) := by decide +kernel
theorem dX3_total_21 : decode cX3_total 21 = .ok (.lstore_n 1, 1) := by decide +kernel
theorem dX3_total_22 : decode cX3_total 22 = .ok (.iinc 3 1, 3) := by decide +kernel
theorem dX3_total_25 : decode cX3_total 25 = .ok (.goto (-21), 3) := by decide +kernel
theorem dX3_total_28 : decode cX3_total 28 = .ok (.lload_n 1, 1) := by decide +kernel
theorem dX3_total_29 : decode cX3_total 29 = .ok (.lreturn, 1) := by decide +kernel
set_option maxRecDepth 20000 in
theorem ggX4_init_X1_init : GoodIn wsX4_init wsX1_init := goodIn_r _ [23, 24, 2, 3, 16, 25, 26, 27, 28, 29, 30, 31, 32, 33, 34, 35, 62, 63, 64, 65, 66, 67, 68, 69, 70, 71, 72, 77, 78, 79, 80, 81] (by decide +kernel) (by decide +kernel)
set_option maxRecDepth 20000 in
theorem gX4_init_X1_init : GoodIn wsX4_init (wsX1_init) := ggX4_init_X1_init
set_option maxRecDepth 20000 in
theorem ggX4_init_X2_init : GoodIn wsX4_init wsX2_init := goodIn_r _ [37, 38, 2, 3, 39, 8, 9, 40, 41, 22, 23, 24, 16, 25, 26, 27, 28, 29, 30, 31, 32, 33, 34, 35, 62, 63, 64, 65, 66, 67, 68, 69, 70, 71, 72, 73, 74, 77, 78, 79, 80, 81] (by decide +kernel) (by decide +kernel)
set_option maxRecDepth 20000 in
theorem gX4_init_X2_init_n31 : GoodIn wsX4_init (wsX2_init) := ggX4_init_X2_init
set_option maxRecDepth 20000 in
theorem ggX4_init_X3_init : GoodIn wsX4_init wsX3_init := goodIn_r _ [44, 45, 2, 3, 46, 47, 48, 49, 50, 16, 51, 75, 76] (by decide +kernel) (by decide +kernel)
set_option maxRecDepth 20000 in
theorem gX4_init_X3_init : GoodIn wsX4_init (wsX3_init) := ggX4_init_X3_init
theorem dX4_init_0 : decode cX4_init 0 = .ok (.aload_n 0, 1) := by decide +kernel
theorem dX4_init_1 : decode cX4_init 1 = .ok (.invokespecial 1, 3) := by decide +kernel
theorem dX4_init_4 : decode cX4_init 4 = .ok (.aload_n 0, 1) := by decide +kernel
theorem dX4_init_5 : decode cX4_init 5 = .ok (.bipush 6, 2) := by decide +kernel
theorem dX4_init_7 : decode cX4_init 7 = .ok (.anewarray 9, 3) := by decide +kernel
theorem dX4_init_10 : decode cX4_init 10 = .ok (.putfield 11, 3) := by decide +kernel
theorem dX4_init_13 : decode cX4_init 13 = .ok (.aload_n 0, 1) := by decide +kernel
theorem dX4_init_14 : decode cX4_init 14 = .ok (.iconst 4, 1) := by decide +kernel
theorem dX4_init_15 : decode cX4_init 15 = .ok (.anewarray 9, 3) := by decide +kernel
theorem dX4_init_18 : decode cX4_init 18 = .ok (.putfield 15, 3) := by decide +kernel
theorem dX4_init_21 : decode cX4_init 21 = .ok (.aload_n 0, 1) := by decide +kernel
theorem dX4_init_22 : decode cX4_init 22 = .ok (.new 18, 3) := by decide +kernel
theorem dX4_init_25 : decode cX4_init 25 = .ok (.dup, 1) := by decide +kernel
theorem dX4_init_26 : decode cX4_init 26 = .ok (.invokespecial 20, 3) := by decide +kernel
theorem dX4_init_29 : decode cX4_init 29 = .ok (.putfield 21, 3) := by decide +kernel
theorem dX4_init_32 : decode cX4_init 32 = .ok (.aload_n 0, 1) := by decide +kernel
theorem dX4_init_33 : decode cX4_init 33 = .ok (.iconst 3, 1) := by decide +kernel
theorem dX4_init_34 : decode cX4_init 34 = .ok (.anewarray 18, 3) := by decide +kernel
theorem dX4_init_37 : decode cX4_init 37 = .ok (.putfield 25, 3) := by decide +kernel
theorem dX4_init_40 : decode cX4_init 40 = .ok (.aload_n 0, 1) := by decide +kernel
theorem dX4_init_41 : decode cX4_init 41 = .ok (.new 29, 3) := by decide +kernel
theorem dX4_init_44 : decode cX4_init 44 = .ok (.dup, 1) := by decide +kernel
theorem dX4_init_45 : decode cX4_init 45 = .ok (.invokespecial 31, 3) := by decide +kernel
theorem dX4_init_48 : decode cX4_init 48 = .ok (.putfield 32, 3) := by decide +kernel
theorem dX4_init_51 : decode cX4_init 51 = .ok (.aload_n 0, 1) := by decide +kernel
theorem dX4_init_52 : decode cX4_init 52 = .ok (.bipush 6, 2) := by decide +kernel
theorem dX4_init_54 : decode cX4_init 54 = .ok (.newarray .int, 2) := by decide +kernel
theorem dX4_init_56 : decode cX4_init 56 = .ok (.putfield 36, 3) := by decide +kernel
theorem dX4_init_59 : decode cX4_init 59 = .ok (.aload_n 0, 1) := by decide +kernel
theorem dX4_init_60 : decode cX4_init 60 = .ok (.lconst 1, 1) := by decide +kernel
theorem dX4_init_61 : decode cX4_init 61 = .ok (.putfield 40, 3) := by decide +kernel
theorem dX4_init_64 : decode cX4_init 64 = .ok (.iconst 0, 1) := by decide +kernel
theorem dX4_init_65 : decode cX4_init 65 = .ok (.istore_n 1, 1) := by decide +kernel
theorem dX4_init_66 : decode cX4_init 66 = .ok (.iload_n 1, 1) := by decide +kernel
theorem dX4_init_67 : decode cX4_init 67 = .ok (.bipush 6, 2) := by decide +kernel
theorem dX4_init_69 : decode cX4_init 69 = .ok (.if_icmp .ge 24, 3) := by decide +kernel
theorem dX4_init_72 : decode cX4_init 72 = .ok (.aload_n 0, 1) := by decide +kernel
theorem dX4_init_73 : decode cX4_init 73 = .ok (.getfield 11, 3) := by decide +kernel
theorem dX4_init_76 : decode cX4_init 76 = .ok (.iload_n 1, 1) := by decide +kernel
theorem dX4_init_77 : decode cX4_init 77 = .ok (.new 9, 3) := by decide +kernel
theorem dX4_init_80 : decode cX4_init 80 = .ok (.dup, 1) := by decide +kernel
theorem dX4_init_81 : decode cX4_init 81 = .ok (.bipush 40, 2) := by decide +kernel
theorem dX4_init_83 : decode cX4_init 83 = .ok (.invokespecial 44, 3) := by decide +kernel
theorem dX4_init_86 : decode cX4_init 86 = .ok (.aastore, 1) := by decide +kernel
theorem dX4_init_87 : decode cX4_init 87 = .ok (.iinc 1 1, 3) := by decide +kernel
theorem dX4_init_90 : decode cX4_init 90 = .ok (.goto (-24), 3) := by decide +kernel
theorem dX4_init_93 : decode cX4_init 93 = .ok (.iconst 0, 1) := by decide +kernel
theorem dX4_init_94 : decode cX4_init 94 = .ok (.istore_n 1, 1) := by decide +kernel
theorem dX4_init_95 : decode cX4_init 95 = .ok (.iload_n 1, 1) := by decide +kernel
theorem dX4_init_96 : decode cX4_init 96 = .ok (.iconst 4, 1) := by decide +kernel
theorem dX4_init_97 : decode cX4_init 97 = .ok (.if_icmp .ge 24, 3) := by decide +kernel
theorem dX4_init_100 : decode cX4_init 100 = .ok (.aload_n 0, 1) := by decide +kernel
theorem dX4_init_101 : decode cX4_init 101 = .ok (.getfield 15, 3) := by decide +kernel
theorem dX4_init_104 : decode cX4_init 104 = .ok (.iload_n 1, 1) := by decide +kernel
theorem dX4_init_105 : decode cX4_init 105 = .ok (.new 9, 3) := by decide +kernel
theorem dX4_init_108 : decode cX4_init 108 = .ok (.dup, 1) := by decide +kernel
theorem dX4_init_109 : decode cX4_init 109 = .ok (.bipush 60, 2) := by decide +kernel
theorem dX4_init_111 : decode cX4_init 111 = .ok (.invokespecial 44, 3) := by decide +kernel
theorem dX4_init_114 : decode cX4_init 114 = .ok (.aastore, 1) := by decide +kernel
theorem dX4_init_115 : decode cX4_init 115 = .ok (.iinc 1 1, 3) := by decide +kernel
theorem dX4_init_118 : decode cX4_init 118 = .ok (.goto (-23), 3) := by decide +kernel
theorem dX4_init_121 : decode cX4_init 121 = .ok (.iconst 0, 1) := by decide +kernel
theorem dX4_init_122 : decode cX4_init 122 = .ok (.istore_n 1, 1) := by decide +kernel
theorem dX4_init_123 : decode cX4_init 123 = .ok (.iload_n 1, 1) := by decide +kernel
theorem dX4_init_124 : decode cX4_init 124 = .ok (.iconst 3, 1) := by decide +kernel
