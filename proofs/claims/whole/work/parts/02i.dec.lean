theorem dX5_put_19 : decode cX5_put 19 = .ok (.iconst 1, 1) := by decide +kernel
theorem dX5_put_20 : decode cX5_put 20 = .ok (.invokevirtual 66, 3) := by decide +kernel
theorem dX5_put_23 : decode cX5_put 23 = .ok (.ireturn, 1) := by decide +kernel
theorem dX5_put_24 : decode cX5_put 24 = .ok (.iload_n 2, 1) := by decide +kernel
theorem dX5_put_25 : decode cX5_put 25 = .ok (.iconst 0, 1) := by decide +kernel
theorem dX5_put_26 : decode cX5_put 26 = .ok (.aload_n 0, 1) := by decide +kernel
theorem dX5_put_27 : decode cX5_put 27 = .ok (.getfield 19, 3) := by decide +kernel
theorem dX5_put_30 : decode cX5_put 30 = .ok (.iload_n 1, 1) := by decide +kernel
theorem dX5_put_31 : decode cX5_put 31 = .ok (.iaload, 1) := by decide +kernel
theorem dX5_put_32 : decode cX5_put 32 = .ok (.iconst 1, 1) := by decide +kernel
theorem dX5_put_33 : decode cX5_put 33 = .ok (.isub, 1) := by decide +kernel
theorem dX5_put_34 : decode cX5_put 34 = .ok (.invokestatic 58, 3) := by decide +kernel
theorem dX5_put_37 : decode cX5_put 37 = .ok (.ifCond .ne 9, 3) := by decide +kernel
theorem dX5_put_40 : decode cX5_put 40 = .ok (.aload_n 0, 1) := by decide +kernel
theorem dX5_put_41 : decode cX5_put 41 = .ok (.iconst 2, 1) := by decide +kernel
theorem dX5_put_42 : decode cX5_put 42 = .ok (.invokevirtual 66, 3) := by decide +kernel
theorem dX5_put_45 : decode cX5_put 45 = .ok (.ireturn, 1) := by decide +kernel
theorem dX5_put_46 : decode cX5_put 46 = .ok (.aload_n 0, 1) := by decide +kernel
theorem dX5_put_47 : decode cX5_put 47 = .ok (.getfield 22, 3) := by decide +kernel
theorem dX5_put_50 : decode cX5_put 50 = .ok (.bipush 60, 2) := by decide +kernel
theorem dX5_put_52 : decode cX5_put 52 = .ok (.iload_n 1, 1) := by decide +kernel
theorem dX5_put_53 : decode cX5_put 53 = .ok (.imul, 1) := by decide +kernel
theorem dX5_put_54 : decode cX5_put 54 = .ok (.iload_n 2, 1) := by decide +kernel
theorem dX5_put_55 : decode cX5_put 55 = .ok (.iadd, 1) := by decide +kernel
theorem dX5_put_56 : decode cX5_put 56 = .ok (.iaload, 1) := by decide +kernel
theorem dX5_put_57 : decode cX5_put 57 = .ok (.istore 4, 2) := by decide +kernel
theorem dX5_put_59 : decode cX5_put 59 = .ok (.aload_n 0, 1) := by decide +kernel
theorem dX5_put_60 : decode cX5_put 60 = .ok (.getfield 22, 3) := by decide +kernel
theorem dX5_put_63 : decode cX5_put 63 = .ok (.bipush 60, 2) := by decide +kernel
theorem dX5_put_65 : decode cX5_put 65 = .ok (.iload_n 1, 1) := by decide +kernel
theorem dX5_put_66 : decode cX5_put 66 = .ok (.imul, 1) := by decide +kernel
theorem dX5_put_67 : decode cX5_put 67 = .ok (.iload_n 2, 1) := by decide +kernel
theorem dX5_put_68 : decode cX5_put 68 = .ok (.iadd, 1) := by decide +kernel
theorem dX5_put_69 : decode cX5_put 69 = .ok (.iload_n 3, 1) := by decide +kernel
theorem dX5_put_70 : decode cX5_put 70 = .ok (.i2b, 1) := by decide +kernel
theorem dX5_put_71 : decode cX5_put 71 = .ok (.iastore, 1) := by decide +kernel
theorem dX5_put_72 : decode cX5_put 72 = .ok (.iload 4, 2) := by decide +kernel
theorem dX5_put_74 : decode cX5_put 74 = .ok (.sipush 1000, 3) := by decide +kernel
theorem dX5_put_77 : decode cX5_put 77 = .ok (.iadd, 1) := by decide +kernel
theorem dX5_put_78 : decode cX5_put 78 = .ok (.ireturn, 1) := by decide +kernel
theorem dX5_look_0 : decode cX5_look 0 = .ok (.aload_n 0, 1) := by decide +kernel
theorem dX5_look_1 : decode cX5_look 1 = .ok (.getfield 84, 3) := by decide +kernel
theorem dX5_look_4 : decode cX5_look 4 = .ok (.aload_n 0, 1) := by decide +kernel
theorem dX5_look_5 : decode cX5_look 5 = .ok (.getfield 19, 3) := by decide +kernel
theorem dX5_look_8 : decode cX5_look 8 = .ok (.iload_n 1, 1) := by decide +kernel
theorem dX5_look_9 : decode cX5_look 9 = .ok (.iaload, 1) := by decide +kernel
theorem dX5_look_10 : decode cX5_look 10 = .ok (.if_icmp .ge 20, 3) := by decide +kernel
theorem dX5_look_13 : decode cX5_look 13 = .ok (.aload_n 0, 1) := by decide +kernel
theorem dX5_look_14 : decode cX5_look 14 = .ok (.getfield 22, 3) := by decide +kernel
theorem dX5_look_17 : decode cX5_look 17 = .ok (.bipush 60, 2) := by decide +kernel
theorem dX5_look_19 : decode cX5_look 19 = .ok (.iload_n 1, 1) := by decide +kernel
theorem dX5_look_20 : decode cX5_look 20 = .ok (.imul, 1) := by decide +kernel
theorem dX5_look_21 : decode cX5_look 21 = .ok (.aload_n 0, 1) := by decide +kernel
theorem dX5_look_22 : decode cX5_look 22 = .ok (.getfield 84, 3) := by decide +kernel
theorem dX5_look_25 : decode cX5_look 25 = .ok (.iadd, 1) := by decide +kernel
theorem dX5_look_26 : decode cX5_look 26 = .ok (.iaload, 1) := by decide +kernel
theorem dX5_look_27 : decode cX5_look 27 = .ok (.goto 6, 3) := by decide +kernel
theorem dX5_look_30 : decode cX5_look 30 = .ok (.sipush (-1000), 3) := by decide +kernel
theorem dX5_look_33 : decode cX5_look 33 = .ok (.ireturn, 1) := by decide +kernel
set_option maxRecDepth 20000 in
theorem ggX5_skips_X5_look : GoodIn wsX5_skips wsX5_look := goodIn_r _ [6, 1, 7, 8, 9, 10, 11, 12, 13, 14, 15, 16, 17, 18, 19, 20, 21, 22, 23, 24, 25] (by decide +kernel) (by decide +kernel)
set_option maxRecDepth 20000 in
theorem gX5_skips_X5_look : GoodIn wsX5_skips (wsV RX5 87 RX5 yX5_look wsX5_look) := goodIn_app (goodIn_of _ (by decide +kernel)) ggX5_skips_X5_look
theorem dX5_skips_0 : decode cX5_skips 0 = .ok (.aload_n 0, 1) := by decide +kernel
theorem dX5_skips_1 : decode cX5_skips 1 = .ok (.iload_n 1, 1) := by decide +kernel
theorem dX5_skips_2 : decode cX5_skips 2 = .ok (.invokevirtual 87, 3) := by decide +kernel
theorem dX5_skips_5 : decode cX5_skips 5 = .ok (.bipush 32, 2) := by decide +kernel
theorem dX5_skips_7 : decode cX5_skips 7 = .ok (.if_icmp .ne 16, 3) := by decide +kernel
theorem dX5_skips_10 : decode cX5_skips 10 = .ok (.aload_n 0, 1) := by decide +kernel
theorem dX5_skips_11 : decode cX5_skips 11 = .ok (.dup, 1) := by decide +kernel
theorem dX5_skips_12 : decode cX5_skips 12 = .ok (.getfield 84, 3) := by decide +kernel
theorem dX5_skips_15 : decode cX5_skips 15 = .ok (.iconst 1, 1) := by decide +kernel
theorem dX5_skips_16 : decode cX5_skips 16 = .ok (.iadd, 1) := by decide +kernel
theorem dX5_skips_17 : decode cX5_skips 17 = .ok (.putfield 84, 3) := by decide +kernel
theorem dX5_skips_20 : decode cX5_skips 20 = .ok (.goto (-20), 3) := by decide +kernel
theorem dX5_skips_23 : decode cX5_skips 23 = .ok (.return_, 1) := by decide +kernel
theorem dX5_takes_0 : decode cX5_takes 0 = .ok (.aload_n 0, 1) := by decide +kernel
theorem dX5_takes_1 : decode cX5_takes 1 = .ok (.aload_n 0, 1) := by decide +kernel
theorem dX5_takes_2 : decode cX5_takes 2 = .ok (.getfield 90, 3) := by decide +kernel
theorem dX5_takes_5 : decode cX5_takes 5 = .ok (.ifCond .eq 11, 3) := by decide +kernel
theorem dX5_takes_8 : decode cX5_takes 8 = .ok (.iload_n 1, 1) := by decide +kernel
theorem dX5_takes_9 : decode cX5_takes 9 = .ok (.ifCond .eq 7, 3) := by decide +kernel
theorem dX5_takes_12 : decode cX5_takes 12 = .ok (.iconst 1, 1) := by decide +kernel
theorem dX5_takes_13 : decode cX5_takes 13 = .ok (.goto 4, 3) := by decide +kernel
theorem dX5_takes_16 : decode cX5_takes 16 = .ok (.iconst 0, 1) := by decide +kernel
theorem dX5_takes_17 : decode cX5_takes 17 = .ok (.putfield 90, 3) := by decide +kernel
theorem dX5_takes_20 : decode cX5_takes 20 = .ok (.aload_n 0, 1) := by decide +kernel
theorem dX5_takes_21 : decode cX5_takes 21 = .ok (.dup, 1) := by decide +kernel
theorem dX5_takes_22 : decode cX5_takes 22 = .ok (.getfield 84, 3) := by decide +kernel
theorem dX5_takes_25 : decode cX5_takes 25 = .ok (.aload_n 0, 1) := by decide +kernel
theorem dX5_takes_26 : decode cX5_takes 26 = .ok (.getfield 90, 3) := by decide +kernel
theorem dX5_takes_29 : decode cX5_takes 29 = .ok (.ifCond .eq 7, 3) := by decide +kernel
theorem dX5_takes_32 : decode cX5_takes 32 = .ok (.iconst 1, 1) := by decide +kernel
theorem dX5_takes_33 : decode cX5_takes 33 = .ok (.goto 4, 3) := by decide +kernel
theorem dX5_takes_36 : decode cX5_takes 36 = .ok (.iconst 0, 1) := by decide +kernel
theorem dX5_takes_37 : decode cX5_takes 37 = .ok (.iadd, 1) := by decide +kernel
theorem dX5_takes_38 : decode cX5_takes 38 = .ok (.putfield 84, 3) := by decide +kernel
theorem dX5_takes_41 : decode cX5_takes 41 = .ok (.return_, 1) := by decide +kernel
theorem dX5_kindOf_0 : decode cX5_kindOf 0 = .ok (.iload_n 0, 1) := by decide +kernel
theorem dX5_kindOf_1 : decode cX5_kindOf 1 = .ok (.lookupswitch 71 #[(99, 59), (100, 61), (104, 67), (117, 65), (120, 69), (121, 63)], 59) := by decide +kernel
theorem dX5_kindOf_60 : decode cX5_kindOf 60 = .ok (.iconst 0, 1) := by decide +kernel
theorem dX5_kindOf_61 : decode cX5_kindOf 61 = .ok (.ireturn, 1) := by decide +kernel
theorem dX5_kindOf_62 : decode cX5_kindOf 62 = .ok (.iconst 1, 1) := by decide +kernel
theorem dX5_kindOf_63 : decode cX5_kindOf 63 = .ok (.ireturn, 1) := by decide +kernel
theorem dX5_kindOf_64 : decode cX5_kindOf 64 = .ok (.iconst 2, 1) := by decide +kernel
theorem dX5_kindOf_65 : decode cX5_kindOf 65 = .ok (.ireturn, 1) := by decide +kernel
theorem dX5_kindOf_66 : decode cX5_kindOf 66 = .ok (.iconst 3, 1) := by decide +kernel
theorem dX5_kindOf_67 : decode cX5_kindOf 67 = .ok (.ireturn, 1) := by decide +kernel
theorem dX5_kindOf_68 : decode cX5_kindOf 68 = .ok (.iconst 4, 1) := by decide +kernel
theorem dX5_kindOf_69 : decode cX5_kindOf 69 = .ok (.ireturn, 1) := by decide +kernel
theorem dX5_kindOf_70 : decode cX5_kindOf 70 = .ok (.iconst 5, 1) := by decide +kernel
theorem dX5_kindOf_71 : decode cX5_kindOf 71 = .ok (.ireturn, 1) := by decide +kernel
theorem dX5_kindOf_72 : decode cX5_kindOf 72 = .ok (.bipush (-9), 2) := by decide +kernel
theorem dX5_kindOf_74 : decode cX5_kindOf 74 = .ok (.ireturn, 1) := by decide +kernel
set_option maxRecDepth 20000 in
theorem ggX5_readsTurns_X5_skips : GoodIn wsX5_readsTurns wsX5_skips := goodIn_r _ [7, 8, 9, 10, 11, 6, 12, 13, 14, 22, 23, 24, 25, 26, 27, 28, 29, 30, 31, 32, 33, 34, 35, 36, 37, 38] (by decide +kernel) (by decide +kernel)
set_option maxRecDepth 20000 in
theorem gX5_readsTurns_X5_skips : GoodIn wsX5_readsTurns (wsV RX5 94 RX5 yX5_skips wsX5_skips) := goodIn_app (goodIn_of _ (by decide +kernel)) ggX5_readsTurns_X5_skips
set_option maxRecDepth 20000 in
theorem ggX5_readsTurns_X5_look : GoodIn wsX5_readsTurns wsX5_look := goodIn_r _ [12, 8, 13, 14, 22, 23, 24, 25, 26, 27, 28, 29, 30, 31, 32, 33, 34, 35, 36, 37, 38] (by decide +kernel) (by decide +kernel)
set_option maxRecDepth 20000 in
theorem gX5_readsTurns_X5_look : GoodIn wsX5_readsTurns (wsV RX5 87 RX5 yX5_look wsX5_look) := goodIn_app (goodIn_of _ (by decide +kernel)) ggX5_readsTurns_X5_look
set_option maxRecDepth 20000 in
theorem ggX5_readsTurns_X5_takes : GoodIn wsX5_readsTurns wsX5_takes := goodIn_r _ [18, 1, 8, 22, 23, 24, 25, 26, 27, 28, 29, 30, 31, 32, 33, 34, 35, 36, 37, 38] (by decide +kernel) (by decide +kernel)
set_option maxRecDepth 20000 in
theorem gX5_readsTurns_X5_takes : GoodIn wsX5_readsTurns (wsV RX5 98 RX5 yX5_takes wsX5_takes) := goodIn_app (goodIn_of _ (by decide +kernel)) ggX5_readsTurns_X5_takes
set_option maxRecDepth 20000 in
theorem ggX5_readsTurns_X5_in : GoodIn wsX5_readsTurns wsX5_in := goodIn_r _ [21] (by decide +kernel) (by decide +kernel)
set_option maxRecDepth 20000 in
theorem gX5_readsTurns_X5_in : GoodIn wsX5_readsTurns (va_wsS RX5 58 yX5_in wsX5_in) := goodIn_app (goodIn_of _ (by decide +kernel)) ggX5_readsTurns_X5_in
theorem dX5_readsTurns_0 : decode cX5_readsTurns 0 = .ok (.aload_n 0, 1) := by decide +kernel
theorem dX5_readsTurns_1 : decode cX5_readsTurns 1 = .ok (.iload_n 1, 1) := by decide +kernel
theorem dX5_readsTurns_2 : decode cX5_readsTurns 2 = .ok (.invokevirtual 94, 3) := by decide +kernel
theorem dX5_readsTurns_5 : decode cX5_readsTurns 5 = .ok (.aload_n 0, 1) := by decide +kernel
theorem dX5_readsTurns_6 : decode cX5_readsTurns 6 = .ok (.aload_n 0, 1) := by decide +kernel
theorem dX5_readsTurns_7 : decode cX5_readsTurns 7 = .ok (.iload_n 1, 1) := by decide +kernel
theorem dX5_readsTurns_8 : decode cX5_readsTurns 8 = .ok (.invokevirtual 87, 3) := by decide +kernel
theorem dX5_readsTurns_11 : decode cX5_readsTurns 11 = .ok (.bipush 116, 2) := by decide +kernel
theorem dX5_readsTurns_13 : decode cX5_readsTurns 13 = .ok (.if_icmp .ne 7, 3) := by decide +kernel
theorem dX5_readsTurns_16 : decode cX5_readsTurns 16 = .ok (.iconst 1, 1) := by decide +kernel
theorem dX5_readsTurns_17 : decode cX5_readsTurns 17 = .ok (.goto 4, 3) := by decide +kernel
theorem dX5_readsTurns_20 : decode cX5_readsTurns 20 = .ok (.iconst 0, 1) := by decide +kernel
theorem dX5_readsTurns_21 : decode cX5_readsTurns 21 = .ok (.invokevirtual 98, 3) := by decide +kernel
theorem dX5_readsTurns_24 : decode cX5_readsTurns 24 = .ok (.iconst 1, 1) := by decide +kernel
theorem dX5_readsTurns_25 : decode cX5_readsTurns 25 = .ok (.istore_n 2, 1) := by decide +kernel
theorem dX5_readsTurns_26 : decode cX5_readsTurns 26 = .ok (.aload_n 0, 1) := by decide +kernel
theorem dX5_readsTurns_27 : decode cX5_readsTurns 27 = .ok (.getfield 90, 3) := by decide +kernel
theorem dX5_readsTurns_30 : decode cX5_readsTurns 30 = .ok (.ifCond .eq 95, 3) := by decide +kernel
theorem dX5_readsTurns_33 : decode cX5_readsTurns 33 = .ok (.iload_n 2, 1) := by decide +kernel
theorem dX5_readsTurns_34 : decode cX5_readsTurns 34 = .ok (.ifCond .eq 91, 3) := by decide +kernel
theorem dX5_readsTurns_37 : decode cX5_readsTurns 37 = .ok (.aload_n 0, 1) := by decide +kernel
theorem dX5_readsTurns_38 : decode cX5_readsTurns 38 = .ok (.iload_n 1, 1) := by decide +kernel
theorem dX5_readsTurns_39 : decode cX5_readsTurns 39 = .ok (.invokevirtual 87, 3) := by decide +kernel
theorem dX5_readsTurns_42 : decode cX5_readsTurns 42 = .ok (.istore_n 3, 1) := by decide +kernel
theorem dX5_readsTurns_43 : decode cX5_readsTurns 43 = .ok (.aload_n 0, 1) := by decide +kernel
theorem dX5_readsTurns_44 : decode cX5_readsTurns 44 = .ok (.aload_n 0, 1) := by decide +kernel
theorem dX5_readsTurns_45 : decode cX5_readsTurns 45 = .ok (.getfield 28, 3) := by decide +kernel
theorem dX5_readsTurns_48 : decode cX5_readsTurns 48 = .ok (.iconst 1, 1) := by decide +kernel
theorem dX5_readsTurns_49 : decode cX5_readsTurns 49 = .ok (.iaload, 1) := by decide +kernel
theorem dX5_readsTurns_50 : decode cX5_readsTurns 50 = .ok (.bipush 8, 2) := by decide +kernel
theorem dX5_readsTurns_52 : decode cX5_readsTurns 52 = .ok (.if_icmp .ge 18, 3) := by decide +kernel
theorem dX5_readsTurns_55 : decode cX5_readsTurns 55 = .ok (.iload_n 3, 1) := by decide +kernel
theorem dX5_readsTurns_56 : decode cX5_readsTurns 56 = .ok (.bipush 97, 2) := by decide +kernel
theorem dX5_readsTurns_58 : decode cX5_readsTurns 58 = .ok (.bipush 98, 2) := by decide +kernel
theorem dX5_readsTurns_60 : decode cX5_readsTurns 60 = .ok (.invokestatic 58, 3) := by decide +kernel
theorem dX5_readsTurns_63 : decode cX5_readsTurns 63 = .ok (.ifCond .eq 7, 3) := by decide +kernel
theorem dX5_readsTurns_66 : decode cX5_readsTurns 66 = .ok (.iconst 1, 1) := by decide +kernel
theorem dX5_readsTurns_67 : decode cX5_readsTurns 67 = .ok (.goto 4, 3) := by decide +kernel
theorem dX5_readsTurns_70 : decode cX5_readsTurns 70 = .ok (.iconst 0, 1) := by decide +kernel
theorem dX5_readsTurns_71 : decode cX5_readsTurns 71 = .ok (.invokevirtual 98, 3) := by decide +kernel
theorem dX5_readsTurns_74 : decode cX5_readsTurns 74 = .ok (.aload_n 0, 1) := by decide +kernel
theorem dX5_readsTurns_75 : decode cX5_readsTurns 75 = .ok (.getfield 90, 3) := by decide +kernel
theorem dX5_readsTurns_78 : decode cX5_readsTurns 78 = .ok (.ifCond .eq 31, 3) := by decide +kernel
theorem dX5_readsTurns_81 : decode cX5_readsTurns 81 = .ok (.aload_n 0, 1) := by decide +kernel
theorem dX5_readsTurns_82 : decode cX5_readsTurns 82 = .ok (.getfield 28, 3) := by decide +kernel
theorem dX5_readsTurns_85 : decode cX5_readsTurns 85 = .ok (.bipush 6, 2) := by decide +kernel
theorem dX5_readsTurns_87 : decode cX5_readsTurns 87 = .ok (.aload_n 0, 1) := by decide +kernel
theorem dX5_readsTurns_88 : decode cX5_readsTurns 88 = .ok (.getfield 28, 3) := by decide +kernel
theorem dX5_readsTurns_91 : decode cX5_readsTurns 91 = .ok (.iconst 1, 1) := by decide +kernel
theorem dX5_readsTurns_92 : decode cX5_readsTurns 92 = .ok (.iaload, 1) := by decide +kernel
theorem dX5_readsTurns_93 : decode cX5_readsTurns 93 = .ok (.iadd, 1) := by decide +kernel
theorem dX5_readsTurns_94 : decode cX5_readsTurns 94 = .ok (.iload_n 3, 1) := by decide +kernel
theorem dX5_readsTurns_95 : decode cX5_readsTurns 95 = .ok (.bipush 97, 2) := by decide +kernel
theorem dX5_readsTurns_97 : decode cX5_readsTurns 97 = .ok (.isub, 1) := by decide +kernel
theorem dX5_readsTurns_98 : decode cX5_readsTurns 98 = .ok (.iastore, 1) := by decide +kernel
theorem dX5_readsTurns_99 : decode cX5_readsTurns 99 = .ok (.aload_n 0, 1) := by decide +kernel
theorem dX5_readsTurns_100 : decode cX5_readsTurns 100 = .ok (.getfield 28, 3) := by decide +kernel
theorem dX5_readsTurns_103 : decode cX5_readsTurns 103 = .ok (.iconst 1, 1) := by decide +kernel
theorem dX5_readsTurns_104 : decode cX5_readsTurns 104 = .ok (.dup2, 1) := by decide +kernel
theorem dX5_readsTurns_105 : decode cX5_readsTurns 105 = .ok (.iaload, 1) := by decide +kernel
theorem dX5_readsTurns_106 : decode cX5_readsTurns 106 = .ok (.iconst 1, 1) := by decide +kernel
theorem dX5_readsTurns_107 : decode cX5_readsTurns 107 = .ok (.iadd, 1) := by decide +kernel
theorem dX5_readsTurns_108 : decode cX5_readsTurns 108 = .ok (.iastore, 1) := by decide +kernel
theorem dX5_readsTurns_109 : decode cX5_readsTurns 109 = .ok (.aload_n 0, 1) := by decide +kernel
theorem dX5_readsTurns_110 : decode cX5_readsTurns 110 = .ok (.iload_n 1, 1) := by decide +kernel
theorem dX5_readsTurns_111 : decode cX5_readsTurns 111 = .ok (.invokevirtual 87, 3) := by decide +kernel
theorem dX5_readsTurns_114 : decode cX5_readsTurns 114 = .ok (.bipush 97, 2) := by decide +kernel
theorem dX5_readsTurns_116 : decode cX5_readsTurns 116 = .ok (.bipush 98, 2) := by decide +kernel
theorem dX5_readsTurns_118 : decode cX5_readsTurns 118 = .ok (.invokestatic 58, 3) := by decide +kernel
theorem dX5_readsTurns_121 : decode cX5_readsTurns 121 = .ok (.istore_n 2, 1) := by decide +kernel
theorem dX5_readsTurns_122 : decode cX5_readsTurns 122 = .ok (.goto (-96), 3) := by decide +kernel
theorem dX5_readsTurns_125 : decode cX5_readsTurns 125 = .ok (.return_, 1) := by decide +kernel
set_option maxRecDepth 20000 in
theorem ggX5_readsMilk_X5_skips : GoodIn wsX5_readsMilk wsX5_skips := goodIn_r _ [7, 8, 9, 10, 11, 6, 12, 13, 14, 22, 23, 24, 25, 26, 27, 28, 29, 30, 31, 32, 33, 34, 35, 36, 37, 38] (by decide +kernel) (by decide +kernel)
set_option maxRecDepth 20000 in
theorem gX5_readsMilk_X5_skips : GoodIn wsX5_readsMilk (wsV RX5 94 RX5 yX5_skips wsX5_skips) := goodIn_app (goodIn_of _ (by decide +kernel)) ggX5_readsMilk_X5_skips
set_option maxRecDepth 20000 in
theorem ggX5_readsMilk_X5_look : GoodIn wsX5_readsMilk wsX5_look := goodIn_r _ [12, 8, 13, 14, 22, 23, 24, 25, 26, 27, 28, 29, 30, 31, 32, 33, 34, 35, 36, 37, 38] (by decide +kernel) (by decide +kernel)
set_option maxRecDepth 20000 in
theorem gX5_readsMilk_X5_look : GoodIn wsX5_readsMilk (wsV RX5 87 RX5 yX5_look wsX5_look) := goodIn_app (goodIn_of _ (by decide +kernel)) ggX5_readsMilk_X5_look
set_option maxRecDepth 20000 in
theorem ggX5_readsMilk_X5_takes : GoodIn wsX5_readsMilk wsX5_takes := goodIn_r _ [18, 1, 8, 22, 23, 24, 25, 26, 27, 28, 29, 30, 31, 32, 33, 34, 35, 36, 37, 38] (by decide +kernel) (by decide +kernel)
set_option maxRecDepth 20000 in
theorem gX5_readsMilk_X5_takes : GoodIn wsX5_readsMilk (wsV RX5 98 RX5 yX5_takes wsX5_takes) := goodIn_app (goodIn_of _ (by decide +kernel)) ggX5_readsMilk_X5_takes
set_option maxRecDepth 20000 in
theorem ggX5_readsMilk_X5_in : GoodIn wsX5_readsMilk wsX5_in := goodIn_r _ [21] (by decide +kernel) (by decide +kernel)
set_option maxRecDepth 20000 in
theorem gX5_readsMilk_X5_in : GoodIn wsX5_readsMilk (va_wsS RX5 58 yX5_in wsX5_in) := goodIn_app (goodIn_of _ (by decide +kernel)) ggX5_readsMilk_X5_in
theorem dX5_readsMilk_0 : decode cX5_readsMilk 0 = .ok (.aload_n 0, 1) := by decide +kernel
theorem dX5_readsMilk_1 : decode cX5_readsMilk 1 = .ok (.iload_n 1, 1) := by decide +kernel
theorem dX5_readsMilk_2 : decode cX5_readsMilk 2 = .ok (.invokevirtual 94, 3) := by decide +kernel
theorem dX5_readsMilk_5 : decode cX5_readsMilk 5 = .ok (.aload_n 0, 1) := by decide +kernel
theorem dX5_readsMilk_6 : decode cX5_readsMilk 6 = .ok (.aload_n 0, 1) := by decide +kernel
theorem dX5_readsMilk_7 : decode cX5_readsMilk 7 = .ok (.iload_n 1, 1) := by decide +kernel
theorem dX5_readsMilk_8 : decode cX5_readsMilk 8 = .ok (.invokevirtual 87, 3) := by decide +kernel
theorem dX5_readsMilk_11 : decode cX5_readsMilk 11 = .ok (.bipush 109, 2) := by decide +kernel
theorem dX5_readsMilk_13 : decode cX5_readsMilk 13 = .ok (.if_icmp .ne 7, 3) := by decide +kernel
theorem dX5_readsMilk_16 : decode cX5_readsMilk 16 = .ok (.iconst 1, 1) := by decide +kernel
theorem dX5_readsMilk_17 : decode cX5_readsMilk 17 = .ok (.goto 4, 3) := by decide +kernel
theorem dX5_readsMilk_20 : decode cX5_readsMilk 20 = .ok (.iconst 0, 1) := by decide +kernel
theorem dX5_readsMilk_21 : decode cX5_readsMilk 21 = .ok (.invokevirtual 98, 3) := by decide +kernel
theorem dX5_readsMilk_24 : decode cX5_readsMilk 24 = .ok (.iconst 1, 1) := by decide +kernel
theorem dX5_readsMilk_25 : decode cX5_readsMilk 25 = .ok (.istore_n 2, 1) := by decide +kernel
theorem dX5_readsMilk_26 : decode cX5_readsMilk 26 = .ok (.aload_n 0, 1) := by decide +kernel
theorem dX5_readsMilk_27 : decode cX5_readsMilk 27 = .ok (.getfield 90, 3) := by decide +kernel
theorem dX5_readsMilk_30 : decode cX5_readsMilk 30 = .ok (.ifCond .eq 95, 3) := by decide +kernel
theorem dX5_readsMilk_33 : decode cX5_readsMilk 33 = .ok (.iload_n 2, 1) := by decide +kernel
theorem dX5_readsMilk_34 : decode cX5_readsMilk 34 = .ok (.ifCond .eq 91, 3) := by decide +kernel
theorem dX5_readsMilk_37 : decode cX5_readsMilk 37 = .ok (.aload_n 0, 1) := by decide +kernel
theorem dX5_readsMilk_38 : decode cX5_readsMilk 38 = .ok (.iload_n 1, 1) := by decide +kernel
theorem dX5_readsMilk_39 : decode cX5_readsMilk 39 = .ok (.invokevirtual 87, 3) := by decide +kernel
theorem dX5_readsMilk_42 : decode cX5_readsMilk 42 = .ok (.istore_n 3, 1) := by decide +kernel
theorem dX5_readsMilk_43 : decode cX5_readsMilk 43 = .ok (.aload_n 0, 1) := by decide +kernel
theorem dX5_readsMilk_44 : decode cX5_readsMilk 44 = .ok (.aload_n 0, 1) := by decide +kernel
theorem dX5_readsMilk_45 : decode cX5_readsMilk 45 = .ok (.getfield 28, 3) := by decide +kernel
theorem dX5_readsMilk_48 : decode cX5_readsMilk 48 = .ok (.iconst 2, 1) := by decide +kernel
theorem dX5_readsMilk_49 : decode cX5_readsMilk 49 = .ok (.iaload, 1) := by decide +kernel
theorem dX5_readsMilk_50 : decode cX5_readsMilk 50 = .ok (.bipush 6, 2) := by decide +kernel
theorem dX5_readsMilk_52 : decode cX5_readsMilk 52 = .ok (.if_icmp .ge 18, 3) := by decide +kernel
theorem dX5_readsMilk_55 : decode cX5_readsMilk 55 = .ok (.iload_n 3, 1) := by decide +kernel
theorem dX5_readsMilk_56 : decode cX5_readsMilk 56 = .ok (.bipush 48, 2) := by decide +kernel
theorem dX5_readsMilk_58 : decode cX5_readsMilk 58 = .ok (.bipush 57, 2) := by decide +kernel
theorem dX5_readsMilk_60 : decode cX5_readsMilk 60 = .ok (.invokestatic 58, 3) := by decide +kernel
theorem dX5_readsMilk_63 : decode cX5_readsMilk 63 = .ok (.ifCond .eq 7, 3) := by decide +kernel
theorem dX5_readsMilk_66 : decode cX5_readsMilk 66 = .ok (.iconst 1, 1) := by decide +kernel
theorem dX5_readsMilk_67 : decode cX5_readsMilk 67 = .ok (.goto 4, 3) := by decide +kernel
theorem dX5_readsMilk_70 : decode cX5_readsMilk 70 = .ok (.iconst 0, 1) := by decide +kernel
theorem dX5_readsMilk_71 : decode cX5_readsMilk 71 = .ok (.invokevirtual 98, 3) := by decide +kernel
theorem dX5_readsMilk_74 : decode cX5_readsMilk 74 = .ok (.aload_n 0, 1) := by decide +kernel
theorem dX5_readsMilk_75 : decode cX5_readsMilk 75 = .ok (.getfield 90, 3) := by decide +kernel
theorem dX5_readsMilk_78 : decode cX5_readsMilk 78 = .ok (.ifCond .eq 31, 3) := by decide +kernel
theorem dX5_readsMilk_81 : decode cX5_readsMilk 81 = .ok (.aload_n 0, 1) := by decide +kernel
theorem dX5_readsMilk_82 : decode cX5_readsMilk 82 = .ok (.getfield 28, 3) := by decide +kernel
theorem dX5_readsMilk_85 : decode cX5_readsMilk 85 = .ok (.bipush 14, 2) := by decide +kernel
theorem dX5_readsMilk_87 : decode cX5_readsMilk 87 = .ok (.aload_n 0, 1) := by decide +kernel
theorem dX5_readsMilk_88 : decode cX5_readsMilk 88 = .ok (.getfield 28, 3) := by decide +kernel
theorem dX5_readsMilk_91 : decode cX5_readsMilk 91 = .ok (.iconst 2, 1) := by decide +kernel
theorem dX5_readsMilk_92 : decode cX5_readsMilk 92 = .ok (.iaload, 1) := by decide +kernel
theorem dX5_readsMilk_93 : decode cX5_readsMilk 93 = .ok (.iadd, 1) := by decide +kernel
theorem dX5_readsMilk_94 : decode cX5_readsMilk 94 = .ok (.iload_n 3, 1) := by decide +kernel
theorem dX5_readsMilk_95 : decode cX5_readsMilk 95 = .ok (.bipush 48, 2) := by decide +kernel
theorem dX5_readsMilk_97 : decode cX5_readsMilk 97 = .ok (.isub, 1) := by decide +kernel
theorem dX5_readsMilk_98 : decode cX5_readsMilk 98 = .ok (.iastore, 1) := by decide +kernel
theorem dX5_readsMilk_99 : decode cX5_readsMilk 99 = .ok (.aload_n 0, 1) := by decide +kernel
theorem dX5_readsMilk_100 : decode cX5_readsMilk 100 = .ok (.getfield 28, 3) := by decide +kernel
theorem dX5_readsMilk_103 : decode cX5_readsMilk 103 = .ok (.iconst 2, 1) := by decide +kernel
theorem dX5_readsMilk_104 : decode cX5_readsMilk 104 = .ok (.dup2, 1) := by decide +kernel
theorem dX5_readsMilk_105 : decode cX5_readsMilk 105 = .ok (.iaload, 1) := by decide +kernel
theorem dX5_readsMilk_106 : decode cX5_readsMilk 106 = .ok (.iconst 1, 1) := by decide +kernel
theorem dX5_readsMilk_107 : decode cX5_readsMilk 107 = .ok (.iadd, 1) := by decide +kernel
theorem dX5_readsMilk_108 : decode cX5_readsMilk 108 = .ok (.iastore, 1) := by decide +kernel
theorem dX5_readsMilk_109 : decode cX5_readsMilk 109 = .ok (.aload_n 0, 1) := by decide +kernel
theorem dX5_readsMilk_110 : decode cX5_readsMilk 110 = .ok (.iload_n 1, 1) := by decide +kernel
theorem dX5_readsMilk_111 : decode cX5_readsMilk 111 = .ok (.invokevirtual 87, 3) := by decide +kernel
theorem dX5_readsMilk_114 : decode cX5_readsMilk 114 = .ok (.bipush 48, 2) := by decide +kernel
theorem dX5_readsMilk_116 : decode cX5_readsMilk 116 = .ok (.bipush 57, 2) := by decide +kernel
theorem dX5_readsMilk_118 : decode cX5_readsMilk 118 = .ok (.invokestatic 58, 3) := by decide +kernel
theorem dX5_readsMilk_121 : decode cX5_readsMilk 121 = .ok (.istore_n 2, 1) := by decide +kernel
theorem dX5_readsMilk_122 : decode cX5_readsMilk 122 = .ok (.goto (-96), 3) := by decide +kernel
theorem dX5_readsMilk_125 : decode cX5_readsMilk 125 = .ok (.return_, 1) := by decide +kernel
set_option maxRecDepth 20000 in
theorem ggX5_readsBeast_X5_look : GoodIn wsX5_readsBeast wsX5_look := goodIn_r _ [7, 8, 9, 10, 21, 22, 23, 24, 25, 26, 27, 28, 29, 30, 31, 32, 33, 34, 35, 36, 37] (by decide +kernel) (by decide +kernel)
set_option maxRecDepth 20000 in
theorem gX5_readsBeast_X5_look : GoodIn wsX5_readsBeast (wsV RX5 87 RX5 yX5_look wsX5_look) := goodIn_app (goodIn_of _ (by decide +kernel)) ggX5_readsBeast_X5_look
set_option maxRecDepth 20000 in
theorem ggX5_readsBeast_X5_kindOf : GoodIn wsX5_readsBeast wsX5_kindOf := goodIn_r _ [13] (by decide +kernel) (by decide +kernel)
set_option maxRecDepth 20000 in
theorem gX5_readsBeast_X5_kindOf : GoodIn wsX5_readsBeast (va_wsS RX5 102 yX5_kindOf wsX5_kindOf) := goodIn_app (goodIn_of _ (by decide +kernel)) ggX5_readsBeast_X5_kindOf
set_option maxRecDepth 20000 in
theorem ggX5_readsBeast_X5_takes : GoodIn wsX5_readsBeast wsX5_takes := goodIn_r _ [17, 2, 8, 21, 22, 23, 24, 25, 26, 27, 28, 29, 30, 31, 32, 33, 34, 35, 36, 37] (by decide +kernel) (by decide +kernel)
set_option maxRecDepth 20000 in
theorem gX5_readsBeast_X5_takes : GoodIn wsX5_readsBeast (wsV RX5 98 RX5 yX5_takes wsX5_takes) := goodIn_app (goodIn_of _ (by decide +kernel)) ggX5_readsBeast_X5_takes
set_option maxRecDepth 20000 in
theorem ggX5_readsBeast_X5_in : GoodIn wsX5_readsBeast wsX5_in := goodIn_r _ [20] (by decide +kernel) (by decide +kernel)
set_option maxRecDepth 20000 in
theorem gX5_readsBeast_X5_in : GoodIn wsX5_readsBeast (va_wsS RX5 58 yX5_in wsX5_in) := goodIn_app (goodIn_of _ (by decide +kernel)) ggX5_readsBeast_X5_in
theorem dX5_readsBeast_0 : decode cX5_readsBeast 0 = .ok (.bipush 20, 2) := by decide +kernel
theorem dX5_readsBeast_2 : decode cX5_readsBeast 2 = .ok (.iconst 3, 1) := by decide +kernel
theorem dX5_readsBeast_3 : decode cX5_readsBeast 3 = .ok (.aload_n 0, 1) := by decide +kernel
theorem dX5_readsBeast_4 : decode cX5_readsBeast 4 = .ok (.getfield 28, 3) := by decide +kernel
theorem dX5_readsBeast_7 : decode cX5_readsBeast 7 = .ok (.iconst 0, 1) := by decide +kernel
theorem dX5_readsBeast_8 : decode cX5_readsBeast 8 = .ok (.iaload, 1) := by decide +kernel
theorem dX5_readsBeast_9 : decode cX5_readsBeast 9 = .ok (.bipush 6, 2) := by decide +kernel
theorem dX5_readsBeast_11 : decode cX5_readsBeast 11 = .ok (.if_icmp .ge 12, 3) := by decide +kernel
theorem dX5_readsBeast_14 : decode cX5_readsBeast 14 = .ok (.aload_n 0, 1) := by decide +kernel
theorem dX5_readsBeast_15 : decode cX5_readsBeast 15 = .ok (.getfield 28, 3) := by decide +kernel
theorem dX5_readsBeast_18 : decode cX5_readsBeast 18 = .ok (.iconst 0, 1) := by decide +kernel
theorem dX5_readsBeast_19 : decode cX5_readsBeast 19 = .ok (.iaload, 1) := by decide +kernel
theorem dX5_readsBeast_20 : decode cX5_readsBeast 20 = .ok (.goto 4, 3) := by decide +kernel
theorem dX5_readsBeast_23 : decode cX5_readsBeast 23 = .ok (.iconst 0, 1) := by decide +kernel
theorem dX5_readsBeast_24 : decode cX5_readsBeast 24 = .ok (.imul, 1) := by decide +kernel
theorem dX5_readsBeast_25 : decode cX5_readsBeast 25 = .ok (.iadd, 1) := by decide +kernel
theorem dX5_readsBeast_26 : decode cX5_readsBeast 26 = .ok (.istore_n 2, 1) := by decide +kernel
theorem dX5_readsBeast_27 : decode cX5_readsBeast 27 = .ok (.aload_n 0, 1) := by decide +kernel
theorem dX5_readsBeast_28 : decode cX5_readsBeast 28 = .ok (.iload_n 1, 1) := by decide +kernel
theorem dX5_readsBeast_29 : decode cX5_readsBeast 29 = .ok (.invokevirtual 87, 3) := by decide +kernel
theorem dX5_readsBeast_32 : decode cX5_readsBeast 32 = .ok (.invokestatic 102, 3) := by decide +kernel
theorem dX5_readsBeast_35 : decode cX5_readsBeast 35 = .ok (.istore_n 3, 1) := by decide +kernel
theorem dX5_readsBeast_36 : decode cX5_readsBeast 36 = .ok (.aload_n 0, 1) := by decide +kernel
theorem dX5_readsBeast_37 : decode cX5_readsBeast 37 = .ok (.iload_n 3, 1) := by decide +kernel
theorem dX5_readsBeast_38 : decode cX5_readsBeast 38 = .ok (.bipush (-9), 2) := by decide +kernel
theorem dX5_readsBeast_40 : decode cX5_readsBeast 40 = .ok (.if_icmp .eq 18, 3) := by decide +kernel
theorem dX5_readsBeast_43 : decode cX5_readsBeast 43 = .ok (.aload_n 0, 1) := by decide +kernel
theorem dX5_readsBeast_44 : decode cX5_readsBeast 44 = .ok (.getfield 28, 3) := by decide +kernel
theorem dX5_readsBeast_47 : decode cX5_readsBeast 47 = .ok (.iconst 0, 1) := by decide +kernel
theorem dX5_readsBeast_48 : decode cX5_readsBeast 48 = .ok (.iaload, 1) := by decide +kernel
theorem dX5_readsBeast_49 : decode cX5_readsBeast 49 = .ok (.bipush 6, 2) := by decide +kernel
theorem dX5_readsBeast_51 : decode cX5_readsBeast 51 = .ok (.if_icmp .ge 7, 3) := by decide +kernel
theorem dX5_readsBeast_54 : decode cX5_readsBeast 54 = .ok (.iconst 1, 1) := by decide +kernel
theorem dX5_readsBeast_55 : decode cX5_readsBeast 55 = .ok (.goto 4, 3) := by decide +kernel
theorem dX5_readsBeast_58 : decode cX5_readsBeast 58 = .ok (.iconst 0, 1) := by decide +kernel
theorem dX5_readsBeast_59 : decode cX5_readsBeast 59 = .ok (.invokevirtual 98, 3) := by decide +kernel
theorem dX5_readsBeast_62 : decode cX5_readsBeast 62 = .ok (.aload_n 0, 1) := by decide +kernel
theorem dX5_readsBeast_63 : decode cX5_readsBeast 63 = .ok (.iload_n 1, 1) := by decide +kernel
theorem dX5_readsBeast_64 : decode cX5_readsBeast 64 = .ok (.invokevirtual 87, 3) := by decide +kernel
theorem dX5_readsBeast_67 : decode cX5_readsBeast 67 = .ok (.bipush 48, 2) := by decide +kernel
theorem dX5_readsBeast_69 : decode cX5_readsBeast 69 = .ok (.isub, 1) := by decide +kernel
theorem dX5_readsBeast_70 : decode cX5_readsBeast 70 = .ok (.istore 4, 2) := by decide +kernel
theorem dX5_readsBeast_72 : decode cX5_readsBeast 72 = .ok (.aload_n 0, 1) := by decide +kernel
theorem dX5_readsBeast_73 : decode cX5_readsBeast 73 = .ok (.iload 4, 2) := by decide +kernel
theorem dX5_readsBeast_75 : decode cX5_readsBeast 75 = .ok (.iconst 1, 1) := by decide +kernel
theorem dX5_readsBeast_76 : decode cX5_readsBeast 76 = .ok (.bipush 9, 2) := by decide +kernel
theorem dX5_readsBeast_78 : decode cX5_readsBeast 78 = .ok (.invokestatic 58, 3) := by decide +kernel
theorem dX5_readsBeast_81 : decode cX5_readsBeast 81 = .ok (.invokevirtual 98, 3) := by decide +kernel
theorem dX5_readsBeast_84 : decode cX5_readsBeast 84 = .ok (.aload_n 0, 1) := by decide +kernel
theorem dX5_readsBeast_85 : decode cX5_readsBeast 85 = .ok (.iload_n 1, 1) := by decide +kernel
theorem dX5_readsBeast_86 : decode cX5_readsBeast 86 = .ok (.invokevirtual 87, 3) := by decide +kernel
theorem dX5_readsBeast_89 : decode cX5_readsBeast 89 = .ok (.bipush 97, 2) := by decide +kernel
theorem dX5_readsBeast_91 : decode cX5_readsBeast 91 = .ok (.isub, 1) := by decide +kernel
theorem dX5_readsBeast_92 : decode cX5_readsBeast 92 = .ok (.istore 5, 2) := by decide +kernel
theorem dX5_readsBeast_94 : decode cX5_readsBeast 94 = .ok (.aload_n 0, 1) := by decide +kernel
theorem dX5_readsBeast_95 : decode cX5_readsBeast 95 = .ok (.iload 5, 2) := by decide +kernel
theorem dX5_readsBeast_97 : decode cX5_readsBeast 97 = .ok (.iconst 0, 1) := by decide +kernel
theorem dX5_readsBeast_98 : decode cX5_readsBeast 98 = .ok (.iconst 1, 1) := by decide +kernel
theorem dX5_readsBeast_99 : decode cX5_readsBeast 99 = .ok (.invokestatic 58, 3) := by decide +kernel
theorem dX5_readsBeast_102 : decode cX5_readsBeast 102 = .ok (.invokevirtual 98, 3) := by decide +kernel
theorem dX5_readsBeast_105 : decode cX5_readsBeast 105 = .ok (.aload_n 0, 1) := by decide +kernel
theorem dX5_readsBeast_106 : decode cX5_readsBeast 106 = .ok (.getfield 90, 3) := by decide +kernel
theorem dX5_readsBeast_109 : decode cX5_readsBeast 109 = .ok (.ifCond .eq 40, 3) := by decide +kernel
theorem dX5_readsBeast_112 : decode cX5_readsBeast 112 = .ok (.aload_n 0, 1) := by decide +kernel
theorem dX5_readsBeast_113 : decode cX5_readsBeast 113 = .ok (.getfield 28, 3) := by decide +kernel
theorem dX5_readsBeast_116 : decode cX5_readsBeast 116 = .ok (.iload_n 2, 1) := by decide +kernel
theorem dX5_readsBeast_117 : decode cX5_readsBeast 117 = .ok (.iload_n 3, 1) := by decide +kernel
theorem dX5_readsBeast_118 : decode cX5_readsBeast 118 = .ok (.iastore, 1) := by decide +kernel
theorem dX5_readsBeast_119 : decode cX5_readsBeast 119 = .ok (.aload_n 0, 1) := by decide +kernel
theorem dX5_readsBeast_120 : decode cX5_readsBeast 120 = .ok (.getfield 28, 3) := by decide +kernel
theorem dX5_readsBeast_123 : decode cX5_readsBeast 123 = .ok (.iload_n 2, 1) := by decide +kernel
theorem dX5_readsBeast_124 : decode cX5_readsBeast 124 = .ok (.iconst 1, 1) := by decide +kernel
theorem dX5_readsBeast_125 : decode cX5_readsBeast 125 = .ok (.iadd, 1) := by decide +kernel
theorem dX5_readsBeast_126 : decode cX5_readsBeast 126 = .ok (.iload 4, 2) := by decide +kernel
theorem dX5_readsBeast_128 : decode cX5_readsBeast 128 = .ok (.iastore, 1) := by decide +kernel
theorem dX5_readsBeast_129 : decode cX5_readsBeast 129 = .ok (.aload_n 0, 1) := by decide +kernel
theorem dX5_readsBeast_130 : decode cX5_readsBeast 130 = .ok (.getfield 28, 3) := by decide +kernel
theorem dX5_readsBeast_133 : decode cX5_readsBeast 133 = .ok (.iload_n 2, 1) := by decide +kernel
theorem dX5_readsBeast_134 : decode cX5_readsBeast 134 = .ok (.iconst 2, 1) := by decide +kernel
theorem dX5_readsBeast_135 : decode cX5_readsBeast 135 = .ok (.iadd, 1) := by decide +kernel
theorem dX5_readsBeast_136 : decode cX5_readsBeast 136 = .ok (.iload 5, 2) := by decide +kernel
theorem dX5_readsBeast_138 : decode cX5_readsBeast 138 = .ok (.iastore, 1) := by decide +kernel
theorem dX5_readsBeast_139 : decode cX5_readsBeast 139 = .ok (.aload_n 0, 1) := by decide +kernel
theorem dX5_readsBeast_140 : decode cX5_readsBeast 140 = .ok (.getfield 28, 3) := by decide +kernel
theorem dX5_readsBeast_143 : decode cX5_readsBeast 143 = .ok (.iconst 0, 1) := by decide +kernel
theorem dX5_readsBeast_144 : decode cX5_readsBeast 144 = .ok (.dup2, 1) := by decide +kernel
theorem dX5_readsBeast_145 : decode cX5_readsBeast 145 = .ok (.iaload, 1) := by decide +kernel
theorem dX5_readsBeast_146 : decode cX5_readsBeast 146 = .ok (.iconst 1, 1) := by decide +kernel
theorem dX5_readsBeast_147 : decode cX5_readsBeast 147 = .ok (.iadd, 1) := by decide +kernel
theorem dX5_readsBeast_148 : decode cX5_readsBeast 148 = .ok (.iastore, 1) := by decide +kernel
theorem dX5_readsBeast_149 : decode cX5_readsBeast 149 = .ok (.return_, 1) := by decide +kernel
set_option maxRecDepth 20000 in
theorem ggX5_reads_X5_readsTurns : GoodIn wsX5_reads wsX5_readsTurns := goodIn_r _ [9, 3, 1, 10, 11, 12, 8, 13, 2, 14, 15, 16, 17, 4, 18, 19, 20, 21, 22, 23, 24, 25, 41, 42, 43, 44, 45, 46, 47, 48, 49, 50, 51, 52, 53, 54, 55, 56, 57] (by decide +kernel) (by decide +kernel)
set_option maxRecDepth 20000 in
theorem gX5_reads_X5_readsTurns : GoodIn wsX5_reads (wsV RX5 105 RX5 yX5_readsTurns wsX5_readsTurns) := goodIn_app (goodIn_of _ (by decide +kernel)) ggX5_reads_X5_readsTurns
set_option maxRecDepth 20000 in
theorem ggX5_reads_X5_readsMilk : GoodIn wsX5_reads wsX5_readsMilk := goodIn_r _ [29, 3, 1, 10, 11, 12, 8, 13, 2, 14, 15, 16, 17, 4, 18, 19, 20, 21, 22, 23, 24, 25, 41, 42, 43, 44, 45, 46, 47, 48, 49, 50, 51, 52, 53, 54, 55, 56, 57] (by decide +kernel) (by decide +kernel)
set_option maxRecDepth 20000 in
theorem gX5_reads_X5_readsMilk : GoodIn wsX5_reads (wsV RX5 108 RX5 yX5_readsMilk wsX5_readsMilk) := goodIn_app (goodIn_of _ (by decide +kernel)) ggX5_reads_X5_readsMilk
set_option maxRecDepth 20000 in
theorem ggX5_reads_X5_skipsIf : GoodIn wsX5_reads wsX5_skipsIf := goodIn_r _ [33, 3, 10, 11, 12, 8, 13, 2, 14, 15, 16, 17, 4, 18, 41, 42, 43, 44, 45, 46, 47, 48, 49, 50, 51, 52, 53, 54, 55, 56, 57] (by decide +kernel) (by decide +kernel)
set_option maxRecDepth 20000 in
theorem gX5_reads_X5_skipsIf : GoodIn wsX5_reads (wsV RX5 111 RX5 yX5_skipsIf wsX5_skipsIf) := goodIn_app (goodIn_of _ (by decide +kernel)) ggX5_reads_X5_skipsIf
set_option maxRecDepth 20000 in
theorem ggX5_reads_X5_readsBeast : GoodIn wsX5_reads wsX5_readsBeast := goodIn_r _ [37, 1, 3, 14, 15, 16, 8, 17, 2, 4, 18, 38, 39, 40, 19, 20, 21, 22, 23, 24, 25, 41, 42, 43, 44, 45, 46, 47, 48, 49, 50, 51, 52, 53, 54, 55, 56, 57] (by decide +kernel) (by decide +kernel)
set_option maxRecDepth 20000 in
theorem gX5_reads_X5_readsBeast : GoodIn wsX5_reads (wsV RX5 114 RX5 yX5_readsBeast wsX5_readsBeast) := goodIn_app (goodIn_of _ (by decide +kernel)) ggX5_reads_X5_readsBeast
theorem dX5_reads_0 : decode cX5_reads 0 = .ok (.iconst 0, 1) := by decide +kernel
theorem dX5_reads_1 : decode cX5_reads 1 = .ok (.istore_n 2, 1) := by decide +kernel
theorem dX5_reads_2 : decode cX5_reads 2 = .ok (.iload_n 2, 1) := by decide +kernel
theorem dX5_reads_3 : decode cX5_reads 3 = .ok (.bipush 98, 2) := by decide +kernel
theorem dX5_reads_5 : decode cX5_reads 5 = .ok (.if_icmp .ge 16, 3) := by decide +kernel
theorem dX5_reads_8 : decode cX5_reads 8 = .ok (.aload_n 0, 1) := by decide +kernel
theorem dX5_reads_9 : decode cX5_reads 9 = .ok (.getfield 28, 3) := by decide +kernel
theorem dX5_reads_12 : decode cX5_reads 12 = .ok (.iload_n 2, 1) := by decide +kernel
theorem dX5_reads_13 : decode cX5_reads 13 = .ok (.iconst 0, 1) := by decide +kernel
theorem dX5_reads_14 : decode cX5_reads 14 = .ok (.iastore, 1) := by decide +kernel
theorem dX5_reads_15 : decode cX5_reads 15 = .ok (.iinc 2 1, 3) := by decide +kernel
theorem dX5_reads_18 : decode cX5_reads 18 = .ok (.goto (-16), 3) := by decide +kernel
theorem dX5_reads_21 : decode cX5_reads 21 = .ok (.aload_n 0, 1) := by decide +kernel
theorem dX5_reads_22 : decode cX5_reads 22 = .ok (.iconst 0, 1) := by decide +kernel
theorem dX5_reads_23 : decode cX5_reads 23 = .ok (.putfield 84, 3) := by decide +kernel
theorem dX5_reads_26 : decode cX5_reads 26 = .ok (.aload_n 0, 1) := by decide +kernel
theorem dX5_reads_27 : decode cX5_reads 27 = .ok (.iconst 1, 1) := by decide +kernel
theorem dX5_reads_28 : decode cX5_reads 28 = .ok (.putfield 90, 3) := by decide +kernel
theorem dX5_reads_31 : decode cX5_reads 31 = .ok (.aload_n 0, 1) := by decide +kernel
theorem dX5_reads_32 : decode cX5_reads 32 = .ok (.iload_n 1, 1) := by decide +kernel
theorem dX5_reads_33 : decode cX5_reads 33 = .ok (.invokevirtual 105, 3) := by decide +kernel
theorem dX5_reads_36 : decode cX5_reads 36 = .ok (.aload_n 0, 1) := by decide +kernel
theorem dX5_reads_37 : decode cX5_reads 37 = .ok (.getfield 90, 3) := by decide +kernel
theorem dX5_reads_40 : decode cX5_reads 40 = .ok (.ifCond .eq 8, 3) := by decide +kernel
theorem dX5_reads_43 : decode cX5_reads 43 = .ok (.aload_n 0, 1) := by decide +kernel
theorem dX5_reads_44 : decode cX5_reads 44 = .ok (.iload_n 1, 1) := by decide +kernel
theorem dX5_reads_45 : decode cX5_reads 45 = .ok (.invokevirtual 108, 3) := by decide +kernel
theorem dX5_reads_48 : decode cX5_reads 48 = .ok (.aload_n 0, 1) := by decide +kernel
theorem dX5_reads_49 : decode cX5_reads 49 = .ok (.iload_n 1, 1) := by decide +kernel
theorem dX5_reads_50 : decode cX5_reads 50 = .ok (.invokevirtual 111, 3) := by decide +kernel
theorem dX5_reads_53 : decode cX5_reads 53 = .ok (.aload_n 0, 1) := by decide +kernel
theorem dX5_reads_54 : decode cX5_reads 54 = .ok (.getfield 90, 3) := by decide +kernel
theorem dX5_reads_57 : decode cX5_reads 57 = .ok (.ifCond .eq 8, 3) := by decide +kernel
theorem dX5_reads_60 : decode cX5_reads 60 = .ok (.aload_n 0, 1) := by decide +kernel
theorem dX5_reads_61 : decode cX5_reads 61 = .ok (.iload_n 1, 1) := by decide +kernel
theorem dX5_reads_62 : decode cX5_reads 62 = .ok (.invokevirtual 114, 3) := by decide +kernel
theorem dX5_reads_65 : decode cX5_reads 65 = .ok (.aload_n 0, 1) := by decide +kernel
theorem dX5_reads_66 : decode cX5_reads 66 = .ok (.iload_n 1, 1) := by decide +kernel
theorem dX5_reads_67 : decode cX5_reads 67 = .ok (.invokevirtual 111, 3) := by decide +kernel
theorem dX5_reads_70 : decode cX5_reads 70 = .ok (.aload_n 0, 1) := by decide +kernel
theorem dX5_reads_71 : decode cX5_reads 71 = .ok (.getfield 90, 3) := by decide +kernel
theorem dX5_reads_74 : decode cX5_reads 74 = .ok (.ifCond .eq 29, 3) := by decide +kernel
theorem dX5_reads_77 : decode cX5_reads 77 = .ok (.aload_n 0, 1) := by decide +kernel
theorem dX5_reads_78 : decode cX5_reads 78 = .ok (.getfield 84, 3) := by decide +kernel
theorem dX5_reads_81 : decode cX5_reads 81 = .ok (.aload_n 0, 1) := by decide +kernel
theorem dX5_reads_82 : decode cX5_reads 82 = .ok (.getfield 19, 3) := by decide +kernel
theorem dX5_reads_85 : decode cX5_reads 85 = .ok (.iload_n 1, 1) := by decide +kernel
theorem dX5_reads_86 : decode cX5_reads 86 = .ok (.iaload, 1) := by decide +kernel
theorem dX5_reads_87 : decode cX5_reads 87 = .ok (.if_icmp .ge 16, 3) := by decide +kernel
theorem dX5_reads_90 : decode cX5_reads 90 = .ok (.aload_n 0, 1) := by decide +kernel
theorem dX5_reads_91 : decode cX5_reads 91 = .ok (.iload_n 1, 1) := by decide +kernel
theorem dX5_reads_92 : decode cX5_reads 92 = .ok (.invokevirtual 114, 3) := by decide +kernel
theorem dX5_reads_95 : decode cX5_reads 95 = .ok (.aload_n 0, 1) := by decide +kernel
theorem dX5_reads_96 : decode cX5_reads 96 = .ok (.iload_n 1, 1) := by decide +kernel
theorem dX5_reads_97 : decode cX5_reads 97 = .ok (.invokevirtual 111, 3) := by decide +kernel
theorem dX5_reads_100 : decode cX5_reads 100 = .ok (.goto (-30), 3) := by decide +kernel
theorem dX5_reads_103 : decode cX5_reads 103 = .ok (.aload_n 0, 1) := by decide +kernel
theorem dX5_reads_104 : decode cX5_reads 104 = .ok (.getfield 90, 3) := by decide +kernel
theorem dX5_reads_107 : decode cX5_reads 107 = .ok (.ifCond .eq 8, 3) := by decide +kernel
theorem dX5_reads_110 : decode cX5_reads 110 = .ok (.bipush (-9), 2) := by decide +kernel
theorem dX5_reads_112 : decode cX5_reads 112 = .ok (.goto 7, 3) := by decide +kernel
theorem dX5_reads_115 : decode cX5_reads 115 = .ok (.aload_n 0, 1) := by decide +kernel
theorem dX5_reads_116 : decode cX5_reads 116 = .ok (.getfield 84, 3) := by decide +kernel
theorem dX5_reads_119 : decode cX5_reads 119 = .ok (.ireturn, 1) := by decide +kernel
set_option maxRecDepth 20000 in
theorem ggX5_skipsIf_X5_skips : GoodIn wsX5_skipsIf wsX5_skips := goodIn_r _ [6, 7, 8, 9, 10, 5, 11, 12, 13, 14, 15, 16, 17, 18, 19, 20, 21, 22, 23, 24, 25, 26, 27, 28, 29, 30] (by decide +kernel) (by decide +kernel)
set_option maxRecDepth 20000 in
theorem gX5_skipsIf_X5_skips : GoodIn wsX5_skipsIf (wsV RX5 94 RX5 yX5_skips wsX5_skips) := goodIn_app (goodIn_of _ (by decide +kernel)) ggX5_skipsIf_X5_skips
theorem dX5_skipsIf_0 : decode cX5_skipsIf 0 = .ok (.aload_n 0, 1) := by decide +kernel
theorem dX5_skipsIf_1 : decode cX5_skipsIf 1 = .ok (.getfield 90, 3) := by decide +kernel
theorem dX5_skipsIf_4 : decode cX5_skipsIf 4 = .ok (.ifCond .eq 8, 3) := by decide +kernel
theorem dX5_skipsIf_7 : decode cX5_skipsIf 7 = .ok (.aload_n 0, 1) := by decide +kernel
theorem dX5_skipsIf_8 : decode cX5_skipsIf 8 = .ok (.iload_n 1, 1) := by decide +kernel
theorem dX5_skipsIf_9 : decode cX5_skipsIf 9 = .ok (.invokevirtual 94, 3) := by decide +kernel
theorem dX5_skipsIf_12 : decode cX5_skipsIf 12 = .ok (.return_, 1) := by decide +kernel
set_option maxRecDepth 20000 in
theorem ggX5_fault_X5_isText : GoodIn wsX5_fault wsX5_isText := goodIn_r _ [5, 6, 7, 4, 8] (by decide +kernel) (by decide +kernel)
set_option maxRecDepth 20000 in
theorem gX5_fault_X5_isText : GoodIn wsX5_fault (va_wsS RX5 81 yX5_isText wsX5_isText) := goodIn_app (goodIn_of _ (by decide +kernel)) ggX5_fault_X5_isText
set_option maxRecDepth 20000 in
theorem ggX5_fault_X5_finds : GoodIn wsX5_fault wsX5_finds := goodIn_r _ [12, 13, 14, 54, 55, 56, 57, 58, 59, 60, 61, 62, 63, 64, 65, 66, 67, 68, 69, 70] (by decide +kernel) (by decide +kernel)
set_option maxRecDepth 20000 in
theorem gX5_fault_X5_finds : GoodIn wsX5_fault (wsV RX5 66 RX5 yX5_finds wsX5_finds) := goodIn_app (goodIn_of _ (by decide +kernel)) ggX5_fault_X5_finds
set_option maxRecDepth 20000 in
theorem ggX5_fault_X5_reads : GoodIn wsX5_fault wsX5_reads := goodIn_r _ [18, 19, 20, 21, 1, 22, 23, 24, 4, 25, 26, 27, 28, 29, 30, 31, 32, 33, 34, 35, 36, 37, 38, 6, 7, 8, 39, 40, 41, 42, 43, 44, 45, 46, 47, 48, 49, 50, 51, 52, 53, 54, 55, 56, 57, 58, 59, 60, 61, 62, 63, 64, 65, 66, 67, 68, 69, 70] (by decide +kernel) (by decide +kernel)
set_option maxRecDepth 20000 in
theorem gX5_fault_X5_reads : GoodIn wsX5_fault (wsV RX5 117 RX5 yX5_reads wsX5_reads) := goodIn_app (goodIn_of _ (by decide +kernel)) ggX5_fault_X5_reads
theorem dX5_fault_0 : decode cX5_fault 0 = .ok (.iload_n 1, 1) := by decide +kernel
theorem dX5_fault_1 : decode cX5_fault 1 = .ok (.invokestatic 81, 3) := by decide +kernel
theorem dX5_fault_4 : decode cX5_fault 4 = .ok (.ifCond .ne 5, 3) := by decide +kernel
theorem dX5_fault_7 : decode cX5_fault 7 = .ok (.iconst (-1), 1) := by decide +kernel
theorem dX5_fault_8 : decode cX5_fault 8 = .ok (.ireturn, 1) := by decide +kernel
theorem dX5_fault_9 : decode cX5_fault 9 = .ok (.aload_n 0, 1) := by decide +kernel
theorem dX5_fault_10 : decode cX5_fault 10 = .ok (.getfield 19, 3) := by decide +kernel
theorem dX5_fault_13 : decode cX5_fault 13 = .ok (.iload_n 1, 1) := by decide +kernel
theorem dX5_fault_14 : decode cX5_fault 14 = .ok (.iaload, 1) := by decide +kernel
theorem dX5_fault_15 : decode cX5_fault 15 = .ok (.ifCond .ge 11, 3) := by decide +kernel
theorem dX5_fault_18 : decode cX5_fault 18 = .ok (.aload_n 0, 1) := by decide +kernel
theorem dX5_fault_19 : decode cX5_fault 19 = .ok (.iconst 1, 1) := by decide +kernel
theorem dX5_fault_20 : decode cX5_fault 20 = .ok (.invokevirtual 66, 3) := by decide +kernel
theorem dX5_fault_23 : decode cX5_fault 23 = .ok (.goto 8, 3) := by decide +kernel
theorem dX5_fault_26 : decode cX5_fault 26 = .ok (.aload_n 0, 1) := by decide +kernel
theorem dX5_fault_27 : decode cX5_fault 27 = .ok (.iload_n 1, 1) := by decide +kernel
theorem dX5_fault_28 : decode cX5_fault 28 = .ok (.invokevirtual 117, 3) := by decide +kernel
theorem dX5_fault_31 : decode cX5_fault 31 = .ok (.ireturn, 1) := by decide +kernel
theorem dX5_copies_0 : decode cX5_copies 0 = .ok (.iconst 0, 1) := by decide +kernel
theorem dX5_copies_1 : decode cX5_copies 1 = .ok (.istore 4, 2) := by decide +kernel
theorem dX5_copies_3 : decode cX5_copies 3 = .ok (.iload 4, 2) := by decide +kernel
theorem dX5_copies_5 : decode cX5_copies 5 = .ok (.bipush 98, 2) := by decide +kernel
theorem dX5_copies_7 : decode cX5_copies 7 = .ok (.if_icmp .ge 21, 3) := by decide +kernel
theorem dX5_copies_10 : decode cX5_copies 10 = .ok (.aload_n 2, 1) := by decide +kernel
theorem dX5_copies_11 : decode cX5_copies 11 = .ok (.iload_n 3, 1) := by decide +kernel
theorem dX5_copies_12 : decode cX5_copies 12 = .ok (.iload 4, 2) := by decide +kernel
theorem dX5_copies_14 : decode cX5_copies 14 = .ok (.iadd, 1) := by decide +kernel
theorem dX5_copies_15 : decode cX5_copies 15 = .ok (.aload_n 0, 1) := by decide +kernel
theorem dX5_copies_16 : decode cX5_copies 16 = .ok (.iload_n 1, 1) := by decide +kernel
theorem dX5_copies_17 : decode cX5_copies 17 = .ok (.iload 4, 2) := by decide +kernel
theorem dX5_copies_19 : decode cX5_copies 19 = .ok (.iadd, 1) := by decide +kernel
theorem dX5_copies_20 : decode cX5_copies 20 = .ok (.iaload, 1) := by decide +kernel
theorem dX5_copies_21 : decode cX5_copies 21 = .ok (.iastore, 1) := by decide +kernel
theorem dX5_copies_22 : decode cX5_copies 22 = .ok (.iinc 4 1, 3) := by decide +kernel
theorem dX5_copies_25 : decode cX5_copies 25 = .ok (.goto (-22), 3) := by decide +kernel
theorem dX5_copies_28 : decode cX5_copies 28 = .ok (.return_, 1) := by decide +kernel
set_option maxRecDepth 20000 in
theorem ggX5_farms_X5_isText : GoodIn wsX5_farms wsX5_isText := goodIn_r _ [8, 9, 10, 7, 11] (by decide +kernel) (by decide +kernel)
set_option maxRecDepth 20000 in
theorem gX5_farms_X5_isText : GoodIn wsX5_farms (va_wsS RX5 81 yX5_isText wsX5_isText) := goodIn_app (goodIn_of _ (by decide +kernel)) ggX5_farms_X5_isText
set_option maxRecDepth 20000 in
theorem ggX5_farms_X5_finds : GoodIn wsX5_farms wsX5_finds := goodIn_r _ [15, 16, 17, 59, 60, 61, 62, 63, 64, 65, 66, 67, 68, 69, 70, 71, 72, 73, 74, 75] (by decide +kernel) (by decide +kernel)
set_option maxRecDepth 20000 in
theorem gX5_farms_X5_finds : GoodIn wsX5_farms (wsV RX5 66 RX5 yX5_finds wsX5_finds) := goodIn_app (goodIn_of _ (by decide +kernel)) ggX5_farms_X5_finds
set_option maxRecDepth 20000 in
theorem ggX5_farms_X5_reads : GoodIn wsX5_farms wsX5_reads := goodIn_r _ [21, 2, 22, 23, 1, 24, 25, 26, 7, 27, 28, 29, 30, 31, 32, 33, 34, 35, 36, 37, 38, 39, 40, 9, 10, 11, 41, 42, 43, 44, 45, 46, 47, 48, 49, 50, 51, 52, 53, 54, 55, 59, 60, 61, 62, 63, 64, 65, 66, 67, 68, 69, 70, 71, 72, 73, 74, 75] (by decide +kernel) (by decide +kernel)
set_option maxRecDepth 20000 in
theorem gX5_farms_X5_reads : GoodIn wsX5_farms (wsV RX5 117 RX5 yX5_reads wsX5_reads) := goodIn_app (goodIn_of _ (by decide +kernel)) ggX5_farms_X5_reads
set_option maxRecDepth 20000 in
theorem ggX5_farms_X5_copies : GoodIn wsX5_farms wsX5_copies := goodIn_r _ [58] (by decide +kernel) (by decide +kernel)
set_option maxRecDepth 20000 in
theorem gX5_farms_X5_copies : GoodIn wsX5_farms (va_wsS RX5 120 yX5_copies wsX5_copies) := goodIn_app (goodIn_of _ (by decide +kernel)) ggX5_farms_X5_copies
theorem dX5_farms_0 : decode cX5_farms 0 = .ok (.iload_n 1, 1) := by decide +kernel
theorem dX5_farms_1 : decode cX5_farms 1 = .ok (.invokestatic 81, 3) := by decide +kernel
theorem dX5_farms_4 : decode cX5_farms 4 = .ok (.ifCond .ne 5, 3) := by decide +kernel
theorem dX5_farms_7 : decode cX5_farms 7 = .ok (.iconst (-1), 1) := by decide +kernel
theorem dX5_farms_8 : decode cX5_farms 8 = .ok (.ireturn, 1) := by decide +kernel
theorem dX5_farms_9 : decode cX5_farms 9 = .ok (.aload_n 0, 1) := by decide +kernel
theorem dX5_farms_10 : decode cX5_farms 10 = .ok (.getfield 19, 3) := by decide +kernel
theorem dX5_farms_13 : decode cX5_farms 13 = .ok (.iload_n 1, 1) := by decide +kernel
theorem dX5_farms_14 : decode cX5_farms 14 = .ok (.iaload, 1) := by decide +kernel
theorem dX5_farms_15 : decode cX5_farms 15 = .ok (.ifCond .ge 9, 3) := by decide +kernel
theorem dX5_farms_18 : decode cX5_farms 18 = .ok (.aload_n 0, 1) := by decide +kernel
theorem dX5_farms_19 : decode cX5_farms 19 = .ok (.iconst 1, 1) := by decide +kernel
theorem dX5_farms_20 : decode cX5_farms 20 = .ok (.invokevirtual 66, 3) := by decide +kernel
theorem dX5_farms_23 : decode cX5_farms 23 = .ok (.ireturn, 1) := by decide +kernel
theorem dX5_farms_24 : decode cX5_farms 24 = .ok (.aload_n 0, 1) := by decide +kernel
theorem dX5_farms_25 : decode cX5_farms 25 = .ok (.iload_n 1, 1) := by decide +kernel
theorem dX5_farms_26 : decode cX5_farms 26 = .ok (.invokevirtual 117, 3) := by decide +kernel
theorem dX5_farms_29 : decode cX5_farms 29 = .ok (.bipush (-9), 2) := by decide +kernel
theorem dX5_farms_31 : decode cX5_farms 31 = .ok (.if_icmp .eq 6, 3) := by decide +kernel
theorem dX5_farms_34 : decode cX5_farms 34 = .ok (.bipush (-4), 2) := by decide +kernel
theorem dX5_farms_36 : decode cX5_farms 36 = .ok (.ireturn, 1) := by decide +kernel
theorem dX5_farms_37 : decode cX5_farms 37 = .ok (.aload_n 0, 1) := by decide +kernel
theorem dX5_farms_38 : decode cX5_farms 38 = .ok (.getfield 28, 3) := by decide +kernel
theorem dX5_farms_41 : decode cX5_farms 41 = .ok (.iconst 0, 1) := by decide +kernel
theorem dX5_farms_42 : decode cX5_farms 42 = .ok (.aload_n 0, 1) := by decide +kernel
theorem dX5_farms_43 : decode cX5_farms 43 = .ok (.getfield 25, 3) := by decide +kernel
theorem dX5_farms_46 : decode cX5_farms 46 = .ok (.iconst 0, 1) := by decide +kernel
theorem dX5_farms_47 : decode cX5_farms 47 = .ok (.invokestatic 120, 3) := by decide +kernel
theorem dX5_farms_50 : decode cX5_farms 50 = .ok (.iconst 0, 1) := by decide +kernel
theorem dX5_farms_51 : decode cX5_farms 51 = .ok (.istore_n 2, 1) := by decide +kernel
theorem dX5_farms_52 : decode cX5_farms 52 = .ok (.iload_n 2, 1) := by decide +kernel
theorem dX5_farms_53 : decode cX5_farms 53 = .ok (.iconst 3, 1) := by decide +kernel
theorem dX5_farms_54 : decode cX5_farms 54 = .ok (.if_icmp .ge 16, 3) := by decide +kernel
theorem dX5_farms_57 : decode cX5_farms 57 = .ok (.aload_n 0, 1) := by decide +kernel
theorem dX5_farms_58 : decode cX5_farms 58 = .ok (.getfield 34, 3) := by decide +kernel
theorem dX5_farms_61 : decode cX5_farms 61 = .ok (.iload_n 2, 1) := by decide +kernel
theorem dX5_farms_62 : decode cX5_farms 62 = .ok (.iconst 0, 1) := by decide +kernel
theorem dX5_farms_63 : decode cX5_farms 63 = .ok (.bastore, 1) := by decide +kernel
theorem dX5_farms_64 : decode cX5_farms 64 = .ok (.iinc 2 1, 3) := by decide +kernel
theorem dX5_farms_67 : decode cX5_farms 67 = .ok (.goto (-15), 3) := by decide +kernel
theorem dX5_farms_70 : decode cX5_farms 70 = .ok (.aload_n 0, 1) := by decide +kernel
theorem dX5_farms_71 : decode cX5_farms 71 = .ok (.getfield 25, 3) := by decide +kernel
theorem dX5_farms_74 : decode cX5_farms 74 = .ok (.iconst 0, 1) := by decide +kernel
theorem dX5_farms_75 : decode cX5_farms 75 = .ok (.iaload, 1) := by decide +kernel
theorem dX5_farms_76 : decode cX5_farms 76 = .ok (.ireturn, 1) := by decide +kernel
set_option maxRecDepth 20000 in
theorem ggX5_isBeast_X5_in : GoodIn wsX5_isBeast wsX5_in := goodIn_r _ [5] (by decide +kernel) (by decide +kernel)
set_option maxRecDepth 20000 in
theorem gX5_isBeast_X5_in : GoodIn wsX5_isBeast (va_wsS RX5 58 yX5_in wsX5_in) := goodIn_app (goodIn_of _ (by decide +kernel)) ggX5_isBeast_X5_in
theorem dX5_isBeast_0 : decode cX5_isBeast 0 = .ok (.iload_n 1, 1) := by decide +kernel
theorem dX5_isBeast_1 : decode cX5_isBeast 1 = .ok (.iconst 0, 1) := by decide +kernel
theorem dX5_isBeast_2 : decode cX5_isBeast 2 = .ok (.aload_n 0, 1) := by decide +kernel
theorem dX5_isBeast_3 : decode cX5_isBeast 3 = .ok (.getfield 25, 3) := by decide +kernel
theorem dX5_isBeast_6 : decode cX5_isBeast 6 = .ok (.iconst 0, 1) := by decide +kernel
theorem dX5_isBeast_7 : decode cX5_isBeast 7 = .ok (.iaload, 1) := by decide +kernel
theorem dX5_isBeast_8 : decode cX5_isBeast 8 = .ok (.iconst 1, 1) := by decide +kernel
theorem dX5_isBeast_9 : decode cX5_isBeast 9 = .ok (.isub, 1) := by decide +kernel
theorem dX5_isBeast_10 : decode cX5_isBeast 10 = .ok (.invokestatic 58, 3) := by decide +kernel
theorem dX5_isBeast_13 : decode cX5_isBeast 13 = .ok (.ireturn, 1) := by decide +kernel
theorem dX5_are_0 : decode cX5_are 0 = .ok (.aload_n 0, 1) := by decide +kernel
theorem dX5_are_1 : decode cX5_are 1 = .ok (.getfield 25, 3) := by decide +kernel
theorem dX5_are_4 : decode cX5_are 4 = .ok (.iconst 0, 1) := by decide +kernel
theorem dX5_are_5 : decode cX5_are 5 = .ok (.iaload, 1) := by decide +kernel
theorem dX5_are_6 : decode cX5_are 6 = .ok (.ifCond .le 7, 3) := by decide +kernel
theorem dX5_are_9 : decode cX5_are 9 = .ok (.iconst 1, 1) := by decide +kernel
theorem dX5_are_10 : decode cX5_are 10 = .ok (.goto 4, 3) := by decide +kernel
theorem dX5_are_13 : decode cX5_are 13 = .ok (.iconst 0, 1) := by decide +kernel
theorem dX5_are_14 : decode cX5_are 14 = .ok (.ireturn, 1) := by decide +kernel
set_option maxRecDepth 20000 in
theorem ggX5_isDay_X5_in : GoodIn wsX5_isDay wsX5_in := goodIn_r _ [4] (by decide +kernel) (by decide +kernel)
set_option maxRecDepth 20000 in
theorem gX5_isDay_X5_in : GoodIn wsX5_isDay (va_wsS RX5 58 yX5_in wsX5_in) := goodIn_app (goodIn_of _ (by decide +kernel)) ggX5_isDay_X5_in
theorem dX5_isDay_0 : decode cX5_isDay 0 = .ok (.iload_n 0, 1) := by decide +kernel
theorem dX5_isDay_1 : decode cX5_isDay 1 = .ok (.iconst 0, 1) := by decide +kernel
theorem dX5_isDay_2 : decode cX5_isDay 2 = .ok (.sipush 999, 3) := by decide +kernel
theorem dX5_isDay_5 : decode cX5_isDay 5 = .ok (.invokestatic 58, 3) := by decide +kernel
theorem dX5_isDay_8 : decode cX5_isDay 8 = .ok (.ireturn, 1) := by decide +kernel
theorem dX5_kindIn_0 : decode cX5_kindIn 0 = .ok (.aload_n 0, 1) := by decide +kernel
theorem dX5_kindIn_1 : decode cX5_kindIn 1 = .ok (.getfield 25, 3) := by decide +kernel
theorem dX5_kindIn_4 : decode cX5_kindIn 4 = .ok (.bipush 20, 2) := by decide +kernel
theorem dX5_kindIn_6 : decode cX5_kindIn 6 = .ok (.iconst 3, 1) := by decide +kernel
theorem dX5_kindIn_7 : decode cX5_kindIn 7 = .ok (.iload_n 1, 1) := by decide +kernel
theorem dX5_kindIn_8 : decode cX5_kindIn 8 = .ok (.imul, 1) := by decide +kernel
theorem dX5_kindIn_9 : decode cX5_kindIn 9 = .ok (.iadd, 1) := by decide +kernel
theorem dX5_kindIn_10 : decode cX5_kindIn 10 = .ok (.iaload, 1) := by decide +kernel
theorem dX5_kindIn_11 : decode cX5_kindIn 11 = .ok (.ireturn, 1) := by decide +kernel
theorem dX5_ownerOf_0 : decode cX5_ownerOf 0 = .ok (.aload_n 0, 1) := by decide +kernel
theorem dX5_ownerOf_1 : decode cX5_ownerOf 1 = .ok (.getfield 25, 3) := by decide +kernel
theorem dX5_ownerOf_4 : decode cX5_ownerOf 4 = .ok (.bipush 20, 2) := by decide +kernel
theorem dX5_ownerOf_6 : decode cX5_ownerOf 6 = .ok (.iconst 3, 1) := by decide +kernel
theorem dX5_ownerOf_7 : decode cX5_ownerOf 7 = .ok (.iload_n 1, 1) := by decide +kernel
theorem dX5_ownerOf_8 : decode cX5_ownerOf 8 = .ok (.imul, 1) := by decide +kernel
theorem dX5_ownerOf_9 : decode cX5_ownerOf 9 = .ok (.iadd, 1) := by decide +kernel
theorem dX5_ownerOf_10 : decode cX5_ownerOf 10 = .ok (.iconst 2, 1) := by decide +kernel
theorem dX5_ownerOf_11 : decode cX5_ownerOf 11 = .ok (.iadd, 1) := by decide +kernel
theorem dX5_ownerOf_12 : decode cX5_ownerOf 12 = .ok (.iaload, 1) := by decide +kernel
theorem dX5_ownerOf_13 : decode cX5_ownerOf 13 = .ok (.ireturn, 1) := by decide +kernel
set_option maxRecDepth 20000 in
theorem ggX5_valueTo_X5_kindIn : GoodIn wsX5_valueTo wsX5_kindIn := goodIn_r _ [6, 1, 7, 8, 9, 10, 11, 12, 13, 14, 15, 16, 17, 18, 19, 20, 21, 22, 23] (by decide +kernel) (by decide +kernel)
set_option maxRecDepth 20000 in
theorem gX5_valueTo_X5_kindIn : GoodIn wsX5_valueTo (wsV RX5 124 RX5 yX5_kindIn wsX5_kindIn) := goodIn_app (goodIn_of _ (by decide +kernel)) ggX5_valueTo_X5_kindIn
theorem dX5_valueTo_0 : decode cX5_valueTo 0 = .ok (.aload_n 0, 1) := by decide +kernel
theorem dX5_valueTo_1 : decode cX5_valueTo 1 = .ok (.getfield 25, 3) := by decide +kernel
theorem dX5_valueTo_4 : decode cX5_valueTo 4 = .ok (.bipush 20, 2) := by decide +kernel
theorem dX5_valueTo_6 : decode cX5_valueTo 6 = .ok (.iconst 3, 1) := by decide +kernel
theorem dX5_valueTo_7 : decode cX5_valueTo 7 = .ok (.iload_n 1, 1) := by decide +kernel
theorem dX5_valueTo_8 : decode cX5_valueTo 8 = .ok (.imul, 1) := by decide +kernel
theorem dX5_valueTo_9 : decode cX5_valueTo 9 = .ok (.iadd, 1) := by decide +kernel
theorem dX5_valueTo_10 : decode cX5_valueTo 10 = .ok (.iconst 1, 1) := by decide +kernel
theorem dX5_valueTo_11 : decode cX5_valueTo 11 = .ok (.iadd, 1) := by decide +kernel
theorem dX5_valueTo_12 : decode cX5_valueTo 12 = .ok (.iaload, 1) := by decide +kernel
theorem dX5_valueTo_13 : decode cX5_valueTo 13 = .ok (.istore_n 3, 1) := by decide +kernel
theorem dX5_valueTo_14 : decode cX5_valueTo 14 = .ok (.aload_n 0, 1) := by decide +kernel
theorem dX5_valueTo_15 : decode cX5_valueTo 15 = .ok (.iload_n 1, 1) := by decide +kernel
theorem dX5_valueTo_16 : decode cX5_valueTo 16 = .ok (.invokevirtual 124, 3) := by decide +kernel
theorem dX5_valueTo_19 : decode cX5_valueTo 19 = .ok (.tableswitch 85 1 5 #[33, 35, 53, 43, 67], 33) := by decide +kernel
theorem dX5_valueTo_52 : decode cX5_valueTo 52 = .ok (.iload_n 3, 1) := by decide +kernel
theorem dX5_valueTo_53 : decode cX5_valueTo 53 = .ok (.ireturn, 1) := by decide +kernel
theorem dX5_valueTo_54 : decode cX5_valueTo 54 = .ok (.iconst 2, 1) := by decide +kernel
theorem dX5_valueTo_55 : decode cX5_valueTo 55 = .ok (.iload_n 3, 1) := by decide +kernel
theorem dX5_valueTo_56 : decode cX5_valueTo 56 = .ok (.imul, 1) := by decide +kernel
theorem dX5_valueTo_57 : decode cX5_valueTo 57 = .ok (.iconst 3, 1) := by decide +kernel
theorem dX5_valueTo_58 : decode cX5_valueTo 58 = .ok (.iload_n 2, 1) := by decide +kernel
theorem dX5_valueTo_59 : decode cX5_valueTo 59 = .ok (.imul, 1) := by decide +kernel
theorem dX5_valueTo_60 : decode cX5_valueTo 60 = .ok (.iadd, 1) := by decide +kernel
theorem dX5_valueTo_61 : decode cX5_valueTo 61 = .ok (.ireturn, 1) := by decide +kernel
theorem dX5_valueTo_62 : decode cX5_valueTo 62 = .ok (.iconst 2, 1) := by decide +kernel
theorem dX5_valueTo_63 : decode cX5_valueTo 63 = .ok (.iload_n 3, 1) := by decide +kernel
theorem dX5_valueTo_64 : decode cX5_valueTo 64 = .ok (.imul, 1) := by decide +kernel
theorem dX5_valueTo_65 : decode cX5_valueTo 65 = .ok (.iconst 3, 1) := by decide +kernel
theorem dX5_valueTo_66 : decode cX5_valueTo 66 = .ok (.iload_n 2, 1) := by decide +kernel
theorem dX5_valueTo_67 : decode cX5_valueTo 67 = .ok (.imul, 1) := by decide +kernel
theorem dX5_valueTo_68 : decode cX5_valueTo 68 = .ok (.iadd, 1) := by decide +kernel
theorem dX5_valueTo_69 : decode cX5_valueTo 69 = .ok (.iconst 2, 1) := by decide +kernel
theorem dX5_valueTo_70 : decode cX5_valueTo 70 = .ok (.iadd, 1) := by decide +kernel
theorem dX5_valueTo_71 : decode cX5_valueTo 71 = .ok (.ireturn, 1) := by decide +kernel
theorem dX5_valueTo_72 : decode cX5_valueTo 72 = .ok (.iload_n 2, 1) := by decide +kernel
theorem dX5_valueTo_73 : decode cX5_valueTo 73 = .ok (.ifCond .ne 9, 3) := by decide +kernel
theorem dX5_valueTo_76 : decode cX5_valueTo 76 = .ok (.iconst 4, 1) := by decide +kernel
theorem dX5_valueTo_77 : decode cX5_valueTo 77 = .ok (.iload_n 3, 1) := by decide +kernel
theorem dX5_valueTo_78 : decode cX5_valueTo 78 = .ok (.imul, 1) := by decide +kernel
theorem dX5_valueTo_79 : decode cX5_valueTo 79 = .ok (.goto 6, 3) := by decide +kernel
theorem dX5_valueTo_82 : decode cX5_valueTo 82 = .ok (.iconst 2, 1) := by decide +kernel
theorem dX5_valueTo_83 : decode cX5_valueTo 83 = .ok (.iload_n 3, 1) := by decide +kernel
theorem dX5_valueTo_84 : decode cX5_valueTo 84 = .ok (.imul, 1) := by decide +kernel
theorem dX5_valueTo_85 : decode cX5_valueTo 85 = .ok (.ireturn, 1) := by decide +kernel
theorem dX5_valueTo_86 : decode cX5_valueTo 86 = .ok (.iload_n 2, 1) := by decide +kernel
theorem dX5_valueTo_87 : decode cX5_valueTo 87 = .ok (.ifCond .ne 11, 3) := by decide +kernel
