theorem dX4_findingOfBook_26 : decode cX4_findingOfBook 26 = .ok (.getfield 78, 3) := by decide +kernel
theorem dX4_findingOfBook_29 : decode cX4_findingOfBook 29 = .ok (.if_icmp .ge 37, 3) := by decide +kernel
theorem dX4_findingOfBook_32 : decode cX4_findingOfBook 32 = .ok (.aload_n 0, 1) := by decide +kernel
theorem dX4_findingOfBook_33 : decode cX4_findingOfBook 33 = .ok (.getfield 63, 3) := by decide +kernel
theorem dX4_findingOfBook_36 : decode cX4_findingOfBook 36 = .ok (.iload_n 1, 1) := by decide +kernel
theorem dX4_findingOfBook_37 : decode cX4_findingOfBook 37 = .ok (.iaload, 1) := by decide +kernel
theorem dX4_findingOfBook_38 : decode cX4_findingOfBook 38 = .ok (.invokestatic 177, 3) := by decide +kernel
theorem dX4_findingOfBook_41 : decode cX4_findingOfBook 41 = .ok (.ifCond .ne 17, 3) := by decide +kernel
theorem dX4_findingOfBook_44 : decode cX4_findingOfBook 44 = .ok (.aload_n 0, 1) := by decide +kernel
theorem dX4_findingOfBook_45 : decode cX4_findingOfBook 45 = .ok (.getfield 63, 3) := by decide +kernel
theorem dX4_findingOfBook_48 : decode cX4_findingOfBook 48 = .ok (.iload_n 1, 1) := by decide +kernel
theorem dX4_findingOfBook_49 : decode cX4_findingOfBook 49 = .ok (.iconst 1, 1) := by decide +kernel
theorem dX4_findingOfBook_50 : decode cX4_findingOfBook 50 = .ok (.iadd, 1) := by decide +kernel
theorem dX4_findingOfBook_51 : decode cX4_findingOfBook 51 = .ok (.iaload, 1) := by decide +kernel
theorem dX4_findingOfBook_52 : decode cX4_findingOfBook 52 = .ok (.invokestatic 148, 3) := by decide +kernel
theorem dX4_findingOfBook_55 : decode cX4_findingOfBook 55 = .ok (.ifCond .eq 5, 3) := by decide +kernel
theorem dX4_findingOfBook_58 : decode cX4_findingOfBook 58 = .ok (.iconst 3, 1) := by decide +kernel
theorem dX4_findingOfBook_59 : decode cX4_findingOfBook 59 = .ok (.ireturn, 1) := by decide +kernel
theorem dX4_findingOfBook_60 : decode cX4_findingOfBook 60 = .ok (.iinc 1 2, 3) := by decide +kernel
theorem dX4_findingOfBook_63 : decode cX4_findingOfBook 63 = .ok (.goto (-41), 3) := by decide +kernel
theorem dX4_findingOfBook_66 : decode cX4_findingOfBook 66 = .ok (.iconst 0, 1) := by decide +kernel
theorem dX4_findingOfBook_67 : decode cX4_findingOfBook 67 = .ok (.ireturn, 1) := by decide +kernel
theorem dX4_turnsInBook_0 : decode cX4_turnsInBook 0 = .ok (.iconst 0, 1) := by decide +kernel
theorem dX4_turnsInBook_1 : decode cX4_turnsInBook 1 = .ok (.istore_n 3, 1) := by decide +kernel
theorem dX4_turnsInBook_2 : decode cX4_turnsInBook 2 = .ok (.iconst 0, 1) := by decide +kernel
theorem dX4_turnsInBook_3 : decode cX4_turnsInBook 3 = .ok (.istore 4, 2) := by decide +kernel
theorem dX4_turnsInBook_5 : decode cX4_turnsInBook 5 = .ok (.iload_n 1, 1) := by decide +kernel
theorem dX4_turnsInBook_6 : decode cX4_turnsInBook 6 = .ok (.ifCond .le 47, 3) := by decide +kernel
theorem dX4_turnsInBook_9 : decode cX4_turnsInBook 9 = .ok (.iload 4, 2) := by decide +kernel
theorem dX4_turnsInBook_11 : decode cX4_turnsInBook 11 = .ok (.iconst 1, 1) := by decide +kernel
theorem dX4_turnsInBook_12 : decode cX4_turnsInBook 12 = .ok (.iadd, 1) := by decide +kernel
theorem dX4_turnsInBook_13 : decode cX4_turnsInBook 13 = .ok (.aload_n 0, 1) := by decide +kernel
theorem dX4_turnsInBook_14 : decode cX4_turnsInBook 14 = .ok (.getfield 78, 3) := by decide +kernel
theorem dX4_turnsInBook_17 : decode cX4_turnsInBook 17 = .ok (.if_icmp .ge 36, 3) := by decide +kernel
theorem dX4_turnsInBook_20 : decode cX4_turnsInBook 20 = .ok (.aload_n 0, 1) := by decide +kernel
theorem dX4_turnsInBook_21 : decode cX4_turnsInBook 21 = .ok (.getfield 63, 3) := by decide +kernel
theorem dX4_turnsInBook_24 : decode cX4_turnsInBook 24 = .ok (.iload 4, 2) := by decide +kernel
theorem dX4_turnsInBook_26 : decode cX4_turnsInBook 26 = .ok (.iconst 1, 1) := by decide +kernel
theorem dX4_turnsInBook_27 : decode cX4_turnsInBook 27 = .ok (.iadd, 1) := by decide +kernel
theorem dX4_turnsInBook_28 : decode cX4_turnsInBook 28 = .ok (.iaload, 1) := by decide +kernel
theorem dX4_turnsInBook_29 : decode cX4_turnsInBook 29 = .ok (.iload_n 2, 1) := by decide +kernel
theorem dX4_turnsInBook_30 : decode cX4_turnsInBook 30 = .ok (.if_icmp .ne 17, 3) := by decide +kernel
theorem dX4_turnsInBook_33 : decode cX4_turnsInBook 33 = .ok (.iload_n 3, 1) := by decide +kernel
theorem dX4_turnsInBook_34 : decode cX4_turnsInBook 34 = .ok (.iconst 1, 1) := by decide +kernel
theorem dX4_turnsInBook_35 : decode cX4_turnsInBook 35 = .ok (.aload_n 0, 1) := by decide +kernel
theorem dX4_turnsInBook_36 : decode cX4_turnsInBook 36 = .ok (.getfield 63, 3) := by decide +kernel
theorem dX4_turnsInBook_39 : decode cX4_turnsInBook 39 = .ok (.iload 4, 2) := by decide +kernel
theorem dX4_turnsInBook_41 : decode cX4_turnsInBook 41 = .ok (.iaload, 1) := by decide +kernel
theorem dX4_turnsInBook_42 : decode cX4_turnsInBook 42 = .ok (.iload_n 1, 1) := by decide +kernel
theorem dX4_turnsInBook_43 : decode cX4_turnsInBook 43 = .ok (.irem, 1) := by decide +kernel
theorem dX4_turnsInBook_44 : decode cX4_turnsInBook 44 = .ok (.ishl, 1) := by decide +kernel
theorem dX4_turnsInBook_45 : decode cX4_turnsInBook 45 = .ok (.ior, 1) := by decide +kernel
theorem dX4_turnsInBook_46 : decode cX4_turnsInBook 46 = .ok (.istore_n 3, 1) := by decide +kernel
theorem dX4_turnsInBook_47 : decode cX4_turnsInBook 47 = .ok (.iinc 4 2, 3) := by decide +kernel
theorem dX4_turnsInBook_50 : decode cX4_turnsInBook 50 = .ok (.goto (-45), 3) := by decide +kernel
theorem dX4_turnsInBook_53 : decode cX4_turnsInBook 53 = .ok (.iload_n 3, 1) := by decide +kernel
theorem dX4_turnsInBook_54 : decode cX4_turnsInBook 54 = .ok (.ireturn, 1) := by decide +kernel
set_option maxRecDepth 20000 in
theorem ggX4_doByLot_X1_letDayGoBy : GoodIn wsX4_doByLot wsX1_letDayGoBy := goodIn_r _ [7, 8, 9, 10, 11, 6, 12, 13, 14, 15, 41, 42, 43, 44, 45, 46, 47, 48, 49, 50, 51] (by decide +kernel) (by decide +kernel)
set_option maxRecDepth 20000 in
theorem gX4_doByLot_X1_letDayGoBy : GoodIn wsX4_doByLot (wsV RX4 161 RX1 yX1_letDayGoBy wsX1_letDayGoBy) := goodIn_app (goodIn_of _ (by decide +kernel)) ggX4_doByLot_X1_letDayGoBy
set_option maxRecDepth 20000 in
theorem ggX4_doByLot_X1_driveOver : GoodIn wsX4_doByLot wsX1_driveOver := goodIn_r _ [19, 20, 21, 22, 23, 24, 25, 9, 10, 11, 6, 12, 13, 14, 15, 41, 42, 43, 44, 45, 46, 47, 48, 49, 50, 51, 52, 53, 54, 55, 56] (by decide +kernel) (by decide +kernel)
set_option maxRecDepth 20000 in
theorem gX4_doByLot_X1_driveOver : GoodIn wsX4_doByLot (wsV RX4 164 RX1 yX1_driveOver wsX1_driveOver) := goodIn_app (goodIn_of _ (by decide +kernel)) ggX4_doByLot_X1_driveOver
set_option maxRecDepth 20000 in
theorem ggX4_doByLot_X1_payOver : GoodIn wsX4_doByLot wsX1_payOver := goodIn_r _ [29, 30, 9, 10, 11, 6, 12, 13, 14, 15, 41, 42, 43, 44, 45, 46, 47, 48, 49, 50, 51] (by decide +kernel) (by decide +kernel)
set_option maxRecDepth 20000 in
theorem gX4_doByLot_X1_payOver : GoodIn wsX4_doByLot (wsV RX4 167 RX1 yX1_payOver wsX1_payOver) := goodIn_app (goodIn_of _ (by decide +kernel)) ggX4_doByLot_X1_payOver
theorem dX4_doByLot_0 : decode cX4_doByLot 0 = .ok (.iload_n 1, 1) := by decide +kernel
theorem dX4_doByLot_1 : decode cX4_doByLot 1 = .ok (.iconst 3, 1) := by decide +kernel
theorem dX4_doByLot_2 : decode cX4_doByLot 2 = .ok (.irem, 1) := by decide +kernel
theorem dX4_doByLot_3 : decode cX4_doByLot 3 = .ok (.lookupswitch 67 #[(0, 25), (1, 35)], 25) := by decide +kernel
theorem dX4_doByLot_28 : decode cX4_doByLot 28 = .ok (.aload_n 0, 1) := by decide +kernel
theorem dX4_doByLot_29 : decode cX4_doByLot 29 = .ok (.getfield 21, 3) := by decide +kernel
theorem dX4_doByLot_32 : decode cX4_doByLot 32 = .ok (.invokevirtual 161, 3) := by decide +kernel
theorem dX4_doByLot_35 : decode cX4_doByLot 35 = .ok (.goto 57, 3) := by decide +kernel
theorem dX4_doByLot_38 : decode cX4_doByLot 38 = .ok (.aload_n 0, 1) := by decide +kernel
theorem dX4_doByLot_39 : decode cX4_doByLot 39 = .ok (.getfield 21, 3) := by decide +kernel
theorem dX4_doByLot_42 : decode cX4_doByLot 42 = .ok (.getfield 108, 3) := by decide +kernel
theorem dX4_doByLot_45 : decode cX4_doByLot 45 = .ok (.ifCond .le 47, 3) := by decide +kernel
theorem dX4_doByLot_48 : decode cX4_doByLot 48 = .ok (.aload_n 0, 1) := by decide +kernel
theorem dX4_doByLot_49 : decode cX4_doByLot 49 = .ok (.getfield 21, 3) := by decide +kernel
theorem dX4_doByLot_52 : decode cX4_doByLot 52 = .ok (.iload_n 1, 1) := by decide +kernel
theorem dX4_doByLot_53 : decode cX4_doByLot 53 = .ok (.bipush 8, 2) := by decide +kernel
theorem dX4_doByLot_55 : decode cX4_doByLot 55 = .ok (.idiv, 1) := by decide +kernel
theorem dX4_doByLot_56 : decode cX4_doByLot 56 = .ok (.aload_n 0, 1) := by decide +kernel
theorem dX4_doByLot_57 : decode cX4_doByLot 57 = .ok (.getfield 21, 3) := by decide +kernel
theorem dX4_doByLot_60 : decode cX4_doByLot 60 = .ok (.getfield 108, 3) := by decide +kernel
theorem dX4_doByLot_63 : decode cX4_doByLot 63 = .ok (.irem, 1) := by decide +kernel
theorem dX4_doByLot_64 : decode cX4_doByLot 64 = .ok (.invokevirtual 164, 3) := by decide +kernel
theorem dX4_doByLot_67 : decode cX4_doByLot 67 = .ok (.goto 25, 3) := by decide +kernel
theorem dX4_doByLot_70 : decode cX4_doByLot 70 = .ok (.aload_n 0, 1) := by decide +kernel
theorem dX4_doByLot_71 : decode cX4_doByLot 71 = .ok (.getfield 21, 3) := by decide +kernel
theorem dX4_doByLot_74 : decode cX4_doByLot 74 = .ok (.iload_n 1, 1) := by decide +kernel
theorem dX4_doByLot_75 : decode cX4_doByLot 75 = .ok (.bipush 16, 2) := by decide +kernel
theorem dX4_doByLot_77 : decode cX4_doByLot 77 = .ok (.idiv, 1) := by decide +kernel
theorem dX4_doByLot_78 : decode cX4_doByLot 78 = .ok (.iconst 2, 1) := by decide +kernel
theorem dX4_doByLot_79 : decode cX4_doByLot 79 = .ok (.irem, 1) := by decide +kernel
theorem dX4_doByLot_80 : decode cX4_doByLot 80 = .ok (.iload_n 1, 1) := by decide +kernel
theorem dX4_doByLot_81 : decode cX4_doByLot 81 = .ok (.bipush 64, 2) := by decide +kernel
theorem dX4_doByLot_83 : decode cX4_doByLot 83 = .ok (.idiv, 1) := by decide +kernel
theorem dX4_doByLot_84 : decode cX4_doByLot 84 = .ok (.bipush 9, 2) := by decide +kernel
theorem dX4_doByLot_86 : decode cX4_doByLot 86 = .ok (.irem, 1) := by decide +kernel
theorem dX4_doByLot_87 : decode cX4_doByLot 87 = .ok (.iconst 1, 1) := by decide +kernel
theorem dX4_doByLot_88 : decode cX4_doByLot 88 = .ok (.iadd, 1) := by decide +kernel
theorem dX4_doByLot_89 : decode cX4_doByLot 89 = .ok (.invokevirtual 167, 3) := by decide +kernel
theorem dX4_doByLot_92 : decode cX4_doByLot 92 = .ok (.return_, 1) := by decide +kernel
theorem dX5_init_0 : decode cX5_init 0 = .ok (.aload_n 0, 1) := by decide +kernel
theorem dX5_init_1 : decode cX5_init 1 = .ok (.invokespecial 1, 3) := by decide +kernel
theorem dX5_init_4 : decode cX5_init 4 = .ok (.aload_n 0, 1) := by decide +kernel
theorem dX5_init_5 : decode cX5_init 5 = .ok (.bipush 6, 2) := by decide +kernel
theorem dX5_init_7 : decode cX5_init 7 = .ok (.newarray .int, 2) := by decide +kernel
theorem dX5_init_9 : decode cX5_init 9 = .ok (.putfield 7, 3) := by decide +kernel
theorem dX5_init_12 : decode cX5_init 12 = .ok (.aload_n 0, 1) := by decide +kernel
theorem dX5_init_13 : decode cX5_init 13 = .ok (.sipush 240, 3) := by decide +kernel
theorem dX5_init_16 : decode cX5_init 16 = .ok (.newarray .int, 2) := by decide +kernel
theorem dX5_init_18 : decode cX5_init 18 = .ok (.putfield 13, 3) := by decide +kernel
theorem dX5_init_21 : decode cX5_init 21 = .ok (.aload_n 0, 1) := by decide +kernel
theorem dX5_init_22 : decode cX5_init 22 = .ok (.bipush 40, 2) := by decide +kernel
theorem dX5_init_24 : decode cX5_init 24 = .ok (.newarray .int, 2) := by decide +kernel
theorem dX5_init_26 : decode cX5_init 26 = .ok (.putfield 16, 3) := by decide +kernel
theorem dX5_init_29 : decode cX5_init 29 = .ok (.aload_n 0, 1) := by decide +kernel
theorem dX5_init_30 : decode cX5_init 30 = .ok (.iconst 4, 1) := by decide +kernel
theorem dX5_init_31 : decode cX5_init 31 = .ok (.newarray .int, 2) := by decide +kernel
theorem dX5_init_33 : decode cX5_init 33 = .ok (.putfield 19, 3) := by decide +kernel
theorem dX5_init_36 : decode cX5_init 36 = .ok (.aload_n 0, 1) := by decide +kernel
theorem dX5_init_37 : decode cX5_init 37 = .ok (.sipush 240, 3) := by decide +kernel
theorem dX5_init_40 : decode cX5_init 40 = .ok (.newarray .int, 2) := by decide +kernel
theorem dX5_init_42 : decode cX5_init 42 = .ok (.putfield 22, 3) := by decide +kernel
theorem dX5_init_45 : decode cX5_init 45 = .ok (.aload_n 0, 1) := by decide +kernel
theorem dX5_init_46 : decode cX5_init 46 = .ok (.bipush 98, 2) := by decide +kernel
theorem dX5_init_48 : decode cX5_init 48 = .ok (.newarray .int, 2) := by decide +kernel
theorem dX5_init_50 : decode cX5_init 50 = .ok (.putfield 25, 3) := by decide +kernel
theorem dX5_init_53 : decode cX5_init 53 = .ok (.aload_n 0, 1) := by decide +kernel
theorem dX5_init_54 : decode cX5_init 54 = .ok (.bipush 98, 2) := by decide +kernel
theorem dX5_init_56 : decode cX5_init 56 = .ok (.newarray .int, 2) := by decide +kernel
theorem dX5_init_58 : decode cX5_init 58 = .ok (.putfield 28, 3) := by decide +kernel
theorem dX5_init_61 : decode cX5_init 61 = .ok (.aload_n 0, 1) := by decide +kernel
theorem dX5_init_62 : decode cX5_init 62 = .ok (.sipush 294, 3) := by decide +kernel
theorem dX5_init_65 : decode cX5_init 65 = .ok (.newarray .int, 2) := by decide +kernel
theorem dX5_init_67 : decode cX5_init 67 = .ok (.putfield 31, 3) := by decide +kernel
theorem dX5_init_70 : decode cX5_init 70 = .ok (.aload_n 0, 1) := by decide +kernel
theorem dX5_init_71 : decode cX5_init 71 = .ok (.iconst 3, 1) := by decide +kernel
theorem dX5_init_72 : decode cX5_init 72 = .ok (.newarray .boolean, 2) := by decide +kernel
theorem dX5_init_74 : decode cX5_init 74 = .ok (.putfield 34, 3) := by decide +kernel
theorem dX5_init_77 : decode cX5_init 77 = .ok (.aload_n 0, 1) := by decide +kernel
theorem dX5_init_78 : decode cX5_init 78 = .ok (.bipush 6, 2) := by decide +kernel
theorem dX5_init_80 : decode cX5_init 80 = .ok (.newarray .int, 2) := by decide +kernel
theorem dX5_init_82 : decode cX5_init 82 = .ok (.putfield 38, 3) := by decide +kernel
theorem dX5_init_85 : decode cX5_init 85 = .ok (.aload_n 0, 1) := by decide +kernel
theorem dX5_init_86 : decode cX5_init 86 = .ok (.iconst 3, 1) := by decide +kernel
theorem dX5_init_87 : decode cX5_init 87 = .ok (.newarray .int, 2) := by decide +kernel
theorem dX5_init_89 : decode cX5_init 89 = .ok (.putfield 41, 3) := by decide +kernel
theorem dX5_init_92 : decode cX5_init 92 = .ok (.iconst 0, 1) := by decide +kernel
theorem dX5_init_93 : decode cX5_init 93 = .ok (.istore_n 1, 1) := by decide +kernel
theorem dX5_init_94 : decode cX5_init 94 = .ok (.iload_n 1, 1) := by decide +kernel
theorem dX5_init_95 : decode cX5_init 95 = .ok (.bipush 6, 2) := by decide +kernel
theorem dX5_init_97 : decode cX5_init 97 = .ok (.if_icmp .ge 16, 3) := by decide +kernel
theorem dX5_init_100 : decode cX5_init 100 = .ok (.aload_n 0, 1) := by decide +kernel
theorem dX5_init_101 : decode cX5_init 101 = .ok (.getfield 7, 3) := by decide +kernel
theorem dX5_init_104 : decode cX5_init 104 = .ok (.iload_n 1, 1) := by decide +kernel
theorem dX5_init_105 : decode cX5_init 105 = .ok (.iconst (-1), 1) := by decide +kernel
theorem dX5_init_106 : decode cX5_init 106 = .ok (.iastore, 1) := by decide +kernel
theorem dX5_init_107 : decode cX5_init 107 = .ok (.iinc 1 1, 3) := by decide +kernel
theorem dX5_init_110 : decode cX5_init 110 = .ok (.goto (-16), 3) := by decide +kernel
theorem dX5_init_113 : decode cX5_init 113 = .ok (.iconst 0, 1) := by decide +kernel
theorem dX5_init_114 : decode cX5_init 114 = .ok (.istore_n 1, 1) := by decide +kernel
theorem dX5_init_115 : decode cX5_init 115 = .ok (.iload_n 1, 1) := by decide +kernel
theorem dX5_init_116 : decode cX5_init 116 = .ok (.iconst 4, 1) := by decide +kernel
theorem dX5_init_117 : decode cX5_init 117 = .ok (.if_icmp .ge 16, 3) := by decide +kernel
theorem dX5_init_120 : decode cX5_init 120 = .ok (.aload_n 0, 1) := by decide +kernel
theorem dX5_init_121 : decode cX5_init 121 = .ok (.getfield 19, 3) := by decide +kernel
theorem dX5_init_124 : decode cX5_init 124 = .ok (.iload_n 1, 1) := by decide +kernel
theorem dX5_init_125 : decode cX5_init 125 = .ok (.iconst (-1), 1) := by decide +kernel
theorem dX5_init_126 : decode cX5_init 126 = .ok (.iastore, 1) := by decide +kernel
theorem dX5_init_127 : decode cX5_init 127 = .ok (.iinc 1 1, 3) := by decide +kernel
theorem dX5_init_130 : decode cX5_init 130 = .ok (.goto (-15), 3) := by decide +kernel
theorem dX5_init_133 : decode cX5_init 133 = .ok (.aload_n 0, 1) := by decide +kernel
theorem dX5_init_134 : decode cX5_init 134 = .ok (.lconst 1, 1) := by decide +kernel
theorem dX5_init_135 : decode cX5_init 135 = .ok (.putfield 44, 3) := by decide +kernel
theorem dX5_init_138 : decode cX5_init 138 = .ok (.return_, 1) := by decide +kernel
theorem dX5_in_0 : decode cX5_in 0 = .ok (.iload_n 0, 1) := by decide +kernel
theorem dX5_in_1 : decode cX5_in 1 = .ok (.iload_n 1, 1) := by decide +kernel
theorem dX5_in_2 : decode cX5_in 2 = .ok (.if_icmp .lt 12, 3) := by decide +kernel
theorem dX5_in_5 : decode cX5_in 5 = .ok (.iload_n 0, 1) := by decide +kernel
theorem dX5_in_6 : decode cX5_in 6 = .ok (.iload_n 2, 1) := by decide +kernel
theorem dX5_in_7 : decode cX5_in 7 = .ok (.if_icmp .gt 7, 3) := by decide +kernel
theorem dX5_in_10 : decode cX5_in 10 = .ok (.iconst 1, 1) := by decide +kernel
theorem dX5_in_11 : decode cX5_in 11 = .ok (.goto 4, 3) := by decide +kernel
theorem dX5_in_14 : decode cX5_in 14 = .ok (.iconst 0, 1) := by decide +kernel
theorem dX5_in_15 : decode cX5_in 15 = .ok (.ireturn, 1) := by decide +kernel
theorem dX5_has_0 : decode cX5_has 0 = .ok (.iload_n 0, 1) := by decide +kernel
theorem dX5_has_1 : decode cX5_has 1 = .ok (.iload_n 1, 1) := by decide +kernel
theorem dX5_has_2 : decode cX5_has 2 = .ok (.ishr, 1) := by decide +kernel
theorem dX5_has_3 : decode cX5_has 3 = .ok (.iconst 1, 1) := by decide +kernel
theorem dX5_has_4 : decode cX5_has 4 = .ok (.iand, 1) := by decide +kernel
theorem dX5_has_5 : decode cX5_has 5 = .ok (.iconst 1, 1) := by decide +kernel
theorem dX5_has_6 : decode cX5_has 6 = .ok (.if_icmp .ne 7, 3) := by decide +kernel
theorem dX5_has_9 : decode cX5_has 9 = .ok (.iconst 1, 1) := by decide +kernel
theorem dX5_has_10 : decode cX5_has 10 = .ok (.goto 4, 3) := by decide +kernel
theorem dX5_has_13 : decode cX5_has 13 = .ok (.iconst 0, 1) := by decide +kernel
theorem dX5_has_14 : decode cX5_has 14 = .ok (.ireturn, 1) := by decide +kernel
theorem dX5_ones_0 : decode cX5_ones 0 = .ok (.iconst 0, 1) := by decide +kernel
theorem dX5_ones_1 : decode cX5_ones 1 = .ok (.istore_n 1, 1) := by decide +kernel
theorem dX5_ones_2 : decode cX5_ones 2 = .ok (.iconst 0, 1) := by decide +kernel
theorem dX5_ones_3 : decode cX5_ones 3 = .ok (.istore_n 2, 1) := by decide +kernel
theorem dX5_ones_4 : decode cX5_ones 4 = .ok (.iload_n 2, 1) := by decide +kernel
theorem dX5_ones_5 : decode cX5_ones 5 = .ok (.bipush 24, 2) := by decide +kernel
theorem dX5_ones_7 : decode cX5_ones 7 = .ok (.if_icmp .ge 17, 3) := by decide +kernel
theorem dX5_ones_10 : decode cX5_ones 10 = .ok (.iload_n 1, 1) := by decide +kernel
theorem dX5_ones_11 : decode cX5_ones 11 = .ok (.iload_n 0, 1) := by decide +kernel
theorem dX5_ones_12 : decode cX5_ones 12 = .ok (.iload_n 2, 1) := by decide +kernel
theorem dX5_ones_13 : decode cX5_ones 13 = .ok (.ishr, 1) := by decide +kernel
theorem dX5_ones_14 : decode cX5_ones 14 = .ok (.iconst 1, 1) := by decide +kernel
theorem dX5_ones_15 : decode cX5_ones 15 = .ok (.iand, 1) := by decide +kernel
theorem dX5_ones_16 : decode cX5_ones 16 = .ok (.iadd, 1) := by decide +kernel
theorem dX5_ones_17 : decode cX5_ones 17 = .ok (.istore_n 1, 1) := by decide +kernel
theorem dX5_ones_18 : decode cX5_ones 18 = .ok (.iinc 2 1, 3) := by decide +kernel
theorem dX5_ones_21 : decode cX5_ones 21 = .ok (.goto (-17), 3) := by decide +kernel
theorem dX5_ones_24 : decode cX5_ones 24 = .ok (.iload_n 1, 1) := by decide +kernel
theorem dX5_ones_25 : decode cX5_ones 25 = .ok (.ireturn, 1) := by decide +kernel
theorem dX5_finds_0 : decode cX5_finds 0 = .ok (.aload_n 0, 1) := by decide +kernel
theorem dX5_finds_1 : decode cX5_finds 1 = .ok (.iload_n 1, 1) := by decide +kernel
theorem dX5_finds_2 : decode cX5_finds 2 = .ok (.putfield 48, 3) := by decide +kernel
theorem dX5_finds_5 : decode cX5_finds 5 = .ok (.aload_n 0, 1) := by decide +kernel
theorem dX5_finds_6 : decode cX5_finds 6 = .ok (.getfield 38, 3) := by decide +kernel
theorem dX5_finds_9 : decode cX5_finds 9 = .ok (.iload_n 1, 1) := by decide +kernel
theorem dX5_finds_10 : decode cX5_finds 10 = .ok (.dup2, 1) := by decide +kernel
theorem dX5_finds_11 : decode cX5_finds 11 = .ok (.iaload, 1) := by decide +kernel
theorem dX5_finds_12 : decode cX5_finds 12 = .ok (.iconst 1, 1) := by decide +kernel
theorem dX5_finds_13 : decode cX5_finds 13 = .ok (.iadd, 1) := by decide +kernel
theorem dX5_finds_14 : decode cX5_finds 14 = .ok (.iastore, 1) := by decide +kernel
theorem dX5_finds_15 : decode cX5_finds 15 = .ok (.bipush (-3), 2) := by decide +kernel
theorem dX5_finds_17 : decode cX5_finds 17 = .ok (.ireturn, 1) := by decide +kernel
theorem dX5_tells_0 : decode cX5_tells 0 = .ok (.aload_n 0, 1) := by decide +kernel
theorem dX5_tells_1 : decode cX5_tells 1 = .ok (.iload_n 2, 1) := by decide +kernel
theorem dX5_tells_2 : decode cX5_tells 2 = .ok (.putfield 52, 3) := by decide +kernel
theorem dX5_tells_5 : decode cX5_tells 5 = .ok (.iload_n 1, 1) := by decide +kernel
theorem dX5_tells_6 : decode cX5_tells 6 = .ok (.ireturn, 1) := by decide +kernel
theorem dX5_tellsParts_0 : decode cX5_tellsParts 0 = .ok (.lload_n 1, 1) := by decide +kernel
theorem dX5_tellsParts_1 : decode cX5_tellsParts 1 = .ok (.lstore 5, 2) := by decide +kernel
theorem dX5_tellsParts_3 : decode cX5_tellsParts 3 = .ok (.lload_n 3, 1) := by decide +kernel
theorem dX5_tellsParts_4 : decode cX5_tellsParts 4 = .ok (.lstore 7, 2) := by decide +kernel
theorem dX5_tellsParts_6 : decode cX5_tellsParts 6 = .ok (.lload 7, 2) := by decide +kernel
theorem dX5_tellsParts_8 : decode cX5_tellsParts 8 = .ok (.lconst 0, 1) := by decide +kernel
theorem dX5_tellsParts_9 : decode cX5_tellsParts 9 = .ok (.lcmp, 1) := by decide +kernel
theorem dX5_tellsParts_10 : decode cX5_tellsParts 10 = .ok (.ifCond .eq 21, 3) := by decide +kernel
theorem dX5_tellsParts_13 : decode cX5_tellsParts 13 = .ok (.lload 5, 2) := by decide +kernel
theorem dX5_tellsParts_15 : decode cX5_tellsParts 15 = .ok (.lload 7, 2) := by decide +kernel
theorem dX5_tellsParts_17 : decode cX5_tellsParts 17 = .ok (.lrem, 1) := by decide +kernel
theorem dX5_tellsParts_18 : decode cX5_tellsParts 18 = .ok (.lstore 9, 2) := by decide +kernel
theorem dX5_tellsParts_20 : decode cX5_tellsParts 20 = .ok (.lload 7, 2) := by decide +kernel
theorem dX5_tellsParts_22 : decode cX5_tellsParts 22 = .ok (.lstore 5, 2) := by decide +kernel
theorem dX5_tellsParts_24 : decode cX5_tellsParts 24 = .ok (.lload 9, 2) := by decide +kernel
theorem dX5_tellsParts_26 : decode cX5_tellsParts 26 = .ok (.lstore 7, 2) := by decide +kernel
theorem dX5_tellsParts_28 : decode cX5_tellsParts 28 = .ok (.goto (-22), 3) := by decide +kernel
theorem dX5_tellsParts_31 : decode cX5_tellsParts 31 = .ok (.aload_n 0, 1) := by decide +kernel
theorem dX5_tellsParts_32 : decode cX5_tellsParts 32 = .ok (.lload_n 1, 1) := by decide +kernel
theorem dX5_tellsParts_33 : decode cX5_tellsParts 33 = .ok (.lload 5, 2) := by decide +kernel
theorem dX5_tellsParts_35 : decode cX5_tellsParts 35 = .ok (.ldiv, 1) := by decide +kernel
theorem dX5_tellsParts_36 : decode cX5_tellsParts 36 = .ok (.putfield 55, 3) := by decide +kernel
theorem dX5_tellsParts_39 : decode cX5_tellsParts 39 = .ok (.aload_n 0, 1) := by decide +kernel
theorem dX5_tellsParts_40 : decode cX5_tellsParts 40 = .ok (.lload_n 3, 1) := by decide +kernel
theorem dX5_tellsParts_41 : decode cX5_tellsParts 41 = .ok (.lload 5, 2) := by decide +kernel
theorem dX5_tellsParts_43 : decode cX5_tellsParts 43 = .ok (.ldiv, 1) := by decide +kernel
theorem dX5_tellsParts_44 : decode cX5_tellsParts 44 = .ok (.putfield 44, 3) := by decide +kernel
theorem dX5_tellsParts_47 : decode cX5_tellsParts 47 = .ok (.iconst 1, 1) := by decide +kernel
theorem dX5_tellsParts_48 : decode cX5_tellsParts 48 = .ok (.ireturn, 1) := by decide +kernel
set_option maxRecDepth 20000 in
theorem ggX5_isRow_X5_in : GoodIn wsX5_isRow wsX5_in := goodIn_r _ [4] (by decide +kernel) (by decide +kernel)
set_option maxRecDepth 20000 in
theorem gX5_isRow_X5_in : GoodIn wsX5_isRow (va_wsS RX5 58 yX5_in wsX5_in) := goodIn_app (goodIn_of _ (by decide +kernel)) ggX5_isRow_X5_in
theorem dX5_isRow_0 : decode cX5_isRow 0 = .ok (.iload_n 0, 1) := by decide +kernel
theorem dX5_isRow_1 : decode cX5_isRow 1 = .ok (.iconst 0, 1) := by decide +kernel
theorem dX5_isRow_2 : decode cX5_isRow 2 = .ok (.iconst 5, 1) := by decide +kernel
theorem dX5_isRow_3 : decode cX5_isRow 3 = .ok (.invokestatic 58, 3) := by decide +kernel
theorem dX5_isRow_6 : decode cX5_isRow 6 = .ok (.ireturn, 1) := by decide +kernel
set_option maxRecDepth 20000 in
theorem ggX5_isText_X5_in : GoodIn wsX5_isText wsX5_in := goodIn_r _ [4] (by decide +kernel) (by decide +kernel)
set_option maxRecDepth 20000 in
theorem gX5_isText_X5_in : GoodIn wsX5_isText (va_wsS RX5 58 yX5_in wsX5_in) := goodIn_app (goodIn_of _ (by decide +kernel)) ggX5_isText_X5_in
theorem dX5_isText_0 : decode cX5_isText 0 = .ok (.iload_n 0, 1) := by decide +kernel
theorem dX5_isText_1 : decode cX5_isText 1 = .ok (.iconst 0, 1) := by decide +kernel
theorem dX5_isText_2 : decode cX5_isText 2 = .ok (.iconst 3, 1) := by decide +kernel
theorem dX5_isText_3 : decode cX5_isText 3 = .ok (.invokestatic 58, 3) := by decide +kernel
theorem dX5_isText_6 : decode cX5_isText 6 = .ok (.ireturn, 1) := by decide +kernel
theorem dX5_lays_0 : decode cX5_lays 0 = .ok (.aload_n 0, 1) := by decide +kernel
theorem dX5_lays_1 : decode cX5_lays 1 = .ok (.getfield 7, 3) := by decide +kernel
theorem dX5_lays_4 : decode cX5_lays 4 = .ok (.iload_n 1, 1) := by decide +kernel
theorem dX5_lays_5 : decode cX5_lays 5 = .ok (.iload_n 2, 1) := by decide +kernel
theorem dX5_lays_6 : decode cX5_lays 6 = .ok (.iastore, 1) := by decide +kernel
theorem dX5_lays_7 : decode cX5_lays 7 = .ok (.iconst 0, 1) := by decide +kernel
theorem dX5_lays_8 : decode cX5_lays 8 = .ok (.istore_n 3, 1) := by decide +kernel
theorem dX5_lays_9 : decode cX5_lays 9 = .ok (.iload_n 3, 1) := by decide +kernel
theorem dX5_lays_10 : decode cX5_lays 10 = .ok (.bipush 40, 2) := by decide +kernel
theorem dX5_lays_12 : decode cX5_lays 12 = .ok (.if_icmp .ge 21, 3) := by decide +kernel
theorem dX5_lays_15 : decode cX5_lays 15 = .ok (.aload_n 0, 1) := by decide +kernel
theorem dX5_lays_16 : decode cX5_lays 16 = .ok (.getfield 13, 3) := by decide +kernel
theorem dX5_lays_19 : decode cX5_lays 19 = .ok (.bipush 40, 2) := by decide +kernel
theorem dX5_lays_21 : decode cX5_lays 21 = .ok (.iload_n 1, 1) := by decide +kernel
theorem dX5_lays_22 : decode cX5_lays 22 = .ok (.imul, 1) := by decide +kernel
theorem dX5_lays_23 : decode cX5_lays 23 = .ok (.iload_n 3, 1) := by decide +kernel
theorem dX5_lays_24 : decode cX5_lays 24 = .ok (.iadd, 1) := by decide +kernel
theorem dX5_lays_25 : decode cX5_lays 25 = .ok (.iconst 0, 1) := by decide +kernel
theorem dX5_lays_26 : decode cX5_lays 26 = .ok (.iastore, 1) := by decide +kernel
theorem dX5_lays_27 : decode cX5_lays 27 = .ok (.iinc 3 1, 3) := by decide +kernel
theorem dX5_lays_30 : decode cX5_lays 30 = .ok (.goto (-21), 3) := by decide +kernel
theorem dX5_lays_33 : decode cX5_lays 33 = .ok (.return_, 1) := by decide +kernel
set_option maxRecDepth 20000 in
theorem ggX5_row_X5_isRow : GoodIn wsX5_row wsX5_isRow := goodIn_r _ [4, 5, 6, 3, 7] (by decide +kernel) (by decide +kernel)
set_option maxRecDepth 20000 in
theorem gX5_row_X5_isRow : GoodIn wsX5_row (va_wsS RX5 62 yX5_isRow wsX5_isRow) := goodIn_app (goodIn_of _ (by decide +kernel)) ggX5_row_X5_isRow
set_option maxRecDepth 20000 in
theorem ggX5_row_X5_finds : GoodIn wsX5_row wsX5_finds := goodIn_r _ [11, 12, 13, 20, 21, 22, 23, 24, 25, 26, 27, 28, 29, 30, 31, 32, 33, 34, 35, 36] (by decide +kernel) (by decide +kernel)
set_option maxRecDepth 20000 in
theorem gX5_row_X5_finds : GoodIn wsX5_row (wsV RX5 66 RX5 yX5_finds wsX5_finds) := goodIn_app (goodIn_of _ (by decide +kernel)) ggX5_row_X5_finds
set_option maxRecDepth 20000 in
theorem ggX5_row_X5_lays : GoodIn wsX5_row wsX5_lays := goodIn_r _ [17, 18, 19, 20, 21, 22, 23, 24, 25, 26, 27, 28, 29, 30, 31, 32, 33, 34, 35, 36] (by decide +kernel) (by decide +kernel)
set_option maxRecDepth 20000 in
theorem gX5_row_X5_lays : GoodIn wsX5_row (wsV RX5 70 RX5 yX5_lays wsX5_lays) := goodIn_app (goodIn_of _ (by decide +kernel)) ggX5_row_X5_lays
theorem dX5_row_0 : decode cX5_row 0 = .ok (.iload_n 1, 1) := by decide +kernel
theorem dX5_row_1 : decode cX5_row 1 = .ok (.invokestatic 62, 3) := by decide +kernel
theorem dX5_row_4 : decode cX5_row 4 = .ok (.ifCond .eq 9, 3) := by decide +kernel
theorem dX5_row_7 : decode cX5_row 7 = .ok (.iload_n 2, 1) := by decide +kernel
theorem dX5_row_8 : decode cX5_row 8 = .ok (.bipush 40, 2) := by decide +kernel
theorem dX5_row_10 : decode cX5_row 10 = .ok (.if_icmp .le 5, 3) := by decide +kernel
theorem dX5_row_13 : decode cX5_row 13 = .ok (.iconst (-1), 1) := by decide +kernel
theorem dX5_row_14 : decode cX5_row 14 = .ok (.ireturn, 1) := by decide +kernel
theorem dX5_row_15 : decode cX5_row 15 = .ok (.iload_n 2, 1) := by decide +kernel
theorem dX5_row_16 : decode cX5_row 16 = .ok (.ifCond .ge 9, 3) := by decide +kernel
theorem dX5_row_19 : decode cX5_row 19 = .ok (.aload_n 0, 1) := by decide +kernel
theorem dX5_row_20 : decode cX5_row 20 = .ok (.iconst 5, 1) := by decide +kernel
theorem dX5_row_21 : decode cX5_row 21 = .ok (.invokevirtual 66, 3) := by decide +kernel
theorem dX5_row_24 : decode cX5_row 24 = .ok (.ireturn, 1) := by decide +kernel
theorem dX5_row_25 : decode cX5_row 25 = .ok (.aload_n 0, 1) := by decide +kernel
theorem dX5_row_26 : decode cX5_row 26 = .ok (.iload_n 1, 1) := by decide +kernel
theorem dX5_row_27 : decode cX5_row 27 = .ok (.iload_n 2, 1) := by decide +kernel
theorem dX5_row_28 : decode cX5_row 28 = .ok (.invokevirtual 70, 3) := by decide +kernel
theorem dX5_row_31 : decode cX5_row 31 = .ok (.iload_n 2, 1) := by decide +kernel
theorem dX5_row_32 : decode cX5_row 32 = .ok (.ireturn, 1) := by decide +kernel
set_option maxRecDepth 20000 in
theorem ggX5_lay_X5_at : GoodIn wsX5_lay wsX5_at := goodIn_r _ [6, 7, 1, 8, 9, 5, 10, 11, 12, 13, 14, 15, 16, 17, 18, 19, 20, 21, 22, 23, 24, 25, 26, 27, 28, 29, 30, 31, 32, 33, 34, 35, 36, 37, 38, 39, 40, 41] (by decide +kernel) (by decide +kernel)
set_option maxRecDepth 20000 in
theorem gX5_lay_X5_at : GoodIn wsX5_lay (wsV RX5 74 RX5 yX5_at wsX5_at) := goodIn_app (goodIn_of _ (by decide +kernel)) ggX5_lay_X5_at
theorem dX5_lay_0 : decode cX5_lay 0 = .ok (.aload_n 0, 1) := by decide +kernel
theorem dX5_lay_1 : decode cX5_lay 1 = .ok (.iload_n 1, 1) := by decide +kernel
theorem dX5_lay_2 : decode cX5_lay 2 = .ok (.iload_n 2, 1) := by decide +kernel
theorem dX5_lay_3 : decode cX5_lay 3 = .ok (.invokevirtual 74, 3) := by decide +kernel
theorem dX5_lay_6 : decode cX5_lay 6 = .ok (.istore 4, 2) := by decide +kernel
theorem dX5_lay_8 : decode cX5_lay 8 = .ok (.iload 4, 2) := by decide +kernel
theorem dX5_lay_10 : decode cX5_lay 10 = .ok (.iconst 1, 1) := by decide +kernel
theorem dX5_lay_11 : decode cX5_lay 11 = .ok (.if_icmp .ne 15, 3) := by decide +kernel
theorem dX5_lay_14 : decode cX5_lay 14 = .ok (.aload_n 0, 1) := by decide +kernel
theorem dX5_lay_15 : decode cX5_lay 15 = .ok (.getfield 13, 3) := by decide +kernel
theorem dX5_lay_18 : decode cX5_lay 18 = .ok (.bipush 40, 2) := by decide +kernel
theorem dX5_lay_20 : decode cX5_lay 20 = .ok (.iload_n 1, 1) := by decide +kernel
theorem dX5_lay_21 : decode cX5_lay 21 = .ok (.imul, 1) := by decide +kernel
theorem dX5_lay_22 : decode cX5_lay 22 = .ok (.iload_n 2, 1) := by decide +kernel
theorem dX5_lay_23 : decode cX5_lay 23 = .ok (.iadd, 1) := by decide +kernel
theorem dX5_lay_24 : decode cX5_lay 24 = .ok (.iload_n 3, 1) := by decide +kernel
theorem dX5_lay_25 : decode cX5_lay 25 = .ok (.iastore, 1) := by decide +kernel
theorem dX5_lay_26 : decode cX5_lay 26 = .ok (.iload 4, 2) := by decide +kernel
theorem dX5_lay_28 : decode cX5_lay 28 = .ok (.ireturn, 1) := by decide +kernel
set_option maxRecDepth 20000 in
theorem ggX5_at_X5_isRow : GoodIn wsX5_at wsX5_isRow := goodIn_r _ [6, 7, 8, 5, 9] (by decide +kernel) (by decide +kernel)
set_option maxRecDepth 20000 in
theorem gX5_at_X5_isRow : GoodIn wsX5_at (va_wsS RX5 62 yX5_isRow wsX5_isRow) := goodIn_app (goodIn_of _ (by decide +kernel)) ggX5_at_X5_isRow
set_option maxRecDepth 20000 in
theorem ggX5_at_X5_finds : GoodIn wsX5_at wsX5_finds := goodIn_r _ [13, 14, 15, 21, 22, 23, 24, 25, 26, 27, 28, 29, 30, 31, 32, 33, 34, 35, 36, 37] (by decide +kernel) (by decide +kernel)
set_option maxRecDepth 20000 in
theorem gX5_at_X5_finds : GoodIn wsX5_at (wsV RX5 66 RX5 yX5_finds wsX5_finds) := goodIn_app (goodIn_of _ (by decide +kernel)) ggX5_at_X5_finds
set_option maxRecDepth 20000 in
theorem ggX5_at_X5_in : GoodIn wsX5_at wsX5_in := goodIn_r _ [9] (by decide +kernel) (by decide +kernel)
set_option maxRecDepth 20000 in
theorem gX5_at_X5_in : GoodIn wsX5_at (va_wsS RX5 58 yX5_in wsX5_in) := goodIn_app (goodIn_of _ (by decide +kernel)) ggX5_at_X5_in
set_option maxRecDepth 20000 in
theorem ggX5_at_X5_tells : GoodIn wsX5_at wsX5_tells := goodIn_r _ [19, 20, 21, 22, 23, 24, 25, 26, 27, 28, 29, 30, 31, 32, 33, 34, 35, 36, 37] (by decide +kernel) (by decide +kernel)
set_option maxRecDepth 20000 in
theorem gX5_at_X5_tells : GoodIn wsX5_at (wsV RX5 78 RX5 yX5_tells wsX5_tells) := goodIn_app (goodIn_of _ (by decide +kernel)) ggX5_at_X5_tells
theorem dX5_at_0 : decode cX5_at 0 = .ok (.iload_n 1, 1) := by decide +kernel
theorem dX5_at_1 : decode cX5_at 1 = .ok (.invokestatic 62, 3) := by decide +kernel
theorem dX5_at_4 : decode cX5_at 4 = .ok (.ifCond .ne 5, 3) := by decide +kernel
theorem dX5_at_7 : decode cX5_at 7 = .ok (.iconst (-1), 1) := by decide +kernel
theorem dX5_at_8 : decode cX5_at 8 = .ok (.ireturn, 1) := by decide +kernel
theorem dX5_at_9 : decode cX5_at 9 = .ok (.aload_n 0, 1) := by decide +kernel
theorem dX5_at_10 : decode cX5_at 10 = .ok (.getfield 7, 3) := by decide +kernel
theorem dX5_at_13 : decode cX5_at 13 = .ok (.iload_n 1, 1) := by decide +kernel
theorem dX5_at_14 : decode cX5_at 14 = .ok (.iaload, 1) := by decide +kernel
theorem dX5_at_15 : decode cX5_at 15 = .ok (.ifCond .ge 9, 3) := by decide +kernel
theorem dX5_at_18 : decode cX5_at 18 = .ok (.aload_n 0, 1) := by decide +kernel
theorem dX5_at_19 : decode cX5_at 19 = .ok (.iconst 1, 1) := by decide +kernel
theorem dX5_at_20 : decode cX5_at 20 = .ok (.invokevirtual 66, 3) := by decide +kernel
theorem dX5_at_23 : decode cX5_at 23 = .ok (.ireturn, 1) := by decide +kernel
theorem dX5_at_24 : decode cX5_at 24 = .ok (.iload_n 2, 1) := by decide +kernel
theorem dX5_at_25 : decode cX5_at 25 = .ok (.iconst 0, 1) := by decide +kernel
theorem dX5_at_26 : decode cX5_at 26 = .ok (.aload_n 0, 1) := by decide +kernel
theorem dX5_at_27 : decode cX5_at 27 = .ok (.getfield 7, 3) := by decide +kernel
theorem dX5_at_30 : decode cX5_at 30 = .ok (.iload_n 1, 1) := by decide +kernel
theorem dX5_at_31 : decode cX5_at 31 = .ok (.iaload, 1) := by decide +kernel
theorem dX5_at_32 : decode cX5_at 32 = .ok (.iconst 1, 1) := by decide +kernel
theorem dX5_at_33 : decode cX5_at 33 = .ok (.isub, 1) := by decide +kernel
theorem dX5_at_34 : decode cX5_at 34 = .ok (.invokestatic 58, 3) := by decide +kernel
theorem dX5_at_37 : decode cX5_at 37 = .ok (.ifCond .eq 22, 3) := by decide +kernel
theorem dX5_at_40 : decode cX5_at 40 = .ok (.aload_n 0, 1) := by decide +kernel
theorem dX5_at_41 : decode cX5_at 41 = .ok (.iconst 1, 1) := by decide +kernel
theorem dX5_at_42 : decode cX5_at 42 = .ok (.aload_n 0, 1) := by decide +kernel
theorem dX5_at_43 : decode cX5_at 43 = .ok (.getfield 13, 3) := by decide +kernel
theorem dX5_at_46 : decode cX5_at 46 = .ok (.bipush 40, 2) := by decide +kernel
theorem dX5_at_48 : decode cX5_at 48 = .ok (.iload_n 1, 1) := by decide +kernel
theorem dX5_at_49 : decode cX5_at 49 = .ok (.imul, 1) := by decide +kernel
theorem dX5_at_50 : decode cX5_at 50 = .ok (.iload_n 2, 1) := by decide +kernel
theorem dX5_at_51 : decode cX5_at 51 = .ok (.iadd, 1) := by decide +kernel
theorem dX5_at_52 : decode cX5_at 52 = .ok (.iaload, 1) := by decide +kernel
theorem dX5_at_53 : decode cX5_at 53 = .ok (.invokevirtual 78, 3) := by decide +kernel
theorem dX5_at_56 : decode cX5_at 56 = .ok (.goto 8, 3) := by decide +kernel
theorem dX5_at_59 : decode cX5_at 59 = .ok (.aload_n 0, 1) := by decide +kernel
theorem dX5_at_60 : decode cX5_at 60 = .ok (.iconst 2, 1) := by decide +kernel
theorem dX5_at_61 : decode cX5_at 61 = .ok (.invokevirtual 66, 3) := by decide +kernel
theorem dX5_at_64 : decode cX5_at 64 = .ok (.ireturn, 1) := by decide +kernel
set_option maxRecDepth 20000 in
theorem ggX5_tear_X5_isRow : GoodIn wsX5_tear wsX5_isRow := goodIn_r _ [5, 6, 7, 4, 8] (by decide +kernel) (by decide +kernel)
set_option maxRecDepth 20000 in
theorem gX5_tear_X5_isRow : GoodIn wsX5_tear (va_wsS RX5 62 yX5_isRow wsX5_isRow) := goodIn_app (goodIn_of _ (by decide +kernel)) ggX5_tear_X5_isRow
set_option maxRecDepth 20000 in
theorem ggX5_tear_X5_finds : GoodIn wsX5_tear wsX5_finds := goodIn_r _ [12, 13, 14, 15, 16, 17, 18, 19, 20, 21, 22, 23, 24, 25, 26, 27, 28, 29, 30, 31] (by decide +kernel) (by decide +kernel)
set_option maxRecDepth 20000 in
theorem gX5_tear_X5_finds : GoodIn wsX5_tear (wsV RX5 66 RX5 yX5_finds wsX5_finds) := goodIn_app (goodIn_of _ (by decide +kernel)) ggX5_tear_X5_finds
theorem dX5_tear_0 : decode cX5_tear 0 = .ok (.iload_n 1, 1) := by decide +kernel
theorem dX5_tear_1 : decode cX5_tear 1 = .ok (.invokestatic 62, 3) := by decide +kernel
theorem dX5_tear_4 : decode cX5_tear 4 = .ok (.ifCond .ne 5, 3) := by decide +kernel
theorem dX5_tear_7 : decode cX5_tear 7 = .ok (.iconst (-1), 1) := by decide +kernel
theorem dX5_tear_8 : decode cX5_tear 8 = .ok (.ireturn, 1) := by decide +kernel
theorem dX5_tear_9 : decode cX5_tear 9 = .ok (.aload_n 0, 1) := by decide +kernel
theorem dX5_tear_10 : decode cX5_tear 10 = .ok (.getfield 7, 3) := by decide +kernel
theorem dX5_tear_13 : decode cX5_tear 13 = .ok (.iload_n 1, 1) := by decide +kernel
theorem dX5_tear_14 : decode cX5_tear 14 = .ok (.iaload, 1) := by decide +kernel
theorem dX5_tear_15 : decode cX5_tear 15 = .ok (.ifCond .ge 9, 3) := by decide +kernel
theorem dX5_tear_18 : decode cX5_tear 18 = .ok (.aload_n 0, 1) := by decide +kernel
theorem dX5_tear_19 : decode cX5_tear 19 = .ok (.iconst 1, 1) := by decide +kernel
theorem dX5_tear_20 : decode cX5_tear 20 = .ok (.invokevirtual 66, 3) := by decide +kernel
theorem dX5_tear_23 : decode cX5_tear 23 = .ok (.ireturn, 1) := by decide +kernel
theorem dX5_tear_24 : decode cX5_tear 24 = .ok (.aload_n 0, 1) := by decide +kernel
theorem dX5_tear_25 : decode cX5_tear 25 = .ok (.getfield 7, 3) := by decide +kernel
theorem dX5_tear_28 : decode cX5_tear 28 = .ok (.iload_n 1, 1) := by decide +kernel
theorem dX5_tear_29 : decode cX5_tear 29 = .ok (.iconst (-1), 1) := by decide +kernel
theorem dX5_tear_30 : decode cX5_tear 30 = .ok (.iastore, 1) := by decide +kernel
theorem dX5_tear_31 : decode cX5_tear 31 = .ok (.iconst 1, 1) := by decide +kernel
theorem dX5_tear_32 : decode cX5_tear 32 = .ok (.ireturn, 1) := by decide +kernel
set_option maxRecDepth 20000 in
theorem ggX5_copy_X5_isRow : GoodIn wsX5_copy wsX5_isRow := goodIn_r _ [7, 8, 9, 6, 10] (by decide +kernel) (by decide +kernel)
set_option maxRecDepth 20000 in
theorem gX5_copy_X5_isRow : GoodIn wsX5_copy (va_wsS RX5 62 yX5_isRow wsX5_isRow) := goodIn_app (goodIn_of _ (by decide +kernel)) ggX5_copy_X5_isRow
set_option maxRecDepth 20000 in
theorem ggX5_copy_X5_finds : GoodIn wsX5_copy wsX5_finds := goodIn_r _ [14, 15, 16, 17, 18, 19, 20, 21, 22, 23, 24, 25, 26, 27, 28, 29, 30, 31, 32, 33] (by decide +kernel) (by decide +kernel)
set_option maxRecDepth 20000 in
theorem gX5_copy_X5_finds : GoodIn wsX5_copy (wsV RX5 66 RX5 yX5_finds wsX5_finds) := goodIn_app (goodIn_of _ (by decide +kernel)) ggX5_copy_X5_finds
theorem dX5_copy_0 : decode cX5_copy 0 = .ok (.iload_n 1, 1) := by decide +kernel
theorem dX5_copy_1 : decode cX5_copy 1 = .ok (.invokestatic 62, 3) := by decide +kernel
theorem dX5_copy_4 : decode cX5_copy 4 = .ok (.ifCond .eq 10, 3) := by decide +kernel
theorem dX5_copy_7 : decode cX5_copy 7 = .ok (.iload_n 3, 1) := by decide +kernel
theorem dX5_copy_8 : decode cX5_copy 8 = .ok (.invokestatic 62, 3) := by decide +kernel
theorem dX5_copy_11 : decode cX5_copy 11 = .ok (.ifCond .ne 5, 3) := by decide +kernel
theorem dX5_copy_14 : decode cX5_copy 14 = .ok (.iconst (-1), 1) := by decide +kernel
theorem dX5_copy_15 : decode cX5_copy 15 = .ok (.ireturn, 1) := by decide +kernel
theorem dX5_copy_16 : decode cX5_copy 16 = .ok (.iload 5, 2) := by decide +kernel
theorem dX5_copy_18 : decode cX5_copy 18 = .ok (.ifCond .ge 9, 3) := by decide +kernel
theorem dX5_copy_21 : decode cX5_copy 21 = .ok (.aload_n 0, 1) := by decide +kernel
theorem dX5_copy_22 : decode cX5_copy 22 = .ok (.iconst 5, 1) := by decide +kernel
theorem dX5_copy_23 : decode cX5_copy 23 = .ok (.invokevirtual 66, 3) := by decide +kernel
theorem dX5_copy_26 : decode cX5_copy 26 = .ok (.ireturn, 1) := by decide +kernel
theorem dX5_copy_27 : decode cX5_copy 27 = .ok (.aload_n 0, 1) := by decide +kernel
theorem dX5_copy_28 : decode cX5_copy 28 = .ok (.getfield 7, 3) := by decide +kernel
theorem dX5_copy_31 : decode cX5_copy 31 = .ok (.iload_n 1, 1) := by decide +kernel
theorem dX5_copy_32 : decode cX5_copy 32 = .ok (.iaload, 1) := by decide +kernel
theorem dX5_copy_33 : decode cX5_copy 33 = .ok (.ifCond .lt 12, 3) := by decide +kernel
theorem dX5_copy_36 : decode cX5_copy 36 = .ok (.aload_n 0, 1) := by decide +kernel
theorem dX5_copy_37 : decode cX5_copy 37 = .ok (.getfield 7, 3) := by decide +kernel
theorem dX5_copy_40 : decode cX5_copy 40 = .ok (.iload_n 3, 1) := by decide +kernel
theorem dX5_copy_41 : decode cX5_copy 41 = .ok (.iaload, 1) := by decide +kernel
theorem dX5_copy_42 : decode cX5_copy 42 = .ok (.ifCond .ge 9, 3) := by decide +kernel
theorem dX5_copy_45 : decode cX5_copy 45 = .ok (.aload_n 0, 1) := by decide +kernel
theorem dX5_copy_46 : decode cX5_copy 46 = .ok (.iconst 1, 1) := by decide +kernel
theorem dX5_copy_47 : decode cX5_copy 47 = .ok (.invokevirtual 66, 3) := by decide +kernel
theorem dX5_copy_50 : decode cX5_copy 50 = .ok (.ireturn, 1) := by decide +kernel
theorem dX5_copy_51 : decode cX5_copy 51 = .ok (.iload_n 2, 1) := by decide +kernel
theorem dX5_copy_52 : decode cX5_copy 52 = .ok (.ifCond .lt 43, 3) := by decide +kernel
theorem dX5_copy_55 : decode cX5_copy 55 = .ok (.iload 4, 2) := by decide +kernel
theorem dX5_copy_57 : decode cX5_copy 57 = .ok (.ifCond .lt 38, 3) := by decide +kernel
theorem dX5_copy_60 : decode cX5_copy 60 = .ok (.iload_n 2, 1) := by decide +kernel
theorem dX5_copy_61 : decode cX5_copy 61 = .ok (.i2l, 1) := by decide +kernel
theorem dX5_copy_62 : decode cX5_copy 62 = .ok (.iload 5, 2) := by decide +kernel
theorem dX5_copy_64 : decode cX5_copy 64 = .ok (.i2l, 1) := by decide +kernel
theorem dX5_copy_65 : decode cX5_copy 65 = .ok (.ladd, 1) := by decide +kernel
theorem dX5_copy_66 : decode cX5_copy 66 = .ok (.aload_n 0, 1) := by decide +kernel
theorem dX5_copy_67 : decode cX5_copy 67 = .ok (.getfield 7, 3) := by decide +kernel
theorem dX5_copy_70 : decode cX5_copy 70 = .ok (.iload_n 1, 1) := by decide +kernel
theorem dX5_copy_71 : decode cX5_copy 71 = .ok (.iaload, 1) := by decide +kernel
theorem dX5_copy_72 : decode cX5_copy 72 = .ok (.i2l, 1) := by decide +kernel
theorem dX5_copy_73 : decode cX5_copy 73 = .ok (.lcmp, 1) := by decide +kernel
theorem dX5_copy_74 : decode cX5_copy 74 = .ok (.ifCond .gt 21, 3) := by decide +kernel
theorem dX5_copy_77 : decode cX5_copy 77 = .ok (.iload 4, 2) := by decide +kernel
theorem dX5_copy_79 : decode cX5_copy 79 = .ok (.i2l, 1) := by decide +kernel
theorem dX5_copy_80 : decode cX5_copy 80 = .ok (.iload 5, 2) := by decide +kernel
theorem dX5_copy_82 : decode cX5_copy 82 = .ok (.i2l, 1) := by decide +kernel
theorem dX5_copy_83 : decode cX5_copy 83 = .ok (.ladd, 1) := by decide +kernel
theorem dX5_copy_84 : decode cX5_copy 84 = .ok (.aload_n 0, 1) := by decide +kernel
theorem dX5_copy_85 : decode cX5_copy 85 = .ok (.getfield 7, 3) := by decide +kernel
theorem dX5_copy_88 : decode cX5_copy 88 = .ok (.iload_n 3, 1) := by decide +kernel
theorem dX5_copy_89 : decode cX5_copy 89 = .ok (.iaload, 1) := by decide +kernel
theorem dX5_copy_90 : decode cX5_copy 90 = .ok (.i2l, 1) := by decide +kernel
theorem dX5_copy_91 : decode cX5_copy 91 = .ok (.lcmp, 1) := by decide +kernel
theorem dX5_copy_92 : decode cX5_copy 92 = .ok (.ifCond .le 9, 3) := by decide +kernel
theorem dX5_copy_95 : decode cX5_copy 95 = .ok (.aload_n 0, 1) := by decide +kernel
theorem dX5_copy_96 : decode cX5_copy 96 = .ok (.iconst 2, 1) := by decide +kernel
theorem dX5_copy_97 : decode cX5_copy 97 = .ok (.invokevirtual 66, 3) := by decide +kernel
theorem dX5_copy_100 : decode cX5_copy 100 = .ok (.ireturn, 1) := by decide +kernel
theorem dX5_copy_101 : decode cX5_copy 101 = .ok (.iconst 0, 1) := by decide +kernel
theorem dX5_copy_102 : decode cX5_copy 102 = .ok (.istore 6, 2) := by decide +kernel
theorem dX5_copy_104 : decode cX5_copy 104 = .ok (.iload 6, 2) := by decide +kernel
theorem dX5_copy_106 : decode cX5_copy 106 = .ok (.iload 5, 2) := by decide +kernel
theorem dX5_copy_108 : decode cX5_copy 108 = .ok (.if_icmp .ge 30, 3) := by decide +kernel
theorem dX5_copy_111 : decode cX5_copy 111 = .ok (.aload_n 0, 1) := by decide +kernel
theorem dX5_copy_112 : decode cX5_copy 112 = .ok (.getfield 16, 3) := by decide +kernel
theorem dX5_copy_115 : decode cX5_copy 115 = .ok (.iload 6, 2) := by decide +kernel
theorem dX5_copy_117 : decode cX5_copy 117 = .ok (.aload_n 0, 1) := by decide +kernel
theorem dX5_copy_118 : decode cX5_copy 118 = .ok (.getfield 13, 3) := by decide +kernel
theorem dX5_copy_121 : decode cX5_copy 121 = .ok (.bipush 40, 2) := by decide +kernel
theorem dX5_copy_123 : decode cX5_copy 123 = .ok (.iload_n 1, 1) := by decide +kernel
theorem dX5_copy_124 : decode cX5_copy 124 = .ok (.imul, 1) := by decide +kernel
theorem dX5_copy_125 : decode cX5_copy 125 = .ok (.iload_n 2, 1) := by decide +kernel
theorem dX5_copy_126 : decode cX5_copy 126 = .ok (.iadd, 1) := by decide +kernel
theorem dX5_copy_127 : decode cX5_copy 127 = .ok (.iload 6, 2) := by decide +kernel
theorem dX5_copy_129 : decode cX5_copy 129 = .ok (.iadd, 1) := by decide +kernel
theorem dX5_copy_130 : decode cX5_copy 130 = .ok (.iaload, 1) := by decide +kernel
theorem dX5_copy_131 : decode cX5_copy 131 = .ok (.iastore, 1) := by decide +kernel
theorem dX5_copy_132 : decode cX5_copy 132 = .ok (.iinc 6 1, 3) := by decide +kernel
theorem dX5_copy_135 : decode cX5_copy 135 = .ok (.goto (-31), 3) := by decide +kernel
theorem dX5_copy_138 : decode cX5_copy 138 = .ok (.iconst 0, 1) := by decide +kernel
theorem dX5_copy_139 : decode cX5_copy 139 = .ok (.istore 6, 2) := by decide +kernel
theorem dX5_copy_141 : decode cX5_copy 141 = .ok (.iload 6, 2) := by decide +kernel
theorem dX5_copy_143 : decode cX5_copy 143 = .ok (.iload 5, 2) := by decide +kernel
theorem dX5_copy_145 : decode cX5_copy 145 = .ok (.if_icmp .ge 31, 3) := by decide +kernel
theorem dX5_copy_148 : decode cX5_copy 148 = .ok (.aload_n 0, 1) := by decide +kernel
theorem dX5_copy_149 : decode cX5_copy 149 = .ok (.getfield 13, 3) := by decide +kernel
theorem dX5_copy_152 : decode cX5_copy 152 = .ok (.bipush 40, 2) := by decide +kernel
theorem dX5_copy_154 : decode cX5_copy 154 = .ok (.iload_n 3, 1) := by decide +kernel
theorem dX5_copy_155 : decode cX5_copy 155 = .ok (.imul, 1) := by decide +kernel
theorem dX5_copy_156 : decode cX5_copy 156 = .ok (.iload 4, 2) := by decide +kernel
theorem dX5_copy_158 : decode cX5_copy 158 = .ok (.iadd, 1) := by decide +kernel
theorem dX5_copy_159 : decode cX5_copy 159 = .ok (.iload 6, 2) := by decide +kernel
theorem dX5_copy_161 : decode cX5_copy 161 = .ok (.iadd, 1) := by decide +kernel
theorem dX5_copy_162 : decode cX5_copy 162 = .ok (.aload_n 0, 1) := by decide +kernel
theorem dX5_copy_163 : decode cX5_copy 163 = .ok (.getfield 16, 3) := by decide +kernel
theorem dX5_copy_166 : decode cX5_copy 166 = .ok (.iload 6, 2) := by decide +kernel
theorem dX5_copy_168 : decode cX5_copy 168 = .ok (.iaload, 1) := by decide +kernel
theorem dX5_copy_169 : decode cX5_copy 169 = .ok (.iastore, 1) := by decide +kernel
theorem dX5_copy_170 : decode cX5_copy 170 = .ok (.iinc 6 1, 3) := by decide +kernel
theorem dX5_copy_173 : decode cX5_copy 173 = .ok (.goto (-32), 3) := by decide +kernel
theorem dX5_copy_176 : decode cX5_copy 176 = .ok (.iconst 1, 1) := by decide +kernel
theorem dX5_copy_177 : decode cX5_copy 177 = .ok (.ireturn, 1) := by decide +kernel
set_option maxRecDepth 20000 in
theorem ggX5_mean_X5_isRow : GoodIn wsX5_mean wsX5_isRow := goodIn_r _ [6, 7, 8, 5, 9] (by decide +kernel) (by decide +kernel)
set_option maxRecDepth 20000 in
theorem gX5_mean_X5_isRow : GoodIn wsX5_mean (va_wsS RX5 62 yX5_isRow wsX5_isRow) := goodIn_app (goodIn_of _ (by decide +kernel)) ggX5_mean_X5_isRow
set_option maxRecDepth 20000 in
theorem ggX5_mean_X5_finds : GoodIn wsX5_mean wsX5_finds := goodIn_r _ [13, 14, 15, 21, 22, 23, 24, 25, 26, 27, 28, 29, 30, 31, 32, 33, 34, 35, 36, 37] (by decide +kernel) (by decide +kernel)
set_option maxRecDepth 20000 in
theorem gX5_mean_X5_finds : GoodIn wsX5_mean (wsV RX5 66 RX5 yX5_finds wsX5_finds) := goodIn_app (goodIn_of _ (by decide +kernel)) ggX5_mean_X5_finds
set_option maxRecDepth 20000 in
theorem ggX5_mean_X5_tells : GoodIn wsX5_mean wsX5_tells := goodIn_r _ [19, 20, 21, 22, 23, 24, 25, 26, 27, 28, 29, 30, 31, 32, 33, 34, 35, 36, 37] (by decide +kernel) (by decide +kernel)
set_option maxRecDepth 20000 in
theorem gX5_mean_X5_tells : GoodIn wsX5_mean (wsV RX5 78 RX5 yX5_tells wsX5_tells) := goodIn_app (goodIn_of _ (by decide +kernel)) ggX5_mean_X5_tells
theorem dX5_mean_0 : decode cX5_mean 0 = .ok (.iload_n 1, 1) := by decide +kernel
theorem dX5_mean_1 : decode cX5_mean 1 = .ok (.invokestatic 62, 3) := by decide +kernel
theorem dX5_mean_4 : decode cX5_mean 4 = .ok (.ifCond .ne 5, 3) := by decide +kernel
theorem dX5_mean_7 : decode cX5_mean 7 = .ok (.iconst (-1), 1) := by decide +kernel
theorem dX5_mean_8 : decode cX5_mean 8 = .ok (.ireturn, 1) := by decide +kernel
theorem dX5_mean_9 : decode cX5_mean 9 = .ok (.aload_n 0, 1) := by decide +kernel
theorem dX5_mean_10 : decode cX5_mean 10 = .ok (.getfield 7, 3) := by decide +kernel
theorem dX5_mean_13 : decode cX5_mean 13 = .ok (.iload_n 1, 1) := by decide +kernel
theorem dX5_mean_14 : decode cX5_mean 14 = .ok (.iaload, 1) := by decide +kernel
theorem dX5_mean_15 : decode cX5_mean 15 = .ok (.ifCond .ge 9, 3) := by decide +kernel
theorem dX5_mean_18 : decode cX5_mean 18 = .ok (.aload_n 0, 1) := by decide +kernel
theorem dX5_mean_19 : decode cX5_mean 19 = .ok (.iconst 1, 1) := by decide +kernel
theorem dX5_mean_20 : decode cX5_mean 20 = .ok (.invokevirtual 66, 3) := by decide +kernel
theorem dX5_mean_23 : decode cX5_mean 23 = .ok (.ireturn, 1) := by decide +kernel
theorem dX5_mean_24 : decode cX5_mean 24 = .ok (.aload_n 0, 1) := by decide +kernel
theorem dX5_mean_25 : decode cX5_mean 25 = .ok (.getfield 7, 3) := by decide +kernel
theorem dX5_mean_28 : decode cX5_mean 28 = .ok (.iload_n 1, 1) := by decide +kernel
theorem dX5_mean_29 : decode cX5_mean 29 = .ok (.iaload, 1) := by decide +kernel
theorem dX5_mean_30 : decode cX5_mean 30 = .ok (.ifCond .ne 9, 3) := by decide +kernel
theorem dX5_mean_33 : decode cX5_mean 33 = .ok (.aload_n 0, 1) := by decide +kernel
theorem dX5_mean_34 : decode cX5_mean 34 = .ok (.iconst 4, 1) := by decide +kernel
theorem dX5_mean_35 : decode cX5_mean 35 = .ok (.invokevirtual 66, 3) := by decide +kernel
theorem dX5_mean_38 : decode cX5_mean 38 = .ok (.ireturn, 1) := by decide +kernel
theorem dX5_mean_39 : decode cX5_mean 39 = .ok (.lconst 0, 1) := by decide +kernel
theorem dX5_mean_40 : decode cX5_mean 40 = .ok (.lstore_n 2, 1) := by decide +kernel
theorem dX5_mean_41 : decode cX5_mean 41 = .ok (.iconst 0, 1) := by decide +kernel
theorem dX5_mean_42 : decode cX5_mean 42 = .ok (.istore 4, 2) := by decide +kernel
theorem dX5_mean_44 : decode cX5_mean 44 = .ok (.iload 4, 2) := by decide +kernel
theorem dX5_mean_46 : decode cX5_mean 46 = .ok (.aload_n 0, 1) := by decide +kernel
theorem dX5_mean_47 : decode cX5_mean 47 = .ok (.getfield 7, 3) := by decide +kernel
theorem dX5_mean_50 : decode cX5_mean 50 = .ok (.iload_n 1, 1) := by decide +kernel
theorem dX5_mean_51 : decode cX5_mean 51 = .ok (.iaload, 1) := by decide +kernel
theorem dX5_mean_52 : decode cX5_mean 52 = .ok (.if_icmp .ge 25, 3) := by decide +kernel
theorem dX5_mean_55 : decode cX5_mean 55 = .ok (.lload_n 2, 1) := by decide +kernel
theorem dX5_mean_56 : decode cX5_mean 56 = .ok (.aload_n 0, 1) := by decide +kernel
theorem dX5_mean_57 : decode cX5_mean 57 = .ok (.getfield 13, 3) := by decide +kernel
theorem dX5_mean_60 : decode cX5_mean 60 = .ok (.bipush 40, 2) := by decide +kernel
theorem dX5_mean_62 : decode cX5_mean 62 = .ok (.iload_n 1, 1) := by decide +kernel
theorem dX5_mean_63 : decode cX5_mean 63 = .ok (.imul, 1) := by decide +kernel
theorem dX5_mean_64 : decode cX5_mean 64 = .ok (.iload 4, 2) := by decide +kernel
theorem dX5_mean_66 : decode cX5_mean 66 = .ok (.iadd, 1) := by decide +kernel
theorem dX5_mean_67 : decode cX5_mean 67 = .ok (.iaload, 1) := by decide +kernel
theorem dX5_mean_68 : decode cX5_mean 68 = .ok (.i2l, 1) := by decide +kernel
theorem dX5_mean_69 : decode cX5_mean 69 = .ok (.ladd, 1) := by decide +kernel
theorem dX5_mean_70 : decode cX5_mean 70 = .ok (.lstore_n 2, 1) := by decide +kernel
theorem dX5_mean_71 : decode cX5_mean 71 = .ok (.iinc 4 1, 3) := by decide +kernel
theorem dX5_mean_74 : decode cX5_mean 74 = .ok (.goto (-30), 3) := by decide +kernel
theorem dX5_mean_77 : decode cX5_mean 77 = .ok (.aload_n 0, 1) := by decide +kernel
theorem dX5_mean_78 : decode cX5_mean 78 = .ok (.iconst 1, 1) := by decide +kernel
theorem dX5_mean_79 : decode cX5_mean 79 = .ok (.lload_n 2, 1) := by decide +kernel
theorem dX5_mean_80 : decode cX5_mean 80 = .ok (.aload_n 0, 1) := by decide +kernel
theorem dX5_mean_81 : decode cX5_mean 81 = .ok (.getfield 7, 3) := by decide +kernel
theorem dX5_mean_84 : decode cX5_mean 84 = .ok (.iload_n 1, 1) := by decide +kernel
theorem dX5_mean_85 : decode cX5_mean 85 = .ok (.iaload, 1) := by decide +kernel
theorem dX5_mean_86 : decode cX5_mean 86 = .ok (.i2l, 1) := by decide +kernel
theorem dX5_mean_87 : decode cX5_mean 87 = .ok (.ldiv, 1) := by decide +kernel
theorem dX5_mean_88 : decode cX5_mean 88 = .ok (.l2i, 1) := by decide +kernel
theorem dX5_mean_89 : decode cX5_mean 89 = .ok (.invokevirtual 78, 3) := by decide +kernel
theorem dX5_mean_92 : decode cX5_mean 92 = .ok (.ireturn, 1) := by decide +kernel
set_option maxRecDepth 20000 in
theorem ggX5_text_X5_isText : GoodIn wsX5_text wsX5_isText := goodIn_r _ [6, 7, 8, 5, 9] (by decide +kernel) (by decide +kernel)
set_option maxRecDepth 20000 in
theorem gX5_text_X5_isText : GoodIn wsX5_text (va_wsS RX5 81 yX5_isText wsX5_isText) := goodIn_app (goodIn_of _ (by decide +kernel)) ggX5_text_X5_isText
set_option maxRecDepth 20000 in
theorem ggX5_text_X5_finds : GoodIn wsX5_text wsX5_finds := goodIn_r _ [13, 14, 15, 16, 17, 18, 19, 20, 21, 22, 23, 24, 25, 26, 27, 28, 29, 30, 31, 32] (by decide +kernel) (by decide +kernel)
set_option maxRecDepth 20000 in
theorem gX5_text_X5_finds : GoodIn wsX5_text (wsV RX5 66 RX5 yX5_finds wsX5_finds) := goodIn_app (goodIn_of _ (by decide +kernel)) ggX5_text_X5_finds
theorem dX5_text_0 : decode cX5_text 0 = .ok (.iload_n 1, 1) := by decide +kernel
theorem dX5_text_1 : decode cX5_text 1 = .ok (.invokestatic 81, 3) := by decide +kernel
theorem dX5_text_4 : decode cX5_text 4 = .ok (.ifCond .eq 9, 3) := by decide +kernel
theorem dX5_text_7 : decode cX5_text 7 = .ok (.iload_n 2, 1) := by decide +kernel
theorem dX5_text_8 : decode cX5_text 8 = .ok (.bipush 60, 2) := by decide +kernel
theorem dX5_text_10 : decode cX5_text 10 = .ok (.if_icmp .le 5, 3) := by decide +kernel
theorem dX5_text_13 : decode cX5_text 13 = .ok (.iconst (-1), 1) := by decide +kernel
theorem dX5_text_14 : decode cX5_text 14 = .ok (.ireturn, 1) := by decide +kernel
theorem dX5_text_15 : decode cX5_text 15 = .ok (.iload_n 2, 1) := by decide +kernel
theorem dX5_text_16 : decode cX5_text 16 = .ok (.ifCond .ge 9, 3) := by decide +kernel
theorem dX5_text_19 : decode cX5_text 19 = .ok (.aload_n 0, 1) := by decide +kernel
theorem dX5_text_20 : decode cX5_text 20 = .ok (.iconst 5, 1) := by decide +kernel
theorem dX5_text_21 : decode cX5_text 21 = .ok (.invokevirtual 66, 3) := by decide +kernel
theorem dX5_text_24 : decode cX5_text 24 = .ok (.ireturn, 1) := by decide +kernel
theorem dX5_text_25 : decode cX5_text 25 = .ok (.aload_n 0, 1) := by decide +kernel
theorem dX5_text_26 : decode cX5_text 26 = .ok (.getfield 19, 3) := by decide +kernel
theorem dX5_text_29 : decode cX5_text 29 = .ok (.iload_n 1, 1) := by decide +kernel
theorem dX5_text_30 : decode cX5_text 30 = .ok (.iload_n 2, 1) := by decide +kernel
theorem dX5_text_31 : decode cX5_text 31 = .ok (.iastore, 1) := by decide +kernel
theorem dX5_text_32 : decode cX5_text 32 = .ok (.iconst 0, 1) := by decide +kernel
theorem dX5_text_33 : decode cX5_text 33 = .ok (.istore_n 3, 1) := by decide +kernel
theorem dX5_text_34 : decode cX5_text 34 = .ok (.iload_n 3, 1) := by decide +kernel
theorem dX5_text_35 : decode cX5_text 35 = .ok (.bipush 60, 2) := by decide +kernel
theorem dX5_text_37 : decode cX5_text 37 = .ok (.if_icmp .ge 22, 3) := by decide +kernel
theorem dX5_text_40 : decode cX5_text 40 = .ok (.aload_n 0, 1) := by decide +kernel
theorem dX5_text_41 : decode cX5_text 41 = .ok (.getfield 22, 3) := by decide +kernel
theorem dX5_text_44 : decode cX5_text 44 = .ok (.bipush 60, 2) := by decide +kernel
theorem dX5_text_46 : decode cX5_text 46 = .ok (.iload_n 1, 1) := by decide +kernel
theorem dX5_text_47 : decode cX5_text 47 = .ok (.imul, 1) := by decide +kernel
theorem dX5_text_48 : decode cX5_text 48 = .ok (.iload_n 3, 1) := by decide +kernel
theorem dX5_text_49 : decode cX5_text 49 = .ok (.iadd, 1) := by decide +kernel
theorem dX5_text_50 : decode cX5_text 50 = .ok (.bipush 32, 2) := by decide +kernel
theorem dX5_text_52 : decode cX5_text 52 = .ok (.iastore, 1) := by decide +kernel
theorem dX5_text_53 : decode cX5_text 53 = .ok (.iinc 3 1, 3) := by decide +kernel
theorem dX5_text_56 : decode cX5_text 56 = .ok (.goto (-22), 3) := by decide +kernel
theorem dX5_text_59 : decode cX5_text 59 = .ok (.iload_n 2, 1) := by decide +kernel
theorem dX5_text_60 : decode cX5_text 60 = .ok (.ireturn, 1) := by decide +kernel
set_option maxRecDepth 20000 in
theorem ggX5_put_X5_isText : GoodIn wsX5_put wsX5_isText := goodIn_r _ [6, 7, 8, 5, 9] (by decide +kernel) (by decide +kernel)
set_option maxRecDepth 20000 in
theorem gX5_put_X5_isText : GoodIn wsX5_put (va_wsS RX5 81 yX5_isText wsX5_isText) := goodIn_app (goodIn_of _ (by decide +kernel)) ggX5_put_X5_isText
set_option maxRecDepth 20000 in
theorem ggX5_put_X5_finds : GoodIn wsX5_put wsX5_finds := goodIn_r _ [13, 14, 15, 16, 17, 18, 19, 20, 21, 22, 23, 24, 25, 26, 27, 28, 29, 30, 31, 32] (by decide +kernel) (by decide +kernel)
set_option maxRecDepth 20000 in
theorem gX5_put_X5_finds : GoodIn wsX5_put (wsV RX5 66 RX5 yX5_finds wsX5_finds) := goodIn_app (goodIn_of _ (by decide +kernel)) ggX5_put_X5_finds
set_option maxRecDepth 20000 in
theorem ggX5_put_X5_in : GoodIn wsX5_put wsX5_in := goodIn_r _ [9] (by decide +kernel) (by decide +kernel)
set_option maxRecDepth 20000 in
theorem gX5_put_X5_in : GoodIn wsX5_put (va_wsS RX5 58 yX5_in wsX5_in) := goodIn_app (goodIn_of _ (by decide +kernel)) ggX5_put_X5_in
theorem dX5_put_0 : decode cX5_put 0 = .ok (.iload_n 1, 1) := by decide +kernel
theorem dX5_put_1 : decode cX5_put 1 = .ok (.invokestatic 81, 3) := by decide +kernel
theorem dX5_put_4 : decode cX5_put 4 = .ok (.ifCond .ne 5, 3) := by decide +kernel
theorem dX5_put_7 : decode cX5_put 7 = .ok (.iconst (-1), 1) := by decide +kernel
theorem dX5_put_8 : decode cX5_put 8 = .ok (.ireturn, 1) := by decide +kernel
theorem dX5_put_9 : decode cX5_put 9 = .ok (.aload_n 0, 1) := by decide +kernel
theorem dX5_put_10 : decode cX5_put 10 = .ok (.getfield 19, 3) := by decide +kernel
theorem dX5_put_13 : decode cX5_put 13 = .ok (.iload_n 1, 1) := by decide +kernel
theorem dX5_put_14 : decode cX5_put 14 = .ok (.iaload, 1) := by decide +kernel
theorem dX5_put_15 : decode cX5_put 15 = .ok (.ifCond .ge 9, 3) := by decide +kernel
theorem dX5_put_18 : decode cX5_put 18 = .ok (.aload_n 0, 1) := by decide +kernel
