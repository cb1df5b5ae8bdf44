theorem dX0_init_0 : decode cX0_init 0 = .ok (.aload_n 0, 1) := by decide +kernel
theorem dX0_init_1 : decode cX0_init 1 = .ok (.invokespecial 3, 3) := by decide +kernel
theorem dX0_init_4 : decode cX0_init 4 = .ok (.return_, 1) := by decide +kernel
theorem dX0_isOf_0 : decode cX0_isOf 0 = .ok (.aload_n 0, 1) := by decide +kernel
theorem dX0_isOf_1 : decode cX0_isOf 1 = .ok (.getfield 9, 3) := by decide +kernel
theorem dX0_isOf_4 : decode cX0_isOf 4 = .ok (.istore_n 2, 1) := by decide +kernel
theorem dX0_isOf_5 : decode cX0_isOf 5 = .ok (.iconst 0, 1) := by decide +kernel
theorem dX0_isOf_6 : decode cX0_isOf 6 = .ok (.istore_n 3, 1) := by decide +kernel
theorem dX0_isOf_7 : decode cX0_isOf 7 = .ok (.iload_n 3, 1) := by decide +kernel
theorem dX0_isOf_8 : decode cX0_isOf 8 = .ok (.getstatic 15, 3) := by decide +kernel
theorem dX0_isOf_11 : decode cX0_isOf 11 = .ok (.arraylength, 1) := by decide +kernel
theorem dX0_isOf_12 : decode cX0_isOf 12 = .ok (.if_icmp .ge 34, 3) := by decide +kernel
theorem dX0_isOf_15 : decode cX0_isOf 15 = .ok (.iload_n 2, 1) := by decide +kernel
theorem dX0_isOf_16 : decode cX0_isOf 16 = .ok (.ifCond .lt 30, 3) := by decide +kernel
theorem dX0_isOf_19 : decode cX0_isOf 19 = .ok (.iload_n 2, 1) := by decide +kernel
theorem dX0_isOf_20 : decode cX0_isOf 20 = .ok (.getstatic 15, 3) := by decide +kernel
theorem dX0_isOf_23 : decode cX0_isOf 23 = .ok (.arraylength, 1) := by decide +kernel
theorem dX0_isOf_24 : decode cX0_isOf 24 = .ok (.if_icmp .ge 22, 3) := by decide +kernel
theorem dX0_isOf_27 : decode cX0_isOf 27 = .ok (.iload_n 2, 1) := by decide +kernel
theorem dX0_isOf_28 : decode cX0_isOf 28 = .ok (.iload_n 1, 1) := by decide +kernel
theorem dX0_isOf_29 : decode cX0_isOf 29 = .ok (.if_icmp .ne 5, 3) := by decide +kernel
theorem dX0_isOf_32 : decode cX0_isOf 32 = .ok (.iconst 1, 1) := by decide +kernel
theorem dX0_isOf_33 : decode cX0_isOf 33 = .ok (.ireturn, 1) := by decide +kernel
theorem dX0_isOf_34 : decode cX0_isOf 34 = .ok (.getstatic 15, 3) := by decide +kernel
theorem dX0_isOf_37 : decode cX0_isOf 37 = .ok (.iload_n 2, 1) := by decide +kernel
theorem dX0_isOf_38 : decode cX0_isOf 38 = .ok (.iaload, 1) := by decide +kernel
theorem dX0_isOf_39 : decode cX0_isOf 39 = .ok (.istore_n 2, 1) := by decide +kernel
theorem dX0_isOf_40 : decode cX0_isOf 40 = .ok (.iinc 3 1, 3) := by decide +kernel
theorem dX0_isOf_43 : decode cX0_isOf 43 = .ok (.goto (-36), 3) := by decide +kernel
theorem dX0_isOf_46 : decode cX0_isOf 46 = .ok (.iconst 0, 1) := by decide +kernel
theorem dX0_isOf_47 : decode cX0_isOf 47 = .ok (.ireturn, 1) := by decide +kernel
set_option maxRecDepth 20000 in
theorem ggX0_become_X0_isOf : GoodIn wsX0_become wsX0_isOf := goodIn_r _ [10, 1, 11, 12, 13, 14, 15] (by decide +kernel) (by decide +kernel)
set_option maxRecDepth 20000 in
theorem gX0_become_X0_isOf : GoodIn wsX0_become (wsV RX0 25 RX0 yX0_isOf wsX0_isOf) := goodIn_app (goodIn_of _ (by decide +kernel)) ggX0_become_X0_isOf
theorem dX0_become_0 : decode cX0_become 0 = .ok (.aload_n 0, 1) := by decide +kernel
theorem dX0_become_1 : decode cX0_become 1 = .ok (.iload_n 1, 1) := by decide +kernel
theorem dX0_become_2 : decode cX0_become 2 = .ok (.putfield 9, 3) := by decide +kernel
theorem dX0_become_5 : decode cX0_become 5 = .ok (.aload_n 0, 1) := by decide +kernel
theorem dX0_become_6 : decode cX0_become 6 = .ok (.iload_n 2, 1) := by decide +kernel
theorem dX0_become_7 : decode cX0_become 7 = .ok (.putfield 19, 3) := by decide +kernel
theorem dX0_become_10 : decode cX0_become 10 = .ok (.aload_n 0, 1) := by decide +kernel
theorem dX0_become_11 : decode cX0_become 11 = .ok (.iload_n 3, 1) := by decide +kernel
theorem dX0_become_12 : decode cX0_become 12 = .ok (.putfield 22, 3) := by decide +kernel
theorem dX0_become_15 : decode cX0_become 15 = .ok (.aload_n 0, 1) := by decide +kernel
theorem dX0_become_16 : decode cX0_become 16 = .ok (.aload_n 0, 1) := by decide +kernel
theorem dX0_become_17 : decode cX0_become 17 = .ok (.iconst 1, 1) := by decide +kernel
theorem dX0_become_18 : decode cX0_become 18 = .ok (.invokevirtual 25, 3) := by decide +kernel
theorem dX0_become_21 : decode cX0_become 21 = .ok (.ifCond .eq 7, 3) := by decide +kernel
theorem dX0_become_24 : decode cX0_become 24 = .ok (.iconst 1, 1) := by decide +kernel
theorem dX0_become_25 : decode cX0_become 25 = .ok (.goto 16, 3) := by decide +kernel
theorem dX0_become_28 : decode cX0_become 28 = .ok (.aload_n 0, 1) := by decide +kernel
theorem dX0_become_29 : decode cX0_become 29 = .ok (.iconst 3, 1) := by decide +kernel
theorem dX0_become_30 : decode cX0_become 30 = .ok (.invokevirtual 25, 3) := by decide +kernel
theorem dX0_become_33 : decode cX0_become 33 = .ok (.ifCond .eq 7, 3) := by decide +kernel
theorem dX0_become_36 : decode cX0_become 36 = .ok (.iconst 4, 1) := by decide +kernel
theorem dX0_become_37 : decode cX0_become 37 = .ok (.goto 4, 3) := by decide +kernel
theorem dX0_become_40 : decode cX0_become 40 = .ok (.iconst 2, 1) := by decide +kernel
theorem dX0_become_41 : decode cX0_become 41 = .ok (.aload_n 0, 1) := by decide +kernel
theorem dX0_become_42 : decode cX0_become 42 = .ok (.getfield 19, 3) := by decide +kernel
theorem dX0_become_45 : decode cX0_become 45 = .ok (.imul, 1) := by decide +kernel
theorem dX0_become_46 : decode cX0_become 46 = .ok (.putfield 29, 3) := by decide +kernel
theorem dX0_become_49 : decode cX0_become 49 = .ok (.aload_n 0, 1) := by decide +kernel
theorem dX0_become_50 : decode cX0_become 50 = .ok (.aload_n 0, 1) := by decide +kernel
theorem dX0_become_51 : decode cX0_become 51 = .ok (.iconst 1, 1) := by decide +kernel
theorem dX0_become_52 : decode cX0_become 52 = .ok (.invokevirtual 25, 3) := by decide +kernel
theorem dX0_become_55 : decode cX0_become 55 = .ok (.ifCond .eq 7, 3) := by decide +kernel
theorem dX0_become_58 : decode cX0_become 58 = .ok (.iconst 1, 1) := by decide +kernel
theorem dX0_become_59 : decode cX0_become 59 = .ok (.goto 4, 3) := by decide +kernel
theorem dX0_become_62 : decode cX0_become 62 = .ok (.iconst 2, 1) := by decide +kernel
theorem dX0_become_63 : decode cX0_become 63 = .ok (.aload_n 0, 1) := by decide +kernel
theorem dX0_become_64 : decode cX0_become 64 = .ok (.getfield 19, 3) := by decide +kernel
theorem dX0_become_67 : decode cX0_become 67 = .ok (.imul, 1) := by decide +kernel
theorem dX0_become_68 : decode cX0_become 68 = .ok (.putfield 32, 3) := by decide +kernel
theorem dX0_become_71 : decode cX0_become 71 = .ok (.aload_n 0, 1) := by decide +kernel
theorem dX0_become_72 : decode cX0_become 72 = .ok (.iconst 2, 1) := by decide +kernel
theorem dX0_become_73 : decode cX0_become 73 = .ok (.invokevirtual 25, 3) := by decide +kernel
theorem dX0_become_76 : decode cX0_become 76 = .ok (.ifCond .eq 13, 3) := by decide +kernel
theorem dX0_become_79 : decode cX0_become 79 = .ok (.aload_n 0, 1) := by decide +kernel
theorem dX0_become_80 : decode cX0_become 80 = .ok (.dup, 1) := by decide +kernel
theorem dX0_become_81 : decode cX0_become 81 = .ok (.getfield 32, 3) := by decide +kernel
theorem dX0_become_84 : decode cX0_become 84 = .ok (.iconst 3, 1) := by decide +kernel
theorem dX0_become_85 : decode cX0_become 85 = .ok (.iadd, 1) := by decide +kernel
theorem dX0_become_86 : decode cX0_become 86 = .ok (.putfield 32, 3) := by decide +kernel
theorem dX0_become_89 : decode cX0_become 89 = .ok (.aload_n 0, 1) := by decide +kernel
theorem dX0_become_90 : decode cX0_become 90 = .ok (.iconst 4, 1) := by decide +kernel
theorem dX0_become_91 : decode cX0_become 91 = .ok (.invokevirtual 25, 3) := by decide +kernel
theorem dX0_become_94 : decode cX0_become 94 = .ok (.ifCond .eq 7, 3) := by decide +kernel
theorem dX0_become_97 : decode cX0_become 97 = .ok (.iconst 2, 1) := by decide +kernel
theorem dX0_become_98 : decode cX0_become 98 = .ok (.goto 16, 3) := by decide +kernel
theorem dX0_become_101 : decode cX0_become 101 = .ok (.aload_n 0, 1) := by decide +kernel
theorem dX0_become_102 : decode cX0_become 102 = .ok (.iconst 5, 1) := by decide +kernel
theorem dX0_become_103 : decode cX0_become 103 = .ok (.invokevirtual 25, 3) := by decide +kernel
theorem dX0_become_106 : decode cX0_become 106 = .ok (.ifCond .eq 7, 3) := by decide +kernel
theorem dX0_become_109 : decode cX0_become 109 = .ok (.iconst (-1), 1) := by decide +kernel
theorem dX0_become_110 : decode cX0_become 110 = .ok (.goto 4, 3) := by decide +kernel
theorem dX0_become_113 : decode cX0_become 113 = .ok (.iconst 0, 1) := by decide +kernel
theorem dX0_become_114 : decode cX0_become 114 = .ok (.istore 4, 2) := by decide +kernel
theorem dX0_become_116 : decode cX0_become 116 = .ok (.aload_n 0, 1) := by decide +kernel
theorem dX0_become_117 : decode cX0_become 117 = .ok (.dup, 1) := by decide +kernel
theorem dX0_become_118 : decode cX0_become 118 = .ok (.getfield 29, 3) := by decide +kernel
theorem dX0_become_121 : decode cX0_become 121 = .ok (.iload 4, 2) := by decide +kernel
theorem dX0_become_123 : decode cX0_become 123 = .ok (.iadd, 1) := by decide +kernel
theorem dX0_become_124 : decode cX0_become 124 = .ok (.putfield 29, 3) := by decide +kernel
theorem dX0_become_127 : decode cX0_become 127 = .ok (.aload_n 0, 1) := by decide +kernel
theorem dX0_become_128 : decode cX0_become 128 = .ok (.dup, 1) := by decide +kernel
theorem dX0_become_129 : decode cX0_become 129 = .ok (.getfield 32, 3) := by decide +kernel
theorem dX0_become_132 : decode cX0_become 132 = .ok (.iload 4, 2) := by decide +kernel
theorem dX0_become_134 : decode cX0_become 134 = .ok (.iadd, 1) := by decide +kernel
theorem dX0_become_135 : decode cX0_become 135 = .ok (.putfield 32, 3) := by decide +kernel
theorem dX0_become_138 : decode cX0_become 138 = .ok (.return_, 1) := by decide +kernel
theorem dX0_valueTo_0 : decode cX0_valueTo 0 = .ok (.iload_n 1, 1) := by decide +kernel
theorem dX0_valueTo_1 : decode cX0_valueTo 1 = .ok (.ifCond .ne 10, 3) := by decide +kernel
theorem dX0_valueTo_4 : decode cX0_valueTo 4 = .ok (.aload_n 0, 1) := by decide +kernel
theorem dX0_valueTo_5 : decode cX0_valueTo 5 = .ok (.getfield 29, 3) := by decide +kernel
theorem dX0_valueTo_8 : decode cX0_valueTo 8 = .ok (.goto 7, 3) := by decide +kernel
theorem dX0_valueTo_11 : decode cX0_valueTo 11 = .ok (.aload_n 0, 1) := by decide +kernel
theorem dX0_valueTo_12 : decode cX0_valueTo 12 = .ok (.getfield 32, 3) := by decide +kernel
theorem dX0_valueTo_15 : decode cX0_valueTo 15 = .ok (.ireturn, 1) := by decide +kernel
theorem dX0_tell_0 : decode cX0_tell 0 = .ok (.iload_n 1, 1) := by decide +kernel
theorem dX0_tell_1 : decode cX0_tell 1 = .ok (.tableswitch 51 0 3 #[31, 36, 41, 46], 31) := by decide +kernel
theorem dX0_tell_32 : decode cX0_tell 32 = .ok (.aload_n 0, 1) := by decide +kernel
theorem dX0_tell_33 : decode cX0_tell 33 = .ok (.getfield 9, 3) := by decide +kernel
theorem dX0_tell_36 : decode cX0_tell 36 = .ok (.ireturn, 1) := by decide +kernel
theorem dX0_tell_37 : decode cX0_tell 37 = .ok (.aload_n 0, 1) := by decide +kernel
theorem dX0_tell_38 : decode cX0_tell 38 = .ok (.getfield 19, 3) := by decide +kernel
theorem dX0_tell_41 : decode cX0_tell 41 = .ok (.ireturn, 1) := by decide +kernel
theorem dX0_tell_42 : decode cX0_tell 42 = .ok (.aload_n 0, 1) := by decide +kernel
theorem dX0_tell_43 : decode cX0_tell 43 = .ok (.getfield 22, 3) := by decide +kernel
theorem dX0_tell_46 : decode cX0_tell 46 = .ok (.ireturn, 1) := by decide +kernel
theorem dX0_tell_47 : decode cX0_tell 47 = .ok (.aload_n 0, 1) := by decide +kernel
theorem dX0_tell_48 : decode cX0_tell 48 = .ok (.getfield 29, 3) := by decide +kernel
theorem dX0_tell_51 : decode cX0_tell 51 = .ok (.ireturn, 1) := by decide +kernel
theorem dX0_tell_52 : decode cX0_tell 52 = .ok (.aload_n 0, 1) := by decide +kernel
theorem dX0_tell_53 : decode cX0_tell 53 = .ok (.getfield 32, 3) := by decide +kernel
theorem dX0_tell_56 : decode cX0_tell 56 = .ok (.ireturn, 1) := by decide +kernel
set_option maxRecDepth 20000 in
theorem ggX1_init_X0_init : GoodIn wsX1_init wsX0_init := goodIn_r _ [14, 15, 2, 3] (by decide +kernel) (by decide +kernel)
set_option maxRecDepth 20000 in
theorem gX1_init_X0_init_n30 : GoodIn wsX1_init (wsX0_init) := ggX1_init_X0_init
theorem dX1_init_0 : decode cX1_init 0 = .ok (.aload_n 0, 1) := by decide +kernel
theorem dX1_init_1 : decode cX1_init 1 = .ok (.invokespecial 3, 3) := by decide +kernel
theorem dX1_init_4 : decode cX1_init 4 = .ok (.aload_n 0, 1) := by decide +kernel
theorem dX1_init_5 : decode cX1_init 5 = .ok (.bipush 8, 2) := by decide +kernel
theorem dX1_init_7 : decode cX1_init 7 = .ok (.newarray .int, 2) := by decide +kernel
theorem dX1_init_9 : decode cX1_init 9 = .ok (.putfield 9, 3) := by decide +kernel
theorem dX1_init_12 : decode cX1_init 12 = .ok (.aload_n 0, 1) := by decide +kernel
theorem dX1_init_13 : decode cX1_init 13 = .ok (.bipush 6, 2) := by decide +kernel
theorem dX1_init_15 : decode cX1_init 15 = .ok (.newarray .int, 2) := by decide +kernel
theorem dX1_init_17 : decode cX1_init 17 = .ok (.putfield 15, 3) := by decide +kernel
theorem dX1_init_20 : decode cX1_init 20 = .ok (.aload_n 0, 1) := by decide +kernel
theorem dX1_init_21 : decode cX1_init 21 = .ok (.bipush 6, 2) := by decide +kernel
theorem dX1_init_23 : decode cX1_init 23 = .ok (.anewarray 18, 3) := by decide +kernel
theorem dX1_init_26 : decode cX1_init 26 = .ok (.putfield 20, 3) := by decide +kernel
theorem dX1_init_29 : decode cX1_init 29 = .ok (.aload_n 0, 1) := by decide +kernel
theorem dX1_init_30 : decode cX1_init 30 = .ok (.bipush 60, 2) := by decide +kernel
theorem dX1_init_32 : decode cX1_init 32 = .ok (.newarray .int, 2) := by decide +kernel
theorem dX1_init_34 : decode cX1_init 34 = .ok (.putfield 24, 3) := by decide +kernel
theorem dX1_init_37 : decode cX1_init 37 = .ok (.aload_n 0, 1) := by decide +kernel
theorem dX1_init_38 : decode cX1_init 38 = .ok (.bipush 60, 2) := by decide +kernel
theorem dX1_init_40 : decode cX1_init 40 = .ok (.newarray .int, 2) := by decide +kernel
theorem dX1_init_42 : decode cX1_init 42 = .ok (.putfield 27, 3) := by decide +kernel
theorem dX1_init_45 : decode cX1_init 45 = .ok (.iconst 0, 1) := by decide +kernel
theorem dX1_init_46 : decode cX1_init 46 = .ok (.istore_n 1, 1) := by decide +kernel
theorem dX1_init_47 : decode cX1_init 47 = .ok (.iload_n 1, 1) := by decide +kernel
theorem dX1_init_48 : decode cX1_init 48 = .ok (.bipush 6, 2) := by decide +kernel
theorem dX1_init_50 : decode cX1_init 50 = .ok (.if_icmp .ge 22, 3) := by decide +kernel
theorem dX1_init_53 : decode cX1_init 53 = .ok (.aload_n 0, 1) := by decide +kernel
theorem dX1_init_54 : decode cX1_init 54 = .ok (.getfield 20, 3) := by decide +kernel
theorem dX1_init_57 : decode cX1_init 57 = .ok (.iload_n 1, 1) := by decide +kernel
theorem dX1_init_58 : decode cX1_init 58 = .ok (.new 18, 3) := by decide +kernel
theorem dX1_init_61 : decode cX1_init 61 = .ok (.dup, 1) := by decide +kernel
theorem dX1_init_62 : decode cX1_init 62 = .ok (.invokespecial 30, 3) := by decide +kernel
theorem dX1_init_65 : decode cX1_init 65 = .ok (.aastore, 1) := by decide +kernel
theorem dX1_init_66 : decode cX1_init 66 = .ok (.iinc 1 1, 3) := by decide +kernel
theorem dX1_init_69 : decode cX1_init 69 = .ok (.goto (-22), 3) := by decide +kernel
theorem dX1_init_72 : decode cX1_init 72 = .ok (.return_, 1) := by decide +kernel
theorem dX1_isMissing_0 : decode cX1_isMissing 0 = .ok (.aload_n 0, 1) := by decide +kernel
theorem dX1_isMissing_1 : decode cX1_isMissing 1 = .ok (.getfield 31, 3) := by decide +kernel
theorem dX1_isMissing_4 : decode cX1_isMissing 4 = .ok (.ifCond .ne 7, 3) := by decide +kernel
theorem dX1_isMissing_7 : decode cX1_isMissing 7 = .ok (.iconst 1, 1) := by decide +kernel
theorem dX1_isMissing_8 : decode cX1_isMissing 8 = .ok (.goto 4, 3) := by decide +kernel
theorem dX1_isMissing_11 : decode cX1_isMissing 11 = .ok (.iconst 0, 1) := by decide +kernel
theorem dX1_isMissing_12 : decode cX1_isMissing 12 = .ok (.ireturn, 1) := by decide +kernel
theorem dX1_clear_0 : decode cX1_clear 0 = .ok (.aload_n 0, 1) := by decide +kernel
theorem dX1_clear_1 : decode cX1_clear 1 = .ok (.iconst 0, 1) := by decide +kernel
theorem dX1_clear_2 : decode cX1_clear 2 = .ok (.putfield 35, 3) := by decide +kernel
theorem dX1_clear_5 : decode cX1_clear 5 = .ok (.aload_n 0, 1) := by decide +kernel
theorem dX1_clear_6 : decode cX1_clear 6 = .ok (.iconst 0, 1) := by decide +kernel
theorem dX1_clear_7 : decode cX1_clear 7 = .ok (.putfield 38, 3) := by decide +kernel
theorem dX1_clear_10 : decode cX1_clear 10 = .ok (.aload_n 0, 1) := by decide +kernel
theorem dX1_clear_11 : decode cX1_clear 11 = .ok (.iconst 0, 1) := by decide +kernel
theorem dX1_clear_12 : decode cX1_clear 12 = .ok (.putfield 31, 3) := by decide +kernel
theorem dX1_clear_15 : decode cX1_clear 15 = .ok (.aload_n 0, 1) := by decide +kernel
theorem dX1_clear_16 : decode cX1_clear 16 = .ok (.iconst 0, 1) := by decide +kernel
theorem dX1_clear_17 : decode cX1_clear 17 = .ok (.putfield 41, 3) := by decide +kernel
theorem dX1_clear_20 : decode cX1_clear 20 = .ok (.aload_n 0, 1) := by decide +kernel
theorem dX1_clear_21 : decode cX1_clear 21 = .ok (.iconst 0, 1) := by decide +kernel
theorem dX1_clear_22 : decode cX1_clear 22 = .ok (.putfield 44, 3) := by decide +kernel
theorem dX1_clear_25 : decode cX1_clear 25 = .ok (.aload_n 0, 1) := by decide +kernel
theorem dX1_clear_26 : decode cX1_clear 26 = .ok (.iconst 0, 1) := by decide +kernel
theorem dX1_clear_27 : decode cX1_clear 27 = .ok (.putfield 47, 3) := by decide +kernel
theorem dX1_clear_30 : decode cX1_clear 30 = .ok (.return_, 1) := by decide +kernel
set_option maxRecDepth 20000 in
theorem ggX1_become_X0_become : GoodIn wsX1_become wsX0_become := goodIn_r _ [23, 24, 25, 26, 27, 28, 29, 30, 31, 22, 32, 44, 45, 46, 47, 48] (by decide +kernel) (by decide +kernel)
set_option maxRecDepth 20000 in
theorem gX1_become_X0_become : GoodIn wsX1_become (wsV RX1 65 RX0 yX0_become wsX0_become) := goodIn_app (goodIn_of _ (by decide +kernel)) ggX1_become_X0_become
theorem dX1_become_0 : decode cX1_become 0 = .ok (.aload_n 1, 1) := by decide +kernel
theorem dX1_become_1 : decode cX1_become 1 = .ok (.getfield 9, 3) := by decide +kernel
theorem dX1_become_4 : decode cX1_become 4 = .ok (.iconst 0, 1) := by decide +kernel
theorem dX1_become_5 : decode cX1_become 5 = .ok (.aload_n 0, 1) := by decide +kernel
theorem dX1_become_6 : decode cX1_become 6 = .ok (.getfield 9, 3) := by decide +kernel
theorem dX1_become_9 : decode cX1_become 9 = .ok (.iconst 0, 1) := by decide +kernel
theorem dX1_become_10 : decode cX1_become 10 = .ok (.bipush 8, 2) := by decide +kernel
theorem dX1_become_12 : decode cX1_become 12 = .ok (.invokestatic 50, 3) := by decide +kernel
theorem dX1_become_15 : decode cX1_become 15 = .ok (.aload_n 1, 1) := by decide +kernel
theorem dX1_become_16 : decode cX1_become 16 = .ok (.getfield 15, 3) := by decide +kernel
theorem dX1_become_19 : decode cX1_become 19 = .ok (.iconst 0, 1) := by decide +kernel
theorem dX1_become_20 : decode cX1_become 20 = .ok (.aload_n 0, 1) := by decide +kernel
theorem dX1_become_21 : decode cX1_become 21 = .ok (.getfield 15, 3) := by decide +kernel
theorem dX1_become_24 : decode cX1_become 24 = .ok (.iconst 0, 1) := by decide +kernel
theorem dX1_become_25 : decode cX1_become 25 = .ok (.bipush 6, 2) := by decide +kernel
theorem dX1_become_27 : decode cX1_become 27 = .ok (.invokestatic 50, 3) := by decide +kernel
theorem dX1_become_30 : decode cX1_become 30 = .ok (.iconst 0, 1) := by decide +kernel
theorem dX1_become_31 : decode cX1_become 31 = .ok (.istore_n 2, 1) := by decide +kernel
theorem dX1_become_32 : decode cX1_become 32 = .ok (.iload_n 2, 1) := by decide +kernel
theorem dX1_become_33 : decode cX1_become 33 = .ok (.aload_n 1, 1) := by decide +kernel
theorem dX1_become_34 : decode cX1_become 34 = .ok (.getfield 31, 3) := by decide +kernel
theorem dX1_become_37 : decode cX1_become 37 = .ok (.if_icmp .ge 37, 3) := by decide +kernel
theorem dX1_become_40 : decode cX1_become 40 = .ok (.aload_n 1, 1) := by decide +kernel
theorem dX1_become_41 : decode cX1_become 41 = .ok (.getfield 20, 3) := by decide +kernel
theorem dX1_become_44 : decode cX1_become 44 = .ok (.iload_n 2, 1) := by decide +kernel
theorem dX1_become_45 : decode cX1_become 45 = .ok (.aaload, 1) := by decide +kernel
theorem dX1_become_46 : decode cX1_become 46 = .ok (.astore_n 3, 1) := by decide +kernel
theorem dX1_become_47 : decode cX1_become 47 = .ok (.aload_n 0, 1) := by decide +kernel
theorem dX1_become_48 : decode cX1_become 48 = .ok (.getfield 20, 3) := by decide +kernel
theorem dX1_become_51 : decode cX1_become 51 = .ok (.iload_n 2, 1) := by decide +kernel
theorem dX1_become_52 : decode cX1_become 52 = .ok (.aaload, 1) := by decide +kernel
theorem dX1_become_53 : decode cX1_become 53 = .ok (.aload_n 3, 1) := by decide +kernel
theorem dX1_become_54 : decode cX1_become 54 = .ok (.getfield 56, 3) := by decide +kernel
theorem dX1_become_57 : decode cX1_become 57 = .ok (.aload_n 3, 1) := by decide +kernel
theorem dX1_become_58 : decode cX1_become 58 = .ok (.getfield 59, 3) := by decide +kernel
theorem dX1_become_61 : decode cX1_become 61 = .ok (.aload_n 3, 1) := by decide +kernel
theorem dX1_become_62 : decode cX1_become 62 = .ok (.getfield 62, 3) := by decide +kernel
theorem dX1_become_65 : decode cX1_become 65 = .ok (.invokevirtual 65, 3) := by decide +kernel
theorem dX1_become_68 : decode cX1_become 68 = .ok (.iinc 2 1, 3) := by decide +kernel
theorem dX1_become_71 : decode cX1_become 71 = .ok (.goto (-39), 3) := by decide +kernel
theorem dX1_become_74 : decode cX1_become 74 = .ok (.aload_n 1, 1) := by decide +kernel
theorem dX1_become_75 : decode cX1_become 75 = .ok (.getfield 24, 3) := by decide +kernel
theorem dX1_become_78 : decode cX1_become 78 = .ok (.iconst 0, 1) := by decide +kernel
theorem dX1_become_79 : decode cX1_become 79 = .ok (.aload_n 0, 1) := by decide +kernel
theorem dX1_become_80 : decode cX1_become 80 = .ok (.getfield 24, 3) := by decide +kernel
theorem dX1_become_83 : decode cX1_become 83 = .ok (.iconst 0, 1) := by decide +kernel
theorem dX1_become_84 : decode cX1_become 84 = .ok (.bipush 60, 2) := by decide +kernel
theorem dX1_become_86 : decode cX1_become 86 = .ok (.invokestatic 50, 3) := by decide +kernel
theorem dX1_become_89 : decode cX1_become 89 = .ok (.aload_n 1, 1) := by decide +kernel
theorem dX1_become_90 : decode cX1_become 90 = .ok (.getfield 27, 3) := by decide +kernel
theorem dX1_become_93 : decode cX1_become 93 = .ok (.iconst 0, 1) := by decide +kernel
theorem dX1_become_94 : decode cX1_become 94 = .ok (.aload_n 0, 1) := by decide +kernel
theorem dX1_become_95 : decode cX1_become 95 = .ok (.getfield 27, 3) := by decide +kernel
theorem dX1_become_98 : decode cX1_become 98 = .ok (.iconst 0, 1) := by decide +kernel
theorem dX1_become_99 : decode cX1_become 99 = .ok (.bipush 60, 2) := by decide +kernel
theorem dX1_become_101 : decode cX1_become 101 = .ok (.invokestatic 50, 3) := by decide +kernel
theorem dX1_become_104 : decode cX1_become 104 = .ok (.aload_n 0, 1) := by decide +kernel
theorem dX1_become_105 : decode cX1_become 105 = .ok (.aload_n 1, 1) := by decide +kernel
theorem dX1_become_106 : decode cX1_become 106 = .ok (.getfield 35, 3) := by decide +kernel
theorem dX1_become_109 : decode cX1_become 109 = .ok (.putfield 35, 3) := by decide +kernel
theorem dX1_become_112 : decode cX1_become 112 = .ok (.aload_n 0, 1) := by decide +kernel
theorem dX1_become_113 : decode cX1_become 113 = .ok (.aload_n 1, 1) := by decide +kernel
theorem dX1_become_114 : decode cX1_become 114 = .ok (.getfield 38, 3) := by decide +kernel
theorem dX1_become_117 : decode cX1_become 117 = .ok (.putfield 38, 3) := by decide +kernel
theorem dX1_become_120 : decode cX1_become 120 = .ok (.aload_n 0, 1) := by decide +kernel
theorem dX1_become_121 : decode cX1_become 121 = .ok (.aload_n 1, 1) := by decide +kernel
theorem dX1_become_122 : decode cX1_become 122 = .ok (.getfield 31, 3) := by decide +kernel
theorem dX1_become_125 : decode cX1_become 125 = .ok (.putfield 31, 3) := by decide +kernel
theorem dX1_become_128 : decode cX1_become 128 = .ok (.aload_n 0, 1) := by decide +kernel
theorem dX1_become_129 : decode cX1_become 129 = .ok (.aload_n 1, 1) := by decide +kernel
theorem dX1_become_130 : decode cX1_become 130 = .ok (.getfield 41, 3) := by decide +kernel
theorem dX1_become_133 : decode cX1_become 133 = .ok (.putfield 41, 3) := by decide +kernel
theorem dX1_become_136 : decode cX1_become 136 = .ok (.aload_n 0, 1) := by decide +kernel
theorem dX1_become_137 : decode cX1_become 137 = .ok (.aload_n 1, 1) := by decide +kernel
theorem dX1_become_138 : decode cX1_become 138 = .ok (.getfield 44, 3) := by decide +kernel
theorem dX1_become_141 : decode cX1_become 141 = .ok (.putfield 44, 3) := by decide +kernel
theorem dX1_become_144 : decode cX1_become 144 = .ok (.aload_n 0, 1) := by decide +kernel
theorem dX1_become_145 : decode cX1_become 145 = .ok (.aload_n 1, 1) := by decide +kernel
theorem dX1_become_146 : decode cX1_become 146 = .ok (.getfield 47, 3) := by decide +kernel
theorem dX1_become_149 : decode cX1_become 149 = .ok (.putfield 47, 3) := by decide +kernel
theorem dX1_become_152 : decode cX1_become 152 = .ok (.return_, 1) := by decide +kernel
theorem dX1_addTurn_0 : decode cX1_addTurn 0 = .ok (.aload_n 0, 1) := by decide +kernel
theorem dX1_addTurn_1 : decode cX1_addTurn 1 = .ok (.getfield 35, 3) := by decide +kernel
theorem dX1_addTurn_4 : decode cX1_addTurn 4 = .ok (.bipush 8, 2) := by decide +kernel
theorem dX1_addTurn_6 : decode cX1_addTurn 6 = .ok (.if_icmp .lt 5, 3) := by decide +kernel
theorem dX1_addTurn_9 : decode cX1_addTurn 9 = .ok (.iconst 0, 1) := by decide +kernel
theorem dX1_addTurn_10 : decode cX1_addTurn 10 = .ok (.ireturn, 1) := by decide +kernel
theorem dX1_addTurn_11 : decode cX1_addTurn 11 = .ok (.aload_n 0, 1) := by decide +kernel
theorem dX1_addTurn_12 : decode cX1_addTurn 12 = .ok (.getfield 9, 3) := by decide +kernel
theorem dX1_addTurn_15 : decode cX1_addTurn 15 = .ok (.aload_n 0, 1) := by decide +kernel
theorem dX1_addTurn_16 : decode cX1_addTurn 16 = .ok (.dup, 1) := by decide +kernel
theorem dX1_addTurn_17 : decode cX1_addTurn 17 = .ok (.getfield 35, 3) := by decide +kernel
theorem dX1_addTurn_20 : decode cX1_addTurn 20 = .ok (.dup_x1, 1) := by decide +kernel
theorem dX1_addTurn_21 : decode cX1_addTurn 21 = .ok (.iconst 1, 1) := by decide +kernel
theorem dX1_addTurn_22 : decode cX1_addTurn 22 = .ok (.iadd, 1) := by decide +kernel
theorem dX1_addTurn_23 : decode cX1_addTurn 23 = .ok (.putfield 35, 3) := by decide +kernel
theorem dX1_addTurn_26 : decode cX1_addTurn 26 = .ok (.iload_n 1, 1) := by decide +kernel
theorem dX1_addTurn_27 : decode cX1_addTurn 27 = .ok (.iastore, 1) := by decide +kernel
theorem dX1_addTurn_28 : decode cX1_addTurn 28 = .ok (.iconst 1, 1) := by decide +kernel
theorem dX1_addTurn_29 : decode cX1_addTurn 29 = .ok (.ireturn, 1) := by decide +kernel
theorem dX1_addMilk_0 : decode cX1_addMilk 0 = .ok (.aload_n 0, 1) := by decide +kernel
theorem dX1_addMilk_1 : decode cX1_addMilk 1 = .ok (.getfield 38, 3) := by decide +kernel
theorem dX1_addMilk_4 : decode cX1_addMilk 4 = .ok (.bipush 6, 2) := by decide +kernel
theorem dX1_addMilk_6 : decode cX1_addMilk 6 = .ok (.if_icmp .lt 5, 3) := by decide +kernel
theorem dX1_addMilk_9 : decode cX1_addMilk 9 = .ok (.iconst 0, 1) := by decide +kernel
theorem dX1_addMilk_10 : decode cX1_addMilk 10 = .ok (.ireturn, 1) := by decide +kernel
theorem dX1_addMilk_11 : decode cX1_addMilk 11 = .ok (.aload_n 0, 1) := by decide +kernel
theorem dX1_addMilk_12 : decode cX1_addMilk 12 = .ok (.getfield 15, 3) := by decide +kernel
theorem dX1_addMilk_15 : decode cX1_addMilk 15 = .ok (.aload_n 0, 1) := by decide +kernel
theorem dX1_addMilk_16 : decode cX1_addMilk 16 = .ok (.dup, 1) := by decide +kernel
theorem dX1_addMilk_17 : decode cX1_addMilk 17 = .ok (.getfield 38, 3) := by decide +kernel
theorem dX1_addMilk_20 : decode cX1_addMilk 20 = .ok (.dup_x1, 1) := by decide +kernel
theorem dX1_addMilk_21 : decode cX1_addMilk 21 = .ok (.iconst 1, 1) := by decide +kernel
theorem dX1_addMilk_22 : decode cX1_addMilk 22 = .ok (.iadd, 1) := by decide +kernel
theorem dX1_addMilk_23 : decode cX1_addMilk 23 = .ok (.putfield 38, 3) := by decide +kernel
theorem dX1_addMilk_26 : decode cX1_addMilk 26 = .ok (.iload_n 1, 1) := by decide +kernel
theorem dX1_addMilk_27 : decode cX1_addMilk 27 = .ok (.iastore, 1) := by decide +kernel
theorem dX1_addMilk_28 : decode cX1_addMilk 28 = .ok (.iconst 1, 1) := by decide +kernel
theorem dX1_addMilk_29 : decode cX1_addMilk 29 = .ok (.ireturn, 1) := by decide +kernel
set_option maxRecDepth 20000 in
theorem ggX1_addBeast_X0_become : GoodIn wsX1_addBeast wsX0_become := goodIn_r _ [7, 8, 9, 10, 11, 12, 13, 14, 15, 6, 16, 28, 29, 30, 31, 32] (by decide +kernel) (by decide +kernel)
set_option maxRecDepth 20000 in
theorem gX1_addBeast_X0_become : GoodIn wsX1_addBeast (wsV RX1 65 RX0 yX0_become wsX0_become) := goodIn_app (goodIn_of _ (by decide +kernel)) ggX1_addBeast_X0_become
theorem dX1_addBeast_0 : decode cX1_addBeast 0 = .ok (.aload_n 0, 1) := by decide +kernel
theorem dX1_addBeast_1 : decode cX1_addBeast 1 = .ok (.getfield 31, 3) := by decide +kernel
theorem dX1_addBeast_4 : decode cX1_addBeast 4 = .ok (.bipush 6, 2) := by decide +kernel
theorem dX1_addBeast_6 : decode cX1_addBeast 6 = .ok (.if_icmp .lt 5, 3) := by decide +kernel
theorem dX1_addBeast_9 : decode cX1_addBeast 9 = .ok (.iconst 0, 1) := by decide +kernel
theorem dX1_addBeast_10 : decode cX1_addBeast 10 = .ok (.ireturn, 1) := by decide +kernel
theorem dX1_addBeast_11 : decode cX1_addBeast 11 = .ok (.aload_n 0, 1) := by decide +kernel
theorem dX1_addBeast_12 : decode cX1_addBeast 12 = .ok (.getfield 20, 3) := by decide +kernel
theorem dX1_addBeast_15 : decode cX1_addBeast 15 = .ok (.aload_n 0, 1) := by decide +kernel
theorem dX1_addBeast_16 : decode cX1_addBeast 16 = .ok (.dup, 1) := by decide +kernel
theorem dX1_addBeast_17 : decode cX1_addBeast 17 = .ok (.getfield 31, 3) := by decide +kernel
theorem dX1_addBeast_20 : decode cX1_addBeast 20 = .ok (.dup_x1, 1) := by decide +kernel
theorem dX1_addBeast_21 : decode cX1_addBeast 21 = .ok (.iconst 1, 1) := by decide +kernel
theorem dX1_addBeast_22 : decode cX1_addBeast 22 = .ok (.iadd, 1) := by decide +kernel
theorem dX1_addBeast_23 : decode cX1_addBeast 23 = .ok (.putfield 31, 3) := by decide +kernel
theorem dX1_addBeast_26 : decode cX1_addBeast 26 = .ok (.aaload, 1) := by decide +kernel
theorem dX1_addBeast_27 : decode cX1_addBeast 27 = .ok (.iload_n 1, 1) := by decide +kernel
theorem dX1_addBeast_28 : decode cX1_addBeast 28 = .ok (.iload_n 2, 1) := by decide +kernel
theorem dX1_addBeast_29 : decode cX1_addBeast 29 = .ok (.iload_n 3, 1) := by decide +kernel
theorem dX1_addBeast_30 : decode cX1_addBeast 30 = .ok (.invokevirtual 65, 3) := by decide +kernel
theorem dX1_addBeast_33 : decode cX1_addBeast 33 = .ok (.iconst 1, 1) := by decide +kernel
theorem dX1_addBeast_34 : decode cX1_addBeast 34 = .ok (.ireturn, 1) := by decide +kernel
theorem dX1_writeDeed_0 : decode cX1_writeDeed 0 = .ok (.aload_n 0, 1) := by decide +kernel
theorem dX1_writeDeed_1 : decode cX1_writeDeed 1 = .ok (.getfield 41, 3) := by decide +kernel
theorem dX1_writeDeed_4 : decode cX1_writeDeed 4 = .ok (.bipush 60, 2) := by decide +kernel
theorem dX1_writeDeed_6 : decode cX1_writeDeed 6 = .ok (.if_icmp .lt 5, 3) := by decide +kernel
theorem dX1_writeDeed_9 : decode cX1_writeDeed 9 = .ok (.iconst 0, 1) := by decide +kernel
theorem dX1_writeDeed_10 : decode cX1_writeDeed 10 = .ok (.ireturn, 1) := by decide +kernel
theorem dX1_writeDeed_11 : decode cX1_writeDeed 11 = .ok (.aload_n 0, 1) := by decide +kernel
theorem dX1_writeDeed_12 : decode cX1_writeDeed 12 = .ok (.getfield 24, 3) := by decide +kernel
theorem dX1_writeDeed_15 : decode cX1_writeDeed 15 = .ok (.aload_n 0, 1) := by decide +kernel
theorem dX1_writeDeed_16 : decode cX1_writeDeed 16 = .ok (.getfield 41, 3) := by decide +kernel
theorem dX1_writeDeed_19 : decode cX1_writeDeed 19 = .ok (.iload_n 1, 1) := by decide +kernel
theorem dX1_writeDeed_20 : decode cX1_writeDeed 20 = .ok (.iastore, 1) := by decide +kernel
theorem dX1_writeDeed_21 : decode cX1_writeDeed 21 = .ok (.aload_n 0, 1) := by decide +kernel
theorem dX1_writeDeed_22 : decode cX1_writeDeed 22 = .ok (.getfield 27, 3) := by decide +kernel
theorem dX1_writeDeed_25 : decode cX1_writeDeed 25 = .ok (.aload_n 0, 1) := by decide +kernel
theorem dX1_writeDeed_26 : decode cX1_writeDeed 26 = .ok (.getfield 41, 3) := by decide +kernel
theorem dX1_writeDeed_29 : decode cX1_writeDeed 29 = .ok (.iload_n 2, 1) := by decide +kernel
theorem dX1_writeDeed_30 : decode cX1_writeDeed 30 = .ok (.iastore, 1) := by decide +kernel
theorem dX1_writeDeed_31 : decode cX1_writeDeed 31 = .ok (.aload_n 0, 1) := by decide +kernel
theorem dX1_writeDeed_32 : decode cX1_writeDeed 32 = .ok (.dup, 1) := by decide +kernel
theorem dX1_writeDeed_33 : decode cX1_writeDeed 33 = .ok (.getfield 41, 3) := by decide +kernel
theorem dX1_writeDeed_36 : decode cX1_writeDeed 36 = .ok (.iconst 1, 1) := by decide +kernel
theorem dX1_writeDeed_37 : decode cX1_writeDeed 37 = .ok (.iadd, 1) := by decide +kernel
theorem dX1_writeDeed_38 : decode cX1_writeDeed 38 = .ok (.putfield 41, 3) := by decide +kernel
theorem dX1_writeDeed_41 : decode cX1_writeDeed 41 = .ok (.iconst 1, 1) := by decide +kernel
theorem dX1_writeDeed_42 : decode cX1_writeDeed 42 = .ok (.ireturn, 1) := by decide +kernel
set_option maxRecDepth 20000 in
theorem ggX1_letDayGoBy_X1_writeDeed : GoodIn wsX1_letDayGoBy wsX1_writeDeed := goodIn_r _ [6, 7, 8, 9, 10, 11, 12, 13, 14, 15, 16, 17, 18, 19, 20] (by decide +kernel) (by decide +kernel)
set_option maxRecDepth 20000 in
theorem gX1_letDayGoBy_X1_writeDeed : GoodIn wsX1_letDayGoBy (wsV RX1 69 RX1 yX1_writeDeed wsX1_writeDeed) := goodIn_app (goodIn_of _ (by decide +kernel)) ggX1_letDayGoBy_X1_writeDeed
theorem dX1_letDayGoBy_0 : decode cX1_letDayGoBy 0 = .ok (.aload_n 0, 1) := by decide +kernel
theorem dX1_letDayGoBy_1 : decode cX1_letDayGoBy 1 = .ok (.getfield 44, 3) := by decide +kernel
theorem dX1_letDayGoBy_4 : decode cX1_letDayGoBy 4 = .ok (.sipush 999, 3) := by decide +kernel
theorem dX1_letDayGoBy_7 : decode cX1_letDayGoBy 7 = .ok (.if_icmp .ge 22, 3) := by decide +kernel
theorem dX1_letDayGoBy_10 : decode cX1_letDayGoBy 10 = .ok (.aload_n 0, 1) := by decide +kernel
theorem dX1_letDayGoBy_11 : decode cX1_letDayGoBy 11 = .ok (.iconst 0, 1) := by decide +kernel
theorem dX1_letDayGoBy_12 : decode cX1_letDayGoBy 12 = .ok (.iconst 0, 1) := by decide +kernel
theorem dX1_letDayGoBy_13 : decode cX1_letDayGoBy 13 = .ok (.invokevirtual 69, 3) := by decide +kernel
theorem dX1_letDayGoBy_16 : decode cX1_letDayGoBy 16 = .ok (.ifCond .eq 13, 3) := by decide +kernel
theorem dX1_letDayGoBy_19 : decode cX1_letDayGoBy 19 = .ok (.aload_n 0, 1) := by decide +kernel
theorem dX1_letDayGoBy_20 : decode cX1_letDayGoBy 20 = .ok (.dup, 1) := by decide +kernel
theorem dX1_letDayGoBy_21 : decode cX1_letDayGoBy 21 = .ok (.getfield 44, 3) := by decide +kernel
theorem dX1_letDayGoBy_24 : decode cX1_letDayGoBy 24 = .ok (.iconst 1, 1) := by decide +kernel
theorem dX1_letDayGoBy_25 : decode cX1_letDayGoBy 25 = .ok (.iadd, 1) := by decide +kernel
theorem dX1_letDayGoBy_26 : decode cX1_letDayGoBy 26 = .ok (.putfield 44, 3) := by decide +kernel
theorem dX1_letDayGoBy_29 : decode cX1_letDayGoBy 29 = .ok (.return_, 1) := by decide +kernel
set_option maxRecDepth 20000 in
theorem ggX1_driveOver_X4_isNone : GoodIn wsX1_driveOver wsX4_isNone := goodIn_r _ [6] (by decide +kernel) (by decide +kernel)
set_option maxRecDepth 20000 in
theorem gX1_driveOver_X4_isNone_n73 : GoodIn wsX1_driveOver (wsX4_isNone) := ggX1_driveOver_X4_isNone
set_option maxRecDepth 20000 in
theorem ggX1_driveOver_X1_writeDeed : GoodIn wsX1_driveOver wsX1_writeDeed := goodIn_r _ [11, 12, 13, 14, 15, 16, 17, 18, 19, 20, 21, 22, 23, 24, 25] (by decide +kernel) (by decide +kernel)
set_option maxRecDepth 20000 in
theorem gX1_driveOver_X1_writeDeed : GoodIn wsX1_driveOver (wsV RX1 69 RX1 yX1_writeDeed wsX1_writeDeed) := goodIn_app (goodIn_of _ (by decide +kernel)) ggX1_driveOver_X1_writeDeed
theorem dX1_driveOver_0 : decode cX1_driveOver 0 = .ok (.iload_n 1, 1) := by decide +kernel
theorem dX1_driveOver_1 : decode cX1_driveOver 1 = .ok (.aload_n 0, 1) := by decide +kernel
theorem dX1_driveOver_2 : decode cX1_driveOver 2 = .ok (.getfield 31, 3) := by decide +kernel
theorem dX1_driveOver_5 : decode cX1_driveOver 5 = .ok (.invokestatic 73, 3) := by decide +kernel
theorem dX1_driveOver_8 : decode cX1_driveOver 8 = .ok (.ifCond .ne 32, 3) := by decide +kernel
theorem dX1_driveOver_11 : decode cX1_driveOver 11 = .ok (.aload_n 0, 1) := by decide +kernel
theorem dX1_driveOver_12 : decode cX1_driveOver 12 = .ok (.iconst 1, 1) := by decide +kernel
theorem dX1_driveOver_13 : decode cX1_driveOver 13 = .ok (.iload_n 1, 1) := by decide +kernel
theorem dX1_driveOver_14 : decode cX1_driveOver 14 = .ok (.invokevirtual 69, 3) := by decide +kernel
theorem dX1_driveOver_17 : decode cX1_driveOver 17 = .ok (.ifCond .eq 23, 3) := by decide +kernel
theorem dX1_driveOver_20 : decode cX1_driveOver 20 = .ok (.aload_n 0, 1) := by decide +kernel
theorem dX1_driveOver_21 : decode cX1_driveOver 21 = .ok (.getfield 20, 3) := by decide +kernel
theorem dX1_driveOver_24 : decode cX1_driveOver 24 = .ok (.iload_n 1, 1) := by decide +kernel
theorem dX1_driveOver_25 : decode cX1_driveOver 25 = .ok (.aaload, 1) := by decide +kernel
theorem dX1_driveOver_26 : decode cX1_driveOver 26 = .ok (.iconst 1, 1) := by decide +kernel
theorem dX1_driveOver_27 : decode cX1_driveOver 27 = .ok (.aload_n 0, 1) := by decide +kernel
theorem dX1_driveOver_28 : decode cX1_driveOver 28 = .ok (.getfield 20, 3) := by decide +kernel
theorem dX1_driveOver_31 : decode cX1_driveOver 31 = .ok (.iload_n 1, 1) := by decide +kernel
theorem dX1_driveOver_32 : decode cX1_driveOver 32 = .ok (.aaload, 1) := by decide +kernel
theorem dX1_driveOver_33 : decode cX1_driveOver 33 = .ok (.getfield 62, 3) := by decide +kernel
theorem dX1_driveOver_36 : decode cX1_driveOver 36 = .ok (.isub, 1) := by decide +kernel
theorem dX1_driveOver_37 : decode cX1_driveOver 37 = .ok (.putfield 62, 3) := by decide +kernel
theorem dX1_driveOver_40 : decode cX1_driveOver 40 = .ok (.return_, 1) := by decide +kernel
set_option maxRecDepth 20000 in
theorem ggX1_payOver_X1_writeDeed : GoodIn wsX1_payOver wsX1_writeDeed := goodIn_r _ [6, 7, 8, 9, 10, 11, 12, 13, 14, 15, 16, 17, 18, 19, 20] (by decide +kernel) (by decide +kernel)
set_option maxRecDepth 20000 in
theorem gX1_payOver_X1_writeDeed : GoodIn wsX1_payOver (wsV RX1 69 RX1 yX1_writeDeed wsX1_writeDeed) := goodIn_app (goodIn_of _ (by decide +kernel)) ggX1_payOver_X1_writeDeed
theorem dX1_payOver_0 : decode cX1_payOver 0 = .ok (.iload_n 1, 1) := by decide +kernel
theorem dX1_payOver_1 : decode cX1_payOver 1 = .ok (.ifCond .ne 8, 3) := by decide +kernel
theorem dX1_payOver_4 : decode cX1_payOver 4 = .ok (.iload_n 2, 1) := by decide +kernel
theorem dX1_payOver_5 : decode cX1_payOver 5 = .ok (.ineg, 1) := by decide +kernel
theorem dX1_payOver_6 : decode cX1_payOver 6 = .ok (.goto 4, 3) := by decide +kernel
theorem dX1_payOver_9 : decode cX1_payOver 9 = .ok (.iload_n 2, 1) := by decide +kernel
theorem dX1_payOver_10 : decode cX1_payOver 10 = .ok (.istore_n 3, 1) := by decide +kernel
theorem dX1_payOver_11 : decode cX1_payOver 11 = .ok (.aload_n 0, 1) := by decide +kernel
theorem dX1_payOver_12 : decode cX1_payOver 12 = .ok (.iconst 2, 1) := by decide +kernel
theorem dX1_payOver_13 : decode cX1_payOver 13 = .ok (.iload_n 3, 1) := by decide +kernel
theorem dX1_payOver_14 : decode cX1_payOver 14 = .ok (.invokevirtual 69, 3) := by decide +kernel
theorem dX1_payOver_17 : decode cX1_payOver 17 = .ok (.ifCond .eq 13, 3) := by decide +kernel
theorem dX1_payOver_20 : decode cX1_payOver 20 = .ok (.aload_n 0, 1) := by decide +kernel
theorem dX1_payOver_21 : decode cX1_payOver 21 = .ok (.dup, 1) := by decide +kernel
theorem dX1_payOver_22 : decode cX1_payOver 22 = .ok (.getfield 47, 3) := by decide +kernel
theorem dX1_payOver_25 : decode cX1_payOver 25 = .ok (.iload_n 3, 1) := by decide +kernel
theorem dX1_payOver_26 : decode cX1_payOver 26 = .ok (.iadd, 1) := by decide +kernel
theorem dX1_payOver_27 : decode cX1_payOver 27 = .ok (.putfield 47, 3) := by decide +kernel
theorem dX1_payOver_30 : decode cX1_payOver 30 = .ok (.return_, 1) := by decide +kernel
set_option maxRecDepth 20000 in
theorem ggX1_undoFrom_X1_undoDeed : GoodIn wsX1_undoFrom wsX1_undoDeed := goodIn_r _ [8, 9, 10, 11, 12, 13, 14, 15, 16, 17, 18, 19, 20, 21, 22, 23, 24, 25, 26, 27, 28, 29, 30, 31] (by decide +kernel) (by decide +kernel)
set_option maxRecDepth 20000 in
theorem gX1_undoFrom_X1_undoDeed : GoodIn wsX1_undoFrom (wsV RX1 76 RX1 yX1_undoDeed wsX1_undoDeed) := goodIn_app (goodIn_of _ (by decide +kernel)) ggX1_undoFrom_X1_undoDeed
theorem dX1_undoFrom_0 : decode cX1_undoFrom 0 = .ok (.aload_n 0, 1) := by decide +kernel
theorem dX1_undoFrom_1 : decode cX1_undoFrom 1 = .ok (.getfield 41, 3) := by decide +kernel
theorem dX1_undoFrom_4 : decode cX1_undoFrom 4 = .ok (.iconst 1, 1) := by decide +kernel
theorem dX1_undoFrom_5 : decode cX1_undoFrom 5 = .ok (.isub, 1) := by decide +kernel
theorem dX1_undoFrom_6 : decode cX1_undoFrom 6 = .ok (.istore_n 2, 1) := by decide +kernel
theorem dX1_undoFrom_7 : decode cX1_undoFrom 7 = .ok (.iload_n 2, 1) := by decide +kernel
theorem dX1_undoFrom_8 : decode cX1_undoFrom 8 = .ok (.iload_n 1, 1) := by decide +kernel
theorem dX1_undoFrom_9 : decode cX1_undoFrom 9 = .ok (.if_icmp .lt 34, 3) := by decide +kernel
theorem dX1_undoFrom_12 : decode cX1_undoFrom 12 = .ok (.iload_n 2, 1) := by decide +kernel
theorem dX1_undoFrom_13 : decode cX1_undoFrom 13 = .ok (.ifCond .lt 30, 3) := by decide +kernel
theorem dX1_undoFrom_16 : decode cX1_undoFrom 16 = .ok (.aload_n 0, 1) := by decide +kernel
theorem dX1_undoFrom_17 : decode cX1_undoFrom 17 = .ok (.aload_n 0, 1) := by decide +kernel
theorem dX1_undoFrom_18 : decode cX1_undoFrom 18 = .ok (.getfield 24, 3) := by decide +kernel
theorem dX1_undoFrom_21 : decode cX1_undoFrom 21 = .ok (.iload_n 2, 1) := by decide +kernel
theorem dX1_undoFrom_22 : decode cX1_undoFrom 22 = .ok (.iaload, 1) := by decide +kernel
theorem dX1_undoFrom_23 : decode cX1_undoFrom 23 = .ok (.aload_n 0, 1) := by decide +kernel
theorem dX1_undoFrom_24 : decode cX1_undoFrom 24 = .ok (.getfield 27, 3) := by decide +kernel
theorem dX1_undoFrom_27 : decode cX1_undoFrom 27 = .ok (.iload_n 2, 1) := by decide +kernel
theorem dX1_undoFrom_28 : decode cX1_undoFrom 28 = .ok (.iaload, 1) := by decide +kernel
theorem dX1_undoFrom_29 : decode cX1_undoFrom 29 = .ok (.invokevirtual 76, 3) := by decide +kernel
theorem dX1_undoFrom_32 : decode cX1_undoFrom 32 = .ok (.aload_n 0, 1) := by decide +kernel
theorem dX1_undoFrom_33 : decode cX1_undoFrom 33 = .ok (.iload_n 2, 1) := by decide +kernel
theorem dX1_undoFrom_34 : decode cX1_undoFrom 34 = .ok (.putfield 41, 3) := by decide +kernel
theorem dX1_undoFrom_37 : decode cX1_undoFrom 37 = .ok (.iinc 2 (-1), 3) := by decide +kernel
theorem dX1_undoFrom_40 : decode cX1_undoFrom 40 = .ok (.goto (-33), 3) := by decide +kernel
theorem dX1_undoFrom_43 : decode cX1_undoFrom 43 = .ok (.return_, 1) := by decide +kernel
set_option maxRecDepth 20000 in
theorem ggX1_undoDeed_X4_isNone : GoodIn wsX1_undoDeed wsX4_isNone := goodIn_r _ [7] (by decide +kernel) (by decide +kernel)
set_option maxRecDepth 20000 in
theorem gX1_undoDeed_X4_isNone_n73 : GoodIn wsX1_undoDeed (wsX4_isNone) := ggX1_undoDeed_X4_isNone
theorem dX1_undoDeed_0 : decode cX1_undoDeed 0 = .ok (.iload_n 1, 1) := by decide +kernel
theorem dX1_undoDeed_1 : decode cX1_undoDeed 1 = .ok (.ifCond .ne 16, 3) := by decide +kernel
theorem dX1_undoDeed_4 : decode cX1_undoDeed 4 = .ok (.aload_n 0, 1) := by decide +kernel
theorem dX1_undoDeed_5 : decode cX1_undoDeed 5 = .ok (.dup, 1) := by decide +kernel
theorem dX1_undoDeed_6 : decode cX1_undoDeed 6 = .ok (.getfield 44, 3) := by decide +kernel
theorem dX1_undoDeed_9 : decode cX1_undoDeed 9 = .ok (.iconst 1, 1) := by decide +kernel
theorem dX1_undoDeed_10 : decode cX1_undoDeed 10 = .ok (.isub, 1) := by decide +kernel
theorem dX1_undoDeed_11 : decode cX1_undoDeed 11 = .ok (.putfield 44, 3) := by decide +kernel
theorem dX1_undoDeed_14 : decode cX1_undoDeed 14 = .ok (.goto 50, 3) := by decide +kernel
theorem dX1_undoDeed_17 : decode cX1_undoDeed 17 = .ok (.iload_n 1, 1) := by decide +kernel
theorem dX1_undoDeed_18 : decode cX1_undoDeed 18 = .ok (.iconst 2, 1) := by decide +kernel
theorem dX1_undoDeed_19 : decode cX1_undoDeed 19 = .ok (.if_icmp .ne 16, 3) := by decide +kernel
theorem dX1_undoDeed_22 : decode cX1_undoDeed 22 = .ok (.aload_n 0, 1) := by decide +kernel
theorem dX1_undoDeed_23 : decode cX1_undoDeed 23 = .ok (.dup, 1) := by decide +kernel
theorem dX1_undoDeed_24 : decode cX1_undoDeed 24 = .ok (.getfield 47, 3) := by decide +kernel
theorem dX1_undoDeed_27 : decode cX1_undoDeed 27 = .ok (.iload_n 2, 1) := by decide +kernel
theorem dX1_undoDeed_28 : decode cX1_undoDeed 28 = .ok (.isub, 1) := by decide +kernel
theorem dX1_undoDeed_29 : decode cX1_undoDeed 29 = .ok (.putfield 47, 3) := by decide +kernel
theorem dX1_undoDeed_32 : decode cX1_undoDeed 32 = .ok (.goto 32, 3) := by decide +kernel
theorem dX1_undoDeed_35 : decode cX1_undoDeed 35 = .ok (.iload_n 2, 1) := by decide +kernel
theorem dX1_undoDeed_36 : decode cX1_undoDeed 36 = .ok (.bipush 6, 2) := by decide +kernel
theorem dX1_undoDeed_38 : decode cX1_undoDeed 38 = .ok (.invokestatic 73, 3) := by decide +kernel
theorem dX1_undoDeed_41 : decode cX1_undoDeed 41 = .ok (.ifCond .ne 23, 3) := by decide +kernel
theorem dX1_undoDeed_44 : decode cX1_undoDeed 44 = .ok (.aload_n 0, 1) := by decide +kernel
theorem dX1_undoDeed_45 : decode cX1_undoDeed 45 = .ok (.getfield 20, 3) := by decide +kernel
theorem dX1_undoDeed_48 : decode cX1_undoDeed 48 = .ok (.iload_n 2, 1) := by decide +kernel
theorem dX1_undoDeed_49 : decode cX1_undoDeed 49 = .ok (.aaload, 1) := by decide +kernel
theorem dX1_undoDeed_50 : decode cX1_undoDeed 50 = .ok (.iconst 1, 1) := by decide +kernel
theorem dX1_undoDeed_51 : decode cX1_undoDeed 51 = .ok (.aload_n 0, 1) := by decide +kernel
theorem dX1_undoDeed_52 : decode cX1_undoDeed 52 = .ok (.getfield 20, 3) := by decide +kernel
theorem dX1_undoDeed_55 : decode cX1_undoDeed 55 = .ok (.iload_n 2, 1) := by decide +kernel
theorem dX1_undoDeed_56 : decode cX1_undoDeed 56 = .ok (.aaload, 1) := by decide +kernel
theorem dX1_undoDeed_57 : decode cX1_undoDeed 57 = .ok (.getfield 62, 3) := by decide +kernel
theorem dX1_undoDeed_60 : decode cX1_undoDeed 60 = .ok (.isub, 1) := by decide +kernel
theorem dX1_undoDeed_61 : decode cX1_undoDeed 61 = .ok (.putfield 62, 3) := by decide +kernel
theorem dX1_undoDeed_64 : decode cX1_undoDeed 64 = .ok (.return_, 1) := by decide +kernel
theorem dX1_farmOn_0 : decode cX1_farmOn 0 = .ok (.iload_n 1, 1) := by decide +kernel
theorem dX1_farmOn_1 : decode cX1_farmOn 1 = .ok (.ifCond .lt 11, 3) := by decide +kernel
theorem dX1_farmOn_4 : decode cX1_farmOn 4 = .ok (.aload_n 0, 1) := by decide +kernel
theorem dX1_farmOn_5 : decode cX1_farmOn 5 = .ok (.getfield 35, 3) := by decide +kernel
theorem dX1_farmOn_8 : decode cX1_farmOn 8 = .ok (.iconst 1, 1) := by decide +kernel
theorem dX1_farmOn_9 : decode cX1_farmOn 9 = .ok (.if_icmp .ge 5, 3) := by decide +kernel
theorem dX1_farmOn_12 : decode cX1_farmOn 12 = .ok (.iconst 0, 1) := by decide +kernel
theorem dX1_farmOn_13 : decode cX1_farmOn 13 = .ok (.ireturn, 1) := by decide +kernel
theorem dX1_farmOn_14 : decode cX1_farmOn 14 = .ok (.aload_n 0, 1) := by decide +kernel
theorem dX1_farmOn_15 : decode cX1_farmOn 15 = .ok (.getfield 9, 3) := by decide +kernel
theorem dX1_farmOn_18 : decode cX1_farmOn 18 = .ok (.iload_n 1, 1) := by decide +kernel
theorem dX1_farmOn_19 : decode cX1_farmOn 19 = .ok (.aload_n 0, 1) := by decide +kernel
theorem dX1_farmOn_20 : decode cX1_farmOn 20 = .ok (.getfield 35, 3) := by decide +kernel
theorem dX1_farmOn_23 : decode cX1_farmOn 23 = .ok (.irem, 1) := by decide +kernel
theorem dX1_farmOn_24 : decode cX1_farmOn 24 = .ok (.iaload, 1) := by decide +kernel
theorem dX1_farmOn_25 : decode cX1_farmOn 25 = .ok (.ireturn, 1) := by decide +kernel
theorem dX1_milkOn_0 : decode cX1_milkOn 0 = .ok (.iload_n 1, 1) := by decide +kernel
theorem dX1_milkOn_1 : decode cX1_milkOn 1 = .ok (.ifCond .lt 11, 3) := by decide +kernel
theorem dX1_milkOn_4 : decode cX1_milkOn 4 = .ok (.aload_n 0, 1) := by decide +kernel
theorem dX1_milkOn_5 : decode cX1_milkOn 5 = .ok (.getfield 38, 3) := by decide +kernel
theorem dX1_milkOn_8 : decode cX1_milkOn 8 = .ok (.iconst 1, 1) := by decide +kernel
theorem dX1_milkOn_9 : decode cX1_milkOn 9 = .ok (.if_icmp .ge 5, 3) := by decide +kernel
theorem dX1_milkOn_12 : decode cX1_milkOn 12 = .ok (.iconst 0, 1) := by decide +kernel
theorem dX1_milkOn_13 : decode cX1_milkOn 13 = .ok (.ireturn, 1) := by decide +kernel
theorem dX1_milkOn_14 : decode cX1_milkOn 14 = .ok (.aload_n 0, 1) := by decide +kernel
theorem dX1_milkOn_15 : decode cX1_milkOn 15 = .ok (.getfield 15, 3) := by decide +kernel
theorem dX1_milkOn_18 : decode cX1_milkOn 18 = .ok (.iload_n 1, 1) := by decide +kernel
theorem dX1_milkOn_19 : decode cX1_milkOn 19 = .ok (.aload_n 0, 1) := by decide +kernel
theorem dX1_milkOn_20 : decode cX1_milkOn 20 = .ok (.getfield 38, 3) := by decide +kernel
theorem dX1_milkOn_23 : decode cX1_milkOn 23 = .ok (.irem, 1) := by decide +kernel
theorem dX1_milkOn_24 : decode cX1_milkOn 24 = .ok (.iaload, 1) := by decide +kernel
theorem dX1_milkOn_25 : decode cX1_milkOn 25 = .ok (.ireturn, 1) := by decide +kernel
set_option maxRecDepth 20000 in
theorem ggX1_leadOn_X1_farmOn : GoodIn wsX1_leadOn wsX1_farmOn := goodIn_r _ [5, 6, 7, 14, 15, 16, 17, 18, 19, 20, 21, 22, 23, 24] (by decide +kernel) (by decide +kernel)
set_option maxRecDepth 20000 in
theorem gX1_leadOn_X1_farmOn : GoodIn wsX1_leadOn (wsV RX1 80 RX1 yX1_farmOn wsX1_farmOn) := goodIn_app (goodIn_of _ (by decide +kernel)) ggX1_leadOn_X1_farmOn
set_option maxRecDepth 20000 in
theorem ggX1_leadOn_X1_milkOn : GoodIn wsX1_leadOn wsX1_milkOn := goodIn_r _ [11, 12, 13, 14, 15, 16, 17, 18, 19, 20, 21, 22, 23, 24] (by decide +kernel) (by decide +kernel)
set_option maxRecDepth 20000 in
theorem gX1_leadOn_X1_milkOn : GoodIn wsX1_leadOn (wsV RX1 84 RX1 yX1_milkOn wsX1_milkOn) := goodIn_app (goodIn_of _ (by decide +kernel)) ggX1_leadOn_X1_milkOn
theorem dX1_leadOn_0 : decode cX1_leadOn 0 = .ok (.aload_n 0, 1) := by decide +kernel
theorem dX1_leadOn_1 : decode cX1_leadOn 1 = .ok (.iload_n 1, 1) := by decide +kernel
theorem dX1_leadOn_2 : decode cX1_leadOn 2 = .ok (.invokevirtual 80, 3) := by decide +kernel
theorem dX1_leadOn_5 : decode cX1_leadOn 5 = .ok (.ifCond .ne 11, 3) := by decide +kernel
theorem dX1_leadOn_8 : decode cX1_leadOn 8 = .ok (.aload_n 0, 1) := by decide +kernel
theorem dX1_leadOn_9 : decode cX1_leadOn 9 = .ok (.iload_n 1, 1) := by decide +kernel
theorem dX1_leadOn_10 : decode cX1_leadOn 10 = .ok (.invokevirtual 84, 3) := by decide +kernel
theorem dX1_leadOn_13 : decode cX1_leadOn 13 = .ok (.goto 9, 3) := by decide +kernel
theorem dX1_leadOn_16 : decode cX1_leadOn 16 = .ok (.aload_n 0, 1) := by decide +kernel
theorem dX1_leadOn_17 : decode cX1_leadOn 17 = .ok (.iload_n 1, 1) := by decide +kernel
theorem dX1_leadOn_18 : decode cX1_leadOn 18 = .ok (.invokevirtual 84, 3) := by decide +kernel
theorem dX1_leadOn_21 : decode cX1_leadOn 21 = .ok (.ineg, 1) := by decide +kernel
theorem dX1_leadOn_22 : decode cX1_leadOn 22 = .ok (.ireturn, 1) := by decide +kernel
set_option maxRecDepth 20000 in
theorem ggX1_leadUpTo_X1_leadOn : GoodIn wsX1_leadUpTo wsX1_leadOn := goodIn_r _ [5, 6, 7, 8, 4, 9, 10, 11, 12, 13, 14, 15, 16, 17, 18, 19, 20, 21, 22, 23, 24, 25, 26, 27, 28] (by decide +kernel) (by decide +kernel)
set_option maxRecDepth 20000 in
theorem gX1_leadUpTo_X1_leadOn : GoodIn wsX1_leadUpTo (wsV RX1 87 RX1 yX1_leadOn wsX1_leadOn) := goodIn_app (goodIn_of _ (by decide +kernel)) ggX1_leadUpTo_X1_leadOn
theorem dX1_leadUpTo_0 : decode cX1_leadUpTo 0 = .ok (.iconst 0, 1) := by decide +kernel
theorem dX1_leadUpTo_1 : decode cX1_leadUpTo 1 = .ok (.istore_n 2, 1) := by decide +kernel
theorem dX1_leadUpTo_2 : decode cX1_leadUpTo 2 = .ok (.iconst 0, 1) := by decide +kernel
theorem dX1_leadUpTo_3 : decode cX1_leadUpTo 3 = .ok (.istore_n 3, 1) := by decide +kernel
theorem dX1_leadUpTo_4 : decode cX1_leadUpTo 4 = .ok (.iload_n 3, 1) := by decide +kernel
theorem dX1_leadUpTo_5 : decode cX1_leadUpTo 5 = .ok (.iload_n 1, 1) := by decide +kernel
theorem dX1_leadUpTo_6 : decode cX1_leadUpTo 6 = .ok (.if_icmp .gt 17, 3) := by decide +kernel
theorem dX1_leadUpTo_9 : decode cX1_leadUpTo 9 = .ok (.iload_n 2, 1) := by decide +kernel
theorem dX1_leadUpTo_10 : decode cX1_leadUpTo 10 = .ok (.aload_n 0, 1) := by decide +kernel
theorem dX1_leadUpTo_11 : decode cX1_leadUpTo 11 = .ok (.iload_n 3, 1) := by decide +kernel
theorem dX1_leadUpTo_12 : decode cX1_leadUpTo 12 = .ok (.invokevirtual 87, 3) := by decide +kernel
theorem dX1_leadUpTo_15 : decode cX1_leadUpTo 15 = .ok (.iadd, 1) := by decide +kernel
theorem dX1_leadUpTo_16 : decode cX1_leadUpTo 16 = .ok (.istore_n 2, 1) := by decide +kernel
theorem dX1_leadUpTo_17 : decode cX1_leadUpTo 17 = .ok (.iinc 3 1, 3) := by decide +kernel
theorem dX1_leadUpTo_20 : decode cX1_leadUpTo 20 = .ok (.goto (-16), 3) := by decide +kernel
theorem dX1_leadUpTo_23 : decode cX1_leadUpTo 23 = .ok (.iload_n 2, 1) := by decide +kernel
theorem dX1_leadUpTo_24 : decode cX1_leadUpTo 24 = .ok (.ireturn, 1) := by decide +kernel
set_option maxRecDepth 20000 in
theorem ggX1_milkOf_X1_farmOn : GoodIn wsX1_milkOf wsX1_farmOn := goodIn_r _ [5, 6, 7, 14, 15, 16, 17, 18, 19, 20, 21, 22, 23, 24] (by decide +kernel) (by decide +kernel)
set_option maxRecDepth 20000 in
theorem gX1_milkOf_X1_farmOn : GoodIn wsX1_milkOf (wsV RX1 80 RX1 yX1_farmOn wsX1_farmOn) := goodIn_app (goodIn_of _ (by decide +kernel)) ggX1_milkOf_X1_farmOn
set_option maxRecDepth 20000 in
theorem ggX1_milkOf_X1_milkOn : GoodIn wsX1_milkOf wsX1_milkOn := goodIn_r _ [11, 12, 13, 14, 15, 16, 17, 18, 19, 20, 21, 22, 23, 24] (by decide +kernel) (by decide +kernel)
set_option maxRecDepth 20000 in
theorem gX1_milkOf_X1_milkOn : GoodIn wsX1_milkOf (wsV RX1 84 RX1 yX1_milkOn wsX1_milkOn) := goodIn_app (goodIn_of _ (by decide +kernel)) ggX1_milkOf_X1_milkOn
theorem dX1_milkOf_0 : decode cX1_milkOf 0 = .ok (.iconst 0, 1) := by decide +kernel
theorem dX1_milkOf_1 : decode cX1_milkOf 1 = .ok (.istore 4, 2) := by decide +kernel
theorem dX1_milkOf_3 : decode cX1_milkOf 3 = .ok (.iload_n 2, 1) := by decide +kernel
theorem dX1_milkOf_4 : decode cX1_milkOf 4 = .ok (.istore 5, 2) := by decide +kernel
theorem dX1_milkOf_6 : decode cX1_milkOf 6 = .ok (.iload 5, 2) := by decide +kernel
theorem dX1_milkOf_8 : decode cX1_milkOf 8 = .ok (.iload_n 3, 1) := by decide +kernel
theorem dX1_milkOf_9 : decode cX1_milkOf 9 = .ok (.if_icmp .gt 30, 3) := by decide +kernel
theorem dX1_milkOf_12 : decode cX1_milkOf 12 = .ok (.aload_n 0, 1) := by decide +kernel
theorem dX1_milkOf_13 : decode cX1_milkOf 13 = .ok (.iload 5, 2) := by decide +kernel
theorem dX1_milkOf_15 : decode cX1_milkOf 15 = .ok (.invokevirtual 80, 3) := by decide +kernel
theorem dX1_milkOf_18 : decode cX1_milkOf 18 = .ok (.iload_n 1, 1) := by decide +kernel
theorem dX1_milkOf_19 : decode cX1_milkOf 19 = .ok (.if_icmp .ne 14, 3) := by decide +kernel
theorem dX1_milkOf_22 : decode cX1_milkOf 22 = .ok (.iload 4, 2) := by decide +kernel
theorem dX1_milkOf_24 : decode cX1_milkOf 24 = .ok (.aload_n 0, 1) := by decide +kernel
theorem dX1_milkOf_25 : decode cX1_milkOf 25 = .ok (.iload 5, 2) := by decide +kernel
theorem dX1_milkOf_27 : decode cX1_milkOf 27 = .ok (.invokevirtual 84, 3) := by decide +kernel
theorem dX1_milkOf_30 : decode cX1_milkOf 30 = .ok (.iadd, 1) := by decide +kernel
theorem dX1_milkOf_31 : decode cX1_milkOf 31 = .ok (.istore 4, 2) := by decide +kernel
theorem dX1_milkOf_33 : decode cX1_milkOf 33 = .ok (.iinc 5 1, 3) := by decide +kernel
theorem dX1_milkOf_36 : decode cX1_milkOf 36 = .ok (.goto (-30), 3) := by decide +kernel
theorem dX1_milkOf_39 : decode cX1_milkOf 39 = .ok (.iload 4, 2) := by decide +kernel
theorem dX1_milkOf_41 : decode cX1_milkOf 41 = .ok (.ireturn, 1) := by decide +kernel
set_option maxRecDepth 20000 in
theorem ggX1_farmWalkedToBehind_X1_farmOn : GoodIn wsX1_farmWalkedToBehind wsX1_farmOn := goodIn_r _ [7, 1, 2, 8, 9, 10, 11, 12, 13, 14, 15, 16, 17, 18] (by decide +kernel) (by decide +kernel)
set_option maxRecDepth 20000 in
theorem gX1_farmWalkedToBehind_X1_farmOn : GoodIn wsX1_farmWalkedToBehind (wsV RX1 80 RX1 yX1_farmOn wsX1_farmOn) := goodIn_app (goodIn_of _ (by decide +kernel)) ggX1_farmWalkedToBehind_X1_farmOn
theorem dX1_farmWalkedToBehind_0 : decode cX1_farmWalkedToBehind 0 = .ok (.aload_n 0, 1) := by decide +kernel
theorem dX1_farmWalkedToBehind_1 : decode cX1_farmWalkedToBehind 1 = .ok (.iload_n 1, 1) := by decide +kernel
theorem dX1_farmWalkedToBehind_2 : decode cX1_farmWalkedToBehind 2 = .ok (.invokevirtual 80, 3) := by decide +kernel
theorem dX1_farmWalkedToBehind_5 : decode cX1_farmWalkedToBehind 5 = .ok (.istore_n 2, 1) := by decide +kernel
theorem dX1_farmWalkedToBehind_6 : decode cX1_farmWalkedToBehind 6 = .ok (.iconst 0, 1) := by decide +kernel
theorem dX1_farmWalkedToBehind_7 : decode cX1_farmWalkedToBehind 7 = .ok (.istore_n 3, 1) := by decide +kernel
theorem dX1_farmWalkedToBehind_8 : decode cX1_farmWalkedToBehind 8 = .ok (.iload_n 3, 1) := by decide +kernel
theorem dX1_farmWalkedToBehind_9 : decode cX1_farmWalkedToBehind 9 = .ok (.aload_n 0, 1) := by decide +kernel
theorem dX1_farmWalkedToBehind_10 : decode cX1_farmWalkedToBehind 10 = .ok (.getfield 35, 3) := by decide +kernel
theorem dX1_farmWalkedToBehind_13 : decode cX1_farmWalkedToBehind 13 = .ok (.if_icmp .ge 26, 3) := by decide +kernel
theorem dX1_farmWalkedToBehind_16 : decode cX1_farmWalkedToBehind 16 = .ok (.aload_n 0, 1) := by decide +kernel
theorem dX1_farmWalkedToBehind_17 : decode cX1_farmWalkedToBehind 17 = .ok (.getfield 9, 3) := by decide +kernel
theorem dX1_farmWalkedToBehind_20 : decode cX1_farmWalkedToBehind 20 = .ok (.iload_n 3, 1) := by decide +kernel
theorem dX1_farmWalkedToBehind_21 : decode cX1_farmWalkedToBehind 21 = .ok (.iaload, 1) := by decide +kernel
theorem dX1_farmWalkedToBehind_22 : decode cX1_farmWalkedToBehind 22 = .ok (.iload_n 2, 1) := by decide +kernel
theorem dX1_farmWalkedToBehind_23 : decode cX1_farmWalkedToBehind 23 = .ok (.if_icmp .eq 10, 3) := by decide +kernel
theorem dX1_farmWalkedToBehind_26 : decode cX1_farmWalkedToBehind 26 = .ok (.aload_n 0, 1) := by decide +kernel
theorem dX1_farmWalkedToBehind_27 : decode cX1_farmWalkedToBehind 27 = .ok (.getfield 9, 3) := by decide +kernel
theorem dX1_farmWalkedToBehind_30 : decode cX1_farmWalkedToBehind 30 = .ok (.iload_n 3, 1) := by decide +kernel
theorem dX1_farmWalkedToBehind_31 : decode cX1_farmWalkedToBehind 31 = .ok (.iaload, 1) := by decide +kernel
theorem dX1_farmWalkedToBehind_32 : decode cX1_farmWalkedToBehind 32 = .ok (.ireturn, 1) := by decide +kernel
theorem dX1_farmWalkedToBehind_33 : decode cX1_farmWalkedToBehind 33 = .ok (.iinc 3 1, 3) := by decide +kernel
theorem dX1_farmWalkedToBehind_36 : decode cX1_farmWalkedToBehind 36 = .ok (.goto (-28), 3) := by decide +kernel
theorem dX1_farmWalkedToBehind_39 : decode cX1_farmWalkedToBehind 39 = .ok (.bipush (-9), 2) := by decide +kernel
theorem dX1_farmWalkedToBehind_41 : decode cX1_farmWalkedToBehind 41 = .ok (.ireturn, 1) := by decide +kernel
theorem dX1_allBeasts_0 : decode cX1_allBeasts 0 = .ok (.iconst 1, 1) := by decide +kernel
theorem dX1_allBeasts_1 : decode cX1_allBeasts 1 = .ok (.aload_n 0, 1) := by decide +kernel
theorem dX1_allBeasts_2 : decode cX1_allBeasts 2 = .ok (.getfield 31, 3) := by decide +kernel
theorem dX1_allBeasts_5 : decode cX1_allBeasts 5 = .ok (.ishl, 1) := by decide +kernel
theorem dX1_allBeasts_6 : decode cX1_allBeasts 6 = .ok (.iconst 1, 1) := by decide +kernel
theorem dX1_allBeasts_7 : decode cX1_allBeasts 7 = .ok (.isub, 1) := by decide +kernel
theorem dX1_allBeasts_8 : decode cX1_allBeasts 8 = .ok (.ireturn, 1) := by decide +kernel
theorem dX1_setOf_0 : decode cX1_setOf 0 = .ok (.iconst 0, 1) := by decide +kernel
theorem dX1_setOf_1 : decode cX1_setOf 1 = .ok (.istore_n 2, 1) := by decide +kernel
theorem dX1_setOf_2 : decode cX1_setOf 2 = .ok (.iconst 0, 1) := by decide +kernel
theorem dX1_setOf_3 : decode cX1_setOf 3 = .ok (.istore_n 3, 1) := by decide +kernel
theorem dX1_setOf_4 : decode cX1_setOf 4 = .ok (.iload_n 3, 1) := by decide +kernel
theorem dX1_setOf_5 : decode cX1_setOf 5 = .ok (.aload_n 0, 1) := by decide +kernel
theorem dX1_setOf_6 : decode cX1_setOf 6 = .ok (.getfield 31, 3) := by decide +kernel
theorem dX1_setOf_9 : decode cX1_setOf 9 = .ok (.if_icmp .ge 28, 3) := by decide +kernel
theorem dX1_setOf_12 : decode cX1_setOf 12 = .ok (.aload_n 0, 1) := by decide +kernel
theorem dX1_setOf_13 : decode cX1_setOf 13 = .ok (.getfield 20, 3) := by decide +kernel
theorem dX1_setOf_16 : decode cX1_setOf 16 = .ok (.iload_n 3, 1) := by decide +kernel
theorem dX1_setOf_17 : decode cX1_setOf 17 = .ok (.aaload, 1) := by decide +kernel
theorem dX1_setOf_18 : decode cX1_setOf 18 = .ok (.getfield 62, 3) := by decide +kernel
theorem dX1_setOf_21 : decode cX1_setOf 21 = .ok (.iload_n 1, 1) := by decide +kernel
theorem dX1_setOf_22 : decode cX1_setOf 22 = .ok (.if_icmp .ne 9, 3) := by decide +kernel
theorem dX1_setOf_25 : decode cX1_setOf 25 = .ok (.iload_n 2, 1) := by decide +kernel
theorem dX1_setOf_26 : decode cX1_setOf 26 = .ok (.iconst 1, 1) := by decide +kernel
theorem dX1_setOf_27 : decode cX1_setOf 27 = .ok (.iload_n 3, 1) := by decide +kernel
theorem dX1_setOf_28 : decode cX1_setOf 28 = .ok (.ishl, 1) := by decide +kernel
theorem dX1_setOf_29 : decode cX1_setOf 29 = .ok (.ior, 1) := by decide +kernel
theorem dX1_setOf_30 : decode cX1_setOf 30 = .ok (.istore_n 2, 1) := by decide +kernel
theorem dX1_setOf_31 : decode cX1_setOf 31 = .ok (.iinc 3 1, 3) := by decide +kernel
theorem dX1_setOf_34 : decode cX1_setOf 34 = .ok (.goto (-30), 3) := by decide +kernel
theorem dX1_setOf_37 : decode cX1_setOf 37 = .ok (.iload_n 2, 1) := by decide +kernel
theorem dX1_setOf_38 : decode cX1_setOf 38 = .ok (.ireturn, 1) := by decide +kernel
set_option maxRecDepth 20000 in
theorem ggX1_valueOfSet_X0_valueTo : GoodIn wsX1_valueOfSet wsX0_valueTo := goodIn_r _ [7, 8, 9, 21, 22, 23, 24, 25] (by decide +kernel) (by decide +kernel)
set_option maxRecDepth 20000 in
theorem gX1_valueOfSet_X0_valueTo : GoodIn wsX1_valueOfSet (wsV RX1 90 RX0 yX0_valueTo wsX0_valueTo) := goodIn_app (goodIn_of _ (by decide +kernel)) ggX1_valueOfSet_X0_valueTo
theorem dX1_valueOfSet_0 : decode cX1_valueOfSet 0 = .ok (.iconst 0, 1) := by decide +kernel
theorem dX1_valueOfSet_1 : decode cX1_valueOfSet 1 = .ok (.istore_n 3, 1) := by decide +kernel
theorem dX1_valueOfSet_2 : decode cX1_valueOfSet 2 = .ok (.iconst 0, 1) := by decide +kernel
theorem dX1_valueOfSet_3 : decode cX1_valueOfSet 3 = .ok (.istore 4, 2) := by decide +kernel
theorem dX1_valueOfSet_5 : decode cX1_valueOfSet 5 = .ok (.iload 4, 2) := by decide +kernel
theorem dX1_valueOfSet_7 : decode cX1_valueOfSet 7 = .ok (.aload_n 0, 1) := by decide +kernel
theorem dX1_valueOfSet_8 : decode cX1_valueOfSet 8 = .ok (.getfield 31, 3) := by decide +kernel
theorem dX1_valueOfSet_11 : decode cX1_valueOfSet 11 = .ok (.if_icmp .ge 32, 3) := by decide +kernel
theorem dX1_valueOfSet_14 : decode cX1_valueOfSet 14 = .ok (.iload_n 1, 1) := by decide +kernel
