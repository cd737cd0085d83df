theorem dX10_place_94 : decode cX10_place 94 = .ok (.iload 6, 2) := by decide +kernel
theorem dX10_place_96 : decode cX10_place 96 = .ok (.iconst 1, 1) := by decide +kernel
theorem dX10_place_97 : decode cX10_place 97 = .ok (.iadd, 1) := by decide +kernel
theorem dX10_place_98 : decode cX10_place 98 = .ok (.iload_n 2, 1) := by decide +kernel
theorem dX10_place_99 : decode cX10_place 99 = .ok (.iastore, 1) := by decide +kernel
theorem dX10_place_100 : decode cX10_place 100 = .ok (.aload_n 0, 1) := by decide +kernel
theorem dX10_place_101 : decode cX10_place 101 = .ok (.getfield 19, 3) := by decide +kernel
theorem dX10_place_104 : decode cX10_place 104 = .ok (.iload 6, 2) := by decide +kernel
theorem dX10_place_106 : decode cX10_place 106 = .ok (.iconst 2, 1) := by decide +kernel
theorem dX10_place_107 : decode cX10_place 107 = .ok (.iadd, 1) := by decide +kernel
theorem dX10_place_108 : decode cX10_place 108 = .ok (.iload_n 3, 1) := by decide +kernel
theorem dX10_place_109 : decode cX10_place 109 = .ok (.iastore, 1) := by decide +kernel
theorem dX10_place_110 : decode cX10_place 110 = .ok (.aload_n 0, 1) := by decide +kernel
theorem dX10_place_111 : decode cX10_place 111 = .ok (.getfield 19, 3) := by decide +kernel
theorem dX10_place_114 : decode cX10_place 114 = .ok (.iload 6, 2) := by decide +kernel
theorem dX10_place_116 : decode cX10_place 116 = .ok (.iconst 3, 1) := by decide +kernel
theorem dX10_place_117 : decode cX10_place 117 = .ok (.iadd, 1) := by decide +kernel
theorem dX10_place_118 : decode cX10_place 118 = .ok (.iload 4, 2) := by decide +kernel
theorem dX10_place_120 : decode cX10_place 120 = .ok (.iastore, 1) := by decide +kernel
theorem dX10_place_121 : decode cX10_place 121 = .ok (.aload_n 0, 1) := by decide +kernel
theorem dX10_place_122 : decode cX10_place 122 = .ok (.getfield 19, 3) := by decide +kernel
theorem dX10_place_125 : decode cX10_place 125 = .ok (.iload 6, 2) := by decide +kernel
theorem dX10_place_127 : decode cX10_place 127 = .ok (.iconst 4, 1) := by decide +kernel
theorem dX10_place_128 : decode cX10_place 128 = .ok (.iadd, 1) := by decide +kernel
theorem dX10_place_129 : decode cX10_place 129 = .ok (.iload 5, 2) := by decide +kernel
theorem dX10_place_131 : decode cX10_place 131 = .ok (.iastore, 1) := by decide +kernel
theorem dX10_place_132 : decode cX10_place 132 = .ok (.aload_n 0, 1) := by decide +kernel
theorem dX10_place_133 : decode cX10_place 133 = .ok (.dup, 1) := by decide +kernel
theorem dX10_place_134 : decode cX10_place 134 = .ok (.getfield 106, 3) := by decide +kernel
theorem dX10_place_137 : decode cX10_place 137 = .ok (.iconst 1, 1) := by decide +kernel
theorem dX10_place_138 : decode cX10_place 138 = .ok (.iadd, 1) := by decide +kernel
theorem dX10_place_139 : decode cX10_place 139 = .ok (.putfield 106, 3) := by decide +kernel
theorem dX10_place_142 : decode cX10_place 142 = .ok (.aload_n 0, 1) := by decide +kernel
theorem dX10_place_143 : decode cX10_place 143 = .ok (.getfield 106, 3) := by decide +kernel
theorem dX10_place_146 : decode cX10_place 146 = .ok (.ireturn, 1) := by decide +kernel
set_option maxRecDepth 20000 in
theorem ggX10_mortar_X10_isBlock : GoodIn wsX10_mortar wsX10_isBlock := goodIn_r _ [7, 8, 9, 10, 6, 11, 16, 17, 18, 19, 20, 21, 22, 23, 24, 25, 26, 27, 28, 29, 30, 31, 32, 33, 34, 35, 36, 37, 38, 39, 40, 41, 42, 43, 44, 45, 46, 47, 48, 49, 50, 51] (by decide +kernel) (by decide +kernel)
set_option maxRecDepth 20000 in
theorem gX10_mortar_X10_isBlock : GoodIn wsX10_mortar (wsV RX10 101 RX10 yX10_isBlock wsX10_isBlock) := goodIn_app (goodIn_of _ (by decide +kernel)) ggX10_mortar_X10_isBlock
set_option maxRecDepth 20000 in
theorem ggX10_mortar_X10_isYear : GoodIn wsX10_mortar wsX10_isYear := goodIn_r _ [14, 15, 9, 10, 6, 11] (by decide +kernel) (by decide +kernel)
set_option maxRecDepth 20000 in
theorem gX10_mortar_X10_isYear : GoodIn wsX10_mortar (va_wsS RX10 95 yX10_isYear wsX10_isYear) := goodIn_app (goodIn_of _ (by decide +kernel)) ggX10_mortar_X10_isYear
theorem dX10_mortar_0 : decode cX10_mortar 0 = .ok (.aload_n 0, 1) := by decide +kernel
theorem dX10_mortar_1 : decode cX10_mortar 1 = .ok (.iload_n 1, 1) := by decide +kernel
theorem dX10_mortar_2 : decode cX10_mortar 2 = .ok (.invokevirtual 101, 3) := by decide +kernel
theorem dX10_mortar_5 : decode cX10_mortar 5 = .ok (.ifCond .ne 7, 3) := by decide +kernel
theorem dX10_mortar_8 : decode cX10_mortar 8 = .ok (.sipush (-1001), 3) := by decide +kernel
theorem dX10_mortar_11 : decode cX10_mortar 11 = .ok (.ireturn, 1) := by decide +kernel
theorem dX10_mortar_12 : decode cX10_mortar 12 = .ok (.iload_n 2, 1) := by decide +kernel
theorem dX10_mortar_13 : decode cX10_mortar 13 = .ok (.invokestatic 95, 3) := by decide +kernel
theorem dX10_mortar_16 : decode cX10_mortar 16 = .ok (.ifCond .ne 7, 3) := by decide +kernel
theorem dX10_mortar_19 : decode cX10_mortar 19 = .ok (.sipush (-1002), 3) := by decide +kernel
theorem dX10_mortar_22 : decode cX10_mortar 22 = .ok (.ireturn, 1) := by decide +kernel
theorem dX10_mortar_23 : decode cX10_mortar 23 = .ok (.aload_n 0, 1) := by decide +kernel
theorem dX10_mortar_24 : decode cX10_mortar 24 = .ok (.getfield 109, 3) := by decide +kernel
theorem dX10_mortar_27 : decode cX10_mortar 27 = .ok (.bipush 60, 2) := by decide +kernel
theorem dX10_mortar_29 : decode cX10_mortar 29 = .ok (.if_icmp .ne 7, 3) := by decide +kernel
theorem dX10_mortar_32 : decode cX10_mortar 32 = .ok (.sipush (-1004), 3) := by decide +kernel
theorem dX10_mortar_35 : decode cX10_mortar 35 = .ok (.ireturn, 1) := by decide +kernel
theorem dX10_mortar_36 : decode cX10_mortar 36 = .ok (.aload_n 0, 1) := by decide +kernel
theorem dX10_mortar_37 : decode cX10_mortar 37 = .ok (.getfield 22, 3) := by decide +kernel
theorem dX10_mortar_40 : decode cX10_mortar 40 = .ok (.iconst 3, 1) := by decide +kernel
theorem dX10_mortar_41 : decode cX10_mortar 41 = .ok (.aload_n 0, 1) := by decide +kernel
theorem dX10_mortar_42 : decode cX10_mortar 42 = .ok (.getfield 109, 3) := by decide +kernel
theorem dX10_mortar_45 : decode cX10_mortar 45 = .ok (.imul, 1) := by decide +kernel
theorem dX10_mortar_46 : decode cX10_mortar 46 = .ok (.iload_n 1, 1) := by decide +kernel
theorem dX10_mortar_47 : decode cX10_mortar 47 = .ok (.iastore, 1) := by decide +kernel
theorem dX10_mortar_48 : decode cX10_mortar 48 = .ok (.aload_n 0, 1) := by decide +kernel
theorem dX10_mortar_49 : decode cX10_mortar 49 = .ok (.getfield 22, 3) := by decide +kernel
theorem dX10_mortar_52 : decode cX10_mortar 52 = .ok (.iconst 3, 1) := by decide +kernel
theorem dX10_mortar_53 : decode cX10_mortar 53 = .ok (.aload_n 0, 1) := by decide +kernel
theorem dX10_mortar_54 : decode cX10_mortar 54 = .ok (.getfield 109, 3) := by decide +kernel
theorem dX10_mortar_57 : decode cX10_mortar 57 = .ok (.imul, 1) := by decide +kernel
theorem dX10_mortar_58 : decode cX10_mortar 58 = .ok (.iconst 1, 1) := by decide +kernel
theorem dX10_mortar_59 : decode cX10_mortar 59 = .ok (.iadd, 1) := by decide +kernel
theorem dX10_mortar_60 : decode cX10_mortar 60 = .ok (.iload_n 2, 1) := by decide +kernel
theorem dX10_mortar_61 : decode cX10_mortar 61 = .ok (.iastore, 1) := by decide +kernel
theorem dX10_mortar_62 : decode cX10_mortar 62 = .ok (.aload_n 0, 1) := by decide +kernel
theorem dX10_mortar_63 : decode cX10_mortar 63 = .ok (.getfield 22, 3) := by decide +kernel
theorem dX10_mortar_66 : decode cX10_mortar 66 = .ok (.iconst 3, 1) := by decide +kernel
theorem dX10_mortar_67 : decode cX10_mortar 67 = .ok (.aload_n 0, 1) := by decide +kernel
theorem dX10_mortar_68 : decode cX10_mortar 68 = .ok (.getfield 109, 3) := by decide +kernel
theorem dX10_mortar_71 : decode cX10_mortar 71 = .ok (.imul, 1) := by decide +kernel
theorem dX10_mortar_72 : decode cX10_mortar 72 = .ok (.iconst 2, 1) := by decide +kernel
theorem dX10_mortar_73 : decode cX10_mortar 73 = .ok (.iadd, 1) := by decide +kernel
theorem dX10_mortar_74 : decode cX10_mortar 74 = .ok (.iload_n 3, 1) := by decide +kernel
theorem dX10_mortar_75 : decode cX10_mortar 75 = .ok (.ifCond .eq 7, 3) := by decide +kernel
theorem dX10_mortar_78 : decode cX10_mortar 78 = .ok (.iconst 1, 1) := by decide +kernel
theorem dX10_mortar_79 : decode cX10_mortar 79 = .ok (.goto 4, 3) := by decide +kernel
theorem dX10_mortar_82 : decode cX10_mortar 82 = .ok (.iconst 0, 1) := by decide +kernel
theorem dX10_mortar_83 : decode cX10_mortar 83 = .ok (.iastore, 1) := by decide +kernel
theorem dX10_mortar_84 : decode cX10_mortar 84 = .ok (.aload_n 0, 1) := by decide +kernel
theorem dX10_mortar_85 : decode cX10_mortar 85 = .ok (.dup, 1) := by decide +kernel
theorem dX10_mortar_86 : decode cX10_mortar 86 = .ok (.getfield 109, 3) := by decide +kernel
theorem dX10_mortar_89 : decode cX10_mortar 89 = .ok (.iconst 1, 1) := by decide +kernel
theorem dX10_mortar_90 : decode cX10_mortar 90 = .ok (.iadd, 1) := by decide +kernel
theorem dX10_mortar_91 : decode cX10_mortar 91 = .ok (.putfield 109, 3) := by decide +kernel
theorem dX10_mortar_94 : decode cX10_mortar 94 = .ok (.aload_n 0, 1) := by decide +kernel
theorem dX10_mortar_95 : decode cX10_mortar 95 = .ok (.getfield 109, 3) := by decide +kernel
theorem dX10_mortar_98 : decode cX10_mortar 98 = .ok (.ireturn, 1) := by decide +kernel
set_option maxRecDepth 20000 in
theorem ggX10_rate_X10_in : GoodIn wsX10_rate wsX10_in := goodIn_r _ [7] (by decide +kernel) (by decide +kernel)
set_option maxRecDepth 20000 in
theorem gX10_rate_X10_in : GoodIn wsX10_rate (va_wsS RX10 86 yX10_in wsX10_in) := goodIn_app (goodIn_of _ (by decide +kernel)) ggX10_rate_X10_in
theorem dX10_rate_0 : decode cX10_rate 0 = .ok (.iload_n 1, 1) := by decide +kernel
theorem dX10_rate_1 : decode cX10_rate 1 = .ok (.i2l, 1) := by decide +kernel
theorem dX10_rate_2 : decode cX10_rate 2 = .ok (.lconst 0, 1) := by decide +kernel
theorem dX10_rate_3 : decode cX10_rate 3 = .ok (.ldc2_w 93, 3) := by decide +kernel
theorem dX10_rate_6 : decode cX10_rate 6 = .ok (.invokestatic 86, 3) := by decide +kernel
theorem dX10_rate_9 : decode cX10_rate 9 = .ok (.ifCond .eq 40, 3) := by decide +kernel
theorem dX10_rate_12 : decode cX10_rate 12 = .ok (.iload_n 2, 1) := by decide +kernel
theorem dX10_rate_13 : decode cX10_rate 13 = .ok (.i2l, 1) := by decide +kernel
theorem dX10_rate_14 : decode cX10_rate 14 = .ok (.lconst 0, 1) := by decide +kernel
theorem dX10_rate_15 : decode cX10_rate 15 = .ok (.ldc2_w 93, 3) := by decide +kernel
theorem dX10_rate_18 : decode cX10_rate 18 = .ok (.invokestatic 86, 3) := by decide +kernel
theorem dX10_rate_21 : decode cX10_rate 21 = .ok (.ifCond .eq 28, 3) := by decide +kernel
theorem dX10_rate_24 : decode cX10_rate 24 = .ok (.iload_n 3, 1) := by decide +kernel
theorem dX10_rate_25 : decode cX10_rate 25 = .ok (.i2l, 1) := by decide +kernel
theorem dX10_rate_26 : decode cX10_rate 26 = .ok (.lconst 0, 1) := by decide +kernel
theorem dX10_rate_27 : decode cX10_rate 27 = .ok (.ldc2_w 93, 3) := by decide +kernel
theorem dX10_rate_30 : decode cX10_rate 30 = .ok (.invokestatic 86, 3) := by decide +kernel
theorem dX10_rate_33 : decode cX10_rate 33 = .ok (.ifCond .eq 16, 3) := by decide +kernel
theorem dX10_rate_36 : decode cX10_rate 36 = .ok (.iload 4, 2) := by decide +kernel
theorem dX10_rate_38 : decode cX10_rate 38 = .ok (.i2l, 1) := by decide +kernel
theorem dX10_rate_39 : decode cX10_rate 39 = .ok (.lconst 0, 1) := by decide +kernel
theorem dX10_rate_40 : decode cX10_rate 40 = .ok (.ldc2_w 112, 3) := by decide +kernel
theorem dX10_rate_43 : decode cX10_rate 43 = .ok (.invokestatic 86, 3) := by decide +kernel
theorem dX10_rate_46 : decode cX10_rate 46 = .ok (.ifCond .ne 7, 3) := by decide +kernel
theorem dX10_rate_49 : decode cX10_rate 49 = .ok (.sipush (-1002), 3) := by decide +kernel
theorem dX10_rate_52 : decode cX10_rate 52 = .ok (.ireturn, 1) := by decide +kernel
theorem dX10_rate_53 : decode cX10_rate 53 = .ok (.bipush 16, 2) := by decide +kernel
theorem dX10_rate_55 : decode cX10_rate 55 = .ok (.iload_n 1, 1) := by decide +kernel
theorem dX10_rate_56 : decode cX10_rate 56 = .ok (.imul, 1) := by decide +kernel
theorem dX10_rate_57 : decode cX10_rate 57 = .ok (.iconst 4, 1) := by decide +kernel
theorem dX10_rate_58 : decode cX10_rate 58 = .ok (.iload_n 2, 1) := by decide +kernel
theorem dX10_rate_59 : decode cX10_rate 59 = .ok (.imul, 1) := by decide +kernel
theorem dX10_rate_60 : decode cX10_rate 60 = .ok (.iadd, 1) := by decide +kernel
theorem dX10_rate_61 : decode cX10_rate 61 = .ok (.iload_n 3, 1) := by decide +kernel
theorem dX10_rate_62 : decode cX10_rate 62 = .ok (.iadd, 1) := by decide +kernel
theorem dX10_rate_63 : decode cX10_rate 63 = .ok (.istore 5, 2) := by decide +kernel
theorem dX10_rate_65 : decode cX10_rate 65 = .ok (.aload_n 0, 1) := by decide +kernel
theorem dX10_rate_66 : decode cX10_rate 66 = .ok (.getfield 25, 3) := by decide +kernel
theorem dX10_rate_69 : decode cX10_rate 69 = .ok (.iload 5, 2) := by decide +kernel
theorem dX10_rate_71 : decode cX10_rate 71 = .ok (.iaload, 1) := by decide +kernel
theorem dX10_rate_72 : decode cX10_rate 72 = .ok (.istore 6, 2) := by decide +kernel
theorem dX10_rate_74 : decode cX10_rate 74 = .ok (.aload_n 0, 1) := by decide +kernel
theorem dX10_rate_75 : decode cX10_rate 75 = .ok (.getfield 25, 3) := by decide +kernel
theorem dX10_rate_78 : decode cX10_rate 78 = .ok (.iload 5, 2) := by decide +kernel
theorem dX10_rate_80 : decode cX10_rate 80 = .ok (.iload 4, 2) := by decide +kernel
theorem dX10_rate_82 : decode cX10_rate 82 = .ok (.iastore, 1) := by decide +kernel
theorem dX10_rate_83 : decode cX10_rate 83 = .ok (.iload 6, 2) := by decide +kernel
theorem dX10_rate_85 : decode cX10_rate 85 = .ok (.ireturn, 1) := by decide +kernel
set_option maxRecDepth 20000 in
theorem ggX10_limit_X10_in : GoodIn wsX10_limit wsX10_in := goodIn_r _ [6] (by decide +kernel) (by decide +kernel)
set_option maxRecDepth 20000 in
theorem gX10_limit_X10_in : GoodIn wsX10_limit (va_wsS RX10 86 yX10_in wsX10_in) := goodIn_app (goodIn_of _ (by decide +kernel)) ggX10_limit_X10_in
theorem dX10_limit_0 : decode cX10_limit 0 = .ok (.iload_n 1, 1) := by decide +kernel
theorem dX10_limit_1 : decode cX10_limit 1 = .ok (.i2l, 1) := by decide +kernel
theorem dX10_limit_2 : decode cX10_limit 2 = .ok (.lconst 1, 1) := by decide +kernel
theorem dX10_limit_3 : decode cX10_limit 3 = .ok (.ldc2_w 114, 3) := by decide +kernel
theorem dX10_limit_6 : decode cX10_limit 6 = .ok (.invokestatic 86, 3) := by decide +kernel
theorem dX10_limit_9 : decode cX10_limit 9 = .ok (.ifCond .ne 7, 3) := by decide +kernel
theorem dX10_limit_12 : decode cX10_limit 12 = .ok (.sipush (-1002), 3) := by decide +kernel
theorem dX10_limit_15 : decode cX10_limit 15 = .ok (.ireturn, 1) := by decide +kernel
theorem dX10_limit_16 : decode cX10_limit 16 = .ok (.aload_n 0, 1) := by decide +kernel
theorem dX10_limit_17 : decode cX10_limit 17 = .ok (.getfield 28, 3) := by decide +kernel
theorem dX10_limit_20 : decode cX10_limit 20 = .ok (.istore_n 2, 1) := by decide +kernel
theorem dX10_limit_21 : decode cX10_limit 21 = .ok (.aload_n 0, 1) := by decide +kernel
theorem dX10_limit_22 : decode cX10_limit 22 = .ok (.iload_n 1, 1) := by decide +kernel
theorem dX10_limit_23 : decode cX10_limit 23 = .ok (.putfield 28, 3) := by decide +kernel
theorem dX10_limit_26 : decode cX10_limit 26 = .ok (.iload_n 2, 1) := by decide +kernel
theorem dX10_limit_27 : decode cX10_limit 27 = .ok (.ireturn, 1) := by decide +kernel
theorem dX10_ruling_0 : decode cX10_ruling 0 = .ok (.iconst (-1), 1) := by decide +kernel
theorem dX10_ruling_1 : decode cX10_ruling 1 = .ok (.istore 6, 2) := by decide +kernel
theorem dX10_ruling_3 : decode cX10_ruling 3 = .ok (.iconst 0, 1) := by decide +kernel
theorem dX10_ruling_4 : decode cX10_ruling 4 = .ok (.istore 7, 2) := by decide +kernel
theorem dX10_ruling_6 : decode cX10_ruling 6 = .ok (.iload 7, 2) := by decide +kernel
theorem dX10_ruling_8 : decode cX10_ruling 8 = .ok (.iload_n 1, 1) := by decide +kernel
theorem dX10_ruling_9 : decode cX10_ruling 9 = .ok (.if_icmp .ge 77, 3) := by decide +kernel
theorem dX10_ruling_12 : decode cX10_ruling 12 = .ok (.aload_n 0, 1) := by decide +kernel
theorem dX10_ruling_13 : decode cX10_ruling 13 = .ok (.iload_n 2, 1) := by decide +kernel
theorem dX10_ruling_14 : decode cX10_ruling 14 = .ok (.iload 7, 2) := by decide +kernel
theorem dX10_ruling_16 : decode cX10_ruling 16 = .ok (.imul, 1) := by decide +kernel
theorem dX10_ruling_17 : decode cX10_ruling 17 = .ok (.iaload, 1) := by decide +kernel
theorem dX10_ruling_18 : decode cX10_ruling 18 = .ok (.iload_n 3, 1) := by decide +kernel
theorem dX10_ruling_19 : decode cX10_ruling 19 = .ok (.if_icmp .ne 20, 3) := by decide +kernel
theorem dX10_ruling_22 : decode cX10_ruling 22 = .ok (.aload_n 0, 1) := by decide +kernel
theorem dX10_ruling_23 : decode cX10_ruling 23 = .ok (.iload_n 2, 1) := by decide +kernel
theorem dX10_ruling_24 : decode cX10_ruling 24 = .ok (.iload 7, 2) := by decide +kernel
theorem dX10_ruling_26 : decode cX10_ruling 26 = .ok (.imul, 1) := by decide +kernel
theorem dX10_ruling_27 : decode cX10_ruling 27 = .ok (.iconst 1, 1) := by decide +kernel
theorem dX10_ruling_28 : decode cX10_ruling 28 = .ok (.iadd, 1) := by decide +kernel
theorem dX10_ruling_29 : decode cX10_ruling 29 = .ok (.iaload, 1) := by decide +kernel
theorem dX10_ruling_30 : decode cX10_ruling 30 = .ok (.iload 4, 2) := by decide +kernel
theorem dX10_ruling_32 : decode cX10_ruling 32 = .ok (.if_icmp .gt 7, 3) := by decide +kernel
theorem dX10_ruling_35 : decode cX10_ruling 35 = .ok (.iconst 1, 1) := by decide +kernel
theorem dX10_ruling_36 : decode cX10_ruling 36 = .ok (.goto 4, 3) := by decide +kernel
theorem dX10_ruling_39 : decode cX10_ruling 39 = .ok (.iconst 0, 1) := by decide +kernel
theorem dX10_ruling_40 : decode cX10_ruling 40 = .ok (.istore 8, 2) := by decide +kernel
theorem dX10_ruling_42 : decode cX10_ruling 42 = .ok (.iload 8, 2) := by decide +kernel
theorem dX10_ruling_44 : decode cX10_ruling 44 = .ok (.ifCond .eq 32, 3) := by decide +kernel
theorem dX10_ruling_47 : decode cX10_ruling 47 = .ok (.iload 6, 2) := by decide +kernel
theorem dX10_ruling_49 : decode cX10_ruling 49 = .ok (.ifCond .lt 22, 3) := by decide +kernel
theorem dX10_ruling_52 : decode cX10_ruling 52 = .ok (.aload_n 0, 1) := by decide +kernel
theorem dX10_ruling_53 : decode cX10_ruling 53 = .ok (.iload_n 2, 1) := by decide +kernel
theorem dX10_ruling_54 : decode cX10_ruling 54 = .ok (.iload 7, 2) := by decide +kernel
theorem dX10_ruling_56 : decode cX10_ruling 56 = .ok (.imul, 1) := by decide +kernel
theorem dX10_ruling_57 : decode cX10_ruling 57 = .ok (.iconst 1, 1) := by decide +kernel
theorem dX10_ruling_58 : decode cX10_ruling 58 = .ok (.iadd, 1) := by decide +kernel
theorem dX10_ruling_59 : decode cX10_ruling 59 = .ok (.iaload, 1) := by decide +kernel
theorem dX10_ruling_60 : decode cX10_ruling 60 = .ok (.aload_n 0, 1) := by decide +kernel
theorem dX10_ruling_61 : decode cX10_ruling 61 = .ok (.iload_n 2, 1) := by decide +kernel
theorem dX10_ruling_62 : decode cX10_ruling 62 = .ok (.iload 6, 2) := by decide +kernel
theorem dX10_ruling_64 : decode cX10_ruling 64 = .ok (.imul, 1) := by decide +kernel
theorem dX10_ruling_65 : decode cX10_ruling 65 = .ok (.iconst 1, 1) := by decide +kernel
theorem dX10_ruling_66 : decode cX10_ruling 66 = .ok (.iadd, 1) := by decide +kernel
theorem dX10_ruling_67 : decode cX10_ruling 67 = .ok (.iaload, 1) := by decide +kernel
theorem dX10_ruling_68 : decode cX10_ruling 68 = .ok (.if_icmp .lt 8, 3) := by decide +kernel
theorem dX10_ruling_71 : decode cX10_ruling 71 = .ok (.iload 7, 2) := by decide +kernel
theorem dX10_ruling_73 : decode cX10_ruling 73 = .ok (.goto 5, 3) := by decide +kernel
theorem dX10_ruling_76 : decode cX10_ruling 76 = .ok (.iload 6, 2) := by decide +kernel
theorem dX10_ruling_78 : decode cX10_ruling 78 = .ok (.istore 6, 2) := by decide +kernel
theorem dX10_ruling_80 : decode cX10_ruling 80 = .ok (.iinc 7 1, 3) := by decide +kernel
theorem dX10_ruling_83 : decode cX10_ruling 83 = .ok (.goto (-77), 3) := by decide +kernel
theorem dX10_ruling_86 : decode cX10_ruling 86 = .ok (.iload 6, 2) := by decide +kernel
theorem dX10_ruling_88 : decode cX10_ruling 88 = .ok (.ifCond .ge 7, 3) := by decide +kernel
theorem dX10_ruling_91 : decode cX10_ruling 91 = .ok (.iconst 0, 1) := by decide +kernel
theorem dX10_ruling_92 : decode cX10_ruling 92 = .ok (.goto 12, 3) := by decide +kernel
theorem dX10_ruling_95 : decode cX10_ruling 95 = .ok (.aload_n 0, 1) := by decide +kernel
theorem dX10_ruling_96 : decode cX10_ruling 96 = .ok (.iload_n 2, 1) := by decide +kernel
theorem dX10_ruling_97 : decode cX10_ruling 97 = .ok (.iload 6, 2) := by decide +kernel
theorem dX10_ruling_99 : decode cX10_ruling 99 = .ok (.imul, 1) := by decide +kernel
theorem dX10_ruling_100 : decode cX10_ruling 100 = .ok (.iload 5, 2) := by decide +kernel
theorem dX10_ruling_102 : decode cX10_ruling 102 = .ok (.iadd, 1) := by decide +kernel
theorem dX10_ruling_103 : decode cX10_ruling 103 = .ok (.iaload, 1) := by decide +kernel
theorem dX10_ruling_104 : decode cX10_ruling 104 = .ok (.ireturn, 1) := by decide +kernel
set_option maxRecDepth 20000 in
theorem ggX10_placeOf_X10_ruling : GoodIn wsX10_placeOf wsX10_ruling := goodIn_r _ [6] (by decide +kernel) (by decide +kernel)
set_option maxRecDepth 20000 in
theorem gX10_placeOf_X10_ruling : GoodIn wsX10_placeOf (va_wsS RX10 116 yX10_ruling wsX10_ruling) := goodIn_app (goodIn_of _ (by decide +kernel)) ggX10_placeOf_X10_ruling
theorem dX10_placeOf_0 : decode cX10_placeOf 0 = .ok (.aload_n 0, 1) := by decide +kernel
theorem dX10_placeOf_1 : decode cX10_placeOf 1 = .ok (.getfield 19, 3) := by decide +kernel
theorem dX10_placeOf_4 : decode cX10_placeOf 4 = .ok (.aload_n 0, 1) := by decide +kernel
theorem dX10_placeOf_5 : decode cX10_placeOf 5 = .ok (.getfield 106, 3) := by decide +kernel
theorem dX10_placeOf_8 : decode cX10_placeOf 8 = .ok (.iconst 5, 1) := by decide +kernel
theorem dX10_placeOf_9 : decode cX10_placeOf 9 = .ok (.iload_n 1, 1) := by decide +kernel
theorem dX10_placeOf_10 : decode cX10_placeOf 10 = .ok (.iload_n 2, 1) := by decide +kernel
theorem dX10_placeOf_11 : decode cX10_placeOf 11 = .ok (.iload_n 3, 1) := by decide +kernel
theorem dX10_placeOf_12 : decode cX10_placeOf 12 = .ok (.invokestatic 116, 3) := by decide +kernel
theorem dX10_placeOf_15 : decode cX10_placeOf 15 = .ok (.ireturn, 1) := by decide +kernel
set_option maxRecDepth 20000 in
theorem ggX10_harmOf_X10_ruling : GoodIn wsX10_harmOf wsX10_ruling := goodIn_r _ [6] (by decide +kernel) (by decide +kernel)
set_option maxRecDepth 20000 in
theorem gX10_harmOf_X10_ruling : GoodIn wsX10_harmOf (va_wsS RX10 116 yX10_ruling wsX10_ruling) := goodIn_app (goodIn_of _ (by decide +kernel)) ggX10_harmOf_X10_ruling
theorem dX10_harmOf_0 : decode cX10_harmOf 0 = .ok (.aload_n 0, 1) := by decide +kernel
theorem dX10_harmOf_1 : decode cX10_harmOf 1 = .ok (.getfield 22, 3) := by decide +kernel
theorem dX10_harmOf_4 : decode cX10_harmOf 4 = .ok (.aload_n 0, 1) := by decide +kernel
theorem dX10_harmOf_5 : decode cX10_harmOf 5 = .ok (.getfield 109, 3) := by decide +kernel
theorem dX10_harmOf_8 : decode cX10_harmOf 8 = .ok (.iconst 3, 1) := by decide +kernel
theorem dX10_harmOf_9 : decode cX10_harmOf 9 = .ok (.iload_n 1, 1) := by decide +kernel
theorem dX10_harmOf_10 : decode cX10_harmOf 10 = .ok (.iload_n 2, 1) := by decide +kernel
theorem dX10_harmOf_11 : decode cX10_harmOf 11 = .ok (.iconst 2, 1) := by decide +kernel
theorem dX10_harmOf_12 : decode cX10_harmOf 12 = .ok (.invokestatic 116, 3) := by decide +kernel
theorem dX10_harmOf_15 : decode cX10_harmOf 15 = .ok (.ireturn, 1) := by decide +kernel
set_option maxRecDepth 20000 in
theorem ggX10_lossIn_X10_placeOf : GoodIn wsX10_lossIn wsX10_placeOf := goodIn_r _ [7, 8, 9, 10, 11, 6, 12, 19, 20, 21, 22, 23, 24, 25, 26, 27, 28, 29, 30, 31, 32, 33, 34, 35, 36, 37, 38, 39, 40, 41, 42, 43, 44, 45, 46, 47, 48, 49, 50, 51, 52, 53, 54] (by decide +kernel) (by decide +kernel)
set_option maxRecDepth 20000 in
theorem gX10_lossIn_X10_placeOf : GoodIn wsX10_lossIn (wsV RX10 120 RX10 yX10_placeOf wsX10_placeOf) := goodIn_app (goodIn_of _ (by decide +kernel)) ggX10_lossIn_X10_placeOf
set_option maxRecDepth 20000 in
theorem ggX10_lossIn_X10_harmOf : GoodIn wsX10_lossIn wsX10_harmOf := goodIn_r _ [16, 17, 18, 10, 11, 6, 12, 19, 20, 21, 22, 23, 24, 25, 26, 27, 28, 29, 30, 31, 32, 33, 34, 35, 36, 37, 38, 39, 40, 41, 42, 43, 44, 45, 46, 47, 48, 49, 50, 51, 52, 53, 54] (by decide +kernel) (by decide +kernel)
set_option maxRecDepth 20000 in
theorem gX10_lossIn_X10_harmOf : GoodIn wsX10_lossIn (wsV RX10 124 RX10 yX10_harmOf wsX10_harmOf) := goodIn_app (goodIn_of _ (by decide +kernel)) ggX10_lossIn_X10_harmOf
theorem dX10_lossIn_0 : decode cX10_lossIn 0 = .ok (.aload_n 0, 1) := by decide +kernel
theorem dX10_lossIn_1 : decode cX10_lossIn 1 = .ok (.getfield 25, 3) := by decide +kernel
theorem dX10_lossIn_4 : decode cX10_lossIn 4 = .ok (.bipush 16, 2) := by decide +kernel
theorem dX10_lossIn_6 : decode cX10_lossIn 6 = .ok (.aload_n 0, 1) := by decide +kernel
theorem dX10_lossIn_7 : decode cX10_lossIn 7 = .ok (.getfield 7, 3) := by decide +kernel
theorem dX10_lossIn_10 : decode cX10_lossIn 10 = .ok (.iload_n 1, 1) := by decide +kernel
theorem dX10_lossIn_11 : decode cX10_lossIn 11 = .ok (.iaload, 1) := by decide +kernel
theorem dX10_lossIn_12 : decode cX10_lossIn 12 = .ok (.imul, 1) := by decide +kernel
theorem dX10_lossIn_13 : decode cX10_lossIn 13 = .ok (.iconst 4, 1) := by decide +kernel
theorem dX10_lossIn_14 : decode cX10_lossIn 14 = .ok (.aload_n 0, 1) := by decide +kernel
theorem dX10_lossIn_15 : decode cX10_lossIn 15 = .ok (.iload_n 1, 1) := by decide +kernel
theorem dX10_lossIn_16 : decode cX10_lossIn 16 = .ok (.iload_n 2, 1) := by decide +kernel
theorem dX10_lossIn_17 : decode cX10_lossIn 17 = .ok (.iconst 2, 1) := by decide +kernel
theorem dX10_lossIn_18 : decode cX10_lossIn 18 = .ok (.invokevirtual 120, 3) := by decide +kernel
theorem dX10_lossIn_21 : decode cX10_lossIn 21 = .ok (.imul, 1) := by decide +kernel
theorem dX10_lossIn_22 : decode cX10_lossIn 22 = .ok (.iadd, 1) := by decide +kernel
theorem dX10_lossIn_23 : decode cX10_lossIn 23 = .ok (.aload_n 0, 1) := by decide +kernel
theorem dX10_lossIn_24 : decode cX10_lossIn 24 = .ok (.iload_n 1, 1) := by decide +kernel
theorem dX10_lossIn_25 : decode cX10_lossIn 25 = .ok (.iload_n 2, 1) := by decide +kernel
theorem dX10_lossIn_26 : decode cX10_lossIn 26 = .ok (.iconst 3, 1) := by decide +kernel
theorem dX10_lossIn_27 : decode cX10_lossIn 27 = .ok (.invokevirtual 120, 3) := by decide +kernel
theorem dX10_lossIn_30 : decode cX10_lossIn 30 = .ok (.iadd, 1) := by decide +kernel
theorem dX10_lossIn_31 : decode cX10_lossIn 31 = .ok (.iaload, 1) := by decide +kernel
theorem dX10_lossIn_32 : decode cX10_lossIn 32 = .ok (.iconst 1, 1) := by decide +kernel
theorem dX10_lossIn_33 : decode cX10_lossIn 33 = .ok (.aload_n 0, 1) := by decide +kernel
theorem dX10_lossIn_34 : decode cX10_lossIn 34 = .ok (.iload_n 1, 1) := by decide +kernel
theorem dX10_lossIn_35 : decode cX10_lossIn 35 = .ok (.iload_n 2, 1) := by decide +kernel
theorem dX10_lossIn_36 : decode cX10_lossIn 36 = .ok (.invokevirtual 124, 3) := by decide +kernel
theorem dX10_lossIn_39 : decode cX10_lossIn 39 = .ok (.iadd, 1) := by decide +kernel
theorem dX10_lossIn_40 : decode cX10_lossIn 40 = .ok (.imul, 1) := by decide +kernel
theorem dX10_lossIn_41 : decode cX10_lossIn 41 = .ok (.ireturn, 1) := by decide +kernel
set_option maxRecDepth 20000 in
theorem ggX10_lostAt_X10_lossIn : GoodIn wsX10_lostAt wsX10_lossIn := goodIn_r _ [6, 7, 8, 9, 10, 11, 5, 12, 13, 14, 15, 16, 17, 18, 19, 20, 21, 22, 23, 24, 25, 26, 27, 28, 29, 30, 31, 32, 33, 34, 35, 36, 37, 38, 39, 40, 41, 42, 43, 44, 45, 46, 47, 48, 49, 50, 51, 52, 53, 54, 55, 56, 57, 58, 59] (by decide +kernel) (by decide +kernel)
set_option maxRecDepth 20000 in
theorem gX10_lostAt_X10_lossIn : GoodIn wsX10_lostAt (wsV RX10 128 RX10 yX10_lossIn wsX10_lossIn) := goodIn_app (goodIn_of _ (by decide +kernel)) ggX10_lostAt_X10_lossIn
theorem dX10_lostAt_0 : decode cX10_lostAt 0 = .ok (.iconst 0, 1) := by decide +kernel
theorem dX10_lostAt_1 : decode cX10_lostAt 1 = .ok (.istore_n 3, 1) := by decide +kernel
theorem dX10_lostAt_2 : decode cX10_lostAt 2 = .ok (.aload_n 0, 1) := by decide +kernel
theorem dX10_lostAt_3 : decode cX10_lostAt 3 = .ok (.getfield 13, 3) := by decide +kernel
theorem dX10_lostAt_6 : decode cX10_lostAt 6 = .ok (.iload_n 1, 1) := by decide +kernel
theorem dX10_lostAt_7 : decode cX10_lostAt 7 = .ok (.iaload, 1) := by decide +kernel
theorem dX10_lostAt_8 : decode cX10_lostAt 8 = .ok (.istore 4, 2) := by decide +kernel
theorem dX10_lostAt_10 : decode cX10_lostAt 10 = .ok (.iload 4, 2) := by decide +kernel
theorem dX10_lostAt_12 : decode cX10_lostAt 12 = .ok (.iload_n 2, 1) := by decide +kernel
theorem dX10_lostAt_13 : decode cX10_lostAt 13 = .ok (.if_icmp .ge 19, 3) := by decide +kernel
theorem dX10_lostAt_16 : decode cX10_lostAt 16 = .ok (.iload_n 3, 1) := by decide +kernel
theorem dX10_lostAt_17 : decode cX10_lostAt 17 = .ok (.aload_n 0, 1) := by decide +kernel
theorem dX10_lostAt_18 : decode cX10_lostAt 18 = .ok (.iload_n 1, 1) := by decide +kernel
theorem dX10_lostAt_19 : decode cX10_lostAt 19 = .ok (.iload 4, 2) := by decide +kernel
theorem dX10_lostAt_21 : decode cX10_lostAt 21 = .ok (.invokevirtual 128, 3) := by decide +kernel
theorem dX10_lostAt_24 : decode cX10_lostAt 24 = .ok (.iadd, 1) := by decide +kernel
theorem dX10_lostAt_25 : decode cX10_lostAt 25 = .ok (.istore_n 3, 1) := by decide +kernel
theorem dX10_lostAt_26 : decode cX10_lostAt 26 = .ok (.iinc 4 1, 3) := by decide +kernel
theorem dX10_lostAt_29 : decode cX10_lostAt 29 = .ok (.goto (-19), 3) := by decide +kernel
theorem dX10_lostAt_32 : decode cX10_lostAt 32 = .ok (.iload_n 3, 1) := by decide +kernel
theorem dX10_lostAt_33 : decode cX10_lostAt 33 = .ok (.ireturn, 1) := by decide +kernel
set_option maxRecDepth 20000 in
theorem ggX10_dangerOf_X10_lossIn : GoodIn wsX10_dangerOf wsX10_lossIn := goodIn_r _ [8, 9, 10, 11, 12, 13, 7, 14, 15, 16, 17, 18, 19, 20, 21, 22, 23, 24, 25, 26, 27, 28, 29, 30, 31, 32, 33, 34, 35, 36, 37, 38, 39, 40, 41, 42, 43, 44, 45, 46, 47, 48, 49, 50, 51, 52, 53, 54, 55, 56, 57, 58, 59, 60, 61] (by decide +kernel) (by decide +kernel)
set_option maxRecDepth 20000 in
theorem gX10_dangerOf_X10_lossIn : GoodIn wsX10_dangerOf (wsV RX10 128 RX10 yX10_lossIn wsX10_lossIn) := goodIn_app (goodIn_of _ (by decide +kernel)) ggX10_dangerOf_X10_lossIn
theorem dX10_dangerOf_0 : decode cX10_dangerOf 0 = .ok (.iconst 0, 1) := by decide +kernel
theorem dX10_dangerOf_1 : decode cX10_dangerOf 1 = .ok (.istore_n 2, 1) := by decide +kernel
theorem dX10_dangerOf_2 : decode cX10_dangerOf 2 = .ok (.aload_n 0, 1) := by decide +kernel
theorem dX10_dangerOf_3 : decode cX10_dangerOf 3 = .ok (.getfield 13, 3) := by decide +kernel
theorem dX10_dangerOf_6 : decode cX10_dangerOf 6 = .ok (.iload_n 1, 1) := by decide +kernel
theorem dX10_dangerOf_7 : decode cX10_dangerOf 7 = .ok (.iaload, 1) := by decide +kernel
theorem dX10_dangerOf_8 : decode cX10_dangerOf 8 = .ok (.istore_n 3, 1) := by decide +kernel
theorem dX10_dangerOf_9 : decode cX10_dangerOf 9 = .ok (.iload_n 3, 1) := by decide +kernel
theorem dX10_dangerOf_10 : decode cX10_dangerOf 10 = .ok (.sipush 400, 3) := by decide +kernel
theorem dX10_dangerOf_13 : decode cX10_dangerOf 13 = .ok (.if_icmp .gt 38, 3) := by decide +kernel
theorem dX10_dangerOf_16 : decode cX10_dangerOf 16 = .ok (.bipush 100, 2) := by decide +kernel
theorem dX10_dangerOf_18 : decode cX10_dangerOf 18 = .ok (.iload_n 2, 1) := by decide +kernel
theorem dX10_dangerOf_19 : decode cX10_dangerOf 19 = .ok (.imul, 1) := by decide +kernel
theorem dX10_dangerOf_20 : decode cX10_dangerOf 20 = .ok (.aload_n 0, 1) := by decide +kernel
theorem dX10_dangerOf_21 : decode cX10_dangerOf 21 = .ok (.getfield 16, 3) := by decide +kernel
theorem dX10_dangerOf_24 : decode cX10_dangerOf 24 = .ok (.iload_n 1, 1) := by decide +kernel
theorem dX10_dangerOf_25 : decode cX10_dangerOf 25 = .ok (.iaload, 1) := by decide +kernel
theorem dX10_dangerOf_26 : decode cX10_dangerOf 26 = .ok (.aload_n 0, 1) := by decide +kernel
theorem dX10_dangerOf_27 : decode cX10_dangerOf 27 = .ok (.getfield 28, 3) := by decide +kernel
theorem dX10_dangerOf_30 : decode cX10_dangerOf 30 = .ok (.imul, 1) := by decide +kernel
theorem dX10_dangerOf_31 : decode cX10_dangerOf 31 = .ok (.if_icmp .lt 5, 3) := by decide +kernel
theorem dX10_dangerOf_34 : decode cX10_dangerOf 34 = .ok (.iload_n 3, 1) := by decide +kernel
theorem dX10_dangerOf_35 : decode cX10_dangerOf 35 = .ok (.ireturn, 1) := by decide +kernel
theorem dX10_dangerOf_36 : decode cX10_dangerOf 36 = .ok (.iload_n 2, 1) := by decide +kernel
theorem dX10_dangerOf_37 : decode cX10_dangerOf 37 = .ok (.aload_n 0, 1) := by decide +kernel
theorem dX10_dangerOf_38 : decode cX10_dangerOf 38 = .ok (.iload_n 1, 1) := by decide +kernel
theorem dX10_dangerOf_39 : decode cX10_dangerOf 39 = .ok (.iload_n 3, 1) := by decide +kernel
theorem dX10_dangerOf_40 : decode cX10_dangerOf 40 = .ok (.invokevirtual 128, 3) := by decide +kernel
theorem dX10_dangerOf_43 : decode cX10_dangerOf 43 = .ok (.iadd, 1) := by decide +kernel
theorem dX10_dangerOf_44 : decode cX10_dangerOf 44 = .ok (.istore_n 2, 1) := by decide +kernel
theorem dX10_dangerOf_45 : decode cX10_dangerOf 45 = .ok (.iinc 3 1, 3) := by decide +kernel
theorem dX10_dangerOf_48 : decode cX10_dangerOf 48 = .ok (.goto (-39), 3) := by decide +kernel
theorem dX10_dangerOf_51 : decode cX10_dangerOf 51 = .ok (.iconst (-1), 1) := by decide +kernel
theorem dX10_dangerOf_52 : decode cX10_dangerOf 52 = .ok (.ireturn, 1) := by decide +kernel
set_option maxRecDepth 20000 in
theorem ggX10_told_X10_isBlock : GoodIn wsX10_told wsX10_isBlock := goodIn_r _ [8, 9, 10, 11, 7, 12, 46, 47, 48, 49, 50, 51, 52, 53, 54, 55, 56, 57, 58, 59, 60, 61, 62, 63, 64, 65, 66, 67, 68, 69, 70, 71, 72, 73, 74, 75, 76, 77, 78, 79, 80, 81] (by decide +kernel) (by decide +kernel)
set_option maxRecDepth 20000 in
theorem gX10_told_X10_isBlock : GoodIn wsX10_told (wsV RX10 101 RX10 yX10_isBlock wsX10_isBlock) := goodIn_app (goodIn_of _ (by decide +kernel)) ggX10_told_X10_isBlock
set_option maxRecDepth 20000 in
theorem ggX10_told_X10_isYear : GoodIn wsX10_told wsX10_isYear := goodIn_r _ [15, 16, 10, 11, 7, 12] (by decide +kernel) (by decide +kernel)
set_option maxRecDepth 20000 in
theorem gX10_told_X10_isYear : GoodIn wsX10_told (va_wsS RX10 95 yX10_isYear wsX10_isYear) := goodIn_app (goodIn_of _ (by decide +kernel)) ggX10_told_X10_isYear
set_option maxRecDepth 20000 in
theorem ggX10_told_X10_placeOf : GoodIn wsX10_told wsX10_placeOf := goodIn_r _ [20, 21, 22, 23, 24, 7, 25, 46, 47, 48, 49, 50, 51, 52, 53, 54, 55, 56, 57, 58, 59, 60, 61, 62, 63, 64, 65, 66, 67, 68, 69, 70, 71, 72, 73, 74, 75, 76, 77, 78, 79, 80, 81] (by decide +kernel) (by decide +kernel)
set_option maxRecDepth 20000 in
theorem gX10_told_X10_placeOf : GoodIn wsX10_told (wsV RX10 120 RX10 yX10_placeOf wsX10_placeOf) := goodIn_app (goodIn_of _ (by decide +kernel)) ggX10_told_X10_placeOf
set_option maxRecDepth 20000 in
theorem ggX10_told_X10_harmOf : GoodIn wsX10_told wsX10_harmOf := goodIn_r _ [29, 30, 31, 23, 24, 7, 25, 46, 47, 48, 49, 50, 51, 52, 53, 54, 55, 56, 57, 58, 59, 60, 61, 62, 63, 64, 65, 66, 67, 68, 69, 70, 71, 72, 73, 74, 75, 76, 77, 78, 79, 80, 81] (by decide +kernel) (by decide +kernel)
set_option maxRecDepth 20000 in
theorem gX10_told_X10_harmOf : GoodIn wsX10_told (wsV RX10 124 RX10 yX10_harmOf wsX10_harmOf) := goodIn_app (goodIn_of _ (by decide +kernel)) ggX10_told_X10_harmOf
set_option maxRecDepth 20000 in
theorem ggX10_told_X10_lostAt : GoodIn wsX10_told wsX10_lostAt := goodIn_r _ [35, 2, 36, 37, 38, 7, 39, 40, 1, 17, 18, 19, 20, 21, 22, 23, 24, 25, 26, 27, 28, 29, 30, 31, 46, 47, 48, 49, 50, 51, 52, 53, 54, 55, 56, 57, 58, 59, 60, 61, 62, 63, 64, 65, 66, 67, 68, 69, 70, 71, 72, 73, 74, 75, 76, 77, 78, 79, 80, 81] (by decide +kernel) (by decide +kernel)
set_option maxRecDepth 20000 in
theorem gX10_told_X10_lostAt : GoodIn wsX10_told (wsV RX10 131 RX10 yX10_lostAt wsX10_lostAt) := goodIn_app (goodIn_of _ (by decide +kernel)) ggX10_told_X10_lostAt
set_option maxRecDepth 20000 in
theorem ggX10_told_X10_dangerOf : GoodIn wsX10_told wsX10_dangerOf := goodIn_r _ [44, 2, 3, 45, 36, 37, 38, 7, 39, 40, 1, 17, 18, 19, 20, 21, 22, 23, 24, 25, 26, 27, 28, 29, 30, 31, 46, 47, 48, 49, 50, 51, 52, 53, 54, 55, 56, 57, 58, 59, 60, 61, 62, 63, 64, 65, 66, 67, 68, 69, 70, 71, 72, 73, 74, 75, 76, 77, 78, 79, 80, 81] (by decide +kernel) (by decide +kernel)
set_option maxRecDepth 20000 in
theorem gX10_told_X10_dangerOf : GoodIn wsX10_told (wsV RX10 134 RX10 yX10_dangerOf wsX10_dangerOf) := goodIn_app (goodIn_of _ (by decide +kernel)) ggX10_told_X10_dangerOf
theorem dX10_told_0 : decode cX10_told 0 = .ok (.aload_n 0, 1) := by decide +kernel
theorem dX10_told_1 : decode cX10_told 1 = .ok (.iload_n 1, 1) := by decide +kernel
theorem dX10_told_2 : decode cX10_told 2 = .ok (.invokevirtual 101, 3) := by decide +kernel
theorem dX10_told_5 : decode cX10_told 5 = .ok (.ifCond .ne 7, 3) := by decide +kernel
theorem dX10_told_8 : decode cX10_told 8 = .ok (.sipush (-1001), 3) := by decide +kernel
theorem dX10_told_11 : decode cX10_told 11 = .ok (.ireturn, 1) := by decide +kernel
theorem dX10_told_12 : decode cX10_told 12 = .ok (.iload_n 2, 1) := by decide +kernel
theorem dX10_told_13 : decode cX10_told 13 = .ok (.invokestatic 95, 3) := by decide +kernel
theorem dX10_told_16 : decode cX10_told 16 = .ok (.ifCond .ne 7, 3) := by decide +kernel
theorem dX10_told_19 : decode cX10_told 19 = .ok (.sipush (-1002), 3) := by decide +kernel
theorem dX10_told_22 : decode cX10_told 22 = .ok (.ireturn, 1) := by decide +kernel
theorem dX10_told_23 : decode cX10_told 23 = .ok (.iload_n 3, 1) := by decide +kernel
theorem dX10_told_24 : decode cX10_told 24 = .ok (.tableswitch 103 0 8 #[52, 59, 66, 73, 73, 73, 83, 90, 97], 52) := by decide +kernel
theorem dX10_told_76 : decode cX10_told 76 = .ok (.aload_n 0, 1) := by decide +kernel
theorem dX10_told_77 : decode cX10_told 77 = .ok (.getfield 7, 3) := by decide +kernel
theorem dX10_told_80 : decode cX10_told 80 = .ok (.iload_n 1, 1) := by decide +kernel
theorem dX10_told_81 : decode cX10_told 81 = .ok (.iaload, 1) := by decide +kernel
theorem dX10_told_82 : decode cX10_told 82 = .ok (.ireturn, 1) := by decide +kernel
theorem dX10_told_83 : decode cX10_told 83 = .ok (.aload_n 0, 1) := by decide +kernel
theorem dX10_told_84 : decode cX10_told 84 = .ok (.getfield 13, 3) := by decide +kernel
theorem dX10_told_87 : decode cX10_told 87 = .ok (.iload_n 1, 1) := by decide +kernel
theorem dX10_told_88 : decode cX10_told 88 = .ok (.iaload, 1) := by decide +kernel
theorem dX10_told_89 : decode cX10_told 89 = .ok (.ireturn, 1) := by decide +kernel
theorem dX10_told_90 : decode cX10_told 90 = .ok (.aload_n 0, 1) := by decide +kernel
theorem dX10_told_91 : decode cX10_told 91 = .ok (.getfield 16, 3) := by decide +kernel
theorem dX10_told_94 : decode cX10_told 94 = .ok (.iload_n 1, 1) := by decide +kernel
theorem dX10_told_95 : decode cX10_told 95 = .ok (.iaload, 1) := by decide +kernel
theorem dX10_told_96 : decode cX10_told 96 = .ok (.ireturn, 1) := by decide +kernel
theorem dX10_told_97 : decode cX10_told 97 = .ok (.aload_n 0, 1) := by decide +kernel
theorem dX10_told_98 : decode cX10_told 98 = .ok (.iload_n 1, 1) := by decide +kernel
theorem dX10_told_99 : decode cX10_told 99 = .ok (.iload_n 2, 1) := by decide +kernel
theorem dX10_told_100 : decode cX10_told 100 = .ok (.iload_n 3, 1) := by decide +kernel
theorem dX10_told_101 : decode cX10_told 101 = .ok (.iconst 1, 1) := by decide +kernel
theorem dX10_told_102 : decode cX10_told 102 = .ok (.isub, 1) := by decide +kernel
theorem dX10_told_103 : decode cX10_told 103 = .ok (.invokevirtual 120, 3) := by decide +kernel
theorem dX10_told_106 : decode cX10_told 106 = .ok (.ireturn, 1) := by decide +kernel
theorem dX10_told_107 : decode cX10_told 107 = .ok (.aload_n 0, 1) := by decide +kernel
theorem dX10_told_108 : decode cX10_told 108 = .ok (.iload_n 1, 1) := by decide +kernel
theorem dX10_told_109 : decode cX10_told 109 = .ok (.iload_n 2, 1) := by decide +kernel
theorem dX10_told_110 : decode cX10_told 110 = .ok (.invokevirtual 124, 3) := by decide +kernel
theorem dX10_told_113 : decode cX10_told 113 = .ok (.ireturn, 1) := by decide +kernel
theorem dX10_told_114 : decode cX10_told 114 = .ok (.aload_n 0, 1) := by decide +kernel
theorem dX10_told_115 : decode cX10_told 115 = .ok (.iload_n 1, 1) := by decide +kernel
theorem dX10_told_116 : decode cX10_told 116 = .ok (.iload_n 2, 1) := by decide +kernel
theorem dX10_told_117 : decode cX10_told 117 = .ok (.invokevirtual 131, 3) := by decide +kernel
theorem dX10_told_120 : decode cX10_told 120 = .ok (.ireturn, 1) := by decide +kernel
theorem dX10_told_121 : decode cX10_told 121 = .ok (.aload_n 0, 1) := by decide +kernel
theorem dX10_told_122 : decode cX10_told 122 = .ok (.iload_n 1, 1) := by decide +kernel
theorem dX10_told_123 : decode cX10_told 123 = .ok (.invokevirtual 134, 3) := by decide +kernel
theorem dX10_told_126 : decode cX10_told 126 = .ok (.ireturn, 1) := by decide +kernel
theorem dX10_told_127 : decode cX10_told 127 = .ok (.sipush (-1002), 3) := by decide +kernel
theorem dX10_told_130 : decode cX10_told 130 = .ok (.ireturn, 1) := by decide +kernel
set_option maxRecDepth 20000 in
theorem ggX10_count_X10_isDouble : GoodIn wsX10_count wsX10_isDouble := goodIn_r _ [13, 14, 15, 16, 17, 18, 19, 20, 21, 22, 23, 24, 25, 26, 27, 28, 29, 30, 31, 32, 33, 34, 35, 36, 37, 38, 39, 40, 41, 42, 43, 44, 45, 46, 47, 48, 49, 50] (by decide +kernel) (by decide +kernel)
set_option maxRecDepth 20000 in
theorem gX10_count_X10_isDouble : GoodIn wsX10_count (wsV RX10 144 RX10 yX10_isDouble wsX10_isDouble) := goodIn_app (goodIn_of _ (by decide +kernel)) ggX10_count_X10_isDouble
theorem dX10_count_0 : decode cX10_count 0 = .ok (.iconst 0, 1) := by decide +kernel
theorem dX10_count_1 : decode cX10_count 1 = .ok (.istore_n 2, 1) := by decide +kernel
theorem dX10_count_2 : decode cX10_count 2 = .ok (.iconst 0, 1) := by decide +kernel
theorem dX10_count_3 : decode cX10_count 3 = .ok (.istore_n 3, 1) := by decide +kernel
theorem dX10_count_4 : decode cX10_count 4 = .ok (.iload_n 3, 1) := by decide +kernel
theorem dX10_count_5 : decode cX10_count 5 = .ok (.aload_n 0, 1) := by decide +kernel
theorem dX10_count_6 : decode cX10_count 6 = .ok (.getfield 138, 3) := by decide +kernel
theorem dX10_count_9 : decode cX10_count 9 = .ok (.if_icmp .ge 22, 3) := by decide +kernel
theorem dX10_count_12 : decode cX10_count 12 = .ok (.iload_n 2, 1) := by decide +kernel
theorem dX10_count_13 : decode cX10_count 13 = .ok (.aload_n 0, 1) := by decide +kernel
theorem dX10_count_14 : decode cX10_count 14 = .ok (.getfield 47, 3) := by decide +kernel
theorem dX10_count_17 : decode cX10_count 17 = .ok (.iconst 5, 1) := by decide +kernel
theorem dX10_count_18 : decode cX10_count 18 = .ok (.iload_n 3, 1) := by decide +kernel
theorem dX10_count_19 : decode cX10_count 19 = .ok (.imul, 1) := by decide +kernel
theorem dX10_count_20 : decode cX10_count 20 = .ok (.iconst 4, 1) := by decide +kernel
theorem dX10_count_21 : decode cX10_count 21 = .ok (.iadd, 1) := by decide +kernel
theorem dX10_count_22 : decode cX10_count 22 = .ok (.iaload, 1) := by decide +kernel
theorem dX10_count_23 : decode cX10_count 23 = .ok (.iadd, 1) := by decide +kernel
theorem dX10_count_24 : decode cX10_count 24 = .ok (.istore_n 2, 1) := by decide +kernel
theorem dX10_count_25 : decode cX10_count 25 = .ok (.iinc 3 1, 3) := by decide +kernel
theorem dX10_count_28 : decode cX10_count 28 = .ok (.goto (-24), 3) := by decide +kernel
theorem dX10_count_31 : decode cX10_count 31 = .ok (.iconst 0, 1) := by decide +kernel
theorem dX10_count_32 : decode cX10_count 32 = .ok (.istore_n 3, 1) := by decide +kernel
theorem dX10_count_33 : decode cX10_count 33 = .ok (.iconst 0, 1) := by decide +kernel
theorem dX10_count_34 : decode cX10_count 34 = .ok (.istore 4, 2) := by decide +kernel
theorem dX10_count_36 : decode cX10_count 36 = .ok (.iload 4, 2) := by decide +kernel
theorem dX10_count_38 : decode cX10_count 38 = .ok (.aload_n 0, 1) := by decide +kernel
theorem dX10_count_39 : decode cX10_count 39 = .ok (.getfield 141, 3) := by decide +kernel
theorem dX10_count_42 : decode cX10_count 42 = .ok (.if_icmp .ge 44, 3) := by decide +kernel
theorem dX10_count_45 : decode cX10_count 45 = .ok (.iconst 0, 1) := by decide +kernel
theorem dX10_count_46 : decode cX10_count 46 = .ok (.istore 5, 2) := by decide +kernel
theorem dX10_count_48 : decode cX10_count 48 = .ok (.iload 5, 2) := by decide +kernel
theorem dX10_count_50 : decode cX10_count 50 = .ok (.iload 4, 2) := by decide +kernel
theorem dX10_count_52 : decode cX10_count 52 = .ok (.if_icmp .ge 28, 3) := by decide +kernel
theorem dX10_count_55 : decode cX10_count 55 = .ok (.iload_n 3, 1) := by decide +kernel
theorem dX10_count_56 : decode cX10_count 56 = .ok (.aload_n 0, 1) := by decide +kernel
theorem dX10_count_57 : decode cX10_count 57 = .ok (.iload 4, 2) := by decide +kernel
theorem dX10_count_59 : decode cX10_count 59 = .ok (.iload 5, 2) := by decide +kernel
theorem dX10_count_61 : decode cX10_count 61 = .ok (.invokevirtual 144, 3) := by decide +kernel
theorem dX10_count_64 : decode cX10_count 64 = .ok (.ifCond .eq 7, 3) := by decide +kernel
theorem dX10_count_67 : decode cX10_count 67 = .ok (.iconst 1, 1) := by decide +kernel
theorem dX10_count_68 : decode cX10_count 68 = .ok (.goto 4, 3) := by decide +kernel
theorem dX10_count_71 : decode cX10_count 71 = .ok (.iconst 0, 1) := by decide +kernel
theorem dX10_count_72 : decode cX10_count 72 = .ok (.iadd, 1) := by decide +kernel
theorem dX10_count_73 : decode cX10_count 73 = .ok (.istore_n 3, 1) := by decide +kernel
theorem dX10_count_74 : decode cX10_count 74 = .ok (.iinc 5 1, 3) := by decide +kernel
theorem dX10_count_77 : decode cX10_count 77 = .ok (.goto (-29), 3) := by decide +kernel
theorem dX10_count_80 : decode cX10_count 80 = .ok (.iinc 4 1, 3) := by decide +kernel
theorem dX10_count_83 : decode cX10_count 83 = .ok (.goto (-47), 3) := by decide +kernel
theorem dX10_count_86 : decode cX10_count 86 = .ok (.iload_n 1, 1) := by decide +kernel
theorem dX10_count_87 : decode cX10_count 87 = .ok (.tableswitch 88 0 8 #[49, 54, 59, 64, 69, 71, 76, 81, 86], 49) := by decide +kernel
theorem dX10_count_136 : decode cX10_count 136 = .ok (.aload_n 0, 1) := by decide +kernel
theorem dX10_count_137 : decode cX10_count 137 = .ok (.getfield 90, 3) := by decide +kernel
theorem dX10_count_140 : decode cX10_count 140 = .ok (.ireturn, 1) := by decide +kernel
theorem dX10_count_141 : decode cX10_count 141 = .ok (.aload_n 0, 1) := by decide +kernel
theorem dX10_count_142 : decode cX10_count 142 = .ok (.getfield 106, 3) := by decide +kernel
theorem dX10_count_145 : decode cX10_count 145 = .ok (.ireturn, 1) := by decide +kernel
theorem dX10_count_146 : decode cX10_count 146 = .ok (.aload_n 0, 1) := by decide +kernel
theorem dX10_count_147 : decode cX10_count 147 = .ok (.getfield 109, 3) := by decide +kernel
theorem dX10_count_150 : decode cX10_count 150 = .ok (.ireturn, 1) := by decide +kernel
theorem dX10_count_151 : decode cX10_count 151 = .ok (.aload_n 0, 1) := by decide +kernel
theorem dX10_count_152 : decode cX10_count 152 = .ok (.getfield 141, 3) := by decide +kernel
theorem dX10_count_155 : decode cX10_count 155 = .ok (.ireturn, 1) := by decide +kernel
theorem dX10_count_156 : decode cX10_count 156 = .ok (.iload_n 3, 1) := by decide +kernel
theorem dX10_count_157 : decode cX10_count 157 = .ok (.ireturn, 1) := by decide +kernel
theorem dX10_count_158 : decode cX10_count 158 = .ok (.aload_n 0, 1) := by decide +kernel
theorem dX10_count_159 : decode cX10_count 159 = .ok (.getfield 148, 3) := by decide +kernel
theorem dX10_count_162 : decode cX10_count 162 = .ok (.ireturn, 1) := by decide +kernel
theorem dX10_count_163 : decode cX10_count 163 = .ok (.aload_n 0, 1) := by decide +kernel
theorem dX10_count_164 : decode cX10_count 164 = .ok (.getfield 151, 3) := by decide +kernel
theorem dX10_count_167 : decode cX10_count 167 = .ok (.ireturn, 1) := by decide +kernel
theorem dX10_count_168 : decode cX10_count 168 = .ok (.aload_n 0, 1) := by decide +kernel
theorem dX10_count_169 : decode cX10_count 169 = .ok (.getfield 138, 3) := by decide +kernel
theorem dX10_count_172 : decode cX10_count 172 = .ok (.ireturn, 1) := by decide +kernel
theorem dX10_count_173 : decode cX10_count 173 = .ok (.iload_n 2, 1) := by decide +kernel
theorem dX10_count_174 : decode cX10_count 174 = .ok (.ireturn, 1) := by decide +kernel
theorem dX10_count_175 : decode cX10_count 175 = .ok (.sipush (-1002), 3) := by decide +kernel
theorem dX10_count_178 : decode cX10_count 178 = .ok (.ireturn, 1) := by decide +kernel
theorem dX10_isWorse_0 : decode cX10_isWorse 0 = .ok (.aload_n 0, 1) := by decide +kernel
theorem dX10_isWorse_1 : decode cX10_isWorse 1 = .ok (.getfield 53, 3) := by decide +kernel
theorem dX10_isWorse_4 : decode cX10_isWorse 4 = .ok (.iload_n 1, 1) := by decide +kernel
theorem dX10_isWorse_5 : decode cX10_isWorse 5 = .ok (.iaload, 1) := by decide +kernel
theorem dX10_isWorse_6 : decode cX10_isWorse 6 = .ok (.aload_n 0, 1) := by decide +kernel
theorem dX10_isWorse_7 : decode cX10_isWorse 7 = .ok (.getfield 53, 3) := by decide +kernel
theorem dX10_isWorse_10 : decode cX10_isWorse 10 = .ok (.iload_n 2, 1) := by decide +kernel
theorem dX10_isWorse_11 : decode cX10_isWorse 11 = .ok (.iaload, 1) := by decide +kernel
theorem dX10_isWorse_12 : decode cX10_isWorse 12 = .ok (.if_icmp .lt 33, 3) := by decide +kernel
theorem dX10_isWorse_15 : decode cX10_isWorse 15 = .ok (.aload_n 0, 1) := by decide +kernel
theorem dX10_isWorse_16 : decode cX10_isWorse 16 = .ok (.getfield 53, 3) := by decide +kernel
theorem dX10_isWorse_19 : decode cX10_isWorse 19 = .ok (.iload_n 1, 1) := by decide +kernel
theorem dX10_isWorse_20 : decode cX10_isWorse 20 = .ok (.iaload, 1) := by decide +kernel
theorem dX10_isWorse_21 : decode cX10_isWorse 21 = .ok (.aload_n 0, 1) := by decide +kernel
theorem dX10_isWorse_22 : decode cX10_isWorse 22 = .ok (.getfield 53, 3) := by decide +kernel
theorem dX10_isWorse_25 : decode cX10_isWorse 25 = .ok (.iload_n 2, 1) := by decide +kernel
theorem dX10_isWorse_26 : decode cX10_isWorse 26 = .ok (.iaload, 1) := by decide +kernel
theorem dX10_isWorse_27 : decode cX10_isWorse 27 = .ok (.if_icmp .ne 22, 3) := by decide +kernel
theorem dX10_isWorse_30 : decode cX10_isWorse 30 = .ok (.aload_n 0, 1) := by decide +kernel
theorem dX10_isWorse_31 : decode cX10_isWorse 31 = .ok (.getfield 56, 3) := by decide +kernel
theorem dX10_isWorse_34 : decode cX10_isWorse 34 = .ok (.iload_n 1, 1) := by decide +kernel
theorem dX10_isWorse_35 : decode cX10_isWorse 35 = .ok (.iaload, 1) := by decide +kernel
theorem dX10_isWorse_36 : decode cX10_isWorse 36 = .ok (.aload_n 0, 1) := by decide +kernel
theorem dX10_isWorse_37 : decode cX10_isWorse 37 = .ok (.getfield 56, 3) := by decide +kernel
theorem dX10_isWorse_40 : decode cX10_isWorse 40 = .ok (.iload_n 2, 1) := by decide +kernel
theorem dX10_isWorse_41 : decode cX10_isWorse 41 = .ok (.iaload, 1) := by decide +kernel
theorem dX10_isWorse_42 : decode cX10_isWorse 42 = .ok (.if_icmp .le 7, 3) := by decide +kernel
theorem dX10_isWorse_45 : decode cX10_isWorse 45 = .ok (.iconst 1, 1) := by decide +kernel
theorem dX10_isWorse_46 : decode cX10_isWorse 46 = .ok (.goto 4, 3) := by decide +kernel
theorem dX10_isWorse_49 : decode cX10_isWorse 49 = .ok (.iconst 0, 1) := by decide +kernel
theorem dX10_isWorse_50 : decode cX10_isWorse 50 = .ok (.ireturn, 1) := by decide +kernel
set_option maxRecDepth 20000 in
theorem ggX10_worst_X10_isYear : GoodIn wsX10_worst wsX10_isYear := goodIn_r _ [8, 9, 10, 11, 7, 12] (by decide +kernel) (by decide +kernel)
set_option maxRecDepth 20000 in
theorem gX10_worst_X10_isYear : GoodIn wsX10_worst (va_wsS RX10 95 yX10_isYear wsX10_isYear) := goodIn_app (goodIn_of _ (by decide +kernel)) ggX10_worst_X10_isYear
set_option maxRecDepth 20000 in
theorem ggX10_worst_X10_dangerOf : GoodIn wsX10_worst wsX10_dangerOf := goodIn_r _ [16, 17, 18, 19, 20, 21, 22, 7, 23, 24, 25, 26, 27, 28, 29, 30, 31, 32, 33, 34, 35, 36, 37, 38, 39, 40, 49, 50, 51, 52, 53, 54, 55, 56, 57, 58, 59, 60, 61, 62, 63, 64, 65, 66, 67, 68, 69, 70, 71, 72, 73, 74, 75, 76, 77, 78, 79, 80, 81, 82, 83, 84] (by decide +kernel) (by decide +kernel)
set_option maxRecDepth 20000 in
theorem gX10_worst_X10_dangerOf : GoodIn wsX10_worst (wsV RX10 134 RX10 yX10_dangerOf wsX10_dangerOf) := goodIn_app (goodIn_of _ (by decide +kernel)) ggX10_worst_X10_dangerOf
set_option maxRecDepth 20000 in
theorem ggX10_worst_X10_lostAt : GoodIn wsX10_worst wsX10_lostAt := goodIn_r _ [44, 17, 20, 21, 22, 7, 23, 24, 25, 26, 27, 28, 29, 30, 31, 32, 33, 34, 35, 36, 37, 38, 39, 40, 49, 50, 51, 52, 53, 54, 55, 56, 57, 58, 59, 60, 61, 62, 63, 64, 65, 66, 67, 68, 69, 70, 71, 72, 73, 74, 75, 76, 77, 78, 79, 80, 81, 82, 83, 84] (by decide +kernel) (by decide +kernel)
set_option maxRecDepth 20000 in
theorem gX10_worst_X10_lostAt : GoodIn wsX10_worst (wsV RX10 131 RX10 yX10_lostAt wsX10_lostAt) := goodIn_app (goodIn_of _ (by decide +kernel)) ggX10_worst_X10_lostAt
set_option maxRecDepth 20000 in
theorem ggX10_worst_X10_isWorse : GoodIn wsX10_worst wsX10_isWorse := goodIn_r _ [48, 2, 3, 49, 50, 51, 52, 53, 54, 55, 56, 57, 58, 59, 60, 61, 62, 63, 64, 65, 66, 67, 68, 69, 70, 71, 72, 73, 74, 75, 76, 77, 78, 79, 80, 81, 82, 83, 84] (by decide +kernel) (by decide +kernel)
set_option maxRecDepth 20000 in
theorem gX10_worst_X10_isWorse : GoodIn wsX10_worst (wsV RX10 154 RX10 yX10_isWorse wsX10_isWorse) := goodIn_app (goodIn_of _ (by decide +kernel)) ggX10_worst_X10_isWorse
set_option maxRecDepth 20000 in
theorem ggX10_worst_X10_in : GoodIn wsX10_worst wsX10_in := goodIn_r _ [12] (by decide +kernel) (by decide +kernel)
set_option maxRecDepth 20000 in
theorem gX10_worst_X10_in : GoodIn wsX10_worst (va_wsS RX10 86 yX10_in wsX10_in) := goodIn_app (goodIn_of _ (by decide +kernel)) ggX10_worst_X10_in
theorem dX10_worst_0 : decode cX10_worst 0 = .ok (.iload_n 1, 1) := by decide +kernel
theorem dX10_worst_1 : decode cX10_worst 1 = .ok (.invokestatic 95, 3) := by decide +kernel
theorem dX10_worst_4 : decode cX10_worst 4 = .ok (.ifCond .ne 7, 3) := by decide +kernel
theorem dX10_worst_7 : decode cX10_worst 7 = .ok (.sipush (-1002), 3) := by decide +kernel
theorem dX10_worst_10 : decode cX10_worst 10 = .ok (.ireturn, 1) := by decide +kernel
theorem dX10_worst_11 : decode cX10_worst 11 = .ok (.iconst 0, 1) := by decide +kernel
theorem dX10_worst_12 : decode cX10_worst 12 = .ok (.istore_n 3, 1) := by decide +kernel
theorem dX10_worst_13 : decode cX10_worst 13 = .ok (.iconst 0, 1) := by decide +kernel
theorem dX10_worst_14 : decode cX10_worst 14 = .ok (.istore 4, 2) := by decide +kernel
theorem dX10_worst_16 : decode cX10_worst 16 = .ok (.iload 4, 2) := by decide +kernel
theorem dX10_worst_18 : decode cX10_worst 18 = .ok (.aload_n 0, 1) := by decide +kernel
theorem dX10_worst_19 : decode cX10_worst 19 = .ok (.getfield 90, 3) := by decide +kernel
theorem dX10_worst_22 : decode cX10_worst 22 = .ok (.if_icmp .ge 106, 3) := by decide +kernel
theorem dX10_worst_25 : decode cX10_worst 25 = .ok (.aload_n 0, 1) := by decide +kernel
theorem dX10_worst_26 : decode cX10_worst 26 = .ok (.getfield 53, 3) := by decide +kernel
theorem dX10_worst_29 : decode cX10_worst 29 = .ok (.iload 4, 2) := by decide +kernel
theorem dX10_worst_31 : decode cX10_worst 31 = .ok (.aload_n 0, 1) := by decide +kernel
theorem dX10_worst_32 : decode cX10_worst 32 = .ok (.iload 4, 2) := by decide +kernel
theorem dX10_worst_34 : decode cX10_worst 34 = .ok (.invokevirtual 134, 3) := by decide +kernel
theorem dX10_worst_37 : decode cX10_worst 37 = .ok (.iastore, 1) := by decide +kernel
theorem dX10_worst_38 : decode cX10_worst 38 = .ok (.aload_n 0, 1) := by decide +kernel
theorem dX10_worst_39 : decode cX10_worst 39 = .ok (.getfield 56, 3) := by decide +kernel
theorem dX10_worst_42 : decode cX10_worst 42 = .ok (.iload 4, 2) := by decide +kernel
theorem dX10_worst_44 : decode cX10_worst 44 = .ok (.aload_n 0, 1) := by decide +kernel
theorem dX10_worst_45 : decode cX10_worst 45 = .ok (.iload 4, 2) := by decide +kernel
theorem dX10_worst_47 : decode cX10_worst 47 = .ok (.iload_n 1, 1) := by decide +kernel
theorem dX10_worst_48 : decode cX10_worst 48 = .ok (.invokevirtual 131, 3) := by decide +kernel
theorem dX10_worst_51 : decode cX10_worst 51 = .ok (.iastore, 1) := by decide +kernel
theorem dX10_worst_52 : decode cX10_worst 52 = .ok (.aload_n 0, 1) := by decide +kernel
theorem dX10_worst_53 : decode cX10_worst 53 = .ok (.getfield 53, 3) := by decide +kernel
theorem dX10_worst_56 : decode cX10_worst 56 = .ok (.iload 4, 2) := by decide +kernel
theorem dX10_worst_58 : decode cX10_worst 58 = .ok (.iaload, 1) := by decide +kernel
theorem dX10_worst_59 : decode cX10_worst 59 = .ok (.ifCond .lt 63, 3) := by decide +kernel
theorem dX10_worst_62 : decode cX10_worst 62 = .ok (.iload_n 3, 1) := by decide +kernel
theorem dX10_worst_63 : decode cX10_worst 63 = .ok (.istore 5, 2) := by decide +kernel
theorem dX10_worst_65 : decode cX10_worst 65 = .ok (.iload 5, 2) := by decide +kernel
theorem dX10_worst_67 : decode cX10_worst 67 = .ok (.ifCond .le 43, 3) := by decide +kernel
theorem dX10_worst_70 : decode cX10_worst 70 = .ok (.aload_n 0, 1) := by decide +kernel
theorem dX10_worst_71 : decode cX10_worst 71 = .ok (.iload 4, 2) := by decide +kernel
theorem dX10_worst_73 : decode cX10_worst 73 = .ok (.aload_n 0, 1) := by decide +kernel
theorem dX10_worst_74 : decode cX10_worst 74 = .ok (.getfield 50, 3) := by decide +kernel
theorem dX10_worst_77 : decode cX10_worst 77 = .ok (.iload 5, 2) := by decide +kernel
theorem dX10_worst_79 : decode cX10_worst 79 = .ok (.iconst 1, 1) := by decide +kernel
theorem dX10_worst_80 : decode cX10_worst 80 = .ok (.isub, 1) := by decide +kernel
theorem dX10_worst_81 : decode cX10_worst 81 = .ok (.iaload, 1) := by decide +kernel
theorem dX10_worst_82 : decode cX10_worst 82 = .ok (.invokevirtual 154, 3) := by decide +kernel
theorem dX10_worst_85 : decode cX10_worst 85 = .ok (.ifCond .eq 25, 3) := by decide +kernel
theorem dX10_worst_88 : decode cX10_worst 88 = .ok (.aload_n 0, 1) := by decide +kernel
theorem dX10_worst_89 : decode cX10_worst 89 = .ok (.getfield 50, 3) := by decide +kernel
theorem dX10_worst_92 : decode cX10_worst 92 = .ok (.iload 5, 2) := by decide +kernel
theorem dX10_worst_94 : decode cX10_worst 94 = .ok (.aload_n 0, 1) := by decide +kernel
theorem dX10_worst_95 : decode cX10_worst 95 = .ok (.getfield 50, 3) := by decide +kernel
theorem dX10_worst_98 : decode cX10_worst 98 = .ok (.iload 5, 2) := by decide +kernel
theorem dX10_worst_100 : decode cX10_worst 100 = .ok (.iconst 1, 1) := by decide +kernel
theorem dX10_worst_101 : decode cX10_worst 101 = .ok (.isub, 1) := by decide +kernel
theorem dX10_worst_102 : decode cX10_worst 102 = .ok (.iaload, 1) := by decide +kernel
theorem dX10_worst_103 : decode cX10_worst 103 = .ok (.iastore, 1) := by decide +kernel
theorem dX10_worst_104 : decode cX10_worst 104 = .ok (.iinc 5 (-1), 3) := by decide +kernel
theorem dX10_worst_107 : decode cX10_worst 107 = .ok (.goto (-42), 3) := by decide +kernel
theorem dX10_worst_110 : decode cX10_worst 110 = .ok (.aload_n 0, 1) := by decide +kernel
theorem dX10_worst_111 : decode cX10_worst 111 = .ok (.getfield 50, 3) := by decide +kernel
theorem dX10_worst_114 : decode cX10_worst 114 = .ok (.iload 5, 2) := by decide +kernel
theorem dX10_worst_116 : decode cX10_worst 116 = .ok (.iload 4, 2) := by decide +kernel
theorem dX10_worst_118 : decode cX10_worst 118 = .ok (.iastore, 1) := by decide +kernel
theorem dX10_worst_119 : decode cX10_worst 119 = .ok (.iinc 3 1, 3) := by decide +kernel
theorem dX10_worst_122 : decode cX10_worst 122 = .ok (.iinc 4 1, 3) := by decide +kernel
theorem dX10_worst_125 : decode cX10_worst 125 = .ok (.goto (-109), 3) := by decide +kernel
theorem dX10_worst_128 : decode cX10_worst 128 = .ok (.iload_n 2, 1) := by decide +kernel
theorem dX10_worst_129 : decode cX10_worst 129 = .ok (.i2l, 1) := by decide +kernel
theorem dX10_worst_130 : decode cX10_worst 130 = .ok (.lconst 0, 1) := by decide +kernel
theorem dX10_worst_131 : decode cX10_worst 131 = .ok (.iload_n 3, 1) := by decide +kernel
theorem dX10_worst_132 : decode cX10_worst 132 = .ok (.iconst 1, 1) := by decide +kernel
theorem dX10_worst_133 : decode cX10_worst 133 = .ok (.isub, 1) := by decide +kernel
theorem dX10_worst_134 : decode cX10_worst 134 = .ok (.i2l, 1) := by decide +kernel
theorem dX10_worst_135 : decode cX10_worst 135 = .ok (.invokestatic 86, 3) := by decide +kernel
theorem dX10_worst_138 : decode cX10_worst 138 = .ok (.ifCond .eq 12, 3) := by decide +kernel
theorem dX10_worst_141 : decode cX10_worst 141 = .ok (.aload_n 0, 1) := by decide +kernel
theorem dX10_worst_142 : decode cX10_worst 142 = .ok (.getfield 50, 3) := by decide +kernel
theorem dX10_worst_145 : decode cX10_worst 145 = .ok (.iload_n 2, 1) := by decide +kernel
theorem dX10_worst_146 : decode cX10_worst 146 = .ok (.iaload, 1) := by decide +kernel
theorem dX10_worst_147 : decode cX10_worst 147 = .ok (.goto 4, 3) := by decide +kernel
theorem dX10_worst_150 : decode cX10_worst 150 = .ok (.iconst (-1), 1) := by decide +kernel
theorem dX10_worst_151 : decode cX10_worst 151 = .ok (.ireturn, 1) := by decide +kernel
set_option maxRecDepth 20000 in
theorem ggX10_look_X10_isBlock : GoodIn wsX10_look wsX10_isBlock := goodIn_r _ [9, 10, 11, 12, 8, 13, 18, 19, 20, 21, 22, 23, 24, 25, 26, 27, 28, 29, 30, 31, 32, 33, 34, 35, 36, 37, 38, 39, 40, 41, 42, 43, 44, 45, 46, 47, 48, 49, 50, 51, 52, 53] (by decide +kernel) (by decide +kernel)
set_option maxRecDepth 20000 in
theorem gX10_look_X10_isBlock : GoodIn wsX10_look (wsV RX10 101 RX10 yX10_isBlock wsX10_isBlock) := goodIn_app (goodIn_of _ (by decide +kernel)) ggX10_look_X10_isBlock
set_option maxRecDepth 20000 in
theorem ggX10_look_X10_in : GoodIn wsX10_look wsX10_in := goodIn_r _ [13] (by decide +kernel) (by decide +kernel)
set_option maxRecDepth 20000 in
theorem gX10_look_X10_in : GoodIn wsX10_look (va_wsS RX10 86 yX10_in wsX10_in) := goodIn_app (goodIn_of _ (by decide +kernel)) ggX10_look_X10_in
set_option maxRecDepth 20000 in
theorem ggX10_look_X10_isYear : GoodIn wsX10_look wsX10_isYear := goodIn_r _ [16, 17, 11, 12, 8, 13] (by decide +kernel) (by decide +kernel)
set_option maxRecDepth 20000 in
theorem gX10_look_X10_isYear : GoodIn wsX10_look (va_wsS RX10 95 yX10_isYear wsX10_isYear) := goodIn_app (goodIn_of _ (by decide +kernel)) ggX10_look_X10_isYear
theorem dX10_look_0 : decode cX10_look 0 = .ok (.aload_n 0, 1) := by decide +kernel
theorem dX10_look_1 : decode cX10_look 1 = .ok (.iload_n 1, 1) := by decide +kernel
theorem dX10_look_2 : decode cX10_look 2 = .ok (.invokevirtual 101, 3) := by decide +kernel
theorem dX10_look_5 : decode cX10_look 5 = .ok (.ifCond .ne 7, 3) := by decide +kernel
theorem dX10_look_8 : decode cX10_look 8 = .ok (.sipush (-1001), 3) := by decide +kernel
theorem dX10_look_11 : decode cX10_look 11 = .ok (.ireturn, 1) := by decide +kernel
theorem dX10_look_12 : decode cX10_look 12 = .ok (.iload_n 2, 1) := by decide +kernel
theorem dX10_look_13 : decode cX10_look 13 = .ok (.i2l, 1) := by decide +kernel
theorem dX10_look_14 : decode cX10_look 14 = .ok (.lconst 0, 1) := by decide +kernel
theorem dX10_look_15 : decode cX10_look 15 = .ok (.ldc2_w 93, 3) := by decide +kernel
theorem dX10_look_18 : decode cX10_look 18 = .ok (.invokestatic 86, 3) := by decide +kernel
theorem dX10_look_21 : decode cX10_look 21 = .ok (.ifCond .eq 23, 3) := by decide +kernel
theorem dX10_look_24 : decode cX10_look 24 = .ok (.iload_n 3, 1) := by decide +kernel
theorem dX10_look_25 : decode cX10_look 25 = .ok (.invokestatic 95, 3) := by decide +kernel
theorem dX10_look_28 : decode cX10_look 28 = .ok (.ifCond .eq 16, 3) := by decide +kernel
theorem dX10_look_31 : decode cX10_look 31 = .ok (.iload 4, 2) := by decide +kernel
theorem dX10_look_33 : decode cX10_look 33 = .ok (.i2l, 1) := by decide +kernel
theorem dX10_look_34 : decode cX10_look 34 = .ok (.lconst 0, 1) := by decide +kernel
theorem dX10_look_35 : decode cX10_look 35 = .ok (.ldc2_w 157, 3) := by decide +kernel
theorem dX10_look_38 : decode cX10_look 38 = .ok (.invokestatic 86, 3) := by decide +kernel
theorem dX10_look_41 : decode cX10_look 41 = .ok (.ifCond .ne 7, 3) := by decide +kernel
theorem dX10_look_44 : decode cX10_look 44 = .ok (.sipush (-1002), 3) := by decide +kernel
theorem dX10_look_47 : decode cX10_look 47 = .ok (.ireturn, 1) := by decide +kernel
theorem dX10_look_48 : decode cX10_look 48 = .ok (.aload_n 0, 1) := by decide +kernel
theorem dX10_look_49 : decode cX10_look 49 = .ok (.getfield 141, 3) := by decide +kernel
theorem dX10_look_52 : decode cX10_look 52 = .ok (.bipush 80, 2) := by decide +kernel
theorem dX10_look_54 : decode cX10_look 54 = .ok (.if_icmp .ne 7, 3) := by decide +kernel
theorem dX10_look_57 : decode cX10_look 57 = .ok (.sipush (-1004), 3) := by decide +kernel
theorem dX10_look_60 : decode cX10_look 60 = .ok (.ireturn, 1) := by decide +kernel
theorem dX10_look_61 : decode cX10_look 61 = .ok (.aload_n 0, 1) := by decide +kernel
theorem dX10_look_62 : decode cX10_look 62 = .ok (.getfield 32, 3) := by decide +kernel
theorem dX10_look_65 : decode cX10_look 65 = .ok (.iconst 4, 1) := by decide +kernel
theorem dX10_look_66 : decode cX10_look 66 = .ok (.aload_n 0, 1) := by decide +kernel
theorem dX10_look_67 : decode cX10_look 67 = .ok (.getfield 141, 3) := by decide +kernel
theorem dX10_look_70 : decode cX10_look 70 = .ok (.imul, 1) := by decide +kernel
theorem dX10_look_71 : decode cX10_look 71 = .ok (.iload_n 1, 1) := by decide +kernel
theorem dX10_look_72 : decode cX10_look 72 = .ok (.iastore, 1) := by decide +kernel
theorem dX10_look_73 : decode cX10_look 73 = .ok (.aload_n 0, 1) := by decide +kernel
theorem dX10_look_74 : decode cX10_look 74 = .ok (.getfield 32, 3) := by decide +kernel
theorem dX10_look_77 : decode cX10_look 77 = .ok (.iconst 4, 1) := by decide +kernel
theorem dX10_look_78 : decode cX10_look 78 = .ok (.aload_n 0, 1) := by decide +kernel
theorem dX10_look_79 : decode cX10_look 79 = .ok (.getfield 141, 3) := by decide +kernel
theorem dX10_look_82 : decode cX10_look 82 = .ok (.imul, 1) := by decide +kernel
theorem dX10_look_83 : decode cX10_look 83 = .ok (.iconst 1, 1) := by decide +kernel
theorem dX10_look_84 : decode cX10_look 84 = .ok (.iadd, 1) := by decide +kernel
theorem dX10_look_85 : decode cX10_look 85 = .ok (.iload_n 2, 1) := by decide +kernel
theorem dX10_look_86 : decode cX10_look 86 = .ok (.iastore, 1) := by decide +kernel
theorem dX10_look_87 : decode cX10_look 87 = .ok (.aload_n 0, 1) := by decide +kernel
theorem dX10_look_88 : decode cX10_look 88 = .ok (.getfield 32, 3) := by decide +kernel
theorem dX10_look_91 : decode cX10_look 91 = .ok (.iconst 4, 1) := by decide +kernel
theorem dX10_look_92 : decode cX10_look 92 = .ok (.aload_n 0, 1) := by decide +kernel
theorem dX10_look_93 : decode cX10_look 93 = .ok (.getfield 141, 3) := by decide +kernel
theorem dX10_look_96 : decode cX10_look 96 = .ok (.imul, 1) := by decide +kernel
theorem dX10_look_97 : decode cX10_look 97 = .ok (.iconst 2, 1) := by decide +kernel
theorem dX10_look_98 : decode cX10_look 98 = .ok (.iadd, 1) := by decide +kernel
theorem dX10_look_99 : decode cX10_look 99 = .ok (.iload_n 3, 1) := by decide +kernel
theorem dX10_look_100 : decode cX10_look 100 = .ok (.iastore, 1) := by decide +kernel
theorem dX10_look_101 : decode cX10_look 101 = .ok (.aload_n 0, 1) := by decide +kernel
theorem dX10_look_102 : decode cX10_look 102 = .ok (.getfield 32, 3) := by decide +kernel
theorem dX10_look_105 : decode cX10_look 105 = .ok (.iconst 4, 1) := by decide +kernel
theorem dX10_look_106 : decode cX10_look 106 = .ok (.aload_n 0, 1) := by decide +kernel
theorem dX10_look_107 : decode cX10_look 107 = .ok (.getfield 141, 3) := by decide +kernel
theorem dX10_look_110 : decode cX10_look 110 = .ok (.imul, 1) := by decide +kernel
theorem dX10_look_111 : decode cX10_look 111 = .ok (.iconst 3, 1) := by decide +kernel
theorem dX10_look_112 : decode cX10_look 112 = .ok (.iadd, 1) := by decide +kernel
theorem dX10_look_113 : decode cX10_look 113 = .ok (.iload 4, 2) := by decide +kernel
theorem dX10_look_115 : decode cX10_look 115 = .ok (.iastore, 1) := by decide +kernel
theorem dX10_look_116 : decode cX10_look 116 = .ok (.aload_n 0, 1) := by decide +kernel
theorem dX10_look_117 : decode cX10_look 117 = .ok (.dup, 1) := by decide +kernel
theorem dX10_look_118 : decode cX10_look 118 = .ok (.getfield 141, 3) := by decide +kernel
theorem dX10_look_121 : decode cX10_look 121 = .ok (.iconst 1, 1) := by decide +kernel
theorem dX10_look_122 : decode cX10_look 122 = .ok (.iadd, 1) := by decide +kernel
theorem dX10_look_123 : decode cX10_look 123 = .ok (.putfield 141, 3) := by decide +kernel
theorem dX10_look_126 : decode cX10_look 126 = .ok (.aload_n 0, 1) := by decide +kernel
theorem dX10_look_127 : decode cX10_look 127 = .ok (.getfield 141, 3) := by decide +kernel
theorem dX10_look_130 : decode cX10_look 130 = .ok (.iconst 1, 1) := by decide +kernel
theorem dX10_look_131 : decode cX10_look 131 = .ok (.isub, 1) := by decide +kernel
theorem dX10_look_132 : decode cX10_look 132 = .ok (.ireturn, 1) := by decide +kernel
theorem dX10_isDouble_0 : decode cX10_isDouble 0 = .ok (.aload_n 0, 1) := by decide +kernel
theorem dX10_isDouble_1 : decode cX10_isDouble 1 = .ok (.getfield 32, 3) := by decide +kernel
theorem dX10_isDouble_4 : decode cX10_isDouble 4 = .ok (.iconst 4, 1) := by decide +kernel
theorem dX10_isDouble_5 : decode cX10_isDouble 5 = .ok (.iload_n 1, 1) := by decide +kernel
theorem dX10_isDouble_6 : decode cX10_isDouble 6 = .ok (.imul, 1) := by decide +kernel
theorem dX10_isDouble_7 : decode cX10_isDouble 7 = .ok (.iaload, 1) := by decide +kernel
theorem dX10_isDouble_8 : decode cX10_isDouble 8 = .ok (.aload_n 0, 1) := by decide +kernel
theorem dX10_isDouble_9 : decode cX10_isDouble 9 = .ok (.getfield 32, 3) := by decide +kernel
theorem dX10_isDouble_12 : decode cX10_isDouble 12 = .ok (.iconst 4, 1) := by decide +kernel
theorem dX10_isDouble_13 : decode cX10_isDouble 13 = .ok (.iload_n 2, 1) := by decide +kernel
theorem dX10_isDouble_14 : decode cX10_isDouble 14 = .ok (.imul, 1) := by decide +kernel
theorem dX10_isDouble_15 : decode cX10_isDouble 15 = .ok (.iaload, 1) := by decide +kernel
theorem dX10_isDouble_16 : decode cX10_isDouble 16 = .ok (.if_icmp .ne 53, 3) := by decide +kernel
theorem dX10_isDouble_19 : decode cX10_isDouble 19 = .ok (.aload_n 0, 1) := by decide +kernel
theorem dX10_isDouble_20 : decode cX10_isDouble 20 = .ok (.getfield 32, 3) := by decide +kernel
theorem dX10_isDouble_23 : decode cX10_isDouble 23 = .ok (.iconst 4, 1) := by decide +kernel
theorem dX10_isDouble_24 : decode cX10_isDouble 24 = .ok (.iload_n 1, 1) := by decide +kernel
theorem dX10_isDouble_25 : decode cX10_isDouble 25 = .ok (.imul, 1) := by decide +kernel
theorem dX10_isDouble_26 : decode cX10_isDouble 26 = .ok (.iconst 2, 1) := by decide +kernel
theorem dX10_isDouble_27 : decode cX10_isDouble 27 = .ok (.iadd, 1) := by decide +kernel
theorem dX10_isDouble_28 : decode cX10_isDouble 28 = .ok (.iaload, 1) := by decide +kernel
theorem dX10_isDouble_29 : decode cX10_isDouble 29 = .ok (.aload_n 0, 1) := by decide +kernel
theorem dX10_isDouble_30 : decode cX10_isDouble 30 = .ok (.getfield 32, 3) := by decide +kernel
theorem dX10_isDouble_33 : decode cX10_isDouble 33 = .ok (.iconst 4, 1) := by decide +kernel
theorem dX10_isDouble_34 : decode cX10_isDouble 34 = .ok (.iload_n 2, 1) := by decide +kernel
theorem dX10_isDouble_35 : decode cX10_isDouble 35 = .ok (.imul, 1) := by decide +kernel
theorem dX10_isDouble_36 : decode cX10_isDouble 36 = .ok (.iconst 2, 1) := by decide +kernel
theorem dX10_isDouble_37 : decode cX10_isDouble 37 = .ok (.iadd, 1) := by decide +kernel
theorem dX10_isDouble_38 : decode cX10_isDouble 38 = .ok (.iaload, 1) := by decide +kernel
theorem dX10_isDouble_39 : decode cX10_isDouble 39 = .ok (.if_icmp .ne 30, 3) := by decide +kernel
theorem dX10_isDouble_42 : decode cX10_isDouble 42 = .ok (.aload_n 0, 1) := by decide +kernel
theorem dX10_isDouble_43 : decode cX10_isDouble 43 = .ok (.getfield 32, 3) := by decide +kernel
theorem dX10_isDouble_46 : decode cX10_isDouble 46 = .ok (.iconst 4, 1) := by decide +kernel
theorem dX10_isDouble_47 : decode cX10_isDouble 47 = .ok (.iload_n 1, 1) := by decide +kernel
theorem dX10_isDouble_48 : decode cX10_isDouble 48 = .ok (.imul, 1) := by decide +kernel
theorem dX10_isDouble_49 : decode cX10_isDouble 49 = .ok (.iconst 1, 1) := by decide +kernel
theorem dX10_isDouble_50 : decode cX10_isDouble 50 = .ok (.iadd, 1) := by decide +kernel
theorem dX10_isDouble_51 : decode cX10_isDouble 51 = .ok (.iaload, 1) := by decide +kernel
theorem dX10_isDouble_52 : decode cX10_isDouble 52 = .ok (.aload_n 0, 1) := by decide +kernel
theorem dX10_isDouble_53 : decode cX10_isDouble 53 = .ok (.getfield 32, 3) := by decide +kernel
theorem dX10_isDouble_56 : decode cX10_isDouble 56 = .ok (.iconst 4, 1) := by decide +kernel
theorem dX10_isDouble_57 : decode cX10_isDouble 57 = .ok (.iload_n 2, 1) := by decide +kernel
theorem dX10_isDouble_58 : decode cX10_isDouble 58 = .ok (.imul, 1) := by decide +kernel
theorem dX10_isDouble_59 : decode cX10_isDouble 59 = .ok (.iconst 1, 1) := by decide +kernel
theorem dX10_isDouble_60 : decode cX10_isDouble 60 = .ok (.iadd, 1) := by decide +kernel
theorem dX10_isDouble_61 : decode cX10_isDouble 61 = .ok (.iaload, 1) := by decide +kernel
theorem dX10_isDouble_62 : decode cX10_isDouble 62 = .ok (.if_icmp .eq 7, 3) := by decide +kernel
theorem dX10_isDouble_65 : decode cX10_isDouble 65 = .ok (.iconst 1, 1) := by decide +kernel
theorem dX10_isDouble_66 : decode cX10_isDouble 66 = .ok (.goto 4, 3) := by decide +kernel
theorem dX10_isDouble_69 : decode cX10_isDouble 69 = .ok (.iconst 0, 1) := by decide +kernel
theorem dX10_isDouble_70 : decode cX10_isDouble 70 = .ok (.ireturn, 1) := by decide +kernel
set_option maxRecDepth 20000 in
theorem ggX10_least_X10_common : GoodIn wsX10_least wsX10_common := goodIn_r _ [6] (by decide +kernel) (by decide +kernel)
set_option maxRecDepth 20000 in
theorem gX10_least_X10_common : GoodIn wsX10_least (va_wsS RX10 166 yX10_common wsX10_common) := goodIn_app (goodIn_of _ (by decide +kernel)) ggX10_least_X10_common
theorem dX10_least_0 : decode cX10_least 0 = .ok (.aload_n 0, 1) := by decide +kernel
theorem dX10_least_1 : decode cX10_least 1 = .ok (.getfield 159, 3) := by decide +kernel
theorem dX10_least_4 : decode cX10_least 4 = .ok (.aload_n 0, 1) := by decide +kernel
theorem dX10_least_5 : decode cX10_least 5 = .ok (.getfield 163, 3) := by decide +kernel
theorem dX10_least_8 : decode cX10_least 8 = .ok (.invokestatic 166, 3) := by decide +kernel
theorem dX10_least_11 : decode cX10_least 11 = .ok (.lstore_n 1, 1) := by decide +kernel
theorem dX10_least_12 : decode cX10_least 12 = .ok (.aload_n 0, 1) := by decide +kernel
theorem dX10_least_13 : decode cX10_least 13 = .ok (.dup, 1) := by decide +kernel
theorem dX10_least_14 : decode cX10_least 14 = .ok (.getfield 159, 3) := by decide +kernel
theorem dX10_least_17 : decode cX10_least 17 = .ok (.lload_n 1, 1) := by decide +kernel
theorem dX10_least_18 : decode cX10_least 18 = .ok (.ldiv, 1) := by decide +kernel
theorem dX10_least_19 : decode cX10_least 19 = .ok (.putfield 159, 3) := by decide +kernel
theorem dX10_least_22 : decode cX10_least 22 = .ok (.aload_n 0, 1) := by decide +kernel
theorem dX10_least_23 : decode cX10_least 23 = .ok (.dup, 1) := by decide +kernel
theorem dX10_least_24 : decode cX10_least 24 = .ok (.getfield 163, 3) := by decide +kernel
theorem dX10_least_27 : decode cX10_least 27 = .ok (.lload_n 1, 1) := by decide +kernel
theorem dX10_least_28 : decode cX10_least 28 = .ok (.ldiv, 1) := by decide +kernel
theorem dX10_least_29 : decode cX10_least 29 = .ok (.putfield 163, 3) := by decide +kernel
theorem dX10_least_32 : decode cX10_least 32 = .ok (.return_, 1) := by decide +kernel
theorem dX10_common_0 : decode cX10_common 0 = .ok (.lload_n 0, 1) := by decide +kernel
theorem dX10_common_1 : decode cX10_common 1 = .ok (.lconst 0, 1) := by decide +kernel
theorem dX10_common_2 : decode cX10_common 2 = .ok (.lcmp, 1) := by decide +kernel
theorem dX10_common_3 : decode cX10_common 3 = .ok (.ifCond .ge 8, 3) := by decide +kernel
theorem dX10_common_6 : decode cX10_common 6 = .ok (.lload_n 0, 1) := by decide +kernel
theorem dX10_common_7 : decode cX10_common 7 = .ok (.lneg, 1) := by decide +kernel
theorem dX10_common_8 : decode cX10_common 8 = .ok (.goto 4, 3) := by decide +kernel
theorem dX10_common_11 : decode cX10_common 11 = .ok (.lload_n 0, 1) := by decide +kernel
theorem dX10_common_12 : decode cX10_common 12 = .ok (.lstore 4, 2) := by decide +kernel
theorem dX10_common_14 : decode cX10_common 14 = .ok (.lload_n 2, 1) := by decide +kernel
theorem dX10_common_15 : decode cX10_common 15 = .ok (.lstore 6, 2) := by decide +kernel
theorem dX10_common_17 : decode cX10_common 17 = .ok (.lload 6, 2) := by decide +kernel
theorem dX10_common_19 : decode cX10_common 19 = .ok (.lconst 0, 1) := by decide +kernel
theorem dX10_common_20 : decode cX10_common 20 = .ok (.lcmp, 1) := by decide +kernel
theorem dX10_common_21 : decode cX10_common 21 = .ok (.ifCond .eq 21, 3) := by decide +kernel
theorem dX10_common_24 : decode cX10_common 24 = .ok (.lload 4, 2) := by decide +kernel
theorem dX10_common_26 : decode cX10_common 26 = .ok (.lload 6, 2) := by decide +kernel
theorem dX10_common_28 : decode cX10_common 28 = .ok (.lrem, 1) := by decide +kernel
theorem dX10_common_29 : decode cX10_common 29 = .ok (.lstore 8, 2) := by decide +kernel
theorem dX10_common_31 : decode cX10_common 31 = .ok (.lload 6, 2) := by decide +kernel
theorem dX10_common_33 : decode cX10_common 33 = .ok (.lstore 4, 2) := by decide +kernel
theorem dX10_common_35 : decode cX10_common 35 = .ok (.lload 8, 2) := by decide +kernel
theorem dX10_common_37 : decode cX10_common 37 = .ok (.lstore 6, 2) := by decide +kernel
theorem dX10_common_39 : decode cX10_common 39 = .ok (.goto (-22), 3) := by decide +kernel
theorem dX10_common_42 : decode cX10_common 42 = .ok (.lload 4, 2) := by decide +kernel
theorem dX10_common_44 : decode cX10_common 44 = .ok (.lreturn, 1) := by decide +kernel
set_option maxRecDepth 20000 in
theorem ggX10_takeOff_X10_common : GoodIn wsX10_takeOff wsX10_common := goodIn_r _ [6] (by decide +kernel) (by decide +kernel)
set_option maxRecDepth 20000 in
theorem gX10_takeOff_X10_common : GoodIn wsX10_takeOff (va_wsS RX10 166 yX10_common wsX10_common) := goodIn_app (goodIn_of _ (by decide +kernel)) ggX10_takeOff_X10_common
set_option maxRecDepth 20000 in
theorem ggX10_takeOff_X10_least : GoodIn wsX10_takeOff wsX10_least := goodIn_r _ [10, 2, 1, 3, 4, 5, 6, 11, 12, 13, 14, 15, 16, 17, 18, 19, 20, 21, 22, 23, 24, 25, 26, 27, 28, 29, 30, 31, 32, 33, 34, 35, 36, 37, 38, 39, 40, 41, 42, 43, 44, 45, 46] (by decide +kernel) (by decide +kernel)
set_option maxRecDepth 20000 in
theorem gX10_takeOff_X10_least : GoodIn wsX10_takeOff (wsV RX10 170 RX10 yX10_least wsX10_least) := goodIn_app (goodIn_of _ (by decide +kernel)) ggX10_takeOff_X10_least
theorem dX10_takeOff_0 : decode cX10_takeOff 0 = .ok (.lload_n 1, 1) := by decide +kernel
theorem dX10_takeOff_1 : decode cX10_takeOff 1 = .ok (.lload_n 3, 1) := by decide +kernel
theorem dX10_takeOff_2 : decode cX10_takeOff 2 = .ok (.invokestatic 166, 3) := by decide +kernel
theorem dX10_takeOff_5 : decode cX10_takeOff 5 = .ok (.lstore 7, 2) := by decide +kernel
theorem dX10_takeOff_7 : decode cX10_takeOff 7 = .ok (.lload_n 3, 1) := by decide +kernel
theorem dX10_takeOff_8 : decode cX10_takeOff 8 = .ok (.lload 7, 2) := by decide +kernel
theorem dX10_takeOff_10 : decode cX10_takeOff 10 = .ok (.ldiv, 1) := by decide +kernel
theorem dX10_takeOff_11 : decode cX10_takeOff 11 = .ok (.lstore 9, 2) := by decide +kernel
theorem dX10_takeOff_13 : decode cX10_takeOff 13 = .ok (.aload_n 0, 1) := by decide +kernel
theorem dX10_takeOff_14 : decode cX10_takeOff 14 = .ok (.getfield 163, 3) := by decide +kernel
theorem dX10_takeOff_17 : decode cX10_takeOff 17 = .ok (.lload 9, 2) := by decide +kernel
theorem dX10_takeOff_19 : decode cX10_takeOff 19 = .ok (.invokestatic 166, 3) := by decide +kernel
theorem dX10_takeOff_22 : decode cX10_takeOff 22 = .ok (.lstore 11, 2) := by decide +kernel
theorem dX10_takeOff_24 : decode cX10_takeOff 24 = .ok (.aload_n 0, 1) := by decide +kernel
theorem dX10_takeOff_25 : decode cX10_takeOff 25 = .ok (.aload_n 0, 1) := by decide +kernel
theorem dX10_takeOff_26 : decode cX10_takeOff 26 = .ok (.getfield 159, 3) := by decide +kernel
theorem dX10_takeOff_29 : decode cX10_takeOff 29 = .ok (.lload 9, 2) := by decide +kernel
theorem dX10_takeOff_31 : decode cX10_takeOff 31 = .ok (.lload 11, 2) := by decide +kernel
theorem dX10_takeOff_33 : decode cX10_takeOff 33 = .ok (.ldiv, 1) := by decide +kernel
theorem dX10_takeOff_34 : decode cX10_takeOff 34 = .ok (.lmul, 1) := by decide +kernel
theorem dX10_takeOff_35 : decode cX10_takeOff 35 = .ok (.lload_n 1, 1) := by decide +kernel
theorem dX10_takeOff_36 : decode cX10_takeOff 36 = .ok (.lload 7, 2) := by decide +kernel
theorem dX10_takeOff_38 : decode cX10_takeOff 38 = .ok (.ldiv, 1) := by decide +kernel
theorem dX10_takeOff_39 : decode cX10_takeOff 39 = .ok (.lload 5, 2) := by decide +kernel
theorem dX10_takeOff_41 : decode cX10_takeOff 41 = .ok (.lmul, 1) := by decide +kernel
theorem dX10_takeOff_42 : decode cX10_takeOff 42 = .ok (.aload_n 0, 1) := by decide +kernel
theorem dX10_takeOff_43 : decode cX10_takeOff 43 = .ok (.getfield 163, 3) := by decide +kernel
theorem dX10_takeOff_46 : decode cX10_takeOff 46 = .ok (.lload 11, 2) := by decide +kernel
theorem dX10_takeOff_48 : decode cX10_takeOff 48 = .ok (.ldiv, 1) := by decide +kernel
theorem dX10_takeOff_49 : decode cX10_takeOff 49 = .ok (.lmul, 1) := by decide +kernel
theorem dX10_takeOff_50 : decode cX10_takeOff 50 = .ok (.lsub, 1) := by decide +kernel
theorem dX10_takeOff_51 : decode cX10_takeOff 51 = .ok (.putfield 159, 3) := by decide +kernel
theorem dX10_takeOff_54 : decode cX10_takeOff 54 = .ok (.aload_n 0, 1) := by decide +kernel
theorem dX10_takeOff_55 : decode cX10_takeOff 55 = .ok (.dup, 1) := by decide +kernel
theorem dX10_takeOff_56 : decode cX10_takeOff 56 = .ok (.getfield 163, 3) := by decide +kernel
theorem dX10_takeOff_59 : decode cX10_takeOff 59 = .ok (.lload 9, 2) := by decide +kernel
theorem dX10_takeOff_61 : decode cX10_takeOff 61 = .ok (.lload 11, 2) := by decide +kernel
theorem dX10_takeOff_63 : decode cX10_takeOff 63 = .ok (.ldiv, 1) := by decide +kernel
theorem dX10_takeOff_64 : decode cX10_takeOff 64 = .ok (.lmul, 1) := by decide +kernel
theorem dX10_takeOff_65 : decode cX10_takeOff 65 = .ok (.putfield 163, 3) := by decide +kernel
theorem dX10_takeOff_68 : decode cX10_takeOff 68 = .ok (.aload_n 0, 1) := by decide +kernel
theorem dX10_takeOff_69 : decode cX10_takeOff 69 = .ok (.invokevirtual 170, 3) := by decide +kernel
theorem dX10_takeOff_72 : decode cX10_takeOff 72 = .ok (.return_, 1) := by decide +kernel
set_option maxRecDepth 20000 in
theorem ggX10_findHabits_X10_isDouble : GoodIn wsX10_findHabits wsX10_isDouble := goodIn_r _ [9, 3, 10, 11, 12, 13, 14, 15, 16, 17, 18, 19, 20, 21, 22, 23, 24, 25, 26, 27, 28, 29, 30, 31, 32, 33, 34, 35, 36, 37, 38, 39, 40, 41, 42, 43, 44, 45] (by decide +kernel) (by decide +kernel)
set_option maxRecDepth 20000 in
theorem gX10_findHabits_X10_isDouble : GoodIn wsX10_findHabits (wsV RX10 144 RX10 yX10_isDouble wsX10_isDouble) := goodIn_app (goodIn_of _ (by decide +kernel)) ggX10_findHabits_X10_isDouble
theorem dX10_findHabits_0 : decode cX10_findHabits 0 = .ok (.iconst 0, 1) := by decide +kernel
theorem dX10_findHabits_1 : decode cX10_findHabits 1 = .ok (.istore_n 2, 1) := by decide +kernel
theorem dX10_findHabits_2 : decode cX10_findHabits 2 = .ok (.iload_n 2, 1) := by decide +kernel
theorem dX10_findHabits_3 : decode cX10_findHabits 3 = .ok (.iconst 4, 1) := by decide +kernel
theorem dX10_findHabits_4 : decode cX10_findHabits 4 = .ok (.if_icmp .ge 23, 3) := by decide +kernel
theorem dX10_findHabits_7 : decode cX10_findHabits 7 = .ok (.aload_n 0, 1) := by decide +kernel
theorem dX10_findHabits_8 : decode cX10_findHabits 8 = .ok (.getfield 59, 3) := by decide +kernel
theorem dX10_findHabits_11 : decode cX10_findHabits 11 = .ok (.iload_n 2, 1) := by decide +kernel
theorem dX10_findHabits_12 : decode cX10_findHabits 12 = .ok (.lconst 0, 1) := by decide +kernel
theorem dX10_findHabits_13 : decode cX10_findHabits 13 = .ok (.lastore, 1) := by decide +kernel
theorem dX10_findHabits_14 : decode cX10_findHabits 14 = .ok (.aload_n 0, 1) := by decide +kernel
theorem dX10_findHabits_15 : decode cX10_findHabits 15 = .ok (.getfield 63, 3) := by decide +kernel
theorem dX10_findHabits_18 : decode cX10_findHabits 18 = .ok (.iload_n 2, 1) := by decide +kernel
theorem dX10_findHabits_19 : decode cX10_findHabits 19 = .ok (.lconst 0, 1) := by decide +kernel
theorem dX10_findHabits_20 : decode cX10_findHabits 20 = .ok (.lastore, 1) := by decide +kernel
theorem dX10_findHabits_21 : decode cX10_findHabits 21 = .ok (.iinc 2 1, 3) := by decide +kernel
theorem dX10_findHabits_24 : decode cX10_findHabits 24 = .ok (.goto (-22), 3) := by decide +kernel
theorem dX10_findHabits_27 : decode cX10_findHabits 27 = .ok (.iconst 0, 1) := by decide +kernel
theorem dX10_findHabits_28 : decode cX10_findHabits 28 = .ok (.istore_n 2, 1) := by decide +kernel
theorem dX10_findHabits_29 : decode cX10_findHabits 29 = .ok (.iload_n 2, 1) := by decide +kernel
theorem dX10_findHabits_30 : decode cX10_findHabits 30 = .ok (.iload_n 1, 1) := by decide +kernel
theorem dX10_findHabits_31 : decode cX10_findHabits 31 = .ok (.if_icmp .ge 88, 3) := by decide +kernel
theorem dX10_findHabits_34 : decode cX10_findHabits 34 = .ok (.iconst 0, 1) := by decide +kernel
theorem dX10_findHabits_35 : decode cX10_findHabits 35 = .ok (.istore_n 3, 1) := by decide +kernel
theorem dX10_findHabits_36 : decode cX10_findHabits 36 = .ok (.iload_n 3, 1) := by decide +kernel
theorem dX10_findHabits_37 : decode cX10_findHabits 37 = .ok (.iload_n 1, 1) := by decide +kernel
theorem dX10_findHabits_38 : decode cX10_findHabits 38 = .ok (.if_icmp .ge 75, 3) := by decide +kernel
theorem dX10_findHabits_41 : decode cX10_findHabits 41 = .ok (.aload_n 0, 1) := by decide +kernel
theorem dX10_findHabits_42 : decode cX10_findHabits 42 = .ok (.iload_n 2, 1) := by decide +kernel
theorem dX10_findHabits_43 : decode cX10_findHabits 43 = .ok (.iload_n 3, 1) := by decide +kernel
theorem dX10_findHabits_44 : decode cX10_findHabits 44 = .ok (.invokevirtual 144, 3) := by decide +kernel
theorem dX10_findHabits_47 : decode cX10_findHabits 47 = .ok (.ifCond .eq 60, 3) := by decide +kernel
theorem dX10_findHabits_50 : decode cX10_findHabits 50 = .ok (.aload_n 0, 1) := by decide +kernel
theorem dX10_findHabits_51 : decode cX10_findHabits 51 = .ok (.getfield 32, 3) := by decide +kernel
theorem dX10_findHabits_54 : decode cX10_findHabits 54 = .ok (.iconst 4, 1) := by decide +kernel
theorem dX10_findHabits_55 : decode cX10_findHabits 55 = .ok (.iload_n 2, 1) := by decide +kernel
theorem dX10_findHabits_56 : decode cX10_findHabits 56 = .ok (.imul, 1) := by decide +kernel
theorem dX10_findHabits_57 : decode cX10_findHabits 57 = .ok (.iconst 1, 1) := by decide +kernel
theorem dX10_findHabits_58 : decode cX10_findHabits 58 = .ok (.iadd, 1) := by decide +kernel
theorem dX10_findHabits_59 : decode cX10_findHabits 59 = .ok (.iaload, 1) := by decide +kernel
theorem dX10_findHabits_60 : decode cX10_findHabits 60 = .ok (.istore 4, 2) := by decide +kernel
theorem dX10_findHabits_62 : decode cX10_findHabits 62 = .ok (.aload_n 0, 1) := by decide +kernel
theorem dX10_findHabits_63 : decode cX10_findHabits 63 = .ok (.getfield 59, 3) := by decide +kernel
theorem dX10_findHabits_66 : decode cX10_findHabits 66 = .ok (.iload 4, 2) := by decide +kernel
theorem dX10_findHabits_68 : decode cX10_findHabits 68 = .ok (.dup2, 1) := by decide +kernel
theorem dX10_findHabits_69 : decode cX10_findHabits 69 = .ok (.laload, 1) := by decide +kernel
theorem dX10_findHabits_70 : decode cX10_findHabits 70 = .ok (.aload_n 0, 1) := by decide +kernel
theorem dX10_findHabits_71 : decode cX10_findHabits 71 = .ok (.getfield 32, 3) := by decide +kernel
theorem dX10_findHabits_74 : decode cX10_findHabits 74 = .ok (.iconst 4, 1) := by decide +kernel
theorem dX10_findHabits_75 : decode cX10_findHabits 75 = .ok (.iload_n 2, 1) := by decide +kernel
theorem dX10_findHabits_76 : decode cX10_findHabits 76 = .ok (.imul, 1) := by decide +kernel
theorem dX10_findHabits_77 : decode cX10_findHabits 77 = .ok (.iconst 3, 1) := by decide +kernel
theorem dX10_findHabits_78 : decode cX10_findHabits 78 = .ok (.iadd, 1) := by decide +kernel
theorem dX10_findHabits_79 : decode cX10_findHabits 79 = .ok (.iaload, 1) := by decide +kernel
theorem dX10_findHabits_80 : decode cX10_findHabits 80 = .ok (.aload_n 0, 1) := by decide +kernel
theorem dX10_findHabits_81 : decode cX10_findHabits 81 = .ok (.getfield 32, 3) := by decide +kernel
theorem dX10_findHabits_84 : decode cX10_findHabits 84 = .ok (.iconst 4, 1) := by decide +kernel
theorem dX10_findHabits_85 : decode cX10_findHabits 85 = .ok (.iload_n 3, 1) := by decide +kernel
theorem dX10_findHabits_86 : decode cX10_findHabits 86 = .ok (.imul, 1) := by decide +kernel
theorem dX10_findHabits_87 : decode cX10_findHabits 87 = .ok (.iconst 3, 1) := by decide +kernel
theorem dX10_findHabits_88 : decode cX10_findHabits 88 = .ok (.iadd, 1) := by decide +kernel
theorem dX10_findHabits_89 : decode cX10_findHabits 89 = .ok (.iaload, 1) := by decide +kernel
theorem dX10_findHabits_90 : decode cX10_findHabits 90 = .ok (.isub, 1) := by decide +kernel
theorem dX10_findHabits_91 : decode cX10_findHabits 91 = .ok (.i2l, 1) := by decide +kernel
theorem dX10_findHabits_92 : decode cX10_findHabits 92 = .ok (.ladd, 1) := by decide +kernel
theorem dX10_findHabits_93 : decode cX10_findHabits 93 = .ok (.lastore, 1) := by decide +kernel
theorem dX10_findHabits_94 : decode cX10_findHabits 94 = .ok (.aload_n 0, 1) := by decide +kernel
theorem dX10_findHabits_95 : decode cX10_findHabits 95 = .ok (.getfield 63, 3) := by decide +kernel
theorem dX10_findHabits_98 : decode cX10_findHabits 98 = .ok (.iload 4, 2) := by decide +kernel
theorem dX10_findHabits_100 : decode cX10_findHabits 100 = .ok (.dup2, 1) := by decide +kernel
theorem dX10_findHabits_101 : decode cX10_findHabits 101 = .ok (.laload, 1) := by decide +kernel
theorem dX10_findHabits_102 : decode cX10_findHabits 102 = .ok (.ldc2_w 173, 3) := by decide +kernel
theorem dX10_findHabits_105 : decode cX10_findHabits 105 = .ok (.ladd, 1) := by decide +kernel
theorem dX10_findHabits_106 : decode cX10_findHabits 106 = .ok (.lastore, 1) := by decide +kernel
theorem dX10_findHabits_107 : decode cX10_findHabits 107 = .ok (.iinc 3 1, 3) := by decide +kernel
theorem dX10_findHabits_110 : decode cX10_findHabits 110 = .ok (.goto (-74), 3) := by decide +kernel
theorem dX10_findHabits_113 : decode cX10_findHabits 113 = .ok (.iinc 2 1, 3) := by decide +kernel
theorem dX10_findHabits_116 : decode cX10_findHabits 116 = .ok (.goto (-87), 3) := by decide +kernel
theorem dX10_findHabits_119 : decode cX10_findHabits 119 = .ok (.iconst 0, 1) := by decide +kernel
theorem dX10_findHabits_120 : decode cX10_findHabits 120 = .ok (.istore_n 2, 1) := by decide +kernel
theorem dX10_findHabits_121 : decode cX10_findHabits 121 = .ok (.iload_n 2, 1) := by decide +kernel
theorem dX10_findHabits_122 : decode cX10_findHabits 122 = .ok (.iconst 4, 1) := by decide +kernel
theorem dX10_findHabits_123 : decode cX10_findHabits 123 = .ok (.if_icmp .ge 36, 3) := by decide +kernel
theorem dX10_findHabits_126 : decode cX10_findHabits 126 = .ok (.aload_n 0, 1) := by decide +kernel
theorem dX10_findHabits_127 : decode cX10_findHabits 127 = .ok (.getfield 63, 3) := by decide +kernel
theorem dX10_findHabits_130 : decode cX10_findHabits 130 = .ok (.iload_n 2, 1) := by decide +kernel
theorem dX10_findHabits_131 : decode cX10_findHabits 131 = .ok (.aload_n 0, 1) := by decide +kernel
theorem dX10_findHabits_132 : decode cX10_findHabits 132 = .ok (.getfield 63, 3) := by decide +kernel
theorem dX10_findHabits_135 : decode cX10_findHabits 135 = .ok (.iload_n 2, 1) := by decide +kernel
theorem dX10_findHabits_136 : decode cX10_findHabits 136 = .ok (.laload, 1) := by decide +kernel
theorem dX10_findHabits_137 : decode cX10_findHabits 137 = .ok (.lconst 0, 1) := by decide +kernel
theorem dX10_findHabits_138 : decode cX10_findHabits 138 = .ok (.lcmp, 1) := by decide +kernel
theorem dX10_findHabits_139 : decode cX10_findHabits 139 = .ok (.ifCond .ne 7, 3) := by decide +kernel
theorem dX10_findHabits_142 : decode cX10_findHabits 142 = .ok (.lconst 1, 1) := by decide +kernel
theorem dX10_findHabits_143 : decode cX10_findHabits 143 = .ok (.goto 9, 3) := by decide +kernel
theorem dX10_findHabits_146 : decode cX10_findHabits 146 = .ok (.aload_n 0, 1) := by decide +kernel
theorem dX10_findHabits_147 : decode cX10_findHabits 147 = .ok (.getfield 63, 3) := by decide +kernel
theorem dX10_findHabits_150 : decode cX10_findHabits 150 = .ok (.iload_n 2, 1) := by decide +kernel
theorem dX10_findHabits_151 : decode cX10_findHabits 151 = .ok (.laload, 1) := by decide +kernel
theorem dX10_findHabits_152 : decode cX10_findHabits 152 = .ok (.lastore, 1) := by decide +kernel
theorem dX10_findHabits_153 : decode cX10_findHabits 153 = .ok (.iinc 2 1, 3) := by decide +kernel
theorem dX10_findHabits_156 : decode cX10_findHabits 156 = .ok (.goto (-35), 3) := by decide +kernel
theorem dX10_findHabits_159 : decode cX10_findHabits 159 = .ok (.return_, 1) := by decide +kernel
set_option maxRecDepth 20000 in
theorem ggX10_isKnown_X10_in : GoodIn wsX10_isKnown wsX10_in := goodIn_r _ [6] (by decide +kernel) (by decide +kernel)
set_option maxRecDepth 20000 in
theorem gX10_isKnown_X10_in : GoodIn wsX10_isKnown (va_wsS RX10 86 yX10_in wsX10_in) := goodIn_app (goodIn_of _ (by decide +kernel)) ggX10_isKnown_X10_in
theorem dX10_isKnown_0 : decode cX10_isKnown 0 = .ok (.iload_n 1, 1) := by decide +kernel
theorem dX10_isKnown_1 : decode cX10_isKnown 1 = .ok (.i2l, 1) := by decide +kernel
theorem dX10_isKnown_2 : decode cX10_isKnown 2 = .ok (.ldc2_w 175, 3) := by decide +kernel
theorem dX10_isKnown_5 : decode cX10_isKnown 5 = .ok (.aload_n 0, 1) := by decide +kernel
theorem dX10_isKnown_6 : decode cX10_isKnown 6 = .ok (.getfield 141, 3) := by decide +kernel
theorem dX10_isKnown_9 : decode cX10_isKnown 9 = .ok (.i2l, 1) := by decide +kernel
theorem dX10_isKnown_10 : decode cX10_isKnown 10 = .ok (.invokestatic 86, 3) := by decide +kernel
theorem dX10_isKnown_13 : decode cX10_isKnown 13 = .ok (.ireturn, 1) := by decide +kernel
set_option maxRecDepth 20000 in
theorem ggX10_habit_X10_in : GoodIn wsX10_habit wsX10_in := goodIn_r _ [10] (by decide +kernel) (by decide +kernel)
set_option maxRecDepth 20000 in
theorem gX10_habit_X10_in : GoodIn wsX10_habit (va_wsS RX10 86 yX10_in wsX10_in) := goodIn_app (goodIn_of _ (by decide +kernel)) ggX10_habit_X10_in
set_option maxRecDepth 20000 in
theorem ggX10_habit_X10_isKnown : GoodIn wsX10_habit wsX10_isKnown := goodIn_r _ [14, 15, 2, 7, 8, 9, 10, 33, 34, 35, 36, 37, 38, 39, 40, 41, 42, 43, 44, 45, 46, 47, 48, 49, 50, 51, 52, 53, 54, 55, 56, 57, 58, 59, 60, 61, 62, 63, 64, 65, 66, 67, 68] (by decide +kernel) (by decide +kernel)
set_option maxRecDepth 20000 in
theorem gX10_habit_X10_isKnown : GoodIn wsX10_habit (wsV RX10 177 RX10 yX10_isKnown wsX10_isKnown) := goodIn_app (goodIn_of _ (by decide +kernel)) ggX10_habit_X10_isKnown
set_option maxRecDepth 20000 in
theorem ggX10_habit_X10_findHabits : GoodIn wsX10_habit wsX10_findHabits := goodIn_r _ [19, 3, 5, 20, 21, 22, 23, 24, 9, 25, 33, 34, 35, 36, 37, 38, 39, 40, 41, 42, 43, 44, 45, 46, 47, 48, 49, 50, 51, 52, 53, 54, 55, 56, 57, 58, 59, 60, 61, 62, 63, 64, 65, 66, 67, 68] (by decide +kernel) (by decide +kernel)
set_option maxRecDepth 20000 in
theorem gX10_habit_X10_findHabits : GoodIn wsX10_habit (wsV RX10 180 RX10 yX10_findHabits wsX10_findHabits) := goodIn_app (goodIn_of _ (by decide +kernel)) ggX10_habit_X10_findHabits
set_option maxRecDepth 20000 in
theorem ggX10_habit_X10_least : GoodIn wsX10_habit wsX10_least := goodIn_r _ [29, 4, 6, 30, 31, 9, 32, 33, 34, 35, 36, 37, 38, 39, 40, 41, 42, 43, 44, 45, 46, 47, 48, 49, 50, 51, 52, 53, 54, 55, 56, 57, 58, 59, 60, 61, 62, 63, 64, 65, 66, 67, 68] (by decide +kernel) (by decide +kernel)
set_option maxRecDepth 20000 in
theorem gX10_habit_X10_least : GoodIn wsX10_habit (wsV RX10 170 RX10 yX10_least wsX10_least) := goodIn_app (goodIn_of _ (by decide +kernel)) ggX10_habit_X10_least
theorem dX10_habit_0 : decode cX10_habit 0 = .ok (.iload_n 1, 1) := by decide +kernel
theorem dX10_habit_1 : decode cX10_habit 1 = .ok (.i2l, 1) := by decide +kernel
theorem dX10_habit_2 : decode cX10_habit 2 = .ok (.lconst 0, 1) := by decide +kernel
theorem dX10_habit_3 : decode cX10_habit 3 = .ok (.ldc2_w 93, 3) := by decide +kernel
theorem dX10_habit_6 : decode cX10_habit 6 = .ok (.invokestatic 86, 3) := by decide +kernel
theorem dX10_habit_9 : decode cX10_habit 9 = .ok (.ifCond .eq 21, 3) := by decide +kernel
theorem dX10_habit_12 : decode cX10_habit 12 = .ok (.aload_n 0, 1) := by decide +kernel
theorem dX10_habit_13 : decode cX10_habit 13 = .ok (.iload_n 2, 1) := by decide +kernel
theorem dX10_habit_14 : decode cX10_habit 14 = .ok (.invokevirtual 177, 3) := by decide +kernel
theorem dX10_habit_17 : decode cX10_habit 17 = .ok (.ifCond .eq 13, 3) := by decide +kernel
theorem dX10_habit_20 : decode cX10_habit 20 = .ok (.iload_n 3, 1) := by decide +kernel
theorem dX10_habit_21 : decode cX10_habit 21 = .ok (.i2l, 1) := by decide +kernel
theorem dX10_habit_22 : decode cX10_habit 22 = .ok (.lconst 0, 1) := by decide +kernel
theorem dX10_habit_23 : decode cX10_habit 23 = .ok (.lconst 1, 1) := by decide +kernel
theorem dX10_habit_24 : decode cX10_habit 24 = .ok (.invokestatic 86, 3) := by decide +kernel
theorem dX10_habit_27 : decode cX10_habit 27 = .ok (.ifCond .ne 7, 3) := by decide +kernel
theorem dX10_habit_30 : decode cX10_habit 30 = .ok (.sipush (-1002), 3) := by decide +kernel
theorem dX10_habit_33 : decode cX10_habit 33 = .ok (.ireturn, 1) := by decide +kernel
theorem dX10_habit_34 : decode cX10_habit 34 = .ok (.aload_n 0, 1) := by decide +kernel
theorem dX10_habit_35 : decode cX10_habit 35 = .ok (.iload_n 2, 1) := by decide +kernel
theorem dX10_habit_36 : decode cX10_habit 36 = .ok (.ifCond .ge 10, 3) := by decide +kernel
theorem dX10_habit_39 : decode cX10_habit 39 = .ok (.aload_n 0, 1) := by decide +kernel
theorem dX10_habit_40 : decode cX10_habit 40 = .ok (.getfield 141, 3) := by decide +kernel
theorem dX10_habit_43 : decode cX10_habit 43 = .ok (.goto 4, 3) := by decide +kernel
theorem dX10_habit_46 : decode cX10_habit 46 = .ok (.iload_n 2, 1) := by decide +kernel
theorem dX10_habit_47 : decode cX10_habit 47 = .ok (.invokevirtual 180, 3) := by decide +kernel
theorem dX10_habit_50 : decode cX10_habit 50 = .ok (.aload_n 0, 1) := by decide +kernel
theorem dX10_habit_51 : decode cX10_habit 51 = .ok (.aload_n 0, 1) := by decide +kernel
theorem dX10_habit_52 : decode cX10_habit 52 = .ok (.getfield 59, 3) := by decide +kernel
theorem dX10_habit_55 : decode cX10_habit 55 = .ok (.iload_n 1, 1) := by decide +kernel
theorem dX10_habit_56 : decode cX10_habit 56 = .ok (.laload, 1) := by decide +kernel
theorem dX10_habit_57 : decode cX10_habit 57 = .ok (.putfield 159, 3) := by decide +kernel
theorem dX10_habit_60 : decode cX10_habit 60 = .ok (.aload_n 0, 1) := by decide +kernel
theorem dX10_habit_61 : decode cX10_habit 61 = .ok (.aload_n 0, 1) := by decide +kernel
theorem dX10_habit_62 : decode cX10_habit 62 = .ok (.getfield 63, 3) := by decide +kernel
theorem dX10_habit_65 : decode cX10_habit 65 = .ok (.iload_n 1, 1) := by decide +kernel
theorem dX10_habit_66 : decode cX10_habit 66 = .ok (.laload, 1) := by decide +kernel
theorem dX10_habit_67 : decode cX10_habit 67 = .ok (.putfield 163, 3) := by decide +kernel
theorem dX10_habit_70 : decode cX10_habit 70 = .ok (.aload_n 0, 1) := by decide +kernel
theorem dX10_habit_71 : decode cX10_habit 71 = .ok (.invokevirtual 170, 3) := by decide +kernel
theorem dX10_habit_74 : decode cX10_habit 74 = .ok (.iload_n 3, 1) := by decide +kernel
theorem dX10_habit_75 : decode cX10_habit 75 = .ok (.ifCond .ne 10, 3) := by decide +kernel
theorem dX10_habit_78 : decode cX10_habit 78 = .ok (.aload_n 0, 1) := by decide +kernel
theorem dX10_habit_79 : decode cX10_habit 79 = .ok (.getfield 159, 3) := by decide +kernel
theorem dX10_habit_82 : decode cX10_habit 82 = .ok (.goto 7, 3) := by decide +kernel
theorem dX10_habit_85 : decode cX10_habit 85 = .ok (.aload_n 0, 1) := by decide +kernel
theorem dX10_habit_86 : decode cX10_habit 86 = .ok (.getfield 163, 3) := by decide +kernel
theorem dX10_habit_89 : decode cX10_habit 89 = .ok (.l2i, 1) := by decide +kernel
theorem dX10_habit_90 : decode cX10_habit 90 = .ok (.ireturn, 1) := by decide +kernel
set_option maxRecDepth 20000 in
theorem ggX10_findState_X10_findHabits : GoodIn wsX10_findState wsX10_findHabits := goodIn_r _ [10, 4, 5, 1, 11, 12, 13, 14, 9, 15, 27, 28, 29, 30, 31, 32, 33, 34, 35, 36, 37, 38, 39, 40, 41, 42, 43, 44, 45, 46, 47, 48, 49, 50, 51, 52, 53, 54, 55, 56, 57, 58, 59, 60, 61, 62] (by decide +kernel) (by decide +kernel)
set_option maxRecDepth 20000 in
theorem gX10_findState_X10_findHabits : GoodIn wsX10_findState (wsV RX10 180 RX10 yX10_findHabits wsX10_findHabits) := goodIn_app (goodIn_of _ (by decide +kernel)) ggX10_findState_X10_findHabits
set_option maxRecDepth 20000 in
theorem ggX10_findState_X10_takeOff : GoodIn wsX10_findState wsX10_takeOff := goodIn_r _ [19, 3, 2, 20, 21, 9, 22, 23, 24, 25, 26, 27, 28, 29, 30, 31, 32, 33, 34, 35, 36, 37, 38, 39, 40, 41, 42, 43, 44, 45, 46, 47, 48, 49, 50, 51, 52, 53, 54, 55, 56, 57, 58, 59, 60, 61, 62] (by decide +kernel) (by decide +kernel)
set_option maxRecDepth 20000 in
theorem gX10_findState_X10_takeOff : GoodIn wsX10_findState (wsV RX10 184 RX10 yX10_takeOff wsX10_takeOff) := goodIn_app (goodIn_of _ (by decide +kernel)) ggX10_findState_X10_takeOff
set_option maxRecDepth 20000 in
theorem ggX10_findState_X10_least : GoodIn wsX10_findState wsX10_least := goodIn_r _ [26, 2, 3, 20, 21, 9, 22, 27, 28, 29, 30, 31, 32, 33, 34, 35, 36, 37, 38, 39, 40, 41, 42, 43, 44, 45, 46, 47, 48, 49, 50, 51, 52, 53, 54, 55, 56, 57, 58, 59, 60, 61, 62] (by decide +kernel) (by decide +kernel)
set_option maxRecDepth 20000 in
theorem gX10_findState_X10_least : GoodIn wsX10_findState (wsV RX10 170 RX10 yX10_least wsX10_least) := goodIn_app (goodIn_of _ (by decide +kernel)) ggX10_findState_X10_least
theorem dX10_findState_0 : decode cX10_findState 0 = .ok (.iconst (-1), 1) := by decide +kernel
theorem dX10_findState_1 : decode cX10_findState 1 = .ok (.istore 4, 2) := by decide +kernel
theorem dX10_findState_3 : decode cX10_findState 3 = .ok (.iconst 0, 1) := by decide +kernel
theorem dX10_findState_4 : decode cX10_findState 4 = .ok (.istore 5, 2) := by decide +kernel
theorem dX10_findState_6 : decode cX10_findState 6 = .ok (.iload 5, 2) := by decide +kernel
theorem dX10_findState_8 : decode cX10_findState 8 = .ok (.iload_n 3, 1) := by decide +kernel
theorem dX10_findState_9 : decode cX10_findState 9 = .ok (.if_icmp .ge 71, 3) := by decide +kernel
theorem dX10_findState_12 : decode cX10_findState 12 = .ok (.aload_n 0, 1) := by decide +kernel
theorem dX10_findState_13 : decode cX10_findState 13 = .ok (.getfield 32, 3) := by decide +kernel
theorem dX10_findState_16 : decode cX10_findState 16 = .ok (.iconst 4, 1) := by decide +kernel
theorem dX10_findState_17 : decode cX10_findState 17 = .ok (.iload 5, 2) := by decide +kernel
theorem dX10_findState_19 : decode cX10_findState 19 = .ok (.imul, 1) := by decide +kernel
theorem dX10_findState_20 : decode cX10_findState 20 = .ok (.iaload, 1) := by decide +kernel
theorem dX10_findState_21 : decode cX10_findState 21 = .ok (.iload_n 1, 1) := by decide +kernel
theorem dX10_findState_22 : decode cX10_findState 22 = .ok (.if_icmp .ne 48, 3) := by decide +kernel
theorem dX10_findState_25 : decode cX10_findState 25 = .ok (.aload_n 0, 1) := by decide +kernel
theorem dX10_findState_26 : decode cX10_findState 26 = .ok (.getfield 32, 3) := by decide +kernel
theorem dX10_findState_29 : decode cX10_findState 29 = .ok (.iconst 4, 1) := by decide +kernel
theorem dX10_findState_30 : decode cX10_findState 30 = .ok (.iload 5, 2) := by decide +kernel
theorem dX10_findState_32 : decode cX10_findState 32 = .ok (.imul, 1) := by decide +kernel
theorem dX10_findState_33 : decode cX10_findState 33 = .ok (.iconst 2, 1) := by decide +kernel
theorem dX10_findState_34 : decode cX10_findState 34 = .ok (.iadd, 1) := by decide +kernel
theorem dX10_findState_35 : decode cX10_findState 35 = .ok (.iaload, 1) := by decide +kernel
theorem dX10_findState_36 : decode cX10_findState 36 = .ok (.iload_n 2, 1) := by decide +kernel
theorem dX10_findState_37 : decode cX10_findState 37 = .ok (.if_icmp .gt 33, 3) := by decide +kernel
theorem dX10_findState_40 : decode cX10_findState 40 = .ok (.aload_n 0, 1) := by decide +kernel
theorem dX10_findState_41 : decode cX10_findState 41 = .ok (.getfield 32, 3) := by decide +kernel
theorem dX10_findState_44 : decode cX10_findState 44 = .ok (.iconst 4, 1) := by decide +kernel
theorem dX10_findState_45 : decode cX10_findState 45 = .ok (.iload 5, 2) := by decide +kernel
theorem dX10_findState_47 : decode cX10_findState 47 = .ok (.imul, 1) := by decide +kernel
theorem dX10_findState_48 : decode cX10_findState 48 = .ok (.iconst 2, 1) := by decide +kernel
theorem dX10_findState_49 : decode cX10_findState 49 = .ok (.iadd, 1) := by decide +kernel
theorem dX10_findState_50 : decode cX10_findState 50 = .ok (.iaload, 1) := by decide +kernel
theorem dX10_findState_51 : decode cX10_findState 51 = .ok (.iload 4, 2) := by decide +kernel
theorem dX10_findState_53 : decode cX10_findState 53 = .ok (.if_icmp .le 17, 3) := by decide +kernel
theorem dX10_findState_56 : decode cX10_findState 56 = .ok (.aload_n 0, 1) := by decide +kernel
theorem dX10_findState_57 : decode cX10_findState 57 = .ok (.getfield 32, 3) := by decide +kernel
theorem dX10_findState_60 : decode cX10_findState 60 = .ok (.iconst 4, 1) := by decide +kernel
theorem dX10_findState_61 : decode cX10_findState 61 = .ok (.iload 5, 2) := by decide +kernel
theorem dX10_findState_63 : decode cX10_findState 63 = .ok (.imul, 1) := by decide +kernel
theorem dX10_findState_64 : decode cX10_findState 64 = .ok (.iconst 2, 1) := by decide +kernel
theorem dX10_findState_65 : decode cX10_findState 65 = .ok (.iadd, 1) := by decide +kernel
theorem dX10_findState_66 : decode cX10_findState 66 = .ok (.iaload, 1) := by decide +kernel
theorem dX10_findState_67 : decode cX10_findState 67 = .ok (.goto 5, 3) := by decide +kernel
theorem dX10_findState_70 : decode cX10_findState 70 = .ok (.iload 4, 2) := by decide +kernel
theorem dX10_findState_72 : decode cX10_findState 72 = .ok (.istore 4, 2) := by decide +kernel
theorem dX10_findState_74 : decode cX10_findState 74 = .ok (.iinc 5 1, 3) := by decide +kernel
theorem dX10_findState_77 : decode cX10_findState 77 = .ok (.goto (-71), 3) := by decide +kernel
theorem dX10_findState_80 : decode cX10_findState 80 = .ok (.iload 4, 2) := by decide +kernel
theorem dX10_findState_82 : decode cX10_findState 82 = .ok (.ifCond .ge 5, 3) := by decide +kernel
theorem dX10_findState_85 : decode cX10_findState 85 = .ok (.iconst 0, 1) := by decide +kernel
theorem dX10_findState_86 : decode cX10_findState 86 = .ok (.ireturn, 1) := by decide +kernel
theorem dX10_findState_87 : decode cX10_findState 87 = .ok (.aload_n 0, 1) := by decide +kernel
theorem dX10_findState_88 : decode cX10_findState 88 = .ok (.iload_n 3, 1) := by decide +kernel
theorem dX10_findState_89 : decode cX10_findState 89 = .ok (.invokevirtual 180, 3) := by decide +kernel
theorem dX10_findState_92 : decode cX10_findState 92 = .ok (.aload_n 0, 1) := by decide +kernel
theorem dX10_findState_93 : decode cX10_findState 93 = .ok (.lconst 0, 1) := by decide +kernel
theorem dX10_findState_94 : decode cX10_findState 94 = .ok (.putfield 159, 3) := by decide +kernel
theorem dX10_findState_97 : decode cX10_findState 97 = .ok (.aload_n 0, 1) := by decide +kernel
theorem dX10_findState_98 : decode cX10_findState 98 = .ok (.lconst 1, 1) := by decide +kernel
theorem dX10_findState_99 : decode cX10_findState 99 = .ok (.putfield 163, 3) := by decide +kernel
theorem dX10_findState_102 : decode cX10_findState 102 = .ok (.lconst 0, 1) := by decide +kernel
theorem dX10_findState_103 : decode cX10_findState 103 = .ok (.lstore 5, 2) := by decide +kernel
theorem dX10_findState_105 : decode cX10_findState 105 = .ok (.iconst 0, 1) := by decide +kernel
theorem dX10_findState_106 : decode cX10_findState 106 = .ok (.istore 7, 2) := by decide +kernel
theorem dX10_findState_108 : decode cX10_findState 108 = .ok (.iload 7, 2) := by decide +kernel
theorem dX10_findState_110 : decode cX10_findState 110 = .ok (.iconst 4, 1) := by decide +kernel
theorem dX10_findState_111 : decode cX10_findState 111 = .ok (.if_icmp .ge 166, 3) := by decide +kernel
theorem dX10_findState_114 : decode cX10_findState 114 = .ok (.lconst 0, 1) := by decide +kernel
theorem dX10_findState_115 : decode cX10_findState 115 = .ok (.lstore 8, 2) := by decide +kernel
theorem dX10_findState_117 : decode cX10_findState 117 = .ok (.lconst 0, 1) := by decide +kernel
theorem dX10_findState_118 : decode cX10_findState 118 = .ok (.lstore 10, 2) := by decide +kernel
theorem dX10_findState_120 : decode cX10_findState 120 = .ok (.iconst 0, 1) := by decide +kernel
theorem dX10_findState_121 : decode cX10_findState 121 = .ok (.istore 12, 2) := by decide +kernel
theorem dX10_findState_123 : decode cX10_findState 123 = .ok (.iload 12, 2) := by decide +kernel
theorem dX10_findState_125 : decode cX10_findState 125 = .ok (.iload_n 3, 1) := by decide +kernel
theorem dX10_findState_126 : decode cX10_findState 126 = .ok (.if_icmp .ge 102, 3) := by decide +kernel
theorem dX10_findState_129 : decode cX10_findState 129 = .ok (.aload_n 0, 1) := by decide +kernel
theorem dX10_findState_130 : decode cX10_findState 130 = .ok (.getfield 32, 3) := by decide +kernel
theorem dX10_findState_133 : decode cX10_findState 133 = .ok (.iconst 4, 1) := by decide +kernel
theorem dX10_findState_134 : decode cX10_findState 134 = .ok (.iload 12, 2) := by decide +kernel
theorem dX10_findState_136 : decode cX10_findState 136 = .ok (.imul, 1) := by decide +kernel
theorem dX10_findState_137 : decode cX10_findState 137 = .ok (.iaload, 1) := by decide +kernel
theorem dX10_findState_138 : decode cX10_findState 138 = .ok (.iload_n 1, 1) := by decide +kernel
theorem dX10_findState_139 : decode cX10_findState 139 = .ok (.if_icmp .ne 39, 3) := by decide +kernel
theorem dX10_findState_142 : decode cX10_findState 142 = .ok (.aload_n 0, 1) := by decide +kernel
theorem dX10_findState_143 : decode cX10_findState 143 = .ok (.getfield 32, 3) := by decide +kernel
theorem dX10_findState_146 : decode cX10_findState 146 = .ok (.iconst 4, 1) := by decide +kernel
theorem dX10_findState_147 : decode cX10_findState 147 = .ok (.iload 12, 2) := by decide +kernel
theorem dX10_findState_149 : decode cX10_findState 149 = .ok (.imul, 1) := by decide +kernel
theorem dX10_findState_150 : decode cX10_findState 150 = .ok (.iconst 2, 1) := by decide +kernel
theorem dX10_findState_151 : decode cX10_findState 151 = .ok (.iadd, 1) := by decide +kernel
theorem dX10_findState_152 : decode cX10_findState 152 = .ok (.iaload, 1) := by decide +kernel
theorem dX10_findState_153 : decode cX10_findState 153 = .ok (.iload 4, 2) := by decide +kernel
theorem dX10_findState_155 : decode cX10_findState 155 = .ok (.if_icmp .ne 23, 3) := by decide +kernel
theorem dX10_findState_158 : decode cX10_findState 158 = .ok (.aload_n 0, 1) := by decide +kernel
theorem dX10_findState_159 : decode cX10_findState 159 = .ok (.getfield 32, 3) := by decide +kernel
theorem dX10_findState_162 : decode cX10_findState 162 = .ok (.iconst 4, 1) := by decide +kernel
theorem dX10_findState_163 : decode cX10_findState 163 = .ok (.iload 12, 2) := by decide +kernel
theorem dX10_findState_165 : decode cX10_findState 165 = .ok (.imul, 1) := by decide +kernel
theorem dX10_findState_166 : decode cX10_findState 166 = .ok (.iconst 1, 1) := by decide +kernel
theorem dX10_findState_167 : decode cX10_findState 167 = .ok (.iadd, 1) := by decide +kernel
theorem dX10_findState_168 : decode cX10_findState 168 = .ok (.iaload, 1) := by decide +kernel
theorem dX10_findState_169 : decode cX10_findState 169 = .ok (.iload 7, 2) := by decide +kernel
theorem dX10_findState_171 : decode cX10_findState 171 = .ok (.if_icmp .ne 7, 3) := by decide +kernel
theorem dX10_findState_174 : decode cX10_findState 174 = .ok (.iconst 1, 1) := by decide +kernel
theorem dX10_findState_175 : decode cX10_findState 175 = .ok (.goto 4, 3) := by decide +kernel
theorem dX10_findState_178 : decode cX10_findState 178 = .ok (.iconst 0, 1) := by decide +kernel
theorem dX10_findState_179 : decode cX10_findState 179 = .ok (.istore 13, 2) := by decide +kernel
theorem dX10_findState_181 : decode cX10_findState 181 = .ok (.lload 8, 2) := by decide +kernel
theorem dX10_findState_183 : decode cX10_findState 183 = .ok (.iload 13, 2) := by decide +kernel
theorem dX10_findState_185 : decode cX10_findState 185 = .ok (.ifCond .eq 7, 3) := by decide +kernel
theorem dX10_findState_188 : decode cX10_findState 188 = .ok (.lconst 1, 1) := by decide +kernel
theorem dX10_findState_189 : decode cX10_findState 189 = .ok (.goto 4, 3) := by decide +kernel
theorem dX10_findState_192 : decode cX10_findState 192 = .ok (.lconst 0, 1) := by decide +kernel
theorem dX10_findState_193 : decode cX10_findState 193 = .ok (.ladd, 1) := by decide +kernel
theorem dX10_findState_194 : decode cX10_findState 194 = .ok (.lstore 8, 2) := by decide +kernel
theorem dX10_findState_196 : decode cX10_findState 196 = .ok (.lload 10, 2) := by decide +kernel
theorem dX10_findState_198 : decode cX10_findState 198 = .ok (.iload 13, 2) := by decide +kernel
theorem dX10_findState_200 : decode cX10_findState 200 = .ok (.ifCond .eq 18, 3) := by decide +kernel
theorem dX10_findState_203 : decode cX10_findState 203 = .ok (.aload_n 0, 1) := by decide +kernel
theorem dX10_findState_204 : decode cX10_findState 204 = .ok (.getfield 32, 3) := by decide +kernel
theorem dX10_findState_207 : decode cX10_findState 207 = .ok (.iconst 4, 1) := by decide +kernel
theorem dX10_findState_208 : decode cX10_findState 208 = .ok (.iload 12, 2) := by decide +kernel
theorem dX10_findState_210 : decode cX10_findState 210 = .ok (.imul, 1) := by decide +kernel
theorem dX10_findState_211 : decode cX10_findState 211 = .ok (.iconst 3, 1) := by decide +kernel
theorem dX10_findState_212 : decode cX10_findState 212 = .ok (.iadd, 1) := by decide +kernel
theorem dX10_findState_213 : decode cX10_findState 213 = .ok (.iaload, 1) := by decide +kernel
theorem dX10_findState_214 : decode cX10_findState 214 = .ok (.i2l, 1) := by decide +kernel
theorem dX10_findState_215 : decode cX10_findState 215 = .ok (.goto 4, 3) := by decide +kernel
theorem dX10_findState_218 : decode cX10_findState 218 = .ok (.lconst 0, 1) := by decide +kernel
theorem dX10_findState_219 : decode cX10_findState 219 = .ok (.ladd, 1) := by decide +kernel
theorem dX10_findState_220 : decode cX10_findState 220 = .ok (.lstore 10, 2) := by decide +kernel
theorem dX10_findState_222 : decode cX10_findState 222 = .ok (.iinc 12 1, 3) := by decide +kernel
theorem dX10_findState_225 : decode cX10_findState 225 = .ok (.goto (-102), 3) := by decide +kernel
theorem dX10_findState_228 : decode cX10_findState 228 = .ok (.aload_n 0, 1) := by decide +kernel
theorem dX10_findState_229 : decode cX10_findState 229 = .ok (.dup, 1) := by decide +kernel
theorem dX10_findState_230 : decode cX10_findState 230 = .ok (.getfield 159, 3) := by decide +kernel
theorem dX10_findState_233 : decode cX10_findState 233 = .ok (.lload 10, 2) := by decide +kernel
theorem dX10_findState_235 : decode cX10_findState 235 = .ok (.aload_n 0, 1) := by decide +kernel
theorem dX10_findState_236 : decode cX10_findState 236 = .ok (.getfield 163, 3) := by decide +kernel
theorem dX10_findState_239 : decode cX10_findState 239 = .ok (.lmul, 1) := by decide +kernel
theorem dX10_findState_240 : decode cX10_findState 240 = .ok (.ladd, 1) := by decide +kernel
theorem dX10_findState_241 : decode cX10_findState 241 = .ok (.putfield 159, 3) := by decide +kernel
theorem dX10_findState_244 : decode cX10_findState 244 = .ok (.aload_n 0, 1) := by decide +kernel
theorem dX10_findState_245 : decode cX10_findState 245 = .ok (.aload_n 0, 1) := by decide +kernel
theorem dX10_findState_246 : decode cX10_findState 246 = .ok (.getfield 59, 3) := by decide +kernel
theorem dX10_findState_249 : decode cX10_findState 249 = .ok (.iload 7, 2) := by decide +kernel
theorem dX10_findState_251 : decode cX10_findState 251 = .ok (.laload, 1) := by decide +kernel
theorem dX10_findState_252 : decode cX10_findState 252 = .ok (.aload_n 0, 1) := by decide +kernel
theorem dX10_findState_253 : decode cX10_findState 253 = .ok (.getfield 63, 3) := by decide +kernel
theorem dX10_findState_256 : decode cX10_findState 256 = .ok (.iload 7, 2) := by decide +kernel
theorem dX10_findState_258 : decode cX10_findState 258 = .ok (.laload, 1) := by decide +kernel
theorem dX10_findState_259 : decode cX10_findState 259 = .ok (.lload 8, 2) := by decide +kernel
theorem dX10_findState_261 : decode cX10_findState 261 = .ok (.invokevirtual 184, 3) := by decide +kernel
theorem dX10_findState_264 : decode cX10_findState 264 = .ok (.lload 5, 2) := by decide +kernel
theorem dX10_findState_266 : decode cX10_findState 266 = .ok (.lload 8, 2) := by decide +kernel
theorem dX10_findState_268 : decode cX10_findState 268 = .ok (.ladd, 1) := by decide +kernel
theorem dX10_findState_269 : decode cX10_findState 269 = .ok (.lstore 5, 2) := by decide +kernel
theorem dX10_findState_271 : decode cX10_findState 271 = .ok (.iinc 7 1, 3) := by decide +kernel
theorem dX10_findState_274 : decode cX10_findState 274 = .ok (.goto (-166), 3) := by decide +kernel
theorem dX10_findState_277 : decode cX10_findState 277 = .ok (.aload_n 0, 1) := by decide +kernel
theorem dX10_findState_278 : decode cX10_findState 278 = .ok (.dup, 1) := by decide +kernel
theorem dX10_findState_279 : decode cX10_findState 279 = .ok (.getfield 163, 3) := by decide +kernel
theorem dX10_findState_282 : decode cX10_findState 282 = .ok (.lload 5, 2) := by decide +kernel
theorem dX10_findState_284 : decode cX10_findState 284 = .ok (.lmul, 1) := by decide +kernel
theorem dX10_findState_285 : decode cX10_findState 285 = .ok (.putfield 163, 3) := by decide +kernel
theorem dX10_findState_288 : decode cX10_findState 288 = .ok (.aload_n 0, 1) := by decide +kernel
theorem dX10_findState_289 : decode cX10_findState 289 = .ok (.invokevirtual 170, 3) := by decide +kernel
theorem dX10_findState_292 : decode cX10_findState 292 = .ok (.iconst 1, 1) := by decide +kernel
theorem dX10_findState_293 : decode cX10_findState 293 = .ok (.ireturn, 1) := by decide +kernel
set_option maxRecDepth 20000 in
theorem ggX10_state_X10_isBlock : GoodIn wsX10_state wsX10_isBlock := goodIn_r _ [11, 12, 13, 14, 10, 15, 52, 53, 54, 55, 56, 57, 58, 59, 60, 61, 62, 63, 64, 65, 66, 67, 68, 69, 70, 71, 72, 73, 74, 75, 76, 77, 78, 79, 80, 81, 82, 83, 84, 85, 86, 87] (by decide +kernel) (by decide +kernel)
set_option maxRecDepth 20000 in
theorem gX10_state_X10_isBlock : GoodIn wsX10_state (wsV RX10 101 RX10 yX10_isBlock wsX10_isBlock) := goodIn_app (goodIn_of _ (by decide +kernel)) ggX10_state_X10_isBlock
set_option maxRecDepth 20000 in
theorem ggX10_state_X10_isYear : GoodIn wsX10_state wsX10_isYear := goodIn_r _ [18, 19, 13, 14, 10, 15] (by decide +kernel) (by decide +kernel)
set_option maxRecDepth 20000 in
theorem gX10_state_X10_isYear : GoodIn wsX10_state (va_wsS RX10 95 yX10_isYear wsX10_isYear) := goodIn_app (goodIn_of _ (by decide +kernel)) ggX10_state_X10_isYear
set_option maxRecDepth 20000 in
theorem ggX10_state_X10_isKnown : GoodIn wsX10_state wsX10_isKnown := goodIn_r _ [23, 24, 3, 13, 14, 10, 15, 52, 53, 54, 55, 56, 57, 58, 59, 60, 61, 62, 63, 64, 65, 66, 67, 68, 69, 70, 71, 72, 73, 74, 75, 76, 77, 78, 79, 80, 81, 82, 83, 84, 85, 86, 87] (by decide +kernel) (by decide +kernel)
set_option maxRecDepth 20000 in
theorem gX10_state_X10_isKnown : GoodIn wsX10_state (wsV RX10 177 RX10 yX10_isKnown wsX10_isKnown) := goodIn_app (goodIn_of _ (by decide +kernel)) ggX10_state_X10_isKnown
set_option maxRecDepth 20000 in
theorem ggX10_state_X10_in : GoodIn wsX10_state wsX10_in := goodIn_r _ [15] (by decide +kernel) (by decide +kernel)
set_option maxRecDepth 20000 in
theorem gX10_state_X10_in : GoodIn wsX10_state (va_wsS RX10 86 yX10_in wsX10_in) := goodIn_app (goodIn_of _ (by decide +kernel)) ggX10_state_X10_in
set_option maxRecDepth 20000 in
theorem ggX10_state_X10_findState : GoodIn wsX10_state wsX10_findState := goodIn_r _ [28, 29, 5, 6, 30, 31, 32, 33, 34, 10, 35, 36, 37, 38, 39, 40, 41, 42, 43, 44, 45, 46, 47, 48, 49, 50, 51, 52, 53, 54, 55, 56, 57, 58, 59, 60, 61, 62, 63, 64, 65, 66, 67, 68, 69, 70, 71, 72, 73, 74, 75, 76, 77, 78, 79, 80, 81, 82, 83, 84, 85, 86, 87] (by decide +kernel) (by decide +kernel)
set_option maxRecDepth 20000 in
theorem gX10_state_X10_findState : GoodIn wsX10_state (wsV RX10 192 RX10 yX10_findState wsX10_findState) := goodIn_app (goodIn_of _ (by decide +kernel)) ggX10_state_X10_findState
theorem dX10_state_0 : decode cX10_state 0 = .ok (.aload_n 0, 1) := by decide +kernel
theorem dX10_state_1 : decode cX10_state 1 = .ok (.iload_n 1, 1) := by decide +kernel
theorem dX10_state_2 : decode cX10_state 2 = .ok (.invokevirtual 101, 3) := by decide +kernel
theorem dX10_state_5 : decode cX10_state 5 = .ok (.ifCond .ne 7, 3) := by decide +kernel
theorem dX10_state_8 : decode cX10_state 8 = .ok (.ldc2_w 188, 3) := by decide +kernel
theorem dX10_state_11 : decode cX10_state 11 = .ok (.lreturn, 1) := by decide +kernel
theorem dX10_state_12 : decode cX10_state 12 = .ok (.iload_n 2, 1) := by decide +kernel
theorem dX10_state_13 : decode cX10_state 13 = .ok (.invokestatic 95, 3) := by decide +kernel
theorem dX10_state_16 : decode cX10_state 16 = .ok (.ifCond .eq 22, 3) := by decide +kernel
theorem dX10_state_19 : decode cX10_state 19 = .ok (.aload_n 0, 1) := by decide +kernel
theorem dX10_state_20 : decode cX10_state 20 = .ok (.iload_n 3, 1) := by decide +kernel
theorem dX10_state_21 : decode cX10_state 21 = .ok (.invokevirtual 177, 3) := by decide +kernel
theorem dX10_state_24 : decode cX10_state 24 = .ok (.ifCond .eq 14, 3) := by decide +kernel
theorem dX10_state_27 : decode cX10_state 27 = .ok (.iload 4, 2) := by decide +kernel
theorem dX10_state_29 : decode cX10_state 29 = .ok (.i2l, 1) := by decide +kernel
theorem dX10_state_30 : decode cX10_state 30 = .ok (.lconst 0, 1) := by decide +kernel
theorem dX10_state_31 : decode cX10_state 31 = .ok (.lconst 1, 1) := by decide +kernel
theorem dX10_state_32 : decode cX10_state 32 = .ok (.invokestatic 86, 3) := by decide +kernel
theorem dX10_state_35 : decode cX10_state 35 = .ok (.ifCond .ne 7, 3) := by decide +kernel
theorem dX10_state_38 : decode cX10_state 38 = .ok (.ldc2_w 190, 3) := by decide +kernel
theorem dX10_state_41 : decode cX10_state 41 = .ok (.lreturn, 1) := by decide +kernel
theorem dX10_state_42 : decode cX10_state 42 = .ok (.aload_n 0, 1) := by decide +kernel
theorem dX10_state_43 : decode cX10_state 43 = .ok (.iload_n 1, 1) := by decide +kernel
theorem dX10_state_44 : decode cX10_state 44 = .ok (.iload_n 2, 1) := by decide +kernel
theorem dX10_state_45 : decode cX10_state 45 = .ok (.iload_n 3, 1) := by decide +kernel
theorem dX10_state_46 : decode cX10_state 46 = .ok (.ifCond .ge 10, 3) := by decide +kernel
theorem dX10_state_49 : decode cX10_state 49 = .ok (.aload_n 0, 1) := by decide +kernel
theorem dX10_state_50 : decode cX10_state 50 = .ok (.getfield 141, 3) := by decide +kernel
theorem dX10_state_53 : decode cX10_state 53 = .ok (.goto 4, 3) := by decide +kernel
theorem dX10_state_56 : decode cX10_state 56 = .ok (.iload_n 3, 1) := by decide +kernel
theorem dX10_state_57 : decode cX10_state 57 = .ok (.invokevirtual 192, 3) := by decide +kernel
theorem dX10_state_60 : decode cX10_state 60 = .ok (.ifCond .ne 7, 3) := by decide +kernel
theorem dX10_state_63 : decode cX10_state 63 = .ok (.ldc2_w 196, 3) := by decide +kernel
theorem dX10_state_66 : decode cX10_state 66 = .ok (.lreturn, 1) := by decide +kernel
theorem dX10_state_67 : decode cX10_state 67 = .ok (.iload 4, 2) := by decide +kernel
theorem dX10_state_69 : decode cX10_state 69 = .ok (.ifCond .ne 10, 3) := by decide +kernel
theorem dX10_state_72 : decode cX10_state 72 = .ok (.aload_n 0, 1) := by decide +kernel
theorem dX10_state_73 : decode cX10_state 73 = .ok (.getfield 159, 3) := by decide +kernel
theorem dX10_state_76 : decode cX10_state 76 = .ok (.goto 7, 3) := by decide +kernel
theorem dX10_state_79 : decode cX10_state 79 = .ok (.aload_n 0, 1) := by decide +kernel
theorem dX10_state_80 : decode cX10_state 80 = .ok (.getfield 163, 3) := by decide +kernel
theorem dX10_state_83 : decode cX10_state 83 = .ok (.lreturn, 1) := by decide +kernel
set_option maxRecDepth 20000 in
theorem ggX10_feed_X10_in : GoodIn wsX10_feed wsX10_in := goodIn_r _ [8] (by decide +kernel) (by decide +kernel)
set_option maxRecDepth 20000 in
theorem gX10_feed_X10_in : GoodIn wsX10_feed (va_wsS RX10 86 yX10_in wsX10_in) := goodIn_app (goodIn_of _ (by decide +kernel)) ggX10_feed_X10_in
theorem dX10_feed_0 : decode cX10_feed 0 = .ok (.iload_n 1, 1) := by decide +kernel
theorem dX10_feed_1 : decode cX10_feed 1 = .ok (.i2l, 1) := by decide +kernel
theorem dX10_feed_2 : decode cX10_feed 2 = .ok (.lconst 1, 1) := by decide +kernel
theorem dX10_feed_3 : decode cX10_feed 3 = .ok (.ldc2_w 198, 3) := by decide +kernel
theorem dX10_feed_6 : decode cX10_feed 6 = .ok (.invokestatic 86, 3) := by decide +kernel
theorem dX10_feed_9 : decode cX10_feed 9 = .ok (.ifCond .ne 7, 3) := by decide +kernel
theorem dX10_feed_12 : decode cX10_feed 12 = .ok (.sipush (-1002), 3) := by decide +kernel
theorem dX10_feed_15 : decode cX10_feed 15 = .ok (.ireturn, 1) := by decide +kernel
theorem dX10_feed_16 : decode cX10_feed 16 = .ok (.aload_n 0, 1) := by decide +kernel
theorem dX10_feed_17 : decode cX10_feed 17 = .ok (.getfield 151, 3) := by decide +kernel
theorem dX10_feed_20 : decode cX10_feed 20 = .ok (.iload_n 1, 1) := by decide +kernel
theorem dX10_feed_21 : decode cX10_feed 21 = .ok (.iadd, 1) := by decide +kernel
theorem dX10_feed_22 : decode cX10_feed 22 = .ok (.bipush 120, 2) := by decide +kernel
theorem dX10_feed_24 : decode cX10_feed 24 = .ok (.if_icmp .le 7, 3) := by decide +kernel
theorem dX10_feed_27 : decode cX10_feed 27 = .ok (.sipush (-1004), 3) := by decide +kernel
theorem dX10_feed_30 : decode cX10_feed 30 = .ok (.ireturn, 1) := by decide +kernel
theorem dX10_feed_31 : decode cX10_feed 31 = .ok (.iload_n 1, 1) := by decide +kernel
theorem dX10_feed_32 : decode cX10_feed 32 = .ok (.iconst 1, 1) := by decide +kernel
theorem dX10_feed_33 : decode cX10_feed 33 = .ok (.isub, 1) := by decide +kernel
theorem dX10_feed_34 : decode cX10_feed 34 = .ok (.istore 4, 2) := by decide +kernel
theorem dX10_feed_36 : decode cX10_feed 36 = .ok (.iload 4, 2) := by decide +kernel
theorem dX10_feed_38 : decode cX10_feed 38 = .ok (.ifCond .lt 40, 3) := by decide +kernel
theorem dX10_feed_41 : decode cX10_feed 41 = .ok (.aload_n 0, 1) := by decide +kernel
theorem dX10_feed_42 : decode cX10_feed 42 = .ok (.getfield 35, 3) := by decide +kernel
theorem dX10_feed_45 : decode cX10_feed 45 = .ok (.aload_n 0, 1) := by decide +kernel
theorem dX10_feed_46 : decode cX10_feed 46 = .ok (.getfield 151, 3) := by decide +kernel
theorem dX10_feed_49 : decode cX10_feed 49 = .ok (.lload_n 2, 1) := by decide +kernel
theorem dX10_feed_50 : decode cX10_feed 50 = .ok (.bipush 8, 2) := by decide +kernel
theorem dX10_feed_52 : decode cX10_feed 52 = .ok (.iload 4, 2) := by decide +kernel
theorem dX10_feed_54 : decode cX10_feed 54 = .ok (.imul, 1) := by decide +kernel
theorem dX10_feed_55 : decode cX10_feed 55 = .ok (.lshr, 1) := by decide +kernel
theorem dX10_feed_56 : decode cX10_feed 56 = .ok (.ldc2_w 200, 3) := by decide +kernel
theorem dX10_feed_59 : decode cX10_feed 59 = .ok (.land, 1) := by decide +kernel
theorem dX10_feed_60 : decode cX10_feed 60 = .ok (.l2i, 1) := by decide +kernel
theorem dX10_feed_61 : decode cX10_feed 61 = .ok (.iastore, 1) := by decide +kernel
theorem dX10_feed_62 : decode cX10_feed 62 = .ok (.aload_n 0, 1) := by decide +kernel
theorem dX10_feed_63 : decode cX10_feed 63 = .ok (.dup, 1) := by decide +kernel
theorem dX10_feed_64 : decode cX10_feed 64 = .ok (.getfield 151, 3) := by decide +kernel
theorem dX10_feed_67 : decode cX10_feed 67 = .ok (.iconst 1, 1) := by decide +kernel
theorem dX10_feed_68 : decode cX10_feed 68 = .ok (.iadd, 1) := by decide +kernel
theorem dX10_feed_69 : decode cX10_feed 69 = .ok (.putfield 151, 3) := by decide +kernel
theorem dX10_feed_72 : decode cX10_feed 72 = .ok (.iinc 4 (-1), 3) := by decide +kernel
theorem dX10_feed_75 : decode cX10_feed 75 = .ok (.goto (-39), 3) := by decide +kernel
theorem dX10_feed_78 : decode cX10_feed 78 = .ok (.aload_n 0, 1) := by decide +kernel
theorem dX10_feed_79 : decode cX10_feed 79 = .ok (.getfield 151, 3) := by decide +kernel
theorem dX10_feed_82 : decode cX10_feed 82 = .ok (.ireturn, 1) := by decide +kernel
theorem dX10_here_0 : decode cX10_here 0 = .ok (.aload_n 0, 1) := by decide +kernel
theorem dX10_here_1 : decode cX10_here 1 = .ok (.getfield 202, 3) := by decide +kernel
theorem dX10_here_4 : decode cX10_here 4 = .ok (.aload_n 0, 1) := by decide +kernel
