theorem dX0_init_0 : decode cX0_init 0 = .ok (.aload_n 0, 1) := by decide +kernel
theorem dX0_init_1 : decode cX0_init 1 = .ok (.invokespecial 3, 3) := by decide +kernel
theorem dX0_init_4 : decode cX0_init 4 = .ok (.aload_n 0, 1) := by decide +kernel
theorem dX0_init_5 : decode cX0_init 5 = .ok (.sipush 401, 3) := by decide +kernel
theorem dX0_init_8 : decode cX0_init 8 = .ok (.newarray .int, 2) := by decide +kernel
theorem dX0_init_10 : decode cX0_init 10 = .ok (.putfield 9, 3) := by decide +kernel
theorem dX0_init_13 : decode cX0_init 13 = .ok (.aload_n 0, 1) := by decide +kernel
theorem dX0_init_14 : decode cX0_init 14 = .ok (.sipush 401, 3) := by decide +kernel
theorem dX0_init_17 : decode cX0_init 17 = .ok (.newarray .int, 2) := by decide +kernel
theorem dX0_init_19 : decode cX0_init 19 = .ok (.putfield 15, 3) := by decide +kernel
theorem dX0_init_22 : decode cX0_init 22 = .ok (.aload_n 0, 1) := by decide +kernel
theorem dX0_init_23 : decode cX0_init 23 = .ok (.sipush 401, 3) := by decide +kernel
theorem dX0_init_26 : decode cX0_init 26 = .ok (.newarray .int, 2) := by decide +kernel
theorem dX0_init_28 : decode cX0_init 28 = .ok (.putfield 18, 3) := by decide +kernel
theorem dX0_init_31 : decode cX0_init 31 = .ok (.aload_n 0, 1) := by decide +kernel
theorem dX0_init_32 : decode cX0_init 32 = .ok (.iconst (-1), 1) := by decide +kernel
theorem dX0_init_33 : decode cX0_init 33 = .ok (.putfield 21, 3) := by decide +kernel
theorem dX0_init_36 : decode cX0_init 36 = .ok (.return_, 1) := by decide +kernel
set_option maxRecDepth 20000 in
theorem ggX0_follow_X7_spread : GoodIn wsX0_follow wsX7_spread := goodIn_r _ [9, 10, 11, 12, 13, 14, 15, 16, 17, 18, 19, 20, 21, 8, 22, 23, 24, 25, 26, 70, 71, 72, 73, 74] (by decide +kernel) (by decide +kernel)
set_option maxRecDepth 20000 in
theorem gX0_follow_X7_spread : GoodIn wsX0_follow (wsV RX0 31 RX7 yX7_spread wsX7_spread) := goodIn_app (goodIn_of _ (by decide +kernel)) ggX0_follow_X7_spread
set_option maxRecDepth 20000 in
theorem ggX0_follow_X3_stoneOf : GoodIn wsX0_follow wsX3_stoneOf := goodIn_r _ [31, 32, 33, 34, 35, 56, 57, 58, 59, 60, 61, 62, 63, 64, 65] (by decide +kernel) (by decide +kernel)
set_option maxRecDepth 20000 in
theorem gX0_follow_X3_stoneOf : GoodIn wsX0_follow (wsV RX0 40 RX3 yX3_stoneOf wsX3_stoneOf) := goodIn_app (goodIn_of _ (by decide +kernel)) ggX0_follow_X3_stoneOf
set_option maxRecDepth 20000 in
theorem ggX0_follow_X3_laidOf : GoodIn wsX0_follow wsX3_laidOf := goodIn_r _ [39, 40, 33, 34, 35, 56, 57, 58, 59, 60, 61, 62, 63, 64, 65] (by decide +kernel) (by decide +kernel)
set_option maxRecDepth 20000 in
theorem gX0_follow_X3_laidOf : GoodIn wsX0_follow (wsV RX0 44 RX3 yX3_laidOf wsX3_laidOf) := goodIn_app (goodIn_of _ (by decide +kernel)) ggX0_follow_X3_laidOf
set_option maxRecDepth 20000 in
theorem ggX0_follow_X3_isDanger : GoodIn wsX0_follow wsX3_isDanger := goodIn_r _ [44, 45, 46, 47, 48, 30, 49, 50, 33, 34, 35, 56, 57, 58, 59, 60, 61, 62, 63, 64, 65] (by decide +kernel) (by decide +kernel)
set_option maxRecDepth 20000 in
theorem gX0_follow_X3_isDanger : GoodIn wsX0_follow (wsV RX0 47 RX3 yX3_isDanger wsX3_isDanger) := goodIn_app (goodIn_of _ (by decide +kernel)) ggX0_follow_X3_isDanger
set_option maxRecDepth 20000 in
theorem ggX0_follow_X3_rateOf : GoodIn wsX0_follow wsX3_rateOf := goodIn_r _ [54, 55, 33, 34, 35, 56, 57, 58, 59, 60, 61, 62, 63, 64, 65] (by decide +kernel) (by decide +kernel)
set_option maxRecDepth 20000 in
theorem gX0_follow_X3_rateOf : GoodIn wsX0_follow (wsV RX0 51 RX3 yX3_rateOf wsX3_rateOf) := goodIn_app (goodIn_of _ (by decide +kernel)) ggX0_follow_X3_rateOf
theorem dX0_follow_0 : decode cX0_follow 0 = .ok (.aload_n 1, 1) := by decide +kernel
theorem dX0_follow_1 : decode cX0_follow 1 = .ok (.getfield 25, 3) := by decide +kernel
theorem dX0_follow_4 : decode cX0_follow 4 = .ok (.iload_n 2, 1) := by decide +kernel
theorem dX0_follow_5 : decode cX0_follow 5 = .ok (.aload_n 0, 1) := by decide +kernel
theorem dX0_follow_6 : decode cX0_follow 6 = .ok (.getfield 9, 3) := by decide +kernel
theorem dX0_follow_9 : decode cX0_follow 9 = .ok (.invokevirtual 31, 3) := by decide +kernel
theorem dX0_follow_12 : decode cX0_follow 12 = .ok (.aload_n 1, 1) := by decide +kernel
theorem dX0_follow_13 : decode cX0_follow 13 = .ok (.getfield 37, 3) := by decide +kernel
theorem dX0_follow_16 : decode cX0_follow 16 = .ok (.iload_n 2, 1) := by decide +kernel
theorem dX0_follow_17 : decode cX0_follow 17 = .ok (.aload_n 0, 1) := by decide +kernel
theorem dX0_follow_18 : decode cX0_follow 18 = .ok (.getfield 15, 3) := by decide +kernel
theorem dX0_follow_21 : decode cX0_follow 21 = .ok (.invokevirtual 31, 3) := by decide +kernel
theorem dX0_follow_24 : decode cX0_follow 24 = .ok (.aload_n 1, 1) := by decide +kernel
theorem dX0_follow_25 : decode cX0_follow 25 = .ok (.iload_n 2, 1) := by decide +kernel
theorem dX0_follow_26 : decode cX0_follow 26 = .ok (.invokevirtual 40, 3) := by decide +kernel
theorem dX0_follow_29 : decode cX0_follow 29 = .ok (.istore_n 3, 1) := by decide +kernel
theorem dX0_follow_30 : decode cX0_follow 30 = .ok (.aload_n 1, 1) := by decide +kernel
theorem dX0_follow_31 : decode cX0_follow 31 = .ok (.iload_n 2, 1) := by decide +kernel
theorem dX0_follow_32 : decode cX0_follow 32 = .ok (.invokevirtual 44, 3) := by decide +kernel
theorem dX0_follow_35 : decode cX0_follow 35 = .ok (.istore 4, 2) := by decide +kernel
theorem dX0_follow_37 : decode cX0_follow 37 = .ok (.iconst 0, 1) := by decide +kernel
theorem dX0_follow_38 : decode cX0_follow 38 = .ok (.istore 5, 2) := by decide +kernel
theorem dX0_follow_40 : decode cX0_follow 40 = .ok (.aload_n 0, 1) := by decide +kernel
theorem dX0_follow_41 : decode cX0_follow 41 = .ok (.iconst (-1), 1) := by decide +kernel
theorem dX0_follow_42 : decode cX0_follow 42 = .ok (.putfield 21, 3) := by decide +kernel
theorem dX0_follow_45 : decode cX0_follow 45 = .ok (.iconst 0, 1) := by decide +kernel
theorem dX0_follow_46 : decode cX0_follow 46 = .ok (.istore 6, 2) := by decide +kernel
theorem dX0_follow_48 : decode cX0_follow 48 = .ok (.iload 6, 2) := by decide +kernel
theorem dX0_follow_50 : decode cX0_follow 50 = .ok (.sipush 401, 3) := by decide +kernel
theorem dX0_follow_53 : decode cX0_follow 53 = .ok (.if_icmp .ge 79, 3) := by decide +kernel
theorem dX0_follow_56 : decode cX0_follow 56 = .ok (.aload_n 0, 1) := by decide +kernel
theorem dX0_follow_57 : decode cX0_follow 57 = .ok (.getfield 18, 3) := by decide +kernel
theorem dX0_follow_60 : decode cX0_follow 60 = .ok (.iload 6, 2) := by decide +kernel
theorem dX0_follow_62 : decode cX0_follow 62 = .ok (.iload 5, 2) := by decide +kernel
theorem dX0_follow_64 : decode cX0_follow 64 = .ok (.iastore, 1) := by decide +kernel
theorem dX0_follow_65 : decode cX0_follow 65 = .ok (.aload_n 0, 1) := by decide +kernel
theorem dX0_follow_66 : decode cX0_follow 66 = .ok (.getfield 21, 3) := by decide +kernel
theorem dX0_follow_69 : decode cX0_follow 69 = .ok (.iconst (-1), 1) := by decide +kernel
theorem dX0_follow_70 : decode cX0_follow 70 = .ok (.if_icmp .ne 19, 3) := by decide +kernel
theorem dX0_follow_73 : decode cX0_follow 73 = .ok (.aload_n 1, 1) := by decide +kernel
theorem dX0_follow_74 : decode cX0_follow 74 = .ok (.iload_n 2, 1) := by decide +kernel
theorem dX0_follow_75 : decode cX0_follow 75 = .ok (.iload 5, 2) := by decide +kernel
theorem dX0_follow_77 : decode cX0_follow 77 = .ok (.invokevirtual 47, 3) := by decide +kernel
theorem dX0_follow_80 : decode cX0_follow 80 = .ok (.ifCond .eq 9, 3) := by decide +kernel
theorem dX0_follow_83 : decode cX0_follow 83 = .ok (.aload_n 0, 1) := by decide +kernel
theorem dX0_follow_84 : decode cX0_follow 84 = .ok (.iload 6, 2) := by decide +kernel
theorem dX0_follow_86 : decode cX0_follow 86 = .ok (.putfield 21, 3) := by decide +kernel
theorem dX0_follow_89 : decode cX0_follow 89 = .ok (.iload 6, 2) := by decide +kernel
theorem dX0_follow_91 : decode cX0_follow 91 = .ok (.iload 4, 2) := by decide +kernel
theorem dX0_follow_93 : decode cX0_follow 93 = .ok (.if_icmp .lt 33, 3) := by decide +kernel
theorem dX0_follow_96 : decode cX0_follow 96 = .ok (.iload 5, 2) := by decide +kernel
theorem dX0_follow_98 : decode cX0_follow 98 = .ok (.aload_n 1, 1) := by decide +kernel
theorem dX0_follow_99 : decode cX0_follow 99 = .ok (.iload_n 3, 1) := by decide +kernel
theorem dX0_follow_100 : decode cX0_follow 100 = .ok (.aload_n 0, 1) := by decide +kernel
theorem dX0_follow_101 : decode cX0_follow 101 = .ok (.getfield 9, 3) := by decide +kernel
theorem dX0_follow_104 : decode cX0_follow 104 = .ok (.iload 6, 2) := by decide +kernel
theorem dX0_follow_106 : decode cX0_follow 106 = .ok (.iaload, 1) := by decide +kernel
theorem dX0_follow_107 : decode cX0_follow 107 = .ok (.bipush 16, 2) := by decide +kernel
theorem dX0_follow_109 : decode cX0_follow 109 = .ok (.irem, 1) := by decide +kernel
theorem dX0_follow_110 : decode cX0_follow 110 = .ok (.invokevirtual 51, 3) := by decide +kernel
theorem dX0_follow_113 : decode cX0_follow 113 = .ok (.iconst 1, 1) := by decide +kernel
theorem dX0_follow_114 : decode cX0_follow 114 = .ok (.aload_n 0, 1) := by decide +kernel
theorem dX0_follow_115 : decode cX0_follow 115 = .ok (.getfield 15, 3) := by decide +kernel
theorem dX0_follow_118 : decode cX0_follow 118 = .ok (.iload 6, 2) := by decide +kernel
theorem dX0_follow_120 : decode cX0_follow 120 = .ok (.iaload, 1) := by decide +kernel
theorem dX0_follow_121 : decode cX0_follow 121 = .ok (.iadd, 1) := by decide +kernel
theorem dX0_follow_122 : decode cX0_follow 122 = .ok (.imul, 1) := by decide +kernel
theorem dX0_follow_123 : decode cX0_follow 123 = .ok (.iadd, 1) := by decide +kernel
theorem dX0_follow_124 : decode cX0_follow 124 = .ok (.istore 5, 2) := by decide +kernel
theorem dX0_follow_126 : decode cX0_follow 126 = .ok (.iinc 6 1, 3) := by decide +kernel
theorem dX0_follow_129 : decode cX0_follow 129 = .ok (.goto (-81), 3) := by decide +kernel
theorem dX0_follow_132 : decode cX0_follow 132 = .ok (.return_, 1) := by decide +kernel
set_option maxRecDepth 20000 in
theorem ggX0_sideAt_X9_at : GoodIn wsX0_sideAt wsX9_at := goodIn_r _ [4] (by decide +kernel) (by decide +kernel)
set_option maxRecDepth 20000 in
theorem gX0_sideAt_X9_at_n55 : GoodIn wsX0_sideAt (wsX9_at) := ggX0_sideAt_X9_at
theorem dX0_sideAt_0 : decode cX0_sideAt 0 = .ok (.aload_n 0, 1) := by decide +kernel
theorem dX0_sideAt_1 : decode cX0_sideAt 1 = .ok (.getfield 9, 3) := by decide +kernel
theorem dX0_sideAt_4 : decode cX0_sideAt 4 = .ok (.iload_n 1, 1) := by decide +kernel
theorem dX0_sideAt_5 : decode cX0_sideAt 5 = .ok (.invokestatic 55, 3) := by decide +kernel
theorem dX0_sideAt_8 : decode cX0_sideAt 8 = .ok (.bipush 16, 2) := by decide +kernel
theorem dX0_sideAt_10 : decode cX0_sideAt 10 = .ok (.irem, 1) := by decide +kernel
theorem dX0_sideAt_11 : decode cX0_sideAt 11 = .ok (.iconst 4, 1) := by decide +kernel
theorem dX0_sideAt_12 : decode cX0_sideAt 12 = .ok (.idiv, 1) := by decide +kernel
theorem dX0_sideAt_13 : decode cX0_sideAt 13 = .ok (.ireturn, 1) := by decide +kernel
set_option maxRecDepth 20000 in
theorem ggX0_wetAt_X9_at : GoodIn wsX0_wetAt wsX9_at := goodIn_r _ [4] (by decide +kernel) (by decide +kernel)
set_option maxRecDepth 20000 in
theorem gX0_wetAt_X9_at_n55 : GoodIn wsX0_wetAt (wsX9_at) := ggX0_wetAt_X9_at
theorem dX0_wetAt_0 : decode cX0_wetAt 0 = .ok (.aload_n 0, 1) := by decide +kernel
theorem dX0_wetAt_1 : decode cX0_wetAt 1 = .ok (.getfield 9, 3) := by decide +kernel
theorem dX0_wetAt_4 : decode cX0_wetAt 4 = .ok (.iload_n 1, 1) := by decide +kernel
theorem dX0_wetAt_5 : decode cX0_wetAt 5 = .ok (.invokestatic 55, 3) := by decide +kernel
theorem dX0_wetAt_8 : decode cX0_wetAt 8 = .ok (.iconst 4, 1) := by decide +kernel
theorem dX0_wetAt_9 : decode cX0_wetAt 9 = .ok (.irem, 1) := by decide +kernel
theorem dX0_wetAt_10 : decode cX0_wetAt 10 = .ok (.ireturn, 1) := by decide +kernel
set_option maxRecDepth 20000 in
theorem ggX0_zoneAt_X9_at : GoodIn wsX0_zoneAt wsX9_at := goodIn_r _ [4] (by decide +kernel) (by decide +kernel)
set_option maxRecDepth 20000 in
theorem gX0_zoneAt_X9_at_n55 : GoodIn wsX0_zoneAt (wsX9_at) := ggX0_zoneAt_X9_at
theorem dX0_zoneAt_0 : decode cX0_zoneAt 0 = .ok (.aload_n 0, 1) := by decide +kernel
theorem dX0_zoneAt_1 : decode cX0_zoneAt 1 = .ok (.getfield 9, 3) := by decide +kernel
theorem dX0_zoneAt_4 : decode cX0_zoneAt 4 = .ok (.iload_n 1, 1) := by decide +kernel
theorem dX0_zoneAt_5 : decode cX0_zoneAt 5 = .ok (.invokestatic 55, 3) := by decide +kernel
theorem dX0_zoneAt_8 : decode cX0_zoneAt 8 = .ok (.bipush 16, 2) := by decide +kernel
theorem dX0_zoneAt_10 : decode cX0_zoneAt 10 = .ok (.idiv, 1) := by decide +kernel
theorem dX0_zoneAt_11 : decode cX0_zoneAt 11 = .ok (.ireturn, 1) := by decide +kernel
set_option maxRecDepth 20000 in
theorem ggX0_harmAt_X9_at : GoodIn wsX0_harmAt wsX9_at := goodIn_r _ [4] (by decide +kernel) (by decide +kernel)
set_option maxRecDepth 20000 in
theorem gX0_harmAt_X9_at_n55 : GoodIn wsX0_harmAt (wsX9_at) := ggX0_harmAt_X9_at
theorem dX0_harmAt_0 : decode cX0_harmAt 0 = .ok (.aload_n 0, 1) := by decide +kernel
theorem dX0_harmAt_1 : decode cX0_harmAt 1 = .ok (.getfield 15, 3) := by decide +kernel
theorem dX0_harmAt_4 : decode cX0_harmAt 4 = .ok (.iload_n 1, 1) := by decide +kernel
theorem dX0_harmAt_5 : decode cX0_harmAt 5 = .ok (.invokestatic 55, 3) := by decide +kernel
theorem dX0_harmAt_8 : decode cX0_harmAt 8 = .ok (.ireturn, 1) := by decide +kernel
set_option maxRecDepth 20000 in
theorem ggX0_lostAt_X9_at : GoodIn wsX0_lostAt wsX9_at := goodIn_r _ [4] (by decide +kernel) (by decide +kernel)
set_option maxRecDepth 20000 in
theorem gX0_lostAt_X9_at_n55 : GoodIn wsX0_lostAt (wsX9_at) := ggX0_lostAt_X9_at
theorem dX0_lostAt_0 : decode cX0_lostAt 0 = .ok (.aload_n 0, 1) := by decide +kernel
theorem dX0_lostAt_1 : decode cX0_lostAt 1 = .ok (.getfield 18, 3) := by decide +kernel
theorem dX0_lostAt_4 : decode cX0_lostAt 4 = .ok (.iload_n 1, 1) := by decide +kernel
theorem dX0_lostAt_5 : decode cX0_lostAt 5 = .ok (.invokestatic 55, 3) := by decide +kernel
theorem dX0_lostAt_8 : decode cX0_lostAt 8 = .ok (.ireturn, 1) := by decide +kernel
theorem dX1_init_0 : decode cX1_init 0 = .ok (.aload_n 0, 1) := by decide +kernel
theorem dX1_init_1 : decode cX1_init 1 = .ok (.invokespecial 1, 3) := by decide +kernel
theorem dX1_init_4 : decode cX1_init 4 = .ok (.aload_n 0, 1) := by decide +kernel
theorem dX1_init_5 : decode cX1_init 5 = .ok (.lconst 1, 1) := by decide +kernel
theorem dX1_init_6 : decode cX1_init 6 = .ok (.putfield 7, 3) := by decide +kernel
theorem dX1_init_9 : decode cX1_init 9 = .ok (.return_, 1) := by decide +kernel
set_option maxRecDepth 20000 in
theorem ggX1_set_X1_reduce : GoodIn wsX1_set wsX1_reduce := goodIn_r _ [7, 1, 8, 9, 10, 11, 2, 12, 13] (by decide +kernel) (by decide +kernel)
set_option maxRecDepth 20000 in
theorem gX1_set_X1_reduce : GoodIn wsX1_set (wsV RX1 16 RX1 yX1_reduce wsX1_reduce) := goodIn_app (goodIn_of _ (by decide +kernel)) ggX1_set_X1_reduce
theorem dX1_set_0 : decode cX1_set 0 = .ok (.aload_n 0, 1) := by decide +kernel
theorem dX1_set_1 : decode cX1_set 1 = .ok (.lload_n 3, 1) := by decide +kernel
theorem dX1_set_2 : decode cX1_set 2 = .ok (.lconst 0, 1) := by decide +kernel
theorem dX1_set_3 : decode cX1_set 3 = .ok (.lcmp, 1) := by decide +kernel
theorem dX1_set_4 : decode cX1_set 4 = .ok (.ifCond .le 7, 3) := by decide +kernel
theorem dX1_set_7 : decode cX1_set 7 = .ok (.lload_n 1, 1) := by decide +kernel
theorem dX1_set_8 : decode cX1_set 8 = .ok (.goto 4, 3) := by decide +kernel
theorem dX1_set_11 : decode cX1_set 11 = .ok (.lconst 0, 1) := by decide +kernel
theorem dX1_set_12 : decode cX1_set 12 = .ok (.putfield 13, 3) := by decide +kernel
theorem dX1_set_15 : decode cX1_set 15 = .ok (.aload_n 0, 1) := by decide +kernel
theorem dX1_set_16 : decode cX1_set 16 = .ok (.lload_n 3, 1) := by decide +kernel
theorem dX1_set_17 : decode cX1_set 17 = .ok (.lconst 0, 1) := by decide +kernel
theorem dX1_set_18 : decode cX1_set 18 = .ok (.lcmp, 1) := by decide +kernel
theorem dX1_set_19 : decode cX1_set 19 = .ok (.ifCond .le 7, 3) := by decide +kernel
theorem dX1_set_22 : decode cX1_set 22 = .ok (.lload_n 3, 1) := by decide +kernel
theorem dX1_set_23 : decode cX1_set 23 = .ok (.goto 4, 3) := by decide +kernel
theorem dX1_set_26 : decode cX1_set 26 = .ok (.lconst 1, 1) := by decide +kernel
theorem dX1_set_27 : decode cX1_set 27 = .ok (.putfield 7, 3) := by decide +kernel
theorem dX1_set_30 : decode cX1_set 30 = .ok (.aload_n 0, 1) := by decide +kernel
theorem dX1_set_31 : decode cX1_set 31 = .ok (.invokevirtual 16, 3) := by decide +kernel
theorem dX1_set_34 : decode cX1_set 34 = .ok (.return_, 1) := by decide +kernel
set_option maxRecDepth 20000 in
theorem ggX1_subtract_X1_set : GoodIn wsX1_subtract wsX1_set := goodIn_r _ [7, 1, 2, 8, 9, 10, 6, 11, 12, 13, 14, 15, 16, 17] (by decide +kernel) (by decide +kernel)
set_option maxRecDepth 20000 in
theorem gX1_subtract_X1_set : GoodIn wsX1_subtract (wsV RX1 19 RX1 yX1_set wsX1_set) := goodIn_app (goodIn_of _ (by decide +kernel)) ggX1_subtract_X1_set
theorem dX1_subtract_0 : decode cX1_subtract 0 = .ok (.aload_n 0, 1) := by decide +kernel
theorem dX1_subtract_1 : decode cX1_subtract 1 = .ok (.aload_n 0, 1) := by decide +kernel
theorem dX1_subtract_2 : decode cX1_subtract 2 = .ok (.getfield 13, 3) := by decide +kernel
theorem dX1_subtract_5 : decode cX1_subtract 5 = .ok (.lload_n 3, 1) := by decide +kernel
theorem dX1_subtract_6 : decode cX1_subtract 6 = .ok (.lmul, 1) := by decide +kernel
theorem dX1_subtract_7 : decode cX1_subtract 7 = .ok (.lload_n 1, 1) := by decide +kernel
theorem dX1_subtract_8 : decode cX1_subtract 8 = .ok (.aload_n 0, 1) := by decide +kernel
theorem dX1_subtract_9 : decode cX1_subtract 9 = .ok (.getfield 7, 3) := by decide +kernel
theorem dX1_subtract_12 : decode cX1_subtract 12 = .ok (.lmul, 1) := by decide +kernel
theorem dX1_subtract_13 : decode cX1_subtract 13 = .ok (.lsub, 1) := by decide +kernel
theorem dX1_subtract_14 : decode cX1_subtract 14 = .ok (.aload_n 0, 1) := by decide +kernel
theorem dX1_subtract_15 : decode cX1_subtract 15 = .ok (.getfield 7, 3) := by decide +kernel
theorem dX1_subtract_18 : decode cX1_subtract 18 = .ok (.lload_n 3, 1) := by decide +kernel
theorem dX1_subtract_19 : decode cX1_subtract 19 = .ok (.lmul, 1) := by decide +kernel
theorem dX1_subtract_20 : decode cX1_subtract 20 = .ok (.invokevirtual 19, 3) := by decide +kernel
theorem dX1_subtract_23 : decode cX1_subtract 23 = .ok (.return_, 1) := by decide +kernel
set_option maxRecDepth 20000 in
theorem ggX1_divide_X1_set : GoodIn wsX1_divide wsX1_set := goodIn_r _ [7, 1, 2, 8, 9, 10, 6, 11, 12, 13, 14, 15, 16, 17] (by decide +kernel) (by decide +kernel)
set_option maxRecDepth 20000 in
theorem gX1_divide_X1_set : GoodIn wsX1_divide (wsV RX1 19 RX1 yX1_set wsX1_set) := goodIn_app (goodIn_of _ (by decide +kernel)) ggX1_divide_X1_set
theorem dX1_divide_0 : decode cX1_divide 0 = .ok (.aload_n 0, 1) := by decide +kernel
theorem dX1_divide_1 : decode cX1_divide 1 = .ok (.aload_n 0, 1) := by decide +kernel
theorem dX1_divide_2 : decode cX1_divide 2 = .ok (.getfield 13, 3) := by decide +kernel
theorem dX1_divide_5 : decode cX1_divide 5 = .ok (.aload_n 0, 1) := by decide +kernel
theorem dX1_divide_6 : decode cX1_divide 6 = .ok (.getfield 7, 3) := by decide +kernel
theorem dX1_divide_9 : decode cX1_divide 9 = .ok (.lload_n 1, 1) := by decide +kernel
theorem dX1_divide_10 : decode cX1_divide 10 = .ok (.lmul, 1) := by decide +kernel
theorem dX1_divide_11 : decode cX1_divide 11 = .ok (.invokevirtual 19, 3) := by decide +kernel
theorem dX1_divide_14 : decode cX1_divide 14 = .ok (.return_, 1) := by decide +kernel
theorem dX1_part_0 : decode cX1_part 0 = .ok (.iload_n 1, 1) := by decide +kernel
theorem dX1_part_1 : decode cX1_part 1 = .ok (.ifCond .ne 10, 3) := by decide +kernel
theorem dX1_part_4 : decode cX1_part 4 = .ok (.aload_n 0, 1) := by decide +kernel
theorem dX1_part_5 : decode cX1_part 5 = .ok (.getfield 13, 3) := by decide +kernel
theorem dX1_part_8 : decode cX1_part 8 = .ok (.goto 7, 3) := by decide +kernel
theorem dX1_part_11 : decode cX1_part 11 = .ok (.aload_n 0, 1) := by decide +kernel
theorem dX1_part_12 : decode cX1_part 12 = .ok (.getfield 7, 3) := by decide +kernel
theorem dX1_part_15 : decode cX1_part 15 = .ok (.lreturn, 1) := by decide +kernel
theorem dX1_cut_0 : decode cX1_cut 0 = .ok (.aload_n 0, 1) := by decide +kernel
theorem dX1_cut_1 : decode cX1_cut 1 = .ok (.getfield 7, 3) := by decide +kernel
theorem dX1_cut_4 : decode cX1_cut 4 = .ok (.lconst 0, 1) := by decide +kernel
theorem dX1_cut_5 : decode cX1_cut 5 = .ok (.lcmp, 1) := by decide +kernel
theorem dX1_cut_6 : decode cX1_cut 6 = .ok (.ifCond .le 16, 3) := by decide +kernel
theorem dX1_cut_9 : decode cX1_cut 9 = .ok (.aload_n 0, 1) := by decide +kernel
theorem dX1_cut_10 : decode cX1_cut 10 = .ok (.getfield 13, 3) := by decide +kernel
theorem dX1_cut_13 : decode cX1_cut 13 = .ok (.aload_n 0, 1) := by decide +kernel
theorem dX1_cut_14 : decode cX1_cut 14 = .ok (.getfield 7, 3) := by decide +kernel
theorem dX1_cut_17 : decode cX1_cut 17 = .ok (.ldiv, 1) := by decide +kernel
theorem dX1_cut_18 : decode cX1_cut 18 = .ok (.l2i, 1) := by decide +kernel
theorem dX1_cut_19 : decode cX1_cut 19 = .ok (.goto 4, 3) := by decide +kernel
theorem dX1_cut_22 : decode cX1_cut 22 = .ok (.iconst 0, 1) := by decide +kernel
theorem dX1_cut_23 : decode cX1_cut 23 = .ok (.ireturn, 1) := by decide +kernel
theorem dX1_reduce_0 : decode cX1_reduce 0 = .ok (.aload_n 0, 1) := by decide +kernel
theorem dX1_reduce_1 : decode cX1_reduce 1 = .ok (.getfield 13, 3) := by decide +kernel
theorem dX1_reduce_4 : decode cX1_reduce 4 = .ok (.invokestatic 23, 3) := by decide +kernel
theorem dX1_reduce_7 : decode cX1_reduce 7 = .ok (.lstore_n 1, 1) := by decide +kernel
theorem dX1_reduce_8 : decode cX1_reduce 8 = .ok (.aload_n 0, 1) := by decide +kernel
theorem dX1_reduce_9 : decode cX1_reduce 9 = .ok (.getfield 7, 3) := by decide +kernel
theorem dX1_reduce_12 : decode cX1_reduce 12 = .ok (.lstore_n 3, 1) := by decide +kernel
theorem dX1_reduce_13 : decode cX1_reduce 13 = .ok (.iconst 0, 1) := by decide +kernel
theorem dX1_reduce_14 : decode cX1_reduce 14 = .ok (.istore 5, 2) := by decide +kernel
theorem dX1_reduce_16 : decode cX1_reduce 16 = .ok (.iload 5, 2) := by decide +kernel
theorem dX1_reduce_18 : decode cX1_reduce 18 = .ok (.sipush 200, 3) := by decide +kernel
theorem dX1_reduce_21 : decode cX1_reduce 21 = .ok (.if_icmp .ge 25, 3) := by decide +kernel
theorem dX1_reduce_24 : decode cX1_reduce 24 = .ok (.lload_n 3, 1) := by decide +kernel
theorem dX1_reduce_25 : decode cX1_reduce 25 = .ok (.lconst 0, 1) := by decide +kernel
theorem dX1_reduce_26 : decode cX1_reduce 26 = .ok (.lcmp, 1) := by decide +kernel
theorem dX1_reduce_27 : decode cX1_reduce 27 = .ok (.ifCond .le 19, 3) := by decide +kernel
theorem dX1_reduce_30 : decode cX1_reduce 30 = .ok (.lload_n 1, 1) := by decide +kernel
theorem dX1_reduce_31 : decode cX1_reduce 31 = .ok (.lload_n 3, 1) := by decide +kernel
theorem dX1_reduce_32 : decode cX1_reduce 32 = .ok (.lrem, 1) := by decide +kernel
theorem dX1_reduce_33 : decode cX1_reduce 33 = .ok (.lstore 6, 2) := by decide +kernel
theorem dX1_reduce_35 : decode cX1_reduce 35 = .ok (.lload_n 3, 1) := by decide +kernel
theorem dX1_reduce_36 : decode cX1_reduce 36 = .ok (.lstore_n 1, 1) := by decide +kernel
theorem dX1_reduce_37 : decode cX1_reduce 37 = .ok (.lload 6, 2) := by decide +kernel
theorem dX1_reduce_39 : decode cX1_reduce 39 = .ok (.lstore_n 3, 1) := by decide +kernel
theorem dX1_reduce_40 : decode cX1_reduce 40 = .ok (.iinc 5 1, 3) := by decide +kernel
theorem dX1_reduce_43 : decode cX1_reduce 43 = .ok (.goto (-27), 3) := by decide +kernel
theorem dX1_reduce_46 : decode cX1_reduce 46 = .ok (.lload_n 1, 1) := by decide +kernel
theorem dX1_reduce_47 : decode cX1_reduce 47 = .ok (.lconst 1, 1) := by decide +kernel
theorem dX1_reduce_48 : decode cX1_reduce 48 = .ok (.lcmp, 1) := by decide +kernel
theorem dX1_reduce_49 : decode cX1_reduce 49 = .ok (.ifCond .le 23, 3) := by decide +kernel
theorem dX1_reduce_52 : decode cX1_reduce 52 = .ok (.aload_n 0, 1) := by decide +kernel
theorem dX1_reduce_53 : decode cX1_reduce 53 = .ok (.dup, 1) := by decide +kernel
theorem dX1_reduce_54 : decode cX1_reduce 54 = .ok (.getfield 13, 3) := by decide +kernel
theorem dX1_reduce_57 : decode cX1_reduce 57 = .ok (.lload_n 1, 1) := by decide +kernel
theorem dX1_reduce_58 : decode cX1_reduce 58 = .ok (.ldiv, 1) := by decide +kernel
theorem dX1_reduce_59 : decode cX1_reduce 59 = .ok (.putfield 13, 3) := by decide +kernel
theorem dX1_reduce_62 : decode cX1_reduce 62 = .ok (.aload_n 0, 1) := by decide +kernel
theorem dX1_reduce_63 : decode cX1_reduce 63 = .ok (.dup, 1) := by decide +kernel
theorem dX1_reduce_64 : decode cX1_reduce 64 = .ok (.getfield 7, 3) := by decide +kernel
theorem dX1_reduce_67 : decode cX1_reduce 67 = .ok (.lload_n 1, 1) := by decide +kernel
theorem dX1_reduce_68 : decode cX1_reduce 68 = .ok (.ldiv, 1) := by decide +kernel
theorem dX1_reduce_69 : decode cX1_reduce 69 = .ok (.putfield 7, 3) := by decide +kernel
theorem dX1_reduce_72 : decode cX1_reduce 72 = .ok (.return_, 1) := by decide +kernel
theorem dX2_init_0 : decode cX2_init 0 = .ok (.aload_n 0, 1) := by decide +kernel
theorem dX2_init_1 : decode cX2_init 1 = .ok (.invokespecial 3, 3) := by decide +kernel
theorem dX2_init_4 : decode cX2_init 4 = .ok (.aload_n 0, 1) := by decide +kernel
theorem dX2_init_5 : decode cX2_init 5 = .ok (.bipush 80, 2) := by decide +kernel
theorem dX2_init_7 : decode cX2_init 7 = .ok (.newarray .int, 2) := by decide +kernel
theorem dX2_init_9 : decode cX2_init 9 = .ok (.putfield 9, 3) := by decide +kernel
theorem dX2_init_12 : decode cX2_init 12 = .ok (.aload_n 0, 1) := by decide +kernel
theorem dX2_init_13 : decode cX2_init 13 = .ok (.bipush 80, 2) := by decide +kernel
theorem dX2_init_15 : decode cX2_init 15 = .ok (.newarray .int, 2) := by decide +kernel
theorem dX2_init_17 : decode cX2_init 17 = .ok (.putfield 15, 3) := by decide +kernel
theorem dX2_init_20 : decode cX2_init 20 = .ok (.aload_n 0, 1) := by decide +kernel
theorem dX2_init_21 : decode cX2_init 21 = .ok (.bipush 80, 2) := by decide +kernel
theorem dX2_init_23 : decode cX2_init 23 = .ok (.newarray .int, 2) := by decide +kernel
theorem dX2_init_25 : decode cX2_init 25 = .ok (.putfield 18, 3) := by decide +kernel
theorem dX2_init_28 : decode cX2_init 28 = .ok (.aload_n 0, 1) := by decide +kernel
theorem dX2_init_29 : decode cX2_init 29 = .ok (.bipush 80, 2) := by decide +kernel
theorem dX2_init_31 : decode cX2_init 31 = .ok (.newarray .int, 2) := by decide +kernel
theorem dX2_init_33 : decode cX2_init 33 = .ok (.putfield 21, 3) := by decide +kernel
theorem dX2_init_36 : decode cX2_init 36 = .ok (.aload_n 0, 1) := by decide +kernel
theorem dX2_init_37 : decode cX2_init 37 = .ok (.iconst 4, 1) := by decide +kernel
theorem dX2_init_38 : decode cX2_init 38 = .ok (.newarray .int, 2) := by decide +kernel
theorem dX2_init_40 : decode cX2_init 40 = .ok (.putfield 24, 3) := by decide +kernel
theorem dX2_init_43 : decode cX2_init 43 = .ok (.aload_n 0, 1) := by decide +kernel
theorem dX2_init_44 : decode cX2_init 44 = .ok (.iconst 4, 1) := by decide +kernel
theorem dX2_init_45 : decode cX2_init 45 = .ok (.newarray .int, 2) := by decide +kernel
theorem dX2_init_47 : decode cX2_init 47 = .ok (.putfield 27, 3) := by decide +kernel
theorem dX2_init_50 : decode cX2_init 50 = .ok (.aload_n 0, 1) := by decide +kernel
theorem dX2_init_51 : decode cX2_init 51 = .ok (.iconst 4, 1) := by decide +kernel
theorem dX2_init_52 : decode cX2_init 52 = .ok (.newarray .int, 2) := by decide +kernel
theorem dX2_init_54 : decode cX2_init 54 = .ok (.putfield 30, 3) := by decide +kernel
theorem dX2_init_57 : decode cX2_init 57 = .ok (.return_, 1) := by decide +kernel
set_option maxRecDepth 20000 in
theorem ggX2_add_X9_isBelow : GoodIn wsX2_add wsX9_isBelow := goodIn_r _ [8] (by decide +kernel) (by decide +kernel)
set_option maxRecDepth 20000 in
theorem gX2_add_X9_isBelow_n37 : GoodIn wsX2_add (wsX9_isBelow) := ggX2_add_X9_isBelow
theorem dX2_add_0 : decode cX2_add 0 = .ok (.aload_n 0, 1) := by decide +kernel
theorem dX2_add_1 : decode cX2_add 1 = .ok (.getfield 33, 3) := by decide +kernel
theorem dX2_add_4 : decode cX2_add 4 = .ok (.bipush 80, 2) := by decide +kernel
theorem dX2_add_6 : decode cX2_add 6 = .ok (.invokestatic 37, 3) := by decide +kernel
theorem dX2_add_9 : decode cX2_add 9 = .ok (.ifCond .ne 7, 3) := by decide +kernel
theorem dX2_add_12 : decode cX2_add 12 = .ok (.sipush (-1004), 3) := by decide +kernel
theorem dX2_add_15 : decode cX2_add 15 = .ok (.ireturn, 1) := by decide +kernel
theorem dX2_add_16 : decode cX2_add 16 = .ok (.aload_n 0, 1) := by decide +kernel
theorem dX2_add_17 : decode cX2_add 17 = .ok (.getfield 9, 3) := by decide +kernel
theorem dX2_add_20 : decode cX2_add 20 = .ok (.aload_n 0, 1) := by decide +kernel
theorem dX2_add_21 : decode cX2_add 21 = .ok (.getfield 33, 3) := by decide +kernel
theorem dX2_add_24 : decode cX2_add 24 = .ok (.iload_n 1, 1) := by decide +kernel
theorem dX2_add_25 : decode cX2_add 25 = .ok (.iastore, 1) := by decide +kernel
theorem dX2_add_26 : decode cX2_add 26 = .ok (.aload_n 0, 1) := by decide +kernel
theorem dX2_add_27 : decode cX2_add 27 = .ok (.getfield 15, 3) := by decide +kernel
theorem dX2_add_30 : decode cX2_add 30 = .ok (.aload_n 0, 1) := by decide +kernel
theorem dX2_add_31 : decode cX2_add 31 = .ok (.getfield 33, 3) := by decide +kernel
theorem dX2_add_34 : decode cX2_add 34 = .ok (.iload_n 2, 1) := by decide +kernel
theorem dX2_add_35 : decode cX2_add 35 = .ok (.iastore, 1) := by decide +kernel
theorem dX2_add_36 : decode cX2_add 36 = .ok (.aload_n 0, 1) := by decide +kernel
theorem dX2_add_37 : decode cX2_add 37 = .ok (.getfield 18, 3) := by decide +kernel
theorem dX2_add_40 : decode cX2_add 40 = .ok (.aload_n 0, 1) := by decide +kernel
theorem dX2_add_41 : decode cX2_add 41 = .ok (.getfield 33, 3) := by decide +kernel
theorem dX2_add_44 : decode cX2_add 44 = .ok (.iload_n 3, 1) := by decide +kernel
theorem dX2_add_45 : decode cX2_add 45 = .ok (.iastore, 1) := by decide +kernel
theorem dX2_add_46 : decode cX2_add 46 = .ok (.aload_n 0, 1) := by decide +kernel
theorem dX2_add_47 : decode cX2_add 47 = .ok (.getfield 21, 3) := by decide +kernel
theorem dX2_add_50 : decode cX2_add 50 = .ok (.aload_n 0, 1) := by decide +kernel
theorem dX2_add_51 : decode cX2_add 51 = .ok (.getfield 33, 3) := by decide +kernel
theorem dX2_add_54 : decode cX2_add 54 = .ok (.iload 4, 2) := by decide +kernel
theorem dX2_add_56 : decode cX2_add 56 = .ok (.iastore, 1) := by decide +kernel
theorem dX2_add_57 : decode cX2_add 57 = .ok (.aload_n 0, 1) := by decide +kernel
theorem dX2_add_58 : decode cX2_add 58 = .ok (.dup, 1) := by decide +kernel
theorem dX2_add_59 : decode cX2_add 59 = .ok (.getfield 33, 3) := by decide +kernel
theorem dX2_add_62 : decode cX2_add 62 = .ok (.iconst 1, 1) := by decide +kernel
theorem dX2_add_63 : decode cX2_add 63 = .ok (.iadd, 1) := by decide +kernel
theorem dX2_add_64 : decode cX2_add 64 = .ok (.putfield 33, 3) := by decide +kernel
theorem dX2_add_67 : decode cX2_add 67 = .ok (.aload_n 0, 1) := by decide +kernel
theorem dX2_add_68 : decode cX2_add 68 = .ok (.getfield 33, 3) := by decide +kernel
theorem dX2_add_71 : decode cX2_add 71 = .ok (.iconst 1, 1) := by decide +kernel
theorem dX2_add_72 : decode cX2_add 72 = .ok (.isub, 1) := by decide +kernel
theorem dX2_add_73 : decode cX2_add 73 = .ok (.ireturn, 1) := by decide +kernel
theorem dX2_canBeKnown_0 : decode cX2_canBeKnown 0 = .ok (.iload_n 1, 1) := by decide +kernel
theorem dX2_canBeKnown_1 : decode cX2_canBeKnown 1 = .ok (.iconst (-1), 1) := by decide +kernel
theorem dX2_canBeKnown_2 : decode cX2_canBeKnown 2 = .ok (.if_icmp .eq 15, 3) := by decide +kernel
theorem dX2_canBeKnown_5 : decode cX2_canBeKnown 5 = .ok (.iload_n 1, 1) := by decide +kernel
theorem dX2_canBeKnown_6 : decode cX2_canBeKnown 6 = .ok (.ifCond .lt 15, 3) := by decide +kernel
theorem dX2_canBeKnown_9 : decode cX2_canBeKnown 9 = .ok (.iload_n 1, 1) := by decide +kernel
theorem dX2_canBeKnown_10 : decode cX2_canBeKnown 10 = .ok (.aload_n 0, 1) := by decide +kernel
theorem dX2_canBeKnown_11 : decode cX2_canBeKnown 11 = .ok (.getfield 33, 3) := by decide +kernel
theorem dX2_canBeKnown_14 : decode cX2_canBeKnown 14 = .ok (.if_icmp .gt 7, 3) := by decide +kernel
theorem dX2_canBeKnown_17 : decode cX2_canBeKnown 17 = .ok (.iconst 1, 1) := by decide +kernel
theorem dX2_canBeKnown_18 : decode cX2_canBeKnown 18 = .ok (.goto 4, 3) := by decide +kernel
theorem dX2_canBeKnown_21 : decode cX2_canBeKnown 21 = .ok (.iconst 0, 1) := by decide +kernel
theorem dX2_canBeKnown_22 : decode cX2_canBeKnown 22 = .ok (.ireturn, 1) := by decide +kernel
theorem dX2_knownBy_0 : decode cX2_knownBy 0 = .ok (.iload_n 1, 1) := by decide +kernel
theorem dX2_knownBy_1 : decode cX2_knownBy 1 = .ok (.iconst (-1), 1) := by decide +kernel
theorem dX2_knownBy_2 : decode cX2_knownBy 2 = .ok (.if_icmp .ne 10, 3) := by decide +kernel
theorem dX2_knownBy_5 : decode cX2_knownBy 5 = .ok (.aload_n 0, 1) := by decide +kernel
theorem dX2_knownBy_6 : decode cX2_knownBy 6 = .ok (.getfield 33, 3) := by decide +kernel
theorem dX2_knownBy_9 : decode cX2_knownBy 9 = .ok (.goto 15, 3) := by decide +kernel
theorem dX2_knownBy_12 : decode cX2_knownBy 12 = .ok (.iload_n 1, 1) := by decide +kernel
theorem dX2_knownBy_13 : decode cX2_knownBy 13 = .ok (.iconst 0, 1) := by decide +kernel
theorem dX2_knownBy_14 : decode cX2_knownBy 14 = .ok (.invokestatic 41, 3) := by decide +kernel
theorem dX2_knownBy_17 : decode cX2_knownBy 17 = .ok (.aload_n 0, 1) := by decide +kernel
theorem dX2_knownBy_18 : decode cX2_knownBy 18 = .ok (.getfield 33, 3) := by decide +kernel
theorem dX2_knownBy_21 : decode cX2_knownBy 21 = .ok (.invokestatic 47, 3) := by decide +kernel
theorem dX2_knownBy_24 : decode cX2_knownBy 24 = .ok (.ireturn, 1) := by decide +kernel
set_option maxRecDepth 20000 in
theorem ggX2_countDoubles_X2_learnHabits : GoodIn wsX2_countDoubles wsX2_learnHabits := goodIn_r _ [7, 8, 9, 10, 2, 11, 12, 13, 14, 15, 16, 17, 18, 19, 6, 20, 21, 22, 23, 24, 25, 26, 27, 28, 29, 30, 31, 32, 33, 34, 35, 36, 37, 38, 39, 40] (by decide +kernel) (by decide +kernel)
set_option maxRecDepth 20000 in
theorem gX2_countDoubles_X2_learnHabits : GoodIn wsX2_countDoubles (wsV RX2 50 RX2 yX2_learnHabits wsX2_learnHabits) := goodIn_app (goodIn_of _ (by decide +kernel)) ggX2_countDoubles_X2_learnHabits
theorem dX2_countDoubles_0 : decode cX2_countDoubles 0 = .ok (.aload_n 0, 1) := by decide +kernel
theorem dX2_countDoubles_1 : decode cX2_countDoubles 1 = .ok (.aload_n 0, 1) := by decide +kernel
theorem dX2_countDoubles_2 : decode cX2_countDoubles 2 = .ok (.getfield 33, 3) := by decide +kernel
theorem dX2_countDoubles_5 : decode cX2_countDoubles 5 = .ok (.invokevirtual 50, 3) := by decide +kernel
theorem dX2_countDoubles_8 : decode cX2_countDoubles 8 = .ok (.aload_n 0, 1) := by decide +kernel
theorem dX2_countDoubles_9 : decode cX2_countDoubles 9 = .ok (.getfield 54, 3) := by decide +kernel
theorem dX2_countDoubles_12 : decode cX2_countDoubles 12 = .ok (.ireturn, 1) := by decide +kernel
set_option maxRecDepth 20000 in
theorem ggX2_findHabit_X2_learnHabits : GoodIn wsX2_findHabit wsX2_learnHabits := goodIn_r _ [8, 9, 1, 3, 10, 11, 12, 13, 14, 15, 16, 17, 18, 19, 7, 20, 21, 22, 23, 24, 25, 26, 27, 28, 29, 30, 46, 47, 48, 49, 50, 51, 52, 53, 54, 55] (by decide +kernel) (by decide +kernel)
set_option maxRecDepth 20000 in
theorem gX2_findHabit_X2_learnHabits : GoodIn wsX2_findHabit (wsV RX2 50 RX2 yX2_learnHabits wsX2_learnHabits) := goodIn_app (goodIn_of _ (by decide +kernel)) ggX2_findHabit_X2_learnHabits
set_option maxRecDepth 20000 in
theorem ggX2_findHabit_X9_at : GoodIn wsX2_findHabit wsX9_at := goodIn_r _ [25] (by decide +kernel) (by decide +kernel)
set_option maxRecDepth 20000 in
theorem gX2_findHabit_X9_at_n57 : GoodIn wsX2_findHabit (wsX9_at) := ggX2_findHabit_X9_at
set_option maxRecDepth 20000 in
theorem ggX2_findHabit_X1_set : GoodIn wsX2_findHabit wsX1_set := goodIn_r _ [35, 36, 37, 38, 39, 40, 34, 41, 42, 43, 44, 45, 56, 57] (by decide +kernel) (by decide +kernel)
set_option maxRecDepth 20000 in
theorem gX2_findHabit_X1_set : GoodIn wsX2_findHabit (wsV RX2 63 RX1 yX1_set wsX1_set) := goodIn_app (goodIn_of _ (by decide +kernel)) ggX2_findHabit_X1_set
theorem dX2_findHabit_0 : decode cX2_findHabit 0 = .ok (.aload_n 0, 1) := by decide +kernel
theorem dX2_findHabit_1 : decode cX2_findHabit 1 = .ok (.iload_n 2, 1) := by decide +kernel
theorem dX2_findHabit_2 : decode cX2_findHabit 2 = .ok (.invokevirtual 50, 3) := by decide +kernel
theorem dX2_findHabit_5 : decode cX2_findHabit 5 = .ok (.aload_n 3, 1) := by decide +kernel
theorem dX2_findHabit_6 : decode cX2_findHabit 6 = .ok (.aload_n 0, 1) := by decide +kernel
theorem dX2_findHabit_7 : decode cX2_findHabit 7 = .ok (.getfield 24, 3) := by decide +kernel
theorem dX2_findHabit_10 : decode cX2_findHabit 10 = .ok (.iload_n 1, 1) := by decide +kernel
theorem dX2_findHabit_11 : decode cX2_findHabit 11 = .ok (.invokestatic 57, 3) := by decide +kernel
theorem dX2_findHabit_14 : decode cX2_findHabit 14 = .ok (.i2l, 1) := by decide +kernel
theorem dX2_findHabit_15 : decode cX2_findHabit 15 = .ok (.ldc2_w 61, 3) := by decide +kernel
theorem dX2_findHabit_18 : decode cX2_findHabit 18 = .ok (.aload_n 0, 1) := by decide +kernel
theorem dX2_findHabit_19 : decode cX2_findHabit 19 = .ok (.getfield 27, 3) := by decide +kernel
theorem dX2_findHabit_22 : decode cX2_findHabit 22 = .ok (.iload_n 1, 1) := by decide +kernel
theorem dX2_findHabit_23 : decode cX2_findHabit 23 = .ok (.invokestatic 57, 3) := by decide +kernel
theorem dX2_findHabit_26 : decode cX2_findHabit 26 = .ok (.i2l, 1) := by decide +kernel
theorem dX2_findHabit_27 : decode cX2_findHabit 27 = .ok (.lmul, 1) := by decide +kernel
theorem dX2_findHabit_28 : decode cX2_findHabit 28 = .ok (.invokevirtual 63, 3) := by decide +kernel
theorem dX2_findHabit_31 : decode cX2_findHabit 31 = .ok (.return_, 1) := by decide +kernel
set_option maxRecDepth 20000 in
theorem ggX2_findState_X2_findLatest : GoodIn wsX2_findState wsX2_findLatest := goodIn_r _ [13, 2, 3, 60, 61, 62, 63, 64, 65, 66, 67, 68, 69] (by decide +kernel) (by decide +kernel)
set_option maxRecDepth 20000 in
theorem gX2_findState_X2_findLatest : GoodIn wsX2_findState (wsV RX2 69 RX2 yX2_findLatest wsX2_findLatest) := goodIn_app (goodIn_of _ (by decide +kernel)) ggX2_findState_X2_findLatest
set_option maxRecDepth 20000 in
theorem ggX2_findState_X2_learnHabits : GoodIn wsX2_findState wsX2_learnHabits := goodIn_r _ [17, 18, 7, 6, 19, 4, 5, 20, 21, 22, 23, 24, 25, 26, 12, 27, 2, 3, 28, 29, 30, 31, 32, 33, 34, 35, 60, 61, 62, 63, 64, 65, 66, 67, 68, 69] (by decide +kernel) (by decide +kernel)
set_option maxRecDepth 20000 in
theorem gX2_findState_X2_learnHabits : GoodIn wsX2_findState (wsV RX2 50 RX2 yX2_learnHabits wsX2_learnHabits) := goodIn_app (goodIn_of _ (by decide +kernel)) ggX2_findState_X2_learnHabits
set_option maxRecDepth 20000 in
theorem ggX2_findState_J7_fill_53178 : GoodIn wsX2_findState wsJ7_fill_53178 := goodIn_r _ [23] (by decide +kernel) (by decide +kernel)
set_option maxRecDepth 20000 in
theorem gX2_findState_J7_fill_53178 : GoodIn wsX2_findState (va_wsS RX2 73 yJ7_fill_53178 wsJ7_fill_53178) := goodIn_app (goodIn_of _ (by decide +kernel)) ggX2_findState_J7_fill_53178
set_option maxRecDepth 20000 in
theorem ggX2_findState_X2_countFor : GoodIn wsX2_findState wsX2_countFor := goodIn_r _ [33, 34, 29, 35] (by decide +kernel) (by decide +kernel)
set_option maxRecDepth 20000 in
theorem gX2_findState_X2_countFor : GoodIn wsX2_findState (va_wsS RX2 79 yX2_countFor wsX2_countFor) := goodIn_app (goodIn_of _ (by decide +kernel)) ggX2_findState_X2_countFor
set_option maxRecDepth 20000 in
theorem ggX2_findState_X1_set : GoodIn wsX2_findState wsX1_set := goodIn_r _ [40, 41, 42, 43, 44, 45, 39, 46, 47, 48, 49, 50, 70, 71] (by decide +kernel) (by decide +kernel)
set_option maxRecDepth 20000 in
theorem gX2_findState_X1_set : GoodIn wsX2_findState (wsV RX2 63 RX1 yX1_set wsX1_set) := goodIn_app (goodIn_of _ (by decide +kernel)) ggX2_findState_X1_set
set_option maxRecDepth 20000 in
theorem ggX2_findState_X1_subtract : GoodIn wsX2_findState wsX1_subtract := goodIn_r _ [54, 41, 42, 55, 37, 38, 39, 40, 43, 44, 45, 46, 47, 48, 49, 50, 70, 71] (by decide +kernel) (by decide +kernel)
set_option maxRecDepth 20000 in
theorem gX2_findState_X1_subtract : GoodIn wsX2_findState (wsV RX2 83 RX1 yX1_subtract wsX1_subtract) := goodIn_app (goodIn_of _ (by decide +kernel)) ggX2_findState_X1_subtract
set_option maxRecDepth 20000 in
theorem ggX2_findState_X1_divide : GoodIn wsX2_findState wsX1_divide := goodIn_r _ [59, 41, 42, 55, 37, 38, 39, 40, 43, 44, 45, 46, 47, 48, 49, 50, 70, 71] (by decide +kernel) (by decide +kernel)
set_option maxRecDepth 20000 in
theorem gX2_findState_X1_divide : GoodIn wsX2_findState (wsV RX2 86 RX1 yX1_divide wsX1_divide) := goodIn_app (goodIn_of _ (by decide +kernel)) ggX2_findState_X1_divide
theorem dX2_findState_0 : decode cX2_findState 0 = .ok (.aload_n 0, 1) := by decide +kernel
theorem dX2_findState_1 : decode cX2_findState 1 = .ok (.iload_n 1, 1) := by decide +kernel
theorem dX2_findState_2 : decode cX2_findState 2 = .ok (.iload_n 2, 1) := by decide +kernel
theorem dX2_findState_3 : decode cX2_findState 3 = .ok (.iload_n 3, 1) := by decide +kernel
theorem dX2_findState_4 : decode cX2_findState 4 = .ok (.invokevirtual 69, 3) := by decide +kernel
theorem dX2_findState_7 : decode cX2_findState 7 = .ok (.istore 5, 2) := by decide +kernel
theorem dX2_findState_9 : decode cX2_findState 9 = .ok (.iload 5, 2) := by decide +kernel
theorem dX2_findState_11 : decode cX2_findState 11 = .ok (.iconst (-1), 1) := by decide +kernel
theorem dX2_findState_12 : decode cX2_findState 12 = .ok (.if_icmp .ne 5, 3) := by decide +kernel
theorem dX2_findState_15 : decode cX2_findState 15 = .ok (.iconst 0, 1) := by decide +kernel
theorem dX2_findState_16 : decode cX2_findState 16 = .ok (.ireturn, 1) := by decide +kernel
theorem dX2_findState_17 : decode cX2_findState 17 = .ok (.aload_n 0, 1) := by decide +kernel
theorem dX2_findState_18 : decode cX2_findState 18 = .ok (.iload_n 3, 1) := by decide +kernel
theorem dX2_findState_19 : decode cX2_findState 19 = .ok (.invokevirtual 50, 3) := by decide +kernel
theorem dX2_findState_22 : decode cX2_findState 22 = .ok (.aload_n 0, 1) := by decide +kernel
theorem dX2_findState_23 : decode cX2_findState 23 = .ok (.getfield 30, 3) := by decide +kernel
theorem dX2_findState_26 : decode cX2_findState 26 = .ok (.iconst 0, 1) := by decide +kernel
theorem dX2_findState_27 : decode cX2_findState 27 = .ok (.invokestatic 73, 3) := by decide +kernel
theorem dX2_findState_30 : decode cX2_findState 30 = .ok (.iconst 0, 1) := by decide +kernel
theorem dX2_findState_31 : decode cX2_findState 31 = .ok (.istore 6, 2) := by decide +kernel
theorem dX2_findState_33 : decode cX2_findState 33 = .ok (.iconst 0, 1) := by decide +kernel
theorem dX2_findState_34 : decode cX2_findState 34 = .ok (.istore 7, 2) := by decide +kernel
theorem dX2_findState_36 : decode cX2_findState 36 = .ok (.iconst 0, 1) := by decide +kernel
theorem dX2_findState_37 : decode cX2_findState 37 = .ok (.istore 8, 2) := by decide +kernel
theorem dX2_findState_39 : decode cX2_findState 39 = .ok (.iload 8, 2) := by decide +kernel
theorem dX2_findState_41 : decode cX2_findState 41 = .ok (.iload_n 3, 1) := by decide +kernel
theorem dX2_findState_42 : decode cX2_findState 42 = .ok (.if_icmp .ge 69, 3) := by decide +kernel
theorem dX2_findState_45 : decode cX2_findState 45 = .ok (.iload 8, 2) := by decide +kernel
theorem dX2_findState_47 : decode cX2_findState 47 = .ok (.bipush 80, 2) := by decide +kernel
theorem dX2_findState_49 : decode cX2_findState 49 = .ok (.if_icmp .ge 62, 3) := by decide +kernel
theorem dX2_findState_52 : decode cX2_findState 52 = .ok (.aload_n 0, 1) := by decide +kernel
theorem dX2_findState_53 : decode cX2_findState 53 = .ok (.getfield 9, 3) := by decide +kernel
theorem dX2_findState_56 : decode cX2_findState 56 = .ok (.iload 8, 2) := by decide +kernel
theorem dX2_findState_58 : decode cX2_findState 58 = .ok (.iaload, 1) := by decide +kernel
theorem dX2_findState_59 : decode cX2_findState 59 = .ok (.iload_n 1, 1) := by decide +kernel
theorem dX2_findState_60 : decode cX2_findState 60 = .ok (.if_icmp .ne 45, 3) := by decide +kernel
theorem dX2_findState_63 : decode cX2_findState 63 = .ok (.aload_n 0, 1) := by decide +kernel
theorem dX2_findState_64 : decode cX2_findState 64 = .ok (.getfield 18, 3) := by decide +kernel
theorem dX2_findState_67 : decode cX2_findState 67 = .ok (.iload 8, 2) := by decide +kernel
theorem dX2_findState_69 : decode cX2_findState 69 = .ok (.iaload, 1) := by decide +kernel
theorem dX2_findState_70 : decode cX2_findState 70 = .ok (.iload 5, 2) := by decide +kernel
theorem dX2_findState_72 : decode cX2_findState 72 = .ok (.if_icmp .ne 33, 3) := by decide +kernel
theorem dX2_findState_75 : decode cX2_findState 75 = .ok (.iload 6, 2) := by decide +kernel
theorem dX2_findState_77 : decode cX2_findState 77 = .ok (.aload_n 0, 1) := by decide +kernel
theorem dX2_findState_78 : decode cX2_findState 78 = .ok (.getfield 21, 3) := by decide +kernel
theorem dX2_findState_81 : decode cX2_findState 81 = .ok (.iload 8, 2) := by decide +kernel
theorem dX2_findState_83 : decode cX2_findState 83 = .ok (.iaload, 1) := by decide +kernel
theorem dX2_findState_84 : decode cX2_findState 84 = .ok (.iadd, 1) := by decide +kernel
theorem dX2_findState_85 : decode cX2_findState 85 = .ok (.istore 6, 2) := by decide +kernel
theorem dX2_findState_87 : decode cX2_findState 87 = .ok (.iinc 7 1, 3) := by decide +kernel
theorem dX2_findState_90 : decode cX2_findState 90 = .ok (.aload_n 0, 1) := by decide +kernel
theorem dX2_findState_91 : decode cX2_findState 91 = .ok (.getfield 30, 3) := by decide +kernel
theorem dX2_findState_94 : decode cX2_findState 94 = .ok (.aload_n 0, 1) := by decide +kernel
theorem dX2_findState_95 : decode cX2_findState 95 = .ok (.getfield 15, 3) := by decide +kernel
theorem dX2_findState_98 : decode cX2_findState 98 = .ok (.iload 8, 2) := by decide +kernel
theorem dX2_findState_100 : decode cX2_findState 100 = .ok (.iaload, 1) := by decide +kernel
theorem dX2_findState_101 : decode cX2_findState 101 = .ok (.iconst 1, 1) := by decide +kernel
theorem dX2_findState_102 : decode cX2_findState 102 = .ok (.invokestatic 79, 3) := by decide +kernel
theorem dX2_findState_105 : decode cX2_findState 105 = .ok (.iinc 8 1, 3) := by decide +kernel
theorem dX2_findState_108 : decode cX2_findState 108 = .ok (.goto (-69), 3) := by decide +kernel
theorem dX2_findState_111 : decode cX2_findState 111 = .ok (.aload 4, 2) := by decide +kernel
theorem dX2_findState_113 : decode cX2_findState 113 = .ok (.iload 6, 2) := by decide +kernel
theorem dX2_findState_115 : decode cX2_findState 115 = .ok (.i2l, 1) := by decide +kernel
theorem dX2_findState_116 : decode cX2_findState 116 = .ok (.lconst 1, 1) := by decide +kernel
theorem dX2_findState_117 : decode cX2_findState 117 = .ok (.invokevirtual 63, 3) := by decide +kernel
theorem dX2_findState_120 : decode cX2_findState 120 = .ok (.iconst 0, 1) := by decide +kernel
theorem dX2_findState_121 : decode cX2_findState 121 = .ok (.istore 8, 2) := by decide +kernel
theorem dX2_findState_123 : decode cX2_findState 123 = .ok (.iload 8, 2) := by decide +kernel
theorem dX2_findState_125 : decode cX2_findState 125 = .ok (.iconst 4, 1) := by decide +kernel
theorem dX2_findState_126 : decode cX2_findState 126 = .ok (.if_icmp .ge 63, 3) := by decide +kernel
theorem dX2_findState_129 : decode cX2_findState 129 = .ok (.aload_n 0, 1) := by decide +kernel
theorem dX2_findState_130 : decode cX2_findState 130 = .ok (.getfield 30, 3) := by decide +kernel
theorem dX2_findState_133 : decode cX2_findState 133 = .ok (.iload 8, 2) := by decide +kernel
theorem dX2_findState_135 : decode cX2_findState 135 = .ok (.iaload, 1) := by decide +kernel
theorem dX2_findState_136 : decode cX2_findState 136 = .ok (.ifCond .le 47, 3) := by decide +kernel
theorem dX2_findState_139 : decode cX2_findState 139 = .ok (.aload_n 0, 1) := by decide +kernel
theorem dX2_findState_140 : decode cX2_findState 140 = .ok (.getfield 27, 3) := by decide +kernel
theorem dX2_findState_143 : decode cX2_findState 143 = .ok (.iload 8, 2) := by decide +kernel
theorem dX2_findState_145 : decode cX2_findState 145 = .ok (.iaload, 1) := by decide +kernel
theorem dX2_findState_146 : decode cX2_findState 146 = .ok (.ifCond .le 37, 3) := by decide +kernel
theorem dX2_findState_149 : decode cX2_findState 149 = .ok (.aload 4, 2) := by decide +kernel
theorem dX2_findState_151 : decode cX2_findState 151 = .ok (.aload_n 0, 1) := by decide +kernel
theorem dX2_findState_152 : decode cX2_findState 152 = .ok (.getfield 30, 3) := by decide +kernel
theorem dX2_findState_155 : decode cX2_findState 155 = .ok (.iload 8, 2) := by decide +kernel
theorem dX2_findState_157 : decode cX2_findState 157 = .ok (.iaload, 1) := by decide +kernel
theorem dX2_findState_158 : decode cX2_findState 158 = .ok (.i2l, 1) := by decide +kernel
theorem dX2_findState_159 : decode cX2_findState 159 = .ok (.aload_n 0, 1) := by decide +kernel
theorem dX2_findState_160 : decode cX2_findState 160 = .ok (.getfield 24, 3) := by decide +kernel
theorem dX2_findState_163 : decode cX2_findState 163 = .ok (.iload 8, 2) := by decide +kernel
theorem dX2_findState_165 : decode cX2_findState 165 = .ok (.iaload, 1) := by decide +kernel
theorem dX2_findState_166 : decode cX2_findState 166 = .ok (.i2l, 1) := by decide +kernel
theorem dX2_findState_167 : decode cX2_findState 167 = .ok (.lmul, 1) := by decide +kernel
theorem dX2_findState_168 : decode cX2_findState 168 = .ok (.ldc2_w 61, 3) := by decide +kernel
theorem dX2_findState_171 : decode cX2_findState 171 = .ok (.aload_n 0, 1) := by decide +kernel
theorem dX2_findState_172 : decode cX2_findState 172 = .ok (.getfield 27, 3) := by decide +kernel
theorem dX2_findState_175 : decode cX2_findState 175 = .ok (.iload 8, 2) := by decide +kernel
theorem dX2_findState_177 : decode cX2_findState 177 = .ok (.iaload, 1) := by decide +kernel
theorem dX2_findState_178 : decode cX2_findState 178 = .ok (.i2l, 1) := by decide +kernel
theorem dX2_findState_179 : decode cX2_findState 179 = .ok (.lmul, 1) := by decide +kernel
theorem dX2_findState_180 : decode cX2_findState 180 = .ok (.invokevirtual 83, 3) := by decide +kernel
theorem dX2_findState_183 : decode cX2_findState 183 = .ok (.iinc 8 1, 3) := by decide +kernel
theorem dX2_findState_186 : decode cX2_findState 186 = .ok (.goto (-63), 3) := by decide +kernel
theorem dX2_findState_189 : decode cX2_findState 189 = .ok (.aload 4, 2) := by decide +kernel
theorem dX2_findState_191 : decode cX2_findState 191 = .ok (.iload 7, 2) := by decide +kernel
theorem dX2_findState_193 : decode cX2_findState 193 = .ok (.i2l, 1) := by decide +kernel
theorem dX2_findState_194 : decode cX2_findState 194 = .ok (.invokevirtual 86, 3) := by decide +kernel
theorem dX2_findState_197 : decode cX2_findState 197 = .ok (.iconst 1, 1) := by decide +kernel
theorem dX2_findState_198 : decode cX2_findState 198 = .ok (.ireturn, 1) := by decide +kernel
theorem dX2_findLatest_0 : decode cX2_findLatest 0 = .ok (.iconst (-1), 1) := by decide +kernel
theorem dX2_findLatest_1 : decode cX2_findLatest 1 = .ok (.istore 4, 2) := by decide +kernel
theorem dX2_findLatest_3 : decode cX2_findLatest 3 = .ok (.iconst 0, 1) := by decide +kernel
theorem dX2_findLatest_4 : decode cX2_findLatest 4 = .ok (.istore 5, 2) := by decide +kernel
theorem dX2_findLatest_6 : decode cX2_findLatest 6 = .ok (.iload 5, 2) := by decide +kernel
theorem dX2_findLatest_8 : decode cX2_findLatest 8 = .ok (.iload_n 3, 1) := by decide +kernel
theorem dX2_findLatest_9 : decode cX2_findLatest 9 = .ok (.if_icmp .ge 59, 3) := by decide +kernel
theorem dX2_findLatest_12 : decode cX2_findLatest 12 = .ok (.iload 5, 2) := by decide +kernel
theorem dX2_findLatest_14 : decode cX2_findLatest 14 = .ok (.bipush 80, 2) := by decide +kernel
theorem dX2_findLatest_16 : decode cX2_findLatest 16 = .ok (.if_icmp .ge 52, 3) := by decide +kernel
theorem dX2_findLatest_19 : decode cX2_findLatest 19 = .ok (.aload_n 0, 1) := by decide +kernel
theorem dX2_findLatest_20 : decode cX2_findLatest 20 = .ok (.getfield 9, 3) := by decide +kernel
theorem dX2_findLatest_23 : decode cX2_findLatest 23 = .ok (.iload 5, 2) := by decide +kernel
theorem dX2_findLatest_25 : decode cX2_findLatest 25 = .ok (.iaload, 1) := by decide +kernel
theorem dX2_findLatest_26 : decode cX2_findLatest 26 = .ok (.iload_n 1, 1) := by decide +kernel
theorem dX2_findLatest_27 : decode cX2_findLatest 27 = .ok (.if_icmp .ne 35, 3) := by decide +kernel
theorem dX2_findLatest_30 : decode cX2_findLatest 30 = .ok (.aload_n 0, 1) := by decide +kernel
theorem dX2_findLatest_31 : decode cX2_findLatest 31 = .ok (.getfield 18, 3) := by decide +kernel
theorem dX2_findLatest_34 : decode cX2_findLatest 34 = .ok (.iload 5, 2) := by decide +kernel
theorem dX2_findLatest_36 : decode cX2_findLatest 36 = .ok (.iaload, 1) := by decide +kernel
theorem dX2_findLatest_37 : decode cX2_findLatest 37 = .ok (.iload_n 2, 1) := by decide +kernel
theorem dX2_findLatest_38 : decode cX2_findLatest 38 = .ok (.if_icmp .gt 24, 3) := by decide +kernel
theorem dX2_findLatest_41 : decode cX2_findLatest 41 = .ok (.aload_n 0, 1) := by decide +kernel
theorem dX2_findLatest_42 : decode cX2_findLatest 42 = .ok (.getfield 18, 3) := by decide +kernel
theorem dX2_findLatest_45 : decode cX2_findLatest 45 = .ok (.iload 5, 2) := by decide +kernel
theorem dX2_findLatest_47 : decode cX2_findLatest 47 = .ok (.iaload, 1) := by decide +kernel
theorem dX2_findLatest_48 : decode cX2_findLatest 48 = .ok (.iload 4, 2) := by decide +kernel
theorem dX2_findLatest_50 : decode cX2_findLatest 50 = .ok (.if_icmp .le 12, 3) := by decide +kernel
theorem dX2_findLatest_53 : decode cX2_findLatest 53 = .ok (.aload_n 0, 1) := by decide +kernel
theorem dX2_findLatest_54 : decode cX2_findLatest 54 = .ok (.getfield 18, 3) := by decide +kernel
theorem dX2_findLatest_57 : decode cX2_findLatest 57 = .ok (.iload 5, 2) := by decide +kernel
theorem dX2_findLatest_59 : decode cX2_findLatest 59 = .ok (.iaload, 1) := by decide +kernel
theorem dX2_findLatest_60 : decode cX2_findLatest 60 = .ok (.istore 4, 2) := by decide +kernel
theorem dX2_findLatest_62 : decode cX2_findLatest 62 = .ok (.iinc 5 1, 3) := by decide +kernel
theorem dX2_findLatest_65 : decode cX2_findLatest 65 = .ok (.goto (-59), 3) := by decide +kernel
theorem dX2_findLatest_68 : decode cX2_findLatest 68 = .ok (.iload 4, 2) := by decide +kernel
theorem dX2_findLatest_70 : decode cX2_findLatest 70 = .ok (.ireturn, 1) := by decide +kernel
set_option maxRecDepth 20000 in
theorem ggX2_learnHabits_J7_fill_53178 : GoodIn wsX2_learnHabits wsJ7_fill_53178 := goodIn_r _ [10] (by decide +kernel) (by decide +kernel)
set_option maxRecDepth 20000 in
theorem gX2_learnHabits_J7_fill_53178 : GoodIn wsX2_learnHabits (va_wsS RX2 73 yJ7_fill_53178 wsJ7_fill_53178) := goodIn_app (goodIn_of _ (by decide +kernel)) ggX2_learnHabits_J7_fill_53178
set_option maxRecDepth 20000 in
theorem ggX2_learnHabits_X2_areDouble : GoodIn wsX2_learnHabits wsX2_areDouble := goodIn_r _ [15, 16, 17, 6, 18, 19, 20, 26, 27, 28, 29, 30, 31, 32, 33, 34, 35] (by decide +kernel) (by decide +kernel)
set_option maxRecDepth 20000 in
theorem gX2_learnHabits_X2_areDouble : GoodIn wsX2_learnHabits (wsV RX2 93 RX2 yX2_areDouble wsX2_areDouble) := goodIn_app (goodIn_of _ (by decide +kernel)) ggX2_learnHabits_X2_areDouble
set_option maxRecDepth 20000 in
theorem ggX2_learnHabits_X2_countFor : GoodIn wsX2_learnHabits wsX2_countFor := goodIn_r _ [23, 24, 19, 25] (by decide +kernel) (by decide +kernel)
set_option maxRecDepth 20000 in
theorem gX2_learnHabits_X2_countFor : GoodIn wsX2_learnHabits (va_wsS RX2 79 yX2_countFor wsX2_countFor) := goodIn_app (goodIn_of _ (by decide +kernel)) ggX2_learnHabits_X2_countFor
theorem dX2_learnHabits_0 : decode cX2_learnHabits 0 = .ok (.iload_n 1, 1) := by decide +kernel
theorem dX2_learnHabits_1 : decode cX2_learnHabits 1 = .ok (.aload_n 0, 1) := by decide +kernel
theorem dX2_learnHabits_2 : decode cX2_learnHabits 2 = .ok (.getfield 90, 3) := by decide +kernel
theorem dX2_learnHabits_5 : decode cX2_learnHabits 5 = .ok (.if_icmp .ne 4, 3) := by decide +kernel
theorem dX2_learnHabits_8 : decode cX2_learnHabits 8 = .ok (.return_, 1) := by decide +kernel
theorem dX2_learnHabits_9 : decode cX2_learnHabits 9 = .ok (.aload_n 0, 1) := by decide +kernel
theorem dX2_learnHabits_10 : decode cX2_learnHabits 10 = .ok (.iload_n 1, 1) := by decide +kernel
theorem dX2_learnHabits_11 : decode cX2_learnHabits 11 = .ok (.putfield 90, 3) := by decide +kernel
theorem dX2_learnHabits_14 : decode cX2_learnHabits 14 = .ok (.aload_n 0, 1) := by decide +kernel
theorem dX2_learnHabits_15 : decode cX2_learnHabits 15 = .ok (.getfield 24, 3) := by decide +kernel
theorem dX2_learnHabits_18 : decode cX2_learnHabits 18 = .ok (.iconst 0, 1) := by decide +kernel
theorem dX2_learnHabits_19 : decode cX2_learnHabits 19 = .ok (.invokestatic 73, 3) := by decide +kernel
theorem dX2_learnHabits_22 : decode cX2_learnHabits 22 = .ok (.aload_n 0, 1) := by decide +kernel
theorem dX2_learnHabits_23 : decode cX2_learnHabits 23 = .ok (.getfield 27, 3) := by decide +kernel
theorem dX2_learnHabits_26 : decode cX2_learnHabits 26 = .ok (.iconst 0, 1) := by decide +kernel
theorem dX2_learnHabits_27 : decode cX2_learnHabits 27 = .ok (.invokestatic 73, 3) := by decide +kernel
theorem dX2_learnHabits_30 : decode cX2_learnHabits 30 = .ok (.aload_n 0, 1) := by decide +kernel
theorem dX2_learnHabits_31 : decode cX2_learnHabits 31 = .ok (.iconst 0, 1) := by decide +kernel
theorem dX2_learnHabits_32 : decode cX2_learnHabits 32 = .ok (.putfield 54, 3) := by decide +kernel
theorem dX2_learnHabits_35 : decode cX2_learnHabits 35 = .ok (.iconst 0, 1) := by decide +kernel
theorem dX2_learnHabits_36 : decode cX2_learnHabits 36 = .ok (.istore_n 2, 1) := by decide +kernel
theorem dX2_learnHabits_37 : decode cX2_learnHabits 37 = .ok (.iload_n 2, 1) := by decide +kernel
theorem dX2_learnHabits_38 : decode cX2_learnHabits 38 = .ok (.iload_n 1, 1) := by decide +kernel
theorem dX2_learnHabits_39 : decode cX2_learnHabits 39 = .ok (.if_icmp .ge 121, 3) := by decide +kernel
theorem dX2_learnHabits_42 : decode cX2_learnHabits 42 = .ok (.iload_n 2, 1) := by decide +kernel
theorem dX2_learnHabits_43 : decode cX2_learnHabits 43 = .ok (.bipush 80, 2) := by decide +kernel
theorem dX2_learnHabits_45 : decode cX2_learnHabits 45 = .ok (.if_icmp .ge 115, 3) := by decide +kernel
theorem dX2_learnHabits_48 : decode cX2_learnHabits 48 = .ok (.iconst 0, 1) := by decide +kernel
theorem dX2_learnHabits_49 : decode cX2_learnHabits 49 = .ok (.istore_n 3, 1) := by decide +kernel
theorem dX2_learnHabits_50 : decode cX2_learnHabits 50 = .ok (.iload_n 3, 1) := by decide +kernel
theorem dX2_learnHabits_51 : decode cX2_learnHabits 51 = .ok (.iload_n 2, 1) := by decide +kernel
theorem dX2_learnHabits_52 : decode cX2_learnHabits 52 = .ok (.if_icmp .ge 102, 3) := by decide +kernel
theorem dX2_learnHabits_55 : decode cX2_learnHabits 55 = .ok (.aload_n 0, 1) := by decide +kernel
theorem dX2_learnHabits_56 : decode cX2_learnHabits 56 = .ok (.iload_n 3, 1) := by decide +kernel
theorem dX2_learnHabits_57 : decode cX2_learnHabits 57 = .ok (.iload_n 2, 1) := by decide +kernel
theorem dX2_learnHabits_58 : decode cX2_learnHabits 58 = .ok (.invokevirtual 93, 3) := by decide +kernel
theorem dX2_learnHabits_61 : decode cX2_learnHabits 61 = .ok (.ifCond .eq 87, 3) := by decide +kernel
theorem dX2_learnHabits_64 : decode cX2_learnHabits 64 = .ok (.aload_n 0, 1) := by decide +kernel
theorem dX2_learnHabits_65 : decode cX2_learnHabits 65 = .ok (.dup, 1) := by decide +kernel
theorem dX2_learnHabits_66 : decode cX2_learnHabits 66 = .ok (.getfield 54, 3) := by decide +kernel
theorem dX2_learnHabits_69 : decode cX2_learnHabits 69 = .ok (.iconst 1, 1) := by decide +kernel
theorem dX2_learnHabits_70 : decode cX2_learnHabits 70 = .ok (.iadd, 1) := by decide +kernel
theorem dX2_learnHabits_71 : decode cX2_learnHabits 71 = .ok (.putfield 54, 3) := by decide +kernel
theorem dX2_learnHabits_74 : decode cX2_learnHabits 74 = .ok (.aload_n 0, 1) := by decide +kernel
theorem dX2_learnHabits_75 : decode cX2_learnHabits 75 = .ok (.getfield 21, 3) := by decide +kernel
theorem dX2_learnHabits_78 : decode cX2_learnHabits 78 = .ok (.iload_n 3, 1) := by decide +kernel
theorem dX2_learnHabits_79 : decode cX2_learnHabits 79 = .ok (.iaload, 1) := by decide +kernel
theorem dX2_learnHabits_80 : decode cX2_learnHabits 80 = .ok (.aload_n 0, 1) := by decide +kernel
theorem dX2_learnHabits_81 : decode cX2_learnHabits 81 = .ok (.getfield 21, 3) := by decide +kernel
theorem dX2_learnHabits_84 : decode cX2_learnHabits 84 = .ok (.iload_n 2, 1) := by decide +kernel
theorem dX2_learnHabits_85 : decode cX2_learnHabits 85 = .ok (.iaload, 1) := by decide +kernel
theorem dX2_learnHabits_86 : decode cX2_learnHabits 86 = .ok (.isub, 1) := by decide +kernel
theorem dX2_learnHabits_87 : decode cX2_learnHabits 87 = .ok (.istore 4, 2) := by decide +kernel
theorem dX2_learnHabits_89 : decode cX2_learnHabits 89 = .ok (.aload_n 0, 1) := by decide +kernel
theorem dX2_learnHabits_90 : decode cX2_learnHabits 90 = .ok (.getfield 24, 3) := by decide +kernel
theorem dX2_learnHabits_93 : decode cX2_learnHabits 93 = .ok (.aload_n 0, 1) := by decide +kernel
theorem dX2_learnHabits_94 : decode cX2_learnHabits 94 = .ok (.getfield 15, 3) := by decide +kernel
theorem dX2_learnHabits_97 : decode cX2_learnHabits 97 = .ok (.iload_n 3, 1) := by decide +kernel
theorem dX2_learnHabits_98 : decode cX2_learnHabits 98 = .ok (.iaload, 1) := by decide +kernel
theorem dX2_learnHabits_99 : decode cX2_learnHabits 99 = .ok (.iload 4, 2) := by decide +kernel
theorem dX2_learnHabits_101 : decode cX2_learnHabits 101 = .ok (.invokestatic 79, 3) := by decide +kernel
theorem dX2_learnHabits_104 : decode cX2_learnHabits 104 = .ok (.aload_n 0, 1) := by decide +kernel
theorem dX2_learnHabits_105 : decode cX2_learnHabits 105 = .ok (.getfield 24, 3) := by decide +kernel
theorem dX2_learnHabits_108 : decode cX2_learnHabits 108 = .ok (.aload_n 0, 1) := by decide +kernel
theorem dX2_learnHabits_109 : decode cX2_learnHabits 109 = .ok (.getfield 15, 3) := by decide +kernel
theorem dX2_learnHabits_112 : decode cX2_learnHabits 112 = .ok (.iload_n 2, 1) := by decide +kernel
theorem dX2_learnHabits_113 : decode cX2_learnHabits 113 = .ok (.iaload, 1) := by decide +kernel
theorem dX2_learnHabits_114 : decode cX2_learnHabits 114 = .ok (.iload 4, 2) := by decide +kernel
theorem dX2_learnHabits_116 : decode cX2_learnHabits 116 = .ok (.ineg, 1) := by decide +kernel
theorem dX2_learnHabits_117 : decode cX2_learnHabits 117 = .ok (.invokestatic 79, 3) := by decide +kernel
theorem dX2_learnHabits_120 : decode cX2_learnHabits 120 = .ok (.aload_n 0, 1) := by decide +kernel
theorem dX2_learnHabits_121 : decode cX2_learnHabits 121 = .ok (.getfield 27, 3) := by decide +kernel
theorem dX2_learnHabits_124 : decode cX2_learnHabits 124 = .ok (.aload_n 0, 1) := by decide +kernel
theorem dX2_learnHabits_125 : decode cX2_learnHabits 125 = .ok (.getfield 15, 3) := by decide +kernel
theorem dX2_learnHabits_128 : decode cX2_learnHabits 128 = .ok (.iload_n 3, 1) := by decide +kernel
theorem dX2_learnHabits_129 : decode cX2_learnHabits 129 = .ok (.iaload, 1) := by decide +kernel
theorem dX2_learnHabits_130 : decode cX2_learnHabits 130 = .ok (.iconst 1, 1) := by decide +kernel
theorem dX2_learnHabits_131 : decode cX2_learnHabits 131 = .ok (.invokestatic 79, 3) := by decide +kernel
theorem dX2_learnHabits_134 : decode cX2_learnHabits 134 = .ok (.aload_n 0, 1) := by decide +kernel
theorem dX2_learnHabits_135 : decode cX2_learnHabits 135 = .ok (.getfield 27, 3) := by decide +kernel
theorem dX2_learnHabits_138 : decode cX2_learnHabits 138 = .ok (.aload_n 0, 1) := by decide +kernel
theorem dX2_learnHabits_139 : decode cX2_learnHabits 139 = .ok (.getfield 15, 3) := by decide +kernel
theorem dX2_learnHabits_142 : decode cX2_learnHabits 142 = .ok (.iload_n 2, 1) := by decide +kernel
theorem dX2_learnHabits_143 : decode cX2_learnHabits 143 = .ok (.iaload, 1) := by decide +kernel
theorem dX2_learnHabits_144 : decode cX2_learnHabits 144 = .ok (.iconst 1, 1) := by decide +kernel
theorem dX2_learnHabits_145 : decode cX2_learnHabits 145 = .ok (.invokestatic 79, 3) := by decide +kernel
theorem dX2_learnHabits_148 : decode cX2_learnHabits 148 = .ok (.iinc 3 1, 3) := by decide +kernel
theorem dX2_learnHabits_151 : decode cX2_learnHabits 151 = .ok (.goto (-101), 3) := by decide +kernel
theorem dX2_learnHabits_154 : decode cX2_learnHabits 154 = .ok (.iinc 2 1, 3) := by decide +kernel
theorem dX2_learnHabits_157 : decode cX2_learnHabits 157 = .ok (.goto (-120), 3) := by decide +kernel
theorem dX2_learnHabits_160 : decode cX2_learnHabits 160 = .ok (.return_, 1) := by decide +kernel
set_option maxRecDepth 20000 in
theorem ggX2_areDouble_X9_at : GoodIn wsX2_areDouble wsX9_at := goodIn_r _ [6] (by decide +kernel) (by decide +kernel)
set_option maxRecDepth 20000 in
theorem gX2_areDouble_X9_at_n57 : GoodIn wsX2_areDouble (wsX9_at) := ggX2_areDouble_X9_at
theorem dX2_areDouble_0 : decode cX2_areDouble 0 = .ok (.aload_n 0, 1) := by decide +kernel
theorem dX2_areDouble_1 : decode cX2_areDouble 1 = .ok (.getfield 9, 3) := by decide +kernel
theorem dX2_areDouble_4 : decode cX2_areDouble 4 = .ok (.iload_n 1, 1) := by decide +kernel
theorem dX2_areDouble_5 : decode cX2_areDouble 5 = .ok (.invokestatic 57, 3) := by decide +kernel
theorem dX2_areDouble_8 : decode cX2_areDouble 8 = .ok (.aload_n 0, 1) := by decide +kernel
theorem dX2_areDouble_9 : decode cX2_areDouble 9 = .ok (.getfield 9, 3) := by decide +kernel
theorem dX2_areDouble_12 : decode cX2_areDouble 12 = .ok (.iload_n 2, 1) := by decide +kernel
theorem dX2_areDouble_13 : decode cX2_areDouble 13 = .ok (.invokestatic 57, 3) := by decide +kernel
theorem dX2_areDouble_16 : decode cX2_areDouble 16 = .ok (.if_icmp .ne 45, 3) := by decide +kernel
theorem dX2_areDouble_19 : decode cX2_areDouble 19 = .ok (.aload_n 0, 1) := by decide +kernel
theorem dX2_areDouble_20 : decode cX2_areDouble 20 = .ok (.getfield 18, 3) := by decide +kernel
theorem dX2_areDouble_23 : decode cX2_areDouble 23 = .ok (.iload_n 1, 1) := by decide +kernel
theorem dX2_areDouble_24 : decode cX2_areDouble 24 = .ok (.invokestatic 57, 3) := by decide +kernel
theorem dX2_areDouble_27 : decode cX2_areDouble 27 = .ok (.aload_n 0, 1) := by decide +kernel
theorem dX2_areDouble_28 : decode cX2_areDouble 28 = .ok (.getfield 18, 3) := by decide +kernel
theorem dX2_areDouble_31 : decode cX2_areDouble 31 = .ok (.iload_n 2, 1) := by decide +kernel
theorem dX2_areDouble_32 : decode cX2_areDouble 32 = .ok (.invokestatic 57, 3) := by decide +kernel
theorem dX2_areDouble_35 : decode cX2_areDouble 35 = .ok (.if_icmp .ne 26, 3) := by decide +kernel
theorem dX2_areDouble_38 : decode cX2_areDouble 38 = .ok (.aload_n 0, 1) := by decide +kernel
theorem dX2_areDouble_39 : decode cX2_areDouble 39 = .ok (.getfield 15, 3) := by decide +kernel
theorem dX2_areDouble_42 : decode cX2_areDouble 42 = .ok (.iload_n 1, 1) := by decide +kernel
theorem dX2_areDouble_43 : decode cX2_areDouble 43 = .ok (.invokestatic 57, 3) := by decide +kernel
theorem dX2_areDouble_46 : decode cX2_areDouble 46 = .ok (.aload_n 0, 1) := by decide +kernel
theorem dX2_areDouble_47 : decode cX2_areDouble 47 = .ok (.getfield 15, 3) := by decide +kernel
theorem dX2_areDouble_50 : decode cX2_areDouble 50 = .ok (.iload_n 2, 1) := by decide +kernel
theorem dX2_areDouble_51 : decode cX2_areDouble 51 = .ok (.invokestatic 57, 3) := by decide +kernel
theorem dX2_areDouble_54 : decode cX2_areDouble 54 = .ok (.if_icmp .eq 7, 3) := by decide +kernel
theorem dX2_areDouble_57 : decode cX2_areDouble 57 = .ok (.iconst 1, 1) := by decide +kernel
theorem dX2_areDouble_58 : decode cX2_areDouble 58 = .ok (.goto 4, 3) := by decide +kernel
theorem dX2_areDouble_61 : decode cX2_areDouble 61 = .ok (.iconst 0, 1) := by decide +kernel
theorem dX2_areDouble_62 : decode cX2_areDouble 62 = .ok (.ireturn, 1) := by decide +kernel
set_option maxRecDepth 20000 in
theorem ggX2_countFor_X9_isBelow : GoodIn wsX2_countFor wsX9_isBelow := goodIn_r _ [3] (by decide +kernel) (by decide +kernel)
set_option maxRecDepth 20000 in
theorem gX2_countFor_X9_isBelow_n37 : GoodIn wsX2_countFor (wsX9_isBelow) := ggX2_countFor_X9_isBelow
theorem dX2_countFor_0 : decode cX2_countFor 0 = .ok (.iload_n 1, 1) := by decide +kernel
theorem dX2_countFor_1 : decode cX2_countFor 1 = .ok (.aload_n 0, 1) := by decide +kernel
theorem dX2_countFor_2 : decode cX2_countFor 2 = .ok (.arraylength, 1) := by decide +kernel
theorem dX2_countFor_3 : decode cX2_countFor 3 = .ok (.invokestatic 37, 3) := by decide +kernel
theorem dX2_countFor_6 : decode cX2_countFor 6 = .ok (.ifCond .eq 10, 3) := by decide +kernel
theorem dX2_countFor_9 : decode cX2_countFor 9 = .ok (.aload_n 0, 1) := by decide +kernel
theorem dX2_countFor_10 : decode cX2_countFor 10 = .ok (.iload_n 1, 1) := by decide +kernel
theorem dX2_countFor_11 : decode cX2_countFor 11 = .ok (.dup2, 1) := by decide +kernel
theorem dX2_countFor_12 : decode cX2_countFor 12 = .ok (.iaload, 1) := by decide +kernel
theorem dX2_countFor_13 : decode cX2_countFor 13 = .ok (.iload_n 2, 1) := by decide +kernel
theorem dX2_countFor_14 : decode cX2_countFor 14 = .ok (.iadd, 1) := by decide +kernel
theorem dX2_countFor_15 : decode cX2_countFor 15 = .ok (.iastore, 1) := by decide +kernel
theorem dX2_countFor_16 : decode cX2_countFor 16 = .ok (.return_, 1) := by decide +kernel
set_option maxRecDepth 20000 in
theorem ggX3_init_X7_init : GoodIn wsX3_init wsX7_init := goodIn_r _ [18, 19, 2, 3, 4, 20, 21, 22, 23, 38, 39, 40, 41, 42] (by decide +kernel) (by decide +kernel)
set_option maxRecDepth 20000 in
theorem gX3_init_X7_init_n26 : GoodIn wsX3_init (wsX7_init) := ggX3_init_X7_init
set_option maxRecDepth 20000 in
theorem ggX3_init_J7_fill_53178 : GoodIn wsX3_init wsJ7_fill_53178 := goodIn_r _ [27] (by decide +kernel) (by decide +kernel)
set_option maxRecDepth 20000 in
theorem gX3_init_J7_fill_53178 : GoodIn wsX3_init (va_wsS RX3 44 yJ7_fill_53178 wsJ7_fill_53178) := goodIn_app (goodIn_of _ (by decide +kernel)) ggX3_init_J7_fill_53178
theorem dX3_init_0 : decode cX3_init 0 = .ok (.aload_n 0, 1) := by decide +kernel
theorem dX3_init_1 : decode cX3_init 1 = .ok (.invokespecial 3, 3) := by decide +kernel
theorem dX3_init_4 : decode cX3_init 4 = .ok (.aload_n 0, 1) := by decide +kernel
theorem dX3_init_5 : decode cX3_init 5 = .ok (.bipush 30, 2) := by decide +kernel
theorem dX3_init_7 : decode cX3_init 7 = .ok (.newarray .int, 2) := by decide +kernel
theorem dX3_init_9 : decode cX3_init 9 = .ok (.putfield 9, 3) := by decide +kernel
theorem dX3_init_12 : decode cX3_init 12 = .ok (.aload_n 0, 1) := by decide +kernel
theorem dX3_init_13 : decode cX3_init 13 = .ok (.bipush 30, 2) := by decide +kernel
theorem dX3_init_15 : decode cX3_init 15 = .ok (.newarray .int, 2) := by decide +kernel
theorem dX3_init_17 : decode cX3_init 17 = .ok (.putfield 15, 3) := by decide +kernel
theorem dX3_init_20 : decode cX3_init 20 = .ok (.aload_n 0, 1) := by decide +kernel
theorem dX3_init_21 : decode cX3_init 21 = .ok (.bipush 30, 2) := by decide +kernel
theorem dX3_init_23 : decode cX3_init 23 = .ok (.newarray .int, 2) := by decide +kernel
theorem dX3_init_25 : decode cX3_init 25 = .ok (.putfield 18, 3) := by decide +kernel
theorem dX3_init_28 : decode cX3_init 28 = .ok (.aload_n 0, 1) := by decide +kernel
theorem dX3_init_29 : decode cX3_init 29 = .ok (.bipush 64, 2) := by decide +kernel
theorem dX3_init_31 : decode cX3_init 31 = .ok (.newarray .int, 2) := by decide +kernel
theorem dX3_init_33 : decode cX3_init 33 = .ok (.putfield 21, 3) := by decide +kernel
theorem dX3_init_36 : decode cX3_init 36 = .ok (.aload_n 0, 1) := by decide +kernel
theorem dX3_init_37 : decode cX3_init 37 = .ok (.new 24, 3) := by decide +kernel
theorem dX3_init_40 : decode cX3_init 40 = .ok (.dup, 1) := by decide +kernel
theorem dX3_init_41 : decode cX3_init 41 = .ok (.invokespecial 26, 3) := by decide +kernel
theorem dX3_init_44 : decode cX3_init 44 = .ok (.putfield 27, 3) := by decide +kernel
theorem dX3_init_47 : decode cX3_init 47 = .ok (.aload_n 0, 1) := by decide +kernel
theorem dX3_init_48 : decode cX3_init 48 = .ok (.new 24, 3) := by decide +kernel
theorem dX3_init_51 : decode cX3_init 51 = .ok (.dup, 1) := by decide +kernel
theorem dX3_init_52 : decode cX3_init 52 = .ok (.invokespecial 26, 3) := by decide +kernel
theorem dX3_init_55 : decode cX3_init 55 = .ok (.putfield 31, 3) := by decide +kernel
theorem dX3_init_58 : decode cX3_init 58 = .ok (.aload_n 0, 1) := by decide +kernel
theorem dX3_init_59 : decode cX3_init 59 = .ok (.bipush 30, 2) := by decide +kernel
theorem dX3_init_61 : decode cX3_init 61 = .ok (.newarray .int, 2) := by decide +kernel
theorem dX3_init_63 : decode cX3_init 63 = .ok (.putfield 34, 3) := by decide +kernel
theorem dX3_init_66 : decode cX3_init 66 = .ok (.aload_n 0, 1) := by decide +kernel
theorem dX3_init_67 : decode cX3_init 67 = .ok (.bipush 30, 2) := by decide +kernel
theorem dX3_init_69 : decode cX3_init 69 = .ok (.newarray .int, 2) := by decide +kernel
theorem dX3_init_71 : decode cX3_init 71 = .ok (.putfield 37, 3) := by decide +kernel
theorem dX3_init_74 : decode cX3_init 74 = .ok (.aload_n 0, 1) := by decide +kernel
theorem dX3_init_75 : decode cX3_init 75 = .ok (.bipush 50, 2) := by decide +kernel
theorem dX3_init_77 : decode cX3_init 77 = .ok (.putfield 40, 3) := by decide +kernel
theorem dX3_init_80 : decode cX3_init 80 = .ok (.aload_n 0, 1) := by decide +kernel
theorem dX3_init_81 : decode cX3_init 81 = .ok (.getfield 21, 3) := by decide +kernel
theorem dX3_init_84 : decode cX3_init 84 = .ok (.iconst 1, 1) := by decide +kernel
theorem dX3_init_85 : decode cX3_init 85 = .ok (.invokestatic 44, 3) := by decide +kernel
theorem dX3_init_88 : decode cX3_init 88 = .ok (.return_, 1) := by decide +kernel
set_option maxRecDepth 20000 in
theorem ggX3_addBlock_X9_isBelow : GoodIn wsX3_addBlock wsX9_isBelow := goodIn_r _ [7] (by decide +kernel) (by decide +kernel)
set_option maxRecDepth 20000 in
theorem gX3_addBlock_X9_isBelow_n53 : GoodIn wsX3_addBlock (wsX9_isBelow) := ggX3_addBlock_X9_isBelow
theorem dX3_addBlock_0 : decode cX3_addBlock 0 = .ok (.aload_n 0, 1) := by decide +kernel
theorem dX3_addBlock_1 : decode cX3_addBlock 1 = .ok (.getfield 50, 3) := by decide +kernel
theorem dX3_addBlock_4 : decode cX3_addBlock 4 = .ok (.bipush 30, 2) := by decide +kernel
theorem dX3_addBlock_6 : decode cX3_addBlock 6 = .ok (.invokestatic 53, 3) := by decide +kernel
theorem dX3_addBlock_9 : decode cX3_addBlock 9 = .ok (.ifCond .ne 7, 3) := by decide +kernel
theorem dX3_addBlock_12 : decode cX3_addBlock 12 = .ok (.sipush (-1004), 3) := by decide +kernel
theorem dX3_addBlock_15 : decode cX3_addBlock 15 = .ok (.ireturn, 1) := by decide +kernel
theorem dX3_addBlock_16 : decode cX3_addBlock 16 = .ok (.aload_n 0, 1) := by decide +kernel
theorem dX3_addBlock_17 : decode cX3_addBlock 17 = .ok (.getfield 9, 3) := by decide +kernel
theorem dX3_addBlock_20 : decode cX3_addBlock 20 = .ok (.aload_n 0, 1) := by decide +kernel
theorem dX3_addBlock_21 : decode cX3_addBlock 21 = .ok (.getfield 50, 3) := by decide +kernel
theorem dX3_addBlock_24 : decode cX3_addBlock 24 = .ok (.iload_n 1, 1) := by decide +kernel
theorem dX3_addBlock_25 : decode cX3_addBlock 25 = .ok (.iastore, 1) := by decide +kernel
theorem dX3_addBlock_26 : decode cX3_addBlock 26 = .ok (.aload_n 0, 1) := by decide +kernel
theorem dX3_addBlock_27 : decode cX3_addBlock 27 = .ok (.getfield 15, 3) := by decide +kernel
theorem dX3_addBlock_30 : decode cX3_addBlock 30 = .ok (.aload_n 0, 1) := by decide +kernel
theorem dX3_addBlock_31 : decode cX3_addBlock 31 = .ok (.getfield 50, 3) := by decide +kernel
theorem dX3_addBlock_34 : decode cX3_addBlock 34 = .ok (.iload_n 2, 1) := by decide +kernel
theorem dX3_addBlock_35 : decode cX3_addBlock 35 = .ok (.iastore, 1) := by decide +kernel
theorem dX3_addBlock_36 : decode cX3_addBlock 36 = .ok (.aload_n 0, 1) := by decide +kernel
theorem dX3_addBlock_37 : decode cX3_addBlock 37 = .ok (.getfield 18, 3) := by decide +kernel
theorem dX3_addBlock_40 : decode cX3_addBlock 40 = .ok (.aload_n 0, 1) := by decide +kernel
theorem dX3_addBlock_41 : decode cX3_addBlock 41 = .ok (.getfield 50, 3) := by decide +kernel
theorem dX3_addBlock_44 : decode cX3_addBlock 44 = .ok (.iload_n 3, 1) := by decide +kernel
theorem dX3_addBlock_45 : decode cX3_addBlock 45 = .ok (.iastore, 1) := by decide +kernel
theorem dX3_addBlock_46 : decode cX3_addBlock 46 = .ok (.aload_n 0, 1) := by decide +kernel
theorem dX3_addBlock_47 : decode cX3_addBlock 47 = .ok (.dup, 1) := by decide +kernel
theorem dX3_addBlock_48 : decode cX3_addBlock 48 = .ok (.getfield 50, 3) := by decide +kernel
theorem dX3_addBlock_51 : decode cX3_addBlock 51 = .ok (.iconst 1, 1) := by decide +kernel
theorem dX3_addBlock_52 : decode cX3_addBlock 52 = .ok (.iadd, 1) := by decide +kernel
theorem dX3_addBlock_53 : decode cX3_addBlock 53 = .ok (.putfield 50, 3) := by decide +kernel
theorem dX3_addBlock_56 : decode cX3_addBlock 56 = .ok (.aload_n 0, 1) := by decide +kernel
theorem dX3_addBlock_57 : decode cX3_addBlock 57 = .ok (.getfield 50, 3) := by decide +kernel
theorem dX3_addBlock_60 : decode cX3_addBlock 60 = .ok (.iconst 1, 1) := by decide +kernel
theorem dX3_addBlock_61 : decode cX3_addBlock 61 = .ok (.isub, 1) := by decide +kernel
theorem dX3_addBlock_62 : decode cX3_addBlock 62 = .ok (.ireturn, 1) := by decide +kernel
set_option maxRecDepth 20000 in
theorem ggX3_hasBlock_X9_isBelow : GoodIn wsX3_hasBlock wsX9_isBelow := goodIn_r _ [4] (by decide +kernel) (by decide +kernel)
set_option maxRecDepth 20000 in
theorem gX3_hasBlock_X9_isBelow_n53 : GoodIn wsX3_hasBlock (wsX9_isBelow) := ggX3_hasBlock_X9_isBelow
theorem dX3_hasBlock_0 : decode cX3_hasBlock 0 = .ok (.iload_n 1, 1) := by decide +kernel
theorem dX3_hasBlock_1 : decode cX3_hasBlock 1 = .ok (.aload_n 0, 1) := by decide +kernel
theorem dX3_hasBlock_2 : decode cX3_hasBlock 2 = .ok (.getfield 50, 3) := by decide +kernel
theorem dX3_hasBlock_5 : decode cX3_hasBlock 5 = .ok (.invokestatic 53, 3) := by decide +kernel
theorem dX3_hasBlock_8 : decode cX3_hasBlock 8 = .ok (.ireturn, 1) := by decide +kernel
theorem dX3_hasBlocks_0 : decode cX3_hasBlocks 0 = .ok (.iload_n 1, 1) := by decide +kernel
theorem dX3_hasBlocks_1 : decode cX3_hasBlocks 1 = .ok (.ifCond .eq 16, 3) := by decide +kernel
theorem dX3_hasBlocks_4 : decode cX3_hasBlocks 4 = .ok (.iload_n 1, 1) := by decide +kernel
theorem dX3_hasBlocks_5 : decode cX3_hasBlocks 5 = .ok (.aload_n 0, 1) := by decide +kernel
theorem dX3_hasBlocks_6 : decode cX3_hasBlocks 6 = .ok (.getfield 50, 3) := by decide +kernel
theorem dX3_hasBlocks_9 : decode cX3_hasBlocks 9 = .ok (.iushr, 1) := by decide +kernel
theorem dX3_hasBlocks_10 : decode cX3_hasBlocks 10 = .ok (.ifCond .ne 7, 3) := by decide +kernel
theorem dX3_hasBlocks_13 : decode cX3_hasBlocks 13 = .ok (.iconst 1, 1) := by decide +kernel
theorem dX3_hasBlocks_14 : decode cX3_hasBlocks 14 = .ok (.goto 4, 3) := by decide +kernel
theorem dX3_hasBlocks_17 : decode cX3_hasBlocks 17 = .ok (.iconst 0, 1) := by decide +kernel
theorem dX3_hasBlocks_18 : decode cX3_hasBlocks 18 = .ok (.ireturn, 1) := by decide +kernel
set_option maxRecDepth 20000 in
theorem ggX3_stoneOf_X9_at : GoodIn wsX3_stoneOf wsX9_at := goodIn_r _ [4] (by decide +kernel) (by decide +kernel)
set_option maxRecDepth 20000 in
theorem gX3_stoneOf_X9_at_n57 : GoodIn wsX3_stoneOf (wsX9_at) := ggX3_stoneOf_X9_at
theorem dX3_stoneOf_0 : decode cX3_stoneOf 0 = .ok (.aload_n 0, 1) := by decide +kernel
theorem dX3_stoneOf_1 : decode cX3_stoneOf 1 = .ok (.getfield 9, 3) := by decide +kernel
theorem dX3_stoneOf_4 : decode cX3_stoneOf 4 = .ok (.iload_n 1, 1) := by decide +kernel
theorem dX3_stoneOf_5 : decode cX3_stoneOf 5 = .ok (.invokestatic 57, 3) := by decide +kernel
theorem dX3_stoneOf_8 : decode cX3_stoneOf 8 = .ok (.ireturn, 1) := by decide +kernel
set_option maxRecDepth 20000 in
theorem ggX3_laidOf_X9_at : GoodIn wsX3_laidOf wsX9_at := goodIn_r _ [4] (by decide +kernel) (by decide +kernel)
set_option maxRecDepth 20000 in
theorem gX3_laidOf_X9_at_n57 : GoodIn wsX3_laidOf (wsX9_at) := ggX3_laidOf_X9_at
theorem dX3_laidOf_0 : decode cX3_laidOf 0 = .ok (.aload_n 0, 1) := by decide +kernel
theorem dX3_laidOf_1 : decode cX3_laidOf 1 = .ok (.getfield 15, 3) := by decide +kernel
theorem dX3_laidOf_4 : decode cX3_laidOf 4 = .ok (.iload_n 1, 1) := by decide +kernel
theorem dX3_laidOf_5 : decode cX3_laidOf 5 = .ok (.invokestatic 57, 3) := by decide +kernel
theorem dX3_laidOf_8 : decode cX3_laidOf 8 = .ok (.ireturn, 1) := by decide +kernel
set_option maxRecDepth 20000 in
theorem ggX3_deepOf_X9_at : GoodIn wsX3_deepOf wsX9_at := goodIn_r _ [4] (by decide +kernel) (by decide +kernel)
set_option maxRecDepth 20000 in
theorem gX3_deepOf_X9_at_n57 : GoodIn wsX3_deepOf (wsX9_at) := ggX3_deepOf_X9_at
theorem dX3_deepOf_0 : decode cX3_deepOf 0 = .ok (.aload_n 0, 1) := by decide +kernel
theorem dX3_deepOf_1 : decode cX3_deepOf 1 = .ok (.getfield 18, 3) := by decide +kernel
theorem dX3_deepOf_4 : decode cX3_deepOf 4 = .ok (.iload_n 1, 1) := by decide +kernel
theorem dX3_deepOf_5 : decode cX3_deepOf 5 = .ok (.invokestatic 57, 3) := by decide +kernel
theorem dX3_deepOf_8 : decode cX3_deepOf 8 = .ok (.ireturn, 1) := by decide +kernel
set_option maxRecDepth 20000 in
theorem ggX3_rateOf_X9_at : GoodIn wsX3_rateOf wsX9_at := goodIn_r _ [4] (by decide +kernel) (by decide +kernel)
set_option maxRecDepth 20000 in
theorem gX3_rateOf_X9_at_n57 : GoodIn wsX3_rateOf (wsX9_at) := ggX3_rateOf_X9_at
theorem dX3_rateOf_0 : decode cX3_rateOf 0 = .ok (.aload_n 0, 1) := by decide +kernel
theorem dX3_rateOf_1 : decode cX3_rateOf 1 = .ok (.getfield 21, 3) := by decide +kernel
theorem dX3_rateOf_4 : decode cX3_rateOf 4 = .ok (.iload_n 1, 1) := by decide +kernel
theorem dX3_rateOf_5 : decode cX3_rateOf 5 = .ok (.bipush 16, 2) := by decide +kernel
theorem dX3_rateOf_7 : decode cX3_rateOf 7 = .ok (.imul, 1) := by decide +kernel
theorem dX3_rateOf_8 : decode cX3_rateOf 8 = .ok (.iload_n 2, 1) := by decide +kernel
theorem dX3_rateOf_9 : decode cX3_rateOf 9 = .ok (.iadd, 1) := by decide +kernel
theorem dX3_rateOf_10 : decode cX3_rateOf 10 = .ok (.invokestatic 57, 3) := by decide +kernel
theorem dX3_rateOf_13 : decode cX3_rateOf 13 = .ok (.ireturn, 1) := by decide +kernel
set_option maxRecDepth 20000 in
theorem ggX3_changeRate_X9_at : GoodIn wsX3_changeRate wsX9_at := goodIn_r _ [4] (by decide +kernel) (by decide +kernel)
set_option maxRecDepth 20000 in
theorem gX3_changeRate_X9_at_n57 : GoodIn wsX3_changeRate (wsX9_at) := ggX3_changeRate_X9_at
set_option maxRecDepth 20000 in
theorem ggX3_changeRate_X9_isBelow : GoodIn wsX3_changeRate wsX9_isBelow := goodIn_r _ [6] (by decide +kernel) (by decide +kernel)
set_option maxRecDepth 20000 in
theorem gX3_changeRate_X9_isBelow_n53 : GoodIn wsX3_changeRate (wsX9_isBelow) := ggX3_changeRate_X9_isBelow
theorem dX3_changeRate_0 : decode cX3_changeRate 0 = .ok (.iload_n 1, 1) := by decide +kernel
theorem dX3_changeRate_1 : decode cX3_changeRate 1 = .ok (.bipush 16, 2) := by decide +kernel
theorem dX3_changeRate_3 : decode cX3_changeRate 3 = .ok (.imul, 1) := by decide +kernel
theorem dX3_changeRate_4 : decode cX3_changeRate 4 = .ok (.iload_n 2, 1) := by decide +kernel
theorem dX3_changeRate_5 : decode cX3_changeRate 5 = .ok (.iadd, 1) := by decide +kernel
theorem dX3_changeRate_6 : decode cX3_changeRate 6 = .ok (.istore 4, 2) := by decide +kernel
theorem dX3_changeRate_8 : decode cX3_changeRate 8 = .ok (.aload_n 0, 1) := by decide +kernel
theorem dX3_changeRate_9 : decode cX3_changeRate 9 = .ok (.getfield 21, 3) := by decide +kernel
theorem dX3_changeRate_12 : decode cX3_changeRate 12 = .ok (.iload 4, 2) := by decide +kernel
theorem dX3_changeRate_14 : decode cX3_changeRate 14 = .ok (.invokestatic 57, 3) := by decide +kernel
theorem dX3_changeRate_17 : decode cX3_changeRate 17 = .ok (.istore 5, 2) := by decide +kernel
theorem dX3_changeRate_19 : decode cX3_changeRate 19 = .ok (.iload 4, 2) := by decide +kernel
theorem dX3_changeRate_21 : decode cX3_changeRate 21 = .ok (.aload_n 0, 1) := by decide +kernel
theorem dX3_changeRate_22 : decode cX3_changeRate 22 = .ok (.getfield 21, 3) := by decide +kernel
theorem dX3_changeRate_25 : decode cX3_changeRate 25 = .ok (.arraylength, 1) := by decide +kernel
theorem dX3_changeRate_26 : decode cX3_changeRate 26 = .ok (.invokestatic 53, 3) := by decide +kernel
theorem dX3_changeRate_29 : decode cX3_changeRate 29 = .ok (.ifCond .eq 11, 3) := by decide +kernel
theorem dX3_changeRate_32 : decode cX3_changeRate 32 = .ok (.aload_n 0, 1) := by decide +kernel
theorem dX3_changeRate_33 : decode cX3_changeRate 33 = .ok (.getfield 21, 3) := by decide +kernel
theorem dX3_changeRate_36 : decode cX3_changeRate 36 = .ok (.iload 4, 2) := by decide +kernel
theorem dX3_changeRate_38 : decode cX3_changeRate 38 = .ok (.iload_n 3, 1) := by decide +kernel
theorem dX3_changeRate_39 : decode cX3_changeRate 39 = .ok (.iastore, 1) := by decide +kernel
theorem dX3_changeRate_40 : decode cX3_changeRate 40 = .ok (.iload 5, 2) := by decide +kernel
theorem dX3_changeRate_42 : decode cX3_changeRate 42 = .ok (.ireturn, 1) := by decide +kernel
theorem dX3_changeLimit_0 : decode cX3_changeLimit 0 = .ok (.aload_n 0, 1) := by decide +kernel
theorem dX3_changeLimit_1 : decode cX3_changeLimit 1 = .ok (.getfield 40, 3) := by decide +kernel
theorem dX3_changeLimit_4 : decode cX3_changeLimit 4 = .ok (.istore_n 2, 1) := by decide +kernel
theorem dX3_changeLimit_5 : decode cX3_changeLimit 5 = .ok (.aload_n 0, 1) := by decide +kernel
theorem dX3_changeLimit_6 : decode cX3_changeLimit 6 = .ok (.iload_n 1, 1) := by decide +kernel
theorem dX3_changeLimit_7 : decode cX3_changeLimit 7 = .ok (.putfield 40, 3) := by decide +kernel
theorem dX3_changeLimit_10 : decode cX3_changeLimit 10 = .ok (.iload_n 2, 1) := by decide +kernel
theorem dX3_changeLimit_11 : decode cX3_changeLimit 11 = .ok (.ireturn, 1) := by decide +kernel
set_option maxRecDepth 20000 in
theorem ggX3_isDanger_X3_deepOf : GoodIn wsX3_isDanger wsX3_deepOf := goodIn_r _ [6, 7, 8, 9, 10, 11, 12, 13, 14, 15, 16, 17, 18, 19, 20] (by decide +kernel) (by decide +kernel)
set_option maxRecDepth 20000 in
theorem gX3_isDanger_X3_deepOf : GoodIn wsX3_isDanger (wsV RX3 61 RX3 yX3_deepOf wsX3_deepOf) := goodIn_app (goodIn_of _ (by decide +kernel)) ggX3_isDanger_X3_deepOf
theorem dX3_isDanger_0 : decode cX3_isDanger 0 = .ok (.iload_n 2, 1) := by decide +kernel
theorem dX3_isDanger_1 : decode cX3_isDanger 1 = .ok (.bipush 100, 2) := by decide +kernel
theorem dX3_isDanger_3 : decode cX3_isDanger 3 = .ok (.imul, 1) := by decide +kernel
theorem dX3_isDanger_4 : decode cX3_isDanger 4 = .ok (.aload_n 0, 1) := by decide +kernel
theorem dX3_isDanger_5 : decode cX3_isDanger 5 = .ok (.iload_n 1, 1) := by decide +kernel
theorem dX3_isDanger_6 : decode cX3_isDanger 6 = .ok (.invokevirtual 61, 3) := by decide +kernel
theorem dX3_isDanger_9 : decode cX3_isDanger 9 = .ok (.aload_n 0, 1) := by decide +kernel
theorem dX3_isDanger_10 : decode cX3_isDanger 10 = .ok (.getfield 40, 3) := by decide +kernel
theorem dX3_isDanger_13 : decode cX3_isDanger 13 = .ok (.imul, 1) := by decide +kernel
theorem dX3_isDanger_14 : decode cX3_isDanger 14 = .ok (.if_icmp .lt 7, 3) := by decide +kernel
theorem dX3_isDanger_17 : decode cX3_isDanger 17 = .ok (.iconst 1, 1) := by decide +kernel
theorem dX3_isDanger_18 : decode cX3_isDanger 18 = .ok (.goto 4, 3) := by decide +kernel
theorem dX3_isDanger_21 : decode cX3_isDanger 21 = .ok (.iconst 0, 1) := by decide +kernel
theorem dX3_isDanger_22 : decode cX3_isDanger 22 = .ok (.ireturn, 1) := by decide +kernel
set_option maxRecDepth 20000 in
theorem ggX3_findWorst_X0_follow : GoodIn wsX3_findWorst wsX0_follow := goodIn_r _ [8, 9, 10, 11, 12, 13, 14, 15, 16, 17, 18, 19, 20, 21, 22, 23, 24, 25, 26, 27, 28, 29, 30, 31, 32, 33, 34, 35, 36, 37, 38, 39, 40, 41, 42, 43, 44, 45, 46, 47, 48, 49, 50, 51, 52, 53, 54, 55, 56, 57, 58, 59, 60, 61, 62, 63, 76, 77, 78, 79, 80, 81, 82, 83, 84, 85, 86, 87, 88, 89, 90, 91, 92, 93, 94] (by decide +kernel) (by decide +kernel)
set_option maxRecDepth 20000 in
theorem gX3_findWorst_X0_follow : GoodIn wsX3_findWorst (wsV RX3 65 RX0 yX0_follow wsX0_follow) := goodIn_app (goodIn_of _ (by decide +kernel)) ggX3_findWorst_X0_follow
set_option maxRecDepth 20000 in
theorem ggX3_findWorst_X0_lostAt : GoodIn wsX3_findWorst wsX0_lostAt := goodIn_r _ [67, 12, 41, 42, 43, 86, 87, 88, 89] (by decide +kernel) (by decide +kernel)
set_option maxRecDepth 20000 in
theorem gX3_findWorst_X0_lostAt : GoodIn wsX3_findWorst (wsV RX3 74 RX0 yX0_lostAt wsX0_lostAt) := goodIn_app (goodIn_of _ (by decide +kernel)) ggX3_findWorst_X0_lostAt
set_option maxRecDepth 20000 in
theorem ggX3_findWorst_X3_countWorseThan : GoodIn wsX3_findWorst wsX3_countWorseThan := goodIn_r _ [71, 1, 2, 72, 73, 74, 38, 75, 3, 41, 42, 43, 76, 77, 78, 79, 80, 81, 82, 83, 84, 85] (by decide +kernel) (by decide +kernel)
set_option maxRecDepth 20000 in
theorem gX3_findWorst_X3_countWorseThan : GoodIn wsX3_findWorst (wsV RX3 77 RX3 yX3_countWorseThan wsX3_countWorseThan) := goodIn_app (goodIn_of _ (by decide +kernel)) ggX3_findWorst_X3_countWorseThan
theorem dX3_findWorst_0 : decode cX3_findWorst 0 = .ok (.iconst 0, 1) := by decide +kernel
theorem dX3_findWorst_1 : decode cX3_findWorst 1 = .ok (.istore 4, 2) := by decide +kernel
theorem dX3_findWorst_3 : decode cX3_findWorst 3 = .ok (.iload 4, 2) := by decide +kernel
theorem dX3_findWorst_5 : decode cX3_findWorst 5 = .ok (.aload_n 0, 1) := by decide +kernel
theorem dX3_findWorst_6 : decode cX3_findWorst 6 = .ok (.getfield 50, 3) := by decide +kernel
theorem dX3_findWorst_9 : decode cX3_findWorst 9 = .ok (.if_icmp .ge 46, 3) := by decide +kernel
theorem dX3_findWorst_12 : decode cX3_findWorst 12 = .ok (.iload 4, 2) := by decide +kernel
theorem dX3_findWorst_14 : decode cX3_findWorst 14 = .ok (.bipush 30, 2) := by decide +kernel
theorem dX3_findWorst_16 : decode cX3_findWorst 16 = .ok (.if_icmp .ge 39, 3) := by decide +kernel
theorem dX3_findWorst_19 : decode cX3_findWorst 19 = .ok (.aload_n 1, 1) := by decide +kernel
theorem dX3_findWorst_20 : decode cX3_findWorst 20 = .ok (.aload_n 0, 1) := by decide +kernel
theorem dX3_findWorst_21 : decode cX3_findWorst 21 = .ok (.iload 4, 2) := by decide +kernel
theorem dX3_findWorst_23 : decode cX3_findWorst 23 = .ok (.invokevirtual 65, 3) := by decide +kernel
theorem dX3_findWorst_26 : decode cX3_findWorst 26 = .ok (.aload_n 0, 1) := by decide +kernel
theorem dX3_findWorst_27 : decode cX3_findWorst 27 = .ok (.getfield 34, 3) := by decide +kernel
theorem dX3_findWorst_30 : decode cX3_findWorst 30 = .ok (.iload 4, 2) := by decide +kernel
theorem dX3_findWorst_32 : decode cX3_findWorst 32 = .ok (.aload_n 1, 1) := by decide +kernel
theorem dX3_findWorst_33 : decode cX3_findWorst 33 = .ok (.getfield 71, 3) := by decide +kernel
theorem dX3_findWorst_36 : decode cX3_findWorst 36 = .ok (.iastore, 1) := by decide +kernel
theorem dX3_findWorst_37 : decode cX3_findWorst 37 = .ok (.aload_n 0, 1) := by decide +kernel
theorem dX3_findWorst_38 : decode cX3_findWorst 38 = .ok (.getfield 37, 3) := by decide +kernel
theorem dX3_findWorst_41 : decode cX3_findWorst 41 = .ok (.iload 4, 2) := by decide +kernel
theorem dX3_findWorst_43 : decode cX3_findWorst 43 = .ok (.aload_n 1, 1) := by decide +kernel
theorem dX3_findWorst_44 : decode cX3_findWorst 44 = .ok (.iload_n 2, 1) := by decide +kernel
theorem dX3_findWorst_45 : decode cX3_findWorst 45 = .ok (.invokevirtual 74, 3) := by decide +kernel
theorem dX3_findWorst_48 : decode cX3_findWorst 48 = .ok (.iastore, 1) := by decide +kernel
theorem dX3_findWorst_49 : decode cX3_findWorst 49 = .ok (.iinc 4 1, 3) := by decide +kernel
theorem dX3_findWorst_52 : decode cX3_findWorst 52 = .ok (.goto (-49), 3) := by decide +kernel
theorem dX3_findWorst_55 : decode cX3_findWorst 55 = .ok (.iconst 0, 1) := by decide +kernel
theorem dX3_findWorst_56 : decode cX3_findWorst 56 = .ok (.istore 4, 2) := by decide +kernel
theorem dX3_findWorst_58 : decode cX3_findWorst 58 = .ok (.iload 4, 2) := by decide +kernel
theorem dX3_findWorst_60 : decode cX3_findWorst 60 = .ok (.aload_n 0, 1) := by decide +kernel
theorem dX3_findWorst_61 : decode cX3_findWorst 61 = .ok (.getfield 50, 3) := by decide +kernel
theorem dX3_findWorst_64 : decode cX3_findWorst 64 = .ok (.if_icmp .ge 40, 3) := by decide +kernel
theorem dX3_findWorst_67 : decode cX3_findWorst 67 = .ok (.iload 4, 2) := by decide +kernel
theorem dX3_findWorst_69 : decode cX3_findWorst 69 = .ok (.bipush 30, 2) := by decide +kernel
theorem dX3_findWorst_71 : decode cX3_findWorst 71 = .ok (.if_icmp .ge 33, 3) := by decide +kernel
theorem dX3_findWorst_74 : decode cX3_findWorst 74 = .ok (.aload_n 0, 1) := by decide +kernel
theorem dX3_findWorst_75 : decode cX3_findWorst 75 = .ok (.getfield 34, 3) := by decide +kernel
theorem dX3_findWorst_78 : decode cX3_findWorst 78 = .ok (.iload 4, 2) := by decide +kernel
theorem dX3_findWorst_80 : decode cX3_findWorst 80 = .ok (.iaload, 1) := by decide +kernel
theorem dX3_findWorst_81 : decode cX3_findWorst 81 = .ok (.iconst (-1), 1) := by decide +kernel
theorem dX3_findWorst_82 : decode cX3_findWorst 82 = .ok (.if_icmp .eq 16, 3) := by decide +kernel
theorem dX3_findWorst_85 : decode cX3_findWorst 85 = .ok (.aload_n 0, 1) := by decide +kernel
theorem dX3_findWorst_86 : decode cX3_findWorst 86 = .ok (.iload 4, 2) := by decide +kernel
theorem dX3_findWorst_88 : decode cX3_findWorst 88 = .ok (.invokevirtual 77, 3) := by decide +kernel
theorem dX3_findWorst_91 : decode cX3_findWorst 91 = .ok (.iload_n 3, 1) := by decide +kernel
theorem dX3_findWorst_92 : decode cX3_findWorst 92 = .ok (.if_icmp .ne 6, 3) := by decide +kernel
theorem dX3_findWorst_95 : decode cX3_findWorst 95 = .ok (.iload 4, 2) := by decide +kernel
theorem dX3_findWorst_97 : decode cX3_findWorst 97 = .ok (.ireturn, 1) := by decide +kernel
theorem dX3_findWorst_98 : decode cX3_findWorst 98 = .ok (.iinc 4 1, 3) := by decide +kernel
theorem dX3_findWorst_101 : decode cX3_findWorst 101 = .ok (.goto (-43), 3) := by decide +kernel
theorem dX3_findWorst_104 : decode cX3_findWorst 104 = .ok (.iconst (-1), 1) := by decide +kernel
theorem dX3_findWorst_105 : decode cX3_findWorst 105 = .ok (.ireturn, 1) := by decide +kernel
set_option maxRecDepth 20000 in
theorem ggX3_countWorseThan_X3_isWorse : GoodIn wsX3_countWorseThan wsX3_isWorse := goodIn_r _ [7, 2, 8, 9, 10, 11, 12, 13, 14, 15, 16, 17, 18, 19, 20, 21] (by decide +kernel) (by decide +kernel)
set_option maxRecDepth 20000 in
theorem gX3_countWorseThan_X3_isWorse : GoodIn wsX3_countWorseThan (wsV RX3 80 RX3 yX3_isWorse wsX3_isWorse) := goodIn_app (goodIn_of _ (by decide +kernel)) ggX3_countWorseThan_X3_isWorse
theorem dX3_countWorseThan_0 : decode cX3_countWorseThan 0 = .ok (.iconst 0, 1) := by decide +kernel
theorem dX3_countWorseThan_1 : decode cX3_countWorseThan 1 = .ok (.istore_n 2, 1) := by decide +kernel
theorem dX3_countWorseThan_2 : decode cX3_countWorseThan 2 = .ok (.iconst 0, 1) := by decide +kernel
theorem dX3_countWorseThan_3 : decode cX3_countWorseThan 3 = .ok (.istore_n 3, 1) := by decide +kernel
theorem dX3_countWorseThan_4 : decode cX3_countWorseThan 4 = .ok (.iload_n 3, 1) := by decide +kernel
theorem dX3_countWorseThan_5 : decode cX3_countWorseThan 5 = .ok (.aload_n 0, 1) := by decide +kernel
theorem dX3_countWorseThan_6 : decode cX3_countWorseThan 6 = .ok (.getfield 50, 3) := by decide +kernel
theorem dX3_countWorseThan_9 : decode cX3_countWorseThan 9 = .ok (.if_icmp .ge 37, 3) := by decide +kernel
theorem dX3_countWorseThan_12 : decode cX3_countWorseThan 12 = .ok (.iload_n 3, 1) := by decide +kernel
theorem dX3_countWorseThan_13 : decode cX3_countWorseThan 13 = .ok (.bipush 30, 2) := by decide +kernel
theorem dX3_countWorseThan_15 : decode cX3_countWorseThan 15 = .ok (.if_icmp .ge 31, 3) := by decide +kernel
theorem dX3_countWorseThan_18 : decode cX3_countWorseThan 18 = .ok (.aload_n 0, 1) := by decide +kernel
theorem dX3_countWorseThan_19 : decode cX3_countWorseThan 19 = .ok (.getfield 34, 3) := by decide +kernel
theorem dX3_countWorseThan_22 : decode cX3_countWorseThan 22 = .ok (.iload_n 3, 1) := by decide +kernel
theorem dX3_countWorseThan_23 : decode cX3_countWorseThan 23 = .ok (.iaload, 1) := by decide +kernel
theorem dX3_countWorseThan_24 : decode cX3_countWorseThan 24 = .ok (.iconst (-1), 1) := by decide +kernel
theorem dX3_countWorseThan_25 : decode cX3_countWorseThan 25 = .ok (.if_icmp .eq 15, 3) := by decide +kernel
theorem dX3_countWorseThan_28 : decode cX3_countWorseThan 28 = .ok (.aload_n 0, 1) := by decide +kernel
theorem dX3_countWorseThan_29 : decode cX3_countWorseThan 29 = .ok (.iload_n 3, 1) := by decide +kernel
theorem dX3_countWorseThan_30 : decode cX3_countWorseThan 30 = .ok (.iload_n 1, 1) := by decide +kernel
theorem dX3_countWorseThan_31 : decode cX3_countWorseThan 31 = .ok (.invokevirtual 80, 3) := by decide +kernel
theorem dX3_countWorseThan_34 : decode cX3_countWorseThan 34 = .ok (.ifCond .eq 6, 3) := by decide +kernel
theorem dX3_countWorseThan_37 : decode cX3_countWorseThan 37 = .ok (.iinc 2 1, 3) := by decide +kernel
theorem dX3_countWorseThan_40 : decode cX3_countWorseThan 40 = .ok (.iinc 3 1, 3) := by decide +kernel
theorem dX3_countWorseThan_43 : decode cX3_countWorseThan 43 = .ok (.goto (-39), 3) := by decide +kernel
theorem dX3_countWorseThan_46 : decode cX3_countWorseThan 46 = .ok (.iload_n 2, 1) := by decide +kernel
theorem dX3_countWorseThan_47 : decode cX3_countWorseThan 47 = .ok (.ireturn, 1) := by decide +kernel
set_option maxRecDepth 20000 in
theorem ggX3_isWorse_X9_at : GoodIn wsX3_isWorse wsX9_at := goodIn_r _ [5] (by decide +kernel) (by decide +kernel)
set_option maxRecDepth 20000 in
theorem gX3_isWorse_X9_at_n57 : GoodIn wsX3_isWorse (wsX9_at) := ggX3_isWorse_X9_at
theorem dX3_isWorse_0 : decode cX3_isWorse 0 = .ok (.aload_n 0, 1) := by decide +kernel
theorem dX3_isWorse_1 : decode cX3_isWorse 1 = .ok (.getfield 34, 3) := by decide +kernel
theorem dX3_isWorse_4 : decode cX3_isWorse 4 = .ok (.iload_n 1, 1) := by decide +kernel
theorem dX3_isWorse_5 : decode cX3_isWorse 5 = .ok (.invokestatic 57, 3) := by decide +kernel
theorem dX3_isWorse_8 : decode cX3_isWorse 8 = .ok (.aload_n 0, 1) := by decide +kernel
theorem dX3_isWorse_9 : decode cX3_isWorse 9 = .ok (.getfield 34, 3) := by decide +kernel
theorem dX3_isWorse_12 : decode cX3_isWorse 12 = .ok (.iload_n 2, 1) := by decide +kernel
theorem dX3_isWorse_13 : decode cX3_isWorse 13 = .ok (.invokestatic 57, 3) := by decide +kernel
theorem dX3_isWorse_16 : decode cX3_isWorse 16 = .ok (.if_icmp .eq 28, 3) := by decide +kernel
theorem dX3_isWorse_19 : decode cX3_isWorse 19 = .ok (.aload_n 0, 1) := by decide +kernel
theorem dX3_isWorse_20 : decode cX3_isWorse 20 = .ok (.getfield 34, 3) := by decide +kernel
theorem dX3_isWorse_23 : decode cX3_isWorse 23 = .ok (.iload_n 1, 1) := by decide +kernel
theorem dX3_isWorse_24 : decode cX3_isWorse 24 = .ok (.invokestatic 57, 3) := by decide +kernel
theorem dX3_isWorse_27 : decode cX3_isWorse 27 = .ok (.aload_n 0, 1) := by decide +kernel
theorem dX3_isWorse_28 : decode cX3_isWorse 28 = .ok (.getfield 34, 3) := by decide +kernel
theorem dX3_isWorse_31 : decode cX3_isWorse 31 = .ok (.iload_n 2, 1) := by decide +kernel
theorem dX3_isWorse_32 : decode cX3_isWorse 32 = .ok (.invokestatic 57, 3) := by decide +kernel
theorem dX3_isWorse_35 : decode cX3_isWorse 35 = .ok (.if_icmp .ge 7, 3) := by decide +kernel
theorem dX3_isWorse_38 : decode cX3_isWorse 38 = .ok (.iconst 1, 1) := by decide +kernel
theorem dX3_isWorse_39 : decode cX3_isWorse 39 = .ok (.goto 4, 3) := by decide +kernel
theorem dX3_isWorse_42 : decode cX3_isWorse 42 = .ok (.iconst 0, 1) := by decide +kernel
theorem dX3_isWorse_43 : decode cX3_isWorse 43 = .ok (.ireturn, 1) := by decide +kernel
theorem dX3_isWorse_44 : decode cX3_isWorse 44 = .ok (.aload_n 0, 1) := by decide +kernel
theorem dX3_isWorse_45 : decode cX3_isWorse 45 = .ok (.getfield 37, 3) := by decide +kernel
theorem dX3_isWorse_48 : decode cX3_isWorse 48 = .ok (.iload_n 1, 1) := by decide +kernel
theorem dX3_isWorse_49 : decode cX3_isWorse 49 = .ok (.invokestatic 57, 3) := by decide +kernel
theorem dX3_isWorse_52 : decode cX3_isWorse 52 = .ok (.aload_n 0, 1) := by decide +kernel
theorem dX3_isWorse_53 : decode cX3_isWorse 53 = .ok (.getfield 37, 3) := by decide +kernel
theorem dX3_isWorse_56 : decode cX3_isWorse 56 = .ok (.iload_n 2, 1) := by decide +kernel
theorem dX3_isWorse_57 : decode cX3_isWorse 57 = .ok (.invokestatic 57, 3) := by decide +kernel
theorem dX3_isWorse_60 : decode cX3_isWorse 60 = .ok (.if_icmp .eq 28, 3) := by decide +kernel
theorem dX3_isWorse_63 : decode cX3_isWorse 63 = .ok (.aload_n 0, 1) := by decide +kernel
theorem dX3_isWorse_64 : decode cX3_isWorse 64 = .ok (.getfield 37, 3) := by decide +kernel
theorem dX3_isWorse_67 : decode cX3_isWorse 67 = .ok (.iload_n 1, 1) := by decide +kernel
theorem dX3_isWorse_68 : decode cX3_isWorse 68 = .ok (.invokestatic 57, 3) := by decide +kernel
theorem dX3_isWorse_71 : decode cX3_isWorse 71 = .ok (.aload_n 0, 1) := by decide +kernel
theorem dX3_isWorse_72 : decode cX3_isWorse 72 = .ok (.getfield 37, 3) := by decide +kernel
theorem dX3_isWorse_75 : decode cX3_isWorse 75 = .ok (.iload_n 2, 1) := by decide +kernel
theorem dX3_isWorse_76 : decode cX3_isWorse 76 = .ok (.invokestatic 57, 3) := by decide +kernel
theorem dX3_isWorse_79 : decode cX3_isWorse 79 = .ok (.if_icmp .le 7, 3) := by decide +kernel
theorem dX3_isWorse_82 : decode cX3_isWorse 82 = .ok (.iconst 1, 1) := by decide +kernel
theorem dX3_isWorse_83 : decode cX3_isWorse 83 = .ok (.goto 4, 3) := by decide +kernel
theorem dX3_isWorse_86 : decode cX3_isWorse 86 = .ok (.iconst 0, 1) := by decide +kernel
theorem dX3_isWorse_87 : decode cX3_isWorse 87 = .ok (.ireturn, 1) := by decide +kernel
theorem dX3_isWorse_88 : decode cX3_isWorse 88 = .ok (.iload_n 1, 1) := by decide +kernel
theorem dX3_isWorse_89 : decode cX3_isWorse 89 = .ok (.iload_n 2, 1) := by decide +kernel
theorem dX3_isWorse_90 : decode cX3_isWorse 90 = .ok (.if_icmp .ge 7, 3) := by decide +kernel
theorem dX3_isWorse_93 : decode cX3_isWorse 93 = .ok (.iconst 1, 1) := by decide +kernel
theorem dX3_isWorse_94 : decode cX3_isWorse 94 = .ok (.goto 4, 3) := by decide +kernel
theorem dX3_isWorse_97 : decode cX3_isWorse 97 = .ok (.iconst 0, 1) := by decide +kernel
theorem dX3_isWorse_98 : decode cX3_isWorse 98 = .ok (.ireturn, 1) := by decide +kernel
theorem dX4_init_0 : decode cX4_init 0 = .ok (.aload_n 0, 1) := by decide +kernel
theorem dX4_init_1 : decode cX4_init 1 = .ok (.invokespecial 3, 3) := by decide +kernel
theorem dX4_init_4 : decode cX4_init 4 = .ok (.aload_n 0, 1) := by decide +kernel
theorem dX4_init_5 : decode cX4_init 5 = .ok (.bipush 6, 2) := by decide +kernel
theorem dX4_init_7 : decode cX4_init 7 = .ok (.newarray .int, 2) := by decide +kernel
theorem dX4_init_9 : decode cX4_init 9 = .ok (.putfield 9, 3) := by decide +kernel
theorem dX4_init_12 : decode cX4_init 12 = .ok (.aload_n 0, 1) := by decide +kernel
theorem dX4_init_13 : decode cX4_init 13 = .ok (.bipush 24, 2) := by decide +kernel
theorem dX4_init_15 : decode cX4_init 15 = .ok (.newarray .int, 2) := by decide +kernel
theorem dX4_init_17 : decode cX4_init 17 = .ok (.putfield 15, 3) := by decide +kernel
theorem dX4_init_20 : decode cX4_init 20 = .ok (.aload_n 0, 1) := by decide +kernel
theorem dX4_init_21 : decode cX4_init 21 = .ok (.bipush 24, 2) := by decide +kernel
theorem dX4_init_23 : decode cX4_init 23 = .ok (.newarray .int, 2) := by decide +kernel
theorem dX4_init_25 : decode cX4_init 25 = .ok (.putfield 18, 3) := by decide +kernel
theorem dX4_init_28 : decode cX4_init 28 = .ok (.aload_n 0, 1) := by decide +kernel
theorem dX4_init_29 : decode cX4_init 29 = .ok (.bipush 6, 2) := by decide +kernel
theorem dX4_init_31 : decode cX4_init 31 = .ok (.newarray .int, 2) := by decide +kernel
theorem dX4_init_33 : decode cX4_init 33 = .ok (.putfield 21, 3) := by decide +kernel
theorem dX4_init_36 : decode cX4_init 36 = .ok (.aload_n 0, 1) := by decide +kernel
theorem dX4_init_37 : decode cX4_init 37 = .ok (.bipush 6, 2) := by decide +kernel
theorem dX4_init_39 : decode cX4_init 39 = .ok (.newarray .int, 2) := by decide +kernel
theorem dX4_init_41 : decode cX4_init 41 = .ok (.putfield 24, 3) := by decide +kernel
theorem dX4_init_44 : decode cX4_init 44 = .ok (.aload_n 0, 1) := by decide +kernel
theorem dX4_init_45 : decode cX4_init 45 = .ok (.bipush 6, 2) := by decide +kernel
theorem dX4_init_47 : decode cX4_init 47 = .ok (.newarray .int, 2) := by decide +kernel
theorem dX4_init_49 : decode cX4_init 49 = .ok (.putfield 27, 3) := by decide +kernel
theorem dX4_init_52 : decode cX4_init 52 = .ok (.aload_n 0, 1) := by decide +kernel
theorem dX4_init_53 : decode cX4_init 53 = .ok (.iconst 4, 1) := by decide +kernel
theorem dX4_init_54 : decode cX4_init 54 = .ok (.newarray .int, 2) := by decide +kernel
theorem dX4_init_56 : decode cX4_init 56 = .ok (.putfield 30, 3) := by decide +kernel
theorem dX4_init_59 : decode cX4_init 59 = .ok (.aload_n 0, 1) := by decide +kernel
theorem dX4_init_60 : decode cX4_init 60 = .ok (.bipush 32, 2) := by decide +kernel
theorem dX4_init_62 : decode cX4_init 62 = .ok (.newarray .int, 2) := by decide +kernel
theorem dX4_init_64 : decode cX4_init 64 = .ok (.putfield 33, 3) := by decide +kernel
theorem dX4_init_67 : decode cX4_init 67 = .ok (.return_, 1) := by decide +kernel
set_option maxRecDepth 20000 in
theorem ggX4_begin_J7_fill_53178 : GoodIn wsX4_begin wsJ7_fill_53178 := goodIn_r _ [16] (by decide +kernel) (by decide +kernel)
set_option maxRecDepth 20000 in
theorem gX4_begin_J7_fill_53178 : GoodIn wsX4_begin (va_wsS RX4 59 yJ7_fill_53178 wsJ7_fill_53178) := goodIn_app (goodIn_of _ (by decide +kernel)) ggX4_begin_J7_fill_53178
theorem dX4_begin_0 : decode cX4_begin 0 = .ok (.aload_n 0, 1) := by decide +kernel
theorem dX4_begin_1 : decode cX4_begin 1 = .ok (.iconst 0, 1) := by decide +kernel
theorem dX4_begin_2 : decode cX4_begin 2 = .ok (.putfield 36, 3) := by decide +kernel
theorem dX4_begin_5 : decode cX4_begin 5 = .ok (.aload_n 0, 1) := by decide +kernel
theorem dX4_begin_6 : decode cX4_begin 6 = .ok (.iload_n 1, 1) := by decide +kernel
theorem dX4_begin_7 : decode cX4_begin 7 = .ok (.putfield 40, 3) := by decide +kernel
theorem dX4_begin_10 : decode cX4_begin 10 = .ok (.aload_n 0, 1) := by decide +kernel
theorem dX4_begin_11 : decode cX4_begin 11 = .ok (.iload_n 2, 1) := by decide +kernel
theorem dX4_begin_12 : decode cX4_begin 12 = .ok (.iconst 4, 1) := by decide +kernel
theorem dX4_begin_13 : decode cX4_begin 13 = .ok (.invokestatic 43, 3) := by decide +kernel
theorem dX4_begin_16 : decode cX4_begin 16 = .ok (.putfield 49, 3) := by decide +kernel
theorem dX4_begin_19 : decode cX4_begin 19 = .ok (.aload_n 0, 1) := by decide +kernel
theorem dX4_begin_20 : decode cX4_begin 20 = .ok (.iload_n 3, 1) := by decide +kernel
theorem dX4_begin_21 : decode cX4_begin 21 = .ok (.putfield 52, 3) := by decide +kernel
theorem dX4_begin_24 : decode cX4_begin 24 = .ok (.aload_n 0, 1) := by decide +kernel
theorem dX4_begin_25 : decode cX4_begin 25 = .ok (.ldc 55, 2) := by decide +kernel
theorem dX4_begin_27 : decode cX4_begin 27 = .ok (.putfield 56, 3) := by decide +kernel
theorem dX4_begin_30 : decode cX4_begin 30 = .ok (.aload_n 0, 1) := by decide +kernel
theorem dX4_begin_31 : decode cX4_begin 31 = .ok (.getfield 30, 3) := by decide +kernel
theorem dX4_begin_34 : decode cX4_begin 34 = .ok (.iconst 0, 1) := by decide +kernel
theorem dX4_begin_35 : decode cX4_begin 35 = .ok (.invokestatic 59, 3) := by decide +kernel
theorem dX4_begin_38 : decode cX4_begin 38 = .ok (.aload_n 0, 1) := by decide +kernel
theorem dX4_begin_39 : decode cX4_begin 39 = .ok (.getfield 33, 3) := by decide +kernel
theorem dX4_begin_42 : decode cX4_begin 42 = .ok (.iconst 0, 1) := by decide +kernel
theorem dX4_begin_43 : decode cX4_begin 43 = .ok (.invokestatic 59, 3) := by decide +kernel
theorem dX4_begin_46 : decode cX4_begin 46 = .ok (.return_, 1) := by decide +kernel
set_option maxRecDepth 20000 in
theorem ggX4_addBlock_X9_isBelow : GoodIn wsX4_addBlock wsX9_isBelow := goodIn_r _ [10] (by decide +kernel) (by decide +kernel)
set_option maxRecDepth 20000 in
theorem gX4_addBlock_X9_isBelow_n65 : GoodIn wsX4_addBlock (wsX9_isBelow) := ggX4_addBlock_X9_isBelow
set_option maxRecDepth 20000 in
theorem ggX4_addBlock_X0_lostAt : GoodIn wsX4_addBlock wsX0_lostAt := goodIn_r _ [15, 16, 17, 9, 18, 37, 38, 39, 40] (by decide +kernel) (by decide +kernel)
set_option maxRecDepth 20000 in
theorem gX4_addBlock_X0_lostAt : GoodIn wsX4_addBlock (wsV RX4 69 RX0 yX0_lostAt wsX0_lostAt) := goodIn_app (goodIn_of _ (by decide +kernel)) ggX4_addBlock_X0_lostAt
set_option maxRecDepth 20000 in
theorem ggX4_addBlock_X0_zoneAt : GoodIn wsX4_addBlock wsX0_zoneAt := goodIn_r _ [22, 23, 17, 9, 18, 37, 38, 39, 40] (by decide +kernel) (by decide +kernel)
set_option maxRecDepth 20000 in
theorem gX4_addBlock_X0_zoneAt : GoodIn wsX4_addBlock (wsV RX4 75 RX0 yX0_zoneAt wsX0_zoneAt) := goodIn_app (goodIn_of _ (by decide +kernel)) ggX4_addBlock_X0_zoneAt
theorem dX4_addBlock_0 : decode cX4_addBlock 0 = .ok (.aload_n 0, 1) := by decide +kernel
theorem dX4_addBlock_1 : decode cX4_addBlock 1 = .ok (.getfield 36, 3) := by decide +kernel
theorem dX4_addBlock_4 : decode cX4_addBlock 4 = .ok (.bipush 6, 2) := by decide +kernel
theorem dX4_addBlock_6 : decode cX4_addBlock 6 = .ok (.invokestatic 65, 3) := by decide +kernel
theorem dX4_addBlock_9 : decode cX4_addBlock 9 = .ok (.ifCond .eq 117, 3) := by decide +kernel
theorem dX4_addBlock_12 : decode cX4_addBlock 12 = .ok (.aload_n 0, 1) := by decide +kernel
theorem dX4_addBlock_13 : decode cX4_addBlock 13 = .ok (.getfield 9, 3) := by decide +kernel
theorem dX4_addBlock_16 : decode cX4_addBlock 16 = .ok (.aload_n 0, 1) := by decide +kernel
theorem dX4_addBlock_17 : decode cX4_addBlock 17 = .ok (.getfield 36, 3) := by decide +kernel
theorem dX4_addBlock_20 : decode cX4_addBlock 20 = .ok (.iload_n 1, 1) := by decide +kernel
theorem dX4_addBlock_21 : decode cX4_addBlock 21 = .ok (.iastore, 1) := by decide +kernel
theorem dX4_addBlock_22 : decode cX4_addBlock 22 = .ok (.iconst 0, 1) := by decide +kernel
theorem dX4_addBlock_23 : decode cX4_addBlock 23 = .ok (.istore_n 3, 1) := by decide +kernel
theorem dX4_addBlock_24 : decode cX4_addBlock 24 = .ok (.iload_n 3, 1) := by decide +kernel
theorem dX4_addBlock_25 : decode cX4_addBlock 25 = .ok (.aload_n 0, 1) := by decide +kernel
theorem dX4_addBlock_26 : decode cX4_addBlock 26 = .ok (.getfield 49, 3) := by decide +kernel
theorem dX4_addBlock_29 : decode cX4_addBlock 29 = .ok (.if_icmp .ge 63, 3) := by decide +kernel
theorem dX4_addBlock_32 : decode cX4_addBlock 32 = .ok (.iload_n 3, 1) := by decide +kernel
theorem dX4_addBlock_33 : decode cX4_addBlock 33 = .ok (.iconst 4, 1) := by decide +kernel
theorem dX4_addBlock_34 : decode cX4_addBlock 34 = .ok (.if_icmp .ge 58, 3) := by decide +kernel
theorem dX4_addBlock_37 : decode cX4_addBlock 37 = .ok (.aload_n 0, 1) := by decide +kernel
theorem dX4_addBlock_38 : decode cX4_addBlock 38 = .ok (.getfield 15, 3) := by decide +kernel
theorem dX4_addBlock_41 : decode cX4_addBlock 41 = .ok (.aload_n 0, 1) := by decide +kernel
theorem dX4_addBlock_42 : decode cX4_addBlock 42 = .ok (.getfield 36, 3) := by decide +kernel
theorem dX4_addBlock_45 : decode cX4_addBlock 45 = .ok (.iconst 4, 1) := by decide +kernel
theorem dX4_addBlock_46 : decode cX4_addBlock 46 = .ok (.imul, 1) := by decide +kernel
theorem dX4_addBlock_47 : decode cX4_addBlock 47 = .ok (.iload_n 3, 1) := by decide +kernel
theorem dX4_addBlock_48 : decode cX4_addBlock 48 = .ok (.iadd, 1) := by decide +kernel
theorem dX4_addBlock_49 : decode cX4_addBlock 49 = .ok (.bipush 10, 2) := by decide +kernel
theorem dX4_addBlock_51 : decode cX4_addBlock 51 = .ok (.aload_n 2, 1) := by decide +kernel
theorem dX4_addBlock_52 : decode cX4_addBlock 52 = .ok (.aload_n 0, 1) := by decide +kernel
theorem dX4_addBlock_53 : decode cX4_addBlock 53 = .ok (.getfield 40, 3) := by decide +kernel
theorem dX4_addBlock_56 : decode cX4_addBlock 56 = .ok (.iload_n 3, 1) := by decide +kernel
theorem dX4_addBlock_57 : decode cX4_addBlock 57 = .ok (.iadd, 1) := by decide +kernel
theorem dX4_addBlock_58 : decode cX4_addBlock 58 = .ok (.invokevirtual 69, 3) := by decide +kernel
theorem dX4_addBlock_61 : decode cX4_addBlock 61 = .ok (.iadd, 1) := by decide +kernel
theorem dX4_addBlock_62 : decode cX4_addBlock 62 = .ok (.iastore, 1) := by decide +kernel
theorem dX4_addBlock_63 : decode cX4_addBlock 63 = .ok (.aload_n 0, 1) := by decide +kernel
theorem dX4_addBlock_64 : decode cX4_addBlock 64 = .ok (.getfield 18, 3) := by decide +kernel
theorem dX4_addBlock_67 : decode cX4_addBlock 67 = .ok (.aload_n 0, 1) := by decide +kernel
theorem dX4_addBlock_68 : decode cX4_addBlock 68 = .ok (.getfield 36, 3) := by decide +kernel
theorem dX4_addBlock_71 : decode cX4_addBlock 71 = .ok (.iconst 4, 1) := by decide +kernel
theorem dX4_addBlock_72 : decode cX4_addBlock 72 = .ok (.imul, 1) := by decide +kernel
theorem dX4_addBlock_73 : decode cX4_addBlock 73 = .ok (.iload_n 3, 1) := by decide +kernel
theorem dX4_addBlock_74 : decode cX4_addBlock 74 = .ok (.iadd, 1) := by decide +kernel
theorem dX4_addBlock_75 : decode cX4_addBlock 75 = .ok (.aload_n 2, 1) := by decide +kernel
theorem dX4_addBlock_76 : decode cX4_addBlock 76 = .ok (.aload_n 0, 1) := by decide +kernel
theorem dX4_addBlock_77 : decode cX4_addBlock 77 = .ok (.getfield 40, 3) := by decide +kernel
theorem dX4_addBlock_80 : decode cX4_addBlock 80 = .ok (.iload_n 3, 1) := by decide +kernel
theorem dX4_addBlock_81 : decode cX4_addBlock 81 = .ok (.iadd, 1) := by decide +kernel
theorem dX4_addBlock_82 : decode cX4_addBlock 82 = .ok (.invokevirtual 75, 3) := by decide +kernel
theorem dX4_addBlock_85 : decode cX4_addBlock 85 = .ok (.iastore, 1) := by decide +kernel
theorem dX4_addBlock_86 : decode cX4_addBlock 86 = .ok (.iinc 3 1, 3) := by decide +kernel
theorem dX4_addBlock_89 : decode cX4_addBlock 89 = .ok (.goto (-65), 3) := by decide +kernel
theorem dX4_addBlock_92 : decode cX4_addBlock 92 = .ok (.aload_n 0, 1) := by decide +kernel
theorem dX4_addBlock_93 : decode cX4_addBlock 93 = .ok (.getfield 21, 3) := by decide +kernel
theorem dX4_addBlock_96 : decode cX4_addBlock 96 = .ok (.aload_n 0, 1) := by decide +kernel
theorem dX4_addBlock_97 : decode cX4_addBlock 97 = .ok (.getfield 36, 3) := by decide +kernel
theorem dX4_addBlock_100 : decode cX4_addBlock 100 = .ok (.aload_n 2, 1) := by decide +kernel
theorem dX4_addBlock_101 : decode cX4_addBlock 101 = .ok (.aload_n 0, 1) := by decide +kernel
theorem dX4_addBlock_102 : decode cX4_addBlock 102 = .ok (.getfield 40, 3) := by decide +kernel
theorem dX4_addBlock_105 : decode cX4_addBlock 105 = .ok (.aload_n 0, 1) := by decide +kernel
theorem dX4_addBlock_106 : decode cX4_addBlock 106 = .ok (.getfield 49, 3) := by decide +kernel
theorem dX4_addBlock_109 : decode cX4_addBlock 109 = .ok (.iadd, 1) := by decide +kernel
theorem dX4_addBlock_110 : decode cX4_addBlock 110 = .ok (.invokevirtual 69, 3) := by decide +kernel
theorem dX4_addBlock_113 : decode cX4_addBlock 113 = .ok (.iconst 3, 1) := by decide +kernel
theorem dX4_addBlock_114 : decode cX4_addBlock 114 = .ok (.imul, 1) := by decide +kernel
theorem dX4_addBlock_115 : decode cX4_addBlock 115 = .ok (.iastore, 1) := by decide +kernel
theorem dX4_addBlock_116 : decode cX4_addBlock 116 = .ok (.aload_n 0, 1) := by decide +kernel
theorem dX4_addBlock_117 : decode cX4_addBlock 117 = .ok (.dup, 1) := by decide +kernel
theorem dX4_addBlock_118 : decode cX4_addBlock 118 = .ok (.getfield 36, 3) := by decide +kernel
theorem dX4_addBlock_121 : decode cX4_addBlock 121 = .ok (.iconst 1, 1) := by decide +kernel
theorem dX4_addBlock_122 : decode cX4_addBlock 122 = .ok (.iadd, 1) := by decide +kernel
theorem dX4_addBlock_123 : decode cX4_addBlock 123 = .ok (.putfield 36, 3) := by decide +kernel
theorem dX4_addBlock_126 : decode cX4_addBlock 126 = .ok (.return_, 1) := by decide +kernel
theorem dX4_yearOf_0 : decode cX4_yearOf 0 = .ok (.iconst 0, 1) := by decide +kernel
theorem dX4_yearOf_1 : decode cX4_yearOf 1 = .ok (.istore_n 2, 1) := by decide +kernel
theorem dX4_yearOf_2 : decode cX4_yearOf 2 = .ok (.iload_n 2, 1) := by decide +kernel
theorem dX4_yearOf_3 : decode cX4_yearOf 3 = .ok (.aload_n 0, 1) := by decide +kernel
theorem dX4_yearOf_4 : decode cX4_yearOf 4 = .ok (.getfield 36, 3) := by decide +kernel
theorem dX4_yearOf_7 : decode cX4_yearOf 7 = .ok (.if_icmp .ge 47, 3) := by decide +kernel
theorem dX4_yearOf_10 : decode cX4_yearOf 10 = .ok (.iload_n 2, 1) := by decide +kernel
theorem dX4_yearOf_11 : decode cX4_yearOf 11 = .ok (.bipush 6, 2) := by decide +kernel
theorem dX4_yearOf_13 : decode cX4_yearOf 13 = .ok (.if_icmp .ge 41, 3) := by decide +kernel
theorem dX4_yearOf_16 : decode cX4_yearOf 16 = .ok (.aload_n 0, 1) := by decide +kernel
theorem dX4_yearOf_17 : decode cX4_yearOf 17 = .ok (.getfield 9, 3) := by decide +kernel
theorem dX4_yearOf_20 : decode cX4_yearOf 20 = .ok (.iload_n 2, 1) := by decide +kernel
theorem dX4_yearOf_21 : decode cX4_yearOf 21 = .ok (.iaload, 1) := by decide +kernel
theorem dX4_yearOf_22 : decode cX4_yearOf 22 = .ok (.iload_n 1, 1) := by decide +kernel
theorem dX4_yearOf_23 : decode cX4_yearOf 23 = .ok (.if_icmp .ne 25, 3) := by decide +kernel
theorem dX4_yearOf_26 : decode cX4_yearOf 26 = .ok (.aload_n 0, 1) := by decide +kernel
theorem dX4_yearOf_27 : decode cX4_yearOf 27 = .ok (.getfield 27, 3) := by decide +kernel
theorem dX4_yearOf_30 : decode cX4_yearOf 30 = .ok (.iload_n 2, 1) := by decide +kernel
theorem dX4_yearOf_31 : decode cX4_yearOf 31 = .ok (.iaload, 1) := by decide +kernel
theorem dX4_yearOf_32 : decode cX4_yearOf 32 = .ok (.iconst (-1), 1) := by decide +kernel
theorem dX4_yearOf_33 : decode cX4_yearOf 33 = .ok (.if_icmp .eq 15, 3) := by decide +kernel
theorem dX4_yearOf_36 : decode cX4_yearOf 36 = .ok (.aload_n 0, 1) := by decide +kernel
theorem dX4_yearOf_37 : decode cX4_yearOf 37 = .ok (.getfield 40, 3) := by decide +kernel
theorem dX4_yearOf_40 : decode cX4_yearOf 40 = .ok (.aload_n 0, 1) := by decide +kernel
theorem dX4_yearOf_41 : decode cX4_yearOf 41 = .ok (.getfield 27, 3) := by decide +kernel
theorem dX4_yearOf_44 : decode cX4_yearOf 44 = .ok (.iload_n 2, 1) := by decide +kernel
theorem dX4_yearOf_45 : decode cX4_yearOf 45 = .ok (.iaload, 1) := by decide +kernel
theorem dX4_yearOf_46 : decode cX4_yearOf 46 = .ok (.iadd, 1) := by decide +kernel
theorem dX4_yearOf_47 : decode cX4_yearOf 47 = .ok (.ireturn, 1) := by decide +kernel
theorem dX4_yearOf_48 : decode cX4_yearOf 48 = .ok (.iinc 2 1, 3) := by decide +kernel
theorem dX4_yearOf_51 : decode cX4_yearOf 51 = .ok (.goto (-49), 3) := by decide +kernel
theorem dX4_yearOf_54 : decode cX4_yearOf 54 = .ok (.iconst (-1), 1) := by decide +kernel
theorem dX4_yearOf_55 : decode cX4_yearOf 55 = .ok (.ireturn, 1) := by decide +kernel
set_option maxRecDepth 20000 in
theorem ggX4_search_X4_keep : GoodIn wsX4_search wsX4_keep := goodIn_r _ [12, 1, 6, 13, 14, 15, 16, 17, 39, 40, 41, 42, 43, 44, 45, 46, 47, 48, 49, 50, 51] (by decide +kernel) (by decide +kernel)
set_option maxRecDepth 20000 in
theorem gX4_search_X4_keep : GoodIn wsX4_search (wsV RX4 78 RX4 yX4_keep wsX4_keep) := goodIn_app (goodIn_of _ (by decide +kernel)) ggX4_search_X4_keep
set_option maxRecDepth 20000 in
theorem ggX4_search_X4_doWork : GoodIn wsX4_search wsX4_doWork := goodIn_r _ [21, 22, 23, 24, 4, 6, 25, 26, 27, 28, 29, 11, 30, 31, 32, 39, 40, 41, 42, 43, 44, 45, 46, 47, 48, 49, 50, 51] (by decide +kernel) (by decide +kernel)
set_option maxRecDepth 20000 in
theorem gX4_search_X4_doWork : GoodIn wsX4_search (wsV RX4 82 RX4 yX4_doWork wsX4_doWork) := goodIn_app (goodIn_of _ (by decide +kernel)) ggX4_search_X4_doWork
set_option maxRecDepth 20000 in
theorem ggX4_search_X9_at : GoodIn wsX4_search wsX9_at := goodIn_r _ [27] (by decide +kernel) (by decide +kernel)
set_option maxRecDepth 20000 in
theorem gX4_search_X9_at_n85 : GoodIn wsX4_search (wsX9_at) := ggX4_search_X9_at
set_option maxRecDepth 20000 in
theorem ggX4_search_X4_search : GoodIn wsX4_search wsX4_search := goodIn_r _ [0, 1, 2, 3, 4, 5, 6, 7, 8, 9, 10, 11, 12, 13, 14, 15, 16, 17, 18, 19, 20, 21, 22, 23, 24, 25, 26, 27, 28, 29, 30, 31, 32, 33, 34, 35, 36, 37, 38, 39, 40, 41, 42, 43, 44, 45, 46, 47, 48, 49, 50, 51] (by decide +kernel) (by decide +kernel)
set_option maxRecDepth 20000 in
theorem gX4_search_X4_search : GoodIn wsX4_search (va_wsS RX4 89 yX4_search wsX4_search) := goodIn_app (goodIn_of _ (by decide +kernel)) ggX4_search_X4_search
set_option maxRecDepth 20000 in
theorem ggX4_search_X4_undoWork : GoodIn wsX4_search wsX4_undoWork := goodIn_r _ [38, 24, 22, 4, 25, 26, 27, 28, 29, 11, 30, 31, 32, 39, 40, 41, 42, 43, 44, 45, 46, 47, 48, 49, 50, 51] (by decide +kernel) (by decide +kernel)
set_option maxRecDepth 20000 in
theorem gX4_search_X4_undoWork : GoodIn wsX4_search (wsV RX4 93 RX4 yX4_undoWork wsX4_undoWork) := goodIn_app (goodIn_of _ (by decide +kernel)) ggX4_search_X4_undoWork
theorem dX4_search_0 : decode cX4_search 0 = .ok (.iload_n 2, 1) := by decide +kernel
theorem dX4_search_1 : decode cX4_search 1 = .ok (.aload_n 0, 1) := by decide +kernel
theorem dX4_search_2 : decode cX4_search 2 = .ok (.getfield 56, 3) := by decide +kernel
theorem dX4_search_5 : decode cX4_search 5 = .ok (.if_icmp .lt 4, 3) := by decide +kernel
theorem dX4_search_8 : decode cX4_search 8 = .ok (.return_, 1) := by decide +kernel
theorem dX4_search_9 : decode cX4_search 9 = .ok (.iload_n 1, 1) := by decide +kernel
theorem dX4_search_10 : decode cX4_search 10 = .ok (.ifCond .lt 17, 3) := by decide +kernel
theorem dX4_search_13 : decode cX4_search 13 = .ok (.iload_n 1, 1) := by decide +kernel
theorem dX4_search_14 : decode cX4_search 14 = .ok (.aload_n 0, 1) := by decide +kernel
theorem dX4_search_15 : decode cX4_search 15 = .ok (.getfield 36, 3) := by decide +kernel
theorem dX4_search_18 : decode cX4_search 18 = .ok (.if_icmp .ge 9, 3) := by decide +kernel
theorem dX4_search_21 : decode cX4_search 21 = .ok (.iload_n 1, 1) := by decide +kernel
theorem dX4_search_22 : decode cX4_search 22 = .ok (.bipush 6, 2) := by decide +kernel
theorem dX4_search_24 : decode cX4_search 24 = .ok (.if_icmp .lt 9, 3) := by decide +kernel
theorem dX4_search_27 : decode cX4_search 27 = .ok (.aload_n 0, 1) := by decide +kernel
theorem dX4_search_28 : decode cX4_search 28 = .ok (.iload_n 2, 1) := by decide +kernel
theorem dX4_search_29 : decode cX4_search 29 = .ok (.invokevirtual 78, 3) := by decide +kernel
theorem dX4_search_32 : decode cX4_search 32 = .ok (.return_, 1) := by decide +kernel
theorem dX4_search_33 : decode cX4_search 33 = .ok (.iconst 0, 1) := by decide +kernel
theorem dX4_search_34 : decode cX4_search 34 = .ok (.istore_n 3, 1) := by decide +kernel
theorem dX4_search_35 : decode cX4_search 35 = .ok (.iload_n 3, 1) := by decide +kernel
theorem dX4_search_36 : decode cX4_search 36 = .ok (.aload_n 0, 1) := by decide +kernel
theorem dX4_search_37 : decode cX4_search 37 = .ok (.getfield 49, 3) := by decide +kernel
theorem dX4_search_40 : decode cX4_search 40 = .ok (.if_icmp .ge 56, 3) := by decide +kernel
theorem dX4_search_43 : decode cX4_search 43 = .ok (.iload_n 3, 1) := by decide +kernel
theorem dX4_search_44 : decode cX4_search 44 = .ok (.iconst 4, 1) := by decide +kernel
theorem dX4_search_45 : decode cX4_search 45 = .ok (.if_icmp .ge 51, 3) := by decide +kernel
theorem dX4_search_48 : decode cX4_search 48 = .ok (.aload_n 0, 1) := by decide +kernel
theorem dX4_search_49 : decode cX4_search 49 = .ok (.iload_n 1, 1) := by decide +kernel
theorem dX4_search_50 : decode cX4_search 50 = .ok (.iload_n 3, 1) := by decide +kernel
theorem dX4_search_51 : decode cX4_search 51 = .ok (.invokevirtual 82, 3) := by decide +kernel
theorem dX4_search_54 : decode cX4_search 54 = .ok (.istore 4, 2) := by decide +kernel
theorem dX4_search_56 : decode cX4_search 56 = .ok (.aload_n 0, 1) := by decide +kernel
theorem dX4_search_57 : decode cX4_search 57 = .ok (.getfield 30, 3) := by decide +kernel
theorem dX4_search_60 : decode cX4_search 60 = .ok (.iload_n 3, 1) := by decide +kernel
theorem dX4_search_61 : decode cX4_search 61 = .ok (.invokestatic 85, 3) := by decide +kernel
theorem dX4_search_64 : decode cX4_search 64 = .ok (.aload_n 0, 1) := by decide +kernel
theorem dX4_search_65 : decode cX4_search 65 = .ok (.getfield 52, 3) := by decide +kernel
theorem dX4_search_68 : decode cX4_search 68 = .ok (.if_icmp .gt 14, 3) := by decide +kernel
theorem dX4_search_71 : decode cX4_search 71 = .ok (.aload_n 0, 1) := by decide +kernel
theorem dX4_search_72 : decode cX4_search 72 = .ok (.iload_n 1, 1) := by decide +kernel
theorem dX4_search_73 : decode cX4_search 73 = .ok (.iconst 1, 1) := by decide +kernel
theorem dX4_search_74 : decode cX4_search 74 = .ok (.iadd, 1) := by decide +kernel
theorem dX4_search_75 : decode cX4_search 75 = .ok (.iload_n 2, 1) := by decide +kernel
theorem dX4_search_76 : decode cX4_search 76 = .ok (.iload 4, 2) := by decide +kernel
theorem dX4_search_78 : decode cX4_search 78 = .ok (.iadd, 1) := by decide +kernel
theorem dX4_search_79 : decode cX4_search 79 = .ok (.invokestatic 89, 3) := by decide +kernel
theorem dX4_search_82 : decode cX4_search 82 = .ok (.aload_n 0, 1) := by decide +kernel
theorem dX4_search_83 : decode cX4_search 83 = .ok (.iload_n 1, 1) := by decide +kernel
theorem dX4_search_84 : decode cX4_search 84 = .ok (.iload_n 3, 1) := by decide +kernel
theorem dX4_search_85 : decode cX4_search 85 = .ok (.iload 4, 2) := by decide +kernel
