theorem dX0_init_0 : decode cX0_init 0 = .ok (.aload_n 0, 1) := by decide +kernel
theorem dX0_init_1 : decode cX0_init 1 = .ok (.invokespecial 3, 3) := by decide +kernel
theorem dX0_init_4 : decode cX0_init 4 = .ok (.aload_n 0, 1) := by decide +kernel
theorem dX0_init_5 : decode cX0_init 5 = .ok (.sipush 401, 3) := by decide +kernel
theorem dX0_init_8 : decode cX0_init 8 = .ok (.newarray .int, 2) := by decide +kernel
theorem dX0_init_10 : decode cX0_init 10 = .ok (.putfield 9, 3) := by decide +kernel
theorem dX0_init_13 : decode cX0_init 13 = .ok (.aload_n 0, 1) := by decide +kernel
theorem dX0_init_14 : decode cX0_init 14 = .ok (.sipush 401, 3) := by decide +kernel
theorem dX0_init_17 : decode cX0_init 17 = .ok (.newarray .int, 2) := by decide +kernel
theorem dX0_init_19 : decode cX0_init 19 = .ok (.putfield 15, 3) := by decide +kernel
theorem dX0_init_22 : decode cX0_init 22 = .ok (.aload_n 0, 1) := by decide +kernel
theorem dX0_init_23 : decode cX0_init 23 = .ok (.sipush 401, 3) := by decide +kernel
theorem dX0_init_26 : decode cX0_init 26 = .ok (.newarray .int, 2) := by decide +kernel
theorem dX0_init_28 : decode cX0_init 28 = .ok (.putfield 18, 3) := by decide +kernel
theorem dX0_init_31 : decode cX0_init 31 = .ok (.aload_n 0, 1) := by decide +kernel
theorem dX0_init_32 : decode cX0_init 32 = .ok (.iconst (-1), 1) := by decide +kernel
theorem dX0_init_33 : decode cX0_init 33 = .ok (.putfield 21, 3) := by decide +kernel
theorem dX0_init_36 : decode cX0_init 36 = .ok (.return_, 1) := by decide +kernel
set_option maxRecDepth 20000 in
theorem ggX0_follow_X7_spread : GoodIn wsX0_follow wsX7_spread := goodIn_r _ [9, 10, 11, 12, 13, 14, 15, 16, 17, 18, 19, 20, 21, 8, 22, 23, 24, 25, 26, 70, 71, 72, 73, 74] (by decide +kernel) (by decide +kernel)
set_option maxRecDepth 20000 in
theorem gX0_follow_X7_spread : GoodIn wsX0_follow (wsV RX0 31 RX7 yX7_spread wsX7_spread) := goodIn_app (goodIn_of _ (by decide +kernel)) ggX0_follow_X7_spread
set_option maxRecDepth 20000 in
theorem ggX0_follow_X3_stoneOf : GoodIn wsX0_follow wsX3_stoneOf := goodIn_r _ [31, 32, 33, 34, 35, 56, 57, 58, 59, 60, 61, 62, 63, 64, 65] (by decide +kernel) (by decide +kernel)
set_option maxRecDepth 20000 in
theorem gX0_follow_X3_stoneOf : GoodIn wsX0_follow (wsV RX0 40 RX3 yX3_stoneOf wsX3_stoneOf) := goodIn_app (goodIn_of _ (by decide +kernel)) ggX0_follow_X3_stoneOf
set_option maxRecDepth 20000 in
theorem ggX0_follow_X3_laidOf : GoodIn wsX0_follow wsX3_laidOf := goodIn_r _ [39, 40, 33, 34, 35, 56, 57, 58, 59, 60, 61, 62, 63, 64, 65] (by decide +kernel) (by decide +kernel)
set_option maxRecDepth 20000 in
theorem gX0_follow_X3_laidOf : GoodIn wsX0_follow (wsV RX0 44 RX3 yX3_laidOf wsX3_laidOf) := goodIn_app (goodIn_of _ (by decide +kernel)) ggX0_follow_X3_laidOf
set_option maxRecDepth 20000 in
theorem ggX0_follow_X3_isDanger : GoodIn wsX0_follow wsX3_isDanger := goodIn_r _ [44, 45, 46, 47, 48, 30, 49, 50, 33, 34, 35, 56, 57, 58, 59, 60, 61, 62, 63, 64, 65] (by decide +kernel) (by decide +kernel)
set_option maxRecDepth 20000 in
theorem gX0_follow_X3_isDanger : GoodIn wsX0_follow (wsV RX0 47 RX3 yX3_isDanger wsX3_isDanger) := goodIn_app (goodIn_of _ (by decide +kernel)) ggX0_follow_X3_isDanger
set_option maxRecDepth 20000 in
theorem ggX0_follow_X3_rateOf : GoodIn wsX0_follow wsX3_rateOf := goodIn_r _ [54, 55, 33, 34, 35, 56, 57, 58, 59, 60, 61, 62, 63, 64, 65] (by decide +kernel) (by decide +kernel)
set_option maxRecDepth 20000 in
theorem gX0_follow_X3_rateOf : GoodIn wsX0_follow (wsV RX0 51 RX3 yX3_rateOf wsX3_rateOf) := goodIn_app (goodIn_of _ (by decide +kernel)) ggX0_follow_X3_rateOf
theorem dX0_follow_0 : decode cX0_follow 0 = .ok (.aload_n 1, 1) := by decide +kernel
theorem dX0_follow_1 : decode cX0_follow 1 = .ok (.getfield 25, 3) := by decide +kernel
theorem dX0_follow_4 : decode cX0_follow 4 = .ok (.iload_n 2, 1) := by decide +kernel
theorem dX0_follow_5 : decode cX0_follow 5 = .ok (.aload_n 0, 1) := by decide +kernel
theorem dX0_follow_6 : decode cX0_follow 6 = .ok (.getfield 9, 3) := by decide +kernel
theorem dX0_follow_9 : decode cX0_follow 9 = .ok (.invokevirtual 31, 3) := by decide +kernel
theorem dX0_follow_12 : decode cX0_follow 12 = .ok (.aload_n 1, 1) := by decide +kernel
theorem dX0_follow_13 : decode cX0_follow 13 = .ok (.getfield 37, 3) := by decide +kernel
theorem dX0_follow_16 : decode cX0_follow 16 = .ok (.iload_n 2, 1) := by decide +kernel
theorem dX0_follow_17 : decode cX0_follow 17 = .ok (.aload_n 0, 1) := by decide +kernel
theorem dX0_follow_18 : decode cX0_follow 18 = .ok (.getfield 15, 3) := by decide +kernel
theorem dX0_follow_21 : decode cX0_follow 21 = .ok (.invokevirtual 31, 3) := by decide +kernel
theorem dX0_follow_24 : decode cX0_follow 24 = .ok (.aload_n 1, 1) := by decide +kernel
theorem dX0_follow_25 : decode cX0_follow 25 = .ok (.iload_n 2, 1) := by decide +kernel
theorem dX0_follow_26 : decode cX0_follow 26 = .ok (.invokevirtual 40, 3) := by decide +kernel
theorem dX0_follow_29 : decode cX0_follow 29 = .ok (.istore_n 3, 1) := by decide +kernel
theorem dX0_follow_30 : decode cX0_follow 30 = .ok (.aload_n 1, 1) := by decide +kernel
theorem dX0_follow_31 : decode cX0_follow 31 = .ok (.iload_n 2, 1) := by decide +kernel
theorem dX0_follow_32 : decode cX0_follow 32 = .ok (.invokevirtual 44, 3) := by decide +kernel
theorem dX0_follow_35 : decode cX0_follow 35 = .ok (.istore 4, 2) := by decide +kernel
theorem dX0_follow_37 : decode cX0_follow 37 = .ok (.iconst 0, 1) := by decide +kernel
theorem dX0_follow_38 : decode cX0_follow 38 = .ok (.istore 5, 2) := by decide +kernel
theorem dX0_follow_40 : decode cX0_follow 40 = .ok (.aload_n 0, 1) := by decide +kernel
theorem dX0_follow_41 : decode cX0_follow 41 = .ok (.iconst (-1), 1) := by decide +kernel
theorem dX0_follow_42 : decode cX0_follow 42 = .ok (.putfield 21, 3) := by decide +kernel
theorem dX0_follow_45 : decode cX0_follow 45 = .ok (.iconst 0, 1) := by decide +kernel
theorem dX0_follow_46 : decode cX0_follow 46 = .ok (.istore 6, 2) := by decide +kernel
theorem dX0_follow_48 : decode cX0_follow 48 = .ok (.iload 6, 2) := by decide +kernel
theorem dX0_follow_50 : decode cX0_follow 50 = .ok (.sipush 401, 3) := by decide +kernel
theorem dX0_follow_53 : decode cX0_follow 53 = .ok (.if_icmp .ge 79, 3) := by decide +kernel
theorem dX0_follow_56 : decode cX0_follow 56 = .ok (.aload_n 0, 1) := by decide +kernel
theorem dX0_follow_57 : decode cX0_follow 57 = .ok (.getfield 18, 3) := by decide +kernel
theorem dX0_follow_60 : decode cX0_follow 60 = .ok (.iload 6, 2) := by decide +kernel
theorem dX0_follow_62 : decode cX0_follow 62 = .ok (.iload 5, 2) := by decide +kernel
theorem dX0_follow_64 : decode cX0_follow 64 = .ok (.iastore, 1) := by decide +kernel
theorem dX0_follow_65 : decode cX0_follow 65 = .ok (.aload_n 0, 1) := by decide +kernel
theorem dX0_follow_66 : decode cX0_follow 66 = .ok (.getfield 21, 3) := by decide +kernel
theorem dX0_follow_69 : decode cX0_follow 69 = .ok (.iconst (-1), 1) := by decide +kernel
theorem dX0_follow_70 : decode cX0_follow 70 = .ok (.if_icmp .ne 19, 3) := by decide +kernel
theorem dX0_follow_73 : decode cX0_follow 73 = .ok (.aload_n 1, 1) := by decide +kernel
theorem dX0_follow_74 : decode cX0_follow 74 = .ok (.iload_n 2, 1) := by decide +kernel
theorem dX0_follow_75 : decode cX0_follow 75 = .ok (.iload 5, 2) := by decide +kernel
theorem dX0_follow_77 : decode cX0_follow 77 = .ok (.invokevirtual 47, 3) := by decide +kernel
theorem dX0_follow_80 : decode cX0_follow 80 = .ok (.ifCond .eq 9, 3) := by decide +kernel
theorem dX0_follow_83 : decode cX0_follow 83 = .ok (.aload_n 0, 1) := by decide +kernel
theorem dX0_follow_84 : decode cX0_follow 84 = .ok (.iload 6, 2) := by decide +kernel
theorem dX0_follow_86 : decode cX0_follow 86 = .ok (.putfield 21, 3) := by decide +kernel
theorem dX0_follow_89 : decode cX0_follow 89 = .ok (.iload 6, 2) := by decide +kernel
theorem dX0_follow_91 : decode cX0_follow 91 = .ok (.iload 4, 2) := by decide +kernel
theorem dX0_follow_93 : decode cX0_follow 93 = .ok (.if_icmp .lt 33, 3) := by decide +kernel
theorem dX0_follow_96 : decode cX0_follow 96 = .ok (.iload 5, 2) := by decide +kernel
theorem dX0_follow_98 : decode cX0_follow 98 = .ok (.aload_n 1, 1) := by decide +kernel
theorem dX0_follow_99 : decode cX0_follow 99 = .ok (.iload_n 3, 1) := by decide +kernel
theorem dX0_follow_100 : decode cX0_follow 100 = .ok (.aload_n 0, 1) := by decide +kernel
theorem dX0_follow_101 : decode cX0_follow 101 = .ok (.getfield 9, 3) := by decide +kernel
theorem dX0_follow_104 : decode cX0_follow 104 = .ok (.iload 6, 2) := by decide +kernel
theorem dX0_follow_106 : decode cX0_follow 106 = .ok (.iaload, 1) := by decide +kernel
theorem dX0_follow_107 : decode cX0_follow 107 = .ok (.bipush 16, 2) := by decide +kernel
theorem dX0_follow_109 : decode cX0_follow 109 = .ok (.irem, 1) := by decide +kernel
theorem dX0_follow_110 : decode cX0_follow 110 = .ok (.invokevirtual 51, 3) := by decide +kernel
theorem dX0_follow_113 : decode cX0_follow 113 = .ok (.iconst 1, 1) := by decide +kernel
theorem dX0_follow_114 : decode cX0_follow 114 = .ok (.aload_n 0, 1) := by decide +kernel
theorem dX0_follow_115 : decode cX0_follow 115 = .ok (.getfield 15, 3) := by decide +kernel
theorem dX0_follow_118 : decode cX0_follow 118 = .ok (.iload 6, 2) := by decide +kernel
theorem dX0_follow_120 : decode cX0_follow 120 = .ok (.iaload, 1) := by decide +kernel
theorem dX0_follow_121 : decode cX0_follow 121 = .ok (.iadd, 1) := by decide +kernel
theorem dX0_follow_122 : decode cX0_follow 122 = .ok (.imul, 1) := by decide +kernel
theorem dX0_follow_123 : decode cX0_follow 123 = .ok (.iadd, 1) := by decide +kernel
theorem dX0_follow_124 : decode cX0_follow 124 = .ok (.istore 5, 2) := by decide +kernel
theorem dX0_follow_126 : decode cX0_follow 126 = .ok (.iinc 6 1, 3) := by decide +kernel
theorem dX0_follow_129 : decode cX0_follow 129 = .ok (.goto (-81), 3) := by decide +kernel
theorem dX0_follow_132 : decode cX0_follow 132 = .ok (.return_, 1) := by decide +kernel
set_option maxRecDepth 20000 in
theorem ggX0_sideAt_X9_at : GoodIn wsX0_sideAt wsX9_at := goodIn_r _ [4] (by decide +kernel) (by decide +kernel)
set_option maxRecDepth 20000 in
theorem gX0_sideAt_X9_at_n55 : GoodIn wsX0_sideAt (wsX9_at) := ggX0_sideAt_X9_at
theorem dX0_sideAt_0 : decode cX0_sideAt 0 = .ok (.aload_n 0, 1) := by decide +kernel
theorem dX0_sideAt_1 : decode cX0_sideAt 1 = .ok (.getfield 9, 3) := by decide +kernel
theorem dX0_sideAt_4 : decode cX0_sideAt 4 = .ok (.iload_n 1, 1) := by decide +kernel
theorem dX0_sideAt_5 : decode cX0_sideAt 5 = .ok (.invokestatic 55, 3) := by decide +kernel
theorem dX0_sideAt_8 : decode cX0_sideAt 8 = .ok (.bipush 16, 2) := by decide +kernel
theorem dX0_sideAt_10 : decode cX0_sideAt 10 = .ok (.irem, 1) := by decide +kernel
theorem dX0_sideAt_11 : decode cX0_sideAt 11 = .ok (.iconst 4, 1) := by decide +kernel
theorem dX0_sideAt_12 : decode cX0_sideAt 12 = .ok (.idiv, 1) := by decide +kernel
theorem dX0_sideAt_13 : decode cX0_sideAt 13 = .ok (.ireturn, 1) := by decide +kernel
set_option maxRecDepth 20000 in
theorem ggX0_wetAt_X9_at : GoodIn wsX0_wetAt wsX9_at := goodIn_r _ [4] (by decide +kernel) (by decide +kernel)
set_option maxRecDepth 20000 in
theorem gX0_wetAt_X9_at_n55 : GoodIn wsX0_wetAt (wsX9_at) := ggX0_wetAt_X9_at
theorem dX0_wetAt_0 : decode cX0_wetAt 0 = .ok (.aload_n 0, 1) := by decide +kernel
theorem dX0_wetAt_1 : decode cX0_wetAt 1 = .ok (.getfield 9, 3) := by decide +kernel
theorem dX0_wetAt_4 : decode cX0_wetAt 4 = .ok (.iload_n 1, 1) := by decide +kernel
theorem dX0_wetAt_5 : decode cX0_wetAt 5 = .ok (.invokestatic 55, 3) := by decide +kernel
theorem dX0_wetAt_8 : decode cX0_wetAt 8 = .ok (.iconst 4, 1) := by decide +kernel
theorem dX0_wetAt_9 : decode cX0_wetAt 9 = .ok (.irem, 1) := by decide +kernel
theorem dX0_wetAt_10 : decode cX0_wetAt 10 = .ok (.ireturn, 1) := by decide +kernel
set_option maxRecDepth 20000 in
theorem ggX0_zoneAt_X9_at : GoodIn wsX0_zoneAt wsX9_at := goodIn_r _ [4] (by decide +kernel) (by decide +kernel)
set_option maxRecDepth 20000 in
theorem gX0_zoneAt_X9_at_n55 : GoodIn wsX0_zoneAt (wsX9_at) := ggX0_zoneAt_X9_at
theorem dX0_zoneAt_0 : decode cX0_zoneAt 0 = .ok (.aload_n 0, 1) := by decide +kernel
theorem dX0_zoneAt_1 : decode cX0_zoneAt 1 = .ok (.getfield 9, 3) := by decide +kernel
theorem dX0_zoneAt_4 : decode cX0_zoneAt 4 = .ok (.iload_n 1, 1) := by decide +kernel
theorem dX0_zoneAt_5 : decode cX0_zoneAt 5 = .ok (.invokestatic 55, 3) := by decide +kernel
theorem dX0_zoneAt_8 : decode cX0_zoneAt 8 = .ok (.bipush 16, 2) := by decide +kernel
theorem dX0_zoneAt_10 : decode cX0_zoneAt 10 = .ok (.idiv, 1) := by decide +kernel
theorem dX0_zoneAt_11 : decode cX0_zoneAt 11 = .ok (.ireturn, 1) := by decide +kernel
set_option maxRecDepth 20000 in
theorem ggX0_harmAt_X9_at : GoodIn wsX0_harmAt wsX9_at := goodIn_r _ [4] (by decide +kernel) (by decide +kernel)
set_option maxRecDepth 20000 in
theorem gX0_harmAt_X9_at_n55 : GoodIn wsX0_harmAt (wsX9_at) := ggX0_harmAt_X9_at
theorem dX0_harmAt_0 : decode cX0_harmAt 0 = .ok (.aload_n 0, 1) := by decide +kernel
theorem dX0_harmAt_1 : decode cX0_harmAt 1 = .ok (.getfield 15, 3) := by decide +kernel
theorem dX0_harmAt_4 : decode cX0_harmAt 4 = .ok (.iload_n 1, 1) := by decide +kernel
theorem dX0_harmAt_5 : decode cX0_harmAt 5 = .ok (.invokestatic 55, 3) := by decide +kernel
theorem dX0_harmAt_8 : decode cX0_harmAt 8 = .ok (.ireturn, 1) := by decide +kernel
set_option maxRecDepth 20000 in
theorem ggX0_lostAt_X9_at : GoodIn wsX0_lostAt wsX9_at := goodIn_r _ [4] (by decide +kernel) (by decide +kernel)
set_option maxRecDepth 20000 in
theorem gX0_lostAt_X9_at_n55 : GoodIn wsX0_lostAt (wsX9_at) := ggX0_lostAt_X9_at
theorem dX0_lostAt_0 : decode cX0_lostAt 0 = .ok (.aload_n 0, 1) := by decide +kernel
theorem dX0_lostAt_1 : decode cX0_lostAt 1 = .ok (.getfield 18, 3) := by decide +kernel
theorem dX0_lostAt_4 : decode cX0_lostAt 4 = .ok (.iload_n 1, 1) := by decide +kernel
theorem dX0_lostAt_5 : decode cX0_lostAt 5 = .ok (.invokestatic 55, 3) := by decide +kernel
theorem dX0_lostAt_8 : decode cX0_lostAt 8 = .ok (.ireturn, 1) := by decide +kernel
theorem dX1_init_0 : decode cX1_init 0 = .ok (.aload_n 0, 1) := by decide +kernel
theorem dX1_init_1 : decode cX1_init 1 = .ok (.invokespecial 1, 3) := by decide +kernel
theorem dX1_init_4 : decode cX1_init 4 = .ok (.aload_n 0, 1) := by decide +kernel
theorem dX1_init_5 : decode cX1_init 5 = .ok (.lconst 1, 1) := by decide +kernel
theorem dX1_init_6 : decode cX1_init 6 = .ok (.putfield 7, 3) := by decide +kernel
theorem dX1_init_9 : decode cX1_init 9 = .ok (.return_, 1) := by decide +kernel
theorem dX2_init_0 : decode cX2_init 0 = .ok (.aload_n 0, 1) := by decide +kernel
theorem dX2_init_1 : decode cX2_init 1 = .ok (.invokespecial 3, 3) := by decide +kernel
theorem dX2_init_4 : decode cX2_init 4 = .ok (.aload_n 0, 1) := by decide +kernel
theorem dX2_init_5 : decode cX2_init 5 = .ok (.bipush 80, 2) := by decide +kernel
theorem dX2_init_7 : decode cX2_init 7 = .ok (.newarray .int, 2) := by decide +kernel
theorem dX2_init_9 : decode cX2_init 9 = .ok (.putfield 9, 3) := by decide +kernel
theorem dX2_init_12 : decode cX2_init 12 = .ok (.aload_n 0, 1) := by decide +kernel
theorem dX2_init_13 : decode cX2_init 13 = .ok (.bipush 80, 2) := by decide +kernel
theorem dX2_init_15 : decode cX2_init 15 = .ok (.newarray .int, 2) := by decide +kernel
theorem dX2_init_17 : decode cX2_init 17 = .ok (.putfield 15, 3) := by decide +kernel
theorem dX2_init_20 : decode cX2_init 20 = .ok (.aload_n 0, 1) := by decide +kernel
theorem dX2_init_21 : decode cX2_init 21 = .ok (.bipush 80, 2) := by decide +kernel
theorem dX2_init_23 : decode cX2_init 23 = .ok (.newarray .int, 2) := by decide +kernel
theorem dX2_init_25 : decode cX2_init 25 = .ok (.putfield 18, 3) := by decide +kernel
theorem dX2_init_28 : decode cX2_init 28 = .ok (.aload_n 0, 1) := by decide +kernel
theorem dX2_init_29 : decode cX2_init 29 = .ok (.bipush 80, 2) := by decide +kernel
theorem dX2_init_31 : decode cX2_init 31 = .ok (.newarray .int, 2) := by decide +kernel
theorem dX2_init_33 : decode cX2_init 33 = .ok (.putfield 21, 3) := by decide +kernel
theorem dX2_init_36 : decode cX2_init 36 = .ok (.aload_n 0, 1) := by decide +kernel
theorem dX2_init_37 : decode cX2_init 37 = .ok (.iconst 4, 1) := by decide +kernel
theorem dX2_init_38 : decode cX2_init 38 = .ok (.newarray .int, 2) := by decide +kernel
theorem dX2_init_40 : decode cX2_init 40 = .ok (.putfield 24, 3) := by decide +kernel
theorem dX2_init_43 : decode cX2_init 43 = .ok (.aload_n 0, 1) := by decide +kernel
theorem dX2_init_44 : decode cX2_init 44 = .ok (.iconst 4, 1) := by decide +kernel
theorem dX2_init_45 : decode cX2_init 45 = .ok (.newarray .int, 2) := by decide +kernel
theorem dX2_init_47 : decode cX2_init 47 = .ok (.putfield 27, 3) := by decide +kernel
theorem dX2_init_50 : decode cX2_init 50 = .ok (.aload_n 0, 1) := by decide +kernel
theorem dX2_init_51 : decode cX2_init 51 = .ok (.iconst 4, 1) := by decide +kernel
theorem dX2_init_52 : decode cX2_init 52 = .ok (.newarray .int, 2) := by decide +kernel
theorem dX2_init_54 : decode cX2_init 54 = .ok (.putfield 30, 3) := by decide +kernel
theorem dX2_init_57 : decode cX2_init 57 = .ok (.return_, 1) := by decide +kernel
set_option maxRecDepth 20000 in
theorem ggX2_countDoubles_X2_learnHabits : GoodIn wsX2_countDoubles wsX2_learnHabits := goodIn_r _ [7, 8, 9, 10, 2, 11, 12, 13, 14, 15, 16, 17, 18, 19, 6, 20, 21, 22, 23, 24, 25, 26, 27, 28, 29, 30, 31, 32, 33, 34, 35, 36, 37, 38, 39, 40] (by decide +kernel) (by decide +kernel)
set_option maxRecDepth 20000 in
theorem gX2_countDoubles_X2_learnHabits : GoodIn wsX2_countDoubles (wsV RX2 50 RX2 yX2_learnHabits wsX2_learnHabits) := goodIn_app (goodIn_of _ (by decide +kernel)) ggX2_countDoubles_X2_learnHabits
theorem dX2_countDoubles_0 : decode cX2_countDoubles 0 = .ok (.aload_n 0, 1) := by decide +kernel
theorem dX2_countDoubles_1 : decode cX2_countDoubles 1 = .ok (.aload_n 0, 1) := by decide +kernel
theorem dX2_countDoubles_2 : decode cX2_countDoubles 2 = .ok (.getfield 33, 3) := by decide +kernel
theorem dX2_countDoubles_5 : decode cX2_countDoubles 5 = .ok (.invokevirtual 50, 3) := by decide +kernel
theorem dX2_countDoubles_8 : decode cX2_countDoubles 8 = .ok (.aload_n 0, 1) := by decide +kernel
theorem dX2_countDoubles_9 : decode cX2_countDoubles 9 = .ok (.getfield 54, 3) := by decide +kernel
theorem dX2_countDoubles_12 : decode cX2_countDoubles 12 = .ok (.ireturn, 1) := by decide +kernel
set_option maxRecDepth 20000 in
theorem ggX2_learnHabits_J7_fill_53178 : GoodIn wsX2_learnHabits wsJ7_fill_53178 := goodIn_r _ [10] (by decide +kernel) (by decide +kernel)
set_option maxRecDepth 20000 in
theorem gX2_learnHabits_J7_fill_53178 : GoodIn wsX2_learnHabits (va_wsS RX2 73 yJ7_fill_53178 wsJ7_fill_53178) := goodIn_app (goodIn_of _ (by decide +kernel)) ggX2_learnHabits_J7_fill_53178
set_option maxRecDepth 20000 in
theorem ggX2_learnHabits_X2_areDouble : GoodIn wsX2_learnHabits wsX2_areDouble := goodIn_r _ [15, 16, 17, 6, 18, 19, 20, 26, 27, 28, 29, 30, 31, 32, 33, 34, 35] (by decide +kernel) (by decide +kernel)
set_option maxRecDepth 20000 in
theorem gX2_learnHabits_X2_areDouble : GoodIn wsX2_learnHabits (wsV RX2 93 RX2 yX2_areDouble wsX2_areDouble) := goodIn_app (goodIn_of _ (by decide +kernel)) ggX2_learnHabits_X2_areDouble
set_option maxRecDepth 20000 in
theorem ggX2_learnHabits_X2_countFor : GoodIn wsX2_learnHabits wsX2_countFor := goodIn_r _ [23, 24, 19, 25] (by decide +kernel) (by decide +kernel)
set_option maxRecDepth 20000 in
theorem gX2_learnHabits_X2_countFor : GoodIn wsX2_learnHabits (va_wsS RX2 79 yX2_countFor wsX2_countFor) := goodIn_app (goodIn_of _ (by decide +kernel)) ggX2_learnHabits_X2_countFor
theorem dX2_learnHabits_0 : decode cX2_learnHabits 0 = .ok (.iload_n 1, 1) := by decide +kernel
theorem dX2_learnHabits_1 : decode cX2_learnHabits 1 = .ok (.aload_n 0, 1) := by decide +kernel
theorem dX2_learnHabits_2 : decode cX2_learnHabits 2 = .ok (.getfield 90, 3) := by decide +kernel
theorem dX2_learnHabits_5 : decode cX2_learnHabits 5 = .ok (.if_icmp .ne 4, 3) := by decide +kernel
theorem dX2_learnHabits_8 : decode cX2_learnHabits 8 = .ok (.return_, 1) := by decide +kernel
theorem dX2_learnHabits_9 : decode cX2_learnHabits 9 = .ok (.aload_n 0, 1) := by decide +kernel
theorem dX2_learnHabits_10 : decode cX2_learnHabits 10 = .ok (.iload_n 1, 1) := by decide +kernel
theorem dX2_learnHabits_11 : decode cX2_learnHabits 11 = .ok (.putfield 90, 3) := by decide +kernel
theorem dX2_learnHabits_14 : decode cX2_learnHabits 14 = .ok (.aload_n 0, 1) := by decide +kernel
theorem dX2_learnHabits_15 : decode cX2_learnHabits 15 = .ok (.getfield 24, 3) := by decide +kernel
theorem dX2_learnHabits_18 : decode cX2_learnHabits 18 = .ok (.iconst 0, 1) := by decide +kernel
theorem dX2_learnHabits_19 : decode cX2_learnHabits 19 = .ok (.invokestatic 73, 3) := by decide +kernel
theorem dX2_learnHabits_22 : decode cX2_learnHabits 22 = .ok (.aload_n 0, 1) := by decide +kernel
theorem dX2_learnHabits_23 : decode cX2_learnHabits 23 = .ok (.getfield 27, 3) := by decide +kernel
theorem dX2_learnHabits_26 : decode cX2_learnHabits 26 = .ok (.iconst 0, 1) := by decide +kernel
theorem dX2_learnHabits_27 : decode cX2_learnHabits 27 = .ok (.invokestatic 73, 3) := by decide +kernel
theorem dX2_learnHabits_30 : decode cX2_learnHabits 30 = .ok (.aload_n 0, 1) := by decide +kernel
theorem dX2_learnHabits_31 : decode cX2_learnHabits 31 = .ok (.iconst 0, 1) := by decide +kernel
theorem dX2_learnHabits_32 : decode cX2_learnHabits 32 = .ok (.putfield 54, 3) := by decide +kernel
theorem dX2_learnHabits_35 : decode cX2_learnHabits 35 = .ok (.iconst 0, 1) := by decide +kernel
theorem dX2_learnHabits_36 : decode cX2_learnHabits 36 = .ok (.istore_n 2, 1) := by decide +kernel
theorem dX2_learnHabits_37 : decode cX2_learnHabits 37 = .ok (.iload_n 2, 1) := by decide +kernel
theorem dX2_learnHabits_38 : decode cX2_learnHabits 38 = .ok (.iload_n 1, 1) := by decide +kernel
theorem dX2_learnHabits_39 : decode cX2_learnHabits 39 = .ok (.if_icmp .ge 121, 3) := by decide +kernel
theorem dX2_learnHabits_42 : decode cX2_learnHabits 42 = .ok (.iload_n 2, 1) := by decide +kernel
theorem dX2_learnHabits_43 : decode cX2_learnHabits 43 = .ok (.bipush 80, 2) := by decide +kernel
theorem dX2_learnHabits_45 : decode cX2_learnHabits 45 = .ok (.if_icmp .ge 115, 3) := by decide +kernel
theorem dX2_learnHabits_48 : decode cX2_learnHabits 48 = .ok (.iconst 0, 1) := by decide +kernel
theorem dX2_learnHabits_49 : decode cX2_learnHabits 49 = .ok (.istore_n 3, 1) := by decide +kernel
theorem dX2_learnHabits_50 : decode cX2_learnHabits 50 = .ok (.iload_n 3, 1) := by decide +kernel
theorem dX2_learnHabits_51 : decode cX2_learnHabits 51 = .ok (.iload_n 2, 1) := by decide +kernel
theorem dX2_learnHabits_52 : decode cX2_learnHabits 52 = .ok (.if_icmp .ge 102, 3) := by decide +kernel
theorem dX2_learnHabits_55 : decode cX2_learnHabits 55 = .ok (.aload_n 0, 1) := by decide +kernel
theorem dX2_learnHabits_56 : decode cX2_learnHabits 56 = .ok (.iload_n 3, 1) := by decide +kernel
theorem dX2_learnHabits_57 : decode cX2_learnHabits 57 = .ok (.iload_n 2, 1) := by decide +kernel
theorem dX2_learnHabits_58 : decode cX2_learnHabits 58 = .ok (.invokevirtual 93, 3) := by decide +kernel
theorem dX2_learnHabits_61 : decode cX2_learnHabits 61 = .ok (.ifCond .eq 87, 3) := by decide +kernel
theorem dX2_learnHabits_64 : decode cX2_learnHabits 64 = .ok (.aload_n 0, 1) := by decide +kernel
theorem dX2_learnHabits_65 : decode cX2_learnHabits 65 = .ok (.dup, 1) := by decide +kernel
theorem dX2_learnHabits_66 : decode cX2_learnHabits 66 = .ok (.getfield 54, 3) := by decide +kernel
theorem dX2_learnHabits_69 : decode cX2_learnHabits 69 = .ok (.iconst 1, 1) := by decide +kernel
theorem dX2_learnHabits_70 : decode cX2_learnHabits 70 = .ok (.iadd, 1) := by decide +kernel
theorem dX2_learnHabits_71 : decode cX2_learnHabits 71 = .ok (.putfield 54, 3) := by decide +kernel
theorem dX2_learnHabits_74 : decode cX2_learnHabits 74 = .ok (.aload_n 0, 1) := by decide +kernel
theorem dX2_learnHabits_75 : decode cX2_learnHabits 75 = .ok (.getfield 21, 3) := by decide +kernel
theorem dX2_learnHabits_78 : decode cX2_learnHabits 78 = .ok (.iload_n 3, 1) := by decide +kernel
theorem dX2_learnHabits_79 : decode cX2_learnHabits 79 = .ok (.iaload, 1) := by decide +kernel
theorem dX2_learnHabits_80 : decode cX2_learnHabits 80 = .ok (.aload_n 0, 1) := by decide +kernel
theorem dX2_learnHabits_81 : decode cX2_learnHabits 81 = .ok (.getfield 21, 3) := by decide +kernel
theorem dX2_learnHabits_84 : decode cX2_learnHabits 84 = .ok (.iload_n 2, 1) := by decide +kernel
theorem dX2_learnHabits_85 : decode cX2_learnHabits 85 = .ok (.iaload, 1) := by decide +kernel
theorem dX2_learnHabits_86 : decode cX2_learnHabits 86 = .ok (.isub, 1) := by decide +kernel
theorem dX2_learnHabits_87 : decode cX2_learnHabits 87 = .ok (.istore 4, 2) := by decide +kernel
theorem dX2_learnHabits_89 : decode cX2_learnHabits 89 = .ok (.aload_n 0, 1) := by decide +kernel
theorem dX2_learnHabits_90 : decode cX2_learnHabits 90 = .ok (.getfield 24, 3) := by decide +kernel
theorem dX2_learnHabits_93 : decode cX2_learnHabits 93 = .ok (.aload_n 0, 1) := by decide +kernel
theorem dX2_learnHabits_94 : decode cX2_learnHabits 94 = .ok (.getfield 15, 3) := by decide +kernel
theorem dX2_learnHabits_97 : decode cX2_learnHabits 97 = .ok (.iload_n 3, 1) := by decide +kernel
theorem dX2_learnHabits_98 : decode cX2_learnHabits 98 = .ok (.iaload, 1) := by decide +kernel
theorem dX2_learnHabits_99 : decode cX2_learnHabits 99 = .ok (.iload 4, 2) := by decide +kernel
theorem dX2_learnHabits_101 : decode cX2_learnHabits 101 = .ok (.invokestatic 79, 3) := by decide +kernel
theorem dX2_learnHabits_104 : decode cX2_learnHabits 104 = .ok (.aload_n 0, 1) := by decide +kernel
theorem dX2_learnHabits_105 : decode cX2_learnHabits 105 = .ok (.getfield 24, 3) := by decide +kernel
theorem dX2_learnHabits_108 : decode cX2_learnHabits 108 = .ok (.aload_n 0, 1) := by decide +kernel
theorem dX2_learnHabits_109 : decode cX2_learnHabits 109 = .ok (.getfield 15, 3) := by decide +kernel
theorem dX2_learnHabits_112 : decode cX2_learnHabits 112 = .ok (.iload_n 2, 1) := by decide +kernel
theorem dX2_learnHabits_113 : decode cX2_learnHabits 113 = .ok (.iaload, 1) := by decide +kernel
theorem dX2_learnHabits_114 : decode cX2_learnHabits 114 = .ok (.iload 4, 2) := by decide +kernel
theorem dX2_learnHabits_116 : decode cX2_learnHabits 116 = .ok (.ineg, 1) := by decide +kernel
theorem dX2_learnHabits_117 : decode cX2_learnHabits 117 = .ok (.invokestatic 79, 3) := by decide +kernel
theorem dX2_learnHabits_120 : decode cX2_learnHabits 120 = .ok (.aload_n 0, 1) := by decide +kernel
theorem dX2_learnHabits_121 : decode cX2_learnHabits 121 = .ok (.getfield 27, 3) := by decide +kernel
theorem dX2_learnHabits_124 : decode cX2_learnHabits 124 = .ok (.aload_n 0, 1) := by decide +kernel
theorem dX2_learnHabits_125 : decode cX2_learnHabits 125 = .ok (.getfield 15, 3) := by decide +kernel
theorem dX2_learnHabits_128 : decode cX2_learnHabits 128 = .ok (.iload_n 3, 1) := by decide +kernel
theorem dX2_learnHabits_129 : decode cX2_learnHabits 129 = .ok (.iaload, 1) := by decide +kernel
theorem dX2_learnHabits_130 : decode cX2_learnHabits 130 = .ok (.iconst 1, 1) := by decide +kernel
theorem dX2_learnHabits_131 : decode cX2_learnHabits 131 = .ok (.invokestatic 79, 3) := by decide +kernel
theorem dX2_learnHabits_134 : decode cX2_learnHabits 134 = .ok (.aload_n 0, 1) := by decide +kernel
theorem dX2_learnHabits_135 : decode cX2_learnHabits 135 = .ok (.getfield 27, 3) := by decide +kernel
theorem dX2_learnHabits_138 : decode cX2_learnHabits 138 = .ok (.aload_n 0, 1) := by decide +kernel
theorem dX2_learnHabits_139 : decode cX2_learnHabits 139 = .ok (.getfield 15, 3) := by decide +kernel
theorem dX2_learnHabits_142 : decode cX2_learnHabits 142 = .ok (.iload_n 2, 1) := by decide +kernel
theorem dX2_learnHabits_143 : decode cX2_learnHabits 143 = .ok (.iaload, 1) := by decide +kernel
theorem dX2_learnHabits_144 : decode cX2_learnHabits 144 = .ok (.iconst 1, 1) := by decide +kernel
theorem dX2_learnHabits_145 : decode cX2_learnHabits 145 = .ok (.invokestatic 79, 3) := by decide +kernel
theorem dX2_learnHabits_148 : decode cX2_learnHabits 148 = .ok (.iinc 3 1, 3) := by decide +kernel
theorem dX2_learnHabits_151 : decode cX2_learnHabits 151 = .ok (.goto (-101), 3) := by decide +kernel
theorem dX2_learnHabits_154 : decode cX2_learnHabits 154 = .ok (.iinc 2 1, 3) := by decide +kernel
theorem dX2_learnHabits_157 : decode cX2_learnHabits 157 = .ok (.goto (-120), 3) := by decide +kernel
theorem dX2_learnHabits_160 : decode cX2_learnHabits 160 = .ok (.return_, 1) := by decide +kernel
set_option maxRecDepth 20000 in
theorem ggX2_areDouble_X9_at : GoodIn wsX2_areDouble wsX9_at := goodIn_r _ [6] (by decide +kernel) (by decide +kernel)
set_option maxRecDepth 20000 in
theorem gX2_areDouble_X9_at_n57 : GoodIn wsX2_areDouble (wsX9_at) := ggX2_areDouble_X9_at
theorem dX2_areDouble_0 : decode cX2_areDouble 0 = .ok (.aload_n 0, 1) := by decide +kernel
theorem dX2_areDouble_1 : decode cX2_areDouble 1 = .ok (.getfield 9, 3) := by decide +kernel
theorem dX2_areDouble_4 : decode cX2_areDouble 4 = .ok (.iload_n 1, 1) := by decide +kernel
theorem dX2_areDouble_5 : decode cX2_areDouble 5 = .ok (.invokestatic 57, 3) := by decide +kernel
theorem dX2_areDouble_8 : decode cX2_areDouble 8 = .ok (.aload_n 0, 1) := by decide +kernel
theorem dX2_areDouble_9 : decode cX2_areDouble 9 = .ok (.getfield 9, 3) := by decide +kernel
theorem dX2_areDouble_12 : decode cX2_areDouble 12 = .ok (.iload_n 2, 1) := by decide +kernel
theorem dX2_areDouble_13 : decode cX2_areDouble 13 = .ok (.invokestatic 57, 3) := by decide +kernel
theorem dX2_areDouble_16 : decode cX2_areDouble 16 = .ok (.if_icmp .ne 45, 3) := by decide +kernel
theorem dX2_areDouble_19 : decode cX2_areDouble 19 = .ok (.aload_n 0, 1) := by decide +kernel
theorem dX2_areDouble_20 : decode cX2_areDouble 20 = .ok (.getfield 18, 3) := by decide +kernel
theorem dX2_areDouble_23 : decode cX2_areDouble 23 = .ok (.iload_n 1, 1) := by decide +kernel
theorem dX2_areDouble_24 : decode cX2_areDouble 24 = .ok (.invokestatic 57, 3) := by decide +kernel
theorem dX2_areDouble_27 : decode cX2_areDouble 27 = .ok (.aload_n 0, 1) := by decide +kernel
theorem dX2_areDouble_28 : decode cX2_areDouble 28 = .ok (.getfield 18, 3) := by decide +kernel
theorem dX2_areDouble_31 : decode cX2_areDouble 31 = .ok (.iload_n 2, 1) := by decide +kernel
theorem dX2_areDouble_32 : decode cX2_areDouble 32 = .ok (.invokestatic 57, 3) := by decide +kernel
theorem dX2_areDouble_35 : decode cX2_areDouble 35 = .ok (.if_icmp .ne 26, 3) := by decide +kernel
theorem dX2_areDouble_38 : decode cX2_areDouble 38 = .ok (.aload_n 0, 1) := by decide +kernel
theorem dX2_areDouble_39 : decode cX2_areDouble 39 = .ok (.getfield 15, 3) := by decide +kernel
theorem dX2_areDouble_42 : decode cX2_areDouble 42 = .ok (.iload_n 1, 1) := by decide +kernel
theorem dX2_areDouble_43 : decode cX2_areDouble 43 = .ok (.invokestatic 57, 3) := by decide +kernel
theorem dX2_areDouble_46 : decode cX2_areDouble 46 = .ok (.aload_n 0, 1) := by decide +kernel
theorem dX2_areDouble_47 : decode cX2_areDouble 47 = .ok (.getfield 15, 3) := by decide +kernel
theorem dX2_areDouble_50 : decode cX2_areDouble 50 = .ok (.iload_n 2, 1) := by decide +kernel
theorem dX2_areDouble_51 : decode cX2_areDouble 51 = .ok (.invokestatic 57, 3) := by decide +kernel
theorem dX2_areDouble_54 : decode cX2_areDouble 54 = .ok (.if_icmp .eq 7, 3) := by decide +kernel
theorem dX2_areDouble_57 : decode cX2_areDouble 57 = .ok (.iconst 1, 1) := by decide +kernel
theorem dX2_areDouble_58 : decode cX2_areDouble 58 = .ok (.goto 4, 3) := by decide +kernel
theorem dX2_areDouble_61 : decode cX2_areDouble 61 = .ok (.iconst 0, 1) := by decide +kernel
theorem dX2_areDouble_62 : decode cX2_areDouble 62 = .ok (.ireturn, 1) := by decide +kernel
set_option maxRecDepth 20000 in
theorem ggX2_countFor_X9_isBelow : GoodIn wsX2_countFor wsX9_isBelow := goodIn_r _ [3] (by decide +kernel) (by decide +kernel)
set_option maxRecDepth 20000 in
theorem gX2_countFor_X9_isBelow_n37 : GoodIn wsX2_countFor (wsX9_isBelow) := ggX2_countFor_X9_isBelow
theorem dX2_countFor_0 : decode cX2_countFor 0 = .ok (.iload_n 1, 1) := by decide +kernel
theorem dX2_countFor_1 : decode cX2_countFor 1 = .ok (.aload_n 0, 1) := by decide +kernel
theorem dX2_countFor_2 : decode cX2_countFor 2 = .ok (.arraylength, 1) := by decide +kernel
theorem dX2_countFor_3 : decode cX2_countFor 3 = .ok (.invokestatic 37, 3) := by decide +kernel
theorem dX2_countFor_6 : decode cX2_countFor 6 = .ok (.ifCond .eq 10, 3) := by decide +kernel
theorem dX2_countFor_9 : decode cX2_countFor 9 = .ok (.aload_n 0, 1) := by decide +kernel
theorem dX2_countFor_10 : decode cX2_countFor 10 = .ok (.iload_n 1, 1) := by decide +kernel
theorem dX2_countFor_11 : decode cX2_countFor 11 = .ok (.dup2, 1) := by decide +kernel
theorem dX2_countFor_12 : decode cX2_countFor 12 = .ok (.iaload, 1) := by decide +kernel
theorem dX2_countFor_13 : decode cX2_countFor 13 = .ok (.iload_n 2, 1) := by decide +kernel
theorem dX2_countFor_14 : decode cX2_countFor 14 = .ok (.iadd, 1) := by decide +kernel
theorem dX2_countFor_15 : decode cX2_countFor 15 = .ok (.iastore, 1) := by decide +kernel
theorem dX2_countFor_16 : decode cX2_countFor 16 = .ok (.return_, 1) := by decide +kernel
set_option maxRecDepth 20000 in
theorem ggX3_init_X7_init : GoodIn wsX3_init wsX7_init := goodIn_r _ [18, 19, 2, 3, 4, 20, 21, 22, 23, 38, 39, 40, 41, 42] (by decide +kernel) (by decide +kernel)
set_option maxRecDepth 20000 in
theorem gX3_init_X7_init_n26 : GoodIn wsX3_init (wsX7_init) := ggX3_init_X7_init
set_option maxRecDepth 20000 in
theorem ggX3_init_J7_fill_53178 : GoodIn wsX3_init wsJ7_fill_53178 := goodIn_r _ [27] (by decide +kernel) (by decide +kernel)
set_option maxRecDepth 20000 in
theorem gX3_init_J7_fill_53178 : GoodIn wsX3_init (va_wsS RX3 44 yJ7_fill_53178 wsJ7_fill_53178) := goodIn_app (goodIn_of _ (by decide +kernel)) ggX3_init_J7_fill_53178
theorem dX3_init_0 : decode cX3_init 0 = .ok (.aload_n 0, 1) := by decide +kernel
theorem dX3_init_1 : decode cX3_init 1 = .ok (.invokespecial 3, 3) := by decide +kernel
theorem dX3_init_4 : decode cX3_init 4 = .ok (.aload_n 0, 1) := by decide +kernel
theorem dX3_init_5 : decode cX3_init 5 = .ok (.bipush 30, 2) := by decide +kernel
theorem dX3_init_7 : decode cX3_init 7 = .ok (.newarray .int, 2) := by decide +kernel
theorem dX3_init_9 : decode cX3_init 9 = .ok (.putfield 9, 3) := by decide +kernel
theorem dX3_init_12 : decode cX3_init 12 = .ok (.aload_n 0, 1) := by decide +kernel
theorem dX3_init_13 : decode cX3_init 13 = .ok (.bipush 30, 2) := by decide +kernel
theorem dX3_init_15 : decode cX3_init 15 = .ok (.newarray .int, 2) := by decide +kernel
theorem dX3_init_17 : decode cX3_init 17 = .ok (.putfield 15, 3) := by decide +kernel
theorem dX3_init_20 : decode cX3_init 20 = .ok (.aload_n 0, 1) := by decide +kernel
theorem dX3_init_21 : decode cX3_init 21 = .ok (.bipush 30, 2) := by decide +kernel
theorem dX3_init_23 : decode cX3_init 23 = .ok (.newarray .int, 2) := by decide +kernel
theorem dX3_init_25 : decode cX3_init 25 = .ok (.putfield 18, 3) := by decide +kernel
theorem dX3_init_28 : decode cX3_init 28 = .ok (.aload_n 0, 1) := by decide +kernel
theorem dX3_init_29 : decode cX3_init 29 = .ok (.bipush 64, 2) := by decide +kernel
theorem dX3_init_31 : decode cX3_init 31 = .ok (.newarray .int, 2) := by decide +kernel
theorem dX3_init_33 : decode cX3_init 33 = .ok (.putfield 21, 3) := by decide +kernel
theorem dX3_init_36 : decode cX3_init 36 = .ok (.aload_n 0, 1) := by decide +kernel
theorem dX3_init_37 : decode cX3_init 37 = .ok (.new 24, 3) := by decide +kernel
theorem dX3_init_40 : decode cX3_init 40 = .ok (.dup, 1) := by decide +kernel
theorem dX3_init_41 : decode cX3_init 41 = .ok (.invokespecial 26, 3) := by decide +kernel
theorem dX3_init_44 : decode cX3_init 44 = .ok (.putfield 27, 3) := by decide +kernel
theorem dX3_init_47 : decode cX3_init 47 = .ok (.aload_n 0, 1) := by decide +kernel
theorem dX3_init_48 : decode cX3_init 48 = .ok (.new 24, 3) := by decide +kernel
theorem dX3_init_51 : decode cX3_init 51 = .ok (.dup, 1) := by decide +kernel
theorem dX3_init_52 : decode cX3_init 52 = .ok (.invokespecial 26, 3) := by decide +kernel
theorem dX3_init_55 : decode cX3_init 55 = .ok (.putfield 31, 3) := by decide +kernel
theorem dX3_init_58 : decode cX3_init 58 = .ok (.aload_n 0, 1) := by decide +kernel
theorem dX3_init_59 : decode cX3_init 59 = .ok (.bipush 30, 2) := by decide +kernel
theorem dX3_init_61 : decode cX3_init 61 = .ok (.newarray .int, 2) := by decide +kernel
theorem dX3_init_63 : decode cX3_init 63 = .ok (.putfield 34, 3) := by decide +kernel
theorem dX3_init_66 : decode cX3_init 66 = .ok (.aload_n 0, 1) := by decide +kernel
theorem dX3_init_67 : decode cX3_init 67 = .ok (.bipush 30, 2) := by decide +kernel
theorem dX3_init_69 : decode cX3_init 69 = .ok (.newarray .int, 2) := by decide +kernel
theorem dX3_init_71 : decode cX3_init 71 = .ok (.putfield 37, 3) := by decide +kernel
theorem dX3_init_74 : decode cX3_init 74 = .ok (.aload_n 0, 1) := by decide +kernel
theorem dX3_init_75 : decode cX3_init 75 = .ok (.bipush 50, 2) := by decide +kernel
theorem dX3_init_77 : decode cX3_init 77 = .ok (.putfield 40, 3) := by decide +kernel
theorem dX3_init_80 : decode cX3_init 80 = .ok (.aload_n 0, 1) := by decide +kernel
theorem dX3_init_81 : decode cX3_init 81 = .ok (.getfield 21, 3) := by decide +kernel
theorem dX3_init_84 : decode cX3_init 84 = .ok (.iconst 1, 1) := by decide +kernel
theorem dX3_init_85 : decode cX3_init 85 = .ok (.invokestatic 44, 3) := by decide +kernel
theorem dX3_init_88 : decode cX3_init 88 = .ok (.return_, 1) := by decide +kernel
set_option maxRecDepth 20000 in
theorem ggX3_addBlock_X9_isBelow : GoodIn wsX3_addBlock wsX9_isBelow := goodIn_r _ [7] (by decide +kernel) (by decide +kernel)
set_option maxRecDepth 20000 in
theorem gX3_addBlock_X9_isBelow_n53 : GoodIn wsX3_addBlock (wsX9_isBelow) := ggX3_addBlock_X9_isBelow
theorem dX3_addBlock_0 : decode cX3_addBlock 0 = .ok (.aload_n 0, 1) := by decide +kernel
theorem dX3_addBlock_1 : decode cX3_addBlock 1 = .ok (.getfield 50, 3) := by decide +kernel
theorem dX3_addBlock_4 : decode cX3_addBlock 4 = .ok (.bipush 30, 2) := by decide +kernel
theorem dX3_addBlock_6 : decode cX3_addBlock 6 = .ok (.invokestatic 53, 3) := by decide +kernel
theorem dX3_addBlock_9 : decode cX3_addBlock 9 = .ok (.ifCond .ne 7, 3) := by decide +kernel
theorem dX3_addBlock_12 : decode cX3_addBlock 12 = .ok (.sipush (-1004), 3) := by decide +kernel
theorem dX3_addBlock_15 : decode cX3_addBlock 15 = .ok (.ireturn, 1) := by decide +kernel
theorem dX3_addBlock_16 : decode cX3_addBlock 16 = .ok (.aload_n 0, 1) := by decide +kernel
theorem dX3_addBlock_17 : decode cX3_addBlock 17 = .ok (.getfield 9, 3) := by decide +kernel
theorem dX3_addBlock_20 : decode cX3_addBlock 20 = .ok (.aload_n 0, 1) := by decide +kernel
theorem dX3_addBlock_21 : decode cX3_addBlock 21 = .ok (.getfield 50, 3) := by decide +kernel
theorem dX3_addBlock_24 : decode cX3_addBlock 24 = .ok (.iload_n 1, 1) := by decide +kernel
theorem dX3_addBlock_25 : decode cX3_addBlock 25 = .ok (.iastore, 1) := by decide +kernel
theorem dX3_addBlock_26 : decode cX3_addBlock 26 = .ok (.aload_n 0, 1) := by decide +kernel
theorem dX3_addBlock_27 : decode cX3_addBlock 27 = .ok (.getfield 15, 3) := by decide +kernel
theorem dX3_addBlock_30 : decode cX3_addBlock 30 = .ok (.aload_n 0, 1) := by decide +kernel
theorem dX3_addBlock_31 : decode cX3_addBlock 31 = .ok (.getfield 50, 3) := by decide +kernel
theorem dX3_addBlock_34 : decode cX3_addBlock 34 = .ok (.iload_n 2, 1) := by decide +kernel
theorem dX3_addBlock_35 : decode cX3_addBlock 35 = .ok (.iastore, 1) := by decide +kernel
theorem dX3_addBlock_36 : decode cX3_addBlock 36 = .ok (.aload_n 0, 1) := by decide +kernel
theorem dX3_addBlock_37 : decode cX3_addBlock 37 = .ok (.getfield 18, 3) := by decide +kernel
theorem dX3_addBlock_40 : decode cX3_addBlock 40 = .ok (.aload_n 0, 1) := by decide +kernel
theorem dX3_addBlock_41 : decode cX3_addBlock 41 = .ok (.getfield 50, 3) := by decide +kernel
theorem dX3_addBlock_44 : decode cX3_addBlock 44 = .ok (.iload_n 3, 1) := by decide +kernel
theorem dX3_addBlock_45 : decode cX3_addBlock 45 = .ok (.iastore, 1) := by decide +kernel
theorem dX3_addBlock_46 : decode cX3_addBlock 46 = .ok (.aload_n 0, 1) := by decide +kernel
theorem dX3_addBlock_47 : decode cX3_addBlock 47 = .ok (.dup, 1) := by decide +kernel
theorem dX3_addBlock_48 : decode cX3_addBlock 48 = .ok (.getfield 50, 3) := by decide +kernel
theorem dX3_addBlock_51 : decode cX3_addBlock 51 = .ok (.iconst 1, 1) := by decide +kernel
theorem dX3_addBlock_52 : decode cX3_addBlock 52 = .ok (.iadd, 1) := by decide +kernel
theorem dX3_addBlock_53 : decode cX3_addBlock 53 = .ok (.putfield 50, 3) := by decide +kernel
theorem dX3_addBlock_56 : decode cX3_addBlock 56 = .ok (.aload_n 0, 1) := by decide +kernel
theorem dX3_addBlock_57 : decode cX3_addBlock 57 = .ok (.getfield 50, 3) := by decide +kernel
theorem dX3_addBlock_60 : decode cX3_addBlock 60 = .ok (.iconst 1, 1) := by decide +kernel
theorem dX3_addBlock_61 : decode cX3_addBlock 61 = .ok (.isub, 1) := by decide +kernel
theorem dX3_addBlock_62 : decode cX3_addBlock 62 = .ok (.ireturn, 1) := by decide +kernel
set_option maxRecDepth 20000 in
theorem ggX3_hasBlock_X9_isBelow : GoodIn wsX3_hasBlock wsX9_isBelow := goodIn_r _ [4] (by decide +kernel) (by decide +kernel)
set_option maxRecDepth 20000 in
theorem gX3_hasBlock_X9_isBelow_n53 : GoodIn wsX3_hasBlock (wsX9_isBelow) := ggX3_hasBlock_X9_isBelow
theorem dX3_hasBlock_0 : decode cX3_hasBlock 0 = .ok (.iload_n 1, 1) := by decide +kernel
theorem dX3_hasBlock_1 : decode cX3_hasBlock 1 = .ok (.aload_n 0, 1) := by decide +kernel
theorem dX3_hasBlock_2 : decode cX3_hasBlock 2 = .ok (.getfield 50, 3) := by decide +kernel
theorem dX3_hasBlock_5 : decode cX3_hasBlock 5 = .ok (.invokestatic 53, 3) := by decide +kernel
theorem dX3_hasBlock_8 : decode cX3_hasBlock 8 = .ok (.ireturn, 1) := by decide +kernel
set_option maxRecDepth 20000 in
theorem ggX3_stoneOf_X9_at : GoodIn wsX3_stoneOf wsX9_at := goodIn_r _ [4] (by decide +kernel) (by decide +kernel)
set_option maxRecDepth 20000 in
theorem gX3_stoneOf_X9_at_n57 : GoodIn wsX3_stoneOf (wsX9_at) := ggX3_stoneOf_X9_at
theorem dX3_stoneOf_0 : decode cX3_stoneOf 0 = .ok (.aload_n 0, 1) := by decide +kernel
theorem dX3_stoneOf_1 : decode cX3_stoneOf 1 = .ok (.getfield 9, 3) := by decide +kernel
theorem dX3_stoneOf_4 : decode cX3_stoneOf 4 = .ok (.iload_n 1, 1) := by decide +kernel
theorem dX3_stoneOf_5 : decode cX3_stoneOf 5 = .ok (.invokestatic 57, 3) := by decide +kernel
theorem dX3_stoneOf_8 : decode cX3_stoneOf 8 = .ok (.ireturn, 1) := by decide +kernel
set_option maxRecDepth 20000 in
theorem ggX3_laidOf_X9_at : GoodIn wsX3_laidOf wsX9_at := goodIn_r _ [4] (by decide +kernel) (by decide +kernel)
set_option maxRecDepth 20000 in
theorem gX3_laidOf_X9_at_n57 : GoodIn wsX3_laidOf (wsX9_at) := ggX3_laidOf_X9_at
theorem dX3_laidOf_0 : decode cX3_laidOf 0 = .ok (.aload_n 0, 1) := by decide +kernel
theorem dX3_laidOf_1 : decode cX3_laidOf 1 = .ok (.getfield 15, 3) := by decide +kernel
theorem dX3_laidOf_4 : decode cX3_laidOf 4 = .ok (.iload_n 1, 1) := by decide +kernel
theorem dX3_laidOf_5 : decode cX3_laidOf 5 = .ok (.invokestatic 57, 3) := by decide +kernel
theorem dX3_laidOf_8 : decode cX3_laidOf 8 = .ok (.ireturn, 1) := by decide +kernel
set_option maxRecDepth 20000 in
theorem ggX3_deepOf_X9_at : GoodIn wsX3_deepOf wsX9_at := goodIn_r _ [4] (by decide +kernel) (by decide +kernel)
set_option maxRecDepth 20000 in
theorem gX3_deepOf_X9_at_n57 : GoodIn wsX3_deepOf (wsX9_at) := ggX3_deepOf_X9_at
theorem dX3_deepOf_0 : decode cX3_deepOf 0 = .ok (.aload_n 0, 1) := by decide +kernel
theorem dX3_deepOf_1 : decode cX3_deepOf 1 = .ok (.getfield 18, 3) := by decide +kernel
theorem dX3_deepOf_4 : decode cX3_deepOf 4 = .ok (.iload_n 1, 1) := by decide +kernel
theorem dX3_deepOf_5 : decode cX3_deepOf 5 = .ok (.invokestatic 57, 3) := by decide +kernel
theorem dX3_deepOf_8 : decode cX3_deepOf 8 = .ok (.ireturn, 1) := by decide +kernel
set_option maxRecDepth 20000 in
theorem ggX3_rateOf_X9_at : GoodIn wsX3_rateOf wsX9_at := goodIn_r _ [4] (by decide +kernel) (by decide +kernel)
set_option maxRecDepth 20000 in
theorem gX3_rateOf_X9_at_n57 : GoodIn wsX3_rateOf (wsX9_at) := ggX3_rateOf_X9_at
theorem dX3_rateOf_0 : decode cX3_rateOf 0 = .ok (.aload_n 0, 1) := by decide +kernel
theorem dX3_rateOf_1 : decode cX3_rateOf 1 = .ok (.getfield 21, 3) := by decide +kernel
theorem dX3_rateOf_4 : decode cX3_rateOf 4 = .ok (.iload_n 1, 1) := by decide +kernel
theorem dX3_rateOf_5 : decode cX3_rateOf 5 = .ok (.bipush 16, 2) := by decide +kernel
theorem dX3_rateOf_7 : decode cX3_rateOf 7 = .ok (.imul, 1) := by decide +kernel
theorem dX3_rateOf_8 : decode cX3_rateOf 8 = .ok (.iload_n 2, 1) := by decide +kernel
theorem dX3_rateOf_9 : decode cX3_rateOf 9 = .ok (.iadd, 1) := by decide +kernel
theorem dX3_rateOf_10 : decode cX3_rateOf 10 = .ok (.invokestatic 57, 3) := by decide +kernel
theorem dX3_rateOf_13 : decode cX3_rateOf 13 = .ok (.ireturn, 1) := by decide +kernel
set_option maxRecDepth 20000 in
theorem ggX3_changeRate_X9_at : GoodIn wsX3_changeRate wsX9_at := goodIn_r _ [4] (by decide +kernel) (by decide +kernel)
set_option maxRecDepth 20000 in
theorem gX3_changeRate_X9_at_n57 : GoodIn wsX3_changeRate (wsX9_at) := ggX3_changeRate_X9_at
set_option maxRecDepth 20000 in
theorem ggX3_changeRate_X9_isBelow : GoodIn wsX3_changeRate wsX9_isBelow := goodIn_r _ [6] (by decide +kernel) (by decide +kernel)
set_option maxRecDepth 20000 in
theorem gX3_changeRate_X9_isBelow_n53 : GoodIn wsX3_changeRate (wsX9_isBelow) := ggX3_changeRate_X9_isBelow
theorem dX3_changeRate_0 : decode cX3_changeRate 0 = .ok (.iload_n 1, 1) := by decide +kernel
theorem dX3_changeRate_1 : decode cX3_changeRate 1 = .ok (.bipush 16, 2) := by decide +kernel
theorem dX3_changeRate_3 : decode cX3_changeRate 3 = .ok (.imul, 1) := by decide +kernel
theorem dX3_changeRate_4 : decode cX3_changeRate 4 = .ok (.iload_n 2, 1) := by decide +kernel
theorem dX3_changeRate_5 : decode cX3_changeRate 5 = .ok (.iadd, 1) := by decide +kernel
theorem dX3_changeRate_6 : decode cX3_changeRate 6 = .ok (.istore 4, 2) := by decide +kernel
theorem dX3_changeRate_8 : decode cX3_changeRate 8 = .ok (.aload_n 0, 1) := by decide +kernel
theorem dX3_changeRate_9 : decode cX3_changeRate 9 = .ok (.getfield 21, 3) := by decide +kernel
theorem dX3_changeRate_12 : decode cX3_changeRate 12 = .ok (.iload 4, 2) := by decide +kernel
theorem dX3_changeRate_14 : decode cX3_changeRate 14 = .ok (.invokestatic 57, 3) := by decide +kernel
theorem dX3_changeRate_17 : decode cX3_changeRate 17 = .ok (.istore 5, 2) := by decide +kernel
theorem dX3_changeRate_19 : decode cX3_changeRate 19 = .ok (.iload 4, 2) := by decide +kernel
theorem dX3_changeRate_21 : decode cX3_changeRate 21 = .ok (.aload_n 0, 1) := by decide +kernel
theorem dX3_changeRate_22 : decode cX3_changeRate 22 = .ok (.getfield 21, 3) := by decide +kernel
theorem dX3_changeRate_25 : decode cX3_changeRate 25 = .ok (.arraylength, 1) := by decide +kernel
theorem dX3_changeRate_26 : decode cX3_changeRate 26 = .ok (.invokestatic 53, 3) := by decide +kernel
theorem dX3_changeRate_29 : decode cX3_changeRate 29 = .ok (.ifCond .eq 11, 3) := by decide +kernel
theorem dX3_changeRate_32 : decode cX3_changeRate 32 = .ok (.aload_n 0, 1) := by decide +kernel
theorem dX3_changeRate_33 : decode cX3_changeRate 33 = .ok (.getfield 21, 3) := by decide +kernel
theorem dX3_changeRate_36 : decode cX3_changeRate 36 = .ok (.iload 4, 2) := by decide +kernel
theorem dX3_changeRate_38 : decode cX3_changeRate 38 = .ok (.iload_n 3, 1) := by decide +kernel
theorem dX3_changeRate_39 : decode cX3_changeRate 39 = .ok (.iastore, 1) := by decide +kernel
theorem dX3_changeRate_40 : decode cX3_changeRate 40 = .ok (.iload 5, 2) := by decide +kernel
theorem dX3_changeRate_42 : decode cX3_changeRate 42 = .ok (.ireturn, 1) := by decide +kernel
theorem dX3_changeLimit_0 : decode cX3_changeLimit 0 = .ok (.aload_n 0, 1) := by decide +kernel
theorem dX3_changeLimit_1 : decode cX3_changeLimit 1 = .ok (.getfield 40, 3) := by decide +kernel
theorem dX3_changeLimit_4 : decode cX3_changeLimit 4 = .ok (.istore_n 2, 1) := by decide +kernel
theorem dX3_changeLimit_5 : decode cX3_changeLimit 5 = .ok (.aload_n 0, 1) := by decide +kernel
theorem dX3_changeLimit_6 : decode cX3_changeLimit 6 = .ok (.iload_n 1, 1) := by decide +kernel
theorem dX3_changeLimit_7 : decode cX3_changeLimit 7 = .ok (.putfield 40, 3) := by decide +kernel
theorem dX3_changeLimit_10 : decode cX3_changeLimit 10 = .ok (.iload_n 2, 1) := by decide +kernel
theorem dX3_changeLimit_11 : decode cX3_changeLimit 11 = .ok (.ireturn, 1) := by decide +kernel
set_option maxRecDepth 20000 in
theorem ggX3_isDanger_X3_deepOf : GoodIn wsX3_isDanger wsX3_deepOf := goodIn_r _ [6, 7, 8, 9, 10, 11, 12, 13, 14, 15, 16, 17, 18, 19, 20] (by decide +kernel) (by decide +kernel)
set_option maxRecDepth 20000 in
theorem gX3_isDanger_X3_deepOf : GoodIn wsX3_isDanger (wsV RX3 61 RX3 yX3_deepOf wsX3_deepOf) := goodIn_app (goodIn_of _ (by decide +kernel)) ggX3_isDanger_X3_deepOf
theorem dX3_isDanger_0 : decode cX3_isDanger 0 = .ok (.iload_n 2, 1) := by decide +kernel
theorem dX3_isDanger_1 : decode cX3_isDanger 1 = .ok (.bipush 100, 2) := by decide +kernel
theorem dX3_isDanger_3 : decode cX3_isDanger 3 = .ok (.imul, 1) := by decide +kernel
theorem dX3_isDanger_4 : decode cX3_isDanger 4 = .ok (.aload_n 0, 1) := by decide +kernel
theorem dX3_isDanger_5 : decode cX3_isDanger 5 = .ok (.iload_n 1, 1) := by decide +kernel
theorem dX3_isDanger_6 : decode cX3_isDanger 6 = .ok (.invokevirtual 61, 3) := by decide +kernel
theorem dX3_isDanger_9 : decode cX3_isDanger 9 = .ok (.aload_n 0, 1) := by decide +kernel
theorem dX3_isDanger_10 : decode cX3_isDanger 10 = .ok (.getfield 40, 3) := by decide +kernel
theorem dX3_isDanger_13 : decode cX3_isDanger 13 = .ok (.imul, 1) := by decide +kernel
theorem dX3_isDanger_14 : decode cX3_isDanger 14 = .ok (.if_icmp .lt 7, 3) := by decide +kernel
theorem dX3_isDanger_17 : decode cX3_isDanger 17 = .ok (.iconst 1, 1) := by decide +kernel
theorem dX3_isDanger_18 : decode cX3_isDanger 18 = .ok (.goto 4, 3) := by decide +kernel
theorem dX3_isDanger_21 : decode cX3_isDanger 21 = .ok (.iconst 0, 1) := by decide +kernel
theorem dX3_isDanger_22 : decode cX3_isDanger 22 = .ok (.ireturn, 1) := by decide +kernel
theorem dX4_init_0 : decode cX4_init 0 = .ok (.aload_n 0, 1) := by decide +kernel
theorem dX4_init_1 : decode cX4_init 1 = .ok (.invokespecial 3, 3) := by decide +kernel
theorem dX4_init_4 : decode cX4_init 4 = .ok (.aload_n 0, 1) := by decide +kernel
theorem dX4_init_5 : decode cX4_init 5 = .ok (.bipush 6, 2) := by decide +kernel
theorem dX4_init_7 : decode cX4_init 7 = .ok (.newarray .int, 2) := by decide +kernel
theorem dX4_init_9 : decode cX4_init 9 = .ok (.putfield 9, 3) := by decide +kernel
theorem dX4_init_12 : decode cX4_init 12 = .ok (.aload_n 0, 1) := by decide +kernel
theorem dX4_init_13 : decode cX4_init 13 = .ok (.bipush 24, 2) := by decide +kernel
theorem dX4_init_15 : decode cX4_init 15 = .ok (.newarray .int, 2) := by decide +kernel
theorem dX4_init_17 : decode cX4_init 17 = .ok (.putfield 15, 3) := by decide +kernel
theorem dX4_init_20 : decode cX4_init 20 = .ok (.aload_n 0, 1) := by decide +kernel
