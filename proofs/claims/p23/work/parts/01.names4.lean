theorem dX9_told_118 : decode cX9_told 118 = .ok (.ireturn, 1) := by decide +kernel
theorem dX9_told_119 : decode cX9_told 119 = .ok (.aload_n 0, 1) := by decide +kernel
theorem dX9_told_120 : decode cX9_told 120 = .ok (.getfield 19, 3) := by decide +kernel
theorem dX9_told_123 : decode cX9_told 123 = .ok (.iload_n 2, 1) := by decide +kernel
theorem dX9_told_124 : decode cX9_told 124 = .ok (.invokevirtual 113, 3) := by decide +kernel
theorem dX9_told_127 : decode cX9_told 127 = .ok (.ireturn, 1) := by decide +kernel
theorem dX9_told_128 : decode cX9_told 128 = .ok (.aload_n 0, 1) := by decide +kernel
theorem dX9_told_129 : decode cX9_told 129 = .ok (.getfield 19, 3) := by decide +kernel
theorem dX9_told_132 : decode cX9_told 132 = .ok (.iload_n 2, 1) := by decide +kernel
theorem dX9_told_133 : decode cX9_told 133 = .ok (.invokevirtual 116, 3) := by decide +kernel
theorem dX9_told_136 : decode cX9_told 136 = .ok (.ireturn, 1) := by decide +kernel
theorem dX9_told_137 : decode cX9_told 137 = .ok (.aload_n 0, 1) := by decide +kernel
theorem dX9_told_138 : decode cX9_told 138 = .ok (.getfield 19, 3) := by decide +kernel
theorem dX9_told_141 : decode cX9_told 141 = .ok (.iload_n 2, 1) := by decide +kernel
theorem dX9_told_142 : decode cX9_told 142 = .ok (.invokevirtual 119, 3) := by decide +kernel
theorem dX9_told_145 : decode cX9_told 145 = .ok (.ireturn, 1) := by decide +kernel
theorem dX9_told_146 : decode cX9_told 146 = .ok (.aload_n 0, 1) := by decide +kernel
theorem dX9_told_147 : decode cX9_told 147 = .ok (.getfield 19, 3) := by decide +kernel
theorem dX9_told_150 : decode cX9_told 150 = .ok (.iload_n 2, 1) := by decide +kernel
theorem dX9_told_151 : decode cX9_told 151 = .ok (.invokevirtual 122, 3) := by decide +kernel
theorem dX9_told_154 : decode cX9_told 154 = .ok (.ireturn, 1) := by decide +kernel
theorem dX9_told_155 : decode cX9_told 155 = .ok (.aload_n 0, 1) := by decide +kernel
theorem dX9_told_156 : decode cX9_told 156 = .ok (.getfield 19, 3) := by decide +kernel
theorem dX9_told_159 : decode cX9_told 159 = .ok (.iload_n 2, 1) := by decide +kernel
theorem dX9_told_160 : decode cX9_told 160 = .ok (.invokevirtual 125, 3) := by decide +kernel
theorem dX9_told_163 : decode cX9_told 163 = .ok (.ireturn, 1) := by decide +kernel
theorem dX9_told_164 : decode cX9_told 164 = .ok (.aload_n 0, 1) := by decide +kernel
theorem dX9_told_165 : decode cX9_told 165 = .ok (.getfield 19, 3) := by decide +kernel
theorem dX9_told_168 : decode cX9_told 168 = .ok (.getfield 128, 3) := by decide +kernel
theorem dX9_told_171 : decode cX9_told 171 = .ok (.ireturn, 1) := by decide +kernel
theorem dX9_told_172 : decode cX9_told 172 = .ok (.sipush (-1002), 3) := by decide +kernel
theorem dX9_told_175 : decode cX9_told 175 = .ok (.ireturn, 1) := by decide +kernel
set_option maxRecDepth 20000 in
theorem ggX9_count_X2_countDoubles : GoodIn wsX9_count wsX2_countDoubles := goodIn_r _ [9, 10, 11, 12, 13, 14, 8, 15, 16, 17, 18, 19, 20, 21, 22, 23, 24, 25, 26, 27, 28, 29, 30, 31, 32, 33, 34, 35, 36, 37, 38, 69, 70, 71, 72, 73, 74, 75, 76, 77, 78] (by decide +kernel) (by decide +kernel)
set_option maxRecDepth 20000 in
theorem gX9_count_X2_countDoubles : GoodIn wsX9_count (wsV RX9 137 RX2 yX2_countDoubles wsX2_countDoubles) := goodIn_app (goodIn_of _ (by decide +kernel)) ggX9_count_X2_countDoubles
set_option maxRecDepth 20000 in
theorem ggX9_count_X8_countPieces : GoodIn wsX9_count wsX8_countPieces := goodIn_r _ [43, 44, 45, 92, 93, 94, 95, 96, 97] (by decide +kernel) (by decide +kernel)
set_option maxRecDepth 20000 in
theorem gX9_count_X8_countPieces : GoodIn wsX9_count (wsV RX9 152 RX8 yX8_countPieces wsX8_countPieces) := goodIn_app (goodIn_of _ (by decide +kernel)) ggX9_count_X8_countPieces
theorem dX9_count_0 : decode cX9_count 0 = .ok (.iload_n 1, 1) := by decide +kernel
theorem dX9_count_1 : decode cX9_count 1 = .ok (.tableswitch 132 0 8 #[51, 59, 70, 81, 89, 97, 108, 116, 124], 51) := by decide +kernel
theorem dX9_count_52 : decode cX9_count 52 = .ok (.aload_n 0, 1) := by decide +kernel
theorem dX9_count_53 : decode cX9_count 53 = .ok (.getfield 12, 3) := by decide +kernel
theorem dX9_count_56 : decode cX9_count 56 = .ok (.getfield 132, 3) := by decide +kernel
theorem dX9_count_59 : decode cX9_count 59 = .ok (.ireturn, 1) := by decide +kernel
theorem dX9_count_60 : decode cX9_count 60 = .ok (.aload_n 0, 1) := by decide +kernel
theorem dX9_count_61 : decode cX9_count 61 = .ok (.getfield 12, 3) := by decide +kernel
theorem dX9_count_64 : decode cX9_count 64 = .ok (.getfield 77, 3) := by decide +kernel
theorem dX9_count_67 : decode cX9_count 67 = .ok (.getfield 135, 3) := by decide +kernel
theorem dX9_count_70 : decode cX9_count 70 = .ok (.ireturn, 1) := by decide +kernel
theorem dX9_count_71 : decode cX9_count 71 = .ok (.aload_n 0, 1) := by decide +kernel
theorem dX9_count_72 : decode cX9_count 72 = .ok (.getfield 12, 3) := by decide +kernel
theorem dX9_count_75 : decode cX9_count 75 = .ok (.getfield 90, 3) := by decide +kernel
theorem dX9_count_78 : decode cX9_count 78 = .ok (.getfield 135, 3) := by decide +kernel
theorem dX9_count_81 : decode cX9_count 81 = .ok (.ireturn, 1) := by decide +kernel
theorem dX9_count_82 : decode cX9_count 82 = .ok (.aload_n 0, 1) := by decide +kernel
theorem dX9_count_83 : decode cX9_count 83 = .ok (.getfield 26, 3) := by decide +kernel
theorem dX9_count_86 : decode cX9_count 86 = .ok (.getfield 136, 3) := by decide +kernel
theorem dX9_count_89 : decode cX9_count 89 = .ok (.ireturn, 1) := by decide +kernel
theorem dX9_count_90 : decode cX9_count 90 = .ok (.aload_n 0, 1) := by decide +kernel
theorem dX9_count_91 : decode cX9_count 91 = .ok (.getfield 26, 3) := by decide +kernel
theorem dX9_count_94 : decode cX9_count 94 = .ok (.invokevirtual 137, 3) := by decide +kernel
theorem dX9_count_97 : decode cX9_count 97 = .ok (.ireturn, 1) := by decide +kernel
theorem dX9_count_98 : decode cX9_count 98 = .ok (.aload_n 0, 1) := by decide +kernel
theorem dX9_count_99 : decode cX9_count 99 = .ok (.getfield 40, 3) := by decide +kernel
theorem dX9_count_102 : decode cX9_count 102 = .ok (.getfield 141, 3) := by decide +kernel
theorem dX9_count_105 : decode cX9_count 105 = .ok (.getfield 145, 3) := by decide +kernel
theorem dX9_count_108 : decode cX9_count 108 = .ok (.ireturn, 1) := by decide +kernel
theorem dX9_count_109 : decode cX9_count 109 = .ok (.aload_n 0, 1) := by decide +kernel
theorem dX9_count_110 : decode cX9_count 110 = .ok (.getfield 40, 3) := by decide +kernel
theorem dX9_count_113 : decode cX9_count 113 = .ok (.getfield 150, 3) := by decide +kernel
theorem dX9_count_116 : decode cX9_count 116 = .ok (.ireturn, 1) := by decide +kernel
theorem dX9_count_117 : decode cX9_count 117 = .ok (.aload_n 0, 1) := by decide +kernel
theorem dX9_count_118 : decode cX9_count 118 = .ok (.getfield 58, 3) := by decide +kernel
theorem dX9_count_121 : decode cX9_count 121 = .ok (.getfield 151, 3) := by decide +kernel
theorem dX9_count_124 : decode cX9_count 124 = .ok (.ireturn, 1) := by decide +kernel
theorem dX9_count_125 : decode cX9_count 125 = .ok (.aload_n 0, 1) := by decide +kernel
theorem dX9_count_126 : decode cX9_count 126 = .ok (.getfield 58, 3) := by decide +kernel
theorem dX9_count_129 : decode cX9_count 129 = .ok (.invokevirtual 152, 3) := by decide +kernel
theorem dX9_count_132 : decode cX9_count 132 = .ok (.ireturn, 1) := by decide +kernel
theorem dX9_count_133 : decode cX9_count 133 = .ok (.sipush (-1002), 3) := by decide +kernel
theorem dX9_count_136 : decode cX9_count 136 = .ok (.ireturn, 1) := by decide +kernel
theorem dX9_isBelow_0 : decode cX9_isBelow 0 = .ok (.iload_n 0, 1) := by decide +kernel
theorem dX9_isBelow_1 : decode cX9_isBelow 1 = .ok (.ifCond .lt 12, 3) := by decide +kernel
theorem dX9_isBelow_4 : decode cX9_isBelow 4 = .ok (.iload_n 0, 1) := by decide +kernel
theorem dX9_isBelow_5 : decode cX9_isBelow 5 = .ok (.iload_n 1, 1) := by decide +kernel
theorem dX9_isBelow_6 : decode cX9_isBelow 6 = .ok (.if_icmp .ge 7, 3) := by decide +kernel
theorem dX9_isBelow_9 : decode cX9_isBelow 9 = .ok (.iconst 1, 1) := by decide +kernel
theorem dX9_isBelow_10 : decode cX9_isBelow 10 = .ok (.goto 4, 3) := by decide +kernel
theorem dX9_isBelow_13 : decode cX9_isBelow 13 = .ok (.iconst 0, 1) := by decide +kernel
theorem dX9_isBelow_14 : decode cX9_isBelow 14 = .ok (.ireturn, 1) := by decide +kernel
set_option maxRecDepth 20000 in
theorem ggX9_isSpot_X9_isBelow : GoodIn wsX9_isSpot wsX9_isBelow := goodIn_r _ [4] (by decide +kernel) (by decide +kernel)
set_option maxRecDepth 20000 in
theorem gX9_isSpot_X9_isBelow : GoodIn wsX9_isSpot (va_wsS RX9 62 yX9_isBelow wsX9_isBelow) := goodIn_app (goodIn_of _ (by decide +kernel)) ggX9_isSpot_X9_isBelow
theorem dX9_isSpot_0 : decode cX9_isSpot 0 = .ok (.iload_n 0, 1) := by decide +kernel
theorem dX9_isSpot_1 : decode cX9_isSpot 1 = .ok (.iconst 4, 1) := by decide +kernel
theorem dX9_isSpot_2 : decode cX9_isSpot 2 = .ok (.invokestatic 62, 3) := by decide +kernel
theorem dX9_isSpot_5 : decode cX9_isSpot 5 = .ok (.ifCond .eq 15, 3) := by decide +kernel
theorem dX9_isSpot_8 : decode cX9_isSpot 8 = .ok (.iload_n 1, 1) := by decide +kernel
theorem dX9_isSpot_9 : decode cX9_isSpot 9 = .ok (.iconst 4, 1) := by decide +kernel
theorem dX9_isSpot_10 : decode cX9_isSpot 10 = .ok (.invokestatic 62, 3) := by decide +kernel
theorem dX9_isSpot_13 : decode cX9_isSpot 13 = .ok (.ifCond .eq 7, 3) := by decide +kernel
theorem dX9_isSpot_16 : decode cX9_isSpot 16 = .ok (.iconst 1, 1) := by decide +kernel
theorem dX9_isSpot_17 : decode cX9_isSpot 17 = .ok (.goto 4, 3) := by decide +kernel
theorem dX9_isSpot_20 : decode cX9_isSpot 20 = .ok (.iconst 0, 1) := by decide +kernel
theorem dX9_isSpot_21 : decode cX9_isSpot 21 = .ok (.ireturn, 1) := by decide +kernel
theorem dX9_spot_0 : decode cX9_spot 0 = .ok (.iload_n 0, 1) := by decide +kernel
theorem dX9_spot_1 : decode cX9_spot 1 = .ok (.iconst 4, 1) := by decide +kernel
theorem dX9_spot_2 : decode cX9_spot 2 = .ok (.imul, 1) := by decide +kernel
theorem dX9_spot_3 : decode cX9_spot 3 = .ok (.iload_n 1, 1) := by decide +kernel
theorem dX9_spot_4 : decode cX9_spot 4 = .ok (.iadd, 1) := by decide +kernel
theorem dX9_spot_5 : decode cX9_spot 5 = .ok (.ireturn, 1) := by decide +kernel
theorem dX9_at_0 : decode cX9_at 0 = .ok (.iload_n 1, 1) := by decide +kernel
theorem dX9_at_1 : decode cX9_at 1 = .ok (.ifCond .lt 15, 3) := by decide +kernel
theorem dX9_at_4 : decode cX9_at 4 = .ok (.iload_n 1, 1) := by decide +kernel
theorem dX9_at_5 : decode cX9_at 5 = .ok (.aload_n 0, 1) := by decide +kernel
theorem dX9_at_6 : decode cX9_at 6 = .ok (.arraylength, 1) := by decide +kernel
theorem dX9_at_7 : decode cX9_at 7 = .ok (.if_icmp .ge 9, 3) := by decide +kernel
theorem dX9_at_10 : decode cX9_at 10 = .ok (.aload_n 0, 1) := by decide +kernel
theorem dX9_at_11 : decode cX9_at 11 = .ok (.iload_n 1, 1) := by decide +kernel
theorem dX9_at_12 : decode cX9_at 12 = .ok (.iaload, 1) := by decide +kernel
theorem dX9_at_13 : decode cX9_at 13 = .ok (.goto 4, 3) := by decide +kernel
theorem dX9_at_16 : decode cX9_at 16 = .ok (.iconst 0, 1) := by decide +kernel
theorem dX9_at_17 : decode cX9_at 17 = .ok (.ireturn, 1) := by decide +kernel
theorem dJ9_max_7cf53_0 : decode cJ9_max_7cf53 0 = .ok (.iload_n 0, 1) := by decide +kernel
theorem dJ9_max_7cf53_1 : decode cJ9_max_7cf53 1 = .ok (.iload_n 1, 1) := by decide +kernel
theorem dJ9_max_7cf53_2 : decode cJ9_max_7cf53 2 = .ok (.if_icmp .lt 7, 3) := by decide +kernel
theorem dJ9_max_7cf53_5 : decode cJ9_max_7cf53 5 = .ok (.iload_n 0, 1) := by decide +kernel
theorem dJ9_max_7cf53_6 : decode cJ9_max_7cf53 6 = .ok (.goto 4, 3) := by decide +kernel
theorem dJ9_max_7cf53_9 : decode cJ9_max_7cf53 9 = .ok (.iload_n 1, 1) := by decide +kernel
theorem dJ9_max_7cf53_10 : decode cJ9_max_7cf53 10 = .ok (.ireturn, 1) := by decide +kernel
theorem dJ7_fill_53178_0 : decode cJ7_fill_53178 0 = .ok (.iconst 0, 1) := by decide +kernel
theorem dJ7_fill_53178_1 : decode cJ7_fill_53178 1 = .ok (.istore_n 2, 1) := by decide +kernel
theorem dJ7_fill_53178_2 : decode cJ7_fill_53178 2 = .ok (.aload_n 0, 1) := by decide +kernel
theorem dJ7_fill_53178_3 : decode cJ7_fill_53178 3 = .ok (.arraylength, 1) := by decide +kernel
theorem dJ7_fill_53178_4 : decode cJ7_fill_53178 4 = .ok (.istore_n 3, 1) := by decide +kernel
theorem dJ7_fill_53178_5 : decode cJ7_fill_53178 5 = .ok (.iload_n 2, 1) := by decide +kernel
theorem dJ7_fill_53178_6 : decode cJ7_fill_53178 6 = .ok (.iload_n 3, 1) := by decide +kernel
theorem dJ7_fill_53178_7 : decode cJ7_fill_53178 7 = .ok (.if_icmp .ge 13, 3) := by decide +kernel
theorem dJ7_fill_53178_10 : decode cJ7_fill_53178 10 = .ok (.aload_n 0, 1) := by decide +kernel
theorem dJ7_fill_53178_11 : decode cJ7_fill_53178 11 = .ok (.iload_n 2, 1) := by decide +kernel
theorem dJ7_fill_53178_12 : decode cJ7_fill_53178 12 = .ok (.iload_n 1, 1) := by decide +kernel
theorem dJ7_fill_53178_13 : decode cJ7_fill_53178 13 = .ok (.iastore, 1) := by decide +kernel
theorem dJ7_fill_53178_14 : decode cJ7_fill_53178 14 = .ok (.iinc 2 1, 3) := by decide +kernel
theorem dJ7_fill_53178_17 : decode cJ7_fill_53178 17 = .ok (.goto (-12), 3) := by decide +kernel
theorem dJ7_fill_53178_20 : decode cJ7_fill_53178 20 = .ok (.return_, 1) := by decide +kernel
theorem dL_cell_0 : decode cL_cell 0 = .ok (.iload_n 1, 1) := by decide +kernel
theorem dL_cell_1 : decode cL_cell 1 = .ok (.aload_n 0, 1) := by decide +kernel
theorem dL_cell_2 : decode cL_cell 2 = .ok (.arraylength, 1) := by decide +kernel
theorem dL_cell_3 : decode cL_cell 3 = .ok (.if_icmp .ge 9, 3) := by decide +kernel
theorem dL_cell_6 : decode cL_cell 6 = .ok (.aload_n 0, 1) := by decide +kernel
theorem dL_cell_7 : decode cL_cell 7 = .ok (.iload_n 1, 1) := by decide +kernel
theorem dL_cell_8 : decode cL_cell 8 = .ok (.iaload, 1) := by decide +kernel
theorem dL_cell_9 : decode cL_cell 9 = .ok (.goto 4, 3) := by decide +kernel
theorem dL_cell_12 : decode cL_cell 12 = .ok (.iconst 0, 1) := by decide +kernel
theorem dL_cell_13 : decode cL_cell 13 = .ok (.ireturn, 1) := by decide +kernel
set_option maxRecDepth 20000 in
theorem ggL_some_L_cell : GoodIn wsL_some wsL_cell := goodIn_r _ [5] (by decide +kernel) (by decide +kernel)
set_option maxRecDepth 20000 in
theorem gL_some_L_cell : GoodIn wsL_some (va_wsS RL 7 yL_cell wsL_cell) := goodIn_app (goodIn_of _ (by decide +kernel)) ggL_some_L_cell
theorem dL_some_0 : decode cL_some 0 = .ok (.aload_n 0, 1) := by decide +kernel
theorem dL_some_1 : decode cL_some 1 = .ok (.iload_n 1, 1) := by decide +kernel
theorem dL_some_2 : decode cL_some 2 = .ok (.invokestatic 7, 3) := by decide +kernel
theorem dL_some_5 : decode cL_some 5 = .ok (.ldc 13, 2) := by decide +kernel
theorem dL_some_7 : decode cL_some 7 = .ok (.iand, 1) := by decide +kernel
theorem dL_some_8 : decode cL_some 8 = .ok (.iload_n 2, 1) := by decide +kernel
theorem dL_some_9 : decode cL_some 9 = .ok (.irem, 1) := by decide +kernel
theorem dL_some_10 : decode cL_some 10 = .ok (.ireturn, 1) := by decide +kernel
set_option maxRecDepth 20000 in
theorem ggL_build_L_some : GoodIn wsL_build wsL_some := goodIn_r _ [5, 1, 6, 7, 4, 8] (by decide +kernel) (by decide +kernel)
set_option maxRecDepth 20000 in
theorem gL_build_L_some : GoodIn wsL_build (va_wsS RL 14 yL_some wsL_some) := goodIn_app (goodIn_of _ (by decide +kernel)) ggL_build_L_some
set_option maxRecDepth 20000 in
theorem ggL_build_L_cell : GoodIn wsL_build wsL_cell := goodIn_r _ [8] (by decide +kernel) (by decide +kernel)
set_option maxRecDepth 20000 in
theorem gL_build_L_cell : GoodIn wsL_build (va_wsS RL 7 yL_cell wsL_cell) := goodIn_app (goodIn_of _ (by decide +kernel)) ggL_build_L_cell
set_option maxRecDepth 20000 in
theorem ggL_build_X9_rate : GoodIn wsL_build wsX9_rate := goodIn_r _ [13, 14, 15, 16, 12, 17, 18, 19, 20, 21, 22, 23, 24, 25, 26, 27, 28, 29, 30, 31, 65, 66, 67, 68, 69, 70, 71, 72, 73, 74, 75, 76, 77, 78, 79, 80, 81, 82] (by decide +kernel) (by decide +kernel)
set_option maxRecDepth 20000 in
theorem gL_build_X9_rate : GoodIn wsL_build (wsV RL 18 RX9 yX9_rate wsX9_rate) := goodIn_app (goodIn_of _ (by decide +kernel)) ggL_build_X9_rate
set_option maxRecDepth 20000 in
theorem ggL_build_X9_block : GoodIn wsL_build wsX9_block := goodIn_r _ [35, 14, 15, 16, 12, 17, 36, 37, 38, 27, 39, 40, 41, 42, 43, 65, 66, 67, 68, 69, 70, 71, 72, 73, 74, 75, 76, 77, 78, 79, 80, 81, 82] (by decide +kernel) (by decide +kernel)
set_option maxRecDepth 20000 in
theorem gL_build_X9_block : GoodIn wsL_build (wsV RL 24 RX9 yX9_block wsX9_block) := goodIn_app (goodIn_of _ (by decide +kernel)) ggL_build_X9_block
set_option maxRecDepth 20000 in
theorem ggL_build_X9_place : GoodIn wsL_build wsX9_place := goodIn_r _ [47, 14, 48, 49, 50, 27, 51, 40, 16, 12, 17, 15, 18, 19, 20, 21, 22, 23, 52, 53, 54, 55, 56, 57, 58, 59, 60, 65, 66, 67, 68, 69, 70, 71, 72, 73, 74, 75, 76, 77, 78, 79, 80, 81, 82, 83, 84, 85, 86, 87] (by decide +kernel) (by decide +kernel)
set_option maxRecDepth 20000 in
theorem gL_build_X9_place : GoodIn wsL_build (wsV RL 28 RX9 yX9_place wsX9_place) := goodIn_app (goodIn_of _ (by decide +kernel)) ggL_build_X9_place
set_option maxRecDepth 20000 in
theorem ggL_build_X9_mortar : GoodIn wsL_build wsX9_mortar := goodIn_r _ [64, 14, 48, 49, 50, 27, 51, 40, 16, 12, 17, 15, 52, 53, 54, 55, 56, 57, 58, 59, 60, 65, 66, 67, 68, 69, 70, 71, 72, 73, 74, 75, 76, 77, 78, 79, 80, 81, 82, 83, 84, 85, 86, 87] (by decide +kernel) (by decide +kernel)
set_option maxRecDepth 20000 in
theorem gL_build_X9_mortar : GoodIn wsL_build (wsV RL 32 RX9 yX9_mortar wsX9_mortar) := goodIn_app (goodIn_of _ (by decide +kernel)) ggL_build_X9_mortar
theorem dL_build_0 : decode cL_build 0 = .ok (.iconst 1, 1) := by decide +kernel
theorem dL_build_1 : decode cL_build 1 = .ok (.aload_n 1, 1) := by decide +kernel
theorem dL_build_2 : decode cL_build 2 = .ok (.iconst 0, 1) := by decide +kernel
theorem dL_build_3 : decode cL_build 3 = .ok (.iload_n 2, 1) := by decide +kernel
theorem dL_build_4 : decode cL_build 4 = .ok (.invokestatic 14, 3) := by decide +kernel
theorem dL_build_7 : decode cL_build 7 = .ok (.iadd, 1) := by decide +kernel
theorem dL_build_8 : decode cL_build 8 = .ok (.istore_n 3, 1) := by decide +kernel
theorem dL_build_9 : decode cL_build 9 = .ok (.iconst 0, 1) := by decide +kernel
theorem dL_build_10 : decode cL_build 10 = .ok (.istore 4, 2) := by decide +kernel
theorem dL_build_12 : decode cL_build 12 = .ok (.iload 4, 2) := by decide +kernel
theorem dL_build_14 : decode cL_build 14 = .ok (.bipush 64, 2) := by decide +kernel
theorem dL_build_16 : decode cL_build 16 = .ok (.if_icmp .ge 53, 3) := by decide +kernel
theorem dL_build_19 : decode cL_build 19 = .ok (.aload_n 0, 1) := by decide +kernel
theorem dL_build_20 : decode cL_build 20 = .ok (.iload 4, 2) := by decide +kernel
theorem dL_build_22 : decode cL_build 22 = .ok (.bipush 16, 2) := by decide +kernel
theorem dL_build_24 : decode cL_build 24 = .ok (.idiv, 1) := by decide +kernel
theorem dL_build_25 : decode cL_build 25 = .ok (.iload 4, 2) := by decide +kernel
theorem dL_build_27 : decode cL_build 27 = .ok (.iconst 4, 1) := by decide +kernel
theorem dL_build_28 : decode cL_build 28 = .ok (.idiv, 1) := by decide +kernel
theorem dL_build_29 : decode cL_build 29 = .ok (.iconst 4, 1) := by decide +kernel
theorem dL_build_30 : decode cL_build 30 = .ok (.irem, 1) := by decide +kernel
theorem dL_build_31 : decode cL_build 31 = .ok (.iload 4, 2) := by decide +kernel
theorem dL_build_33 : decode cL_build 33 = .ok (.iconst 4, 1) := by decide +kernel
theorem dL_build_34 : decode cL_build 34 = .ok (.irem, 1) := by decide +kernel
theorem dL_build_35 : decode cL_build 35 = .ok (.aload_n 1, 1) := by decide +kernel
theorem dL_build_36 : decode cL_build 36 = .ok (.iconst 1, 1) := by decide +kernel
theorem dL_build_37 : decode cL_build 37 = .ok (.iload 4, 2) := by decide +kernel
theorem dL_build_39 : decode cL_build 39 = .ok (.bipush 17, 2) := by decide +kernel
theorem dL_build_41 : decode cL_build 41 = .ok (.irem, 1) := by decide +kernel
theorem dL_build_42 : decode cL_build 42 = .ok (.iadd, 1) := by decide +kernel
theorem dL_build_43 : decode cL_build 43 = .ok (.invokestatic 7, 3) := by decide +kernel
theorem dL_build_46 : decode cL_build 46 = .ok (.iload 4, 2) := by decide +kernel
theorem dL_build_48 : decode cL_build 48 = .ok (.bipush 13, 2) := by decide +kernel
theorem dL_build_50 : decode cL_build 50 = .ok (.irem, 1) := by decide +kernel
theorem dL_build_51 : decode cL_build 51 = .ok (.iushr, 1) := by decide +kernel
theorem dL_build_52 : decode cL_build 52 = .ok (.bipush 63, 2) := by decide +kernel
theorem dL_build_54 : decode cL_build 54 = .ok (.iand, 1) := by decide +kernel
theorem dL_build_55 : decode cL_build 55 = .ok (.bipush 51, 2) := by decide +kernel
theorem dL_build_57 : decode cL_build 57 = .ok (.irem, 1) := by decide +kernel
theorem dL_build_58 : decode cL_build 58 = .ok (.invokevirtual 18, 3) := by decide +kernel
theorem dL_build_61 : decode cL_build 61 = .ok (.istore 5, 2) := by decide +kernel
theorem dL_build_63 : decode cL_build 63 = .ok (.iinc 4 1, 3) := by decide +kernel
theorem dL_build_66 : decode cL_build 66 = .ok (.goto (-54), 3) := by decide +kernel
theorem dL_build_69 : decode cL_build 69 = .ok (.iconst 0, 1) := by decide +kernel
theorem dL_build_70 : decode cL_build 70 = .ok (.istore 4, 2) := by decide +kernel
theorem dL_build_72 : decode cL_build 72 = .ok (.iload 4, 2) := by decide +kernel
theorem dL_build_74 : decode cL_build 74 = .ok (.iload_n 3, 1) := by decide +kernel
theorem dL_build_75 : decode cL_build 75 = .ok (.if_icmp .ge 179, 3) := by decide +kernel
theorem dL_build_78 : decode cL_build 78 = .ok (.aload_n 1, 1) := by decide +kernel
theorem dL_build_79 : decode cL_build 79 = .ok (.bipush 18, 2) := by decide +kernel
theorem dL_build_81 : decode cL_build 81 = .ok (.iload 4, 2) := by decide +kernel
theorem dL_build_83 : decode cL_build 83 = .ok (.iadd, 1) := by decide +kernel
theorem dL_build_84 : decode cL_build 84 = .ok (.ldc 13, 2) := by decide +kernel
theorem dL_build_86 : decode cL_build 86 = .ok (.invokestatic 14, 3) := by decide +kernel
theorem dL_build_89 : decode cL_build 89 = .ok (.istore 5, 2) := by decide +kernel
theorem dL_build_91 : decode cL_build 91 = .ok (.aload_n 0, 1) := by decide +kernel
theorem dL_build_92 : decode cL_build 92 = .ok (.iload 5, 2) := by decide +kernel
theorem dL_build_94 : decode cL_build 94 = .ok (.iconst 3, 1) := by decide +kernel
theorem dL_build_95 : decode cL_build 95 = .ok (.iand, 1) := by decide +kernel
theorem dL_build_96 : decode cL_build 96 = .ok (.iload 5, 2) := by decide +kernel
theorem dL_build_98 : decode cL_build 98 = .ok (.iconst 2, 1) := by decide +kernel
theorem dL_build_99 : decode cL_build 99 = .ok (.iushr, 1) := by decide +kernel
theorem dL_build_100 : decode cL_build 100 = .ok (.sipush 200, 3) := by decide +kernel
theorem dL_build_103 : decode cL_build 103 = .ok (.irem, 1) := by decide +kernel
theorem dL_build_104 : decode cL_build 104 = .ok (.iconst 1, 1) := by decide +kernel
theorem dL_build_105 : decode cL_build 105 = .ok (.iload 5, 2) := by decide +kernel
theorem dL_build_107 : decode cL_build 107 = .ok (.bipush 10, 2) := by decide +kernel
theorem dL_build_109 : decode cL_build 109 = .ok (.iushr, 1) := by decide +kernel
theorem dL_build_110 : decode cL_build 110 = .ok (.sipush 2000, 3) := by decide +kernel
theorem dL_build_113 : decode cL_build 113 = .ok (.irem, 1) := by decide +kernel
theorem dL_build_114 : decode cL_build 114 = .ok (.iadd, 1) := by decide +kernel
theorem dL_build_115 : decode cL_build 115 = .ok (.invokevirtual 24, 3) := by decide +kernel
theorem dL_build_118 : decode cL_build 118 = .ok (.istore 6, 2) := by decide +kernel
theorem dL_build_120 : decode cL_build 120 = .ok (.iconst 0, 1) := by decide +kernel
theorem dL_build_121 : decode cL_build 121 = .ok (.istore 7, 2) := by decide +kernel
theorem dL_build_123 : decode cL_build 123 = .ok (.iload 7, 2) := by decide +kernel
theorem dL_build_125 : decode cL_build 125 = .ok (.iconst 3, 1) := by decide +kernel
theorem dL_build_126 : decode cL_build 126 = .ok (.if_icmp .ge 122, 3) := by decide +kernel
theorem dL_build_129 : decode cL_build 129 = .ok (.aload_n 1, 1) := by decide +kernel
theorem dL_build_130 : decode cL_build 130 = .ok (.bipush 20, 2) := by decide +kernel
theorem dL_build_132 : decode cL_build 132 = .ok (.iload 4, 2) := by decide +kernel
theorem dL_build_134 : decode cL_build 134 = .ok (.iconst 5, 1) := by decide +kernel
theorem dL_build_135 : decode cL_build 135 = .ok (.iload 7, 2) := by decide +kernel
theorem dL_build_137 : decode cL_build 137 = .ok (.imul, 1) := by decide +kernel
theorem dL_build_138 : decode cL_build 138 = .ok (.iadd, 1) := by decide +kernel
theorem dL_build_139 : decode cL_build 139 = .ok (.bipush 17, 2) := by decide +kernel
theorem dL_build_141 : decode cL_build 141 = .ok (.irem, 1) := by decide +kernel
theorem dL_build_142 : decode cL_build 142 = .ok (.iadd, 1) := by decide +kernel
theorem dL_build_143 : decode cL_build 143 = .ok (.ldc 13, 2) := by decide +kernel
theorem dL_build_145 : decode cL_build 145 = .ok (.invokestatic 14, 3) := by decide +kernel
theorem dL_build_148 : decode cL_build 148 = .ok (.istore 8, 2) := by decide +kernel
theorem dL_build_150 : decode cL_build 150 = .ok (.iload 8, 2) := by decide +kernel
theorem dL_build_152 : decode cL_build 152 = .ok (.iconst 1, 1) := by decide +kernel
theorem dL_build_153 : decode cL_build 153 = .ok (.iand, 1) := by decide +kernel
theorem dL_build_154 : decode cL_build 154 = .ok (.ifCond .ne 42, 3) := by decide +kernel
theorem dL_build_157 : decode cL_build 157 = .ok (.aload_n 0, 1) := by decide +kernel
theorem dL_build_158 : decode cL_build 158 = .ok (.iload 4, 2) := by decide +kernel
theorem dL_build_160 : decode cL_build 160 = .ok (.iload 8, 2) := by decide +kernel
theorem dL_build_162 : decode cL_build 162 = .ok (.iconst 1, 1) := by decide +kernel
theorem dL_build_163 : decode cL_build 163 = .ok (.iushr, 1) := by decide +kernel
theorem dL_build_164 : decode cL_build 164 = .ok (.sipush 260, 3) := by decide +kernel
theorem dL_build_167 : decode cL_build 167 = .ok (.irem, 1) := by decide +kernel
theorem dL_build_168 : decode cL_build 168 = .ok (.iload 8, 2) := by decide +kernel
theorem dL_build_170 : decode cL_build 170 = .ok (.bipush 9, 2) := by decide +kernel
theorem dL_build_172 : decode cL_build 172 = .ok (.iushr, 1) := by decide +kernel
theorem dL_build_173 : decode cL_build 173 = .ok (.iconst 3, 1) := by decide +kernel
theorem dL_build_174 : decode cL_build 174 = .ok (.iand, 1) := by decide +kernel
theorem dL_build_175 : decode cL_build 175 = .ok (.iload 8, 2) := by decide +kernel
theorem dL_build_177 : decode cL_build 177 = .ok (.bipush 11, 2) := by decide +kernel
theorem dL_build_179 : decode cL_build 179 = .ok (.iushr, 1) := by decide +kernel
theorem dL_build_180 : decode cL_build 180 = .ok (.iconst 3, 1) := by decide +kernel
theorem dL_build_181 : decode cL_build 181 = .ok (.iand, 1) := by decide +kernel
theorem dL_build_182 : decode cL_build 182 = .ok (.iload 8, 2) := by decide +kernel
theorem dL_build_184 : decode cL_build 184 = .ok (.bipush 13, 2) := by decide +kernel
theorem dL_build_186 : decode cL_build 186 = .ok (.iushr, 1) := by decide +kernel
theorem dL_build_187 : decode cL_build 187 = .ok (.bipush 7, 2) := by decide +kernel
theorem dL_build_189 : decode cL_build 189 = .ok (.iand, 1) := by decide +kernel
theorem dL_build_190 : decode cL_build 190 = .ok (.invokevirtual 28, 3) := by decide +kernel
theorem dL_build_193 : decode cL_build 193 = .ok (.goto 4, 3) := by decide +kernel
theorem dL_build_196 : decode cL_build 196 = .ok (.iconst 0, 1) := by decide +kernel
theorem dL_build_197 : decode cL_build 197 = .ok (.istore 6, 2) := by decide +kernel
theorem dL_build_199 : decode cL_build 199 = .ok (.iload 8, 2) := by decide +kernel
theorem dL_build_201 : decode cL_build 201 = .ok (.bipush 6, 2) := by decide +kernel
theorem dL_build_203 : decode cL_build 203 = .ok (.iand, 1) := by decide +kernel
theorem dL_build_204 : decode cL_build 204 = .ok (.ifCond .ne 35, 3) := by decide +kernel
theorem dL_build_207 : decode cL_build 207 = .ok (.aload_n 0, 1) := by decide +kernel
theorem dL_build_208 : decode cL_build 208 = .ok (.iload 4, 2) := by decide +kernel
theorem dL_build_210 : decode cL_build 210 = .ok (.iload 8, 2) := by decide +kernel
theorem dL_build_212 : decode cL_build 212 = .ok (.iconst 3, 1) := by decide +kernel
theorem dL_build_213 : decode cL_build 213 = .ok (.iushr, 1) := by decide +kernel
theorem dL_build_214 : decode cL_build 214 = .ok (.sipush 260, 3) := by decide +kernel
theorem dL_build_217 : decode cL_build 217 = .ok (.irem, 1) := by decide +kernel
theorem dL_build_218 : decode cL_build 218 = .ok (.iload 8, 2) := by decide +kernel
theorem dL_build_220 : decode cL_build 220 = .ok (.bipush 16, 2) := by decide +kernel
theorem dL_build_222 : decode cL_build 222 = .ok (.iushr, 1) := by decide +kernel
theorem dL_build_223 : decode cL_build 223 = .ok (.iconst 1, 1) := by decide +kernel
theorem dL_build_224 : decode cL_build 224 = .ok (.iand, 1) := by decide +kernel
theorem dL_build_225 : decode cL_build 225 = .ok (.ifCond .ne 7, 3) := by decide +kernel
theorem dL_build_228 : decode cL_build 228 = .ok (.iconst 1, 1) := by decide +kernel
theorem dL_build_229 : decode cL_build 229 = .ok (.goto 4, 3) := by decide +kernel
theorem dL_build_232 : decode cL_build 232 = .ok (.iconst 0, 1) := by decide +kernel
theorem dL_build_233 : decode cL_build 233 = .ok (.invokevirtual 32, 3) := by decide +kernel
theorem dL_build_236 : decode cL_build 236 = .ok (.goto 4, 3) := by decide +kernel
theorem dL_build_239 : decode cL_build 239 = .ok (.iconst 0, 1) := by decide +kernel
theorem dL_build_240 : decode cL_build 240 = .ok (.istore 6, 2) := by decide +kernel
theorem dL_build_242 : decode cL_build 242 = .ok (.iinc 7 1, 3) := by decide +kernel
theorem dL_build_245 : decode cL_build 245 = .ok (.goto (-122), 3) := by decide +kernel
theorem dL_build_248 : decode cL_build 248 = .ok (.iinc 4 1, 3) := by decide +kernel
theorem dL_build_251 : decode cL_build 251 = .ok (.goto (-179), 3) := by decide +kernel
theorem dL_build_254 : decode cL_build 254 = .ok (.iload_n 3, 1) := by decide +kernel
theorem dL_build_255 : decode cL_build 255 = .ok (.ireturn, 1) := by decide +kernel
set_option maxRecDepth 20000 in
theorem ggL_law_X9_init : GoodIn wsL_law wsX9_init := goodIn_r _ [5, 6, 7, 8, 9, 10, 11, 12, 13, 14, 15, 16, 17, 18, 19, 20, 21, 22, 23, 24, 25, 26, 27, 28, 29, 30, 31, 32, 33, 34, 35, 36, 37, 38, 39, 40, 41, 42, 43, 44, 45, 46, 47, 48, 49, 50, 51, 52, 53, 54, 55, 56, 57, 58, 59, 60, 61, 62, 63, 64, 65, 66, 67, 68, 69, 70, 71, 72, 73, 74, 75, 76, 77, 78, 79, 80, 81, 82, 83, 84, 85, 86, 87, 88, 89, 90, 91, 92, 93, 94, 95, 96, 97, 98, 99, 100, 101, 102, 103, 104, 105, 106, 107, 108, 109, 110, 111, 112, 113, 114, 115, 116, 117, 118, 119, 120, 121, 122, 123, 288, 289, 290, 291, 292, 293, 294, 295, 296, 297, 280, 281, 282, 283, 284, 285, 286, 287, 298, 299, 300, 301, 302, 303, 304, 305, 306, 307, 308, 309, 310, 311, 312, 313, 314, 315, 316, 317, 318, 319, 320, 321, 322, 323, 324, 325, 326, 327, 328, 329, 330, 331, 332, 333, 334, 335, 336, 337, 338, 339, 340, 341, 342, 343, 344, 345, 346, 347, 348, 349, 350] (by decide +kernel) (by decide +kernel)
set_option maxRecDepth 20000 in
theorem gL_law_X9_init : GoodIn wsL_law (wsX9_init) := ggL_law_X9_init
set_option maxRecDepth 20000 in
theorem ggL_law_L_build : GoodIn wsL_law wsL_build := goodIn_r _ [127, 128, 129, 130, 126, 131, 132, 133, 134, 135, 136, 137, 2, 138, 12, 139, 140, 141, 142, 143, 144, 145, 146, 147, 148, 149, 150, 11, 151, 46, 152, 153, 154, 155, 156, 157, 158, 159, 160, 161, 162, 43, 44, 45, 163, 164, 165, 166, 167, 168, 169, 170, 171, 172, 173, 49, 174, 175, 58, 59, 60, 176, 177, 178, 179, 280, 281, 282, 283, 284, 285, 286, 287, 288, 289, 290, 291, 292, 293, 294, 295, 296, 297, 340, 341, 342, 343, 344] (by decide +kernel) (by decide +kernel)
set_option maxRecDepth 20000 in
theorem gL_law_L_build : GoodIn wsL_law (va_wsS RL 37 yL_build wsL_build) := goodIn_app (goodIn_of _ (by decide +kernel)) ggL_law_L_build
set_option maxRecDepth 20000 in
theorem ggL_law_L_some : GoodIn wsL_law wsL_some := goodIn_r _ [131, 128, 132, 133, 126, 134] (by decide +kernel) (by decide +kernel)
set_option maxRecDepth 20000 in
theorem gL_law_L_some : GoodIn wsL_law (va_wsS RL 14 yL_some wsL_some) := goodIn_app (goodIn_of _ (by decide +kernel)) ggL_law_L_some
set_option maxRecDepth 20000 in
theorem ggL_law_X9_limit : GoodIn wsL_law wsX9_limit := goodIn_r _ [183, 12, 184, 185, 186, 11, 187, 54, 280, 281, 282, 283, 284, 285, 286, 287, 288, 289, 290, 291, 292, 293, 294, 295, 296, 297] (by decide +kernel) (by decide +kernel)
set_option maxRecDepth 20000 in
theorem gL_law_X9_limit : GoodIn wsL_law (wsV RL 41 RX9 yX9_limit wsX9_limit) := goodIn_app (goodIn_of _ (by decide +kernel)) ggL_law_X9_limit
set_option maxRecDepth 20000 in
theorem ggL_law_X9_told : GoodIn wsL_law wsX9_told := goodIn_r _ [191, 12, 16, 167, 168, 169, 11, 170, 162, 140, 2, 141, 139, 192, 193, 194, 15, 195, 69, 70, 72, 71, 196, 197, 198, 49, 199, 61, 175, 58, 59, 60, 200, 63, 64, 65, 201, 202, 203, 204, 205, 206, 207, 208, 209, 210, 211, 212, 43, 152, 153, 213, 214, 215, 216, 44, 217, 218, 219, 220, 54, 221, 222, 223, 224, 45, 225, 226, 227, 228, 46, 229, 230, 231, 232, 233, 234, 235, 236, 237, 238, 239, 240, 241, 242, 243, 244, 245, 246, 247, 248, 249, 250, 251, 280, 281, 282, 283, 284, 285, 286, 287, 298, 299, 300, 301, 288, 289, 290, 291, 292, 293, 294, 295, 296, 297, 340, 341, 342, 343, 344] (by decide +kernel) (by decide +kernel)
set_option maxRecDepth 20000 in
theorem gL_law_X9_told : GoodIn wsL_law (wsV RL 45 RX9 yX9_told wsX9_told) := goodIn_app (goodIn_of _ (by decide +kernel)) ggL_law_X9_told
set_option maxRecDepth 20000 in
theorem ggL_law_L_cell : GoodIn wsL_law wsL_cell := goodIn_r _ [134] (by decide +kernel) (by decide +kernel)
set_option maxRecDepth 20000 in
theorem gL_law_L_cell : GoodIn wsL_law (va_wsS RL 7 yL_cell wsL_cell) := goodIn_app (goodIn_of _ (by decide +kernel)) ggL_law_L_cell
set_option maxRecDepth 20000 in
theorem ggL_law_X9_count : GoodIn wsL_law wsX9_count := goodIn_r _ [255, 12, 20, 28, 38, 256, 257, 258, 19, 259, 260, 261, 262, 263, 264, 265, 266, 80, 81, 79, 77, 267, 63, 64, 65, 268, 269, 270, 271, 76, 78, 152, 2, 153, 272, 273, 274, 140, 141, 275, 276, 277, 37, 278, 279, 123, 280, 281, 282, 283, 284, 285, 286, 287, 288, 289, 290, 291, 292, 293, 294, 295, 296, 297, 340, 341, 342, 343, 344, 302, 303, 304, 305, 306, 307, 308, 309, 310, 311, 314, 315, 316, 317, 318, 319, 320, 345, 346, 347, 348, 349, 350, 334, 335, 336, 337, 338, 339] (by decide +kernel) (by decide +kernel)
set_option maxRecDepth 20000 in
theorem gL_law_X9_count : GoodIn wsL_law (wsV RL 48 RX9 yX9_count wsX9_count) := goodIn_app (goodIn_of _ (by decide +kernel)) ggL_law_X9_count
theorem dL_law_0 : decode cL_law 0 = .ok (.new 19, 3) := by decide +kernel
theorem dL_law_3 : decode cL_law 3 = .ok (.dup, 1) := by decide +kernel
theorem dL_law_4 : decode cL_law 4 = .ok (.invokespecial 36, 3) := by decide +kernel
theorem dL_law_7 : decode cL_law 7 = .ok (.astore_n 1, 1) := by decide +kernel
theorem dL_law_8 : decode cL_law 8 = .ok (.aload_n 1, 1) := by decide +kernel
theorem dL_law_9 : decode cL_law 9 = .ok (.aload_n 0, 1) := by decide +kernel
theorem dL_law_10 : decode cL_law 10 = .ok (.iconst 5, 1) := by decide +kernel
theorem dL_law_11 : decode cL_law 11 = .ok (.invokestatic 37, 3) := by decide +kernel
theorem dL_law_14 : decode cL_law 14 = .ok (.istore_n 2, 1) := by decide +kernel
theorem dL_law_15 : decode cL_law 15 = .ok (.iconst 1, 1) := by decide +kernel
theorem dL_law_16 : decode cL_law 16 = .ok (.aload_n 0, 1) := by decide +kernel
theorem dL_law_17 : decode cL_law 17 = .ok (.bipush 40, 2) := by decide +kernel
theorem dL_law_19 : decode cL_law 19 = .ok (.bipush 100, 2) := by decide +kernel
theorem dL_law_21 : decode cL_law 21 = .ok (.invokestatic 14, 3) := by decide +kernel
theorem dL_law_24 : decode cL_law 24 = .ok (.iadd, 1) := by decide +kernel
theorem dL_law_25 : decode cL_law 25 = .ok (.istore_n 3, 1) := by decide +kernel
theorem dL_law_26 : decode cL_law 26 = .ok (.aload_n 1, 1) := by decide +kernel
theorem dL_law_27 : decode cL_law 27 = .ok (.iload_n 3, 1) := by decide +kernel
theorem dL_law_28 : decode cL_law 28 = .ok (.invokevirtual 41, 3) := by decide +kernel
theorem dL_law_31 : decode cL_law 31 = .ok (.bipush 50, 2) := by decide +kernel
theorem dL_law_33 : decode cL_law 33 = .ok (.if_icmp .ne 7, 3) := by decide +kernel
theorem dL_law_36 : decode cL_law 36 = .ok (.iconst 1, 1) := by decide +kernel
theorem dL_law_37 : decode cL_law 37 = .ok (.goto 4, 3) := by decide +kernel
theorem dL_law_40 : decode cL_law 40 = .ok (.iconst 0, 1) := by decide +kernel
theorem dL_law_41 : decode cL_law 41 = .ok (.istore 4, 2) := by decide +kernel
theorem dL_law_43 : decode cL_law 43 = .ok (.iconst 0, 1) := by decide +kernel
theorem dL_law_44 : decode cL_law 44 = .ok (.istore 5, 2) := by decide +kernel
theorem dL_law_46 : decode cL_law 46 = .ok (.iload 5, 2) := by decide +kernel
theorem dL_law_48 : decode cL_law 48 = .ok (.iload_n 2, 1) := by decide +kernel
theorem dL_law_49 : decode cL_law 49 = .ok (.if_icmp .ge 298, 3) := by decide +kernel
theorem dL_law_52 : decode cL_law 52 = .ok (.iload 4, 2) := by decide +kernel
theorem dL_law_54 : decode cL_law 54 = .ok (.ifCond .eq 293, 3) := by decide +kernel
theorem dL_law_57 : decode cL_law 57 = .ok (.aload_n 1, 1) := by decide +kernel
theorem dL_law_58 : decode cL_law 58 = .ok (.iload 5, 2) := by decide +kernel
theorem dL_law_60 : decode cL_law 60 = .ok (.iconst 0, 1) := by decide +kernel
theorem dL_law_61 : decode cL_law 61 = .ok (.iconst 0, 1) := by decide +kernel
theorem dL_law_62 : decode cL_law 62 = .ok (.invokevirtual 45, 3) := by decide +kernel
theorem dL_law_65 : decode cL_law 65 = .ok (.istore 6, 2) := by decide +kernel
theorem dL_law_67 : decode cL_law 67 = .ok (.aload_n 1, 1) := by decide +kernel
theorem dL_law_68 : decode cL_law 68 = .ok (.iload 5, 2) := by decide +kernel
theorem dL_law_70 : decode cL_law 70 = .ok (.iconst 0, 1) := by decide +kernel
theorem dL_law_71 : decode cL_law 71 = .ok (.iconst 1, 1) := by decide +kernel
theorem dL_law_72 : decode cL_law 72 = .ok (.invokevirtual 45, 3) := by decide +kernel
theorem dL_law_75 : decode cL_law 75 = .ok (.istore 7, 2) := by decide +kernel
theorem dL_law_77 : decode cL_law 77 = .ok (.aload_n 1, 1) := by decide +kernel
theorem dL_law_78 : decode cL_law 78 = .ok (.iload 5, 2) := by decide +kernel
theorem dL_law_80 : decode cL_law 80 = .ok (.iconst 0, 1) := by decide +kernel
theorem dL_law_81 : decode cL_law 81 = .ok (.iconst 2, 1) := by decide +kernel
theorem dL_law_82 : decode cL_law 82 = .ok (.invokevirtual 45, 3) := by decide +kernel
theorem dL_law_85 : decode cL_law 85 = .ok (.istore 8, 2) := by decide +kernel
theorem dL_law_87 : decode cL_law 87 = .ok (.iconst 0, 1) := by decide +kernel
theorem dL_law_88 : decode cL_law 88 = .ok (.istore 9, 2) := by decide +kernel
theorem dL_law_90 : decode cL_law 90 = .ok (.iconst (-1), 1) := by decide +kernel
theorem dL_law_91 : decode cL_law 91 = .ok (.istore 10, 2) := by decide +kernel
theorem dL_law_93 : decode cL_law 93 = .ok (.iconst 0, 1) := by decide +kernel
theorem dL_law_94 : decode cL_law 94 = .ok (.istore 11, 2) := by decide +kernel
theorem dL_law_96 : decode cL_law 96 = .ok (.iload 11, 2) := by decide +kernel
theorem dL_law_98 : decode cL_law 98 = .ok (.sipush 400, 3) := by decide +kernel
theorem dL_law_101 : decode cL_law 101 = .ok (.if_icmp .gt 177, 3) := by decide +kernel
theorem dL_law_104 : decode cL_law 104 = .ok (.iload 4, 2) := by decide +kernel
theorem dL_law_106 : decode cL_law 106 = .ok (.ifCond .eq 172, 3) := by decide +kernel
theorem dL_law_109 : decode cL_law 109 = .ok (.iload 10, 2) := by decide +kernel
theorem dL_law_111 : decode cL_law 111 = .ok (.ifCond .ge 20, 3) := by decide +kernel
theorem dL_law_114 : decode cL_law 114 = .ok (.iload 9, 2) := by decide +kernel
theorem dL_law_116 : decode cL_law 116 = .ok (.bipush 100, 2) := by decide +kernel
theorem dL_law_118 : decode cL_law 118 = .ok (.imul, 1) := by decide +kernel
theorem dL_law_119 : decode cL_law 119 = .ok (.iload 8, 2) := by decide +kernel
theorem dL_law_121 : decode cL_law 121 = .ok (.iload_n 3, 1) := by decide +kernel
theorem dL_law_122 : decode cL_law 122 = .ok (.imul, 1) := by decide +kernel
theorem dL_law_123 : decode cL_law 123 = .ok (.if_icmp .lt 8, 3) := by decide +kernel
theorem dL_law_126 : decode cL_law 126 = .ok (.iload 11, 2) := by decide +kernel
theorem dL_law_128 : decode cL_law 128 = .ok (.goto 5, 3) := by decide +kernel
theorem dL_law_131 : decode cL_law 131 = .ok (.iload 10, 2) := by decide +kernel
theorem dL_law_133 : decode cL_law 133 = .ok (.istore 10, 2) := by decide +kernel
theorem dL_law_135 : decode cL_law 135 = .ok (.iload 11, 2) := by decide +kernel
theorem dL_law_137 : decode cL_law 137 = .ok (.bipush 9, 2) := by decide +kernel
theorem dL_law_139 : decode cL_law 139 = .ok (.irem, 1) := by decide +kernel
theorem dL_law_140 : decode cL_law 140 = .ok (.ifCond .eq 10, 3) := by decide +kernel
theorem dL_law_143 : decode cL_law 143 = .ok (.iload 11, 2) := by decide +kernel
theorem dL_law_145 : decode cL_law 145 = .ok (.bipush 30, 2) := by decide +kernel
theorem dL_law_147 : decode cL_law 147 = .ok (.if_icmp .ge 25, 3) := by decide +kernel
theorem dL_law_150 : decode cL_law 150 = .ok (.aload_n 1, 1) := by decide +kernel
theorem dL_law_151 : decode cL_law 151 = .ok (.iload 5, 2) := by decide +kernel
theorem dL_law_153 : decode cL_law 153 = .ok (.iload 11, 2) := by decide +kernel
theorem dL_law_155 : decode cL_law 155 = .ok (.bipush 7, 2) := by decide +kernel
theorem dL_law_157 : decode cL_law 157 = .ok (.invokevirtual 45, 3) := by decide +kernel
theorem dL_law_160 : decode cL_law 160 = .ok (.iload 9, 2) := by decide +kernel
theorem dL_law_162 : decode cL_law 162 = .ok (.if_icmp .ne 7, 3) := by decide +kernel
theorem dL_law_165 : decode cL_law 165 = .ok (.iconst 1, 1) := by decide +kernel
theorem dL_law_166 : decode cL_law 166 = .ok (.goto 4, 3) := by decide +kernel
theorem dL_law_169 : decode cL_law 169 = .ok (.iconst 0, 1) := by decide +kernel
theorem dL_law_170 : decode cL_law 170 = .ok (.istore 4, 2) := by decide +kernel
theorem dL_law_172 : decode cL_law 172 = .ok (.aload_n 1, 1) := by decide +kernel
theorem dL_law_173 : decode cL_law 173 = .ok (.iload 5, 2) := by decide +kernel
theorem dL_law_175 : decode cL_law 175 = .ok (.iload 11, 2) := by decide +kernel
theorem dL_law_177 : decode cL_law 177 = .ok (.iconst 3, 1) := by decide +kernel
theorem dL_law_178 : decode cL_law 178 = .ok (.invokevirtual 45, 3) := by decide +kernel
theorem dL_law_181 : decode cL_law 181 = .ok (.istore 12, 2) := by decide +kernel
theorem dL_law_183 : decode cL_law 183 = .ok (.aload_n 1, 1) := by decide +kernel
theorem dL_law_184 : decode cL_law 184 = .ok (.iload 5, 2) := by decide +kernel
theorem dL_law_186 : decode cL_law 186 = .ok (.iload 11, 2) := by decide +kernel
theorem dL_law_188 : decode cL_law 188 = .ok (.iconst 4, 1) := by decide +kernel
theorem dL_law_189 : decode cL_law 189 = .ok (.invokevirtual 45, 3) := by decide +kernel
theorem dL_law_192 : decode cL_law 192 = .ok (.istore 13, 2) := by decide +kernel
theorem dL_law_194 : decode cL_law 194 = .ok (.aload_n 0, 1) := by decide +kernel
theorem dL_law_195 : decode cL_law 195 = .ok (.iconst 1, 1) := by decide +kernel
theorem dL_law_196 : decode cL_law 196 = .ok (.bipush 16, 2) := by decide +kernel
theorem dL_law_198 : decode cL_law 198 = .ok (.iload 6, 2) := by decide +kernel
theorem dL_law_200 : decode cL_law 200 = .ok (.imul, 1) := by decide +kernel
theorem dL_law_201 : decode cL_law 201 = .ok (.iconst 4, 1) := by decide +kernel
theorem dL_law_202 : decode cL_law 202 = .ok (.iload 12, 2) := by decide +kernel
theorem dL_law_204 : decode cL_law 204 = .ok (.imul, 1) := by decide +kernel
theorem dL_law_205 : decode cL_law 205 = .ok (.iadd, 1) := by decide +kernel
theorem dL_law_206 : decode cL_law 206 = .ok (.iload 13, 2) := by decide +kernel
theorem dL_law_208 : decode cL_law 208 = .ok (.iadd, 1) := by decide +kernel
theorem dL_law_209 : decode cL_law 209 = .ok (.bipush 17, 2) := by decide +kernel
theorem dL_law_211 : decode cL_law 211 = .ok (.irem, 1) := by decide +kernel
theorem dL_law_212 : decode cL_law 212 = .ok (.iadd, 1) := by decide +kernel
theorem dL_law_213 : decode cL_law 213 = .ok (.invokestatic 7, 3) := by decide +kernel
theorem dL_law_216 : decode cL_law 216 = .ok (.bipush 16, 2) := by decide +kernel
theorem dL_law_218 : decode cL_law 218 = .ok (.iload 6, 2) := by decide +kernel
theorem dL_law_220 : decode cL_law 220 = .ok (.imul, 1) := by decide +kernel
theorem dL_law_221 : decode cL_law 221 = .ok (.iconst 4, 1) := by decide +kernel
theorem dL_law_222 : decode cL_law 222 = .ok (.iload 12, 2) := by decide +kernel
theorem dL_law_224 : decode cL_law 224 = .ok (.imul, 1) := by decide +kernel
theorem dL_law_225 : decode cL_law 225 = .ok (.iadd, 1) := by decide +kernel
theorem dL_law_226 : decode cL_law 226 = .ok (.iload 13, 2) := by decide +kernel
theorem dL_law_228 : decode cL_law 228 = .ok (.iadd, 1) := by decide +kernel
theorem dL_law_229 : decode cL_law 229 = .ok (.bipush 13, 2) := by decide +kernel
theorem dL_law_231 : decode cL_law 231 = .ok (.irem, 1) := by decide +kernel
theorem dL_law_232 : decode cL_law 232 = .ok (.iushr, 1) := by decide +kernel
theorem dL_law_233 : decode cL_law 233 = .ok (.bipush 63, 2) := by decide +kernel
theorem dL_law_235 : decode cL_law 235 = .ok (.iand, 1) := by decide +kernel
theorem dL_law_236 : decode cL_law 236 = .ok (.bipush 51, 2) := by decide +kernel
theorem dL_law_238 : decode cL_law 238 = .ok (.irem, 1) := by decide +kernel
theorem dL_law_239 : decode cL_law 239 = .ok (.istore 14, 2) := by decide +kernel
theorem dL_law_241 : decode cL_law 241 = .ok (.iload 9, 2) := by decide +kernel
theorem dL_law_243 : decode cL_law 243 = .ok (.iload 11, 2) := by decide +kernel
theorem dL_law_245 : decode cL_law 245 = .ok (.iload 7, 2) := by decide +kernel
theorem dL_law_247 : decode cL_law 247 = .ok (.if_icmp .ge 7, 3) := by decide +kernel
theorem dL_law_250 : decode cL_law 250 = .ok (.iconst 0, 1) := by decide +kernel
theorem dL_law_251 : decode cL_law 251 = .ok (.goto 18, 3) := by decide +kernel
theorem dL_law_254 : decode cL_law 254 = .ok (.iload 14, 2) := by decide +kernel
theorem dL_law_256 : decode cL_law 256 = .ok (.iconst 1, 1) := by decide +kernel
theorem dL_law_257 : decode cL_law 257 = .ok (.aload_n 1, 1) := by decide +kernel
theorem dL_law_258 : decode cL_law 258 = .ok (.iload 5, 2) := by decide +kernel
theorem dL_law_260 : decode cL_law 260 = .ok (.iload 11, 2) := by decide +kernel
theorem dL_law_262 : decode cL_law 262 = .ok (.bipush 6, 2) := by decide +kernel
theorem dL_law_264 : decode cL_law 264 = .ok (.invokevirtual 45, 3) := by decide +kernel
theorem dL_law_267 : decode cL_law 267 = .ok (.iadd, 1) := by decide +kernel
theorem dL_law_268 : decode cL_law 268 = .ok (.imul, 1) := by decide +kernel
theorem dL_law_269 : decode cL_law 269 = .ok (.iadd, 1) := by decide +kernel
theorem dL_law_270 : decode cL_law 270 = .ok (.istore 9, 2) := by decide +kernel
theorem dL_law_272 : decode cL_law 272 = .ok (.iinc 11 1, 3) := by decide +kernel
theorem dL_law_275 : decode cL_law 275 = .ok (.goto (-179), 3) := by decide +kernel
theorem dL_law_278 : decode cL_law 278 = .ok (.iload 4, 2) := by decide +kernel
theorem dL_law_280 : decode cL_law 280 = .ok (.ifCond .eq 58, 3) := by decide +kernel
theorem dL_law_283 : decode cL_law 283 = .ok (.aload_n 1, 1) := by decide +kernel
theorem dL_law_284 : decode cL_law 284 = .ok (.iload 5, 2) := by decide +kernel
theorem dL_law_286 : decode cL_law 286 = .ok (.aload_n 0, 1) := by decide +kernel
theorem dL_law_287 : decode cL_law 287 = .ok (.bipush 41, 2) := by decide +kernel
theorem dL_law_289 : decode cL_law 289 = .ok (.sipush 401, 3) := by decide +kernel
theorem dL_law_292 : decode cL_law 292 = .ok (.invokestatic 14, 3) := by decide +kernel
theorem dL_law_295 : decode cL_law 295 = .ok (.bipush 8, 2) := by decide +kernel
theorem dL_law_297 : decode cL_law 297 = .ok (.invokevirtual 45, 3) := by decide +kernel
theorem dL_law_300 : decode cL_law 300 = .ok (.iload 10, 2) := by decide +kernel
theorem dL_law_302 : decode cL_law 302 = .ok (.if_icmp .ne 36, 3) := by decide +kernel
theorem dL_law_305 : decode cL_law 305 = .ok (.aload_n 1, 1) := by decide +kernel
theorem dL_law_306 : decode cL_law 306 = .ok (.iload 5, 2) := by decide +kernel
theorem dL_law_308 : decode cL_law 308 = .ok (.sipush 400, 3) := by decide +kernel
theorem dL_law_311 : decode cL_law 311 = .ok (.iconst 0, 1) := by decide +kernel
theorem dL_law_312 : decode cL_law 312 = .ok (.invokevirtual 45, 3) := by decide +kernel
theorem dL_law_315 : decode cL_law 315 = .ok (.iload 6, 2) := by decide +kernel
theorem dL_law_317 : decode cL_law 317 = .ok (.if_icmp .ne 21, 3) := by decide +kernel
theorem dL_law_320 : decode cL_law 320 = .ok (.aload_n 1, 1) := by decide +kernel
theorem dL_law_321 : decode cL_law 321 = .ok (.iload 5, 2) := by decide +kernel
theorem dL_law_323 : decode cL_law 323 = .ok (.bipush 7, 2) := by decide +kernel
theorem dL_law_325 : decode cL_law 325 = .ok (.iconst 1, 1) := by decide +kernel
theorem dL_law_326 : decode cL_law 326 = .ok (.invokevirtual 45, 3) := by decide +kernel
theorem dL_law_329 : decode cL_law 329 = .ok (.iload 7, 2) := by decide +kernel
theorem dL_law_331 : decode cL_law 331 = .ok (.if_icmp .ne 7, 3) := by decide +kernel
theorem dL_law_334 : decode cL_law 334 = .ok (.iconst 1, 1) := by decide +kernel
theorem dL_law_335 : decode cL_law 335 = .ok (.goto 4, 3) := by decide +kernel
theorem dL_law_338 : decode cL_law 338 = .ok (.iconst 0, 1) := by decide +kernel
theorem dL_law_339 : decode cL_law 339 = .ok (.istore 4, 2) := by decide +kernel
theorem dL_law_341 : decode cL_law 341 = .ok (.iinc 5 1, 3) := by decide +kernel
theorem dL_law_344 : decode cL_law 344 = .ok (.goto (-298), 3) := by decide +kernel
theorem dL_law_347 : decode cL_law 347 = .ok (.iload 4, 2) := by decide +kernel
theorem dL_law_349 : decode cL_law 349 = .ok (.ifCond .eq 26, 3) := by decide +kernel
theorem dL_law_352 : decode cL_law 352 = .ok (.aload_n 1, 1) := by decide +kernel
theorem dL_law_353 : decode cL_law 353 = .ok (.bipush 50, 2) := by decide +kernel
theorem dL_law_355 : decode cL_law 355 = .ok (.invokevirtual 41, 3) := by decide +kernel
theorem dL_law_358 : decode cL_law 358 = .ok (.iload_n 3, 1) := by decide +kernel
theorem dL_law_359 : decode cL_law 359 = .ok (.if_icmp .ne 16, 3) := by decide +kernel
theorem dL_law_362 : decode cL_law 362 = .ok (.aload_n 1, 1) := by decide +kernel
theorem dL_law_363 : decode cL_law 363 = .ok (.iconst 0, 1) := by decide +kernel
theorem dL_law_364 : decode cL_law 364 = .ok (.invokevirtual 48, 3) := by decide +kernel
theorem dL_law_367 : decode cL_law 367 = .ok (.iload_n 2, 1) := by decide +kernel
theorem dL_law_368 : decode cL_law 368 = .ok (.if_icmp .ne 7, 3) := by decide +kernel
theorem dL_law_371 : decode cL_law 371 = .ok (.iconst 1, 1) := by decide +kernel
theorem dL_law_372 : decode cL_law 372 = .ok (.goto 4, 3) := by decide +kernel
theorem dL_law_375 : decode cL_law 375 = .ok (.iconst 0, 1) := by decide +kernel
theorem dL_law_376 : decode cL_law 376 = .ok (.ireturn, 1) := by decide +kernel
