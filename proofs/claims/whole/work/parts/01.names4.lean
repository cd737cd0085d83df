set_option maxRecDepth 20000 in
theorem ggX9_init_X8_init : GoodIn wsX9_init wsX8_init := goodIn_r _ [112, 113, 2, 3, 24, 114, 115, 116, 117, 118, 173, 174, 175, 176, 177, 178] (by decide +kernel) (by decide +kernel)
set_option maxRecDepth 20000 in
theorem gX9_init_X8_init_n57 : GoodIn wsX9_init (wsX8_init) := ggX9_init_X8_init
theorem dX9_init_0 : decode cX9_init 0 = .ok (.aload_n 0, 1) := by decide +kernel
theorem dX9_init_1 : decode cX9_init 1 = .ok (.invokespecial 3, 3) := by decide +kernel
theorem dX9_init_4 : decode cX9_init 4 = .ok (.aload_n 0, 1) := by decide +kernel
theorem dX9_init_5 : decode cX9_init 5 = .ok (.new 9, 3) := by decide +kernel
theorem dX9_init_8 : decode cX9_init 8 = .ok (.dup, 1) := by decide +kernel
theorem dX9_init_9 : decode cX9_init 9 = .ok (.invokespecial 11, 3) := by decide +kernel
theorem dX9_init_12 : decode cX9_init 12 = .ok (.putfield 12, 3) := by decide +kernel
theorem dX9_init_15 : decode cX9_init 15 = .ok (.aload_n 0, 1) := by decide +kernel
theorem dX9_init_16 : decode cX9_init 16 = .ok (.new 16, 3) := by decide +kernel
theorem dX9_init_19 : decode cX9_init 19 = .ok (.dup, 1) := by decide +kernel
theorem dX9_init_20 : decode cX9_init 20 = .ok (.invokespecial 18, 3) := by decide +kernel
theorem dX9_init_23 : decode cX9_init 23 = .ok (.putfield 19, 3) := by decide +kernel
theorem dX9_init_26 : decode cX9_init 26 = .ok (.aload_n 0, 1) := by decide +kernel
theorem dX9_init_27 : decode cX9_init 27 = .ok (.new 23, 3) := by decide +kernel
theorem dX9_init_30 : decode cX9_init 30 = .ok (.dup, 1) := by decide +kernel
theorem dX9_init_31 : decode cX9_init 31 = .ok (.invokespecial 25, 3) := by decide +kernel
theorem dX9_init_34 : decode cX9_init 34 = .ok (.putfield 26, 3) := by decide +kernel
theorem dX9_init_37 : decode cX9_init 37 = .ok (.aload_n 0, 1) := by decide +kernel
theorem dX9_init_38 : decode cX9_init 38 = .ok (.new 30, 3) := by decide +kernel
theorem dX9_init_41 : decode cX9_init 41 = .ok (.dup, 1) := by decide +kernel
theorem dX9_init_42 : decode cX9_init 42 = .ok (.invokespecial 32, 3) := by decide +kernel
theorem dX9_init_45 : decode cX9_init 45 = .ok (.putfield 33, 3) := by decide +kernel
theorem dX9_init_48 : decode cX9_init 48 = .ok (.aload_n 0, 1) := by decide +kernel
theorem dX9_init_49 : decode cX9_init 49 = .ok (.new 37, 3) := by decide +kernel
theorem dX9_init_52 : decode cX9_init 52 = .ok (.dup, 1) := by decide +kernel
theorem dX9_init_53 : decode cX9_init 53 = .ok (.invokespecial 39, 3) := by decide +kernel
theorem dX9_init_56 : decode cX9_init 56 = .ok (.putfield 40, 3) := by decide +kernel
theorem dX9_init_59 : decode cX9_init 59 = .ok (.aload_n 0, 1) := by decide +kernel
theorem dX9_init_60 : decode cX9_init 60 = .ok (.bipush 7, 2) := by decide +kernel
theorem dX9_init_62 : decode cX9_init 62 = .ok (.newarray .int, 2) := by decide +kernel
theorem dX9_init_64 : decode cX9_init 64 = .ok (.putfield 44, 3) := by decide +kernel
theorem dX9_init_67 : decode cX9_init 67 = .ok (.aload_n 0, 1) := by decide +kernel
theorem dX9_init_68 : decode cX9_init 68 = .ok (.new 48, 3) := by decide +kernel
theorem dX9_init_71 : decode cX9_init 71 = .ok (.dup, 1) := by decide +kernel
theorem dX9_init_72 : decode cX9_init 72 = .ok (.invokespecial 50, 3) := by decide +kernel
theorem dX9_init_75 : decode cX9_init 75 = .ok (.putfield 51, 3) := by decide +kernel
theorem dX9_init_78 : decode cX9_init 78 = .ok (.aload_n 0, 1) := by decide +kernel
theorem dX9_init_79 : decode cX9_init 79 = .ok (.new 55, 3) := by decide +kernel
theorem dX9_init_82 : decode cX9_init 82 = .ok (.dup, 1) := by decide +kernel
theorem dX9_init_83 : decode cX9_init 83 = .ok (.invokespecial 57, 3) := by decide +kernel
theorem dX9_init_86 : decode cX9_init 86 = .ok (.putfield 58, 3) := by decide +kernel
theorem dX9_init_89 : decode cX9_init 89 = .ok (.return_, 1) := by decide +kernel
set_option maxRecDepth 20000 in
theorem ggX9_block_X9_isBelow : GoodIn wsX9_block wsX9_isBelow := goodIn_r _ [5] (by decide +kernel) (by decide +kernel)
set_option maxRecDepth 20000 in
theorem gX9_block_X9_isBelow : GoodIn wsX9_block (va_wsS RX9 62 yX9_isBelow wsX9_isBelow) := goodIn_app (goodIn_of _ (by decide +kernel)) ggX9_block_X9_isBelow
set_option maxRecDepth 20000 in
theorem ggX9_block_X3_addBlock : GoodIn wsX9_block wsX3_addBlock := goodIn_r _ [10, 11, 12, 13, 14, 3, 4, 5, 23, 24, 25, 26, 27, 28, 29, 30, 31, 32] (by decide +kernel) (by decide +kernel)
set_option maxRecDepth 20000 in
theorem gX9_block_X3_addBlock : GoodIn wsX9_block (wsV RX9 66 RX3 yX3_addBlock wsX3_addBlock) := goodIn_app (goodIn_of _ (by decide +kernel)) ggX9_block_X3_addBlock
theorem dX9_block_0 : decode cX9_block 0 = .ok (.iload_n 1, 1) := by decide +kernel
theorem dX9_block_1 : decode cX9_block 1 = .ok (.iconst 4, 1) := by decide +kernel
theorem dX9_block_2 : decode cX9_block 2 = .ok (.invokestatic 62, 3) := by decide +kernel
theorem dX9_block_5 : decode cX9_block 5 = .ok (.ifCond .eq 25, 3) := by decide +kernel
theorem dX9_block_8 : decode cX9_block 8 = .ok (.iload_n 2, 1) := by decide +kernel
theorem dX9_block_9 : decode cX9_block 9 = .ok (.sipush 401, 3) := by decide +kernel
theorem dX9_block_12 : decode cX9_block 12 = .ok (.invokestatic 62, 3) := by decide +kernel
theorem dX9_block_15 : decode cX9_block 15 = .ok (.ifCond .eq 15, 3) := by decide +kernel
theorem dX9_block_18 : decode cX9_block 18 = .ok (.iload_n 3, 1) := by decide +kernel
theorem dX9_block_19 : decode cX9_block 19 = .ok (.iconst 1, 1) := by decide +kernel
theorem dX9_block_20 : decode cX9_block 20 = .ok (.if_icmp .lt 10, 3) := by decide +kernel
theorem dX9_block_23 : decode cX9_block 23 = .ok (.iload_n 3, 1) := by decide +kernel
theorem dX9_block_24 : decode cX9_block 24 = .ok (.sipush 2000, 3) := by decide +kernel
theorem dX9_block_27 : decode cX9_block 27 = .ok (.if_icmp .le 7, 3) := by decide +kernel
theorem dX9_block_30 : decode cX9_block 30 = .ok (.sipush (-1002), 3) := by decide +kernel
theorem dX9_block_33 : decode cX9_block 33 = .ok (.ireturn, 1) := by decide +kernel
theorem dX9_block_34 : decode cX9_block 34 = .ok (.aload_n 0, 1) := by decide +kernel
theorem dX9_block_35 : decode cX9_block 35 = .ok (.getfield 12, 3) := by decide +kernel
theorem dX9_block_38 : decode cX9_block 38 = .ok (.iload_n 1, 1) := by decide +kernel
theorem dX9_block_39 : decode cX9_block 39 = .ok (.iload_n 2, 1) := by decide +kernel
theorem dX9_block_40 : decode cX9_block 40 = .ok (.iload_n 3, 1) := by decide +kernel
theorem dX9_block_41 : decode cX9_block 41 = .ok (.invokevirtual 66, 3) := by decide +kernel
theorem dX9_block_44 : decode cX9_block 44 = .ok (.ireturn, 1) := by decide +kernel
set_option maxRecDepth 20000 in
theorem ggX9_place_X3_hasBlock : GoodIn wsX9_place wsX3_hasBlock := goodIn_r _ [6, 7, 8, 9, 10, 35, 36, 37, 38, 39, 40, 41, 42, 43, 44] (by decide +kernel) (by decide +kernel)
set_option maxRecDepth 20000 in
theorem gX9_place_X3_hasBlock : GoodIn wsX9_place (wsV RX9 70 RX3 yX3_hasBlock wsX3_hasBlock) := goodIn_app (goodIn_of _ (by decide +kernel)) ggX9_place_X3_hasBlock
set_option maxRecDepth 20000 in
theorem ggX9_place_X9_isBelow : GoodIn wsX9_place wsX9_isBelow := goodIn_r _ [10] (by decide +kernel) (by decide +kernel)
set_option maxRecDepth 20000 in
theorem gX9_place_X9_isBelow : GoodIn wsX9_place (va_wsS RX9 62 yX9_isBelow wsX9_isBelow) := goodIn_app (goodIn_of _ (by decide +kernel)) ggX9_place_X9_isBelow
set_option maxRecDepth 20000 in
theorem ggX9_place_X9_isSpot : GoodIn wsX9_place wsX9_isSpot := goodIn_r _ [14, 11, 8, 9, 10] (by decide +kernel) (by decide +kernel)
set_option maxRecDepth 20000 in
theorem gX9_place_X9_isSpot : GoodIn wsX9_place (va_wsS RX9 74 yX9_isSpot wsX9_isSpot) := goodIn_app (goodIn_of _ (by decide +kernel)) ggX9_place_X9_isSpot
set_option maxRecDepth 20000 in
theorem ggX9_place_X9_spot : GoodIn wsX9_place wsX9_spot := goodIn_r _ [17] (by decide +kernel) (by decide +kernel)
set_option maxRecDepth 20000 in
theorem gX9_place_X9_spot : GoodIn wsX9_place (va_wsS RX9 81 yX9_spot wsX9_spot) := goodIn_app (goodIn_of _ (by decide +kernel)) ggX9_place_X9_spot
set_option maxRecDepth 20000 in
theorem ggX9_place_X7_add : GoodIn wsX9_place wsX7_add := goodIn_r _ [22, 23, 24, 25, 26, 8, 9, 10, 45, 46, 47, 48, 49] (by decide +kernel) (by decide +kernel)
set_option maxRecDepth 20000 in
theorem gX9_place_X7_add : GoodIn wsX9_place (wsV RX9 85 RX7 yX7_add wsX7_add) := goodIn_app (goodIn_of _ (by decide +kernel)) ggX9_place_X7_add
theorem dX9_place_0 : decode cX9_place 0 = .ok (.aload_n 0, 1) := by decide +kernel
theorem dX9_place_1 : decode cX9_place 1 = .ok (.getfield 12, 3) := by decide +kernel
theorem dX9_place_4 : decode cX9_place 4 = .ok (.iload_n 1, 1) := by decide +kernel
theorem dX9_place_5 : decode cX9_place 5 = .ok (.invokevirtual 70, 3) := by decide +kernel
theorem dX9_place_8 : decode cX9_place 8 = .ok (.ifCond .ne 7, 3) := by decide +kernel
theorem dX9_place_11 : decode cX9_place 11 = .ok (.sipush (-1001), 3) := by decide +kernel
theorem dX9_place_14 : decode cX9_place 14 = .ok (.ireturn, 1) := by decide +kernel
theorem dX9_place_15 : decode cX9_place 15 = .ok (.iload_n 2, 1) := by decide +kernel
theorem dX9_place_16 : decode cX9_place 16 = .ok (.sipush 401, 3) := by decide +kernel
theorem dX9_place_19 : decode cX9_place 19 = .ok (.invokestatic 62, 3) := by decide +kernel
theorem dX9_place_22 : decode cX9_place 22 = .ok (.ifCond .eq 22, 3) := by decide +kernel
theorem dX9_place_25 : decode cX9_place 25 = .ok (.iload_n 3, 1) := by decide +kernel
theorem dX9_place_26 : decode cX9_place 26 = .ok (.iload 4, 2) := by decide +kernel
theorem dX9_place_28 : decode cX9_place 28 = .ok (.invokestatic 74, 3) := by decide +kernel
theorem dX9_place_31 : decode cX9_place 31 = .ok (.ifCond .eq 13, 3) := by decide +kernel
theorem dX9_place_34 : decode cX9_place 34 = .ok (.iload 5, 2) := by decide +kernel
theorem dX9_place_36 : decode cX9_place 36 = .ok (.bipush 8, 2) := by decide +kernel
theorem dX9_place_38 : decode cX9_place 38 = .ok (.invokestatic 62, 3) := by decide +kernel
theorem dX9_place_41 : decode cX9_place 41 = .ok (.ifCond .ne 7, 3) := by decide +kernel
theorem dX9_place_44 : decode cX9_place 44 = .ok (.sipush (-1002), 3) := by decide +kernel
theorem dX9_place_47 : decode cX9_place 47 = .ok (.ireturn, 1) := by decide +kernel
theorem dX9_place_48 : decode cX9_place 48 = .ok (.aload_n 0, 1) := by decide +kernel
theorem dX9_place_49 : decode cX9_place 49 = .ok (.getfield 12, 3) := by decide +kernel
theorem dX9_place_52 : decode cX9_place 52 = .ok (.getfield 77, 3) := by decide +kernel
theorem dX9_place_55 : decode cX9_place 55 = .ok (.iload_n 1, 1) := by decide +kernel
theorem dX9_place_56 : decode cX9_place 56 = .ok (.iload_n 2, 1) := by decide +kernel
theorem dX9_place_57 : decode cX9_place 57 = .ok (.iload 5, 2) := by decide +kernel
theorem dX9_place_59 : decode cX9_place 59 = .ok (.bipush 16, 2) := by decide +kernel
theorem dX9_place_61 : decode cX9_place 61 = .ok (.imul, 1) := by decide +kernel
theorem dX9_place_62 : decode cX9_place 62 = .ok (.iload_n 3, 1) := by decide +kernel
theorem dX9_place_63 : decode cX9_place 63 = .ok (.iload 4, 2) := by decide +kernel
theorem dX9_place_65 : decode cX9_place 65 = .ok (.invokestatic 81, 3) := by decide +kernel
theorem dX9_place_68 : decode cX9_place 68 = .ok (.iadd, 1) := by decide +kernel
theorem dX9_place_69 : decode cX9_place 69 = .ok (.invokevirtual 85, 3) := by decide +kernel
theorem dX9_place_72 : decode cX9_place 72 = .ok (.ireturn, 1) := by decide +kernel
set_option maxRecDepth 20000 in
theorem ggX9_mortar_X3_hasBlock : GoodIn wsX9_mortar wsX3_hasBlock := goodIn_r _ [6, 7, 8, 9, 10, 29, 30, 31, 32, 33, 34, 35, 36, 37, 38] (by decide +kernel) (by decide +kernel)
set_option maxRecDepth 20000 in
theorem gX9_mortar_X3_hasBlock : GoodIn wsX9_mortar (wsV RX9 70 RX3 yX3_hasBlock wsX3_hasBlock) := goodIn_app (goodIn_of _ (by decide +kernel)) ggX9_mortar_X3_hasBlock
set_option maxRecDepth 20000 in
theorem ggX9_mortar_X9_isBelow : GoodIn wsX9_mortar wsX9_isBelow := goodIn_r _ [10] (by decide +kernel) (by decide +kernel)
set_option maxRecDepth 20000 in
theorem gX9_mortar_X9_isBelow : GoodIn wsX9_mortar (va_wsS RX9 62 yX9_isBelow wsX9_isBelow) := goodIn_app (goodIn_of _ (by decide +kernel)) ggX9_mortar_X9_isBelow
set_option maxRecDepth 20000 in
theorem ggX9_mortar_X7_add : GoodIn wsX9_mortar wsX7_add := goodIn_r _ [16, 17, 18, 19, 20, 8, 9, 10, 39, 40, 41, 42, 43] (by decide +kernel) (by decide +kernel)
set_option maxRecDepth 20000 in
theorem gX9_mortar_X7_add : GoodIn wsX9_mortar (wsV RX9 85 RX7 yX7_add wsX7_add) := goodIn_app (goodIn_of _ (by decide +kernel)) ggX9_mortar_X7_add
theorem dX9_mortar_0 : decode cX9_mortar 0 = .ok (.aload_n 0, 1) := by decide +kernel
theorem dX9_mortar_1 : decode cX9_mortar 1 = .ok (.getfield 12, 3) := by decide +kernel
theorem dX9_mortar_4 : decode cX9_mortar 4 = .ok (.iload_n 1, 1) := by decide +kernel
theorem dX9_mortar_5 : decode cX9_mortar 5 = .ok (.invokevirtual 70, 3) := by decide +kernel
theorem dX9_mortar_8 : decode cX9_mortar 8 = .ok (.ifCond .ne 7, 3) := by decide +kernel
theorem dX9_mortar_11 : decode cX9_mortar 11 = .ok (.sipush (-1001), 3) := by decide +kernel
theorem dX9_mortar_14 : decode cX9_mortar 14 = .ok (.ireturn, 1) := by decide +kernel
theorem dX9_mortar_15 : decode cX9_mortar 15 = .ok (.iload_n 2, 1) := by decide +kernel
theorem dX9_mortar_16 : decode cX9_mortar 16 = .ok (.sipush 401, 3) := by decide +kernel
theorem dX9_mortar_19 : decode cX9_mortar 19 = .ok (.invokestatic 62, 3) := by decide +kernel
theorem dX9_mortar_22 : decode cX9_mortar 22 = .ok (.ifCond .ne 7, 3) := by decide +kernel
theorem dX9_mortar_25 : decode cX9_mortar 25 = .ok (.sipush (-1002), 3) := by decide +kernel
theorem dX9_mortar_28 : decode cX9_mortar 28 = .ok (.ireturn, 1) := by decide +kernel
theorem dX9_mortar_29 : decode cX9_mortar 29 = .ok (.aload_n 0, 1) := by decide +kernel
theorem dX9_mortar_30 : decode cX9_mortar 30 = .ok (.getfield 12, 3) := by decide +kernel
theorem dX9_mortar_33 : decode cX9_mortar 33 = .ok (.getfield 90, 3) := by decide +kernel
theorem dX9_mortar_36 : decode cX9_mortar 36 = .ok (.iload_n 1, 1) := by decide +kernel
theorem dX9_mortar_37 : decode cX9_mortar 37 = .ok (.iload_n 2, 1) := by decide +kernel
theorem dX9_mortar_38 : decode cX9_mortar 38 = .ok (.iload_n 3, 1) := by decide +kernel
theorem dX9_mortar_39 : decode cX9_mortar 39 = .ok (.ifCond .eq 7, 3) := by decide +kernel
theorem dX9_mortar_42 : decode cX9_mortar 42 = .ok (.iconst 1, 1) := by decide +kernel
theorem dX9_mortar_43 : decode cX9_mortar 43 = .ok (.goto 4, 3) := by decide +kernel
theorem dX9_mortar_46 : decode cX9_mortar 46 = .ok (.iconst 0, 1) := by decide +kernel
theorem dX9_mortar_47 : decode cX9_mortar 47 = .ok (.invokevirtual 85, 3) := by decide +kernel
theorem dX9_mortar_50 : decode cX9_mortar 50 = .ok (.ireturn, 1) := by decide +kernel
set_option maxRecDepth 20000 in
theorem ggX9_rate_X9_isBelow : GoodIn wsX9_rate wsX9_isBelow := goodIn_r _ [5] (by decide +kernel) (by decide +kernel)
set_option maxRecDepth 20000 in
theorem gX9_rate_X9_isBelow : GoodIn wsX9_rate (va_wsS RX9 62 yX9_isBelow wsX9_isBelow) := goodIn_app (goodIn_of _ (by decide +kernel)) ggX9_rate_X9_isBelow
set_option maxRecDepth 20000 in
theorem ggX9_rate_X9_isSpot : GoodIn wsX9_rate wsX9_isSpot := goodIn_r _ [8, 2, 3, 4, 5] (by decide +kernel) (by decide +kernel)
set_option maxRecDepth 20000 in
theorem gX9_rate_X9_isSpot : GoodIn wsX9_rate (va_wsS RX9 74 yX9_isSpot wsX9_isSpot) := goodIn_app (goodIn_of _ (by decide +kernel)) ggX9_rate_X9_isSpot
set_option maxRecDepth 20000 in
theorem ggX9_rate_X9_spot : GoodIn wsX9_rate wsX9_spot := goodIn_r _ [11] (by decide +kernel) (by decide +kernel)
set_option maxRecDepth 20000 in
theorem gX9_rate_X9_spot : GoodIn wsX9_rate (va_wsS RX9 81 yX9_spot wsX9_spot) := goodIn_app (goodIn_of _ (by decide +kernel)) ggX9_rate_X9_spot
set_option maxRecDepth 20000 in
theorem ggX9_rate_X3_changeRate : GoodIn wsX9_rate wsX3_changeRate := goodIn_r _ [16, 17, 18, 4, 19, 3, 5, 28, 29, 30, 31, 32, 33, 34, 35, 36, 37] (by decide +kernel) (by decide +kernel)
set_option maxRecDepth 20000 in
theorem gX9_rate_X3_changeRate : GoodIn wsX9_rate (wsV RX9 93 RX3 yX3_changeRate wsX3_changeRate) := goodIn_app (goodIn_of _ (by decide +kernel)) ggX9_rate_X3_changeRate
theorem dX9_rate_0 : decode cX9_rate 0 = .ok (.iload_n 1, 1) := by decide +kernel
theorem dX9_rate_1 : decode cX9_rate 1 = .ok (.iconst 4, 1) := by decide +kernel
theorem dX9_rate_2 : decode cX9_rate 2 = .ok (.invokestatic 62, 3) := by decide +kernel
theorem dX9_rate_5 : decode cX9_rate 5 = .ok (.ifCond .eq 23, 3) := by decide +kernel
theorem dX9_rate_8 : decode cX9_rate 8 = .ok (.iload_n 2, 1) := by decide +kernel
theorem dX9_rate_9 : decode cX9_rate 9 = .ok (.iload_n 3, 1) := by decide +kernel
theorem dX9_rate_10 : decode cX9_rate 10 = .ok (.invokestatic 74, 3) := by decide +kernel
theorem dX9_rate_13 : decode cX9_rate 13 = .ok (.ifCond .eq 15, 3) := by decide +kernel
theorem dX9_rate_16 : decode cX9_rate 16 = .ok (.iload 4, 2) := by decide +kernel
theorem dX9_rate_18 : decode cX9_rate 18 = .ok (.ifCond .lt 10, 3) := by decide +kernel
theorem dX9_rate_21 : decode cX9_rate 21 = .ok (.iload 4, 2) := by decide +kernel
theorem dX9_rate_23 : decode cX9_rate 23 = .ok (.bipush 50, 2) := by decide +kernel
theorem dX9_rate_25 : decode cX9_rate 25 = .ok (.if_icmp .le 7, 3) := by decide +kernel
theorem dX9_rate_28 : decode cX9_rate 28 = .ok (.sipush (-1002), 3) := by decide +kernel
theorem dX9_rate_31 : decode cX9_rate 31 = .ok (.ireturn, 1) := by decide +kernel
theorem dX9_rate_32 : decode cX9_rate 32 = .ok (.aload_n 0, 1) := by decide +kernel
theorem dX9_rate_33 : decode cX9_rate 33 = .ok (.getfield 12, 3) := by decide +kernel
theorem dX9_rate_36 : decode cX9_rate 36 = .ok (.iload_n 1, 1) := by decide +kernel
theorem dX9_rate_37 : decode cX9_rate 37 = .ok (.iload_n 2, 1) := by decide +kernel
theorem dX9_rate_38 : decode cX9_rate 38 = .ok (.iload_n 3, 1) := by decide +kernel
theorem dX9_rate_39 : decode cX9_rate 39 = .ok (.invokestatic 81, 3) := by decide +kernel
theorem dX9_rate_42 : decode cX9_rate 42 = .ok (.iload 4, 2) := by decide +kernel
theorem dX9_rate_44 : decode cX9_rate 44 = .ok (.invokevirtual 93, 3) := by decide +kernel
theorem dX9_rate_47 : decode cX9_rate 47 = .ok (.ireturn, 1) := by decide +kernel
set_option maxRecDepth 20000 in
theorem ggX9_limit_X3_changeLimit : GoodIn wsX9_limit wsX3_changeLimit := goodIn_r _ [6, 7, 16, 17, 18, 19, 20, 21, 22, 23, 24, 25] (by decide +kernel) (by decide +kernel)
set_option maxRecDepth 20000 in
theorem gX9_limit_X3_changeLimit : GoodIn wsX9_limit (wsV RX9 96 RX3 yX3_changeLimit wsX3_changeLimit) := goodIn_app (goodIn_of _ (by decide +kernel)) ggX9_limit_X3_changeLimit
theorem dX9_limit_0 : decode cX9_limit 0 = .ok (.iload_n 1, 1) := by decide +kernel
theorem dX9_limit_1 : decode cX9_limit 1 = .ok (.iconst 1, 1) := by decide +kernel
theorem dX9_limit_2 : decode cX9_limit 2 = .ok (.if_icmp .lt 9, 3) := by decide +kernel
theorem dX9_limit_5 : decode cX9_limit 5 = .ok (.iload_n 1, 1) := by decide +kernel
theorem dX9_limit_6 : decode cX9_limit 6 = .ok (.bipush 100, 2) := by decide +kernel
theorem dX9_limit_8 : decode cX9_limit 8 = .ok (.if_icmp .le 7, 3) := by decide +kernel
theorem dX9_limit_11 : decode cX9_limit 11 = .ok (.sipush (-1002), 3) := by decide +kernel
theorem dX9_limit_14 : decode cX9_limit 14 = .ok (.ireturn, 1) := by decide +kernel
theorem dX9_limit_15 : decode cX9_limit 15 = .ok (.aload_n 0, 1) := by decide +kernel
theorem dX9_limit_16 : decode cX9_limit 16 = .ok (.getfield 12, 3) := by decide +kernel
theorem dX9_limit_19 : decode cX9_limit 19 = .ok (.iload_n 1, 1) := by decide +kernel
theorem dX9_limit_20 : decode cX9_limit 20 = .ok (.invokevirtual 96, 3) := by decide +kernel
theorem dX9_limit_23 : decode cX9_limit 23 = .ok (.ireturn, 1) := by decide +kernel
set_option maxRecDepth 20000 in
theorem ggX9_told_X3_hasBlock : GoodIn wsX9_told wsX3_hasBlock := goodIn_r _ [7, 8, 9, 10, 11, 106, 107, 108, 109, 110, 111, 112, 113, 114, 115] (by decide +kernel) (by decide +kernel)
set_option maxRecDepth 20000 in
theorem gX9_told_X3_hasBlock : GoodIn wsX9_told (wsV RX9 70 RX3 yX3_hasBlock wsX3_hasBlock) := goodIn_app (goodIn_of _ (by decide +kernel)) ggX9_told_X3_hasBlock
set_option maxRecDepth 20000 in
theorem ggX9_told_X9_isBelow : GoodIn wsX9_told wsX9_isBelow := goodIn_r _ [11] (by decide +kernel) (by decide +kernel)
set_option maxRecDepth 20000 in
theorem gX9_told_X9_isBelow : GoodIn wsX9_told (va_wsS RX9 62 yX9_isBelow wsX9_isBelow) := goodIn_app (goodIn_of _ (by decide +kernel)) ggX9_told_X9_isBelow
set_option maxRecDepth 20000 in
theorem ggX9_told_X0_follow : GoodIn wsX9_told wsX0_follow := goodIn_r _ [17, 18, 19, 20, 21, 22, 23, 24, 25, 26, 27, 28, 29, 30, 31, 32, 33, 34, 35, 36, 37, 38, 39, 40, 41, 42, 43, 44, 45, 46, 6, 47, 48, 49, 10, 50, 51, 52, 53, 54, 55, 56, 57, 58, 59, 60, 61, 62, 63, 64, 65, 66, 67, 68, 69, 70, 106, 107, 108, 109, 110, 111, 112, 113, 114, 115, 102, 103, 104, 105, 116, 117, 118, 119, 120] (by decide +kernel) (by decide +kernel)
set_option maxRecDepth 20000 in
theorem gX9_told_X0_follow : GoodIn wsX9_told (wsV RX9 100 RX0 yX0_follow wsX0_follow) := goodIn_app (goodIn_of _ (by decide +kernel)) ggX9_told_X0_follow
set_option maxRecDepth 20000 in
theorem ggX9_told_X3_stoneOf : GoodIn wsX9_told wsX3_stoneOf := goodIn_r _ [47, 48, 49, 10, 50, 106, 107, 108, 109, 110, 111, 112, 113, 114, 115] (by decide +kernel) (by decide +kernel)
set_option maxRecDepth 20000 in
theorem gX9_told_X3_stoneOf : GoodIn wsX9_told (wsV RX9 104 RX3 yX3_stoneOf wsX3_stoneOf) := goodIn_app (goodIn_of _ (by decide +kernel)) ggX9_told_X3_stoneOf
set_option maxRecDepth 20000 in
theorem ggX9_told_X3_laidOf : GoodIn wsX9_told wsX3_laidOf := goodIn_r _ [54, 55, 49, 10, 50, 106, 107, 108, 109, 110, 111, 112, 113, 114, 115] (by decide +kernel) (by decide +kernel)
set_option maxRecDepth 20000 in
theorem gX9_told_X3_laidOf : GoodIn wsX9_told (wsV RX9 107 RX3 yX3_laidOf wsX3_laidOf) := goodIn_app (goodIn_of _ (by decide +kernel)) ggX9_told_X3_laidOf
set_option maxRecDepth 20000 in
theorem ggX9_told_X3_deepOf : GoodIn wsX9_told wsX3_deepOf := goodIn_r _ [64, 65, 49, 10, 50, 106, 107, 108, 109, 110, 111, 112, 113, 114, 115] (by decide +kernel) (by decide +kernel)
set_option maxRecDepth 20000 in
theorem gX9_told_X3_deepOf : GoodIn wsX9_told (wsV RX9 110 RX3 yX3_deepOf wsX3_deepOf) := goodIn_app (goodIn_of _ (by decide +kernel)) ggX9_told_X3_deepOf
set_option maxRecDepth 20000 in
theorem ggX9_told_X0_sideAt : GoodIn wsX9_told wsX0_sideAt := goodIn_r _ [77, 18, 49, 10, 50, 102, 103, 104, 105] (by decide +kernel) (by decide +kernel)
set_option maxRecDepth 20000 in
theorem gX9_told_X0_sideAt : GoodIn wsX9_told (wsV RX9 113 RX0 yX0_sideAt wsX0_sideAt) := goodIn_app (goodIn_of _ (by decide +kernel)) ggX9_told_X0_sideAt
set_option maxRecDepth 20000 in
theorem ggX9_told_X0_wetAt : GoodIn wsX9_told wsX0_wetAt := goodIn_r _ [81, 18, 49, 10, 50, 102, 103, 104, 105] (by decide +kernel) (by decide +kernel)
set_option maxRecDepth 20000 in
theorem gX9_told_X0_wetAt : GoodIn wsX9_told (wsV RX9 116 RX0 yX0_wetAt wsX0_wetAt) := goodIn_app (goodIn_of _ (by decide +kernel)) ggX9_told_X0_wetAt
set_option maxRecDepth 20000 in
theorem ggX9_told_X0_zoneAt : GoodIn wsX9_told wsX0_zoneAt := goodIn_r _ [85, 18, 49, 10, 50, 102, 103, 104, 105] (by decide +kernel) (by decide +kernel)
set_option maxRecDepth 20000 in
theorem gX9_told_X0_zoneAt : GoodIn wsX9_told (wsV RX9 119 RX0 yX0_zoneAt wsX0_zoneAt) := goodIn_app (goodIn_of _ (by decide +kernel)) ggX9_told_X0_zoneAt
set_option maxRecDepth 20000 in
theorem ggX9_told_X0_harmAt : GoodIn wsX9_told wsX0_harmAt := goodIn_r _ [89, 19, 49, 10, 50, 102, 103, 104, 105] (by decide +kernel) (by decide +kernel)
set_option maxRecDepth 20000 in
theorem gX9_told_X0_harmAt : GoodIn wsX9_told (wsV RX9 122 RX0 yX0_harmAt wsX0_harmAt) := goodIn_app (goodIn_of _ (by decide +kernel)) ggX9_told_X0_harmAt
set_option maxRecDepth 20000 in
theorem ggX9_told_X0_lostAt : GoodIn wsX9_told wsX0_lostAt := goodIn_r _ [93, 21, 49, 10, 50, 102, 103, 104, 105] (by decide +kernel) (by decide +kernel)
set_option maxRecDepth 20000 in
theorem gX9_told_X0_lostAt : GoodIn wsX9_told (wsV RX9 125 RX0 yX0_lostAt wsX0_lostAt) := goodIn_app (goodIn_of _ (by decide +kernel)) ggX9_told_X0_lostAt
theorem dX9_told_0 : decode cX9_told 0 = .ok (.aload_n 0, 1) := by decide +kernel
theorem dX9_told_1 : decode cX9_told 1 = .ok (.getfield 12, 3) := by decide +kernel
theorem dX9_told_4 : decode cX9_told 4 = .ok (.iload_n 1, 1) := by decide +kernel
theorem dX9_told_5 : decode cX9_told 5 = .ok (.invokevirtual 70, 3) := by decide +kernel
theorem dX9_told_8 : decode cX9_told 8 = .ok (.ifCond .ne 7, 3) := by decide +kernel
theorem dX9_told_11 : decode cX9_told 11 = .ok (.sipush (-1001), 3) := by decide +kernel
theorem dX9_told_14 : decode cX9_told 14 = .ok (.ireturn, 1) := by decide +kernel
theorem dX9_told_15 : decode cX9_told 15 = .ok (.iload_n 2, 1) := by decide +kernel
theorem dX9_told_16 : decode cX9_told 16 = .ok (.sipush 401, 3) := by decide +kernel
theorem dX9_told_19 : decode cX9_told 19 = .ok (.invokestatic 62, 3) := by decide +kernel
theorem dX9_told_22 : decode cX9_told 22 = .ok (.ifCond .ne 7, 3) := by decide +kernel
theorem dX9_told_25 : decode cX9_told 25 = .ok (.sipush (-1002), 3) := by decide +kernel
theorem dX9_told_28 : decode cX9_told 28 = .ok (.ireturn, 1) := by decide +kernel
theorem dX9_told_29 : decode cX9_told 29 = .ok (.aload_n 0, 1) := by decide +kernel
theorem dX9_told_30 : decode cX9_told 30 = .ok (.getfield 19, 3) := by decide +kernel
theorem dX9_told_33 : decode cX9_told 33 = .ok (.aload_n 0, 1) := by decide +kernel
theorem dX9_told_34 : decode cX9_told 34 = .ok (.getfield 12, 3) := by decide +kernel
theorem dX9_told_37 : decode cX9_told 37 = .ok (.iload_n 1, 1) := by decide +kernel
theorem dX9_told_38 : decode cX9_told 38 = .ok (.invokevirtual 100, 3) := by decide +kernel
theorem dX9_told_41 : decode cX9_told 41 = .ok (.iload_n 3, 1) := by decide +kernel
theorem dX9_told_42 : decode cX9_told 42 = .ok (.tableswitch 130 0 8 #[50, 59, 68, 77, 86, 95, 104, 113, 122], 50) := by decide +kernel
theorem dX9_told_92 : decode cX9_told 92 = .ok (.aload_n 0, 1) := by decide +kernel
theorem dX9_told_93 : decode cX9_told 93 = .ok (.getfield 12, 3) := by decide +kernel
theorem dX9_told_96 : decode cX9_told 96 = .ok (.iload_n 1, 1) := by decide +kernel
theorem dX9_told_97 : decode cX9_told 97 = .ok (.invokevirtual 104, 3) := by decide +kernel
theorem dX9_told_100 : decode cX9_told 100 = .ok (.ireturn, 1) := by decide +kernel
theorem dX9_told_101 : decode cX9_told 101 = .ok (.aload_n 0, 1) := by decide +kernel
theorem dX9_told_102 : decode cX9_told 102 = .ok (.getfield 12, 3) := by decide +kernel
theorem dX9_told_105 : decode cX9_told 105 = .ok (.iload_n 1, 1) := by decide +kernel
theorem dX9_told_106 : decode cX9_told 106 = .ok (.invokevirtual 107, 3) := by decide +kernel
theorem dX9_told_109 : decode cX9_told 109 = .ok (.ireturn, 1) := by decide +kernel
theorem dX9_told_110 : decode cX9_told 110 = .ok (.aload_n 0, 1) := by decide +kernel
theorem dX9_told_111 : decode cX9_told 111 = .ok (.getfield 12, 3) := by decide +kernel
theorem dX9_told_114 : decode cX9_told 114 = .ok (.iload_n 1, 1) := by decide +kernel
theorem dX9_told_115 : decode cX9_told 115 = .ok (.invokevirtual 110, 3) := by decide +kernel
theorem dX9_told_118 : decode cX9_told 118 = .ok (.ireturn, 1) := by decide +kernel
theorem dX9_told_119 : decode cX9_told 119 = .ok (.aload_n 0, 1) := by decide +kernel
theorem dX9_told_120 : decode cX9_told 120 = .ok (.getfield 19, 3) := by decide +kernel
theorem dX9_told_123 : decode cX9_told 123 = .ok (.iload_n 2, 1) := by decide +kernel
theorem dX9_told_124 : decode cX9_told 124 = .ok (.invokevirtual 113, 3) := by decide +kernel
theorem dX9_told_127 : decode cX9_told 127 = .ok (.ireturn, 1) := by decide +kernel
theorem dX9_told_128 : decode cX9_told 128 = .ok (.aload_n 0, 1) := by decide +kernel
theorem dX9_told_129 : decode cX9_told 129 = .ok (.getfield 19, 3) := by decide +kernel
theorem dX9_told_132 : decode cX9_told 132 = .ok (.iload_n 2, 1) := by decide +kernel
theorem dX9_told_133 : decode cX9_told 133 = .ok (.invokevirtual 116, 3) := by decide +kernel
theorem dX9_told_136 : decode cX9_told 136 = .ok (.ireturn, 1) := by decide +kernel
theorem dX9_told_137 : decode cX9_told 137 = .ok (.aload_n 0, 1) := by decide +kernel
theorem dX9_told_138 : decode cX9_told 138 = .ok (.getfield 19, 3) := by decide +kernel
theorem dX9_told_141 : decode cX9_told 141 = .ok (.iload_n 2, 1) := by decide +kernel
theorem dX9_told_142 : decode cX9_told 142 = .ok (.invokevirtual 119, 3) := by decide +kernel
theorem dX9_told_145 : decode cX9_told 145 = .ok (.ireturn, 1) := by decide +kernel
theorem dX9_told_146 : decode cX9_told 146 = .ok (.aload_n 0, 1) := by decide +kernel
theorem dX9_told_147 : decode cX9_told 147 = .ok (.getfield 19, 3) := by decide +kernel
theorem dX9_told_150 : decode cX9_told 150 = .ok (.iload_n 2, 1) := by decide +kernel
theorem dX9_told_151 : decode cX9_told 151 = .ok (.invokevirtual 122, 3) := by decide +kernel
theorem dX9_told_154 : decode cX9_told 154 = .ok (.ireturn, 1) := by decide +kernel
theorem dX9_told_155 : decode cX9_told 155 = .ok (.aload_n 0, 1) := by decide +kernel
theorem dX9_told_156 : decode cX9_told 156 = .ok (.getfield 19, 3) := by decide +kernel
theorem dX9_told_159 : decode cX9_told 159 = .ok (.iload_n 2, 1) := by decide +kernel
theorem dX9_told_160 : decode cX9_told 160 = .ok (.invokevirtual 125, 3) := by decide +kernel
theorem dX9_told_163 : decode cX9_told 163 = .ok (.ireturn, 1) := by decide +kernel
theorem dX9_told_164 : decode cX9_told 164 = .ok (.aload_n 0, 1) := by decide +kernel
theorem dX9_told_165 : decode cX9_told 165 = .ok (.getfield 19, 3) := by decide +kernel
theorem dX9_told_168 : decode cX9_told 168 = .ok (.getfield 128, 3) := by decide +kernel
theorem dX9_told_171 : decode cX9_told 171 = .ok (.ireturn, 1) := by decide +kernel
theorem dX9_told_172 : decode cX9_told 172 = .ok (.sipush (-1002), 3) := by decide +kernel
theorem dX9_told_175 : decode cX9_told 175 = .ok (.ireturn, 1) := by decide +kernel
set_option maxRecDepth 20000 in
theorem ggX9_count_X2_countDoubles : GoodIn wsX9_count wsX2_countDoubles := goodIn_r _ [9, 10, 11, 12, 13, 14, 8, 15, 16, 17, 18, 19, 20, 21, 22, 23, 24, 25, 26, 27, 28, 29, 30, 31, 32, 33, 34, 35, 36, 37, 38, 69, 70, 71, 72, 73, 74, 75, 76, 77, 78] (by decide +kernel) (by decide +kernel)
set_option maxRecDepth 20000 in
theorem gX9_count_X2_countDoubles : GoodIn wsX9_count (wsV RX9 137 RX2 yX2_countDoubles wsX2_countDoubles) := goodIn_app (goodIn_of _ (by decide +kernel)) ggX9_count_X2_countDoubles
set_option maxRecDepth 20000 in
theorem ggX9_count_X8_countPieces : GoodIn wsX9_count wsX8_countPieces := goodIn_r _ [43, 44, 45, 92, 93, 94, 95, 96, 97] (by decide +kernel) (by decide +kernel)
set_option maxRecDepth 20000 in
theorem gX9_count_X8_countPieces : GoodIn wsX9_count (wsV RX9 152 RX8 yX8_countPieces wsX8_countPieces) := goodIn_app (goodIn_of _ (by decide +kernel)) ggX9_count_X8_countPieces
theorem dX9_count_0 : decode cX9_count 0 = .ok (.iload_n 1, 1) := by decide +kernel
theorem dX9_count_1 : decode cX9_count 1 = .ok (.tableswitch 132 0 8 #[51, 59, 70, 81, 89, 97, 108, 116, 124], 51) := by decide +kernel
theorem dX9_count_52 : decode cX9_count 52 = .ok (.aload_n 0, 1) := by decide +kernel
theorem dX9_count_53 : decode cX9_count 53 = .ok (.getfield 12, 3) := by decide +kernel
theorem dX9_count_56 : decode cX9_count 56 = .ok (.getfield 132, 3) := by decide +kernel
theorem dX9_count_59 : decode cX9_count 59 = .ok (.ireturn, 1) := by decide +kernel
theorem dX9_count_60 : decode cX9_count 60 = .ok (.aload_n 0, 1) := by decide +kernel
theorem dX9_count_61 : decode cX9_count 61 = .ok (.getfield 12, 3) := by decide +kernel
theorem dX9_count_64 : decode cX9_count 64 = .ok (.getfield 77, 3) := by decide +kernel
theorem dX9_count_67 : decode cX9_count 67 = .ok (.getfield 135, 3) := by decide +kernel
theorem dX9_count_70 : decode cX9_count 70 = .ok (.ireturn, 1) := by decide +kernel
theorem dX9_count_71 : decode cX9_count 71 = .ok (.aload_n 0, 1) := by decide +kernel
theorem dX9_count_72 : decode cX9_count 72 = .ok (.getfield 12, 3) := by decide +kernel
theorem dX9_count_75 : decode cX9_count 75 = .ok (.getfield 90, 3) := by decide +kernel
theorem dX9_count_78 : decode cX9_count 78 = .ok (.getfield 135, 3) := by decide +kernel
theorem dX9_count_81 : decode cX9_count 81 = .ok (.ireturn, 1) := by decide +kernel
theorem dX9_count_82 : decode cX9_count 82 = .ok (.aload_n 0, 1) := by decide +kernel
theorem dX9_count_83 : decode cX9_count 83 = .ok (.getfield 26, 3) := by decide +kernel
theorem dX9_count_86 : decode cX9_count 86 = .ok (.getfield 136, 3) := by decide +kernel
theorem dX9_count_89 : decode cX9_count 89 = .ok (.ireturn, 1) := by decide +kernel
theorem dX9_count_90 : decode cX9_count 90 = .ok (.aload_n 0, 1) := by decide +kernel
theorem dX9_count_91 : decode cX9_count 91 = .ok (.getfield 26, 3) := by decide +kernel
theorem dX9_count_94 : decode cX9_count 94 = .ok (.invokevirtual 137, 3) := by decide +kernel
theorem dX9_count_97 : decode cX9_count 97 = .ok (.ireturn, 1) := by decide +kernel
theorem dX9_count_98 : decode cX9_count 98 = .ok (.aload_n 0, 1) := by decide +kernel
theorem dX9_count_99 : decode cX9_count 99 = .ok (.getfield 40, 3) := by decide +kernel
theorem dX9_count_102 : decode cX9_count 102 = .ok (.getfield 141, 3) := by decide +kernel
theorem dX9_count_105 : decode cX9_count 105 = .ok (.getfield 145, 3) := by decide +kernel
theorem dX9_count_108 : decode cX9_count 108 = .ok (.ireturn, 1) := by decide +kernel
theorem dX9_count_109 : decode cX9_count 109 = .ok (.aload_n 0, 1) := by decide +kernel
theorem dX9_count_110 : decode cX9_count 110 = .ok (.getfield 40, 3) := by decide +kernel
theorem dX9_count_113 : decode cX9_count 113 = .ok (.getfield 150, 3) := by decide +kernel
theorem dX9_count_116 : decode cX9_count 116 = .ok (.ireturn, 1) := by decide +kernel
theorem dX9_count_117 : decode cX9_count 117 = .ok (.aload_n 0, 1) := by decide +kernel
theorem dX9_count_118 : decode cX9_count 118 = .ok (.getfield 58, 3) := by decide +kernel
theorem dX9_count_121 : decode cX9_count 121 = .ok (.getfield 151, 3) := by decide +kernel
theorem dX9_count_124 : decode cX9_count 124 = .ok (.ireturn, 1) := by decide +kernel
theorem dX9_count_125 : decode cX9_count 125 = .ok (.aload_n 0, 1) := by decide +kernel
theorem dX9_count_126 : decode cX9_count 126 = .ok (.getfield 58, 3) := by decide +kernel
theorem dX9_count_129 : decode cX9_count 129 = .ok (.invokevirtual 152, 3) := by decide +kernel
theorem dX9_count_132 : decode cX9_count 132 = .ok (.ireturn, 1) := by decide +kernel
theorem dX9_count_133 : decode cX9_count 133 = .ok (.sipush (-1002), 3) := by decide +kernel
theorem dX9_count_136 : decode cX9_count 136 = .ok (.ireturn, 1) := by decide +kernel
set_option maxRecDepth 20000 in
theorem ggX9_worst_X9_isBelow : GoodIn wsX9_worst wsX9_isBelow := goodIn_r _ [6] (by decide +kernel) (by decide +kernel)
set_option maxRecDepth 20000 in
theorem gX9_worst_X9_isBelow : GoodIn wsX9_worst (va_wsS RX9 62 yX9_isBelow wsX9_isBelow) := goodIn_app (goodIn_of _ (by decide +kernel)) ggX9_worst_X9_isBelow
set_option maxRecDepth 20000 in
theorem ggX9_worst_X3_findWorst : GoodIn wsX9_worst wsX3_findWorst := goodIn_r _ [11, 12, 13, 14, 15, 16, 17, 18, 19, 20, 21, 22, 23, 24, 25, 26, 27, 28, 29, 30, 31, 32, 33, 34, 35, 36, 37, 38, 39, 40, 41, 42, 43, 44, 45, 46, 47, 48, 10, 49, 50, 51, 5, 52, 53, 54, 55, 56, 57, 58, 59, 60, 61, 62, 63, 64, 65, 66, 67, 68, 69, 70, 71, 72, 73, 74, 75, 76, 77, 78, 79, 80, 81, 82, 83, 84, 93, 94, 95, 96, 97, 98, 99, 100, 101, 102, 103, 104, 105, 106, 107, 108, 109, 110, 111] (by decide +kernel) (by decide +kernel)
set_option maxRecDepth 20000 in
theorem gX9_worst_X3_findWorst : GoodIn wsX9_worst (wsV RX9 155 RX3 yX3_findWorst wsX3_findWorst) := goodIn_app (goodIn_of _ (by decide +kernel)) ggX9_worst_X3_findWorst
theorem dX9_worst_0 : decode cX9_worst 0 = .ok (.iload_n 1, 1) := by decide +kernel
theorem dX9_worst_1 : decode cX9_worst 1 = .ok (.sipush 401, 3) := by decide +kernel
theorem dX9_worst_4 : decode cX9_worst 4 = .ok (.invokestatic 62, 3) := by decide +kernel
theorem dX9_worst_7 : decode cX9_worst 7 = .ok (.ifCond .ne 7, 3) := by decide +kernel
theorem dX9_worst_10 : decode cX9_worst 10 = .ok (.sipush (-1002), 3) := by decide +kernel
theorem dX9_worst_13 : decode cX9_worst 13 = .ok (.ireturn, 1) := by decide +kernel
theorem dX9_worst_14 : decode cX9_worst 14 = .ok (.aload_n 0, 1) := by decide +kernel
theorem dX9_worst_15 : decode cX9_worst 15 = .ok (.getfield 12, 3) := by decide +kernel
theorem dX9_worst_18 : decode cX9_worst 18 = .ok (.aload_n 0, 1) := by decide +kernel
theorem dX9_worst_19 : decode cX9_worst 19 = .ok (.getfield 19, 3) := by decide +kernel
theorem dX9_worst_22 : decode cX9_worst 22 = .ok (.iload_n 1, 1) := by decide +kernel
theorem dX9_worst_23 : decode cX9_worst 23 = .ok (.iload_n 2, 1) := by decide +kernel
theorem dX9_worst_24 : decode cX9_worst 24 = .ok (.invokevirtual 155, 3) := by decide +kernel
theorem dX9_worst_27 : decode cX9_worst 27 = .ok (.ireturn, 1) := by decide +kernel
set_option maxRecDepth 20000 in
theorem ggX9_look_X3_hasBlock : GoodIn wsX9_look wsX3_hasBlock := goodIn_r _ [7, 8, 9, 10, 11, 31, 32, 33, 34, 35, 36, 37, 38, 39, 40] (by decide +kernel) (by decide +kernel)
set_option maxRecDepth 20000 in
theorem gX9_look_X3_hasBlock : GoodIn wsX9_look (wsV RX9 70 RX3 yX3_hasBlock wsX3_hasBlock) := goodIn_app (goodIn_of _ (by decide +kernel)) ggX9_look_X3_hasBlock
set_option maxRecDepth 20000 in
theorem ggX9_look_X9_isBelow : GoodIn wsX9_look wsX9_isBelow := goodIn_r _ [11] (by decide +kernel) (by decide +kernel)
set_option maxRecDepth 20000 in
theorem gX9_look_X9_isBelow : GoodIn wsX9_look (va_wsS RX9 62 yX9_isBelow wsX9_isBelow) := goodIn_app (goodIn_of _ (by decide +kernel)) ggX9_look_X9_isBelow
set_option maxRecDepth 20000 in
theorem ggX9_look_X2_add : GoodIn wsX9_look wsX2_add := goodIn_r _ [17, 18, 19, 20, 21, 22, 9, 10, 11, 41, 42, 43, 44, 45, 46, 47, 48, 49, 50] (by decide +kernel) (by decide +kernel)
set_option maxRecDepth 20000 in
theorem gX9_look_X2_add : GoodIn wsX9_look (wsV RX9 159 RX2 yX2_add wsX2_add) := goodIn_app (goodIn_of _ (by decide +kernel)) ggX9_look_X2_add
theorem dX9_look_0 : decode cX9_look 0 = .ok (.aload_n 0, 1) := by decide +kernel
theorem dX9_look_1 : decode cX9_look 1 = .ok (.getfield 12, 3) := by decide +kernel
theorem dX9_look_4 : decode cX9_look 4 = .ok (.iload_n 1, 1) := by decide +kernel
theorem dX9_look_5 : decode cX9_look 5 = .ok (.invokevirtual 70, 3) := by decide +kernel
theorem dX9_look_8 : decode cX9_look 8 = .ok (.ifCond .ne 7, 3) := by decide +kernel
theorem dX9_look_11 : decode cX9_look 11 = .ok (.sipush (-1001), 3) := by decide +kernel
theorem dX9_look_14 : decode cX9_look 14 = .ok (.ireturn, 1) := by decide +kernel
theorem dX9_look_15 : decode cX9_look 15 = .ok (.iload_n 2, 1) := by decide +kernel
theorem dX9_look_16 : decode cX9_look 16 = .ok (.iconst 4, 1) := by decide +kernel
theorem dX9_look_17 : decode cX9_look 17 = .ok (.invokestatic 62, 3) := by decide +kernel
theorem dX9_look_20 : decode cX9_look 20 = .ok (.ifCond .eq 25, 3) := by decide +kernel
theorem dX9_look_23 : decode cX9_look 23 = .ok (.iload_n 3, 1) := by decide +kernel
theorem dX9_look_24 : decode cX9_look 24 = .ok (.sipush 401, 3) := by decide +kernel
theorem dX9_look_27 : decode cX9_look 27 = .ok (.invokestatic 62, 3) := by decide +kernel
theorem dX9_look_30 : decode cX9_look 30 = .ok (.ifCond .eq 15, 3) := by decide +kernel
theorem dX9_look_33 : decode cX9_look 33 = .ok (.iload 4, 2) := by decide +kernel
theorem dX9_look_35 : decode cX9_look 35 = .ok (.ifCond .lt 10, 3) := by decide +kernel
theorem dX9_look_38 : decode cX9_look 38 = .ok (.iload 4, 2) := by decide +kernel
theorem dX9_look_40 : decode cX9_look 40 = .ok (.bipush 99, 2) := by decide +kernel
theorem dX9_look_42 : decode cX9_look 42 = .ok (.if_icmp .le 7, 3) := by decide +kernel
theorem dX9_look_45 : decode cX9_look 45 = .ok (.sipush (-1002), 3) := by decide +kernel
theorem dX9_look_48 : decode cX9_look 48 = .ok (.ireturn, 1) := by decide +kernel
theorem dX9_look_49 : decode cX9_look 49 = .ok (.aload_n 0, 1) := by decide +kernel
theorem dX9_look_50 : decode cX9_look 50 = .ok (.getfield 26, 3) := by decide +kernel
theorem dX9_look_53 : decode cX9_look 53 = .ok (.iload_n 1, 1) := by decide +kernel
theorem dX9_look_54 : decode cX9_look 54 = .ok (.iload_n 2, 1) := by decide +kernel
theorem dX9_look_55 : decode cX9_look 55 = .ok (.iload_n 3, 1) := by decide +kernel
theorem dX9_look_56 : decode cX9_look 56 = .ok (.iload 4, 2) := by decide +kernel
theorem dX9_look_58 : decode cX9_look 58 = .ok (.invokevirtual 159, 3) := by decide +kernel
theorem dX9_look_61 : decode cX9_look 61 = .ok (.ireturn, 1) := by decide +kernel
set_option maxRecDepth 20000 in
theorem ggX9_habit_X9_isBelow : GoodIn wsX9_habit wsX9_isBelow := goodIn_r _ [6] (by decide +kernel) (by decide +kernel)
set_option maxRecDepth 20000 in
theorem gX9_habit_X9_isBelow : GoodIn wsX9_habit (va_wsS RX9 62 yX9_isBelow wsX9_isBelow) := goodIn_app (goodIn_of _ (by decide +kernel)) ggX9_habit_X9_isBelow
set_option maxRecDepth 20000 in
theorem ggX9_habit_X2_canBeKnown : GoodIn wsX9_habit wsX2_canBeKnown := goodIn_r _ [11, 12, 80, 81, 82, 83, 84, 85, 86, 87, 88, 89] (by decide +kernel) (by decide +kernel)
set_option maxRecDepth 20000 in
theorem gX9_habit_X2_canBeKnown : GoodIn wsX9_habit (wsV RX9 162 RX2 yX2_canBeKnown wsX2_canBeKnown) := goodIn_app (goodIn_of _ (by decide +kernel)) ggX9_habit_X2_canBeKnown
set_option maxRecDepth 20000 in
theorem ggX9_habit_X2_knownBy : GoodIn wsX9_habit wsX2_knownBy := goodIn_r _ [16, 12, 17, 18, 19, 20, 21, 22, 23, 80, 81, 82, 83, 84, 85, 86, 87, 88, 89] (by decide +kernel) (by decide +kernel)
set_option maxRecDepth 20000 in
theorem gX9_habit_X2_knownBy : GoodIn wsX9_habit (wsV RX9 165 RX2 yX2_knownBy wsX2_knownBy) := goodIn_app (goodIn_of _ (by decide +kernel)) ggX9_habit_X2_knownBy
set_option maxRecDepth 20000 in
theorem ggX9_habit_X2_findHabit : GoodIn wsX9_habit wsX2_findHabit := goodIn_r _ [27, 28, 29, 30, 31, 32, 33, 10, 34, 35, 36, 37, 38, 39, 40, 41, 42, 43, 44, 45, 46, 47, 48, 49, 5, 50, 51, 52, 53, 4, 6, 54, 55, 56, 57, 58, 59, 60, 61, 62, 63, 64, 65, 66, 19, 67, 80, 81, 82, 83, 84, 85, 86, 87, 88, 89, 90, 91] (by decide +kernel) (by decide +kernel)
set_option maxRecDepth 20000 in
theorem gX9_habit_X2_findHabit : GoodIn wsX9_habit (wsV RX9 168 RX2 yX2_findHabit wsX2_findHabit) := goodIn_app (goodIn_of _ (by decide +kernel)) ggX9_habit_X2_findHabit
set_option maxRecDepth 20000 in
theorem ggX9_habit_X1_part : GoodIn wsX9_habit wsX1_part := goodIn_r _ [71, 59, 60, 90, 91] (by decide +kernel) (by decide +kernel)
set_option maxRecDepth 20000 in
theorem gX9_habit_X1_part : GoodIn wsX9_habit (wsV RX9 172 RX1 yX1_part wsX1_part) := goodIn_app (goodIn_of _ (by decide +kernel)) ggX9_habit_X1_part
theorem dX9_habit_0 : decode cX9_habit 0 = .ok (.iload_n 1, 1) := by decide +kernel
theorem dX9_habit_1 : decode cX9_habit 1 = .ok (.iconst 4, 1) := by decide +kernel
theorem dX9_habit_2 : decode cX9_habit 2 = .ok (.invokestatic 62, 3) := by decide +kernel
theorem dX9_habit_5 : decode cX9_habit 5 = .ok (.ifCond .eq 22, 3) := by decide +kernel
theorem dX9_habit_8 : decode cX9_habit 8 = .ok (.aload_n 0, 1) := by decide +kernel
theorem dX9_habit_9 : decode cX9_habit 9 = .ok (.getfield 26, 3) := by decide +kernel
theorem dX9_habit_12 : decode cX9_habit 12 = .ok (.iload_n 2, 1) := by decide +kernel
theorem dX9_habit_13 : decode cX9_habit 13 = .ok (.invokevirtual 162, 3) := by decide +kernel
theorem dX9_habit_16 : decode cX9_habit 16 = .ok (.ifCond .eq 11, 3) := by decide +kernel
theorem dX9_habit_19 : decode cX9_habit 19 = .ok (.iload_n 3, 1) := by decide +kernel
theorem dX9_habit_20 : decode cX9_habit 20 = .ok (.iconst 2, 1) := by decide +kernel
theorem dX9_habit_21 : decode cX9_habit 21 = .ok (.invokestatic 62, 3) := by decide +kernel
theorem dX9_habit_24 : decode cX9_habit 24 = .ok (.ifCond .ne 7, 3) := by decide +kernel
theorem dX9_habit_27 : decode cX9_habit 27 = .ok (.sipush (-1002), 3) := by decide +kernel
theorem dX9_habit_30 : decode cX9_habit 30 = .ok (.ireturn, 1) := by decide +kernel
theorem dX9_habit_31 : decode cX9_habit 31 = .ok (.aload_n 0, 1) := by decide +kernel
theorem dX9_habit_32 : decode cX9_habit 32 = .ok (.getfield 26, 3) := by decide +kernel
theorem dX9_habit_35 : decode cX9_habit 35 = .ok (.iload_n 1, 1) := by decide +kernel
theorem dX9_habit_36 : decode cX9_habit 36 = .ok (.aload_n 0, 1) := by decide +kernel
theorem dX9_habit_37 : decode cX9_habit 37 = .ok (.getfield 26, 3) := by decide +kernel
theorem dX9_habit_40 : decode cX9_habit 40 = .ok (.iload_n 2, 1) := by decide +kernel
theorem dX9_habit_41 : decode cX9_habit 41 = .ok (.invokevirtual 165, 3) := by decide +kernel
theorem dX9_habit_44 : decode cX9_habit 44 = .ok (.aload_n 0, 1) := by decide +kernel
theorem dX9_habit_45 : decode cX9_habit 45 = .ok (.getfield 33, 3) := by decide +kernel
theorem dX9_habit_48 : decode cX9_habit 48 = .ok (.invokevirtual 168, 3) := by decide +kernel
theorem dX9_habit_51 : decode cX9_habit 51 = .ok (.aload_n 0, 1) := by decide +kernel
theorem dX9_habit_52 : decode cX9_habit 52 = .ok (.getfield 33, 3) := by decide +kernel
theorem dX9_habit_55 : decode cX9_habit 55 = .ok (.iload_n 3, 1) := by decide +kernel
theorem dX9_habit_56 : decode cX9_habit 56 = .ok (.invokevirtual 172, 3) := by decide +kernel
theorem dX9_habit_59 : decode cX9_habit 59 = .ok (.l2i, 1) := by decide +kernel
theorem dX9_habit_60 : decode cX9_habit 60 = .ok (.ireturn, 1) := by decide +kernel
set_option maxRecDepth 20000 in
theorem ggX9_state_X3_hasBlock : GoodIn wsX9_state wsX3_hasBlock := goodIn_r _ [11, 12, 13, 14, 15, 104, 105, 106, 107, 108, 109, 110, 111, 112, 113] (by decide +kernel) (by decide +kernel)
set_option maxRecDepth 20000 in
theorem gX9_state_X3_hasBlock : GoodIn wsX9_state (wsV RX9 70 RX3 yX3_hasBlock wsX3_hasBlock) := goodIn_app (goodIn_of _ (by decide +kernel)) ggX9_state_X3_hasBlock
set_option maxRecDepth 20000 in
theorem ggX9_state_X9_isBelow : GoodIn wsX9_state wsX9_isBelow := goodIn_r _ [15] (by decide +kernel) (by decide +kernel)
set_option maxRecDepth 20000 in
theorem gX9_state_X9_isBelow : GoodIn wsX9_state (va_wsS RX9 62 yX9_isBelow wsX9_isBelow) := goodIn_app (goodIn_of _ (by decide +kernel)) ggX9_state_X9_isBelow
set_option maxRecDepth 20000 in
theorem ggX9_state_X2_canBeKnown : GoodIn wsX9_state wsX2_canBeKnown := goodIn_r _ [21, 22, 114, 115, 116, 117, 118, 119, 120, 121, 122, 123] (by decide +kernel) (by decide +kernel)
set_option maxRecDepth 20000 in
theorem gX9_state_X2_canBeKnown : GoodIn wsX9_state (wsV RX9 162 RX2 yX2_canBeKnown wsX2_canBeKnown) := goodIn_app (goodIn_of _ (by decide +kernel)) ggX9_state_X2_canBeKnown
set_option maxRecDepth 20000 in
theorem ggX9_state_X2_knownBy : GoodIn wsX9_state wsX2_knownBy := goodIn_r _ [26, 22, 27, 28, 29, 30, 31, 32, 33, 114, 115, 116, 117, 118, 119, 120, 121, 122, 123] (by decide +kernel) (by decide +kernel)
set_option maxRecDepth 20000 in
theorem gX9_state_X2_knownBy : GoodIn wsX9_state (wsV RX9 165 RX2 yX2_knownBy wsX2_knownBy) := goodIn_app (goodIn_of _ (by decide +kernel)) ggX9_state_X2_knownBy
set_option maxRecDepth 20000 in
theorem ggX9_state_X2_findState : GoodIn wsX9_state wsX2_findState := goodIn_r _ [37, 38, 39, 40, 41, 42, 43, 44, 45, 46, 47, 48, 20, 49, 50, 51, 52, 53, 54, 55, 56, 57, 58, 59, 60, 61, 62, 63, 64, 14, 65, 66, 67, 68, 13, 15, 69, 70, 71, 72, 73, 74, 75, 76, 77, 78, 79, 80, 81, 29, 82, 83, 84, 85, 86, 87, 88, 89, 90, 91, 114, 115, 116, 117, 118, 119, 120, 121, 122, 123, 124, 125] (by decide +kernel) (by decide +kernel)
set_option maxRecDepth 20000 in
theorem gX9_state_X2_findState : GoodIn wsX9_state (wsV RX9 180 RX2 yX2_findState wsX2_findState) := goodIn_app (goodIn_of _ (by decide +kernel)) ggX9_state_X2_findState
set_option maxRecDepth 20000 in
theorem ggX9_state_X1_part : GoodIn wsX9_state wsX1_part := goodIn_r _ [95, 74, 75, 124, 125] (by decide +kernel) (by decide +kernel)
set_option maxRecDepth 20000 in
theorem gX9_state_X1_part : GoodIn wsX9_state (wsV RX9 172 RX1 yX1_part wsX1_part) := goodIn_app (goodIn_of _ (by decide +kernel)) ggX9_state_X1_part
theorem dX9_state_0 : decode cX9_state 0 = .ok (.aload_n 0, 1) := by decide +kernel
theorem dX9_state_1 : decode cX9_state 1 = .ok (.getfield 12, 3) := by decide +kernel
theorem dX9_state_4 : decode cX9_state 4 = .ok (.iload_n 1, 1) := by decide +kernel
theorem dX9_state_5 : decode cX9_state 5 = .ok (.invokevirtual 70, 3) := by decide +kernel
theorem dX9_state_8 : decode cX9_state 8 = .ok (.ifCond .ne 7, 3) := by decide +kernel
theorem dX9_state_11 : decode cX9_state 11 = .ok (.ldc2_w 176, 3) := by decide +kernel
theorem dX9_state_14 : decode cX9_state 14 = .ok (.lreturn, 1) := by decide +kernel
theorem dX9_state_15 : decode cX9_state 15 = .ok (.iload_n 2, 1) := by decide +kernel
theorem dX9_state_16 : decode cX9_state 16 = .ok (.sipush 401, 3) := by decide +kernel
theorem dX9_state_19 : decode cX9_state 19 = .ok (.invokestatic 62, 3) := by decide +kernel
theorem dX9_state_22 : decode cX9_state 22 = .ok (.ifCond .eq 23, 3) := by decide +kernel
theorem dX9_state_25 : decode cX9_state 25 = .ok (.aload_n 0, 1) := by decide +kernel
theorem dX9_state_26 : decode cX9_state 26 = .ok (.getfield 26, 3) := by decide +kernel
theorem dX9_state_29 : decode cX9_state 29 = .ok (.iload_n 3, 1) := by decide +kernel
theorem dX9_state_30 : decode cX9_state 30 = .ok (.invokevirtual 162, 3) := by decide +kernel
theorem dX9_state_33 : decode cX9_state 33 = .ok (.ifCond .eq 12, 3) := by decide +kernel
theorem dX9_state_36 : decode cX9_state 36 = .ok (.iload 4, 2) := by decide +kernel
theorem dX9_state_38 : decode cX9_state 38 = .ok (.iconst 2, 1) := by decide +kernel
theorem dX9_state_39 : decode cX9_state 39 = .ok (.invokestatic 62, 3) := by decide +kernel
theorem dX9_state_42 : decode cX9_state 42 = .ok (.ifCond .ne 7, 3) := by decide +kernel
theorem dX9_state_45 : decode cX9_state 45 = .ok (.ldc2_w 178, 3) := by decide +kernel
theorem dX9_state_48 : decode cX9_state 48 = .ok (.lreturn, 1) := by decide +kernel
theorem dX9_state_49 : decode cX9_state 49 = .ok (.aload_n 0, 1) := by decide +kernel
theorem dX9_state_50 : decode cX9_state 50 = .ok (.getfield 26, 3) := by decide +kernel
theorem dX9_state_53 : decode cX9_state 53 = .ok (.iload_n 1, 1) := by decide +kernel
theorem dX9_state_54 : decode cX9_state 54 = .ok (.iload_n 2, 1) := by decide +kernel
theorem dX9_state_55 : decode cX9_state 55 = .ok (.aload_n 0, 1) := by decide +kernel
theorem dX9_state_56 : decode cX9_state 56 = .ok (.getfield 26, 3) := by decide +kernel
theorem dX9_state_59 : decode cX9_state 59 = .ok (.iload_n 3, 1) := by decide +kernel
theorem dX9_state_60 : decode cX9_state 60 = .ok (.invokevirtual 165, 3) := by decide +kernel
theorem dX9_state_63 : decode cX9_state 63 = .ok (.aload_n 0, 1) := by decide +kernel
theorem dX9_state_64 : decode cX9_state 64 = .ok (.getfield 33, 3) := by decide +kernel
theorem dX9_state_67 : decode cX9_state 67 = .ok (.invokevirtual 180, 3) := by decide +kernel
theorem dX9_state_70 : decode cX9_state 70 = .ok (.ifCond .ne 7, 3) := by decide +kernel
theorem dX9_state_73 : decode cX9_state 73 = .ok (.ldc2_w 184, 3) := by decide +kernel
theorem dX9_state_76 : decode cX9_state 76 = .ok (.lreturn, 1) := by decide +kernel
theorem dX9_state_77 : decode cX9_state 77 = .ok (.aload_n 0, 1) := by decide +kernel
theorem dX9_state_78 : decode cX9_state 78 = .ok (.getfield 33, 3) := by decide +kernel
theorem dX9_state_81 : decode cX9_state 81 = .ok (.iload 4, 2) := by decide +kernel
theorem dX9_state_83 : decode cX9_state 83 = .ok (.invokevirtual 172, 3) := by decide +kernel
theorem dX9_state_86 : decode cX9_state 86 = .ok (.lreturn, 1) := by decide +kernel
set_option maxRecDepth 20000 in
theorem ggX9_feed_X5_append : GoodIn wsX9_feed wsX5_append := goodIn_r _ [6, 7, 8, 9, 10, 11, 12, 21, 22, 23, 24, 25, 26, 27] (by decide +kernel) (by decide +kernel)
set_option maxRecDepth 20000 in
theorem gX9_feed_X5_append : GoodIn wsX9_feed (wsV RX9 186 RX5 yX5_append wsX5_append) := goodIn_app (goodIn_of _ (by decide +kernel)) ggX9_feed_X5_append
theorem dX9_feed_0 : decode cX9_feed 0 = .ok (.iload_n 1, 1) := by decide +kernel
theorem dX9_feed_1 : decode cX9_feed 1 = .ok (.iconst 1, 1) := by decide +kernel
theorem dX9_feed_2 : decode cX9_feed 2 = .ok (.if_icmp .lt 9, 3) := by decide +kernel
theorem dX9_feed_5 : decode cX9_feed 5 = .ok (.iload_n 1, 1) := by decide +kernel
theorem dX9_feed_6 : decode cX9_feed 6 = .ok (.bipush 8, 2) := by decide +kernel
theorem dX9_feed_8 : decode cX9_feed 8 = .ok (.if_icmp .le 7, 3) := by decide +kernel
theorem dX9_feed_11 : decode cX9_feed 11 = .ok (.sipush (-1002), 3) := by decide +kernel
theorem dX9_feed_14 : decode cX9_feed 14 = .ok (.ireturn, 1) := by decide +kernel
theorem dX9_feed_15 : decode cX9_feed 15 = .ok (.aload_n 0, 1) := by decide +kernel
theorem dX9_feed_16 : decode cX9_feed 16 = .ok (.getfield 40, 3) := by decide +kernel
theorem dX9_feed_19 : decode cX9_feed 19 = .ok (.iload_n 1, 1) := by decide +kernel
theorem dX9_feed_20 : decode cX9_feed 20 = .ok (.lload_n 2, 1) := by decide +kernel
theorem dX9_feed_21 : decode cX9_feed 21 = .ok (.invokevirtual 186, 3) := by decide +kernel
theorem dX9_feed_24 : decode cX9_feed 24 = .ok (.ireturn, 1) := by decide +kernel
set_option maxRecDepth 20000 in
theorem ggX9_read_X5_readText : GoodIn wsX9_read wsX5_readText := goodIn_r _ [6, 7, 8, 9, 10, 11, 12, 13, 14, 15, 16, 17, 18, 19, 20, 21, 22, 23, 24, 25, 26, 5, 27, 28, 29, 30, 31, 32, 33, 34, 35, 36, 37, 38, 39, 40, 41, 42, 43, 44, 45, 46, 47, 48, 49, 50, 51, 52, 53, 54, 55, 56, 57, 58, 59, 60, 61, 62, 63, 64, 65, 66, 67, 68, 69, 70, 71, 72, 73, 74, 75, 76, 77, 78, 79, 80, 81, 82, 83, 84, 85, 86, 87, 88, 89, 90, 91, 92, 93, 94, 95, 96, 97, 98, 99, 100, 101, 102, 103, 104, 105, 106, 107, 108, 109, 110, 111, 112, 113, 114, 115, 116, 117, 118, 119, 120, 121, 122, 123, 124, 125, 126, 127, 128, 129, 130, 131, 132, 133, 134, 135, 136, 137, 138, 139, 140, 141, 142, 143, 152, 153, 154, 155, 156, 157, 158, 159, 160, 161, 162, 163, 164] (by decide +kernel) (by decide +kernel)
set_option maxRecDepth 20000 in
theorem gX9_read_X5_readText : GoodIn wsX9_read (wsV RX9 190 RX5 yX5_readText wsX5_readText) := goodIn_app (goodIn_of _ (by decide +kernel)) ggX9_read_X5_readText
theorem dX9_read_0 : decode cX9_read 0 = .ok (.aload_n 0, 1) := by decide +kernel
theorem dX9_read_1 : decode cX9_read 1 = .ok (.getfield 40, 3) := by decide +kernel
theorem dX9_read_4 : decode cX9_read 4 = .ok (.invokevirtual 190, 3) := by decide +kernel
theorem dX9_read_7 : decode cX9_read 7 = .ok (.ireturn, 1) := by decide +kernel
theorem dX9_fault_0 : decode cX9_fault 0 = .ok (.aload_n 0, 1) := by decide +kernel
theorem dX9_fault_1 : decode cX9_fault 1 = .ok (.getfield 40, 3) := by decide +kernel
theorem dX9_fault_4 : decode cX9_fault 4 = .ok (.getfield 193, 3) := by decide +kernel
theorem dX9_fault_7 : decode cX9_fault 7 = .ok (.ireturn, 1) := by decide +kernel
set_option maxRecDepth 20000 in
theorem ggX9_judged_X3_hasBlock : GoodIn wsX9_judged wsX3_hasBlock := goodIn_r _ [6, 7, 8, 9, 10, 179, 180, 181, 182, 183, 184, 185, 186, 187, 188] (by decide +kernel) (by decide +kernel)
set_option maxRecDepth 20000 in
theorem gX9_judged_X3_hasBlock : GoodIn wsX9_judged (wsV RX9 70 RX3 yX3_hasBlock wsX3_hasBlock) := goodIn_app (goodIn_of _ (by decide +kernel)) ggX9_judged_X3_hasBlock
set_option maxRecDepth 20000 in
theorem ggX9_judged_X9_isBelow : GoodIn wsX9_judged wsX9_isBelow := goodIn_r _ [10] (by decide +kernel) (by decide +kernel)
set_option maxRecDepth 20000 in
theorem gX9_judged_X9_isBelow : GoodIn wsX9_judged (va_wsS RX9 62 yX9_isBelow wsX9_isBelow) := goodIn_app (goodIn_of _ (by decide +kernel)) ggX9_judged_X9_isBelow
set_option maxRecDepth 20000 in
theorem ggX9_judged_X9_judge : GoodIn wsX9_judged wsX9_judge := goodIn_r _ [15, 1, 16, 17, 18, 19, 20, 21, 22, 23, 5, 24, 25, 26, 9, 27, 28, 29, 30, 31, 32, 33, 34, 35, 36, 37, 38, 39, 40, 41, 42, 43, 44, 45, 46, 47, 48, 49, 50, 51, 52, 53, 54, 55, 56, 57, 58, 59, 60, 61, 62, 63, 64, 65, 66, 67, 68, 69, 70, 71, 72, 73, 74, 75, 76, 77, 78, 79, 80, 81, 82, 83, 84, 85, 86, 87, 88, 89, 90, 91, 92, 93, 94, 95, 96, 97, 98, 99, 100, 101, 102, 103, 104, 105, 106, 107, 108, 109, 110, 111, 112, 113, 114, 8, 10, 115, 116, 117, 118, 119, 120, 121, 122, 123, 124, 125, 126, 127, 128, 129, 130, 131, 132, 133, 134, 135, 136, 137, 138, 139, 140, 141, 142, 143, 144, 145, 146, 147, 148, 149, 150, 151, 152, 153, 154, 155, 156, 157, 158, 159, 160, 161, 162, 163, 164, 165, 166, 167, 168, 169, 170, 171, 172, 173, 174, 175, 176, 177, 178, 189, 190, 191, 192, 193, 194, 195, 196, 197, 198, 199, 200, 201, 202, 203, 204, 205, 179, 180, 181, 182, 183, 184, 185, 186, 187, 188, 206, 207, 208, 209, 210, 211, 212, 213, 214, 215, 216, 217, 218, 219, 220, 221, 222] (by decide +kernel) (by decide +kernel)
set_option maxRecDepth 20000 in
theorem gX9_judged_X9_judge : GoodIn wsX9_judged (wsV RX9 196 RX9 yX9_judge wsX9_judge) := goodIn_app (goodIn_of _ (by decide +kernel)) ggX9_judged_X9_judge
theorem dX9_judged_0 : decode cX9_judged 0 = .ok (.aload_n 0, 1) := by decide +kernel
theorem dX9_judged_1 : decode cX9_judged 1 = .ok (.getfield 12, 3) := by decide +kernel
theorem dX9_judged_4 : decode cX9_judged 4 = .ok (.iload_n 1, 1) := by decide +kernel
theorem dX9_judged_5 : decode cX9_judged 5 = .ok (.invokevirtual 70, 3) := by decide +kernel
theorem dX9_judged_8 : decode cX9_judged 8 = .ok (.ifCond .ne 7, 3) := by decide +kernel
theorem dX9_judged_11 : decode cX9_judged 11 = .ok (.sipush (-1001), 3) := by decide +kernel
theorem dX9_judged_14 : decode cX9_judged 14 = .ok (.ireturn, 1) := by decide +kernel
theorem dX9_judged_15 : decode cX9_judged 15 = .ok (.iload_n 2, 1) := by decide +kernel
theorem dX9_judged_16 : decode cX9_judged 16 = .ok (.sipush 401, 3) := by decide +kernel
theorem dX9_judged_19 : decode cX9_judged 19 = .ok (.invokestatic 62, 3) := by decide +kernel
theorem dX9_judged_22 : decode cX9_judged 22 = .ok (.ifCond .ne 7, 3) := by decide +kernel
theorem dX9_judged_25 : decode cX9_judged 25 = .ok (.sipush (-1002), 3) := by decide +kernel
theorem dX9_judged_28 : decode cX9_judged 28 = .ok (.ireturn, 1) := by decide +kernel
theorem dX9_judged_29 : decode cX9_judged 29 = .ok (.aload_n 0, 1) := by decide +kernel
theorem dX9_judged_30 : decode cX9_judged 30 = .ok (.iload_n 1, 1) := by decide +kernel
theorem dX9_judged_31 : decode cX9_judged 31 = .ok (.iload_n 2, 1) := by decide +kernel
theorem dX9_judged_32 : decode cX9_judged 32 = .ok (.invokevirtual 196, 3) := by decide +kernel
theorem dX9_judged_35 : decode cX9_judged 35 = .ok (.ireturn, 1) := by decide +kernel
set_option maxRecDepth 20000 in
theorem ggX9_acts_X9_isBelow : GoodIn wsX9_acts wsX9_isBelow := goodIn_r _ [5] (by decide +kernel) (by decide +kernel)
set_option maxRecDepth 20000 in
theorem gX9_acts_X9_isBelow : GoodIn wsX9_acts (va_wsS RX9 62 yX9_isBelow wsX9_isBelow) := goodIn_app (goodIn_of _ (by decide +kernel)) ggX9_acts_X9_isBelow
set_option maxRecDepth 20000 in
theorem ggX9_acts_X9_judge : GoodIn wsX9_acts wsX9_judge := goodIn_r _ [9, 1, 10, 11, 12, 13, 14, 15, 16, 17, 18, 19, 20, 21, 4, 22, 23, 24, 25, 26, 27, 28, 29, 30, 31, 32, 33, 34, 35, 36, 37, 38, 39, 40, 41, 42, 43, 44, 45, 46, 47, 48, 49, 50, 51, 52, 53, 54, 55, 56, 57, 58, 59, 60, 61, 62, 63, 64, 65, 66, 67, 68, 69, 70, 71, 72, 73, 74, 75, 76, 77, 78, 79, 80, 81, 82, 83, 84, 85, 86, 87, 88, 89, 90, 91, 92, 93, 94, 95, 96, 97, 98, 99, 100, 101, 102, 103, 104, 105, 106, 107, 108, 109, 3, 5, 110, 111, 112, 113, 114, 115, 116, 117, 118, 119, 120, 121, 122, 123, 124, 125, 126, 127, 128, 129, 130, 131, 132, 133, 134, 135, 136, 137, 138, 139, 140, 141, 142, 143, 144, 145, 146, 147, 148, 149, 150, 151, 152, 153, 154, 155, 156, 157, 158, 159, 160, 161, 162, 163, 164, 165, 166, 167, 168, 169, 170, 171, 172, 173, 184, 185, 186, 187, 188, 189, 190, 191, 192, 193, 194, 195, 196, 197, 198, 199, 200, 174, 175, 176, 177, 178, 179, 180, 181, 182, 183, 201, 202, 203, 204, 205, 206, 207, 208, 209, 210, 211, 212, 213, 214, 215, 216, 217] (by decide +kernel) (by decide +kernel)
set_option maxRecDepth 20000 in
theorem gX9_acts_X9_judge : GoodIn wsX9_acts (wsV RX9 196 RX9 yX9_judge wsX9_judge) := goodIn_app (goodIn_of _ (by decide +kernel)) ggX9_acts_X9_judge
theorem dX9_acts_0 : decode cX9_acts 0 = .ok (.iload_n 1, 1) := by decide +kernel
theorem dX9_acts_1 : decode cX9_acts 1 = .ok (.sipush 401, 3) := by decide +kernel
theorem dX9_acts_4 : decode cX9_acts 4 = .ok (.invokestatic 62, 3) := by decide +kernel
theorem dX9_acts_7 : decode cX9_acts 7 = .ok (.ifCond .eq 11, 3) := by decide +kernel
theorem dX9_acts_10 : decode cX9_acts 10 = .ok (.iload_n 2, 1) := by decide +kernel
theorem dX9_acts_11 : decode cX9_acts 11 = .ok (.iconst 3, 1) := by decide +kernel
theorem dX9_acts_12 : decode cX9_acts 12 = .ok (.invokestatic 62, 3) := by decide +kernel
theorem dX9_acts_15 : decode cX9_acts 15 = .ok (.ifCond .ne 7, 3) := by decide +kernel
theorem dX9_acts_18 : decode cX9_acts 18 = .ok (.sipush (-1002), 3) := by decide +kernel
theorem dX9_acts_21 : decode cX9_acts 21 = .ok (.ireturn, 1) := by decide +kernel
theorem dX9_acts_22 : decode cX9_acts 22 = .ok (.iconst 0, 1) := by decide +kernel
theorem dX9_acts_23 : decode cX9_acts 23 = .ok (.istore_n 3, 1) := by decide +kernel
theorem dX9_acts_24 : decode cX9_acts 24 = .ok (.iconst 0, 1) := by decide +kernel
theorem dX9_acts_25 : decode cX9_acts 25 = .ok (.istore 4, 2) := by decide +kernel
theorem dX9_acts_27 : decode cX9_acts 27 = .ok (.iload 4, 2) := by decide +kernel
theorem dX9_acts_29 : decode cX9_acts 29 = .ok (.aload_n 0, 1) := by decide +kernel
theorem dX9_acts_30 : decode cX9_acts 30 = .ok (.getfield 12, 3) := by decide +kernel
theorem dX9_acts_33 : decode cX9_acts 33 = .ok (.getfield 132, 3) := by decide +kernel
theorem dX9_acts_36 : decode cX9_acts 36 = .ok (.if_icmp .ge 30, 3) := by decide +kernel
theorem dX9_acts_39 : decode cX9_acts 39 = .ok (.iload 4, 2) := by decide +kernel
theorem dX9_acts_41 : decode cX9_acts 41 = .ok (.bipush 30, 2) := by decide +kernel
theorem dX9_acts_43 : decode cX9_acts 43 = .ok (.if_icmp .ge 23, 3) := by decide +kernel
theorem dX9_acts_46 : decode cX9_acts 46 = .ok (.aload_n 0, 1) := by decide +kernel
theorem dX9_acts_47 : decode cX9_acts 47 = .ok (.iload 4, 2) := by decide +kernel
theorem dX9_acts_49 : decode cX9_acts 49 = .ok (.iload_n 1, 1) := by decide +kernel
theorem dX9_acts_50 : decode cX9_acts 50 = .ok (.invokevirtual 196, 3) := by decide +kernel
theorem dX9_acts_53 : decode cX9_acts 53 = .ok (.iload_n 2, 1) := by decide +kernel
theorem dX9_acts_54 : decode cX9_acts 54 = .ok (.if_icmp .ne 6, 3) := by decide +kernel
theorem dX9_acts_57 : decode cX9_acts 57 = .ok (.iinc 3 1, 3) := by decide +kernel
theorem dX9_acts_60 : decode cX9_acts 60 = .ok (.iinc 4 1, 3) := by decide +kernel
theorem dX9_acts_63 : decode cX9_acts 63 = .ok (.goto (-36), 3) := by decide +kernel
theorem dX9_acts_66 : decode cX9_acts 66 = .ok (.iload_n 3, 1) := by decide +kernel
theorem dX9_acts_67 : decode cX9_acts 67 = .ok (.ireturn, 1) := by decide +kernel
set_option maxRecDepth 20000 in
theorem ggX9_works_X3_hasBlock : GoodIn wsX9_works wsX3_hasBlock := goodIn_r _ [8, 9, 10, 11, 12, 155, 156, 157, 158, 159, 160, 161, 162, 163, 164] (by decide +kernel) (by decide +kernel)
set_option maxRecDepth 20000 in
theorem gX9_works_X3_hasBlock : GoodIn wsX9_works (wsV RX9 70 RX3 yX3_hasBlock wsX3_hasBlock) := goodIn_app (goodIn_of _ (by decide +kernel)) ggX9_works_X3_hasBlock
set_option maxRecDepth 20000 in
theorem ggX9_works_X3_hasBlocks : GoodIn wsX9_works wsX3_hasBlocks := goodIn_r _ [16, 9, 155, 156, 157, 158, 159, 160, 161, 162, 163, 164] (by decide +kernel) (by decide +kernel)
set_option maxRecDepth 20000 in
theorem gX9_works_X3_hasBlocks : GoodIn wsX9_works (wsV RX9 199 RX3 yX3_hasBlocks wsX3_hasBlocks) := goodIn_app (goodIn_of _ (by decide +kernel)) ggX9_works_X3_hasBlocks
set_option maxRecDepth 20000 in
theorem ggX9_works_J6_bitCount_0f7a4 : GoodIn wsX9_works wsJ6_bitCount_0f7a4 := goodIn_r _ [20, 21, 22, 23] (by decide +kernel) (by decide +kernel)
set_option maxRecDepth 20000 in
theorem gX9_works_J6_bitCount_0f7a4 : GoodIn wsX9_works (va_wsS RX9 202 yJ6_bitCount_0f7a4 wsJ6_bitCount_0f7a4) := goodIn_app (goodIn_of _ (by decide +kernel)) ggX9_works_J6_bitCount_0f7a4
set_option maxRecDepth 20000 in
theorem ggX9_works_X9_hasBit : GoodIn wsX9_works wsX9_hasBit := goodIn_r _ [26, 27, 10, 11, 12] (by decide +kernel) (by decide +kernel)
set_option maxRecDepth 20000 in
theorem gX9_works_X9_hasBit : GoodIn wsX9_works (va_wsS RX9 207 yX9_hasBit wsX9_hasBit) := goodIn_app (goodIn_of _ (by decide +kernel)) ggX9_works_X9_hasBit
set_option maxRecDepth 20000 in
theorem ggX9_works_X4_begin : GoodIn wsX9_works wsX4_begin := goodIn_r _ [32, 33, 34, 35, 36, 37, 38, 39, 40, 41, 42, 43, 44, 45, 46, 47, 48, 165, 166, 167, 168, 169, 170, 171, 172, 173, 174, 175, 176, 177] (by decide +kernel) (by decide +kernel)
set_option maxRecDepth 20000 in
theorem gX9_works_X4_begin : GoodIn wsX9_works (wsV RX9 210 RX4 yX4_begin wsX4_begin) := goodIn_app (goodIn_of _ (by decide +kernel)) ggX9_works_X4_begin
set_option maxRecDepth 20000 in
theorem ggX9_works_X0_follow : GoodIn wsX9_works wsX0_follow := goodIn_r _ [53, 54, 55, 56, 57, 58, 59, 60, 61, 62, 63, 64, 65, 66, 67, 68, 46, 47, 48, 69, 70, 71, 72, 73, 74, 37, 75, 76, 77, 78, 7, 79, 80, 81, 11, 82, 83, 84, 85, 86, 87, 88, 89, 90, 91, 92, 93, 94, 95, 96, 97, 98, 99, 100, 101, 102, 155, 156, 157, 158, 159, 160, 161, 162, 163, 164, 178, 179, 180, 181, 182, 183, 184, 185, 186] (by decide +kernel) (by decide +kernel)
set_option maxRecDepth 20000 in
theorem gX9_works_X0_follow : GoodIn wsX9_works (wsV RX9 100 RX0 yX0_follow wsX0_follow) := goodIn_app (goodIn_of _ (by decide +kernel)) ggX9_works_X0_follow
set_option maxRecDepth 20000 in
theorem ggX9_works_X4_addBlock : GoodIn wsX9_works wsX4_addBlock := goodIn_r _ [106, 33, 107, 39, 108, 34, 109, 110, 10, 11, 12, 111, 112, 113, 52, 114, 57, 81, 82, 115, 116, 117, 118, 54, 165, 166, 167, 168, 169, 170, 171, 172, 173, 174, 175, 176, 177, 178, 179, 180, 181] (by decide +kernel) (by decide +kernel)
set_option maxRecDepth 20000 in
theorem gX9_works_X4_addBlock : GoodIn wsX9_works (wsV RX9 214 RX4 yX4_addBlock wsX4_addBlock) := goodIn_app (goodIn_of _ (by decide +kernel)) ggX9_works_X4_addBlock
set_option maxRecDepth 20000 in
theorem ggX9_works_X4_search : GoodIn wsX9_works wsX4_search := goodIn_r _ [120, 42, 33, 39, 43, 40, 121, 110, 122, 123, 124, 31, 125, 126, 127, 128, 129, 130, 131, 132, 133, 134, 109, 108, 44, 81, 11, 82, 135, 136, 137, 10, 12, 138, 119, 139, 140, 141, 142, 165, 166, 167, 168, 169, 170, 171, 172, 173, 174, 175, 176, 177] (by decide +kernel) (by decide +kernel)
set_option maxRecDepth 20000 in
theorem gX9_works_X4_search_n217 : GoodIn wsX9_works (wsX4_search) := ggX9_works_X4_search
set_option maxRecDepth 20000 in
theorem ggX9_works_X4_yearOf : GoodIn wsX9_works wsX4_yearOf := goodIn_r _ [146, 33, 107, 126, 34, 165, 166, 167, 168, 169, 170, 171, 172, 173, 174, 175, 176, 177] (by decide +kernel) (by decide +kernel)
set_option maxRecDepth 20000 in
theorem gX9_works_X4_yearOf : GoodIn wsX9_works (wsV RX9 224 RX4 yX4_yearOf wsX4_yearOf) := goodIn_app (goodIn_of _ (by decide +kernel)) ggX9_works_X4_yearOf
theorem dX9_works_0 : decode cX9_works 0 = .ok (.iload 5, 2) := by decide +kernel
theorem dX9_works_2 : decode cX9_works 2 = .ok (.iconst (-1), 1) := by decide +kernel
theorem dX9_works_3 : decode cX9_works 3 = .ok (.if_icmp .eq 19, 3) := by decide +kernel
theorem dX9_works_6 : decode cX9_works 6 = .ok (.aload_n 0, 1) := by decide +kernel
theorem dX9_works_7 : decode cX9_works 7 = .ok (.getfield 12, 3) := by decide +kernel
theorem dX9_works_10 : decode cX9_works 10 = .ok (.iload 5, 2) := by decide +kernel
theorem dX9_works_12 : decode cX9_works 12 = .ok (.invokevirtual 70, 3) := by decide +kernel
theorem dX9_works_15 : decode cX9_works 15 = .ok (.ifCond .ne 7, 3) := by decide +kernel
theorem dX9_works_18 : decode cX9_works 18 = .ok (.sipush (-1001), 3) := by decide +kernel
theorem dX9_works_21 : decode cX9_works 21 = .ok (.ireturn, 1) := by decide +kernel
theorem dX9_works_22 : decode cX9_works 22 = .ok (.aload_n 0, 1) := by decide +kernel
theorem dX9_works_23 : decode cX9_works 23 = .ok (.getfield 12, 3) := by decide +kernel
theorem dX9_works_26 : decode cX9_works 26 = .ok (.iload_n 1, 1) := by decide +kernel
theorem dX9_works_27 : decode cX9_works 27 = .ok (.invokevirtual 199, 3) := by decide +kernel
theorem dX9_works_30 : decode cX9_works 30 = .ok (.ifCond .eq 27, 3) := by decide +kernel
theorem dX9_works_33 : decode cX9_works 33 = .ok (.iload_n 1, 1) := by decide +kernel
theorem dX9_works_34 : decode cX9_works 34 = .ok (.invokestatic 202, 3) := by decide +kernel
theorem dX9_works_37 : decode cX9_works 37 = .ok (.bipush 6, 2) := by decide +kernel
theorem dX9_works_39 : decode cX9_works 39 = .ok (.if_icmp .gt 18, 3) := by decide +kernel
theorem dX9_works_42 : decode cX9_works 42 = .ok (.iload 5, 2) := by decide +kernel
theorem dX9_works_44 : decode cX9_works 44 = .ok (.iconst (-1), 1) := by decide +kernel
theorem dX9_works_45 : decode cX9_works 45 = .ok (.if_icmp .eq 16, 3) := by decide +kernel
theorem dX9_works_48 : decode cX9_works 48 = .ok (.iload_n 1, 1) := by decide +kernel
theorem dX9_works_49 : decode cX9_works 49 = .ok (.iload 5, 2) := by decide +kernel
theorem dX9_works_51 : decode cX9_works 51 = .ok (.invokestatic 207, 3) := by decide +kernel
theorem dX9_works_54 : decode cX9_works 54 = .ok (.ifCond .ne 7, 3) := by decide +kernel
theorem dX9_works_57 : decode cX9_works 57 = .ok (.sipush (-1002), 3) := by decide +kernel
theorem dX9_works_60 : decode cX9_works 60 = .ok (.ireturn, 1) := by decide +kernel
theorem dX9_works_61 : decode cX9_works 61 = .ok (.iload_n 2, 1) := by decide +kernel
theorem dX9_works_62 : decode cX9_works 62 = .ok (.ifCond .lt 33, 3) := by decide +kernel
theorem dX9_works_65 : decode cX9_works 65 = .ok (.iload_n 2, 1) := by decide +kernel
theorem dX9_works_66 : decode cX9_works 66 = .ok (.sipush 396, 3) := by decide +kernel
theorem dX9_works_69 : decode cX9_works 69 = .ok (.if_icmp .gt 26, 3) := by decide +kernel
theorem dX9_works_72 : decode cX9_works 72 = .ok (.iload_n 3, 1) := by decide +kernel
theorem dX9_works_73 : decode cX9_works 73 = .ok (.iconst 1, 1) := by decide +kernel
theorem dX9_works_74 : decode cX9_works 74 = .ok (.if_icmp .lt 21, 3) := by decide +kernel
theorem dX9_works_77 : decode cX9_works 77 = .ok (.iload_n 3, 1) := by decide +kernel
theorem dX9_works_78 : decode cX9_works 78 = .ok (.iconst 4, 1) := by decide +kernel
theorem dX9_works_79 : decode cX9_works 79 = .ok (.if_icmp .gt 16, 3) := by decide +kernel
theorem dX9_works_82 : decode cX9_works 82 = .ok (.iload 4, 2) := by decide +kernel
theorem dX9_works_84 : decode cX9_works 84 = .ok (.ifCond .lt 11, 3) := by decide +kernel
theorem dX9_works_87 : decode cX9_works 87 = .ok (.iload 4, 2) := by decide +kernel
theorem dX9_works_89 : decode cX9_works 89 = .ok (.sipush 1000, 3) := by decide +kernel
theorem dX9_works_92 : decode cX9_works 92 = .ok (.if_icmp .le 7, 3) := by decide +kernel
theorem dX9_works_95 : decode cX9_works 95 = .ok (.sipush (-1002), 3) := by decide +kernel
theorem dX9_works_98 : decode cX9_works 98 = .ok (.ireturn, 1) := by decide +kernel
theorem dX9_works_99 : decode cX9_works 99 = .ok (.aload_n 0, 1) := by decide +kernel
theorem dX9_works_100 : decode cX9_works 100 = .ok (.getfield 51, 3) := by decide +kernel
theorem dX9_works_103 : decode cX9_works 103 = .ok (.iload_n 2, 1) := by decide +kernel
theorem dX9_works_104 : decode cX9_works 104 = .ok (.iload_n 3, 1) := by decide +kernel
theorem dX9_works_105 : decode cX9_works 105 = .ok (.iload 4, 2) := by decide +kernel
theorem dX9_works_107 : decode cX9_works 107 = .ok (.invokevirtual 210, 3) := by decide +kernel
theorem dX9_works_110 : decode cX9_works 110 = .ok (.iconst 0, 1) := by decide +kernel
theorem dX9_works_111 : decode cX9_works 111 = .ok (.istore 6, 2) := by decide +kernel
theorem dX9_works_113 : decode cX9_works 113 = .ok (.iload 6, 2) := by decide +kernel
theorem dX9_works_115 : decode cX9_works 115 = .ok (.aload_n 0, 1) := by decide +kernel
theorem dX9_works_116 : decode cX9_works 116 = .ok (.getfield 12, 3) := by decide +kernel
theorem dX9_works_119 : decode cX9_works 119 = .ok (.getfield 132, 3) := by decide +kernel
theorem dX9_works_122 : decode cX9_works 122 = .ok (.if_icmp .ge 51, 3) := by decide +kernel
theorem dX9_works_125 : decode cX9_works 125 = .ok (.iload 6, 2) := by decide +kernel
theorem dX9_works_127 : decode cX9_works 127 = .ok (.bipush 30, 2) := by decide +kernel
theorem dX9_works_129 : decode cX9_works 129 = .ok (.if_icmp .ge 44, 3) := by decide +kernel
theorem dX9_works_132 : decode cX9_works 132 = .ok (.iload_n 1, 1) := by decide +kernel
theorem dX9_works_133 : decode cX9_works 133 = .ok (.iload 6, 2) := by decide +kernel
theorem dX9_works_135 : decode cX9_works 135 = .ok (.invokestatic 207, 3) := by decide +kernel
theorem dX9_works_138 : decode cX9_works 138 = .ok (.ifCond .eq 29, 3) := by decide +kernel
theorem dX9_works_141 : decode cX9_works 141 = .ok (.aload_n 0, 1) := by decide +kernel
theorem dX9_works_142 : decode cX9_works 142 = .ok (.getfield 19, 3) := by decide +kernel
theorem dX9_works_145 : decode cX9_works 145 = .ok (.aload_n 0, 1) := by decide +kernel
theorem dX9_works_146 : decode cX9_works 146 = .ok (.getfield 12, 3) := by decide +kernel
theorem dX9_works_149 : decode cX9_works 149 = .ok (.iload 6, 2) := by decide +kernel
theorem dX9_works_151 : decode cX9_works 151 = .ok (.invokevirtual 100, 3) := by decide +kernel
theorem dX9_works_154 : decode cX9_works 154 = .ok (.aload_n 0, 1) := by decide +kernel
theorem dX9_works_155 : decode cX9_works 155 = .ok (.getfield 51, 3) := by decide +kernel
theorem dX9_works_158 : decode cX9_works 158 = .ok (.iload 6, 2) := by decide +kernel
theorem dX9_works_160 : decode cX9_works 160 = .ok (.aload_n 0, 1) := by decide +kernel
theorem dX9_works_161 : decode cX9_works 161 = .ok (.getfield 19, 3) := by decide +kernel
theorem dX9_works_164 : decode cX9_works 164 = .ok (.invokevirtual 214, 3) := by decide +kernel
theorem dX9_works_167 : decode cX9_works 167 = .ok (.iinc 6 1, 3) := by decide +kernel
theorem dX9_works_170 : decode cX9_works 170 = .ok (.goto (-57), 3) := by decide +kernel
theorem dX9_works_173 : decode cX9_works 173 = .ok (.aload_n 0, 1) := by decide +kernel
theorem dX9_works_174 : decode cX9_works 174 = .ok (.getfield 51, 3) := by decide +kernel
theorem dX9_works_177 : decode cX9_works 177 = .ok (.iconst 0, 1) := by decide +kernel
theorem dX9_works_178 : decode cX9_works 178 = .ok (.iconst 0, 1) := by decide +kernel
theorem dX9_works_179 : decode cX9_works 179 = .ok (.invokestatic 217, 3) := by decide +kernel
theorem dX9_works_182 : decode cX9_works 182 = .ok (.iload 5, 2) := by decide +kernel
theorem dX9_works_184 : decode cX9_works 184 = .ok (.iconst (-1), 1) := by decide +kernel
theorem dX9_works_185 : decode cX9_works 185 = .ok (.if_icmp .ne 13, 3) := by decide +kernel
theorem dX9_works_188 : decode cX9_works 188 = .ok (.aload_n 0, 1) := by decide +kernel
theorem dX9_works_189 : decode cX9_works 189 = .ok (.getfield 51, 3) := by decide +kernel
theorem dX9_works_192 : decode cX9_works 192 = .ok (.getfield 221, 3) := by decide +kernel
theorem dX9_works_195 : decode cX9_works 195 = .ok (.goto 12, 3) := by decide +kernel
theorem dX9_works_198 : decode cX9_works 198 = .ok (.aload_n 0, 1) := by decide +kernel
theorem dX9_works_199 : decode cX9_works 199 = .ok (.getfield 51, 3) := by decide +kernel
theorem dX9_works_202 : decode cX9_works 202 = .ok (.iload 5, 2) := by decide +kernel
theorem dX9_works_204 : decode cX9_works 204 = .ok (.invokevirtual 224, 3) := by decide +kernel
theorem dX9_works_207 : decode cX9_works 207 = .ok (.ireturn, 1) := by decide +kernel
set_option maxRecDepth 20000 in
theorem ggX9_lot_X9_isBelow : GoodIn wsX9_lot wsX9_isBelow := goodIn_r _ [5] (by decide +kernel) (by decide +kernel)
set_option maxRecDepth 20000 in
theorem gX9_lot_X9_isBelow : GoodIn wsX9_lot (va_wsS RX9 62 yX9_isBelow wsX9_isBelow) := goodIn_app (goodIn_of _ (by decide +kernel)) ggX9_lot_X9_isBelow
set_option maxRecDepth 20000 in
theorem ggX9_lot_X9_isQuality : GoodIn wsX9_lot wsX9_isQuality := goodIn_r _ [8] (by decide +kernel) (by decide +kernel)
set_option maxRecDepth 20000 in
theorem gX9_lot_X9_isQuality : GoodIn wsX9_lot (va_wsS RX9 227 yX9_isQuality wsX9_isQuality) := goodIn_app (goodIn_of _ (by decide +kernel)) ggX9_lot_X9_isQuality
set_option maxRecDepth 20000 in
theorem ggX9_lot_X8_add : GoodIn wsX9_lot wsX8_add := goodIn_r _ [13, 14, 15, 16, 17, 18, 19, 3, 4, 5, 28, 29, 30, 31, 32, 33] (by decide +kernel) (by decide +kernel)
set_option maxRecDepth 20000 in
theorem gX9_lot_X8_add : GoodIn wsX9_lot (wsV RX9 230 RX8 yX8_add wsX8_add) := goodIn_app (goodIn_of _ (by decide +kernel)) ggX9_lot_X8_add
theorem dX9_lot_0 : decode cX9_lot 0 = .ok (.iload_n 1, 1) := by decide +kernel
theorem dX9_lot_1 : decode cX9_lot 1 = .ok (.iconst 4, 1) := by decide +kernel
theorem dX9_lot_2 : decode cX9_lot 2 = .ok (.invokestatic 62, 3) := by decide +kernel
theorem dX9_lot_5 : decode cX9_lot 5 = .ok (.ifCond .eq 33, 3) := by decide +kernel
theorem dX9_lot_8 : decode cX9_lot 8 = .ok (.iload_n 2, 1) := by decide +kernel
theorem dX9_lot_9 : decode cX9_lot 9 = .ok (.invokestatic 227, 3) := by decide +kernel
theorem dX9_lot_12 : decode cX9_lot 12 = .ok (.ifCond .eq 26, 3) := by decide +kernel
theorem dX9_lot_15 : decode cX9_lot 15 = .ok (.iload_n 3, 1) := by decide +kernel
theorem dX9_lot_16 : decode cX9_lot 16 = .ok (.invokestatic 227, 3) := by decide +kernel
theorem dX9_lot_19 : decode cX9_lot 19 = .ok (.ifCond .eq 19, 3) := by decide +kernel
theorem dX9_lot_22 : decode cX9_lot 22 = .ok (.iload 4, 2) := by decide +kernel
theorem dX9_lot_24 : decode cX9_lot 24 = .ok (.invokestatic 227, 3) := by decide +kernel
theorem dX9_lot_27 : decode cX9_lot 27 = .ok (.ifCond .eq 11, 3) := by decide +kernel
theorem dX9_lot_30 : decode cX9_lot 30 = .ok (.iload 5, 2) := by decide +kernel
theorem dX9_lot_32 : decode cX9_lot 32 = .ok (.invokestatic 227, 3) := by decide +kernel
theorem dX9_lot_35 : decode cX9_lot 35 = .ok (.ifCond .ne 7, 3) := by decide +kernel
theorem dX9_lot_38 : decode cX9_lot 38 = .ok (.sipush (-1002), 3) := by decide +kernel
theorem dX9_lot_41 : decode cX9_lot 41 = .ok (.ireturn, 1) := by decide +kernel
theorem dX9_lot_42 : decode cX9_lot 42 = .ok (.aload_n 0, 1) := by decide +kernel
theorem dX9_lot_43 : decode cX9_lot 43 = .ok (.getfield 58, 3) := by decide +kernel
theorem dX9_lot_46 : decode cX9_lot 46 = .ok (.iload_n 1, 1) := by decide +kernel
theorem dX9_lot_47 : decode cX9_lot 47 = .ok (.iload_n 2, 1) := by decide +kernel
theorem dX9_lot_48 : decode cX9_lot 48 = .ok (.iload_n 3, 1) := by decide +kernel
theorem dX9_lot_49 : decode cX9_lot 49 = .ok (.iload 4, 2) := by decide +kernel
theorem dX9_lot_51 : decode cX9_lot 51 = .ok (.iload 5, 2) := by decide +kernel
theorem dX9_lot_53 : decode cX9_lot 53 = .ok (.invokevirtual 230, 3) := by decide +kernel
theorem dX9_lot_56 : decode cX9_lot 56 = .ok (.ireturn, 1) := by decide +kernel
set_option maxRecDepth 20000 in
theorem ggX9_match_X9_isBelow : GoodIn wsX9_match wsX9_isBelow := goodIn_r _ [5] (by decide +kernel) (by decide +kernel)
set_option maxRecDepth 20000 in
theorem gX9_match_X9_isBelow : GoodIn wsX9_match (va_wsS RX9 62 yX9_isBelow wsX9_isBelow) := goodIn_app (goodIn_of _ (by decide +kernel)) ggX9_match_X9_isBelow
set_option maxRecDepth 20000 in
theorem ggX9_match_X9_isQuality : GoodIn wsX9_match wsX9_isQuality := goodIn_r _ [8] (by decide +kernel) (by decide +kernel)
set_option maxRecDepth 20000 in
theorem gX9_match_X9_isQuality : GoodIn wsX9_match (va_wsS RX9 227 yX9_isQuality wsX9_isQuality) := goodIn_app (goodIn_of _ (by decide +kernel)) ggX9_match_X9_isQuality
set_option maxRecDepth 20000 in
theorem ggX9_match_X8_findMatch : GoodIn wsX9_match wsX8_findMatch := goodIn_r _ [13, 14, 15, 16, 17, 18, 19, 20, 21, 22, 23, 24, 33, 34, 35, 36, 37, 38] (by decide +kernel) (by decide +kernel)
set_option maxRecDepth 20000 in
theorem gX9_match_X8_findMatch : GoodIn wsX9_match (wsV RX9 233 RX8 yX8_findMatch wsX8_findMatch) := goodIn_app (goodIn_of _ (by decide +kernel)) ggX9_match_X8_findMatch
theorem dX9_match_0 : decode cX9_match 0 = .ok (.iload_n 1, 1) := by decide +kernel
theorem dX9_match_1 : decode cX9_match 1 = .ok (.iconst (-1), 1) := by decide +kernel
theorem dX9_match_2 : decode cX9_match 2 = .ok (.if_icmp .eq 11, 3) := by decide +kernel
theorem dX9_match_5 : decode cX9_match 5 = .ok (.iload_n 1, 1) := by decide +kernel
theorem dX9_match_6 : decode cX9_match 6 = .ok (.iconst 4, 1) := by decide +kernel
theorem dX9_match_7 : decode cX9_match 7 = .ok (.invokestatic 62, 3) := by decide +kernel
theorem dX9_match_10 : decode cX9_match 10 = .ok (.ifCond .eq 33, 3) := by decide +kernel
theorem dX9_match_13 : decode cX9_match 13 = .ok (.iload_n 2, 1) := by decide +kernel
theorem dX9_match_14 : decode cX9_match 14 = .ok (.invokestatic 227, 3) := by decide +kernel
theorem dX9_match_17 : decode cX9_match 17 = .ok (.ifCond .eq 26, 3) := by decide +kernel
theorem dX9_match_20 : decode cX9_match 20 = .ok (.iload_n 3, 1) := by decide +kernel
theorem dX9_match_21 : decode cX9_match 21 = .ok (.invokestatic 227, 3) := by decide +kernel
theorem dX9_match_24 : decode cX9_match 24 = .ok (.ifCond .eq 19, 3) := by decide +kernel
theorem dX9_match_27 : decode cX9_match 27 = .ok (.iload 4, 2) := by decide +kernel
theorem dX9_match_29 : decode cX9_match 29 = .ok (.invokestatic 227, 3) := by decide +kernel
theorem dX9_match_32 : decode cX9_match 32 = .ok (.ifCond .eq 11, 3) := by decide +kernel
theorem dX9_match_35 : decode cX9_match 35 = .ok (.iload 5, 2) := by decide +kernel
theorem dX9_match_37 : decode cX9_match 37 = .ok (.invokestatic 227, 3) := by decide +kernel
theorem dX9_match_40 : decode cX9_match 40 = .ok (.ifCond .ne 7, 3) := by decide +kernel
theorem dX9_match_43 : decode cX9_match 43 = .ok (.sipush (-1002), 3) := by decide +kernel
theorem dX9_match_46 : decode cX9_match 46 = .ok (.ireturn, 1) := by decide +kernel
theorem dX9_match_47 : decode cX9_match 47 = .ok (.aload_n 0, 1) := by decide +kernel
theorem dX9_match_48 : decode cX9_match 48 = .ok (.getfield 58, 3) := by decide +kernel
theorem dX9_match_51 : decode cX9_match 51 = .ok (.iload_n 1, 1) := by decide +kernel
theorem dX9_match_52 : decode cX9_match 52 = .ok (.iload_n 2, 1) := by decide +kernel
theorem dX9_match_53 : decode cX9_match 53 = .ok (.iload_n 3, 1) := by decide +kernel
theorem dX9_match_54 : decode cX9_match 54 = .ok (.iload 4, 2) := by decide +kernel
theorem dX9_match_56 : decode cX9_match 56 = .ok (.iload 5, 2) := by decide +kernel
theorem dX9_match_58 : decode cX9_match 58 = .ok (.invokevirtual 233, 3) := by decide +kernel
theorem dX9_match_61 : decode cX9_match 61 = .ok (.ireturn, 1) := by decide +kernel
set_option maxRecDepth 20000 in
theorem ggX9_take_X9_isBelow : GoodIn wsX9_take wsX9_isBelow := goodIn_r _ [5] (by decide +kernel) (by decide +kernel)
set_option maxRecDepth 20000 in
theorem gX9_take_X9_isBelow : GoodIn wsX9_take (va_wsS RX9 62 yX9_isBelow wsX9_isBelow) := goodIn_app (goodIn_of _ (by decide +kernel)) ggX9_take_X9_isBelow
set_option maxRecDepth 20000 in
theorem ggX9_take_X8_takePiece : GoodIn wsX9_take wsX8_takePiece := goodIn_r _ [10, 11, 12, 4, 13, 3, 5, 22, 23, 24, 25, 26, 27] (by decide +kernel) (by decide +kernel)
set_option maxRecDepth 20000 in
theorem gX9_take_X8_takePiece : GoodIn wsX9_take (wsV RX9 236 RX8 yX8_takePiece wsX8_takePiece) := goodIn_app (goodIn_of _ (by decide +kernel)) ggX9_take_X8_takePiece
theorem dX9_take_0 : decode cX9_take 0 = .ok (.iload_n 1, 1) := by decide +kernel
theorem dX9_take_1 : decode cX9_take 1 = .ok (.aload_n 0, 1) := by decide +kernel
theorem dX9_take_2 : decode cX9_take 2 = .ok (.getfield 58, 3) := by decide +kernel
theorem dX9_take_5 : decode cX9_take 5 = .ok (.getfield 151, 3) := by decide +kernel
theorem dX9_take_8 : decode cX9_take 8 = .ok (.invokestatic 62, 3) := by decide +kernel
theorem dX9_take_11 : decode cX9_take 11 = .ok (.ifCond .ne 7, 3) := by decide +kernel
theorem dX9_take_14 : decode cX9_take 14 = .ok (.sipush (-1001), 3) := by decide +kernel
theorem dX9_take_17 : decode cX9_take 17 = .ok (.ireturn, 1) := by decide +kernel
theorem dX9_take_18 : decode cX9_take 18 = .ok (.aload_n 0, 1) := by decide +kernel
theorem dX9_take_19 : decode cX9_take 19 = .ok (.getfield 58, 3) := by decide +kernel
theorem dX9_take_22 : decode cX9_take 22 = .ok (.iload_n 1, 1) := by decide +kernel
theorem dX9_take_23 : decode cX9_take 23 = .ok (.invokevirtual 236, 3) := by decide +kernel
theorem dX9_take_26 : decode cX9_take 26 = .ok (.ireturn, 1) := by decide +kernel
set_option maxRecDepth 20000 in
theorem ggX9_judge_X3_deepOf : GoodIn wsX9_judge wsX3_deepOf := goodIn_r _ [11, 12, 13, 14, 15, 186, 187, 188, 189, 190, 191, 192, 193, 194, 195] (by decide +kernel) (by decide +kernel)
set_option maxRecDepth 20000 in
theorem gX9_judge_X3_deepOf : GoodIn wsX9_judge (wsV RX9 110 RX3 yX3_deepOf wsX3_deepOf) := goodIn_app (goodIn_of _ (by decide +kernel)) ggX9_judge_X3_deepOf
set_option maxRecDepth 20000 in
theorem ggX9_judge_X0_follow : GoodIn wsX9_judge wsX0_follow := goodIn_r _ [20, 21, 22, 23, 24, 25, 26, 27, 28, 29, 30, 31, 32, 33, 34, 35, 36, 37, 38, 39, 40, 41, 42, 43, 44, 45, 46, 47, 48, 49, 10, 50, 51, 13, 14, 15, 52, 53, 54, 55, 56, 57, 58, 59, 60, 61, 62, 8, 9, 11, 12, 63, 64, 65, 66, 67, 186, 187, 188, 189, 190, 191, 192, 193, 194, 195, 196, 197, 198, 199, 200, 201, 202, 203, 204] (by decide +kernel) (by decide +kernel)
set_option maxRecDepth 20000 in
theorem gX9_judge_X0_follow : GoodIn wsX9_judge (wsV RX9 100 RX0 yX0_follow wsX0_follow) := goodIn_app (goodIn_of _ (by decide +kernel)) ggX9_judge_X0_follow
set_option maxRecDepth 20000 in
theorem ggX9_judge_X0_lostAt : GoodIn wsX9_judge wsX0_lostAt := goodIn_r _ [71, 24, 13, 14, 15, 196, 197, 198, 199] (by decide +kernel) (by decide +kernel)
set_option maxRecDepth 20000 in
theorem gX9_judge_X0_lostAt : GoodIn wsX9_judge (wsV RX9 125 RX0 yX0_lostAt wsX0_lostAt) := goodIn_app (goodIn_of _ (by decide +kernel)) ggX9_judge_X0_lostAt
set_option maxRecDepth 20000 in
theorem ggX9_judge_X2_findState : GoodIn wsX9_judge wsX2_findState := goodIn_r _ [76, 77, 78, 79, 80, 81, 82, 83, 84, 85, 86, 87, 75, 88, 89, 90, 91, 92, 93, 94, 95, 36, 37, 38, 96, 97, 98, 99, 13, 14, 15, 100, 101, 102, 103, 104, 105, 106, 107, 108, 109, 110, 111, 112, 113, 114, 115, 116, 117, 45, 118, 119, 120, 121, 122, 123, 124, 125, 126, 127, 169, 170, 171, 172, 173, 174, 175, 176, 177, 178, 205, 206] (by decide +kernel) (by decide +kernel)
set_option maxRecDepth 20000 in
theorem gX9_judge_X2_findState : GoodIn wsX9_judge (wsV RX9 180 RX2 yX2_findState wsX2_findState) := goodIn_app (goodIn_of _ (by decide +kernel)) ggX9_judge_X2_findState
set_option maxRecDepth 20000 in
theorem ggX9_judge_X1_cut : GoodIn wsX9_judge wsX1_cut := goodIn_r _ [131, 111, 110, 205, 206] (by decide +kernel) (by decide +kernel)
set_option maxRecDepth 20000 in
theorem gX9_judge_X1_cut : GoodIn wsX9_judge (wsV RX9 239 RX1 yX1_cut wsX1_cut) := goodIn_app (goodIn_of _ (by decide +kernel)) ggX9_judge_X1_cut
set_option maxRecDepth 20000 in
theorem ggX9_judge_X0_wetAt : GoodIn wsX9_judge wsX0_wetAt := goodIn_r _ [135, 21, 13, 14, 15, 196, 197, 198, 199] (by decide +kernel) (by decide +kernel)
set_option maxRecDepth 20000 in
theorem gX9_judge_X0_wetAt : GoodIn wsX9_judge (wsV RX9 116 RX0 yX0_wetAt wsX0_wetAt) := goodIn_app (goodIn_of _ (by decide +kernel)) ggX9_judge_X0_wetAt
set_option maxRecDepth 20000 in
theorem ggX9_judge_X0_sideAt : GoodIn wsX9_judge wsX0_sideAt := goodIn_r _ [139, 21, 13, 14, 15, 196, 197, 198, 199] (by decide +kernel) (by decide +kernel)
set_option maxRecDepth 20000 in
theorem gX9_judge_X0_sideAt : GoodIn wsX9_judge (wsV RX9 113 RX0 yX0_sideAt wsX0_sideAt) := goodIn_app (goodIn_of _ (by decide +kernel)) ggX9_judge_X0_sideAt
set_option maxRecDepth 20000 in
theorem ggX9_judge_X3_stoneOf : GoodIn wsX9_judge wsX3_stoneOf := goodIn_r _ [50, 51, 13, 14, 15, 186, 187, 188, 189, 190, 191, 192, 193, 194, 195] (by decide +kernel) (by decide +kernel)
set_option maxRecDepth 20000 in
theorem gX9_judge_X3_stoneOf : GoodIn wsX9_judge (wsV RX9 104 RX3 yX3_stoneOf wsX3_stoneOf) := goodIn_app (goodIn_of _ (by decide +kernel)) ggX9_judge_X3_stoneOf
set_option maxRecDepth 20000 in
theorem ggX9_judge_X3_laidOf : GoodIn wsX9_judge wsX3_laidOf := goodIn_r _ [55, 56, 13, 14, 15, 186, 187, 188, 189, 190, 191, 192, 193, 194, 195] (by decide +kernel) (by decide +kernel)
set_option maxRecDepth 20000 in
theorem gX9_judge_X3_laidOf : GoodIn wsX9_judge (wsV RX9 107 RX3 yX3_laidOf wsX3_laidOf) := goodIn_app (goodIn_of _ (by decide +kernel)) ggX9_judge_X3_laidOf
set_option maxRecDepth 20000 in
theorem ggX9_judge_X0_harmAt : GoodIn wsX9_judge wsX0_harmAt := goodIn_r _ [145, 22, 13, 14, 15, 196, 197, 198, 199] (by decide +kernel) (by decide +kernel)
set_option maxRecDepth 20000 in
theorem gX9_judge_X0_harmAt : GoodIn wsX9_judge (wsV RX9 122 RX0 yX0_harmAt wsX0_harmAt) := goodIn_app (goodIn_of _ (by decide +kernel)) ggX9_judge_X0_harmAt
set_option maxRecDepth 20000 in
theorem ggX9_judge_X6_decide : GoodIn wsX9_judge wsX6_decide := goodIn_r _ [150, 151, 152, 153, 154, 155, 149, 156, 157, 158, 159, 160, 13, 14, 15, 207, 208, 209, 210, 211, 212] (by decide +kernel) (by decide +kernel)
set_option maxRecDepth 20000 in
theorem gX9_judge_X6_decide : GoodIn wsX9_judge (wsV RX9 242 RX6 yX6_decide wsX6_decide) := goodIn_app (goodIn_of _ (by decide +kernel)) ggX9_judge_X6_decide
theorem dX9_judge_0 : decode cX9_judge 0 = .ok (.aload_n 0, 1) := by decide +kernel
theorem dX9_judge_1 : decode cX9_judge 1 = .ok (.getfield 12, 3) := by decide +kernel
theorem dX9_judge_4 : decode cX9_judge 4 = .ok (.iload_n 1, 1) := by decide +kernel
theorem dX9_judge_5 : decode cX9_judge 5 = .ok (.invokevirtual 110, 3) := by decide +kernel
theorem dX9_judge_8 : decode cX9_judge 8 = .ok (.istore_n 3, 1) := by decide +kernel
theorem dX9_judge_9 : decode cX9_judge 9 = .ok (.aload_n 0, 1) := by decide +kernel
theorem dX9_judge_10 : decode cX9_judge 10 = .ok (.getfield 19, 3) := by decide +kernel
theorem dX9_judge_13 : decode cX9_judge 13 = .ok (.aload_n 0, 1) := by decide +kernel
theorem dX9_judge_14 : decode cX9_judge 14 = .ok (.getfield 12, 3) := by decide +kernel
theorem dX9_judge_17 : decode cX9_judge 17 = .ok (.iload_n 1, 1) := by decide +kernel
theorem dX9_judge_18 : decode cX9_judge 18 = .ok (.invokevirtual 100, 3) := by decide +kernel
theorem dX9_judge_21 : decode cX9_judge 21 = .ok (.aload_n 0, 1) := by decide +kernel
theorem dX9_judge_22 : decode cX9_judge 22 = .ok (.getfield 44, 3) := by decide +kernel
theorem dX9_judge_25 : decode cX9_judge 25 = .ok (.iconst 0, 1) := by decide +kernel
theorem dX9_judge_26 : decode cX9_judge 26 = .ok (.iload_n 3, 1) := by decide +kernel
theorem dX9_judge_27 : decode cX9_judge 27 = .ok (.ifCond .le 19, 3) := by decide +kernel
theorem dX9_judge_30 : decode cX9_judge 30 = .ok (.aload_n 0, 1) := by decide +kernel
theorem dX9_judge_31 : decode cX9_judge 31 = .ok (.getfield 19, 3) := by decide +kernel
theorem dX9_judge_34 : decode cX9_judge 34 = .ok (.iload_n 2, 1) := by decide +kernel
theorem dX9_judge_35 : decode cX9_judge 35 = .ok (.invokevirtual 125, 3) := by decide +kernel
theorem dX9_judge_38 : decode cX9_judge 38 = .ok (.bipush 100, 2) := by decide +kernel
theorem dX9_judge_40 : decode cX9_judge 40 = .ok (.imul, 1) := by decide +kernel
theorem dX9_judge_41 : decode cX9_judge 41 = .ok (.iload_n 3, 1) := by decide +kernel
theorem dX9_judge_42 : decode cX9_judge 42 = .ok (.idiv, 1) := by decide +kernel
theorem dX9_judge_43 : decode cX9_judge 43 = .ok (.goto 4, 3) := by decide +kernel
theorem dX9_judge_46 : decode cX9_judge 46 = .ok (.iconst 0, 1) := by decide +kernel
theorem dX9_judge_47 : decode cX9_judge 47 = .ok (.iastore, 1) := by decide +kernel
theorem dX9_judge_48 : decode cX9_judge 48 = .ok (.aload_n 0, 1) := by decide +kernel
theorem dX9_judge_49 : decode cX9_judge 49 = .ok (.getfield 26, 3) := by decide +kernel
theorem dX9_judge_52 : decode cX9_judge 52 = .ok (.iload_n 1, 1) := by decide +kernel
theorem dX9_judge_53 : decode cX9_judge 53 = .ok (.iload_n 2, 1) := by decide +kernel
theorem dX9_judge_54 : decode cX9_judge 54 = .ok (.aload_n 0, 1) := by decide +kernel
theorem dX9_judge_55 : decode cX9_judge 55 = .ok (.getfield 26, 3) := by decide +kernel
theorem dX9_judge_58 : decode cX9_judge 58 = .ok (.getfield 136, 3) := by decide +kernel
theorem dX9_judge_61 : decode cX9_judge 61 = .ok (.aload_n 0, 1) := by decide +kernel
theorem dX9_judge_62 : decode cX9_judge 62 = .ok (.getfield 33, 3) := by decide +kernel
theorem dX9_judge_65 : decode cX9_judge 65 = .ok (.invokevirtual 180, 3) := by decide +kernel
theorem dX9_judge_68 : decode cX9_judge 68 = .ok (.istore 4, 2) := by decide +kernel
theorem dX9_judge_70 : decode cX9_judge 70 = .ok (.aload_n 0, 1) := by decide +kernel
theorem dX9_judge_71 : decode cX9_judge 71 = .ok (.getfield 44, 3) := by decide +kernel
theorem dX9_judge_74 : decode cX9_judge 74 = .ok (.iconst 1, 1) := by decide +kernel
theorem dX9_judge_75 : decode cX9_judge 75 = .ok (.iload 4, 2) := by decide +kernel
theorem dX9_judge_77 : decode cX9_judge 77 = .ok (.ifCond .eq 13, 3) := by decide +kernel
theorem dX9_judge_80 : decode cX9_judge 80 = .ok (.aload_n 0, 1) := by decide +kernel
theorem dX9_judge_81 : decode cX9_judge 81 = .ok (.getfield 33, 3) := by decide +kernel
theorem dX9_judge_84 : decode cX9_judge 84 = .ok (.invokevirtual 239, 3) := by decide +kernel
theorem dX9_judge_87 : decode cX9_judge 87 = .ok (.goto 4, 3) := by decide +kernel
theorem dX9_judge_90 : decode cX9_judge 90 = .ok (.iconst 0, 1) := by decide +kernel
theorem dX9_judge_91 : decode cX9_judge 91 = .ok (.iastore, 1) := by decide +kernel
theorem dX9_judge_92 : decode cX9_judge 92 = .ok (.aload_n 0, 1) := by decide +kernel
theorem dX9_judge_93 : decode cX9_judge 93 = .ok (.getfield 44, 3) := by decide +kernel
theorem dX9_judge_96 : decode cX9_judge 96 = .ok (.iconst 2, 1) := by decide +kernel
theorem dX9_judge_97 : decode cX9_judge 97 = .ok (.aload_n 0, 1) := by decide +kernel
theorem dX9_judge_98 : decode cX9_judge 98 = .ok (.getfield 19, 3) := by decide +kernel
theorem dX9_judge_101 : decode cX9_judge 101 = .ok (.iload_n 2, 1) := by decide +kernel
theorem dX9_judge_102 : decode cX9_judge 102 = .ok (.invokevirtual 116, 3) := by decide +kernel
theorem dX9_judge_105 : decode cX9_judge 105 = .ok (.iastore, 1) := by decide +kernel
theorem dX9_judge_106 : decode cX9_judge 106 = .ok (.aload_n 0, 1) := by decide +kernel
theorem dX9_judge_107 : decode cX9_judge 107 = .ok (.getfield 44, 3) := by decide +kernel
theorem dX9_judge_110 : decode cX9_judge 110 = .ok (.iconst 3, 1) := by decide +kernel
theorem dX9_judge_111 : decode cX9_judge 111 = .ok (.aload_n 0, 1) := by decide +kernel
theorem dX9_judge_112 : decode cX9_judge 112 = .ok (.getfield 19, 3) := by decide +kernel
theorem dX9_judge_115 : decode cX9_judge 115 = .ok (.iload_n 2, 1) := by decide +kernel
theorem dX9_judge_116 : decode cX9_judge 116 = .ok (.invokevirtual 113, 3) := by decide +kernel
theorem dX9_judge_119 : decode cX9_judge 119 = .ok (.iastore, 1) := by decide +kernel
theorem dX9_judge_120 : decode cX9_judge 120 = .ok (.aload_n 0, 1) := by decide +kernel
theorem dX9_judge_121 : decode cX9_judge 121 = .ok (.getfield 44, 3) := by decide +kernel
theorem dX9_judge_124 : decode cX9_judge 124 = .ok (.iconst 4, 1) := by decide +kernel
theorem dX9_judge_125 : decode cX9_judge 125 = .ok (.aload_n 0, 1) := by decide +kernel
theorem dX9_judge_126 : decode cX9_judge 126 = .ok (.getfield 12, 3) := by decide +kernel
theorem dX9_judge_129 : decode cX9_judge 129 = .ok (.iload_n 1, 1) := by decide +kernel
theorem dX9_judge_130 : decode cX9_judge 130 = .ok (.invokevirtual 104, 3) := by decide +kernel
theorem dX9_judge_133 : decode cX9_judge 133 = .ok (.iastore, 1) := by decide +kernel
theorem dX9_judge_134 : decode cX9_judge 134 = .ok (.aload_n 0, 1) := by decide +kernel
theorem dX9_judge_135 : decode cX9_judge 135 = .ok (.getfield 44, 3) := by decide +kernel
theorem dX9_judge_138 : decode cX9_judge 138 = .ok (.iconst 5, 1) := by decide +kernel
theorem dX9_judge_139 : decode cX9_judge 139 = .ok (.iload_n 2, 1) := by decide +kernel
theorem dX9_judge_140 : decode cX9_judge 140 = .ok (.aload_n 0, 1) := by decide +kernel
theorem dX9_judge_141 : decode cX9_judge 141 = .ok (.getfield 12, 3) := by decide +kernel
theorem dX9_judge_144 : decode cX9_judge 144 = .ok (.iload_n 1, 1) := by decide +kernel
theorem dX9_judge_145 : decode cX9_judge 145 = .ok (.invokevirtual 107, 3) := by decide +kernel
theorem dX9_judge_148 : decode cX9_judge 148 = .ok (.isub, 1) := by decide +kernel
theorem dX9_judge_149 : decode cX9_judge 149 = .ok (.iastore, 1) := by decide +kernel
theorem dX9_judge_150 : decode cX9_judge 150 = .ok (.aload_n 0, 1) := by decide +kernel
theorem dX9_judge_151 : decode cX9_judge 151 = .ok (.getfield 44, 3) := by decide +kernel
theorem dX9_judge_154 : decode cX9_judge 154 = .ok (.bipush 6, 2) := by decide +kernel
theorem dX9_judge_156 : decode cX9_judge 156 = .ok (.aload_n 0, 1) := by decide +kernel
theorem dX9_judge_157 : decode cX9_judge 157 = .ok (.getfield 19, 3) := by decide +kernel
theorem dX9_judge_160 : decode cX9_judge 160 = .ok (.iload_n 2, 1) := by decide +kernel
theorem dX9_judge_161 : decode cX9_judge 161 = .ok (.invokevirtual 122, 3) := by decide +kernel
theorem dX9_judge_164 : decode cX9_judge 164 = .ok (.iastore, 1) := by decide +kernel
theorem dX9_judge_165 : decode cX9_judge 165 = .ok (.aload_n 0, 1) := by decide +kernel
theorem dX9_judge_166 : decode cX9_judge 166 = .ok (.getfield 40, 3) := by decide +kernel
theorem dX9_judge_169 : decode cX9_judge 169 = .ok (.getfield 141, 3) := by decide +kernel
theorem dX9_judge_172 : decode cX9_judge 172 = .ok (.aload_n 0, 1) := by decide +kernel
theorem dX9_judge_173 : decode cX9_judge 173 = .ok (.getfield 44, 3) := by decide +kernel
theorem dX9_judge_176 : decode cX9_judge 176 = .ok (.iload 4, 2) := by decide +kernel
theorem dX9_judge_178 : decode cX9_judge 178 = .ok (.invokevirtual 242, 3) := by decide +kernel
theorem dX9_judge_181 : decode cX9_judge 181 = .ok (.ireturn, 1) := by decide +kernel
theorem dX9_isBelow_0 : decode cX9_isBelow 0 = .ok (.iload_n 0, 1) := by decide +kernel
theorem dX9_isBelow_1 : decode cX9_isBelow 1 = .ok (.ifCond .lt 12, 3) := by decide +kernel
theorem dX9_isBelow_4 : decode cX9_isBelow 4 = .ok (.iload_n 0, 1) := by decide +kernel
theorem dX9_isBelow_5 : decode cX9_isBelow 5 = .ok (.iload_n 1, 1) := by decide +kernel
theorem dX9_isBelow_6 : decode cX9_isBelow 6 = .ok (.if_icmp .ge 7, 3) := by decide +kernel
theorem dX9_isBelow_9 : decode cX9_isBelow 9 = .ok (.iconst 1, 1) := by decide +kernel
theorem dX9_isBelow_10 : decode cX9_isBelow 10 = .ok (.goto 4, 3) := by decide +kernel
theorem dX9_isBelow_13 : decode cX9_isBelow 13 = .ok (.iconst 0, 1) := by decide +kernel
theorem dX9_isBelow_14 : decode cX9_isBelow 14 = .ok (.ireturn, 1) := by decide +kernel
set_option maxRecDepth 20000 in
theorem ggX9_isSpot_X9_isBelow : GoodIn wsX9_isSpot wsX9_isBelow := goodIn_r _ [4] (by decide +kernel) (by decide +kernel)
set_option maxRecDepth 20000 in
theorem gX9_isSpot_X9_isBelow : GoodIn wsX9_isSpot (va_wsS RX9 62 yX9_isBelow wsX9_isBelow) := goodIn_app (goodIn_of _ (by decide +kernel)) ggX9_isSpot_X9_isBelow
theorem dX9_isSpot_0 : decode cX9_isSpot 0 = .ok (.iload_n 0, 1) := by decide +kernel
theorem dX9_isSpot_1 : decode cX9_isSpot 1 = .ok (.iconst 4, 1) := by decide +kernel
theorem dX9_isSpot_2 : decode cX9_isSpot 2 = .ok (.invokestatic 62, 3) := by decide +kernel
theorem dX9_isSpot_5 : decode cX9_isSpot 5 = .ok (.ifCond .eq 15, 3) := by decide +kernel
theorem dX9_isSpot_8 : decode cX9_isSpot 8 = .ok (.iload_n 1, 1) := by decide +kernel
theorem dX9_isSpot_9 : decode cX9_isSpot 9 = .ok (.iconst 4, 1) := by decide +kernel
theorem dX9_isSpot_10 : decode cX9_isSpot 10 = .ok (.invokestatic 62, 3) := by decide +kernel
theorem dX9_isSpot_13 : decode cX9_isSpot 13 = .ok (.ifCond .eq 7, 3) := by decide +kernel
theorem dX9_isSpot_16 : decode cX9_isSpot 16 = .ok (.iconst 1, 1) := by decide +kernel
theorem dX9_isSpot_17 : decode cX9_isSpot 17 = .ok (.goto 4, 3) := by decide +kernel
theorem dX9_isSpot_20 : decode cX9_isSpot 20 = .ok (.iconst 0, 1) := by decide +kernel
theorem dX9_isSpot_21 : decode cX9_isSpot 21 = .ok (.ireturn, 1) := by decide +kernel
theorem dX9_isQuality_0 : decode cX9_isQuality 0 = .ok (.iload_n 0, 1) := by decide +kernel
theorem dX9_isQuality_1 : decode cX9_isQuality 1 = .ok (.ifCond .lt 13, 3) := by decide +kernel
theorem dX9_isQuality_4 : decode cX9_isQuality 4 = .ok (.iload_n 0, 1) := by decide +kernel
theorem dX9_isQuality_5 : decode cX9_isQuality 5 = .ok (.bipush 99, 2) := by decide +kernel
theorem dX9_isQuality_7 : decode cX9_isQuality 7 = .ok (.if_icmp .gt 7, 3) := by decide +kernel
theorem dX9_isQuality_10 : decode cX9_isQuality 10 = .ok (.iconst 1, 1) := by decide +kernel
theorem dX9_isQuality_11 : decode cX9_isQuality 11 = .ok (.goto 4, 3) := by decide +kernel
theorem dX9_isQuality_14 : decode cX9_isQuality 14 = .ok (.iconst 0, 1) := by decide +kernel
theorem dX9_isQuality_15 : decode cX9_isQuality 15 = .ok (.ireturn, 1) := by decide +kernel
theorem dX9_spot_0 : decode cX9_spot 0 = .ok (.iload_n 0, 1) := by decide +kernel
theorem dX9_spot_1 : decode cX9_spot 1 = .ok (.iconst 4, 1) := by decide +kernel
theorem dX9_spot_2 : decode cX9_spot 2 = .ok (.imul, 1) := by decide +kernel
theorem dX9_spot_3 : decode cX9_spot 3 = .ok (.iload_n 1, 1) := by decide +kernel
theorem dX9_spot_4 : decode cX9_spot 4 = .ok (.iadd, 1) := by decide +kernel
theorem dX9_spot_5 : decode cX9_spot 5 = .ok (.ireturn, 1) := by decide +kernel
set_option maxRecDepth 20000 in
theorem ggX9_hasBit_X9_isBelow : GoodIn wsX9_hasBit wsX9_isBelow := goodIn_r _ [4] (by decide +kernel) (by decide +kernel)
set_option maxRecDepth 20000 in
theorem gX9_hasBit_X9_isBelow : GoodIn wsX9_hasBit (va_wsS RX9 62 yX9_isBelow wsX9_isBelow) := goodIn_app (goodIn_of _ (by decide +kernel)) ggX9_hasBit_X9_isBelow
theorem dX9_hasBit_0 : decode cX9_hasBit 0 = .ok (.iload_n 1, 1) := by decide +kernel
theorem dX9_hasBit_1 : decode cX9_hasBit 1 = .ok (.bipush 30, 2) := by decide +kernel
theorem dX9_hasBit_3 : decode cX9_hasBit 3 = .ok (.invokestatic 62, 3) := by decide +kernel
theorem dX9_hasBit_6 : decode cX9_hasBit 6 = .ok (.ifCond .eq 16, 3) := by decide +kernel
theorem dX9_hasBit_9 : decode cX9_hasBit 9 = .ok (.iload_n 0, 1) := by decide +kernel
theorem dX9_hasBit_10 : decode cX9_hasBit 10 = .ok (.iload_n 1, 1) := by decide +kernel
theorem dX9_hasBit_11 : decode cX9_hasBit 11 = .ok (.iushr, 1) := by decide +kernel
theorem dX9_hasBit_12 : decode cX9_hasBit 12 = .ok (.iconst 1, 1) := by decide +kernel
theorem dX9_hasBit_13 : decode cX9_hasBit 13 = .ok (.iand, 1) := by decide +kernel
theorem dX9_hasBit_14 : decode cX9_hasBit 14 = .ok (.iconst 1, 1) := by decide +kernel
theorem dX9_hasBit_15 : decode cX9_hasBit 15 = .ok (.if_icmp .ne 7, 3) := by decide +kernel
theorem dX9_hasBit_18 : decode cX9_hasBit 18 = .ok (.iconst 1, 1) := by decide +kernel
theorem dX9_hasBit_19 : decode cX9_hasBit 19 = .ok (.goto 4, 3) := by decide +kernel
theorem dX9_hasBit_22 : decode cX9_hasBit 22 = .ok (.iconst 0, 1) := by decide +kernel
theorem dX9_hasBit_23 : decode cX9_hasBit 23 = .ok (.ireturn, 1) := by decide +kernel
theorem dX9_at_0 : decode cX9_at 0 = .ok (.iload_n 1, 1) := by decide +kernel
theorem dX9_at_1 : decode cX9_at 1 = .ok (.ifCond .lt 15, 3) := by decide +kernel
theorem dX9_at_4 : decode cX9_at 4 = .ok (.iload_n 1, 1) := by decide +kernel
theorem dX9_at_5 : decode cX9_at 5 = .ok (.aload_n 0, 1) := by decide +kernel
theorem dX9_at_6 : decode cX9_at 6 = .ok (.arraylength, 1) := by decide +kernel
theorem dX9_at_7 : decode cX9_at 7 = .ok (.if_icmp .ge 9, 3) := by decide +kernel
theorem dX9_at_10 : decode cX9_at 10 = .ok (.aload_n 0, 1) := by decide +kernel
theorem dX9_at_11 : decode cX9_at 11 = .ok (.iload_n 1, 1) := by decide +kernel
theorem dX9_at_12 : decode cX9_at 12 = .ok (.iaload, 1) := by decide +kernel
theorem dX9_at_13 : decode cX9_at 13 = .ok (.goto 4, 3) := by decide +kernel
theorem dX9_at_16 : decode cX9_at 16 = .ok (.iconst 0, 1) := by decide +kernel
theorem dX9_at_17 : decode cX9_at 17 = .ok (.ireturn, 1) := by decide +kernel
theorem dX10_init_0 : decode cX10_init 0 = .ok (.aload_n 0, 1) := by decide +kernel
theorem dX10_init_1 : decode cX10_init 1 = .ok (.invokespecial 1, 3) := by decide +kernel
theorem dX10_init_4 : decode cX10_init 4 = .ok (.aload_n 0, 1) := by decide +kernel
theorem dX10_init_5 : decode cX10_init 5 = .ok (.bipush 30, 2) := by decide +kernel
theorem dX10_init_7 : decode cX10_init 7 = .ok (.newarray .int, 2) := by decide +kernel
theorem dX10_init_9 : decode cX10_init 9 = .ok (.putfield 7, 3) := by decide +kernel
theorem dX10_init_12 : decode cX10_init 12 = .ok (.aload_n 0, 1) := by decide +kernel
theorem dX10_init_13 : decode cX10_init 13 = .ok (.bipush 30, 2) := by decide +kernel
theorem dX10_init_15 : decode cX10_init 15 = .ok (.newarray .int, 2) := by decide +kernel
theorem dX10_init_17 : decode cX10_init 17 = .ok (.putfield 13, 3) := by decide +kernel
theorem dX10_init_20 : decode cX10_init 20 = .ok (.aload_n 0, 1) := by decide +kernel
theorem dX10_init_21 : decode cX10_init 21 = .ok (.bipush 30, 2) := by decide +kernel
theorem dX10_init_23 : decode cX10_init 23 = .ok (.newarray .int, 2) := by decide +kernel
theorem dX10_init_25 : decode cX10_init 25 = .ok (.putfield 16, 3) := by decide +kernel
theorem dX10_init_28 : decode cX10_init 28 = .ok (.aload_n 0, 1) := by decide +kernel
theorem dX10_init_29 : decode cX10_init 29 = .ok (.sipush 300, 3) := by decide +kernel
theorem dX10_init_32 : decode cX10_init 32 = .ok (.newarray .int, 2) := by decide +kernel
theorem dX10_init_34 : decode cX10_init 34 = .ok (.putfield 19, 3) := by decide +kernel
theorem dX10_init_37 : decode cX10_init 37 = .ok (.aload_n 0, 1) := by decide +kernel
theorem dX10_init_38 : decode cX10_init 38 = .ok (.sipush 180, 3) := by decide +kernel
theorem dX10_init_41 : decode cX10_init 41 = .ok (.newarray .int, 2) := by decide +kernel
theorem dX10_init_43 : decode cX10_init 43 = .ok (.putfield 22, 3) := by decide +kernel
theorem dX10_init_46 : decode cX10_init 46 = .ok (.aload_n 0, 1) := by decide +kernel
theorem dX10_init_47 : decode cX10_init 47 = .ok (.bipush 64, 2) := by decide +kernel
theorem dX10_init_49 : decode cX10_init 49 = .ok (.newarray .int, 2) := by decide +kernel
theorem dX10_init_51 : decode cX10_init 51 = .ok (.putfield 25, 3) := by decide +kernel
theorem dX10_init_54 : decode cX10_init 54 = .ok (.aload_n 0, 1) := by decide +kernel
theorem dX10_init_55 : decode cX10_init 55 = .ok (.bipush 50, 2) := by decide +kernel
theorem dX10_init_57 : decode cX10_init 57 = .ok (.putfield 28, 3) := by decide +kernel
theorem dX10_init_60 : decode cX10_init 60 = .ok (.aload_n 0, 1) := by decide +kernel
theorem dX10_init_61 : decode cX10_init 61 = .ok (.sipush 320, 3) := by decide +kernel
theorem dX10_init_64 : decode cX10_init 64 = .ok (.newarray .int, 2) := by decide +kernel
theorem dX10_init_66 : decode cX10_init 66 = .ok (.putfield 32, 3) := by decide +kernel
theorem dX10_init_69 : decode cX10_init 69 = .ok (.aload_n 0, 1) := by decide +kernel
theorem dX10_init_70 : decode cX10_init 70 = .ok (.bipush 120, 2) := by decide +kernel
theorem dX10_init_72 : decode cX10_init 72 = .ok (.newarray .int, 2) := by decide +kernel
theorem dX10_init_74 : decode cX10_init 74 = .ok (.putfield 35, 3) := by decide +kernel
theorem dX10_init_77 : decode cX10_init 77 = .ok (.aload_n 0, 1) := by decide +kernel
theorem dX10_init_78 : decode cX10_init 78 = .ok (.iconst (-1), 1) := by decide +kernel
theorem dX10_init_79 : decode cX10_init 79 = .ok (.putfield 38, 3) := by decide +kernel
theorem dX10_init_82 : decode cX10_init 82 = .ok (.aload_n 0, 1) := by decide +kernel
theorem dX10_init_83 : decode cX10_init 83 = .ok (.bipush 66, 2) := by decide +kernel
theorem dX10_init_85 : decode cX10_init 85 = .ok (.newarray .int, 2) := by decide +kernel
theorem dX10_init_87 : decode cX10_init 87 = .ok (.putfield 41, 3) := by decide +kernel
theorem dX10_init_90 : decode cX10_init 90 = .ok (.aload_n 0, 1) := by decide +kernel
theorem dX10_init_91 : decode cX10_init 91 = .ok (.bipush 66, 2) := by decide +kernel
theorem dX10_init_93 : decode cX10_init 93 = .ok (.newarray .int, 2) := by decide +kernel
theorem dX10_init_95 : decode cX10_init 95 = .ok (.putfield 44, 3) := by decide +kernel
theorem dX10_init_98 : decode cX10_init 98 = .ok (.aload_n 0, 1) := by decide +kernel
theorem dX10_init_99 : decode cX10_init 99 = .ok (.bipush 100, 2) := by decide +kernel
theorem dX10_init_101 : decode cX10_init 101 = .ok (.newarray .int, 2) := by decide +kernel
theorem dX10_init_103 : decode cX10_init 103 = .ok (.putfield 47, 3) := by decide +kernel
theorem dX10_init_106 : decode cX10_init 106 = .ok (.aload_n 0, 1) := by decide +kernel
theorem dX10_init_107 : decode cX10_init 107 = .ok (.bipush 30, 2) := by decide +kernel
theorem dX10_init_109 : decode cX10_init 109 = .ok (.newarray .int, 2) := by decide +kernel
theorem dX10_init_111 : decode cX10_init 111 = .ok (.putfield 50, 3) := by decide +kernel
theorem dX10_init_114 : decode cX10_init 114 = .ok (.aload_n 0, 1) := by decide +kernel
theorem dX10_init_115 : decode cX10_init 115 = .ok (.bipush 30, 2) := by decide +kernel
theorem dX10_init_117 : decode cX10_init 117 = .ok (.newarray .int, 2) := by decide +kernel
theorem dX10_init_119 : decode cX10_init 119 = .ok (.putfield 53, 3) := by decide +kernel
theorem dX10_init_122 : decode cX10_init 122 = .ok (.aload_n 0, 1) := by decide +kernel
theorem dX10_init_123 : decode cX10_init 123 = .ok (.bipush 30, 2) := by decide +kernel
theorem dX10_init_125 : decode cX10_init 125 = .ok (.newarray .int, 2) := by decide +kernel
theorem dX10_init_127 : decode cX10_init 127 = .ok (.putfield 56, 3) := by decide +kernel
theorem dX10_init_130 : decode cX10_init 130 = .ok (.aload_n 0, 1) := by decide +kernel
theorem dX10_init_131 : decode cX10_init 131 = .ok (.iconst 4, 1) := by decide +kernel
theorem dX10_init_132 : decode cX10_init 132 = .ok (.newarray .long, 2) := by decide +kernel
theorem dX10_init_134 : decode cX10_init 134 = .ok (.putfield 59, 3) := by decide +kernel
theorem dX10_init_137 : decode cX10_init 137 = .ok (.aload_n 0, 1) := by decide +kernel
theorem dX10_init_138 : decode cX10_init 138 = .ok (.iconst 4, 1) := by decide +kernel
theorem dX10_init_139 : decode cX10_init 139 = .ok (.newarray .long, 2) := by decide +kernel
theorem dX10_init_141 : decode cX10_init 141 = .ok (.putfield 63, 3) := by decide +kernel
theorem dX10_init_144 : decode cX10_init 144 = .ok (.aload_n 0, 1) := by decide +kernel
theorem dX10_init_145 : decode cX10_init 145 = .ok (.bipush 6, 2) := by decide +kernel
theorem dX10_init_147 : decode cX10_init 147 = .ok (.newarray .int, 2) := by decide +kernel
theorem dX10_init_149 : decode cX10_init 149 = .ok (.putfield 66, 3) := by decide +kernel
theorem dX10_init_152 : decode cX10_init 152 = .ok (.aload_n 0, 1) := by decide +kernel
theorem dX10_init_153 : decode cX10_init 153 = .ok (.bipush 30, 2) := by decide +kernel
theorem dX10_init_155 : decode cX10_init 155 = .ok (.newarray .int, 2) := by decide +kernel
theorem dX10_init_157 : decode cX10_init 157 = .ok (.putfield 69, 3) := by decide +kernel
theorem dX10_init_160 : decode cX10_init 160 = .ok (.aload_n 0, 1) := by decide +kernel
theorem dX10_init_161 : decode cX10_init 161 = .ok (.bipush 30, 2) := by decide +kernel
theorem dX10_init_163 : decode cX10_init 163 = .ok (.newarray .int, 2) := by decide +kernel
theorem dX10_init_165 : decode cX10_init 165 = .ok (.putfield 72, 3) := by decide +kernel
theorem dX10_init_168 : decode cX10_init 168 = .ok (.aload_n 0, 1) := by decide +kernel
theorem dX10_init_169 : decode cX10_init 169 = .ok (.bipush 6, 2) := by decide +kernel
theorem dX10_init_171 : decode cX10_init 171 = .ok (.newarray .int, 2) := by decide +kernel
theorem dX10_init_173 : decode cX10_init 173 = .ok (.putfield 75, 3) := by decide +kernel
theorem dX10_init_176 : decode cX10_init 176 = .ok (.aload_n 0, 1) := by decide +kernel
theorem dX10_init_177 : decode cX10_init 177 = .ok (.iconst 4, 1) := by decide +kernel
theorem dX10_init_178 : decode cX10_init 178 = .ok (.newarray .int, 2) := by decide +kernel
theorem dX10_init_180 : decode cX10_init 180 = .ok (.putfield 78, 3) := by decide +kernel
theorem dX10_init_183 : decode cX10_init 183 = .ok (.aload_n 0, 1) := by decide +kernel
theorem dX10_init_184 : decode cX10_init 184 = .ok (.iconst 4, 1) := by decide +kernel
theorem dX10_init_185 : decode cX10_init 185 = .ok (.newarray .int, 2) := by decide +kernel
theorem dX10_init_187 : decode cX10_init 187 = .ok (.putfield 81, 3) := by decide +kernel
theorem dX10_init_190 : decode cX10_init 190 = .ok (.iconst 0, 1) := by decide +kernel
theorem dX10_init_191 : decode cX10_init 191 = .ok (.istore_n 1, 1) := by decide +kernel
theorem dX10_init_192 : decode cX10_init 192 = .ok (.iload_n 1, 1) := by decide +kernel
theorem dX10_init_193 : decode cX10_init 193 = .ok (.bipush 64, 2) := by decide +kernel
theorem dX10_init_195 : decode cX10_init 195 = .ok (.if_icmp .ge 16, 3) := by decide +kernel
theorem dX10_init_198 : decode cX10_init 198 = .ok (.aload_n 0, 1) := by decide +kernel
theorem dX10_init_199 : decode cX10_init 199 = .ok (.getfield 25, 3) := by decide +kernel
theorem dX10_init_202 : decode cX10_init 202 = .ok (.iload_n 1, 1) := by decide +kernel
theorem dX10_init_203 : decode cX10_init 203 = .ok (.iconst 1, 1) := by decide +kernel
theorem dX10_init_204 : decode cX10_init 204 = .ok (.iastore, 1) := by decide +kernel
theorem dX10_init_205 : decode cX10_init 205 = .ok (.iinc 1 1, 3) := by decide +kernel
theorem dX10_init_208 : decode cX10_init 208 = .ok (.goto (-16), 3) := by decide +kernel
theorem dX10_init_211 : decode cX10_init 211 = .ok (.return_, 1) := by decide +kernel
theorem dX10_in_0 : decode cX10_in 0 = .ok (.lload_n 0, 1) := by decide +kernel
theorem dX10_in_1 : decode cX10_in 1 = .ok (.lload_n 2, 1) := by decide +kernel
theorem dX10_in_2 : decode cX10_in 2 = .ok (.lcmp, 1) := by decide +kernel
theorem dX10_in_3 : decode cX10_in 3 = .ok (.ifCond .lt 14, 3) := by decide +kernel
theorem dX10_in_6 : decode cX10_in 6 = .ok (.lload_n 0, 1) := by decide +kernel
theorem dX10_in_7 : decode cX10_in 7 = .ok (.lload 4, 2) := by decide +kernel
theorem dX10_in_9 : decode cX10_in 9 = .ok (.lcmp, 1) := by decide +kernel
theorem dX10_in_10 : decode cX10_in 10 = .ok (.ifCond .gt 7, 3) := by decide +kernel
theorem dX10_in_13 : decode cX10_in 13 = .ok (.iconst 1, 1) := by decide +kernel
theorem dX10_in_14 : decode cX10_in 14 = .ok (.goto 4, 3) := by decide +kernel
theorem dX10_in_17 : decode cX10_in 17 = .ok (.iconst 0, 1) := by decide +kernel
theorem dX10_in_18 : decode cX10_in 18 = .ok (.ireturn, 1) := by decide +kernel
set_option maxRecDepth 20000 in
theorem ggX10_isYear_X10_in : GoodIn wsX10_isYear wsX10_in := goodIn_r _ [5] (by decide +kernel) (by decide +kernel)
set_option maxRecDepth 20000 in
theorem gX10_isYear_X10_in : GoodIn wsX10_isYear (va_wsS RX10 86 yX10_in wsX10_in) := goodIn_app (goodIn_of _ (by decide +kernel)) ggX10_isYear_X10_in
theorem dX10_isYear_0 : decode cX10_isYear 0 = .ok (.iload_n 0, 1) := by decide +kernel
theorem dX10_isYear_1 : decode cX10_isYear 1 = .ok (.i2l, 1) := by decide +kernel
theorem dX10_isYear_2 : decode cX10_isYear 2 = .ok (.lconst 0, 1) := by decide +kernel
theorem dX10_isYear_3 : decode cX10_isYear 3 = .ok (.ldc2_w 84, 3) := by decide +kernel
theorem dX10_isYear_6 : decode cX10_isYear 6 = .ok (.invokestatic 86, 3) := by decide +kernel
theorem dX10_isYear_9 : decode cX10_isYear 9 = .ok (.ireturn, 1) := by decide +kernel
set_option maxRecDepth 20000 in
theorem ggX10_isBlock_X10_in : GoodIn wsX10_isBlock wsX10_in := goodIn_r _ [5] (by decide +kernel) (by decide +kernel)
set_option maxRecDepth 20000 in
theorem gX10_isBlock_X10_in : GoodIn wsX10_isBlock (va_wsS RX10 86 yX10_in wsX10_in) := goodIn_app (goodIn_of _ (by decide +kernel)) ggX10_isBlock_X10_in
theorem dX10_isBlock_0 : decode cX10_isBlock 0 = .ok (.iload_n 1, 1) := by decide +kernel
theorem dX10_isBlock_1 : decode cX10_isBlock 1 = .ok (.i2l, 1) := by decide +kernel
theorem dX10_isBlock_2 : decode cX10_isBlock 2 = .ok (.lconst 0, 1) := by decide +kernel
theorem dX10_isBlock_3 : decode cX10_isBlock 3 = .ok (.aload_n 0, 1) := by decide +kernel
theorem dX10_isBlock_4 : decode cX10_isBlock 4 = .ok (.getfield 90, 3) := by decide +kernel
theorem dX10_isBlock_7 : decode cX10_isBlock 7 = .ok (.iconst 1, 1) := by decide +kernel
theorem dX10_isBlock_8 : decode cX10_isBlock 8 = .ok (.isub, 1) := by decide +kernel
theorem dX10_isBlock_9 : decode cX10_isBlock 9 = .ok (.i2l, 1) := by decide +kernel
theorem dX10_isBlock_10 : decode cX10_isBlock 10 = .ok (.invokestatic 86, 3) := by decide +kernel
theorem dX10_isBlock_13 : decode cX10_isBlock 13 = .ok (.ireturn, 1) := by decide +kernel
set_option maxRecDepth 20000 in
theorem ggX10_block_X10_in : GoodIn wsX10_block wsX10_in := goodIn_r _ [10] (by decide +kernel) (by decide +kernel)
set_option maxRecDepth 20000 in
theorem gX10_block_X10_in : GoodIn wsX10_block (va_wsS RX10 86 yX10_in wsX10_in) := goodIn_app (goodIn_of _ (by decide +kernel)) ggX10_block_X10_in
set_option maxRecDepth 20000 in
theorem ggX10_block_X10_isYear : GoodIn wsX10_block wsX10_isYear := goodIn_r _ [13, 14, 7, 8, 9, 10] (by decide +kernel) (by decide +kernel)
set_option maxRecDepth 20000 in
theorem gX10_block_X10_isYear : GoodIn wsX10_block (va_wsS RX10 95 yX10_isYear wsX10_isYear) := goodIn_app (goodIn_of _ (by decide +kernel)) ggX10_block_X10_isYear
theorem dX10_block_0 : decode cX10_block 0 = .ok (.iload_n 1, 1) := by decide +kernel
theorem dX10_block_1 : decode cX10_block 1 = .ok (.i2l, 1) := by decide +kernel
theorem dX10_block_2 : decode cX10_block 2 = .ok (.lconst 0, 1) := by decide +kernel
theorem dX10_block_3 : decode cX10_block 3 = .ok (.ldc2_w 93, 3) := by decide +kernel
theorem dX10_block_6 : decode cX10_block 6 = .ok (.invokestatic 86, 3) := by decide +kernel
theorem dX10_block_9 : decode cX10_block 9 = .ok (.ifCond .eq 22, 3) := by decide +kernel
theorem dX10_block_12 : decode cX10_block 12 = .ok (.iload_n 2, 1) := by decide +kernel
theorem dX10_block_13 : decode cX10_block 13 = .ok (.invokestatic 95, 3) := by decide +kernel
theorem dX10_block_16 : decode cX10_block 16 = .ok (.ifCond .eq 15, 3) := by decide +kernel
theorem dX10_block_19 : decode cX10_block 19 = .ok (.iload_n 3, 1) := by decide +kernel
theorem dX10_block_20 : decode cX10_block 20 = .ok (.i2l, 1) := by decide +kernel
theorem dX10_block_21 : decode cX10_block 21 = .ok (.lconst 1, 1) := by decide +kernel
theorem dX10_block_22 : decode cX10_block 22 = .ok (.ldc2_w 99, 3) := by decide +kernel
theorem dX10_block_25 : decode cX10_block 25 = .ok (.invokestatic 86, 3) := by decide +kernel
theorem dX10_block_28 : decode cX10_block 28 = .ok (.ifCond .ne 7, 3) := by decide +kernel
theorem dX10_block_31 : decode cX10_block 31 = .ok (.sipush (-1002), 3) := by decide +kernel
theorem dX10_block_34 : decode cX10_block 34 = .ok (.ireturn, 1) := by decide +kernel
theorem dX10_block_35 : decode cX10_block 35 = .ok (.aload_n 0, 1) := by decide +kernel
theorem dX10_block_36 : decode cX10_block 36 = .ok (.getfield 90, 3) := by decide +kernel
theorem dX10_block_39 : decode cX10_block 39 = .ok (.bipush 30, 2) := by decide +kernel
theorem dX10_block_41 : decode cX10_block 41 = .ok (.if_icmp .ne 7, 3) := by decide +kernel
theorem dX10_block_44 : decode cX10_block 44 = .ok (.sipush (-1004), 3) := by decide +kernel
theorem dX10_block_47 : decode cX10_block 47 = .ok (.ireturn, 1) := by decide +kernel
theorem dX10_block_48 : decode cX10_block 48 = .ok (.aload_n 0, 1) := by decide +kernel
theorem dX10_block_49 : decode cX10_block 49 = .ok (.getfield 7, 3) := by decide +kernel
theorem dX10_block_52 : decode cX10_block 52 = .ok (.aload_n 0, 1) := by decide +kernel
theorem dX10_block_53 : decode cX10_block 53 = .ok (.getfield 90, 3) := by decide +kernel
theorem dX10_block_56 : decode cX10_block 56 = .ok (.iload_n 1, 1) := by decide +kernel
theorem dX10_block_57 : decode cX10_block 57 = .ok (.iastore, 1) := by decide +kernel
theorem dX10_block_58 : decode cX10_block 58 = .ok (.aload_n 0, 1) := by decide +kernel
theorem dX10_block_59 : decode cX10_block 59 = .ok (.getfield 13, 3) := by decide +kernel
theorem dX10_block_62 : decode cX10_block 62 = .ok (.aload_n 0, 1) := by decide +kernel
theorem dX10_block_63 : decode cX10_block 63 = .ok (.getfield 90, 3) := by decide +kernel
theorem dX10_block_66 : decode cX10_block 66 = .ok (.iload_n 2, 1) := by decide +kernel
theorem dX10_block_67 : decode cX10_block 67 = .ok (.iastore, 1) := by decide +kernel
theorem dX10_block_68 : decode cX10_block 68 = .ok (.aload_n 0, 1) := by decide +kernel
theorem dX10_block_69 : decode cX10_block 69 = .ok (.getfield 16, 3) := by decide +kernel
theorem dX10_block_72 : decode cX10_block 72 = .ok (.aload_n 0, 1) := by decide +kernel
theorem dX10_block_73 : decode cX10_block 73 = .ok (.getfield 90, 3) := by decide +kernel
theorem dX10_block_76 : decode cX10_block 76 = .ok (.iload_n 3, 1) := by decide +kernel
theorem dX10_block_77 : decode cX10_block 77 = .ok (.iastore, 1) := by decide +kernel
theorem dX10_block_78 : decode cX10_block 78 = .ok (.aload_n 0, 1) := by decide +kernel
theorem dX10_block_79 : decode cX10_block 79 = .ok (.dup, 1) := by decide +kernel
theorem dX10_block_80 : decode cX10_block 80 = .ok (.getfield 90, 3) := by decide +kernel
theorem dX10_block_83 : decode cX10_block 83 = .ok (.iconst 1, 1) := by decide +kernel
theorem dX10_block_84 : decode cX10_block 84 = .ok (.iadd, 1) := by decide +kernel
theorem dX10_block_85 : decode cX10_block 85 = .ok (.putfield 90, 3) := by decide +kernel
theorem dX10_block_88 : decode cX10_block 88 = .ok (.aload_n 0, 1) := by decide +kernel
theorem dX10_block_89 : decode cX10_block 89 = .ok (.getfield 90, 3) := by decide +kernel
theorem dX10_block_92 : decode cX10_block 92 = .ok (.iconst 1, 1) := by decide +kernel
theorem dX10_block_93 : decode cX10_block 93 = .ok (.isub, 1) := by decide +kernel
theorem dX10_block_94 : decode cX10_block 94 = .ok (.ireturn, 1) := by decide +kernel
set_option maxRecDepth 20000 in
theorem ggX10_place_X10_isBlock : GoodIn wsX10_place wsX10_isBlock := goodIn_r _ [9, 10, 11, 12, 8, 13, 18, 19, 20, 21, 22, 23, 24, 25, 26, 27, 28, 29, 30, 31, 32, 33, 34, 35, 36, 37, 38, 39, 40, 41, 42, 43, 44, 45, 46, 47, 48, 49, 50, 51, 52, 53] (by decide +kernel) (by decide +kernel)
set_option maxRecDepth 20000 in
theorem gX10_place_X10_isBlock : GoodIn wsX10_place (wsV RX10 101 RX10 yX10_isBlock wsX10_isBlock) := goodIn_app (goodIn_of _ (by decide +kernel)) ggX10_place_X10_isBlock
set_option maxRecDepth 20000 in
theorem ggX10_place_X10_isYear : GoodIn wsX10_place wsX10_isYear := goodIn_r _ [16, 17, 11, 12, 8, 13] (by decide +kernel) (by decide +kernel)
set_option maxRecDepth 20000 in
theorem gX10_place_X10_isYear : GoodIn wsX10_place (va_wsS RX10 95 yX10_isYear wsX10_isYear) := goodIn_app (goodIn_of _ (by decide +kernel)) ggX10_place_X10_isYear
set_option maxRecDepth 20000 in
theorem ggX10_place_X10_in : GoodIn wsX10_place wsX10_in := goodIn_r _ [13] (by decide +kernel) (by decide +kernel)
set_option maxRecDepth 20000 in
theorem gX10_place_X10_in : GoodIn wsX10_place (va_wsS RX10 86 yX10_in wsX10_in) := goodIn_app (goodIn_of _ (by decide +kernel)) ggX10_place_X10_in
theorem dX10_place_0 : decode cX10_place 0 = .ok (.aload_n 0, 1) := by decide +kernel
theorem dX10_place_1 : decode cX10_place 1 = .ok (.iload_n 1, 1) := by decide +kernel
theorem dX10_place_2 : decode cX10_place 2 = .ok (.invokevirtual 101, 3) := by decide +kernel
theorem dX10_place_5 : decode cX10_place 5 = .ok (.ifCond .ne 7, 3) := by decide +kernel
theorem dX10_place_8 : decode cX10_place 8 = .ok (.sipush (-1001), 3) := by decide +kernel
theorem dX10_place_11 : decode cX10_place 11 = .ok (.ireturn, 1) := by decide +kernel
theorem dX10_place_12 : decode cX10_place 12 = .ok (.iload_n 2, 1) := by decide +kernel
theorem dX10_place_13 : decode cX10_place 13 = .ok (.invokestatic 95, 3) := by decide +kernel
theorem dX10_place_16 : decode cX10_place 16 = .ok (.ifCond .eq 41, 3) := by decide +kernel
theorem dX10_place_19 : decode cX10_place 19 = .ok (.iload_n 3, 1) := by decide +kernel
theorem dX10_place_20 : decode cX10_place 20 = .ok (.i2l, 1) := by decide +kernel
theorem dX10_place_21 : decode cX10_place 21 = .ok (.lconst 0, 1) := by decide +kernel
theorem dX10_place_22 : decode cX10_place 22 = .ok (.ldc2_w 93, 3) := by decide +kernel
theorem dX10_place_25 : decode cX10_place 25 = .ok (.invokestatic 86, 3) := by decide +kernel
theorem dX10_place_28 : decode cX10_place 28 = .ok (.ifCond .eq 29, 3) := by decide +kernel
theorem dX10_place_31 : decode cX10_place 31 = .ok (.iload 4, 2) := by decide +kernel
theorem dX10_place_33 : decode cX10_place 33 = .ok (.i2l, 1) := by decide +kernel
theorem dX10_place_34 : decode cX10_place 34 = .ok (.lconst 0, 1) := by decide +kernel
theorem dX10_place_35 : decode cX10_place 35 = .ok (.ldc2_w 93, 3) := by decide +kernel
theorem dX10_place_38 : decode cX10_place 38 = .ok (.invokestatic 86, 3) := by decide +kernel
theorem dX10_place_41 : decode cX10_place 41 = .ok (.ifCond .eq 16, 3) := by decide +kernel
theorem dX10_place_44 : decode cX10_place 44 = .ok (.iload 5, 2) := by decide +kernel
theorem dX10_place_46 : decode cX10_place 46 = .ok (.i2l, 1) := by decide +kernel
theorem dX10_place_47 : decode cX10_place 47 = .ok (.lconst 0, 1) := by decide +kernel
theorem dX10_place_48 : decode cX10_place 48 = .ok (.ldc2_w 104, 3) := by decide +kernel
theorem dX10_place_51 : decode cX10_place 51 = .ok (.invokestatic 86, 3) := by decide +kernel
theorem dX10_place_54 : decode cX10_place 54 = .ok (.ifCond .ne 7, 3) := by decide +kernel
theorem dX10_place_57 : decode cX10_place 57 = .ok (.sipush (-1002), 3) := by decide +kernel
theorem dX10_place_60 : decode cX10_place 60 = .ok (.ireturn, 1) := by decide +kernel
theorem dX10_place_61 : decode cX10_place 61 = .ok (.aload_n 0, 1) := by decide +kernel
theorem dX10_place_62 : decode cX10_place 62 = .ok (.getfield 106, 3) := by decide +kernel
theorem dX10_place_65 : decode cX10_place 65 = .ok (.bipush 60, 2) := by decide +kernel
theorem dX10_place_67 : decode cX10_place 67 = .ok (.if_icmp .ne 7, 3) := by decide +kernel
theorem dX10_place_70 : decode cX10_place 70 = .ok (.sipush (-1004), 3) := by decide +kernel
theorem dX10_place_73 : decode cX10_place 73 = .ok (.ireturn, 1) := by decide +kernel
theorem dX10_place_74 : decode cX10_place 74 = .ok (.iconst 5, 1) := by decide +kernel
theorem dX10_place_75 : decode cX10_place 75 = .ok (.aload_n 0, 1) := by decide +kernel
theorem dX10_place_76 : decode cX10_place 76 = .ok (.getfield 106, 3) := by decide +kernel
theorem dX10_place_79 : decode cX10_place 79 = .ok (.imul, 1) := by decide +kernel
theorem dX10_place_80 : decode cX10_place 80 = .ok (.istore 6, 2) := by decide +kernel
theorem dX10_place_82 : decode cX10_place 82 = .ok (.aload_n 0, 1) := by decide +kernel
theorem dX10_place_83 : decode cX10_place 83 = .ok (.getfield 19, 3) := by decide +kernel
theorem dX10_place_86 : decode cX10_place 86 = .ok (.iload 6, 2) := by decide +kernel
theorem dX10_place_88 : decode cX10_place 88 = .ok (.iload_n 1, 1) := by decide +kernel
theorem dX10_place_89 : decode cX10_place 89 = .ok (.iastore, 1) := by decide +kernel
theorem dX10_place_90 : decode cX10_place 90 = .ok (.aload_n 0, 1) := by decide +kernel
theorem dX10_place_91 : decode cX10_place 91 = .ok (.getfield 19, 3) := by decide +kernel
