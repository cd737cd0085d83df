theorem dX4_search_87 : decode cX4_search 87 = .ok (.invokevirtual 93, 3) := by decide +kernel
theorem dX4_search_90 : decode cX4_search 90 = .ok (.iinc 3 1, 3) := by decide +kernel
theorem dX4_search_93 : decode cX4_search 93 = .ok (.goto (-58), 3) := by decide +kernel
theorem dX4_search_96 : decode cX4_search 96 = .ok (.aload_n 0, 1) := by decide +kernel
theorem dX4_search_97 : decode cX4_search 97 = .ok (.getfield 24, 3) := by decide +kernel
theorem dX4_search_100 : decode cX4_search 100 = .ok (.iload_n 1, 1) := by decide +kernel
theorem dX4_search_101 : decode cX4_search 101 = .ok (.iconst (-1), 1) := by decide +kernel
theorem dX4_search_102 : decode cX4_search 102 = .ok (.iastore, 1) := by decide +kernel
theorem dX4_search_103 : decode cX4_search 103 = .ok (.aload_n 0, 1) := by decide +kernel
theorem dX4_search_104 : decode cX4_search 104 = .ok (.iload_n 1, 1) := by decide +kernel
theorem dX4_search_105 : decode cX4_search 105 = .ok (.iconst 1, 1) := by decide +kernel
theorem dX4_search_106 : decode cX4_search 106 = .ok (.iadd, 1) := by decide +kernel
theorem dX4_search_107 : decode cX4_search 107 = .ok (.iload_n 2, 1) := by decide +kernel
theorem dX4_search_108 : decode cX4_search 108 = .ok (.aload_n 0, 1) := by decide +kernel
theorem dX4_search_109 : decode cX4_search 109 = .ok (.getfield 21, 3) := by decide +kernel
theorem dX4_search_112 : decode cX4_search 112 = .ok (.iload_n 1, 1) := by decide +kernel
theorem dX4_search_113 : decode cX4_search 113 = .ok (.iaload, 1) := by decide +kernel
theorem dX4_search_114 : decode cX4_search 114 = .ok (.iadd, 1) := by decide +kernel
theorem dX4_search_115 : decode cX4_search 115 = .ok (.invokestatic 89, 3) := by decide +kernel
theorem dX4_search_118 : decode cX4_search 118 = .ok (.return_, 1) := by decide +kernel
theorem dX4_keep_0 : decode cX4_keep 0 = .ok (.aload_n 0, 1) := by decide +kernel
theorem dX4_keep_1 : decode cX4_keep 1 = .ok (.iload_n 1, 1) := by decide +kernel
theorem dX4_keep_2 : decode cX4_keep 2 = .ok (.putfield 56, 3) := by decide +kernel
theorem dX4_keep_5 : decode cX4_keep 5 = .ok (.aload_n 0, 1) := by decide +kernel
theorem dX4_keep_6 : decode cX4_keep 6 = .ok (.getfield 24, 3) := by decide +kernel
theorem dX4_keep_9 : decode cX4_keep 9 = .ok (.iconst 0, 1) := by decide +kernel
theorem dX4_keep_10 : decode cX4_keep 10 = .ok (.aload_n 0, 1) := by decide +kernel
theorem dX4_keep_11 : decode cX4_keep 11 = .ok (.getfield 27, 3) := by decide +kernel
theorem dX4_keep_14 : decode cX4_keep 14 = .ok (.iconst 0, 1) := by decide +kernel
theorem dX4_keep_15 : decode cX4_keep 15 = .ok (.bipush 6, 2) := by decide +kernel
theorem dX4_keep_17 : decode cX4_keep 17 = .ok (.invokestatic 97, 3) := by decide +kernel
theorem dX4_keep_20 : decode cX4_keep 20 = .ok (.return_, 1) := by decide +kernel
set_option maxRecDepth 20000 in
theorem ggX4_doWork_X9_at : GoodIn wsX4_doWork wsX9_at := goodIn_r _ [8] (by decide +kernel) (by decide +kernel)
set_option maxRecDepth 20000 in
theorem gX4_doWork_X9_at_n85 : GoodIn wsX4_doWork (wsX9_at) := ggX4_doWork_X9_at
set_option maxRecDepth 20000 in
theorem ggX4_doWork_X4_change : GoodIn wsX4_doWork wsX4_change := goodIn_r _ [12, 13, 7, 14] (by decide +kernel) (by decide +kernel)
set_option maxRecDepth 20000 in
theorem gX4_doWork_X4_change : GoodIn wsX4_doWork (va_wsS RX4 103 yX4_change wsX4_change) := goodIn_app (goodIn_of _ (by decide +kernel)) ggX4_doWork_X4_change
set_option maxRecDepth 20000 in
theorem ggX4_doWork_X9_isBelow : GoodIn wsX4_doWork wsX9_isBelow := goodIn_r _ [14] (by decide +kernel) (by decide +kernel)
set_option maxRecDepth 20000 in
theorem gX4_doWork_X9_isBelow_n65 : GoodIn wsX4_doWork (wsX9_isBelow) := ggX4_doWork_X9_isBelow
theorem dX4_doWork_0 : decode cX4_doWork 0 = .ok (.iload_n 1, 1) := by decide +kernel
theorem dX4_doWork_1 : decode cX4_doWork 1 = .ok (.iconst 4, 1) := by decide +kernel
theorem dX4_doWork_2 : decode cX4_doWork 2 = .ok (.imul, 1) := by decide +kernel
theorem dX4_doWork_3 : decode cX4_doWork 3 = .ok (.iload_n 2, 1) := by decide +kernel
theorem dX4_doWork_4 : decode cX4_doWork 4 = .ok (.iadd, 1) := by decide +kernel
theorem dX4_doWork_5 : decode cX4_doWork 5 = .ok (.istore_n 3, 1) := by decide +kernel
theorem dX4_doWork_6 : decode cX4_doWork 6 = .ok (.iload_n 2, 1) := by decide +kernel
theorem dX4_doWork_7 : decode cX4_doWork 7 = .ok (.bipush 8, 2) := by decide +kernel
theorem dX4_doWork_9 : decode cX4_doWork 9 = .ok (.imul, 1) := by decide +kernel
theorem dX4_doWork_10 : decode cX4_doWork 10 = .ok (.aload_n 0, 1) := by decide +kernel
theorem dX4_doWork_11 : decode cX4_doWork 11 = .ok (.getfield 18, 3) := by decide +kernel
theorem dX4_doWork_14 : decode cX4_doWork 14 = .ok (.iload_n 3, 1) := by decide +kernel
theorem dX4_doWork_15 : decode cX4_doWork 15 = .ok (.invokestatic 85, 3) := by decide +kernel
theorem dX4_doWork_18 : decode cX4_doWork 18 = .ok (.iadd, 1) := by decide +kernel
theorem dX4_doWork_19 : decode cX4_doWork 19 = .ok (.istore 4, 2) := by decide +kernel
theorem dX4_doWork_21 : decode cX4_doWork 21 = .ok (.aload_n 0, 1) := by decide +kernel
theorem dX4_doWork_22 : decode cX4_doWork 22 = .ok (.getfield 15, 3) := by decide +kernel
theorem dX4_doWork_25 : decode cX4_doWork 25 = .ok (.iload_n 3, 1) := by decide +kernel
theorem dX4_doWork_26 : decode cX4_doWork 26 = .ok (.invokestatic 85, 3) := by decide +kernel
theorem dX4_doWork_29 : decode cX4_doWork 29 = .ok (.aload_n 0, 1) := by decide +kernel
theorem dX4_doWork_30 : decode cX4_doWork 30 = .ok (.getfield 33, 3) := by decide +kernel
theorem dX4_doWork_33 : decode cX4_doWork 33 = .ok (.iload 4, 2) := by decide +kernel
theorem dX4_doWork_35 : decode cX4_doWork 35 = .ok (.invokestatic 85, 3) := by decide +kernel
theorem dX4_doWork_38 : decode cX4_doWork 38 = .ok (.ifCond .ne 8, 3) := by decide +kernel
theorem dX4_doWork_41 : decode cX4_doWork 41 = .ok (.bipush 25, 2) := by decide +kernel
theorem dX4_doWork_43 : decode cX4_doWork 43 = .ok (.goto 4, 3) := by decide +kernel
theorem dX4_doWork_46 : decode cX4_doWork 46 = .ok (.iconst 0, 1) := by decide +kernel
theorem dX4_doWork_47 : decode cX4_doWork 47 = .ok (.iadd, 1) := by decide +kernel
theorem dX4_doWork_48 : decode cX4_doWork 48 = .ok (.istore 5, 2) := by decide +kernel
theorem dX4_doWork_50 : decode cX4_doWork 50 = .ok (.aload_n 0, 1) := by decide +kernel
theorem dX4_doWork_51 : decode cX4_doWork 51 = .ok (.getfield 33, 3) := by decide +kernel
theorem dX4_doWork_54 : decode cX4_doWork 54 = .ok (.iload 4, 2) := by decide +kernel
theorem dX4_doWork_56 : decode cX4_doWork 56 = .ok (.iconst 1, 1) := by decide +kernel
theorem dX4_doWork_57 : decode cX4_doWork 57 = .ok (.invokestatic 103, 3) := by decide +kernel
theorem dX4_doWork_60 : decode cX4_doWork 60 = .ok (.aload_n 0, 1) := by decide +kernel
theorem dX4_doWork_61 : decode cX4_doWork 61 = .ok (.getfield 30, 3) := by decide +kernel
theorem dX4_doWork_64 : decode cX4_doWork 64 = .ok (.iload_n 2, 1) := by decide +kernel
theorem dX4_doWork_65 : decode cX4_doWork 65 = .ok (.iload 5, 2) := by decide +kernel
theorem dX4_doWork_67 : decode cX4_doWork 67 = .ok (.invokestatic 103, 3) := by decide +kernel
theorem dX4_doWork_70 : decode cX4_doWork 70 = .ok (.iload_n 1, 1) := by decide +kernel
theorem dX4_doWork_71 : decode cX4_doWork 71 = .ok (.bipush 6, 2) := by decide +kernel
theorem dX4_doWork_73 : decode cX4_doWork 73 = .ok (.invokestatic 65, 3) := by decide +kernel
theorem dX4_doWork_76 : decode cX4_doWork 76 = .ok (.ifCond .eq 10, 3) := by decide +kernel
theorem dX4_doWork_79 : decode cX4_doWork 79 = .ok (.aload_n 0, 1) := by decide +kernel
theorem dX4_doWork_80 : decode cX4_doWork 80 = .ok (.getfield 24, 3) := by decide +kernel
theorem dX4_doWork_83 : decode cX4_doWork 83 = .ok (.iload_n 1, 1) := by decide +kernel
theorem dX4_doWork_84 : decode cX4_doWork 84 = .ok (.iload_n 2, 1) := by decide +kernel
theorem dX4_doWork_85 : decode cX4_doWork 85 = .ok (.iastore, 1) := by decide +kernel
theorem dX4_doWork_86 : decode cX4_doWork 86 = .ok (.iload 5, 2) := by decide +kernel
theorem dX4_doWork_88 : decode cX4_doWork 88 = .ok (.ireturn, 1) := by decide +kernel
set_option maxRecDepth 20000 in
theorem ggX4_undoWork_X9_at : GoodIn wsX4_undoWork wsX9_at := goodIn_r _ [6] (by decide +kernel) (by decide +kernel)
set_option maxRecDepth 20000 in
theorem gX4_undoWork_X9_at_n85 : GoodIn wsX4_undoWork (wsX9_at) := ggX4_undoWork_X9_at
set_option maxRecDepth 20000 in
theorem ggX4_undoWork_X4_change : GoodIn wsX4_undoWork wsX4_change := goodIn_r _ [10, 11, 5, 12] (by decide +kernel) (by decide +kernel)
set_option maxRecDepth 20000 in
theorem gX4_undoWork_X4_change : GoodIn wsX4_undoWork (va_wsS RX4 103 yX4_change wsX4_change) := goodIn_app (goodIn_of _ (by decide +kernel)) ggX4_undoWork_X4_change
theorem dX4_undoWork_0 : decode cX4_undoWork 0 = .ok (.aload_n 0, 1) := by decide +kernel
theorem dX4_undoWork_1 : decode cX4_undoWork 1 = .ok (.getfield 33, 3) := by decide +kernel
theorem dX4_undoWork_4 : decode cX4_undoWork 4 = .ok (.iload_n 2, 1) := by decide +kernel
theorem dX4_undoWork_5 : decode cX4_undoWork 5 = .ok (.bipush 8, 2) := by decide +kernel
theorem dX4_undoWork_7 : decode cX4_undoWork 7 = .ok (.imul, 1) := by decide +kernel
theorem dX4_undoWork_8 : decode cX4_undoWork 8 = .ok (.aload_n 0, 1) := by decide +kernel
theorem dX4_undoWork_9 : decode cX4_undoWork 9 = .ok (.getfield 18, 3) := by decide +kernel
theorem dX4_undoWork_12 : decode cX4_undoWork 12 = .ok (.iload_n 1, 1) := by decide +kernel
theorem dX4_undoWork_13 : decode cX4_undoWork 13 = .ok (.iconst 4, 1) := by decide +kernel
theorem dX4_undoWork_14 : decode cX4_undoWork 14 = .ok (.imul, 1) := by decide +kernel
theorem dX4_undoWork_15 : decode cX4_undoWork 15 = .ok (.iload_n 2, 1) := by decide +kernel
theorem dX4_undoWork_16 : decode cX4_undoWork 16 = .ok (.iadd, 1) := by decide +kernel
theorem dX4_undoWork_17 : decode cX4_undoWork 17 = .ok (.invokestatic 85, 3) := by decide +kernel
theorem dX4_undoWork_20 : decode cX4_undoWork 20 = .ok (.iadd, 1) := by decide +kernel
theorem dX4_undoWork_21 : decode cX4_undoWork 21 = .ok (.iconst (-1), 1) := by decide +kernel
theorem dX4_undoWork_22 : decode cX4_undoWork 22 = .ok (.invokestatic 103, 3) := by decide +kernel
theorem dX4_undoWork_25 : decode cX4_undoWork 25 = .ok (.aload_n 0, 1) := by decide +kernel
theorem dX4_undoWork_26 : decode cX4_undoWork 26 = .ok (.getfield 30, 3) := by decide +kernel
theorem dX4_undoWork_29 : decode cX4_undoWork 29 = .ok (.iload_n 2, 1) := by decide +kernel
theorem dX4_undoWork_30 : decode cX4_undoWork 30 = .ok (.iload_n 3, 1) := by decide +kernel
theorem dX4_undoWork_31 : decode cX4_undoWork 31 = .ok (.ineg, 1) := by decide +kernel
theorem dX4_undoWork_32 : decode cX4_undoWork 32 = .ok (.invokestatic 103, 3) := by decide +kernel
theorem dX4_undoWork_35 : decode cX4_undoWork 35 = .ok (.return_, 1) := by decide +kernel
set_option maxRecDepth 20000 in
theorem ggX4_change_X9_isBelow : GoodIn wsX4_change wsX9_isBelow := goodIn_r _ [3] (by decide +kernel) (by decide +kernel)
set_option maxRecDepth 20000 in
theorem gX4_change_X9_isBelow_n65 : GoodIn wsX4_change (wsX9_isBelow) := ggX4_change_X9_isBelow
theorem dX4_change_0 : decode cX4_change 0 = .ok (.iload_n 1, 1) := by decide +kernel
theorem dX4_change_1 : decode cX4_change 1 = .ok (.aload_n 0, 1) := by decide +kernel
theorem dX4_change_2 : decode cX4_change 2 = .ok (.arraylength, 1) := by decide +kernel
theorem dX4_change_3 : decode cX4_change 3 = .ok (.invokestatic 65, 3) := by decide +kernel
theorem dX4_change_6 : decode cX4_change 6 = .ok (.ifCond .eq 10, 3) := by decide +kernel
theorem dX4_change_9 : decode cX4_change 9 = .ok (.aload_n 0, 1) := by decide +kernel
theorem dX4_change_10 : decode cX4_change 10 = .ok (.iload_n 1, 1) := by decide +kernel
theorem dX4_change_11 : decode cX4_change 11 = .ok (.dup2, 1) := by decide +kernel
theorem dX4_change_12 : decode cX4_change 12 = .ok (.iaload, 1) := by decide +kernel
theorem dX4_change_13 : decode cX4_change 13 = .ok (.iload_n 2, 1) := by decide +kernel
theorem dX4_change_14 : decode cX4_change 14 = .ok (.iadd, 1) := by decide +kernel
theorem dX4_change_15 : decode cX4_change 15 = .ok (.iastore, 1) := by decide +kernel
theorem dX4_change_16 : decode cX4_change 16 = .ok (.return_, 1) := by decide +kernel
set_option maxRecDepth 20000 in
theorem ggX5_init_X6_init : GoodIn wsX5_init wsX6_init := goodIn_r _ [13, 14, 2, 3, 4, 15, 16, 17, 18, 19, 27, 28, 29, 30, 31, 32] (by decide +kernel) (by decide +kernel)
set_option maxRecDepth 20000 in
theorem gX5_init_X6_init_n21 : GoodIn wsX5_init (wsX6_init) := ggX5_init_X6_init
theorem dX5_init_0 : decode cX5_init 0 = .ok (.aload_n 0, 1) := by decide +kernel
theorem dX5_init_1 : decode cX5_init 1 = .ok (.invokespecial 3, 3) := by decide +kernel
theorem dX5_init_4 : decode cX5_init 4 = .ok (.aload_n 0, 1) := by decide +kernel
theorem dX5_init_5 : decode cX5_init 5 = .ok (.bipush 120, 2) := by decide +kernel
theorem dX5_init_7 : decode cX5_init 7 = .ok (.newarray .int, 2) := by decide +kernel
theorem dX5_init_9 : decode cX5_init 9 = .ok (.putfield 9, 3) := by decide +kernel
theorem dX5_init_12 : decode cX5_init 12 = .ok (.aload_n 0, 1) := by decide +kernel
theorem dX5_init_13 : decode cX5_init 13 = .ok (.iconst (-1), 1) := by decide +kernel
theorem dX5_init_14 : decode cX5_init 14 = .ok (.putfield 15, 3) := by decide +kernel
theorem dX5_init_17 : decode cX5_init 17 = .ok (.aload_n 0, 1) := by decide +kernel
theorem dX5_init_18 : decode cX5_init 18 = .ok (.new 19, 3) := by decide +kernel
theorem dX5_init_21 : decode cX5_init 21 = .ok (.dup, 1) := by decide +kernel
theorem dX5_init_22 : decode cX5_init 22 = .ok (.invokespecial 21, 3) := by decide +kernel
theorem dX5_init_25 : decode cX5_init 25 = .ok (.putfield 22, 3) := by decide +kernel
theorem dX5_init_28 : decode cX5_init 28 = .ok (.aload_n 0, 1) := by decide +kernel
theorem dX5_init_29 : decode cX5_init 29 = .ok (.new 19, 3) := by decide +kernel
theorem dX5_init_32 : decode cX5_init 32 = .ok (.dup, 1) := by decide +kernel
theorem dX5_init_33 : decode cX5_init 33 = .ok (.invokespecial 21, 3) := by decide +kernel
theorem dX5_init_36 : decode cX5_init 36 = .ok (.putfield 26, 3) := by decide +kernel
theorem dX5_init_39 : decode cX5_init 39 = .ok (.return_, 1) := by decide +kernel
set_option maxRecDepth 20000 in
theorem ggX5_append_X9_isBelow : GoodIn wsX5_append wsX9_isBelow := goodIn_r _ [6] (by decide +kernel) (by decide +kernel)
set_option maxRecDepth 20000 in
theorem gX5_append_X9_isBelow_n32 : GoodIn wsX5_append (wsX9_isBelow) := ggX5_append_X9_isBelow
theorem dX5_append_0 : decode cX5_append 0 = .ok (.aload_n 0, 1) := by decide +kernel
theorem dX5_append_1 : decode cX5_append 1 = .ok (.getfield 29, 3) := by decide +kernel
theorem dX5_append_4 : decode cX5_append 4 = .ok (.iload_n 1, 1) := by decide +kernel
theorem dX5_append_5 : decode cX5_append 5 = .ok (.iadd, 1) := by decide +kernel
theorem dX5_append_6 : decode cX5_append 6 = .ok (.bipush 120, 2) := by decide +kernel
theorem dX5_append_8 : decode cX5_append 8 = .ok (.if_icmp .le 7, 3) := by decide +kernel
theorem dX5_append_11 : decode cX5_append 11 = .ok (.sipush (-1004), 3) := by decide +kernel
theorem dX5_append_14 : decode cX5_append 14 = .ok (.ireturn, 1) := by decide +kernel
theorem dX5_append_15 : decode cX5_append 15 = .ok (.iload_n 1, 1) := by decide +kernel
theorem dX5_append_16 : decode cX5_append 16 = .ok (.iconst 1, 1) := by decide +kernel
theorem dX5_append_17 : decode cX5_append 17 = .ok (.isub, 1) := by decide +kernel
theorem dX5_append_18 : decode cX5_append 18 = .ok (.istore 4, 2) := by decide +kernel
theorem dX5_append_20 : decode cX5_append 20 = .ok (.iload 4, 2) := by decide +kernel
theorem dX5_append_22 : decode cX5_append 22 = .ok (.ifCond .lt 52, 3) := by decide +kernel
theorem dX5_append_25 : decode cX5_append 25 = .ok (.aload_n 0, 1) := by decide +kernel
theorem dX5_append_26 : decode cX5_append 26 = .ok (.getfield 29, 3) := by decide +kernel
theorem dX5_append_29 : decode cX5_append 29 = .ok (.bipush 120, 2) := by decide +kernel
theorem dX5_append_31 : decode cX5_append 31 = .ok (.invokestatic 32, 3) := by decide +kernel
theorem dX5_append_34 : decode cX5_append 34 = .ok (.ifCond .eq 40, 3) := by decide +kernel
theorem dX5_append_37 : decode cX5_append 37 = .ok (.aload_n 0, 1) := by decide +kernel
theorem dX5_append_38 : decode cX5_append 38 = .ok (.getfield 9, 3) := by decide +kernel
theorem dX5_append_41 : decode cX5_append 41 = .ok (.aload_n 0, 1) := by decide +kernel
theorem dX5_append_42 : decode cX5_append 42 = .ok (.getfield 29, 3) := by decide +kernel
theorem dX5_append_45 : decode cX5_append 45 = .ok (.lload_n 2, 1) := by decide +kernel
theorem dX5_append_46 : decode cX5_append 46 = .ok (.bipush 8, 2) := by decide +kernel
theorem dX5_append_48 : decode cX5_append 48 = .ok (.iload 4, 2) := by decide +kernel
theorem dX5_append_50 : decode cX5_append 50 = .ok (.imul, 1) := by decide +kernel
theorem dX5_append_51 : decode cX5_append 51 = .ok (.lushr, 1) := by decide +kernel
theorem dX5_append_52 : decode cX5_append 52 = .ok (.ldc2_w 36, 3) := by decide +kernel
theorem dX5_append_55 : decode cX5_append 55 = .ok (.land, 1) := by decide +kernel
theorem dX5_append_56 : decode cX5_append 56 = .ok (.l2i, 1) := by decide +kernel
theorem dX5_append_57 : decode cX5_append 57 = .ok (.iastore, 1) := by decide +kernel
theorem dX5_append_58 : decode cX5_append 58 = .ok (.aload_n 0, 1) := by decide +kernel
theorem dX5_append_59 : decode cX5_append 59 = .ok (.dup, 1) := by decide +kernel
theorem dX5_append_60 : decode cX5_append 60 = .ok (.getfield 29, 3) := by decide +kernel
theorem dX5_append_63 : decode cX5_append 63 = .ok (.iconst 1, 1) := by decide +kernel
theorem dX5_append_64 : decode cX5_append 64 = .ok (.iadd, 1) := by decide +kernel
theorem dX5_append_65 : decode cX5_append 65 = .ok (.putfield 29, 3) := by decide +kernel
theorem dX5_append_68 : decode cX5_append 68 = .ok (.iinc 4 (-1), 3) := by decide +kernel
theorem dX5_append_71 : decode cX5_append 71 = .ok (.goto (-51), 3) := by decide +kernel
theorem dX5_append_74 : decode cX5_append 74 = .ok (.aload_n 0, 1) := by decide +kernel
theorem dX5_append_75 : decode cX5_append 75 = .ok (.getfield 29, 3) := by decide +kernel
theorem dX5_append_78 : decode cX5_append 78 = .ok (.ireturn, 1) := by decide +kernel
set_option maxRecDepth 20000 in
theorem ggX5_readText_X6_clear : GoodIn wsX5_readText wsX6_clear := goodIn_r _ [11, 12, 13, 14, 15, 16, 17, 146, 147, 148, 149, 150, 151] (by decide +kernel) (by decide +kernel)
set_option maxRecDepth 20000 in
theorem gX5_readText_X6_clear : GoodIn wsX5_readText (wsV RX5 44 RX6 yX6_clear wsX6_clear) := goodIn_app (goodIn_of _ (by decide +kernel)) ggX5_readText_X6_clear
set_option maxRecDepth 20000 in
theorem ggX5_readText_X5_skipBlanks : GoodIn wsX5_readText wsX5_skipBlanks := goodIn_r _ [22, 1, 5, 23, 139, 140, 141, 142, 143, 144, 145] (by decide +kernel) (by decide +kernel)
set_option maxRecDepth 20000 in
theorem gX5_readText_X5_skipBlanks : GoodIn wsX5_readText (wsV RX5 47 RX5 yX5_skipBlanks wsX5_skipBlanks) := goodIn_app (goodIn_of _ (by decide +kernel)) ggX5_readText_X5_skipBlanks
set_option maxRecDepth 20000 in
theorem ggX5_readText_X5_readClause : GoodIn wsX5_readText wsX5_readClause := goodIn_r _ [27, 2, 1, 4, 28, 29, 30, 21, 31, 18, 19, 20, 22, 5, 23, 32, 33, 34, 35, 36, 37, 38, 39, 40, 41, 42, 43, 44, 45, 46, 47, 48, 49, 50, 51, 52, 53, 54, 55, 56, 57, 58, 59, 60, 61, 62, 63, 64, 65, 66, 67, 68, 69, 70, 71, 72, 73, 74, 75, 76, 77, 78, 79, 80, 81, 82, 83, 84, 85, 86, 87, 88, 89, 90, 91, 92, 93, 94, 95, 96, 97, 98, 99, 100, 101, 102, 103, 104, 105, 3, 106, 107, 108, 109, 110, 111, 112, 113, 114, 115, 116, 117, 118, 119, 120, 10, 121, 13, 12, 122, 123, 124, 125, 126, 127, 128, 129, 130, 131, 132, 133, 134, 135, 136, 137, 138, 139, 140, 141, 142, 143, 144, 145, 146, 147, 148, 149, 150, 151] (by decide +kernel) (by decide +kernel)
set_option maxRecDepth 20000 in
theorem gX5_readText_X5_readClause : GoodIn wsX5_readText (wsV RX5 50 RX5 yX5_readClause wsX5_readClause) := goodIn_app (goodIn_of _ (by decide +kernel)) ggX5_readText_X5_readClause
theorem dX5_readText_0 : decode cX5_readText 0 = .ok (.aload_n 0, 1) := by decide +kernel
theorem dX5_readText_1 : decode cX5_readText 1 = .ok (.iconst 0, 1) := by decide +kernel
theorem dX5_readText_2 : decode cX5_readText 2 = .ok (.putfield 38, 3) := by decide +kernel
theorem dX5_readText_5 : decode cX5_readText 5 = .ok (.aload_n 0, 1) := by decide +kernel
theorem dX5_readText_6 : decode cX5_readText 6 = .ok (.iconst 0, 1) := by decide +kernel
theorem dX5_readText_7 : decode cX5_readText 7 = .ok (.putfield 41, 3) := by decide +kernel
theorem dX5_readText_10 : decode cX5_readText 10 = .ok (.aload_n 0, 1) := by decide +kernel
theorem dX5_readText_11 : decode cX5_readText 11 = .ok (.iconst (-1), 1) := by decide +kernel
theorem dX5_readText_12 : decode cX5_readText 12 = .ok (.putfield 15, 3) := by decide +kernel
theorem dX5_readText_15 : decode cX5_readText 15 = .ok (.aload_n 0, 1) := by decide +kernel
theorem dX5_readText_16 : decode cX5_readText 16 = .ok (.getfield 26, 3) := by decide +kernel
theorem dX5_readText_19 : decode cX5_readText 19 = .ok (.invokevirtual 44, 3) := by decide +kernel
theorem dX5_readText_22 : decode cX5_readText 22 = .ok (.aload_n 0, 1) := by decide +kernel
theorem dX5_readText_23 : decode cX5_readText 23 = .ok (.invokevirtual 47, 3) := by decide +kernel
theorem dX5_readText_26 : decode cX5_readText 26 = .ok (.iconst 0, 1) := by decide +kernel
theorem dX5_readText_27 : decode cX5_readText 27 = .ok (.istore_n 1, 1) := by decide +kernel
theorem dX5_readText_28 : decode cX5_readText 28 = .ok (.iload_n 1, 1) := by decide +kernel
theorem dX5_readText_29 : decode cX5_readText 29 = .ok (.bipush 6, 2) := by decide +kernel
theorem dX5_readText_31 : decode cX5_readText 31 = .ok (.if_icmp .gt 35, 3) := by decide +kernel
theorem dX5_readText_34 : decode cX5_readText 34 = .ok (.aload_n 0, 1) := by decide +kernel
theorem dX5_readText_35 : decode cX5_readText 35 = .ok (.getfield 38, 3) := by decide +kernel
theorem dX5_readText_38 : decode cX5_readText 38 = .ok (.aload_n 0, 1) := by decide +kernel
theorem dX5_readText_39 : decode cX5_readText 39 = .ok (.getfield 29, 3) := by decide +kernel
theorem dX5_readText_42 : decode cX5_readText 42 = .ok (.if_icmp .ge 24, 3) := by decide +kernel
theorem dX5_readText_45 : decode cX5_readText 45 = .ok (.aload_n 0, 1) := by decide +kernel
theorem dX5_readText_46 : decode cX5_readText 46 = .ok (.getfield 41, 3) := by decide +kernel
theorem dX5_readText_49 : decode cX5_readText 49 = .ok (.ifCond .ne 17, 3) := by decide +kernel
theorem dX5_readText_52 : decode cX5_readText 52 = .ok (.aload_n 0, 1) := by decide +kernel
theorem dX5_readText_53 : decode cX5_readText 53 = .ok (.invokevirtual 50, 3) := by decide +kernel
theorem dX5_readText_56 : decode cX5_readText 56 = .ok (.aload_n 0, 1) := by decide +kernel
theorem dX5_readText_57 : decode cX5_readText 57 = .ok (.invokevirtual 47, 3) := by decide +kernel
theorem dX5_readText_60 : decode cX5_readText 60 = .ok (.iinc 1 1, 3) := by decide +kernel
theorem dX5_readText_63 : decode cX5_readText 63 = .ok (.goto (-35), 3) := by decide +kernel
theorem dX5_readText_66 : decode cX5_readText 66 = .ok (.aload_n 0, 1) := by decide +kernel
theorem dX5_readText_67 : decode cX5_readText 67 = .ok (.iconst 0, 1) := by decide +kernel
theorem dX5_readText_68 : decode cX5_readText 68 = .ok (.putfield 29, 3) := by decide +kernel
theorem dX5_readText_71 : decode cX5_readText 71 = .ok (.aload_n 0, 1) := by decide +kernel
theorem dX5_readText_72 : decode cX5_readText 72 = .ok (.getfield 41, 3) := by decide +kernel
theorem dX5_readText_75 : decode cX5_readText 75 = .ok (.ifCond .eq 11, 3) := by decide +kernel
theorem dX5_readText_78 : decode cX5_readText 78 = .ok (.bipush (-10), 2) := by decide +kernel
theorem dX5_readText_80 : decode cX5_readText 80 = .ok (.aload_n 0, 1) := by decide +kernel
theorem dX5_readText_81 : decode cX5_readText 81 = .ok (.getfield 41, 3) := by decide +kernel
theorem dX5_readText_84 : decode cX5_readText 84 = .ok (.isub, 1) := by decide +kernel
theorem dX5_readText_85 : decode cX5_readText 85 = .ok (.ireturn, 1) := by decide +kernel
theorem dX5_readText_86 : decode cX5_readText 86 = .ok (.aload_n 0, 1) := by decide +kernel
theorem dX5_readText_87 : decode cX5_readText 87 = .ok (.getfield 22, 3) := by decide +kernel
theorem dX5_readText_90 : decode cX5_readText 90 = .ok (.astore_n 1, 1) := by decide +kernel
theorem dX5_readText_91 : decode cX5_readText 91 = .ok (.aload_n 0, 1) := by decide +kernel
theorem dX5_readText_92 : decode cX5_readText 92 = .ok (.aload_n 0, 1) := by decide +kernel
theorem dX5_readText_93 : decode cX5_readText 93 = .ok (.getfield 26, 3) := by decide +kernel
theorem dX5_readText_96 : decode cX5_readText 96 = .ok (.putfield 22, 3) := by decide +kernel
theorem dX5_readText_99 : decode cX5_readText 99 = .ok (.aload_n 0, 1) := by decide +kernel
theorem dX5_readText_100 : decode cX5_readText 100 = .ok (.aload_n 1, 1) := by decide +kernel
theorem dX5_readText_101 : decode cX5_readText 101 = .ok (.putfield 26, 3) := by decide +kernel
theorem dX5_readText_104 : decode cX5_readText 104 = .ok (.aload_n 0, 1) := by decide +kernel
theorem dX5_readText_105 : decode cX5_readText 105 = .ok (.getfield 22, 3) := by decide +kernel
theorem dX5_readText_108 : decode cX5_readText 108 = .ok (.getfield 53, 3) := by decide +kernel
theorem dX5_readText_111 : decode cX5_readText 111 = .ok (.ireturn, 1) := by decide +kernel
set_option maxRecDepth 20000 in
theorem ggX5_readClause_X5_readTest : GoodIn wsX5_readClause wsX5_readTest := goodIn_r _ [8, 2, 3, 1, 9, 10, 11, 7, 12, 13, 14, 15, 16, 17, 18, 19, 20, 21, 22, 23, 24, 25, 26, 27, 28, 29, 30, 31, 32, 33, 34, 35, 36, 37, 38, 39, 40, 41, 42, 43, 44, 45, 46, 47, 48, 49, 50, 51, 52, 53, 54, 55, 56, 57, 58, 59, 60, 61, 62, 63, 64, 65, 66, 67, 68, 69, 70, 71, 72, 73, 74, 75, 76, 77, 78, 79, 80, 81, 82, 83, 84, 85, 86, 87, 88, 89, 90, 91, 92, 93, 94, 95, 96, 97, 98, 99, 100, 101, 102, 103, 104, 105, 106, 107, 108, 109, 110, 111, 112, 113, 126, 127, 128, 129, 130, 131, 132, 133, 134, 135, 136, 137, 138] (by decide +kernel) (by decide +kernel)
set_option maxRecDepth 20000 in
theorem gX5_readClause_X5_readTest : GoodIn wsX5_readClause (wsV RX5 56 RX5 yX5_readTest wsX5_readTest) := goodIn_app (goodIn_of _ (by decide +kernel)) ggX5_readClause_X5_readTest
set_option maxRecDepth 20000 in
theorem ggX5_readClause_X5_isNext : GoodIn wsX5_readClause wsX5_isNext := goodIn_r _ [93, 2, 13, 14, 9, 10, 11, 7, 12, 23, 24, 25, 126, 127, 128, 129, 130, 131, 132] (by decide +kernel) (by decide +kernel)
set_option maxRecDepth 20000 in
theorem gX5_readClause_X5_isNext : GoodIn wsX5_readClause (wsV RX5 60 RX5 yX5_isNext wsX5_isNext) := goodIn_app (goodIn_of _ (by decide +kernel)) ggX5_readClause_X5_isNext
set_option maxRecDepth 20000 in
theorem ggX5_readClause_X5_readSign : GoodIn wsX5_readClause wsX5_readSign := goodIn_r _ [97, 2, 90, 91, 92, 7, 93, 13, 14, 9, 10, 11, 12, 23, 24, 25, 85, 86, 87, 88, 1, 89, 126, 127, 128, 129, 130, 131, 132] (by decide +kernel) (by decide +kernel)
set_option maxRecDepth 20000 in
theorem gX5_readClause_X5_readSign : GoodIn wsX5_readClause (wsV RX5 64 RX5 yX5_readSign wsX5_readSign) := goodIn_app (goodIn_of _ (by decide +kernel)) ggX5_readClause_X5_readSign
set_option maxRecDepth 20000 in
theorem ggX5_readClause_X5_readAct : GoodIn wsX5_readClause wsX5_readAct := goodIn_r _ [117, 2, 9, 10, 11, 7, 12, 13, 14, 19, 20, 21, 22, 23, 24, 25, 26, 27, 28, 118, 119, 120, 32, 33, 34, 35, 36, 37, 38, 39, 40, 41, 42, 43, 44, 45, 46, 47, 48, 49, 50, 51, 52, 53, 54, 55, 56, 57, 58, 59, 60, 61, 62, 63, 64, 65, 66, 67, 68, 69, 70, 71, 72, 73, 74, 75, 76, 77, 78, 79, 80, 81, 82, 83, 84, 85, 86, 87, 88, 1, 89, 126, 127, 128, 129, 130, 131, 132] (by decide +kernel) (by decide +kernel)
set_option maxRecDepth 20000 in
theorem gX5_readClause_X5_readAct : GoodIn wsX5_readClause (wsV RX5 67 RX5 yX5_readAct wsX5_readAct) := goodIn_app (goodIn_of _ (by decide +kernel)) ggX5_readClause_X5_readAct
set_option maxRecDepth 20000 in
theorem ggX5_readClause_X6_endClause : GoodIn wsX5_readClause wsX6_endClause := goodIn_r _ [124, 108, 125, 112, 24, 113, 133, 134, 135, 136, 137, 138] (by decide +kernel) (by decide +kernel)
set_option maxRecDepth 20000 in
theorem gX5_readClause_X6_endClause : GoodIn wsX5_readClause (wsV RX5 71 RX6 yX6_endClause wsX6_endClause) := goodIn_app (goodIn_of _ (by decide +kernel)) ggX5_readClause_X6_endClause
theorem dX5_readClause_0 : decode cX5_readClause 0 = .ok (.aload_n 0, 1) := by decide +kernel
theorem dX5_readClause_1 : decode cX5_readClause 1 = .ok (.iconst 0, 1) := by decide +kernel
theorem dX5_readClause_2 : decode cX5_readClause 2 = .ok (.invokevirtual 56, 3) := by decide +kernel
theorem dX5_readClause_5 : decode cX5_readClause 5 = .ok (.iconst 1, 1) := by decide +kernel
theorem dX5_readClause_6 : decode cX5_readClause 6 = .ok (.istore_n 1, 1) := by decide +kernel
theorem dX5_readClause_7 : decode cX5_readClause 7 = .ok (.iload_n 1, 1) := by decide +kernel
theorem dX5_readClause_8 : decode cX5_readClause 8 = .ok (.iconst 3, 1) := by decide +kernel
theorem dX5_readClause_9 : decode cX5_readClause 9 = .ok (.if_icmp .gt 40, 3) := by decide +kernel
theorem dX5_readClause_12 : decode cX5_readClause 12 = .ok (.aload_n 0, 1) := by decide +kernel
theorem dX5_readClause_13 : decode cX5_readClause 13 = .ok (.getfield 41, 3) := by decide +kernel
theorem dX5_readClause_16 : decode cX5_readClause 16 = .ok (.ifCond .ne 33, 3) := by decide +kernel
theorem dX5_readClause_19 : decode cX5_readClause 19 = .ok (.aload_n 0, 1) := by decide +kernel
theorem dX5_readClause_20 : decode cX5_readClause 20 = .ok (.bipush 38, 2) := by decide +kernel
theorem dX5_readClause_22 : decode cX5_readClause 22 = .ok (.invokevirtual 60, 3) := by decide +kernel
theorem dX5_readClause_25 : decode cX5_readClause 25 = .ok (.ifCond .eq 24, 3) := by decide +kernel
theorem dX5_readClause_28 : decode cX5_readClause 28 = .ok (.aload_n 0, 1) := by decide +kernel
theorem dX5_readClause_29 : decode cX5_readClause 29 = .ok (.dup, 1) := by decide +kernel
theorem dX5_readClause_30 : decode cX5_readClause 30 = .ok (.getfield 38, 3) := by decide +kernel
theorem dX5_readClause_33 : decode cX5_readClause 33 = .ok (.iconst 1, 1) := by decide +kernel
theorem dX5_readClause_34 : decode cX5_readClause 34 = .ok (.iadd, 1) := by decide +kernel
theorem dX5_readClause_35 : decode cX5_readClause 35 = .ok (.putfield 38, 3) := by decide +kernel
theorem dX5_readClause_38 : decode cX5_readClause 38 = .ok (.aload_n 0, 1) := by decide +kernel
theorem dX5_readClause_39 : decode cX5_readClause 39 = .ok (.iload_n 1, 1) := by decide +kernel
theorem dX5_readClause_40 : decode cX5_readClause 40 = .ok (.invokevirtual 56, 3) := by decide +kernel
theorem dX5_readClause_43 : decode cX5_readClause 43 = .ok (.iinc 1 1, 3) := by decide +kernel
theorem dX5_readClause_46 : decode cX5_readClause 46 = .ok (.goto (-39), 3) := by decide +kernel
theorem dX5_readClause_49 : decode cX5_readClause 49 = .ok (.aload_n 0, 1) := by decide +kernel
theorem dX5_readClause_50 : decode cX5_readClause 50 = .ok (.bipush 61, 2) := by decide +kernel
theorem dX5_readClause_52 : decode cX5_readClause 52 = .ok (.invokevirtual 64, 3) := by decide +kernel
theorem dX5_readClause_55 : decode cX5_readClause 55 = .ok (.aload_n 0, 1) := by decide +kernel
theorem dX5_readClause_56 : decode cX5_readClause 56 = .ok (.invokevirtual 67, 3) := by decide +kernel
theorem dX5_readClause_59 : decode cX5_readClause 59 = .ok (.istore_n 1, 1) := by decide +kernel
theorem dX5_readClause_60 : decode cX5_readClause 60 = .ok (.aload_n 0, 1) := by decide +kernel
theorem dX5_readClause_61 : decode cX5_readClause 61 = .ok (.bipush 59, 2) := by decide +kernel
theorem dX5_readClause_63 : decode cX5_readClause 63 = .ok (.invokevirtual 64, 3) := by decide +kernel
theorem dX5_readClause_66 : decode cX5_readClause 66 = .ok (.aload_n 0, 1) := by decide +kernel
theorem dX5_readClause_67 : decode cX5_readClause 67 = .ok (.getfield 41, 3) := by decide +kernel
theorem dX5_readClause_70 : decode cX5_readClause 70 = .ok (.ifCond .ne 11, 3) := by decide +kernel
theorem dX5_readClause_73 : decode cX5_readClause 73 = .ok (.aload_n 0, 1) := by decide +kernel
theorem dX5_readClause_74 : decode cX5_readClause 74 = .ok (.getfield 26, 3) := by decide +kernel
theorem dX5_readClause_77 : decode cX5_readClause 77 = .ok (.iload_n 1, 1) := by decide +kernel
theorem dX5_readClause_78 : decode cX5_readClause 78 = .ok (.invokevirtual 71, 3) := by decide +kernel
theorem dX5_readClause_81 : decode cX5_readClause 81 = .ok (.return_, 1) := by decide +kernel
set_option maxRecDepth 20000 in
theorem ggX5_readTest_X5_skipBlanks : GoodIn wsX5_readTest wsX5_skipBlanks := goodIn_r _ [8, 1, 9, 10, 110, 111, 112, 113, 114, 115, 116] (by decide +kernel) (by decide +kernel)
set_option maxRecDepth 20000 in
theorem gX5_readTest_X5_skipBlanks : GoodIn wsX5_readTest (wsV RX5 47 RX5 yX5_skipBlanks wsX5_skipBlanks) := goodIn_app (goodIn_of _ (by decide +kernel)) ggX5_readTest_X5_skipBlanks
set_option maxRecDepth 20000 in
theorem ggX5_readTest_X5_readName : GoodIn wsX5_readTest wsX5_readName := goodIn_r _ [14, 1, 15, 16, 17, 7, 18, 9, 10, 19, 20, 21, 22, 23, 24, 25, 26, 27, 28, 29, 30, 31, 32, 33, 34, 35, 36, 37, 38, 39, 40, 41, 42, 43, 44, 45, 46, 47, 48, 49, 50, 51, 52, 53, 54, 55, 56, 57, 58, 59, 60, 61, 62, 63, 64, 65, 66, 67, 68, 69, 70, 71, 72, 73, 74, 75, 76, 77, 78, 79, 80, 81, 82, 83, 84, 3, 85, 110, 111, 112, 113, 114, 115, 116] (by decide +kernel) (by decide +kernel)
set_option maxRecDepth 20000 in
theorem gX5_readTest_X5_readName : GoodIn wsX5_readTest (wsV RX5 74 RX5 yX5_readName wsX5_readName) := goodIn_app (goodIn_of _ (by decide +kernel)) ggX5_readTest_X5_readName
set_option maxRecDepth 20000 in
theorem ggX5_readTest_X5_blame : GoodIn wsX5_readTest wsX5_blame := goodIn_r _ [84, 3, 85, 110, 111, 112, 113, 114, 115, 116] (by decide +kernel) (by decide +kernel)
set_option maxRecDepth 20000 in
theorem gX5_readTest_X5_blame : GoodIn wsX5_readTest (wsV RX5 77 RX5 yX5_blame wsX5_blame) := goodIn_app (goodIn_of _ (by decide +kernel)) ggX5_readTest_X5_blame
set_option maxRecDepth 20000 in
theorem ggX5_readTest_X5_isNext : GoodIn wsX5_readTest wsX5_isNext := goodIn_r _ [89, 1, 9, 10, 4, 5, 6, 7, 8, 19, 20, 21, 110, 111, 112, 113, 114, 115, 116] (by decide +kernel) (by decide +kernel)
set_option maxRecDepth 20000 in
theorem gX5_readTest_X5_isNext : GoodIn wsX5_readTest (wsV RX5 60 RX5 yX5_isNext wsX5_isNext) := goodIn_app (goodIn_of _ (by decide +kernel)) ggX5_readTest_X5_isNext
set_option maxRecDepth 20000 in
theorem ggX5_readTest_X5_readSign : GoodIn wsX5_readTest wsX5_readSign := goodIn_r _ [93, 1, 86, 87, 88, 7, 89, 9, 10, 4, 5, 6, 8, 19, 20, 21, 81, 82, 83, 84, 3, 85, 110, 111, 112, 113, 114, 115, 116] (by decide +kernel) (by decide +kernel)
set_option maxRecDepth 20000 in
theorem gX5_readTest_X5_readSign : GoodIn wsX5_readTest (wsV RX5 64 RX5 yX5_readSign wsX5_readSign) := goodIn_app (goodIn_of _ (by decide +kernel)) ggX5_readTest_X5_readSign
set_option maxRecDepth 20000 in
theorem ggX5_readTest_X5_readNumber : GoodIn wsX5_readTest wsX5_readNumber := goodIn_r _ [97, 1, 9, 10, 4, 5, 6, 7, 8, 19, 20, 21, 22, 23, 24, 81, 82, 83, 84, 3, 85, 110, 111, 112, 113, 114, 115, 116] (by decide +kernel) (by decide +kernel)
set_option maxRecDepth 20000 in
theorem gX5_readTest_X5_readNumber : GoodIn wsX5_readTest (wsV RX5 81 RX5 yX5_readNumber wsX5_readNumber) := goodIn_app (goodIn_of _ (by decide +kernel)) ggX5_readTest_X5_readNumber
set_option maxRecDepth 20000 in
theorem ggX5_readTest_X6_addTest : GoodIn wsX5_readTest wsX6_addTest := goodIn_r _ [102, 103, 104, 105, 106, 107, 19, 20, 21, 108, 109, 117, 118, 119, 120, 121, 122] (by decide +kernel) (by decide +kernel)
set_option maxRecDepth 20000 in
theorem gX5_readTest_X6_addTest : GoodIn wsX5_readTest (wsV RX5 84 RX6 yX6_addTest wsX6_addTest) := goodIn_app (goodIn_of _ (by decide +kernel)) ggX5_readTest_X6_addTest
theorem dX5_readTest_0 : decode cX5_readTest 0 = .ok (.aload_n 0, 1) := by decide +kernel
theorem dX5_readTest_1 : decode cX5_readTest 1 = .ok (.invokevirtual 47, 3) := by decide +kernel
theorem dX5_readTest_4 : decode cX5_readTest 4 = .ok (.aload_n 0, 1) := by decide +kernel
theorem dX5_readTest_5 : decode cX5_readTest 5 = .ok (.getfield 38, 3) := by decide +kernel
theorem dX5_readTest_8 : decode cX5_readTest 8 = .ok (.istore_n 2, 1) := by decide +kernel
theorem dX5_readTest_9 : decode cX5_readTest 9 = .ok (.aload_n 0, 1) := by decide +kernel
theorem dX5_readTest_10 : decode cX5_readTest 10 = .ok (.invokevirtual 74, 3) := by decide +kernel
theorem dX5_readTest_13 : decode cX5_readTest 13 = .ok (.istore_n 3, 1) := by decide +kernel
theorem dX5_readTest_14 : decode cX5_readTest 14 = .ok (.iload_n 1, 1) := by decide +kernel
theorem dX5_readTest_15 : decode cX5_readTest 15 = .ok (.iconst 3, 1) := by decide +kernel
theorem dX5_readTest_16 : decode cX5_readTest 16 = .ok (.if_icmp .lt 12, 3) := by decide +kernel
theorem dX5_readTest_19 : decode cX5_readTest 19 = .ok (.aload_n 0, 1) := by decide +kernel
theorem dX5_readTest_20 : decode cX5_readTest 20 = .ok (.iconst 4, 1) := by decide +kernel
theorem dX5_readTest_21 : decode cX5_readTest 21 = .ok (.iload_n 2, 1) := by decide +kernel
theorem dX5_readTest_22 : decode cX5_readTest 22 = .ok (.invokevirtual 77, 3) := by decide +kernel
theorem dX5_readTest_25 : decode cX5_readTest 25 = .ok (.goto 21, 3) := by decide +kernel
theorem dX5_readTest_28 : decode cX5_readTest 28 = .ok (.aload_n 0, 1) := by decide +kernel
theorem dX5_readTest_29 : decode cX5_readTest 29 = .ok (.getfield 26, 3) := by decide +kernel
theorem dX5_readTest_32 : decode cX5_readTest 32 = .ok (.getfield 53, 3) := by decide +kernel
theorem dX5_readTest_35 : decode cX5_readTest 35 = .ok (.bipush 6, 2) := by decide +kernel
theorem dX5_readTest_37 : decode cX5_readTest 37 = .ok (.if_icmp .lt 9, 3) := by decide +kernel
theorem dX5_readTest_40 : decode cX5_readTest 40 = .ok (.aload_n 0, 1) := by decide +kernel
theorem dX5_readTest_41 : decode cX5_readTest 41 = .ok (.iconst 3, 1) := by decide +kernel
theorem dX5_readTest_42 : decode cX5_readTest 42 = .ok (.iload_n 2, 1) := by decide +kernel
theorem dX5_readTest_43 : decode cX5_readTest 43 = .ok (.invokevirtual 77, 3) := by decide +kernel
theorem dX5_readTest_46 : decode cX5_readTest 46 = .ok (.aload_n 0, 1) := by decide +kernel
theorem dX5_readTest_47 : decode cX5_readTest 47 = .ok (.bipush 60, 2) := by decide +kernel
theorem dX5_readTest_49 : decode cX5_readTest 49 = .ok (.invokevirtual 60, 3) := by decide +kernel
theorem dX5_readTest_52 : decode cX5_readTest 52 = .ok (.ifCond .eq 8, 3) := by decide +kernel
theorem dX5_readTest_55 : decode cX5_readTest 55 = .ok (.bipush 60, 2) := by decide +kernel
theorem dX5_readTest_57 : decode cX5_readTest 57 = .ok (.goto 5, 3) := by decide +kernel
theorem dX5_readTest_60 : decode cX5_readTest 60 = .ok (.bipush 62, 2) := by decide +kernel
theorem dX5_readTest_62 : decode cX5_readTest 62 = .ok (.istore 4, 2) := by decide +kernel
theorem dX5_readTest_64 : decode cX5_readTest 64 = .ok (.aload_n 0, 1) := by decide +kernel
theorem dX5_readTest_65 : decode cX5_readTest 65 = .ok (.iload 4, 2) := by decide +kernel
theorem dX5_readTest_67 : decode cX5_readTest 67 = .ok (.invokevirtual 64, 3) := by decide +kernel
theorem dX5_readTest_70 : decode cX5_readTest 70 = .ok (.aload_n 0, 1) := by decide +kernel
theorem dX5_readTest_71 : decode cX5_readTest 71 = .ok (.invokevirtual 81, 3) := by decide +kernel
theorem dX5_readTest_74 : decode cX5_readTest 74 = .ok (.istore 5, 2) := by decide +kernel
theorem dX5_readTest_76 : decode cX5_readTest 76 = .ok (.aload_n 0, 1) := by decide +kernel
theorem dX5_readTest_77 : decode cX5_readTest 77 = .ok (.getfield 41, 3) := by decide +kernel
theorem dX5_readTest_80 : decode cX5_readTest 80 = .ok (.ifCond .ne 15, 3) := by decide +kernel
theorem dX5_readTest_83 : decode cX5_readTest 83 = .ok (.aload_n 0, 1) := by decide +kernel
theorem dX5_readTest_84 : decode cX5_readTest 84 = .ok (.getfield 26, 3) := by decide +kernel
theorem dX5_readTest_87 : decode cX5_readTest 87 = .ok (.iload_n 3, 1) := by decide +kernel
theorem dX5_readTest_88 : decode cX5_readTest 88 = .ok (.iload 4, 2) := by decide +kernel
theorem dX5_readTest_90 : decode cX5_readTest 90 = .ok (.iload 5, 2) := by decide +kernel
theorem dX5_readTest_92 : decode cX5_readTest 92 = .ok (.invokevirtual 84, 3) := by decide +kernel
theorem dX5_readTest_95 : decode cX5_readTest 95 = .ok (.return_, 1) := by decide +kernel
set_option maxRecDepth 20000 in
theorem ggX5_readName_X5_findWordEnd : GoodIn wsX5_readName wsX5_findWordEnd := goodIn_r _ [6, 1, 7, 8, 9, 10, 11, 12, 13, 5, 14, 77, 78, 79, 80, 81, 82, 83] (by decide +kernel) (by decide +kernel)
set_option maxRecDepth 20000 in
theorem gX5_readName_X5_findWordEnd : GoodIn wsX5_readName (wsV RX5 88 RX5 yX5_findWordEnd wsX5_findWordEnd) := goodIn_app (goodIn_of _ (by decide +kernel)) ggX5_readName_X5_findWordEnd
set_option maxRecDepth 20000 in
theorem ggX5_readName_X5_nameOf : GoodIn wsX5_readName wsX5_nameOf := goodIn_r _ [17] (by decide +kernel) (by decide +kernel)
set_option maxRecDepth 20000 in
theorem gX5_readName_X5_nameOf : GoodIn wsX5_readName (va_wsS RX5 91 yX5_nameOf wsX5_nameOf) := goodIn_app (goodIn_of _ (by decide +kernel)) ggX5_readName_X5_nameOf
set_option maxRecDepth 20000 in
theorem ggX5_readName_X5_isWord : GoodIn wsX5_readName wsX5_isWord := goodIn_r _ [21, 8, 22, 23, 24, 25, 26, 27, 28, 29, 30, 31, 32, 33, 9, 10, 11, 34, 35, 36, 37, 38, 39, 40, 41, 42, 43, 44, 45, 46, 47, 48, 49, 50, 51, 52, 53, 54, 55, 56, 57, 58, 59, 60, 61, 62, 63, 64, 65, 66, 67, 68, 69, 70, 77, 78, 79, 80, 81, 82, 83] (by decide +kernel) (by decide +kernel)
set_option maxRecDepth 20000 in
theorem gX5_readName_X5_isWord : GoodIn wsX5_readName (wsV RX5 95 RX5 yX5_isWord wsX5_isWord) := goodIn_app (goodIn_of _ (by decide +kernel)) ggX5_readName_X5_isWord
set_option maxRecDepth 20000 in
theorem ggX5_readName_X5_blame : GoodIn wsX5_readName wsX5_blame := goodIn_r _ [74, 75, 76, 77, 78, 79, 80, 81, 82, 83] (by decide +kernel) (by decide +kernel)
set_option maxRecDepth 20000 in
theorem gX5_readName_X5_blame : GoodIn wsX5_readName (wsV RX5 77 RX5 yX5_blame wsX5_blame) := goodIn_app (goodIn_of _ (by decide +kernel)) ggX5_readName_X5_blame
theorem dX5_readName_0 : decode cX5_readName 0 = .ok (.aload_n 0, 1) := by decide +kernel
theorem dX5_readName_1 : decode cX5_readName 1 = .ok (.getfield 38, 3) := by decide +kernel
theorem dX5_readName_4 : decode cX5_readName 4 = .ok (.istore_n 1, 1) := by decide +kernel
theorem dX5_readName_5 : decode cX5_readName 5 = .ok (.aload_n 0, 1) := by decide +kernel
theorem dX5_readName_6 : decode cX5_readName 6 = .ok (.invokevirtual 88, 3) := by decide +kernel
theorem dX5_readName_9 : decode cX5_readName 9 = .ok (.istore_n 2, 1) := by decide +kernel
theorem dX5_readName_10 : decode cX5_readName 10 = .ok (.iconst 0, 1) := by decide +kernel
theorem dX5_readName_11 : decode cX5_readName 11 = .ok (.istore_n 3, 1) := by decide +kernel
theorem dX5_readName_12 : decode cX5_readName 12 = .ok (.iload_n 3, 1) := by decide +kernel
theorem dX5_readName_13 : decode cX5_readName 13 = .ok (.bipush 7, 2) := by decide +kernel
theorem dX5_readName_15 : decode cX5_readName 15 = .ok (.if_icmp .ge 29, 3) := by decide +kernel
theorem dX5_readName_18 : decode cX5_readName 18 = .ok (.aload_n 0, 1) := by decide +kernel
theorem dX5_readName_19 : decode cX5_readName 19 = .ok (.iload_n 3, 1) := by decide +kernel
theorem dX5_readName_20 : decode cX5_readName 20 = .ok (.invokestatic 91, 3) := by decide +kernel
theorem dX5_readName_23 : decode cX5_readName 23 = .ok (.iload_n 1, 1) := by decide +kernel
theorem dX5_readName_24 : decode cX5_readName 24 = .ok (.iload_n 2, 1) := by decide +kernel
theorem dX5_readName_25 : decode cX5_readName 25 = .ok (.invokevirtual 95, 3) := by decide +kernel
theorem dX5_readName_28 : decode cX5_readName 28 = .ok (.ifCond .eq 10, 3) := by decide +kernel
theorem dX5_readName_31 : decode cX5_readName 31 = .ok (.aload_n 0, 1) := by decide +kernel
theorem dX5_readName_32 : decode cX5_readName 32 = .ok (.iload_n 2, 1) := by decide +kernel
theorem dX5_readName_33 : decode cX5_readName 33 = .ok (.putfield 38, 3) := by decide +kernel
theorem dX5_readName_36 : decode cX5_readName 36 = .ok (.iload_n 3, 1) := by decide +kernel
theorem dX5_readName_37 : decode cX5_readName 37 = .ok (.ireturn, 1) := by decide +kernel
theorem dX5_readName_38 : decode cX5_readName 38 = .ok (.iinc 3 1, 3) := by decide +kernel
theorem dX5_readName_41 : decode cX5_readName 41 = .ok (.goto (-29), 3) := by decide +kernel
theorem dX5_readName_44 : decode cX5_readName 44 = .ok (.aload_n 0, 1) := by decide +kernel
theorem dX5_readName_45 : decode cX5_readName 45 = .ok (.iconst 1, 1) := by decide +kernel
theorem dX5_readName_46 : decode cX5_readName 46 = .ok (.iload_n 1, 1) := by decide +kernel
theorem dX5_readName_47 : decode cX5_readName 47 = .ok (.invokevirtual 77, 3) := by decide +kernel
theorem dX5_readName_50 : decode cX5_readName 50 = .ok (.iconst (-1), 1) := by decide +kernel
theorem dX5_readName_51 : decode cX5_readName 51 = .ok (.ireturn, 1) := by decide +kernel
set_option maxRecDepth 20000 in
theorem ggX5_readAct_X5_skipBlanks : GoodIn wsX5_readAct wsX5_skipBlanks := goodIn_r _ [6, 1, 7, 8, 81, 82, 83, 84, 85, 86, 87] (by decide +kernel) (by decide +kernel)
set_option maxRecDepth 20000 in
theorem gX5_readAct_X5_skipBlanks : GoodIn wsX5_readAct (wsV RX5 47 RX5 yX5_skipBlanks wsX5_skipBlanks) := goodIn_app (goodIn_of _ (by decide +kernel)) ggX5_readAct_X5_skipBlanks
set_option maxRecDepth 20000 in
theorem ggX5_readAct_X5_findWordEnd : GoodIn wsX5_readAct wsX5_findWordEnd := goodIn_r _ [12, 1, 7, 8, 13, 14, 15, 16, 17, 5, 18, 81, 82, 83, 84, 85, 86, 87] (by decide +kernel) (by decide +kernel)
set_option maxRecDepth 20000 in
theorem gX5_readAct_X5_findWordEnd : GoodIn wsX5_readAct (wsV RX5 88 RX5 yX5_findWordEnd wsX5_findWordEnd) := goodIn_app (goodIn_of _ (by decide +kernel)) ggX5_readAct_X5_findWordEnd
set_option maxRecDepth 20000 in
theorem ggX5_readAct_X5_actOf : GoodIn wsX5_readAct wsX5_actOf := goodIn_r _ [21] (by decide +kernel) (by decide +kernel)
set_option maxRecDepth 20000 in
theorem gX5_readAct_X5_actOf : GoodIn wsX5_readAct (va_wsS RX5 99 yX5_actOf wsX5_actOf) := goodIn_app (goodIn_of _ (by decide +kernel)) ggX5_readAct_X5_actOf
set_option maxRecDepth 20000 in
theorem ggX5_readAct_X5_isWord : GoodIn wsX5_readAct wsX5_isWord := goodIn_r _ [25, 8, 26, 27, 28, 29, 30, 31, 32, 33, 34, 35, 36, 37, 13, 14, 15, 38, 39, 40, 41, 42, 43, 44, 45, 46, 47, 48, 49, 50, 51, 52, 53, 54, 55, 56, 57, 58, 59, 60, 61, 62, 63, 64, 65, 66, 67, 68, 69, 70, 71, 72, 73, 74, 81, 82, 83, 84, 85, 86, 87] (by decide +kernel) (by decide +kernel)
set_option maxRecDepth 20000 in
theorem gX5_readAct_X5_isWord : GoodIn wsX5_readAct (wsV RX5 95 RX5 yX5_isWord wsX5_isWord) := goodIn_app (goodIn_of _ (by decide +kernel)) ggX5_readAct_X5_isWord
set_option maxRecDepth 20000 in
theorem ggX5_readAct_X5_blame : GoodIn wsX5_readAct wsX5_blame := goodIn_r _ [78, 79, 80, 81, 82, 83, 84, 85, 86, 87] (by decide +kernel) (by decide +kernel)
set_option maxRecDepth 20000 in
theorem gX5_readAct_X5_blame : GoodIn wsX5_readAct (wsV RX5 77 RX5 yX5_blame wsX5_blame) := goodIn_app (goodIn_of _ (by decide +kernel)) ggX5_readAct_X5_blame
theorem dX5_readAct_0 : decode cX5_readAct 0 = .ok (.aload_n 0, 1) := by decide +kernel
theorem dX5_readAct_1 : decode cX5_readAct 1 = .ok (.invokevirtual 47, 3) := by decide +kernel
theorem dX5_readAct_4 : decode cX5_readAct 4 = .ok (.aload_n 0, 1) := by decide +kernel
theorem dX5_readAct_5 : decode cX5_readAct 5 = .ok (.getfield 38, 3) := by decide +kernel
theorem dX5_readAct_8 : decode cX5_readAct 8 = .ok (.istore_n 1, 1) := by decide +kernel
theorem dX5_readAct_9 : decode cX5_readAct 9 = .ok (.aload_n 0, 1) := by decide +kernel
theorem dX5_readAct_10 : decode cX5_readAct 10 = .ok (.invokevirtual 88, 3) := by decide +kernel
theorem dX5_readAct_13 : decode cX5_readAct 13 = .ok (.istore_n 2, 1) := by decide +kernel
theorem dX5_readAct_14 : decode cX5_readAct 14 = .ok (.iconst 0, 1) := by decide +kernel
theorem dX5_readAct_15 : decode cX5_readAct 15 = .ok (.istore_n 3, 1) := by decide +kernel
theorem dX5_readAct_16 : decode cX5_readAct 16 = .ok (.iload_n 3, 1) := by decide +kernel
theorem dX5_readAct_17 : decode cX5_readAct 17 = .ok (.iconst 3, 1) := by decide +kernel
theorem dX5_readAct_18 : decode cX5_readAct 18 = .ok (.if_icmp .ge 29, 3) := by decide +kernel
theorem dX5_readAct_21 : decode cX5_readAct 21 = .ok (.aload_n 0, 1) := by decide +kernel
theorem dX5_readAct_22 : decode cX5_readAct 22 = .ok (.iload_n 3, 1) := by decide +kernel
theorem dX5_readAct_23 : decode cX5_readAct 23 = .ok (.invokestatic 99, 3) := by decide +kernel
theorem dX5_readAct_26 : decode cX5_readAct 26 = .ok (.iload_n 1, 1) := by decide +kernel
theorem dX5_readAct_27 : decode cX5_readAct 27 = .ok (.iload_n 2, 1) := by decide +kernel
theorem dX5_readAct_28 : decode cX5_readAct 28 = .ok (.invokevirtual 95, 3) := by decide +kernel
theorem dX5_readAct_31 : decode cX5_readAct 31 = .ok (.ifCond .eq 10, 3) := by decide +kernel
theorem dX5_readAct_34 : decode cX5_readAct 34 = .ok (.aload_n 0, 1) := by decide +kernel
theorem dX5_readAct_35 : decode cX5_readAct 35 = .ok (.iload_n 2, 1) := by decide +kernel
theorem dX5_readAct_36 : decode cX5_readAct 36 = .ok (.putfield 38, 3) := by decide +kernel
theorem dX5_readAct_39 : decode cX5_readAct 39 = .ok (.iload_n 3, 1) := by decide +kernel
theorem dX5_readAct_40 : decode cX5_readAct 40 = .ok (.ireturn, 1) := by decide +kernel
theorem dX5_readAct_41 : decode cX5_readAct 41 = .ok (.iinc 3 1, 3) := by decide +kernel
theorem dX5_readAct_44 : decode cX5_readAct 44 = .ok (.goto (-28), 3) := by decide +kernel
theorem dX5_readAct_47 : decode cX5_readAct 47 = .ok (.aload_n 0, 1) := by decide +kernel
theorem dX5_readAct_48 : decode cX5_readAct 48 = .ok (.iconst 1, 1) := by decide +kernel
theorem dX5_readAct_49 : decode cX5_readAct 49 = .ok (.iload_n 1, 1) := by decide +kernel
theorem dX5_readAct_50 : decode cX5_readAct 50 = .ok (.invokevirtual 77, 3) := by decide +kernel
theorem dX5_readAct_53 : decode cX5_readAct 53 = .ok (.iconst (-1), 1) := by decide +kernel
theorem dX5_readAct_54 : decode cX5_readAct 54 = .ok (.ireturn, 1) := by decide +kernel
set_option maxRecDepth 20000 in
theorem ggX5_readNumber_X5_skipBlanks : GoodIn wsX5_readNumber wsX5_skipBlanks := goodIn_r _ [8, 1, 2, 3, 21, 22, 23, 24, 25, 26, 27] (by decide +kernel) (by decide +kernel)
set_option maxRecDepth 20000 in
theorem gX5_readNumber_X5_skipBlanks : GoodIn wsX5_readNumber (wsV RX5 47 RX5 yX5_skipBlanks wsX5_skipBlanks) := goodIn_app (goodIn_of _ (by decide +kernel)) ggX5_readNumber_X5_skipBlanks
set_option maxRecDepth 20000 in
theorem ggX5_readNumber_X9_at : GoodIn wsX5_readNumber wsX9_at := goodIn_r _ [11] (by decide +kernel) (by decide +kernel)
set_option maxRecDepth 20000 in
theorem gX5_readNumber_X9_at_n102 : GoodIn wsX5_readNumber (wsX9_at) := ggX5_readNumber_X9_at
set_option maxRecDepth 20000 in
theorem ggX5_readNumber_X5_isIn : GoodIn wsX5_readNumber wsX5_isIn := goodIn_r _ [14] (by decide +kernel) (by decide +kernel)
set_option maxRecDepth 20000 in
theorem gX5_readNumber_X5_isIn : GoodIn wsX5_readNumber (va_wsS RX5 106 yX5_isIn wsX5_isIn) := goodIn_app (goodIn_of _ (by decide +kernel)) ggX5_readNumber_X5_isIn
set_option maxRecDepth 20000 in
theorem ggX5_readNumber_X5_blame : GoodIn wsX5_readNumber wsX5_blame := goodIn_r _ [18, 19, 20, 21, 22, 23, 24, 25, 26, 27] (by decide +kernel) (by decide +kernel)
set_option maxRecDepth 20000 in
theorem gX5_readNumber_X5_blame : GoodIn wsX5_readNumber (wsV RX5 77 RX5 yX5_blame wsX5_blame) := goodIn_app (goodIn_of _ (by decide +kernel)) ggX5_readNumber_X5_blame
theorem dX5_readNumber_0 : decode cX5_readNumber 0 = .ok (.aload_n 0, 1) := by decide +kernel
theorem dX5_readNumber_1 : decode cX5_readNumber 1 = .ok (.invokevirtual 47, 3) := by decide +kernel
theorem dX5_readNumber_4 : decode cX5_readNumber 4 = .ok (.aload_n 0, 1) := by decide +kernel
theorem dX5_readNumber_5 : decode cX5_readNumber 5 = .ok (.getfield 38, 3) := by decide +kernel
theorem dX5_readNumber_8 : decode cX5_readNumber 8 = .ok (.istore_n 1, 1) := by decide +kernel
theorem dX5_readNumber_9 : decode cX5_readNumber 9 = .ok (.iconst 0, 1) := by decide +kernel
theorem dX5_readNumber_10 : decode cX5_readNumber 10 = .ok (.istore_n 2, 1) := by decide +kernel
theorem dX5_readNumber_11 : decode cX5_readNumber 11 = .ok (.iload_n 1, 1) := by decide +kernel
theorem dX5_readNumber_12 : decode cX5_readNumber 12 = .ok (.istore_n 3, 1) := by decide +kernel
theorem dX5_readNumber_13 : decode cX5_readNumber 13 = .ok (.iload_n 3, 1) := by decide +kernel
theorem dX5_readNumber_14 : decode cX5_readNumber 14 = .ok (.aload_n 0, 1) := by decide +kernel
theorem dX5_readNumber_15 : decode cX5_readNumber 15 = .ok (.getfield 29, 3) := by decide +kernel
theorem dX5_readNumber_18 : decode cX5_readNumber 18 = .ok (.if_icmp .ge 51, 3) := by decide +kernel
theorem dX5_readNumber_21 : decode cX5_readNumber 21 = .ok (.bipush 48, 2) := by decide +kernel
theorem dX5_readNumber_23 : decode cX5_readNumber 23 = .ok (.aload_n 0, 1) := by decide +kernel
theorem dX5_readNumber_24 : decode cX5_readNumber 24 = .ok (.getfield 9, 3) := by decide +kernel
theorem dX5_readNumber_27 : decode cX5_readNumber 27 = .ok (.iload_n 3, 1) := by decide +kernel
theorem dX5_readNumber_28 : decode cX5_readNumber 28 = .ok (.invokestatic 102, 3) := by decide +kernel
theorem dX5_readNumber_31 : decode cX5_readNumber 31 = .ok (.bipush 57, 2) := by decide +kernel
theorem dX5_readNumber_33 : decode cX5_readNumber 33 = .ok (.invokestatic 106, 3) := by decide +kernel
theorem dX5_readNumber_36 : decode cX5_readNumber 36 = .ok (.ifCond .eq 33, 3) := by decide +kernel
theorem dX5_readNumber_39 : decode cX5_readNumber 39 = .ok (.iload_n 2, 1) := by decide +kernel
theorem dX5_readNumber_40 : decode cX5_readNumber 40 = .ok (.bipush 10, 2) := by decide +kernel
theorem dX5_readNumber_42 : decode cX5_readNumber 42 = .ok (.imul, 1) := by decide +kernel
theorem dX5_readNumber_43 : decode cX5_readNumber 43 = .ok (.aload_n 0, 1) := by decide +kernel
theorem dX5_readNumber_44 : decode cX5_readNumber 44 = .ok (.getfield 9, 3) := by decide +kernel
theorem dX5_readNumber_47 : decode cX5_readNumber 47 = .ok (.iload_n 3, 1) := by decide +kernel
theorem dX5_readNumber_48 : decode cX5_readNumber 48 = .ok (.invokestatic 102, 3) := by decide +kernel
theorem dX5_readNumber_51 : decode cX5_readNumber 51 = .ok (.iadd, 1) := by decide +kernel
theorem dX5_readNumber_52 : decode cX5_readNumber 52 = .ok (.bipush 48, 2) := by decide +kernel
theorem dX5_readNumber_54 : decode cX5_readNumber 54 = .ok (.isub, 1) := by decide +kernel
theorem dX5_readNumber_55 : decode cX5_readNumber 55 = .ok (.istore_n 2, 1) := by decide +kernel
theorem dX5_readNumber_56 : decode cX5_readNumber 56 = .ok (.aload_n 0, 1) := by decide +kernel
theorem dX5_readNumber_57 : decode cX5_readNumber 57 = .ok (.iload_n 3, 1) := by decide +kernel
theorem dX5_readNumber_58 : decode cX5_readNumber 58 = .ok (.iconst 1, 1) := by decide +kernel
theorem dX5_readNumber_59 : decode cX5_readNumber 59 = .ok (.iadd, 1) := by decide +kernel
theorem dX5_readNumber_60 : decode cX5_readNumber 60 = .ok (.putfield 38, 3) := by decide +kernel
theorem dX5_readNumber_63 : decode cX5_readNumber 63 = .ok (.iinc 3 1, 3) := by decide +kernel
theorem dX5_readNumber_66 : decode cX5_readNumber 66 = .ok (.goto (-53), 3) := by decide +kernel
theorem dX5_readNumber_69 : decode cX5_readNumber 69 = .ok (.aload_n 0, 1) := by decide +kernel
theorem dX5_readNumber_70 : decode cX5_readNumber 70 = .ok (.getfield 38, 3) := by decide +kernel
theorem dX5_readNumber_73 : decode cX5_readNumber 73 = .ok (.iload_n 1, 1) := by decide +kernel
theorem dX5_readNumber_74 : decode cX5_readNumber 74 = .ok (.if_icmp .ne 12, 3) := by decide +kernel
theorem dX5_readNumber_77 : decode cX5_readNumber 77 = .ok (.aload_n 0, 1) := by decide +kernel
theorem dX5_readNumber_78 : decode cX5_readNumber 78 = .ok (.iconst 1, 1) := by decide +kernel
theorem dX5_readNumber_79 : decode cX5_readNumber 79 = .ok (.iload_n 1, 1) := by decide +kernel
theorem dX5_readNumber_80 : decode cX5_readNumber 80 = .ok (.invokevirtual 77, 3) := by decide +kernel
theorem dX5_readNumber_83 : decode cX5_readNumber 83 = .ok (.goto 19, 3) := by decide +kernel
theorem dX5_readNumber_86 : decode cX5_readNumber 86 = .ok (.aload_n 0, 1) := by decide +kernel
theorem dX5_readNumber_87 : decode cX5_readNumber 87 = .ok (.getfield 38, 3) := by decide +kernel
theorem dX5_readNumber_90 : decode cX5_readNumber 90 = .ok (.iload_n 1, 1) := by decide +kernel
theorem dX5_readNumber_91 : decode cX5_readNumber 91 = .ok (.isub, 1) := by decide +kernel
theorem dX5_readNumber_92 : decode cX5_readNumber 92 = .ok (.iconst 3, 1) := by decide +kernel
theorem dX5_readNumber_93 : decode cX5_readNumber 93 = .ok (.if_icmp .le 9, 3) := by decide +kernel
theorem dX5_readNumber_96 : decode cX5_readNumber 96 = .ok (.aload_n 0, 1) := by decide +kernel
theorem dX5_readNumber_97 : decode cX5_readNumber 97 = .ok (.iconst 2, 1) := by decide +kernel
theorem dX5_readNumber_98 : decode cX5_readNumber 98 = .ok (.iload_n 1, 1) := by decide +kernel
theorem dX5_readNumber_99 : decode cX5_readNumber 99 = .ok (.invokevirtual 77, 3) := by decide +kernel
theorem dX5_readNumber_102 : decode cX5_readNumber 102 = .ok (.iload_n 2, 1) := by decide +kernel
theorem dX5_readNumber_103 : decode cX5_readNumber 103 = .ok (.ireturn, 1) := by decide +kernel
set_option maxRecDepth 20000 in
theorem ggX5_readSign_X5_isNext : GoodIn wsX5_readSign wsX5_isNext := goodIn_r _ [6, 1, 7, 8, 9, 10, 11, 5, 12, 13, 14, 15, 22, 23, 24, 25, 26, 27, 28] (by decide +kernel) (by decide +kernel)
set_option maxRecDepth 20000 in
theorem gX5_readSign_X5_isNext : GoodIn wsX5_readSign (wsV RX5 60 RX5 yX5_isNext wsX5_isNext) := goodIn_app (goodIn_of _ (by decide +kernel)) ggX5_readSign_X5_isNext
set_option maxRecDepth 20000 in
theorem ggX5_readSign_X5_blame : GoodIn wsX5_readSign wsX5_blame := goodIn_r _ [19, 20, 21, 22, 23, 24, 25, 26, 27, 28] (by decide +kernel) (by decide +kernel)
set_option maxRecDepth 20000 in
theorem gX5_readSign_X5_blame : GoodIn wsX5_readSign (wsV RX5 77 RX5 yX5_blame wsX5_blame) := goodIn_app (goodIn_of _ (by decide +kernel)) ggX5_readSign_X5_blame
theorem dX5_readSign_0 : decode cX5_readSign 0 = .ok (.aload_n 0, 1) := by decide +kernel
theorem dX5_readSign_1 : decode cX5_readSign 1 = .ok (.iload_n 1, 1) := by decide +kernel
theorem dX5_readSign_2 : decode cX5_readSign 2 = .ok (.invokevirtual 60, 3) := by decide +kernel
theorem dX5_readSign_5 : decode cX5_readSign 5 = .ok (.ifCond .eq 16, 3) := by decide +kernel
theorem dX5_readSign_8 : decode cX5_readSign 8 = .ok (.aload_n 0, 1) := by decide +kernel
theorem dX5_readSign_9 : decode cX5_readSign 9 = .ok (.dup, 1) := by decide +kernel
theorem dX5_readSign_10 : decode cX5_readSign 10 = .ok (.getfield 38, 3) := by decide +kernel
theorem dX5_readSign_13 : decode cX5_readSign 13 = .ok (.iconst 1, 1) := by decide +kernel
theorem dX5_readSign_14 : decode cX5_readSign 14 = .ok (.iadd, 1) := by decide +kernel
theorem dX5_readSign_15 : decode cX5_readSign 15 = .ok (.putfield 38, 3) := by decide +kernel
theorem dX5_readSign_18 : decode cX5_readSign 18 = .ok (.goto 12, 3) := by decide +kernel
theorem dX5_readSign_21 : decode cX5_readSign 21 = .ok (.aload_n 0, 1) := by decide +kernel
theorem dX5_readSign_22 : decode cX5_readSign 22 = .ok (.iconst 1, 1) := by decide +kernel
theorem dX5_readSign_23 : decode cX5_readSign 23 = .ok (.aload_n 0, 1) := by decide +kernel
theorem dX5_readSign_24 : decode cX5_readSign 24 = .ok (.getfield 38, 3) := by decide +kernel
theorem dX5_readSign_27 : decode cX5_readSign 27 = .ok (.invokevirtual 77, 3) := by decide +kernel
theorem dX5_readSign_30 : decode cX5_readSign 30 = .ok (.return_, 1) := by decide +kernel
set_option maxRecDepth 20000 in
theorem ggX5_isNext_X5_skipBlanks : GoodIn wsX5_isNext wsX5_skipBlanks := goodIn_r _ [8, 1, 2, 3, 12, 13, 14, 15, 16, 17, 18] (by decide +kernel) (by decide +kernel)
set_option maxRecDepth 20000 in
theorem gX5_isNext_X5_skipBlanks : GoodIn wsX5_isNext (wsV RX5 47 RX5 yX5_skipBlanks wsX5_skipBlanks) := goodIn_app (goodIn_of _ (by decide +kernel)) ggX5_isNext_X5_skipBlanks
set_option maxRecDepth 20000 in
theorem ggX5_isNext_X9_at : GoodIn wsX5_isNext wsX9_at := goodIn_r _ [11] (by decide +kernel) (by decide +kernel)
set_option maxRecDepth 20000 in
theorem gX5_isNext_X9_at_n102 : GoodIn wsX5_isNext (wsX9_at) := ggX5_isNext_X9_at
theorem dX5_isNext_0 : decode cX5_isNext 0 = .ok (.aload_n 0, 1) := by decide +kernel
theorem dX5_isNext_1 : decode cX5_isNext 1 = .ok (.invokevirtual 47, 3) := by decide +kernel
theorem dX5_isNext_4 : decode cX5_isNext 4 = .ok (.aload_n 0, 1) := by decide +kernel
theorem dX5_isNext_5 : decode cX5_isNext 5 = .ok (.getfield 38, 3) := by decide +kernel
theorem dX5_isNext_8 : decode cX5_isNext 8 = .ok (.aload_n 0, 1) := by decide +kernel
theorem dX5_isNext_9 : decode cX5_isNext 9 = .ok (.getfield 29, 3) := by decide +kernel
theorem dX5_isNext_12 : decode cX5_isNext 12 = .ok (.if_icmp .ge 22, 3) := by decide +kernel
theorem dX5_isNext_15 : decode cX5_isNext 15 = .ok (.aload_n 0, 1) := by decide +kernel
theorem dX5_isNext_16 : decode cX5_isNext 16 = .ok (.getfield 9, 3) := by decide +kernel
theorem dX5_isNext_19 : decode cX5_isNext 19 = .ok (.aload_n 0, 1) := by decide +kernel
theorem dX5_isNext_20 : decode cX5_isNext 20 = .ok (.getfield 38, 3) := by decide +kernel
theorem dX5_isNext_23 : decode cX5_isNext 23 = .ok (.invokestatic 102, 3) := by decide +kernel
theorem dX5_isNext_26 : decode cX5_isNext 26 = .ok (.iload_n 1, 1) := by decide +kernel
theorem dX5_isNext_27 : decode cX5_isNext 27 = .ok (.if_icmp .ne 7, 3) := by decide +kernel
theorem dX5_isNext_30 : decode cX5_isNext 30 = .ok (.iconst 1, 1) := by decide +kernel
theorem dX5_isNext_31 : decode cX5_isNext 31 = .ok (.goto 4, 3) := by decide +kernel
theorem dX5_isNext_34 : decode cX5_isNext 34 = .ok (.iconst 0, 1) := by decide +kernel
theorem dX5_isNext_35 : decode cX5_isNext 35 = .ok (.ireturn, 1) := by decide +kernel
theorem dX5_skipBlanks_0 : decode cX5_skipBlanks 0 = .ok (.aload_n 0, 1) := by decide +kernel
theorem dX5_skipBlanks_1 : decode cX5_skipBlanks 1 = .ok (.getfield 38, 3) := by decide +kernel
theorem dX5_skipBlanks_4 : decode cX5_skipBlanks 4 = .ok (.istore_n 1, 1) := by decide +kernel
theorem dX5_skipBlanks_5 : decode cX5_skipBlanks 5 = .ok (.iload_n 1, 1) := by decide +kernel
theorem dX5_skipBlanks_6 : decode cX5_skipBlanks 6 = .ok (.ifCond .lt 41, 3) := by decide +kernel
theorem dX5_skipBlanks_9 : decode cX5_skipBlanks 9 = .ok (.iload_n 1, 1) := by decide +kernel
theorem dX5_skipBlanks_10 : decode cX5_skipBlanks 10 = .ok (.aload_n 0, 1) := by decide +kernel
theorem dX5_skipBlanks_11 : decode cX5_skipBlanks 11 = .ok (.getfield 29, 3) := by decide +kernel
theorem dX5_skipBlanks_14 : decode cX5_skipBlanks 14 = .ok (.if_icmp .ge 33, 3) := by decide +kernel
theorem dX5_skipBlanks_17 : decode cX5_skipBlanks 17 = .ok (.iload_n 1, 1) := by decide +kernel
theorem dX5_skipBlanks_18 : decode cX5_skipBlanks 18 = .ok (.bipush 120, 2) := by decide +kernel
theorem dX5_skipBlanks_20 : decode cX5_skipBlanks 20 = .ok (.if_icmp .ge 27, 3) := by decide +kernel
theorem dX5_skipBlanks_23 : decode cX5_skipBlanks 23 = .ok (.aload_n 0, 1) := by decide +kernel
theorem dX5_skipBlanks_24 : decode cX5_skipBlanks 24 = .ok (.getfield 9, 3) := by decide +kernel
theorem dX5_skipBlanks_27 : decode cX5_skipBlanks 27 = .ok (.iload_n 1, 1) := by decide +kernel
theorem dX5_skipBlanks_28 : decode cX5_skipBlanks 28 = .ok (.iaload, 1) := by decide +kernel
theorem dX5_skipBlanks_29 : decode cX5_skipBlanks 29 = .ok (.bipush 32, 2) := by decide +kernel
theorem dX5_skipBlanks_31 : decode cX5_skipBlanks 31 = .ok (.if_icmp .ne 16, 3) := by decide +kernel
theorem dX5_skipBlanks_34 : decode cX5_skipBlanks 34 = .ok (.aload_n 0, 1) := by decide +kernel
theorem dX5_skipBlanks_35 : decode cX5_skipBlanks 35 = .ok (.iload_n 1, 1) := by decide +kernel
theorem dX5_skipBlanks_36 : decode cX5_skipBlanks 36 = .ok (.iconst 1, 1) := by decide +kernel
theorem dX5_skipBlanks_37 : decode cX5_skipBlanks 37 = .ok (.iadd, 1) := by decide +kernel
theorem dX5_skipBlanks_38 : decode cX5_skipBlanks 38 = .ok (.putfield 38, 3) := by decide +kernel
theorem dX5_skipBlanks_41 : decode cX5_skipBlanks 41 = .ok (.iinc 1 1, 3) := by decide +kernel
theorem dX5_skipBlanks_44 : decode cX5_skipBlanks 44 = .ok (.goto (-39), 3) := by decide +kernel
theorem dX5_skipBlanks_47 : decode cX5_skipBlanks 47 = .ok (.return_, 1) := by decide +kernel
set_option maxRecDepth 20000 in
theorem ggX5_findWordEnd_X9_at : GoodIn wsX5_findWordEnd wsX9_at := goodIn_r _ [6] (by decide +kernel) (by decide +kernel)
set_option maxRecDepth 20000 in
theorem gX5_findWordEnd_X9_at_n102 : GoodIn wsX5_findWordEnd (wsX9_at) := ggX5_findWordEnd_X9_at
set_option maxRecDepth 20000 in
theorem ggX5_findWordEnd_X5_isIn : GoodIn wsX5_findWordEnd wsX5_isIn := goodIn_r _ [10] (by decide +kernel) (by decide +kernel)
set_option maxRecDepth 20000 in
theorem gX5_findWordEnd_X5_isIn : GoodIn wsX5_findWordEnd (va_wsS RX5 106 yX5_isIn wsX5_isIn) := goodIn_app (goodIn_of _ (by decide +kernel)) ggX5_findWordEnd_X5_isIn
theorem dX5_findWordEnd_0 : decode cX5_findWordEnd 0 = .ok (.aload_n 0, 1) := by decide +kernel
theorem dX5_findWordEnd_1 : decode cX5_findWordEnd 1 = .ok (.getfield 38, 3) := by decide +kernel
theorem dX5_findWordEnd_4 : decode cX5_findWordEnd 4 = .ok (.istore_n 1, 1) := by decide +kernel
theorem dX5_findWordEnd_5 : decode cX5_findWordEnd 5 = .ok (.aload_n 0, 1) := by decide +kernel
theorem dX5_findWordEnd_6 : decode cX5_findWordEnd 6 = .ok (.getfield 38, 3) := by decide +kernel
theorem dX5_findWordEnd_9 : decode cX5_findWordEnd 9 = .ok (.istore_n 2, 1) := by decide +kernel
theorem dX5_findWordEnd_10 : decode cX5_findWordEnd 10 = .ok (.iload_n 2, 1) := by decide +kernel
theorem dX5_findWordEnd_11 : decode cX5_findWordEnd 11 = .ok (.aload_n 0, 1) := by decide +kernel
theorem dX5_findWordEnd_12 : decode cX5_findWordEnd 12 = .ok (.getfield 29, 3) := by decide +kernel
theorem dX5_findWordEnd_15 : decode cX5_findWordEnd 15 = .ok (.if_icmp .ge 31, 3) := by decide +kernel
theorem dX5_findWordEnd_18 : decode cX5_findWordEnd 18 = .ok (.bipush 97, 2) := by decide +kernel
theorem dX5_findWordEnd_20 : decode cX5_findWordEnd 20 = .ok (.aload_n 0, 1) := by decide +kernel
theorem dX5_findWordEnd_21 : decode cX5_findWordEnd 21 = .ok (.getfield 9, 3) := by decide +kernel
theorem dX5_findWordEnd_24 : decode cX5_findWordEnd 24 = .ok (.iload_n 2, 1) := by decide +kernel
theorem dX5_findWordEnd_25 : decode cX5_findWordEnd 25 = .ok (.invokestatic 102, 3) := by decide +kernel
theorem dX5_findWordEnd_28 : decode cX5_findWordEnd 28 = .ok (.bipush 122, 2) := by decide +kernel
theorem dX5_findWordEnd_30 : decode cX5_findWordEnd 30 = .ok (.invokestatic 106, 3) := by decide +kernel
theorem dX5_findWordEnd_33 : decode cX5_findWordEnd 33 = .ok (.ifCond .eq 13, 3) := by decide +kernel
theorem dX5_findWordEnd_36 : decode cX5_findWordEnd 36 = .ok (.iload_n 2, 1) := by decide +kernel
theorem dX5_findWordEnd_37 : decode cX5_findWordEnd 37 = .ok (.iconst 1, 1) := by decide +kernel
theorem dX5_findWordEnd_38 : decode cX5_findWordEnd 38 = .ok (.iadd, 1) := by decide +kernel
theorem dX5_findWordEnd_39 : decode cX5_findWordEnd 39 = .ok (.istore_n 1, 1) := by decide +kernel
theorem dX5_findWordEnd_40 : decode cX5_findWordEnd 40 = .ok (.iinc 2 1, 3) := by decide +kernel
theorem dX5_findWordEnd_43 : decode cX5_findWordEnd 43 = .ok (.goto (-33), 3) := by decide +kernel
theorem dX5_findWordEnd_46 : decode cX5_findWordEnd 46 = .ok (.iload_n 1, 1) := by decide +kernel
theorem dX5_findWordEnd_47 : decode cX5_findWordEnd 47 = .ok (.ireturn, 1) := by decide +kernel
theorem dX5_isIn_0 : decode cX5_isIn 0 = .ok (.iload_n 0, 1) := by decide +kernel
theorem dX5_isIn_1 : decode cX5_isIn 1 = .ok (.iload_n 1, 1) := by decide +kernel
theorem dX5_isIn_2 : decode cX5_isIn 2 = .ok (.if_icmp .gt 12, 3) := by decide +kernel
theorem dX5_isIn_5 : decode cX5_isIn 5 = .ok (.iload_n 1, 1) := by decide +kernel
theorem dX5_isIn_6 : decode cX5_isIn 6 = .ok (.iload_n 2, 1) := by decide +kernel
theorem dX5_isIn_7 : decode cX5_isIn 7 = .ok (.if_icmp .gt 7, 3) := by decide +kernel
theorem dX5_isIn_10 : decode cX5_isIn 10 = .ok (.iconst 1, 1) := by decide +kernel
theorem dX5_isIn_11 : decode cX5_isIn 11 = .ok (.goto 4, 3) := by decide +kernel
theorem dX5_isIn_14 : decode cX5_isIn 14 = .ok (.iconst 0, 1) := by decide +kernel
theorem dX5_isIn_15 : decode cX5_isIn 15 = .ok (.ireturn, 1) := by decide +kernel
set_option maxRecDepth 20000 in
theorem ggX5_isWord_J0_length_8abf5 : GoodIn wsX5_isWord wsJ0_length_8abf5 := goodIn_r _ [6, 7, 8, 9, 10, 5, 11, 12, 13] (by decide +kernel) (by decide +kernel)
set_option maxRecDepth 20000 in
theorem gX5_isWord_J0_length_8abf5 : GoodIn wsX5_isWord (wsV RX5 110 RJ0 yJ0_length_8abf5 wsJ0_length_8abf5) := goodIn_app (goodIn_of _ (by decide +kernel)) ggX5_isWord_J0_length_8abf5
set_option maxRecDepth 20000 in
theorem ggX5_isWord_X9_at : GoodIn wsX5_isWord wsX9_at := goodIn_r _ [16] (by decide +kernel) (by decide +kernel)
set_option maxRecDepth 20000 in
theorem gX5_isWord_X9_at_n102 : GoodIn wsX5_isWord (wsX9_at) := ggX5_isWord_X9_at
set_option maxRecDepth 20000 in
theorem ggX5_isWord_J0_charAt_5068e : GoodIn wsX5_isWord wsJ0_charAt_5068e := goodIn_r _ [20, 7, 21, 22, 23, 5, 24, 12, 13, 25, 26, 27, 28, 29, 30, 31, 32, 33, 34, 35, 36, 37, 38, 39, 40, 41, 42, 43, 44, 45, 46, 47, 48, 49, 50, 51, 52, 53] (by decide +kernel) (by decide +kernel)
set_option maxRecDepth 20000 in
theorem gX5_isWord_J0_charAt_5068e : GoodIn wsX5_isWord (wsV RX5 115 RJ0 yJ0_charAt_5068e wsJ0_charAt_5068e) := goodIn_app (goodIn_of _ (by decide +kernel)) ggX5_isWord_J0_charAt_5068e
theorem dX5_isWord_0 : decode cX5_isWord 0 = .ok (.aload_n 1, 1) := by decide +kernel
theorem dX5_isWord_1 : decode cX5_isWord 1 = .ok (.invokevirtual 110, 3) := by decide +kernel
theorem dX5_isWord_4 : decode cX5_isWord 4 = .ok (.iload_n 3, 1) := by decide +kernel
theorem dX5_isWord_5 : decode cX5_isWord 5 = .ok (.iload_n 2, 1) := by decide +kernel
theorem dX5_isWord_6 : decode cX5_isWord 6 = .ok (.isub, 1) := by decide +kernel
theorem dX5_isWord_7 : decode cX5_isWord 7 = .ok (.if_icmp .eq 5, 3) := by decide +kernel
theorem dX5_isWord_10 : decode cX5_isWord 10 = .ok (.iconst 0, 1) := by decide +kernel
theorem dX5_isWord_11 : decode cX5_isWord 11 = .ok (.ireturn, 1) := by decide +kernel
theorem dX5_isWord_12 : decode cX5_isWord 12 = .ok (.iconst 0, 1) := by decide +kernel
theorem dX5_isWord_13 : decode cX5_isWord 13 = .ok (.istore 4, 2) := by decide +kernel
theorem dX5_isWord_15 : decode cX5_isWord 15 = .ok (.iload 4, 2) := by decide +kernel
theorem dX5_isWord_17 : decode cX5_isWord 17 = .ok (.aload_n 1, 1) := by decide +kernel
theorem dX5_isWord_18 : decode cX5_isWord 18 = .ok (.invokevirtual 110, 3) := by decide +kernel
theorem dX5_isWord_21 : decode cX5_isWord 21 = .ok (.if_icmp .ge 31, 3) := by decide +kernel
theorem dX5_isWord_24 : decode cX5_isWord 24 = .ok (.aload_n 0, 1) := by decide +kernel
theorem dX5_isWord_25 : decode cX5_isWord 25 = .ok (.getfield 9, 3) := by decide +kernel
theorem dX5_isWord_28 : decode cX5_isWord 28 = .ok (.iload_n 2, 1) := by decide +kernel
theorem dX5_isWord_29 : decode cX5_isWord 29 = .ok (.iload 4, 2) := by decide +kernel
theorem dX5_isWord_31 : decode cX5_isWord 31 = .ok (.iadd, 1) := by decide +kernel
theorem dX5_isWord_32 : decode cX5_isWord 32 = .ok (.invokestatic 102, 3) := by decide +kernel
theorem dX5_isWord_35 : decode cX5_isWord 35 = .ok (.aload_n 1, 1) := by decide +kernel
theorem dX5_isWord_36 : decode cX5_isWord 36 = .ok (.iload 4, 2) := by decide +kernel
theorem dX5_isWord_38 : decode cX5_isWord 38 = .ok (.invokevirtual 115, 3) := by decide +kernel
theorem dX5_isWord_41 : decode cX5_isWord 41 = .ok (.if_icmp .eq 5, 3) := by decide +kernel
theorem dX5_isWord_44 : decode cX5_isWord 44 = .ok (.iconst 0, 1) := by decide +kernel
theorem dX5_isWord_45 : decode cX5_isWord 45 = .ok (.ireturn, 1) := by decide +kernel
theorem dX5_isWord_46 : decode cX5_isWord 46 = .ok (.iinc 4 1, 3) := by decide +kernel
theorem dX5_isWord_49 : decode cX5_isWord 49 = .ok (.goto (-34), 3) := by decide +kernel
theorem dX5_isWord_52 : decode cX5_isWord 52 = .ok (.iconst 1, 1) := by decide +kernel
theorem dX5_isWord_53 : decode cX5_isWord 53 = .ok (.ireturn, 1) := by decide +kernel
theorem dX5_blame_0 : decode cX5_blame 0 = .ok (.aload_n 0, 1) := by decide +kernel
theorem dX5_blame_1 : decode cX5_blame 1 = .ok (.getfield 41, 3) := by decide +kernel
theorem dX5_blame_4 : decode cX5_blame 4 = .ok (.ifCond .ne 13, 3) := by decide +kernel
theorem dX5_blame_7 : decode cX5_blame 7 = .ok (.aload_n 0, 1) := by decide +kernel
theorem dX5_blame_8 : decode cX5_blame 8 = .ok (.iload_n 1, 1) := by decide +kernel
theorem dX5_blame_9 : decode cX5_blame 9 = .ok (.putfield 41, 3) := by decide +kernel
theorem dX5_blame_12 : decode cX5_blame 12 = .ok (.aload_n 0, 1) := by decide +kernel
theorem dX5_blame_13 : decode cX5_blame 13 = .ok (.iload_n 2, 1) := by decide +kernel
theorem dX5_blame_14 : decode cX5_blame 14 = .ok (.putfield 15, 3) := by decide +kernel
theorem dX5_blame_17 : decode cX5_blame 17 = .ok (.return_, 1) := by decide +kernel
theorem dX5_nameOf_0 : decode cX5_nameOf 0 = .ok (.iload_n 0, 1) := by decide +kernel
theorem dX5_nameOf_1 : decode cX5_nameOf 1 = .ok (.tableswitch 57 0 5 #[39, 42, 45, 48, 51, 54], 39) := by decide +kernel
theorem dX5_nameOf_40 : decode cX5_nameOf 40 = .ok (.ldc 119, 2) := by decide +kernel
theorem dX5_nameOf_42 : decode cX5_nameOf 42 = .ok (.areturn, 1) := by decide +kernel
theorem dX5_nameOf_43 : decode cX5_nameOf 43 = .ok (.ldc 121, 2) := by decide +kernel
theorem dX5_nameOf_45 : decode cX5_nameOf 45 = .ok (.areturn, 1) := by decide +kernel
theorem dX5_nameOf_46 : decode cX5_nameOf 46 = .ok (.ldc 123, 2) := by decide +kernel
theorem dX5_nameOf_48 : decode cX5_nameOf 48 = .ok (.areturn, 1) := by decide +kernel
theorem dX5_nameOf_49 : decode cX5_nameOf 49 = .ok (.ldc 125, 2) := by decide +kernel
theorem dX5_nameOf_51 : decode cX5_nameOf 51 = .ok (.areturn, 1) := by decide +kernel
theorem dX5_nameOf_52 : decode cX5_nameOf 52 = .ok (.ldc 127, 2) := by decide +kernel
theorem dX5_nameOf_54 : decode cX5_nameOf 54 = .ok (.areturn, 1) := by decide +kernel
theorem dX5_nameOf_55 : decode cX5_nameOf 55 = .ok (.ldc 129, 2) := by decide +kernel
theorem dX5_nameOf_57 : decode cX5_nameOf 57 = .ok (.areturn, 1) := by decide +kernel
theorem dX5_nameOf_58 : decode cX5_nameOf 58 = .ok (.ldc 131, 2) := by decide +kernel
theorem dX5_nameOf_60 : decode cX5_nameOf 60 = .ok (.areturn, 1) := by decide +kernel
theorem dX5_actOf_0 : decode cX5_actOf 0 = .ok (.iload_n 0, 1) := by decide +kernel
theorem dX5_actOf_1 : decode cX5_actOf 1 = .ok (.lookupswitch 33 #[(0, 27), (1, 30)], 27) := by decide +kernel
theorem dX5_actOf_28 : decode cX5_actOf 28 = .ok (.ldc 133, 2) := by decide +kernel
theorem dX5_actOf_30 : decode cX5_actOf 30 = .ok (.areturn, 1) := by decide +kernel
theorem dX5_actOf_31 : decode cX5_actOf 31 = .ok (.ldc 135, 2) := by decide +kernel
theorem dX5_actOf_33 : decode cX5_actOf 33 = .ok (.areturn, 1) := by decide +kernel
theorem dX5_actOf_34 : decode cX5_actOf 34 = .ok (.ldc 137, 2) := by decide +kernel
theorem dX5_actOf_36 : decode cX5_actOf 36 = .ok (.areturn, 1) := by decide +kernel
theorem dX6_init_0 : decode cX6_init 0 = .ok (.aload_n 0, 1) := by decide +kernel
theorem dX6_init_1 : decode cX6_init 1 = .ok (.invokespecial 3, 3) := by decide +kernel
theorem dX6_init_4 : decode cX6_init 4 = .ok (.aload_n 0, 1) := by decide +kernel
theorem dX6_init_5 : decode cX6_init 5 = .ok (.bipush 18, 2) := by decide +kernel
theorem dX6_init_7 : decode cX6_init 7 = .ok (.newarray .int, 2) := by decide +kernel
theorem dX6_init_9 : decode cX6_init 9 = .ok (.putfield 9, 3) := by decide +kernel
theorem dX6_init_12 : decode cX6_init 12 = .ok (.aload_n 0, 1) := by decide +kernel
theorem dX6_init_13 : decode cX6_init 13 = .ok (.bipush 18, 2) := by decide +kernel
theorem dX6_init_15 : decode cX6_init 15 = .ok (.newarray .int, 2) := by decide +kernel
theorem dX6_init_17 : decode cX6_init 17 = .ok (.putfield 15, 3) := by decide +kernel
theorem dX6_init_20 : decode cX6_init 20 = .ok (.aload_n 0, 1) := by decide +kernel
theorem dX6_init_21 : decode cX6_init 21 = .ok (.bipush 18, 2) := by decide +kernel
theorem dX6_init_23 : decode cX6_init 23 = .ok (.newarray .int, 2) := by decide +kernel
theorem dX6_init_25 : decode cX6_init 25 = .ok (.putfield 18, 3) := by decide +kernel
theorem dX6_init_28 : decode cX6_init 28 = .ok (.aload_n 0, 1) := by decide +kernel
theorem dX6_init_29 : decode cX6_init 29 = .ok (.bipush 6, 2) := by decide +kernel
theorem dX6_init_31 : decode cX6_init 31 = .ok (.newarray .int, 2) := by decide +kernel
theorem dX6_init_33 : decode cX6_init 33 = .ok (.putfield 21, 3) := by decide +kernel
theorem dX6_init_36 : decode cX6_init 36 = .ok (.aload_n 0, 1) := by decide +kernel
theorem dX6_init_37 : decode cX6_init 37 = .ok (.bipush 6, 2) := by decide +kernel
theorem dX6_init_39 : decode cX6_init 39 = .ok (.newarray .int, 2) := by decide +kernel
theorem dX6_init_41 : decode cX6_init 41 = .ok (.putfield 24, 3) := by decide +kernel
theorem dX6_init_44 : decode cX6_init 44 = .ok (.return_, 1) := by decide +kernel
set_option maxRecDepth 20000 in
theorem ggX6_clear_J7_fill_53178 : GoodIn wsX6_clear wsJ7_fill_53178 := goodIn_r _ [6] (by decide +kernel) (by decide +kernel)
set_option maxRecDepth 20000 in
theorem gX6_clear_J7_fill_53178 : GoodIn wsX6_clear (va_wsS RX6 31 yJ7_fill_53178 wsJ7_fill_53178) := goodIn_app (goodIn_of _ (by decide +kernel)) ggX6_clear_J7_fill_53178
theorem dX6_clear_0 : decode cX6_clear 0 = .ok (.aload_n 0, 1) := by decide +kernel
theorem dX6_clear_1 : decode cX6_clear 1 = .ok (.iconst 0, 1) := by decide +kernel
theorem dX6_clear_2 : decode cX6_clear 2 = .ok (.putfield 27, 3) := by decide +kernel
theorem dX6_clear_5 : decode cX6_clear 5 = .ok (.aload_n 0, 1) := by decide +kernel
theorem dX6_clear_6 : decode cX6_clear 6 = .ok (.getfield 21, 3) := by decide +kernel
theorem dX6_clear_9 : decode cX6_clear 9 = .ok (.iconst 0, 1) := by decide +kernel
theorem dX6_clear_10 : decode cX6_clear 10 = .ok (.invokestatic 31, 3) := by decide +kernel
theorem dX6_clear_13 : decode cX6_clear 13 = .ok (.return_, 1) := by decide +kernel
set_option maxRecDepth 20000 in
theorem ggX6_addTest_X9_at : GoodIn wsX6_addTest wsX9_at := goodIn_r _ [8] (by decide +kernel) (by decide +kernel)
set_option maxRecDepth 20000 in
theorem gX6_addTest_X9_at_n37 : GoodIn wsX6_addTest (wsX9_at) := ggX6_addTest_X9_at
set_option maxRecDepth 20000 in
theorem ggX6_addTest_X9_isBelow : GoodIn wsX6_addTest wsX9_isBelow := goodIn_r _ [10] (by decide +kernel) (by decide +kernel)
set_option maxRecDepth 20000 in
theorem gX6_addTest_X9_isBelow_n41 : GoodIn wsX6_addTest (wsX9_isBelow) := ggX6_addTest_X9_isBelow
theorem dX6_addTest_0 : decode cX6_addTest 0 = .ok (.aload_n 0, 1) := by decide +kernel
theorem dX6_addTest_1 : decode cX6_addTest 1 = .ok (.getfield 21, 3) := by decide +kernel
theorem dX6_addTest_4 : decode cX6_addTest 4 = .ok (.aload_n 0, 1) := by decide +kernel
theorem dX6_addTest_5 : decode cX6_addTest 5 = .ok (.getfield 27, 3) := by decide +kernel
theorem dX6_addTest_8 : decode cX6_addTest 8 = .ok (.invokestatic 37, 3) := by decide +kernel
theorem dX6_addTest_11 : decode cX6_addTest 11 = .ok (.istore 4, 2) := by decide +kernel
theorem dX6_addTest_13 : decode cX6_addTest 13 = .ok (.aload_n 0, 1) := by decide +kernel
theorem dX6_addTest_14 : decode cX6_addTest 14 = .ok (.getfield 27, 3) := by decide +kernel
theorem dX6_addTest_17 : decode cX6_addTest 17 = .ok (.bipush 6, 2) := by decide +kernel
theorem dX6_addTest_19 : decode cX6_addTest 19 = .ok (.invokestatic 41, 3) := by decide +kernel
theorem dX6_addTest_22 : decode cX6_addTest 22 = .ok (.ifCond .eq 60, 3) := by decide +kernel
theorem dX6_addTest_25 : decode cX6_addTest 25 = .ok (.iload 4, 2) := by decide +kernel
theorem dX6_addTest_27 : decode cX6_addTest 27 = .ok (.iconst 3, 1) := by decide +kernel
theorem dX6_addTest_28 : decode cX6_addTest 28 = .ok (.invokestatic 41, 3) := by decide +kernel
theorem dX6_addTest_31 : decode cX6_addTest 31 = .ok (.ifCond .eq 51, 3) := by decide +kernel
theorem dX6_addTest_34 : decode cX6_addTest 34 = .ok (.aload_n 0, 1) := by decide +kernel
theorem dX6_addTest_35 : decode cX6_addTest 35 = .ok (.getfield 27, 3) := by decide +kernel
theorem dX6_addTest_38 : decode cX6_addTest 38 = .ok (.iconst 3, 1) := by decide +kernel
theorem dX6_addTest_39 : decode cX6_addTest 39 = .ok (.imul, 1) := by decide +kernel
theorem dX6_addTest_40 : decode cX6_addTest 40 = .ok (.iload 4, 2) := by decide +kernel
theorem dX6_addTest_42 : decode cX6_addTest 42 = .ok (.iadd, 1) := by decide +kernel
theorem dX6_addTest_43 : decode cX6_addTest 43 = .ok (.istore 5, 2) := by decide +kernel
theorem dX6_addTest_45 : decode cX6_addTest 45 = .ok (.aload_n 0, 1) := by decide +kernel
theorem dX6_addTest_46 : decode cX6_addTest 46 = .ok (.getfield 9, 3) := by decide +kernel
theorem dX6_addTest_49 : decode cX6_addTest 49 = .ok (.iload 5, 2) := by decide +kernel
theorem dX6_addTest_51 : decode cX6_addTest 51 = .ok (.iload_n 1, 1) := by decide +kernel
theorem dX6_addTest_52 : decode cX6_addTest 52 = .ok (.iastore, 1) := by decide +kernel
theorem dX6_addTest_53 : decode cX6_addTest 53 = .ok (.aload_n 0, 1) := by decide +kernel
theorem dX6_addTest_54 : decode cX6_addTest 54 = .ok (.getfield 15, 3) := by decide +kernel
theorem dX6_addTest_57 : decode cX6_addTest 57 = .ok (.iload 5, 2) := by decide +kernel
theorem dX6_addTest_59 : decode cX6_addTest 59 = .ok (.iload_n 2, 1) := by decide +kernel
theorem dX6_addTest_60 : decode cX6_addTest 60 = .ok (.iastore, 1) := by decide +kernel
theorem dX6_addTest_61 : decode cX6_addTest 61 = .ok (.aload_n 0, 1) := by decide +kernel
theorem dX6_addTest_62 : decode cX6_addTest 62 = .ok (.getfield 18, 3) := by decide +kernel
theorem dX6_addTest_65 : decode cX6_addTest 65 = .ok (.iload 5, 2) := by decide +kernel
theorem dX6_addTest_67 : decode cX6_addTest 67 = .ok (.iload_n 3, 1) := by decide +kernel
theorem dX6_addTest_68 : decode cX6_addTest 68 = .ok (.iastore, 1) := by decide +kernel
theorem dX6_addTest_69 : decode cX6_addTest 69 = .ok (.aload_n 0, 1) := by decide +kernel
theorem dX6_addTest_70 : decode cX6_addTest 70 = .ok (.getfield 21, 3) := by decide +kernel
theorem dX6_addTest_73 : decode cX6_addTest 73 = .ok (.aload_n 0, 1) := by decide +kernel
theorem dX6_addTest_74 : decode cX6_addTest 74 = .ok (.getfield 27, 3) := by decide +kernel
theorem dX6_addTest_77 : decode cX6_addTest 77 = .ok (.iload 4, 2) := by decide +kernel
theorem dX6_addTest_79 : decode cX6_addTest 79 = .ok (.iconst 1, 1) := by decide +kernel
theorem dX6_addTest_80 : decode cX6_addTest 80 = .ok (.iadd, 1) := by decide +kernel
theorem dX6_addTest_81 : decode cX6_addTest 81 = .ok (.iastore, 1) := by decide +kernel
theorem dX6_addTest_82 : decode cX6_addTest 82 = .ok (.return_, 1) := by decide +kernel
set_option maxRecDepth 20000 in
theorem ggX6_endClause_X9_isBelow : GoodIn wsX6_endClause wsX9_isBelow := goodIn_r _ [5] (by decide +kernel) (by decide +kernel)
set_option maxRecDepth 20000 in
theorem gX6_endClause_X9_isBelow_n41 : GoodIn wsX6_endClause (wsX9_isBelow) := ggX6_endClause_X9_isBelow
theorem dX6_endClause_0 : decode cX6_endClause 0 = .ok (.aload_n 0, 1) := by decide +kernel
theorem dX6_endClause_1 : decode cX6_endClause 1 = .ok (.getfield 27, 3) := by decide +kernel
theorem dX6_endClause_4 : decode cX6_endClause 4 = .ok (.bipush 6, 2) := by decide +kernel
theorem dX6_endClause_6 : decode cX6_endClause 6 = .ok (.invokestatic 41, 3) := by decide +kernel
theorem dX6_endClause_9 : decode cX6_endClause 9 = .ok (.ifCond .eq 23, 3) := by decide +kernel
theorem dX6_endClause_12 : decode cX6_endClause 12 = .ok (.aload_n 0, 1) := by decide +kernel
theorem dX6_endClause_13 : decode cX6_endClause 13 = .ok (.getfield 24, 3) := by decide +kernel
theorem dX6_endClause_16 : decode cX6_endClause 16 = .ok (.aload_n 0, 1) := by decide +kernel
theorem dX6_endClause_17 : decode cX6_endClause 17 = .ok (.getfield 27, 3) := by decide +kernel
theorem dX6_endClause_20 : decode cX6_endClause 20 = .ok (.iload_n 1, 1) := by decide +kernel
theorem dX6_endClause_21 : decode cX6_endClause 21 = .ok (.iastore, 1) := by decide +kernel
theorem dX6_endClause_22 : decode cX6_endClause 22 = .ok (.aload_n 0, 1) := by decide +kernel
theorem dX6_endClause_23 : decode cX6_endClause 23 = .ok (.dup, 1) := by decide +kernel
theorem dX6_endClause_24 : decode cX6_endClause 24 = .ok (.getfield 27, 3) := by decide +kernel
theorem dX6_endClause_27 : decode cX6_endClause 27 = .ok (.iconst 1, 1) := by decide +kernel
theorem dX6_endClause_28 : decode cX6_endClause 28 = .ok (.iadd, 1) := by decide +kernel
theorem dX6_endClause_29 : decode cX6_endClause 29 = .ok (.putfield 27, 3) := by decide +kernel
theorem dX6_endClause_32 : decode cX6_endClause 32 = .ok (.return_, 1) := by decide +kernel
set_option maxRecDepth 20000 in
theorem ggX6_decide_X6_isMet : GoodIn wsX6_decide wsX6_isMet := goodIn_r _ [7, 8, 9, 10, 11, 12, 13, 14, 15, 16, 17, 18, 19, 20] (by decide +kernel) (by decide +kernel)
set_option maxRecDepth 20000 in
theorem gX6_decide_X6_isMet : GoodIn wsX6_decide (wsV RX6 45 RX6 yX6_isMet wsX6_isMet) := goodIn_app (goodIn_of _ (by decide +kernel)) ggX6_decide_X6_isMet
theorem dX6_decide_0 : decode cX6_decide 0 = .ok (.iconst 0, 1) := by decide +kernel
theorem dX6_decide_1 : decode cX6_decide 1 = .ok (.istore_n 3, 1) := by decide +kernel
theorem dX6_decide_2 : decode cX6_decide 2 = .ok (.iload_n 3, 1) := by decide +kernel
theorem dX6_decide_3 : decode cX6_decide 3 = .ok (.aload_n 0, 1) := by decide +kernel
theorem dX6_decide_4 : decode cX6_decide 4 = .ok (.getfield 27, 3) := by decide +kernel
theorem dX6_decide_7 : decode cX6_decide 7 = .ok (.if_icmp .ge 32, 3) := by decide +kernel
theorem dX6_decide_10 : decode cX6_decide 10 = .ok (.iload_n 3, 1) := by decide +kernel
theorem dX6_decide_11 : decode cX6_decide 11 = .ok (.bipush 6, 2) := by decide +kernel
theorem dX6_decide_13 : decode cX6_decide 13 = .ok (.if_icmp .ge 26, 3) := by decide +kernel
theorem dX6_decide_16 : decode cX6_decide 16 = .ok (.aload_n 0, 1) := by decide +kernel
theorem dX6_decide_17 : decode cX6_decide 17 = .ok (.iload_n 3, 1) := by decide +kernel
theorem dX6_decide_18 : decode cX6_decide 18 = .ok (.aload_n 1, 1) := by decide +kernel
theorem dX6_decide_19 : decode cX6_decide 19 = .ok (.iload_n 2, 1) := by decide +kernel
theorem dX6_decide_20 : decode cX6_decide 20 = .ok (.invokevirtual 45, 3) := by decide +kernel
theorem dX6_decide_23 : decode cX6_decide 23 = .ok (.ifCond .eq 10, 3) := by decide +kernel
theorem dX6_decide_26 : decode cX6_decide 26 = .ok (.aload_n 0, 1) := by decide +kernel
theorem dX6_decide_27 : decode cX6_decide 27 = .ok (.getfield 24, 3) := by decide +kernel
theorem dX6_decide_30 : decode cX6_decide 30 = .ok (.iload_n 3, 1) := by decide +kernel
theorem dX6_decide_31 : decode cX6_decide 31 = .ok (.iaload, 1) := by decide +kernel
theorem dX6_decide_32 : decode cX6_decide 32 = .ok (.ireturn, 1) := by decide +kernel
theorem dX6_decide_33 : decode cX6_decide 33 = .ok (.iinc 3 1, 3) := by decide +kernel
theorem dX6_decide_36 : decode cX6_decide 36 = .ok (.goto (-34), 3) := by decide +kernel
theorem dX6_decide_39 : decode cX6_decide 39 = .ok (.iconst 0, 1) := by decide +kernel
theorem dX6_decide_40 : decode cX6_decide 40 = .ok (.ireturn, 1) := by decide +kernel
set_option maxRecDepth 20000 in
theorem ggX6_isMet_X9_at : GoodIn wsX6_isMet wsX9_at := goodIn_r _ [7] (by decide +kernel) (by decide +kernel)
set_option maxRecDepth 20000 in
theorem gX6_isMet_X9_at_n37 : GoodIn wsX6_isMet (wsX9_at) := ggX6_isMet_X9_at
theorem dX6_isMet_0 : decode cX6_isMet 0 = .ok (.iconst 0, 1) := by decide +kernel
theorem dX6_isMet_1 : decode cX6_isMet 1 = .ok (.istore 4, 2) := by decide +kernel
theorem dX6_isMet_3 : decode cX6_isMet 3 = .ok (.iload 4, 2) := by decide +kernel
theorem dX6_isMet_5 : decode cX6_isMet 5 = .ok (.iconst 3, 1) := by decide +kernel
theorem dX6_isMet_6 : decode cX6_isMet 6 = .ok (.if_icmp .ge 125, 3) := by decide +kernel
theorem dX6_isMet_9 : decode cX6_isMet 9 = .ok (.iload 4, 2) := by decide +kernel
theorem dX6_isMet_11 : decode cX6_isMet 11 = .ok (.aload_n 0, 1) := by decide +kernel
theorem dX6_isMet_12 : decode cX6_isMet 12 = .ok (.getfield 21, 3) := by decide +kernel
theorem dX6_isMet_15 : decode cX6_isMet 15 = .ok (.iload_n 1, 1) := by decide +kernel
theorem dX6_isMet_16 : decode cX6_isMet 16 = .ok (.invokestatic 37, 3) := by decide +kernel
theorem dX6_isMet_19 : decode cX6_isMet 19 = .ok (.if_icmp .ge 112, 3) := by decide +kernel
theorem dX6_isMet_22 : decode cX6_isMet 22 = .ok (.iload_n 1, 1) := by decide +kernel
theorem dX6_isMet_23 : decode cX6_isMet 23 = .ok (.iconst 3, 1) := by decide +kernel
theorem dX6_isMet_24 : decode cX6_isMet 24 = .ok (.imul, 1) := by decide +kernel
theorem dX6_isMet_25 : decode cX6_isMet 25 = .ok (.iload 4, 2) := by decide +kernel
theorem dX6_isMet_27 : decode cX6_isMet 27 = .ok (.iadd, 1) := by decide +kernel
theorem dX6_isMet_28 : decode cX6_isMet 28 = .ok (.istore 5, 2) := by decide +kernel
theorem dX6_isMet_30 : decode cX6_isMet 30 = .ok (.aload_n 0, 1) := by decide +kernel
theorem dX6_isMet_31 : decode cX6_isMet 31 = .ok (.getfield 9, 3) := by decide +kernel
theorem dX6_isMet_34 : decode cX6_isMet 34 = .ok (.iload 5, 2) := by decide +kernel
theorem dX6_isMet_36 : decode cX6_isMet 36 = .ok (.invokestatic 37, 3) := by decide +kernel
theorem dX6_isMet_39 : decode cX6_isMet 39 = .ok (.istore 6, 2) := by decide +kernel
theorem dX6_isMet_41 : decode cX6_isMet 41 = .ok (.iload 6, 2) := by decide +kernel
theorem dX6_isMet_43 : decode cX6_isMet 43 = .ok (.iconst 1, 1) := by decide +kernel
theorem dX6_isMet_44 : decode cX6_isMet 44 = .ok (.if_icmp .ne 9, 3) := by decide +kernel
theorem dX6_isMet_47 : decode cX6_isMet 47 = .ok (.iload_n 3, 1) := by decide +kernel
theorem dX6_isMet_48 : decode cX6_isMet 48 = .ok (.ifCond .ne 5, 3) := by decide +kernel
theorem dX6_isMet_51 : decode cX6_isMet 51 = .ok (.iconst 0, 1) := by decide +kernel
theorem dX6_isMet_52 : decode cX6_isMet 52 = .ok (.ireturn, 1) := by decide +kernel
theorem dX6_isMet_53 : decode cX6_isMet 53 = .ok (.aload_n 2, 1) := by decide +kernel
theorem dX6_isMet_54 : decode cX6_isMet 54 = .ok (.iload 6, 2) := by decide +kernel
theorem dX6_isMet_56 : decode cX6_isMet 56 = .ok (.invokestatic 37, 3) := by decide +kernel
theorem dX6_isMet_59 : decode cX6_isMet 59 = .ok (.istore 7, 2) := by decide +kernel
theorem dX6_isMet_61 : decode cX6_isMet 61 = .ok (.aload_n 0, 1) := by decide +kernel
theorem dX6_isMet_62 : decode cX6_isMet 62 = .ok (.getfield 15, 3) := by decide +kernel
theorem dX6_isMet_65 : decode cX6_isMet 65 = .ok (.iload 5, 2) := by decide +kernel
theorem dX6_isMet_67 : decode cX6_isMet 67 = .ok (.invokestatic 37, 3) := by decide +kernel
theorem dX6_isMet_70 : decode cX6_isMet 70 = .ok (.bipush 60, 2) := by decide +kernel
theorem dX6_isMet_72 : decode cX6_isMet 72 = .ok (.if_icmp .ne 25, 3) := by decide +kernel
theorem dX6_isMet_75 : decode cX6_isMet 75 = .ok (.iload 7, 2) := by decide +kernel
theorem dX6_isMet_77 : decode cX6_isMet 77 = .ok (.aload_n 0, 1) := by decide +kernel
theorem dX6_isMet_78 : decode cX6_isMet 78 = .ok (.getfield 18, 3) := by decide +kernel
theorem dX6_isMet_81 : decode cX6_isMet 81 = .ok (.iload 5, 2) := by decide +kernel
theorem dX6_isMet_83 : decode cX6_isMet 83 = .ok (.invokestatic 37, 3) := by decide +kernel
theorem dX6_isMet_86 : decode cX6_isMet 86 = .ok (.if_icmp .ge 7, 3) := by decide +kernel
theorem dX6_isMet_89 : decode cX6_isMet 89 = .ok (.iconst 1, 1) := by decide +kernel
theorem dX6_isMet_90 : decode cX6_isMet 90 = .ok (.goto 26, 3) := by decide +kernel
theorem dX6_isMet_93 : decode cX6_isMet 93 = .ok (.iconst 0, 1) := by decide +kernel
theorem dX6_isMet_94 : decode cX6_isMet 94 = .ok (.goto 22, 3) := by decide +kernel
theorem dX6_isMet_97 : decode cX6_isMet 97 = .ok (.iload 7, 2) := by decide +kernel
theorem dX6_isMet_99 : decode cX6_isMet 99 = .ok (.aload_n 0, 1) := by decide +kernel
theorem dX6_isMet_100 : decode cX6_isMet 100 = .ok (.getfield 18, 3) := by decide +kernel
theorem dX6_isMet_103 : decode cX6_isMet 103 = .ok (.iload 5, 2) := by decide +kernel
theorem dX6_isMet_105 : decode cX6_isMet 105 = .ok (.invokestatic 37, 3) := by decide +kernel
theorem dX6_isMet_108 : decode cX6_isMet 108 = .ok (.if_icmp .le 7, 3) := by decide +kernel
theorem dX6_isMet_111 : decode cX6_isMet 111 = .ok (.iconst 1, 1) := by decide +kernel
theorem dX6_isMet_112 : decode cX6_isMet 112 = .ok (.goto 4, 3) := by decide +kernel
theorem dX6_isMet_115 : decode cX6_isMet 115 = .ok (.iconst 0, 1) := by decide +kernel
theorem dX6_isMet_116 : decode cX6_isMet 116 = .ok (.istore 8, 2) := by decide +kernel
theorem dX6_isMet_118 : decode cX6_isMet 118 = .ok (.iload 8, 2) := by decide +kernel
theorem dX6_isMet_120 : decode cX6_isMet 120 = .ok (.ifCond .ne 5, 3) := by decide +kernel
theorem dX6_isMet_123 : decode cX6_isMet 123 = .ok (.iconst 0, 1) := by decide +kernel
theorem dX6_isMet_124 : decode cX6_isMet 124 = .ok (.ireturn, 1) := by decide +kernel
theorem dX6_isMet_125 : decode cX6_isMet 125 = .ok (.iinc 4 1, 3) := by decide +kernel
theorem dX6_isMet_128 : decode cX6_isMet 128 = .ok (.goto (-125), 3) := by decide +kernel
theorem dX6_isMet_131 : decode cX6_isMet 131 = .ok (.iconst 1, 1) := by decide +kernel
theorem dX6_isMet_132 : decode cX6_isMet 132 = .ok (.ireturn, 1) := by decide +kernel
theorem dX7_init_0 : decode cX7_init 0 = .ok (.aload_n 0, 1) := by decide +kernel
theorem dX7_init_1 : decode cX7_init 1 = .ok (.invokespecial 3, 3) := by decide +kernel
theorem dX7_init_4 : decode cX7_init 4 = .ok (.aload_n 0, 1) := by decide +kernel
theorem dX7_init_5 : decode cX7_init 5 = .ok (.bipush 60, 2) := by decide +kernel
theorem dX7_init_7 : decode cX7_init 7 = .ok (.newarray .int, 2) := by decide +kernel
theorem dX7_init_9 : decode cX7_init 9 = .ok (.putfield 9, 3) := by decide +kernel
theorem dX7_init_12 : decode cX7_init 12 = .ok (.aload_n 0, 1) := by decide +kernel
theorem dX7_init_13 : decode cX7_init 13 = .ok (.bipush 60, 2) := by decide +kernel
theorem dX7_init_15 : decode cX7_init 15 = .ok (.newarray .int, 2) := by decide +kernel
theorem dX7_init_17 : decode cX7_init 17 = .ok (.putfield 15, 3) := by decide +kernel
theorem dX7_init_20 : decode cX7_init 20 = .ok (.aload_n 0, 1) := by decide +kernel
theorem dX7_init_21 : decode cX7_init 21 = .ok (.bipush 60, 2) := by decide +kernel
theorem dX7_init_23 : decode cX7_init 23 = .ok (.newarray .int, 2) := by decide +kernel
theorem dX7_init_25 : decode cX7_init 25 = .ok (.putfield 18, 3) := by decide +kernel
theorem dX7_init_28 : decode cX7_init 28 = .ok (.aload_n 0, 1) := by decide +kernel
theorem dX7_init_29 : decode cX7_init 29 = .ok (.sipush 401, 3) := by decide +kernel
theorem dX7_init_32 : decode cX7_init 32 = .ok (.newarray .int, 2) := by decide +kernel
theorem dX7_init_34 : decode cX7_init 34 = .ok (.putfield 21, 3) := by decide +kernel
theorem dX7_init_37 : decode cX7_init 37 = .ok (.return_, 1) := by decide +kernel
set_option maxRecDepth 20000 in
theorem ggX7_add_X9_isBelow : GoodIn wsX7_add wsX9_isBelow := goodIn_r _ [7] (by decide +kernel) (by decide +kernel)
set_option maxRecDepth 20000 in
theorem gX7_add_X9_isBelow_n28 : GoodIn wsX7_add (wsX9_isBelow) := ggX7_add_X9_isBelow
theorem dX7_add_0 : decode cX7_add 0 = .ok (.aload_n 0, 1) := by decide +kernel
theorem dX7_add_1 : decode cX7_add 1 = .ok (.getfield 24, 3) := by decide +kernel
theorem dX7_add_4 : decode cX7_add 4 = .ok (.bipush 60, 2) := by decide +kernel
theorem dX7_add_6 : decode cX7_add 6 = .ok (.invokestatic 28, 3) := by decide +kernel
theorem dX7_add_9 : decode cX7_add 9 = .ok (.ifCond .ne 7, 3) := by decide +kernel
theorem dX7_add_12 : decode cX7_add 12 = .ok (.sipush (-1004), 3) := by decide +kernel
theorem dX7_add_15 : decode cX7_add 15 = .ok (.ireturn, 1) := by decide +kernel
theorem dX7_add_16 : decode cX7_add 16 = .ok (.aload_n 0, 1) := by decide +kernel
theorem dX7_add_17 : decode cX7_add 17 = .ok (.getfield 9, 3) := by decide +kernel
theorem dX7_add_20 : decode cX7_add 20 = .ok (.aload_n 0, 1) := by decide +kernel
theorem dX7_add_21 : decode cX7_add 21 = .ok (.getfield 24, 3) := by decide +kernel
theorem dX7_add_24 : decode cX7_add 24 = .ok (.iload_n 1, 1) := by decide +kernel
theorem dX7_add_25 : decode cX7_add 25 = .ok (.iastore, 1) := by decide +kernel
theorem dX7_add_26 : decode cX7_add 26 = .ok (.aload_n 0, 1) := by decide +kernel
theorem dX7_add_27 : decode cX7_add 27 = .ok (.getfield 15, 3) := by decide +kernel
theorem dX7_add_30 : decode cX7_add 30 = .ok (.aload_n 0, 1) := by decide +kernel
theorem dX7_add_31 : decode cX7_add 31 = .ok (.getfield 24, 3) := by decide +kernel
theorem dX7_add_34 : decode cX7_add 34 = .ok (.iload_n 2, 1) := by decide +kernel
theorem dX7_add_35 : decode cX7_add 35 = .ok (.iastore, 1) := by decide +kernel
theorem dX7_add_36 : decode cX7_add 36 = .ok (.aload_n 0, 1) := by decide +kernel
theorem dX7_add_37 : decode cX7_add 37 = .ok (.getfield 18, 3) := by decide +kernel
theorem dX7_add_40 : decode cX7_add 40 = .ok (.aload_n 0, 1) := by decide +kernel
theorem dX7_add_41 : decode cX7_add 41 = .ok (.getfield 24, 3) := by decide +kernel
theorem dX7_add_44 : decode cX7_add 44 = .ok (.iload_n 3, 1) := by decide +kernel
theorem dX7_add_45 : decode cX7_add 45 = .ok (.iastore, 1) := by decide +kernel
theorem dX7_add_46 : decode cX7_add 46 = .ok (.aload_n 0, 1) := by decide +kernel
theorem dX7_add_47 : decode cX7_add 47 = .ok (.dup, 1) := by decide +kernel
theorem dX7_add_48 : decode cX7_add 48 = .ok (.getfield 24, 3) := by decide +kernel
theorem dX7_add_51 : decode cX7_add 51 = .ok (.iconst 1, 1) := by decide +kernel
theorem dX7_add_52 : decode cX7_add 52 = .ok (.iadd, 1) := by decide +kernel
theorem dX7_add_53 : decode cX7_add 53 = .ok (.putfield 24, 3) := by decide +kernel
theorem dX7_add_56 : decode cX7_add 56 = .ok (.aload_n 0, 1) := by decide +kernel
theorem dX7_add_57 : decode cX7_add 57 = .ok (.getfield 24, 3) := by decide +kernel
theorem dX7_add_60 : decode cX7_add 60 = .ok (.ireturn, 1) := by decide +kernel
set_option maxRecDepth 20000 in
theorem ggX7_spread_J7_fill_53178 : GoodIn wsX7_spread wsJ7_fill_53178 := goodIn_r _ [9] (by decide +kernel) (by decide +kernel)
set_option maxRecDepth 20000 in
theorem gX7_spread_J7_fill_53178 : GoodIn wsX7_spread (va_wsS RX7 32 yJ7_fill_53178 wsJ7_fill_53178) := goodIn_app (goodIn_of _ (by decide +kernel)) ggX7_spread_J7_fill_53178
set_option maxRecDepth 20000 in
theorem ggX7_spread_X7_spreadFrom : GoodIn wsX7_spread wsX7_spreadFrom := goodIn_r _ [14, 15, 16, 17, 18, 1, 19, 20, 21, 22, 23] (by decide +kernel) (by decide +kernel)
set_option maxRecDepth 20000 in
theorem gX7_spread_X7_spreadFrom : GoodIn wsX7_spread (wsV RX7 38 RX7 yX7_spreadFrom wsX7_spreadFrom) := goodIn_app (goodIn_of _ (by decide +kernel)) ggX7_spread_X7_spreadFrom
theorem dX7_spread_0 : decode cX7_spread 0 = .ok (.aload_n 2, 1) := by decide +kernel
theorem dX7_spread_1 : decode cX7_spread 1 = .ok (.iconst 0, 1) := by decide +kernel
theorem dX7_spread_2 : decode cX7_spread 2 = .ok (.invokestatic 32, 3) := by decide +kernel
theorem dX7_spread_5 : decode cX7_spread 5 = .ok (.aload_n 0, 1) := by decide +kernel
theorem dX7_spread_6 : decode cX7_spread 6 = .ok (.getfield 21, 3) := by decide +kernel
theorem dX7_spread_9 : decode cX7_spread 9 = .ok (.iconst (-1), 1) := by decide +kernel
theorem dX7_spread_10 : decode cX7_spread 10 = .ok (.invokestatic 32, 3) := by decide +kernel
theorem dX7_spread_13 : decode cX7_spread 13 = .ok (.iconst 0, 1) := by decide +kernel
theorem dX7_spread_14 : decode cX7_spread 14 = .ok (.istore_n 3, 1) := by decide +kernel
theorem dX7_spread_15 : decode cX7_spread 15 = .ok (.iload_n 3, 1) := by decide +kernel
theorem dX7_spread_16 : decode cX7_spread 16 = .ok (.aload_n 0, 1) := by decide +kernel
theorem dX7_spread_17 : decode cX7_spread 17 = .ok (.getfield 24, 3) := by decide +kernel
theorem dX7_spread_20 : decode cX7_spread 20 = .ok (.if_icmp .ge 42, 3) := by decide +kernel
theorem dX7_spread_23 : decode cX7_spread 23 = .ok (.iload_n 3, 1) := by decide +kernel
theorem dX7_spread_24 : decode cX7_spread 24 = .ok (.bipush 60, 2) := by decide +kernel
theorem dX7_spread_26 : decode cX7_spread 26 = .ok (.if_icmp .ge 36, 3) := by decide +kernel
theorem dX7_spread_29 : decode cX7_spread 29 = .ok (.aload_n 0, 1) := by decide +kernel
theorem dX7_spread_30 : decode cX7_spread 30 = .ok (.getfield 9, 3) := by decide +kernel
theorem dX7_spread_33 : decode cX7_spread 33 = .ok (.iload_n 3, 1) := by decide +kernel
theorem dX7_spread_34 : decode cX7_spread 34 = .ok (.iaload, 1) := by decide +kernel
theorem dX7_spread_35 : decode cX7_spread 35 = .ok (.iload_n 1, 1) := by decide +kernel
theorem dX7_spread_36 : decode cX7_spread 36 = .ok (.if_icmp .ne 20, 3) := by decide +kernel
theorem dX7_spread_39 : decode cX7_spread 39 = .ok (.aload_n 0, 1) := by decide +kernel
theorem dX7_spread_40 : decode cX7_spread 40 = .ok (.aload_n 0, 1) := by decide +kernel
theorem dX7_spread_41 : decode cX7_spread 41 = .ok (.getfield 15, 3) := by decide +kernel
theorem dX7_spread_44 : decode cX7_spread 44 = .ok (.iload_n 3, 1) := by decide +kernel
theorem dX7_spread_45 : decode cX7_spread 45 = .ok (.iaload, 1) := by decide +kernel
theorem dX7_spread_46 : decode cX7_spread 46 = .ok (.aload_n 0, 1) := by decide +kernel
theorem dX7_spread_47 : decode cX7_spread 47 = .ok (.getfield 18, 3) := by decide +kernel
theorem dX7_spread_50 : decode cX7_spread 50 = .ok (.iload_n 3, 1) := by decide +kernel
theorem dX7_spread_51 : decode cX7_spread 51 = .ok (.iaload, 1) := by decide +kernel
theorem dX7_spread_52 : decode cX7_spread 52 = .ok (.aload_n 2, 1) := by decide +kernel
theorem dX7_spread_53 : decode cX7_spread 53 = .ok (.invokevirtual 38, 3) := by decide +kernel
theorem dX7_spread_56 : decode cX7_spread 56 = .ok (.iinc 3 1, 3) := by decide +kernel
theorem dX7_spread_59 : decode cX7_spread 59 = .ok (.goto (-44), 3) := by decide +kernel
theorem dX7_spread_62 : decode cX7_spread 62 = .ok (.return_, 1) := by decide +kernel
theorem dX7_spreadFrom_0 : decode cX7_spreadFrom 0 = .ok (.iload_n 1, 1) := by decide +kernel
theorem dX7_spreadFrom_1 : decode cX7_spreadFrom 1 = .ok (.iconst 0, 1) := by decide +kernel
theorem dX7_spreadFrom_2 : decode cX7_spreadFrom 2 = .ok (.invokestatic 42, 3) := by decide +kernel
theorem dX7_spreadFrom_5 : decode cX7_spreadFrom 5 = .ok (.istore 4, 2) := by decide +kernel
theorem dX7_spreadFrom_7 : decode cX7_spreadFrom 7 = .ok (.iload 4, 2) := by decide +kernel
theorem dX7_spreadFrom_9 : decode cX7_spreadFrom 9 = .ok (.sipush 401, 3) := by decide +kernel
theorem dX7_spreadFrom_12 : decode cX7_spreadFrom 12 = .ok (.if_icmp .ge 40, 3) := by decide +kernel
theorem dX7_spreadFrom_15 : decode cX7_spreadFrom 15 = .ok (.iload 4, 2) := by decide +kernel
theorem dX7_spreadFrom_17 : decode cX7_spreadFrom 17 = .ok (.aload_n 3, 1) := by decide +kernel
theorem dX7_spreadFrom_18 : decode cX7_spreadFrom 18 = .ok (.arraylength, 1) := by decide +kernel
theorem dX7_spreadFrom_19 : decode cX7_spreadFrom 19 = .ok (.if_icmp .ge 33, 3) := by decide +kernel
theorem dX7_spreadFrom_22 : decode cX7_spreadFrom 22 = .ok (.aload_n 0, 1) := by decide +kernel
theorem dX7_spreadFrom_23 : decode cX7_spreadFrom 23 = .ok (.getfield 21, 3) := by decide +kernel
theorem dX7_spreadFrom_26 : decode cX7_spreadFrom 26 = .ok (.iload 4, 2) := by decide +kernel
theorem dX7_spreadFrom_28 : decode cX7_spreadFrom 28 = .ok (.iaload, 1) := by decide +kernel
theorem dX7_spreadFrom_29 : decode cX7_spreadFrom 29 = .ok (.iload_n 1, 1) := by decide +kernel
theorem dX7_spreadFrom_30 : decode cX7_spreadFrom 30 = .ok (.if_icmp .gt 16, 3) := by decide +kernel
theorem dX7_spreadFrom_33 : decode cX7_spreadFrom 33 = .ok (.aload_n 0, 1) := by decide +kernel
theorem dX7_spreadFrom_34 : decode cX7_spreadFrom 34 = .ok (.getfield 21, 3) := by decide +kernel
theorem dX7_spreadFrom_37 : decode cX7_spreadFrom 37 = .ok (.iload 4, 2) := by decide +kernel
theorem dX7_spreadFrom_39 : decode cX7_spreadFrom 39 = .ok (.iload_n 1, 1) := by decide +kernel
theorem dX7_spreadFrom_40 : decode cX7_spreadFrom 40 = .ok (.iastore, 1) := by decide +kernel
theorem dX7_spreadFrom_41 : decode cX7_spreadFrom 41 = .ok (.aload_n 3, 1) := by decide +kernel
theorem dX7_spreadFrom_42 : decode cX7_spreadFrom 42 = .ok (.iload 4, 2) := by decide +kernel
theorem dX7_spreadFrom_44 : decode cX7_spreadFrom 44 = .ok (.iload_n 2, 1) := by decide +kernel
theorem dX7_spreadFrom_45 : decode cX7_spreadFrom 45 = .ok (.iastore, 1) := by decide +kernel
theorem dX7_spreadFrom_46 : decode cX7_spreadFrom 46 = .ok (.iinc 4 1, 3) := by decide +kernel
theorem dX7_spreadFrom_49 : decode cX7_spreadFrom 49 = .ok (.goto (-42), 3) := by decide +kernel
theorem dX7_spreadFrom_52 : decode cX7_spreadFrom 52 = .ok (.return_, 1) := by decide +kernel
theorem dX8_init_0 : decode cX8_init 0 = .ok (.aload_n 0, 1) := by decide +kernel
theorem dX8_init_1 : decode cX8_init 1 = .ok (.invokespecial 3, 3) := by decide +kernel
theorem dX8_init_4 : decode cX8_init 4 = .ok (.aload_n 0, 1) := by decide +kernel
theorem dX8_init_5 : decode cX8_init 5 = .ok (.bipush 20, 2) := by decide +kernel
theorem dX8_init_7 : decode cX8_init 7 = .ok (.newarray .int, 2) := by decide +kernel
theorem dX8_init_9 : decode cX8_init 9 = .ok (.putfield 9, 3) := by decide +kernel
theorem dX8_init_12 : decode cX8_init 12 = .ok (.aload_n 0, 1) := by decide +kernel
theorem dX8_init_13 : decode cX8_init 13 = .ok (.bipush 20, 2) := by decide +kernel
theorem dX8_init_15 : decode cX8_init 15 = .ok (.newarray .int, 2) := by decide +kernel
theorem dX8_init_17 : decode cX8_init 17 = .ok (.putfield 15, 3) := by decide +kernel
theorem dX8_init_20 : decode cX8_init 20 = .ok (.aload_n 0, 1) := by decide +kernel
theorem dX8_init_21 : decode cX8_init 21 = .ok (.bipush 20, 2) := by decide +kernel
theorem dX8_init_23 : decode cX8_init 23 = .ok (.newarray .int, 2) := by decide +kernel
theorem dX8_init_25 : decode cX8_init 25 = .ok (.putfield 18, 3) := by decide +kernel
theorem dX8_init_28 : decode cX8_init 28 = .ok (.aload_n 0, 1) := by decide +kernel
theorem dX8_init_29 : decode cX8_init 29 = .ok (.bipush 20, 2) := by decide +kernel
theorem dX8_init_31 : decode cX8_init 31 = .ok (.newarray .int, 2) := by decide +kernel
theorem dX8_init_33 : decode cX8_init 33 = .ok (.putfield 21, 3) := by decide +kernel
theorem dX8_init_36 : decode cX8_init 36 = .ok (.aload_n 0, 1) := by decide +kernel
theorem dX8_init_37 : decode cX8_init 37 = .ok (.bipush 20, 2) := by decide +kernel
theorem dX8_init_39 : decode cX8_init 39 = .ok (.newarray .int, 2) := by decide +kernel
theorem dX8_init_41 : decode cX8_init 41 = .ok (.putfield 24, 3) := by decide +kernel
theorem dX8_init_44 : decode cX8_init 44 = .ok (.return_, 1) := by decide +kernel
set_option maxRecDepth 20000 in
theorem ggX8_add_X9_isBelow : GoodIn wsX8_add wsX9_isBelow := goodIn_r _ [9] (by decide +kernel) (by decide +kernel)
set_option maxRecDepth 20000 in
theorem gX8_add_X9_isBelow_n31 : GoodIn wsX8_add (wsX9_isBelow) := ggX8_add_X9_isBelow
theorem dX8_add_0 : decode cX8_add 0 = .ok (.aload_n 0, 1) := by decide +kernel
theorem dX8_add_1 : decode cX8_add 1 = .ok (.getfield 27, 3) := by decide +kernel
theorem dX8_add_4 : decode cX8_add 4 = .ok (.bipush 20, 2) := by decide +kernel
theorem dX8_add_6 : decode cX8_add 6 = .ok (.invokestatic 31, 3) := by decide +kernel
theorem dX8_add_9 : decode cX8_add 9 = .ok (.ifCond .ne 7, 3) := by decide +kernel
theorem dX8_add_12 : decode cX8_add 12 = .ok (.sipush (-1004), 3) := by decide +kernel
theorem dX8_add_15 : decode cX8_add 15 = .ok (.ireturn, 1) := by decide +kernel
theorem dX8_add_16 : decode cX8_add 16 = .ok (.aload_n 0, 1) := by decide +kernel
theorem dX8_add_17 : decode cX8_add 17 = .ok (.getfield 9, 3) := by decide +kernel
theorem dX8_add_20 : decode cX8_add 20 = .ok (.aload_n 0, 1) := by decide +kernel
theorem dX8_add_21 : decode cX8_add 21 = .ok (.getfield 27, 3) := by decide +kernel
theorem dX8_add_24 : decode cX8_add 24 = .ok (.iload_n 1, 1) := by decide +kernel
theorem dX8_add_25 : decode cX8_add 25 = .ok (.iastore, 1) := by decide +kernel
theorem dX8_add_26 : decode cX8_add 26 = .ok (.aload_n 0, 1) := by decide +kernel
theorem dX8_add_27 : decode cX8_add 27 = .ok (.getfield 15, 3) := by decide +kernel
theorem dX8_add_30 : decode cX8_add 30 = .ok (.aload_n 0, 1) := by decide +kernel
theorem dX8_add_31 : decode cX8_add 31 = .ok (.getfield 27, 3) := by decide +kernel
theorem dX8_add_34 : decode cX8_add 34 = .ok (.iload_n 2, 1) := by decide +kernel
theorem dX8_add_35 : decode cX8_add 35 = .ok (.iastore, 1) := by decide +kernel
theorem dX8_add_36 : decode cX8_add 36 = .ok (.aload_n 0, 1) := by decide +kernel
theorem dX8_add_37 : decode cX8_add 37 = .ok (.getfield 18, 3) := by decide +kernel
theorem dX8_add_40 : decode cX8_add 40 = .ok (.aload_n 0, 1) := by decide +kernel
theorem dX8_add_41 : decode cX8_add 41 = .ok (.getfield 27, 3) := by decide +kernel
theorem dX8_add_44 : decode cX8_add 44 = .ok (.iload_n 3, 1) := by decide +kernel
theorem dX8_add_45 : decode cX8_add 45 = .ok (.iastore, 1) := by decide +kernel
theorem dX8_add_46 : decode cX8_add 46 = .ok (.aload_n 0, 1) := by decide +kernel
theorem dX8_add_47 : decode cX8_add 47 = .ok (.getfield 21, 3) := by decide +kernel
theorem dX8_add_50 : decode cX8_add 50 = .ok (.aload_n 0, 1) := by decide +kernel
theorem dX8_add_51 : decode cX8_add 51 = .ok (.getfield 27, 3) := by decide +kernel
theorem dX8_add_54 : decode cX8_add 54 = .ok (.iload 4, 2) := by decide +kernel
theorem dX8_add_56 : decode cX8_add 56 = .ok (.iastore, 1) := by decide +kernel
theorem dX8_add_57 : decode cX8_add 57 = .ok (.aload_n 0, 1) := by decide +kernel
theorem dX8_add_58 : decode cX8_add 58 = .ok (.getfield 24, 3) := by decide +kernel
theorem dX8_add_61 : decode cX8_add 61 = .ok (.aload_n 0, 1) := by decide +kernel
theorem dX8_add_62 : decode cX8_add 62 = .ok (.getfield 27, 3) := by decide +kernel
theorem dX8_add_65 : decode cX8_add 65 = .ok (.iload 5, 2) := by decide +kernel
theorem dX8_add_67 : decode cX8_add 67 = .ok (.iastore, 1) := by decide +kernel
theorem dX8_add_68 : decode cX8_add 68 = .ok (.aload_n 0, 1) := by decide +kernel
theorem dX8_add_69 : decode cX8_add 69 = .ok (.dup, 1) := by decide +kernel
theorem dX8_add_70 : decode cX8_add 70 = .ok (.getfield 27, 3) := by decide +kernel
theorem dX8_add_73 : decode cX8_add 73 = .ok (.iconst 1, 1) := by decide +kernel
theorem dX8_add_74 : decode cX8_add 74 = .ok (.iadd, 1) := by decide +kernel
theorem dX8_add_75 : decode cX8_add 75 = .ok (.putfield 27, 3) := by decide +kernel
theorem dX8_add_78 : decode cX8_add 78 = .ok (.aload_n 0, 1) := by decide +kernel
theorem dX8_add_79 : decode cX8_add 79 = .ok (.getfield 27, 3) := by decide +kernel
theorem dX8_add_82 : decode cX8_add 82 = .ok (.iconst 1, 1) := by decide +kernel
theorem dX8_add_83 : decode cX8_add 83 = .ok (.isub, 1) := by decide +kernel
theorem dX8_add_84 : decode cX8_add 84 = .ok (.ireturn, 1) := by decide +kernel
theorem dX8_countPieces_0 : decode cX8_countPieces 0 = .ok (.iconst 0, 1) := by decide +kernel
theorem dX8_countPieces_1 : decode cX8_countPieces 1 = .ok (.istore_n 1, 1) := by decide +kernel
theorem dX8_countPieces_2 : decode cX8_countPieces 2 = .ok (.iconst 0, 1) := by decide +kernel
theorem dX8_countPieces_3 : decode cX8_countPieces 3 = .ok (.istore_n 2, 1) := by decide +kernel
theorem dX8_countPieces_4 : decode cX8_countPieces 4 = .ok (.iload_n 2, 1) := by decide +kernel
theorem dX8_countPieces_5 : decode cX8_countPieces 5 = .ok (.aload_n 0, 1) := by decide +kernel
theorem dX8_countPieces_6 : decode cX8_countPieces 6 = .ok (.getfield 27, 3) := by decide +kernel
theorem dX8_countPieces_9 : decode cX8_countPieces 9 = .ok (.if_icmp .ge 24, 3) := by decide +kernel
theorem dX8_countPieces_12 : decode cX8_countPieces 12 = .ok (.iload_n 2, 1) := by decide +kernel
theorem dX8_countPieces_13 : decode cX8_countPieces 13 = .ok (.bipush 20, 2) := by decide +kernel
theorem dX8_countPieces_15 : decode cX8_countPieces 15 = .ok (.if_icmp .ge 18, 3) := by decide +kernel
theorem dX8_countPieces_18 : decode cX8_countPieces 18 = .ok (.iload_n 1, 1) := by decide +kernel
theorem dX8_countPieces_19 : decode cX8_countPieces 19 = .ok (.aload_n 0, 1) := by decide +kernel
theorem dX8_countPieces_20 : decode cX8_countPieces 20 = .ok (.getfield 24, 3) := by decide +kernel
theorem dX8_countPieces_23 : decode cX8_countPieces 23 = .ok (.iload_n 2, 1) := by decide +kernel
theorem dX8_countPieces_24 : decode cX8_countPieces 24 = .ok (.iaload, 1) := by decide +kernel
theorem dX8_countPieces_25 : decode cX8_countPieces 25 = .ok (.iadd, 1) := by decide +kernel
theorem dX8_countPieces_26 : decode cX8_countPieces 26 = .ok (.istore_n 1, 1) := by decide +kernel
theorem dX8_countPieces_27 : decode cX8_countPieces 27 = .ok (.iinc 2 1, 3) := by decide +kernel
theorem dX8_countPieces_30 : decode cX8_countPieces 30 = .ok (.goto (-26), 3) := by decide +kernel
theorem dX8_countPieces_33 : decode cX8_countPieces 33 = .ok (.iload_n 1, 1) := by decide +kernel
theorem dX8_countPieces_34 : decode cX8_countPieces 34 = .ok (.ireturn, 1) := by decide +kernel
theorem dX8_findMatch_0 : decode cX8_findMatch 0 = .ok (.iconst (-1), 1) := by decide +kernel
theorem dX8_findMatch_1 : decode cX8_findMatch 1 = .ok (.istore 6, 2) := by decide +kernel
theorem dX8_findMatch_3 : decode cX8_findMatch 3 = .ok (.ldc 35, 2) := by decide +kernel
theorem dX8_findMatch_5 : decode cX8_findMatch 5 = .ok (.istore 7, 2) := by decide +kernel
theorem dX8_findMatch_7 : decode cX8_findMatch 7 = .ok (.iconst 0, 1) := by decide +kernel
theorem dX8_findMatch_8 : decode cX8_findMatch 8 = .ok (.istore 8, 2) := by decide +kernel
theorem dX8_findMatch_10 : decode cX8_findMatch 10 = .ok (.iload 8, 2) := by decide +kernel
theorem dX8_findMatch_12 : decode cX8_findMatch 12 = .ok (.aload_n 0, 1) := by decide +kernel
theorem dX8_findMatch_13 : decode cX8_findMatch 13 = .ok (.getfield 27, 3) := by decide +kernel
theorem dX8_findMatch_16 : decode cX8_findMatch 16 = .ok (.if_icmp .ge 155, 3) := by decide +kernel
theorem dX8_findMatch_19 : decode cX8_findMatch 19 = .ok (.iload 8, 2) := by decide +kernel
theorem dX8_findMatch_21 : decode cX8_findMatch 21 = .ok (.bipush 20, 2) := by decide +kernel
theorem dX8_findMatch_23 : decode cX8_findMatch 23 = .ok (.if_icmp .ge 148, 3) := by decide +kernel
theorem dX8_findMatch_26 : decode cX8_findMatch 26 = .ok (.aload_n 0, 1) := by decide +kernel
theorem dX8_findMatch_27 : decode cX8_findMatch 27 = .ok (.getfield 15, 3) := by decide +kernel
theorem dX8_findMatch_30 : decode cX8_findMatch 30 = .ok (.iload 8, 2) := by decide +kernel
theorem dX8_findMatch_32 : decode cX8_findMatch 32 = .ok (.iaload, 1) := by decide +kernel
theorem dX8_findMatch_33 : decode cX8_findMatch 33 = .ok (.iload_n 2, 1) := by decide +kernel
theorem dX8_findMatch_34 : decode cX8_findMatch 34 = .ok (.isub, 1) := by decide +kernel
theorem dX8_findMatch_35 : decode cX8_findMatch 35 = .ok (.invokestatic 36, 3) := by decide +kernel
theorem dX8_findMatch_38 : decode cX8_findMatch 38 = .ok (.istore 9, 2) := by decide +kernel
theorem dX8_findMatch_40 : decode cX8_findMatch 40 = .ok (.aload_n 0, 1) := by decide +kernel
theorem dX8_findMatch_41 : decode cX8_findMatch 41 = .ok (.getfield 18, 3) := by decide +kernel
theorem dX8_findMatch_44 : decode cX8_findMatch 44 = .ok (.iload 8, 2) := by decide +kernel
theorem dX8_findMatch_46 : decode cX8_findMatch 46 = .ok (.iaload, 1) := by decide +kernel
theorem dX8_findMatch_47 : decode cX8_findMatch 47 = .ok (.iload_n 3, 1) := by decide +kernel
theorem dX8_findMatch_48 : decode cX8_findMatch 48 = .ok (.isub, 1) := by decide +kernel
theorem dX8_findMatch_49 : decode cX8_findMatch 49 = .ok (.invokestatic 36, 3) := by decide +kernel
theorem dX8_findMatch_52 : decode cX8_findMatch 52 = .ok (.istore 10, 2) := by decide +kernel
theorem dX8_findMatch_54 : decode cX8_findMatch 54 = .ok (.aload_n 0, 1) := by decide +kernel
theorem dX8_findMatch_55 : decode cX8_findMatch 55 = .ok (.getfield 21, 3) := by decide +kernel
theorem dX8_findMatch_58 : decode cX8_findMatch 58 = .ok (.iload 8, 2) := by decide +kernel
theorem dX8_findMatch_60 : decode cX8_findMatch 60 = .ok (.iaload, 1) := by decide +kernel
theorem dX8_findMatch_61 : decode cX8_findMatch 61 = .ok (.iload 4, 2) := by decide +kernel
theorem dX8_findMatch_63 : decode cX8_findMatch 63 = .ok (.isub, 1) := by decide +kernel
theorem dX8_findMatch_64 : decode cX8_findMatch 64 = .ok (.invokestatic 36, 3) := by decide +kernel
theorem dX8_findMatch_67 : decode cX8_findMatch 67 = .ok (.istore 11, 2) := by decide +kernel
theorem dX8_findMatch_69 : decode cX8_findMatch 69 = .ok (.iload 9, 2) := by decide +kernel
theorem dX8_findMatch_71 : decode cX8_findMatch 71 = .ok (.iload 10, 2) := by decide +kernel
theorem dX8_findMatch_73 : decode cX8_findMatch 73 = .ok (.iadd, 1) := by decide +kernel
theorem dX8_findMatch_74 : decode cX8_findMatch 74 = .ok (.iload 11, 2) := by decide +kernel
theorem dX8_findMatch_76 : decode cX8_findMatch 76 = .ok (.iadd, 1) := by decide +kernel
theorem dX8_findMatch_77 : decode cX8_findMatch 77 = .ok (.istore 12, 2) := by decide +kernel
theorem dX8_findMatch_79 : decode cX8_findMatch 79 = .ok (.aload_n 0, 1) := by decide +kernel
theorem dX8_findMatch_80 : decode cX8_findMatch 80 = .ok (.getfield 24, 3) := by decide +kernel
theorem dX8_findMatch_83 : decode cX8_findMatch 83 = .ok (.iload 8, 2) := by decide +kernel
theorem dX8_findMatch_85 : decode cX8_findMatch 85 = .ok (.iaload, 1) := by decide +kernel
theorem dX8_findMatch_86 : decode cX8_findMatch 86 = .ok (.ifCond .le 23, 3) := by decide +kernel
theorem dX8_findMatch_89 : decode cX8_findMatch 89 = .ok (.iload_n 1, 1) := by decide +kernel
theorem dX8_findMatch_90 : decode cX8_findMatch 90 = .ok (.iconst (-1), 1) := by decide +kernel
theorem dX8_findMatch_91 : decode cX8_findMatch 91 = .ok (.if_icmp .eq 14, 3) := by decide +kernel
theorem dX8_findMatch_94 : decode cX8_findMatch 94 = .ok (.aload_n 0, 1) := by decide +kernel
theorem dX8_findMatch_95 : decode cX8_findMatch 95 = .ok (.getfield 9, 3) := by decide +kernel
theorem dX8_findMatch_98 : decode cX8_findMatch 98 = .ok (.iload 8, 2) := by decide +kernel
theorem dX8_findMatch_100 : decode cX8_findMatch 100 = .ok (.iaload, 1) := by decide +kernel
theorem dX8_findMatch_101 : decode cX8_findMatch 101 = .ok (.iload_n 1, 1) := by decide +kernel
theorem dX8_findMatch_102 : decode cX8_findMatch 102 = .ok (.if_icmp .ne 7, 3) := by decide +kernel
theorem dX8_findMatch_105 : decode cX8_findMatch 105 = .ok (.iconst 1, 1) := by decide +kernel
theorem dX8_findMatch_106 : decode cX8_findMatch 106 = .ok (.goto 4, 3) := by decide +kernel
theorem dX8_findMatch_109 : decode cX8_findMatch 109 = .ok (.iconst 0, 1) := by decide +kernel
theorem dX8_findMatch_110 : decode cX8_findMatch 110 = .ok (.istore 13, 2) := by decide +kernel
theorem dX8_findMatch_112 : decode cX8_findMatch 112 = .ok (.iload 9, 2) := by decide +kernel
theorem dX8_findMatch_114 : decode cX8_findMatch 114 = .ok (.iload 5, 2) := by decide +kernel
theorem dX8_findMatch_116 : decode cX8_findMatch 116 = .ok (.if_icmp .gt 21, 3) := by decide +kernel
theorem dX8_findMatch_119 : decode cX8_findMatch 119 = .ok (.iload 10, 2) := by decide +kernel
theorem dX8_findMatch_121 : decode cX8_findMatch 121 = .ok (.iload 5, 2) := by decide +kernel
theorem dX8_findMatch_123 : decode cX8_findMatch 123 = .ok (.if_icmp .gt 14, 3) := by decide +kernel
theorem dX8_findMatch_126 : decode cX8_findMatch 126 = .ok (.iload 11, 2) := by decide +kernel
theorem dX8_findMatch_128 : decode cX8_findMatch 128 = .ok (.iload 5, 2) := by decide +kernel
theorem dX8_findMatch_130 : decode cX8_findMatch 130 = .ok (.if_icmp .gt 7, 3) := by decide +kernel
theorem dX8_findMatch_133 : decode cX8_findMatch 133 = .ok (.iconst 1, 1) := by decide +kernel
theorem dX8_findMatch_134 : decode cX8_findMatch 134 = .ok (.goto 4, 3) := by decide +kernel
theorem dX8_findMatch_137 : decode cX8_findMatch 137 = .ok (.iconst 0, 1) := by decide +kernel
theorem dX8_findMatch_138 : decode cX8_findMatch 138 = .ok (.istore 14, 2) := by decide +kernel
theorem dX8_findMatch_140 : decode cX8_findMatch 140 = .ok (.iload 13, 2) := by decide +kernel
theorem dX8_findMatch_142 : decode cX8_findMatch 142 = .ok (.ifCond .eq 23, 3) := by decide +kernel
theorem dX8_findMatch_145 : decode cX8_findMatch 145 = .ok (.iload 14, 2) := by decide +kernel
theorem dX8_findMatch_147 : decode cX8_findMatch 147 = .ok (.ifCond .eq 18, 3) := by decide +kernel
theorem dX8_findMatch_150 : decode cX8_findMatch 150 = .ok (.iload 12, 2) := by decide +kernel
theorem dX8_findMatch_152 : decode cX8_findMatch 152 = .ok (.iload 7, 2) := by decide +kernel
theorem dX8_findMatch_154 : decode cX8_findMatch 154 = .ok (.if_icmp .ge 11, 3) := by decide +kernel
theorem dX8_findMatch_157 : decode cX8_findMatch 157 = .ok (.iload 8, 2) := by decide +kernel
theorem dX8_findMatch_159 : decode cX8_findMatch 159 = .ok (.istore 6, 2) := by decide +kernel
theorem dX8_findMatch_161 : decode cX8_findMatch 161 = .ok (.iload 12, 2) := by decide +kernel
theorem dX8_findMatch_163 : decode cX8_findMatch 163 = .ok (.istore 7, 2) := by decide +kernel
theorem dX8_findMatch_165 : decode cX8_findMatch 165 = .ok (.iinc 8 1, 3) := by decide +kernel
theorem dX8_findMatch_168 : decode cX8_findMatch 168 = .ok (.goto (-158), 3) := by decide +kernel
theorem dX8_findMatch_171 : decode cX8_findMatch 171 = .ok (.iload 6, 2) := by decide +kernel
theorem dX8_findMatch_173 : decode cX8_findMatch 173 = .ok (.ireturn, 1) := by decide +kernel
set_option maxRecDepth 20000 in
theorem ggX8_takePiece_X9_at : GoodIn wsX8_takePiece wsX9_at := goodIn_r _ [4] (by decide +kernel) (by decide +kernel)
set_option maxRecDepth 20000 in
theorem gX8_takePiece_X9_at_n42 : GoodIn wsX8_takePiece (wsX9_at) := ggX8_takePiece_X9_at
set_option maxRecDepth 20000 in
theorem ggX8_takePiece_X9_isBelow : GoodIn wsX8_takePiece wsX9_isBelow := goodIn_r _ [6] (by decide +kernel) (by decide +kernel)
set_option maxRecDepth 20000 in
theorem gX8_takePiece_X9_isBelow_n31 : GoodIn wsX8_takePiece (wsX9_isBelow) := ggX8_takePiece_X9_isBelow
theorem dX8_takePiece_0 : decode cX8_takePiece 0 = .ok (.aload_n 0, 1) := by decide +kernel
theorem dX8_takePiece_1 : decode cX8_takePiece 1 = .ok (.getfield 24, 3) := by decide +kernel
theorem dX8_takePiece_4 : decode cX8_takePiece 4 = .ok (.iload_n 1, 1) := by decide +kernel
theorem dX8_takePiece_5 : decode cX8_takePiece 5 = .ok (.invokestatic 42, 3) := by decide +kernel
theorem dX8_takePiece_8 : decode cX8_takePiece 8 = .ok (.iconst 1, 1) := by decide +kernel
theorem dX8_takePiece_9 : decode cX8_takePiece 9 = .ok (.if_icmp .ge 7, 3) := by decide +kernel
theorem dX8_takePiece_12 : decode cX8_takePiece 12 = .ok (.sipush (-1003), 3) := by decide +kernel
theorem dX8_takePiece_15 : decode cX8_takePiece 15 = .ok (.ireturn, 1) := by decide +kernel
theorem dX8_takePiece_16 : decode cX8_takePiece 16 = .ok (.iload_n 1, 1) := by decide +kernel
theorem dX8_takePiece_17 : decode cX8_takePiece 17 = .ok (.aload_n 0, 1) := by decide +kernel
theorem dX8_takePiece_18 : decode cX8_takePiece 18 = .ok (.getfield 24, 3) := by decide +kernel
theorem dX8_takePiece_21 : decode cX8_takePiece 21 = .ok (.arraylength, 1) := by decide +kernel
theorem dX8_takePiece_22 : decode cX8_takePiece 22 = .ok (.invokestatic 31, 3) := by decide +kernel
theorem dX8_takePiece_25 : decode cX8_takePiece 25 = .ok (.ifCond .eq 13, 3) := by decide +kernel
theorem dX8_takePiece_28 : decode cX8_takePiece 28 = .ok (.aload_n 0, 1) := by decide +kernel
theorem dX8_takePiece_29 : decode cX8_takePiece 29 = .ok (.getfield 24, 3) := by decide +kernel
theorem dX8_takePiece_32 : decode cX8_takePiece 32 = .ok (.iload_n 1, 1) := by decide +kernel
theorem dX8_takePiece_33 : decode cX8_takePiece 33 = .ok (.dup2, 1) := by decide +kernel
theorem dX8_takePiece_34 : decode cX8_takePiece 34 = .ok (.iaload, 1) := by decide +kernel
theorem dX8_takePiece_35 : decode cX8_takePiece 35 = .ok (.iconst 1, 1) := by decide +kernel
theorem dX8_takePiece_36 : decode cX8_takePiece 36 = .ok (.isub, 1) := by decide +kernel
theorem dX8_takePiece_37 : decode cX8_takePiece 37 = .ok (.iastore, 1) := by decide +kernel
theorem dX8_takePiece_38 : decode cX8_takePiece 38 = .ok (.aload_n 0, 1) := by decide +kernel
theorem dX8_takePiece_39 : decode cX8_takePiece 39 = .ok (.getfield 24, 3) := by decide +kernel
theorem dX8_takePiece_42 : decode cX8_takePiece 42 = .ok (.iload_n 1, 1) := by decide +kernel
theorem dX8_takePiece_43 : decode cX8_takePiece 43 = .ok (.invokestatic 42, 3) := by decide +kernel
theorem dX8_takePiece_46 : decode cX8_takePiece 46 = .ok (.ireturn, 1) := by decide +kernel
set_option maxRecDepth 20000 in
theorem ggX9_init_X3_init : GoodIn wsX9_init wsX3_init := goodIn_r _ [36, 37, 2, 3, 24, 38, 39, 40, 41, 42, 43, 44, 45, 46, 47, 48, 49, 50, 51, 52, 53, 54, 55, 56, 57, 58, 59, 60, 119, 120, 121, 122, 123, 124, 125, 126, 127, 128, 179, 180, 181, 182, 183] (by decide +kernel) (by decide +kernel)
set_option maxRecDepth 20000 in
theorem gX9_init_X3_init : GoodIn wsX9_init (wsX3_init) := ggX9_init_X3_init
set_option maxRecDepth 20000 in
theorem ggX9_init_X0_init : GoodIn wsX9_init wsX0_init := goodIn_r _ [62, 63, 2, 3, 24, 64, 65, 66, 67, 137, 138, 139, 140] (by decide +kernel) (by decide +kernel)
set_option maxRecDepth 20000 in
theorem gX9_init_X0_init_n18 : GoodIn wsX9_init (wsX0_init) := ggX9_init_X0_init
set_option maxRecDepth 20000 in
theorem ggX9_init_X2_init : GoodIn wsX9_init wsX2_init := goodIn_r _ [69, 70, 2, 3, 24, 71, 72, 73, 74, 75, 76, 77, 141, 142, 143, 144, 145, 146, 147, 148, 149, 150] (by decide +kernel) (by decide +kernel)
set_option maxRecDepth 20000 in
theorem gX9_init_X2_init_n25 : GoodIn wsX9_init (wsX2_init) := ggX9_init_X2_init
set_option maxRecDepth 20000 in
theorem ggX9_init_X1_init : GoodIn wsX9_init wsX1_init := goodIn_r _ [79, 80, 2, 3, 81, 151, 152] (by decide +kernel) (by decide +kernel)
set_option maxRecDepth 20000 in
theorem gX9_init_X1_init_n32 : GoodIn wsX9_init (wsX1_init) := ggX9_init_X1_init
set_option maxRecDepth 20000 in
theorem ggX9_init_X5_init : GoodIn wsX9_init wsX5_init := goodIn_r _ [83, 84, 2, 3, 24, 85, 86, 87, 88, 89, 90, 91, 92, 93, 94, 95, 96, 97, 98, 99, 153, 154, 155, 156, 157, 158, 159, 184, 185, 186, 187, 188, 189] (by decide +kernel) (by decide +kernel)
set_option maxRecDepth 20000 in
theorem gX9_init_X5_init_n39 : GoodIn wsX9_init (wsX5_init) := ggX9_init_X5_init
set_option maxRecDepth 20000 in
theorem ggX9_init_X4_init : GoodIn wsX9_init wsX4_init := goodIn_r _ [101, 102, 2, 3, 24, 103, 104, 105, 106, 107, 108, 109, 110, 160, 161, 162, 163, 164, 165, 166, 167, 168, 169, 170, 171, 172] (by decide +kernel) (by decide +kernel)
set_option maxRecDepth 20000 in
theorem gX9_init_X4_init_n50 : GoodIn wsX9_init (wsX4_init) := ggX9_init_X4_init
