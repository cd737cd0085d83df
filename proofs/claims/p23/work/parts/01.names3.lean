theorem dX4_init_21 : decode cX4_init 21 = .ok (.bipush 24, 2) := by decide +kernel
theorem dX4_init_23 : decode cX4_init 23 = .ok (.newarray .int, 2) := by decide +kernel
theorem dX4_init_25 : decode cX4_init 25 = .ok (.putfield 18, 3) := by decide +kernel
theorem dX4_init_28 : decode cX4_init 28 = .ok (.aload_n 0, 1) := by decide +kernel
theorem dX4_init_29 : decode cX4_init 29 = .ok (.bipush 6, 2) := by decide +kernel
theorem dX4_init_31 : decode cX4_init 31 = .ok (.newarray .int, 2) := by decide +kernel
theorem dX4_init_33 : decode cX4_init 33 = .ok (.putfield 21, 3) := by decide +kernel
theorem dX4_init_36 : decode cX4_init 36 = .ok (.aload_n 0, 1) := by decide +kernel
theorem dX4_init_37 : decode cX4_init 37 = .ok (.bipush 6, 2) := by decide +kernel
theorem dX4_init_39 : decode cX4_init 39 = .ok (.newarray .int, 2) := by decide +kernel
theorem dX4_init_41 : decode cX4_init 41 = .ok (.putfield 24, 3) := by decide +kernel
theorem dX4_init_44 : decode cX4_init 44 = .ok (.aload_n 0, 1) := by decide +kernel
theorem dX4_init_45 : decode cX4_init 45 = .ok (.bipush 6, 2) := by decide +kernel
theorem dX4_init_47 : decode cX4_init 47 = .ok (.newarray .int, 2) := by decide +kernel
theorem dX4_init_49 : decode cX4_init 49 = .ok (.putfield 27, 3) := by decide +kernel
theorem dX4_init_52 : decode cX4_init 52 = .ok (.aload_n 0, 1) := by decide +kernel
theorem dX4_init_53 : decode cX4_init 53 = .ok (.iconst 4, 1) := by decide +kernel
theorem dX4_init_54 : decode cX4_init 54 = .ok (.newarray .int, 2) := by decide +kernel
theorem dX4_init_56 : decode cX4_init 56 = .ok (.putfield 30, 3) := by decide +kernel
theorem dX4_init_59 : decode cX4_init 59 = .ok (.aload_n 0, 1) := by decide +kernel
theorem dX4_init_60 : decode cX4_init 60 = .ok (.bipush 32, 2) := by decide +kernel
theorem dX4_init_62 : decode cX4_init 62 = .ok (.newarray .int, 2) := by decide +kernel
theorem dX4_init_64 : decode cX4_init 64 = .ok (.putfield 33, 3) := by decide +kernel
theorem dX4_init_67 : decode cX4_init 67 = .ok (.return_, 1) := by decide +kernel
set_option maxRecDepth 20000 in
theorem ggX5_init_X6_init : GoodIn wsX5_init wsX6_init := goodIn_r _ [13, 14, 2, 3, 4, 15, 16, 17, 18, 19, 27, 28, 29, 30, 31, 32] (by decide +kernel) (by decide +kernel)
set_option maxRecDepth 20000 in
theorem gX5_init_X6_init_n21 : GoodIn wsX5_init (wsX6_init) := ggX5_init_X6_init
theorem dX5_init_0 : decode cX5_init 0 = .ok (.aload_n 0, 1) := by decide +kernel
theorem dX5_init_1 : decode cX5_init 1 = .ok (.invokespecial 3, 3) := by decide +kernel
theorem dX5_init_4 : decode cX5_init 4 = .ok (.aload_n 0, 1) := by decide +kernel
theorem dX5_init_5 : decode cX5_init 5 = .ok (.bipush 120, 2) := by decide +kernel
theorem dX5_init_7 : decode cX5_init 7 = .ok (.newarray .int, 2) := by decide +kernel
theorem dX5_init_9 : decode cX5_init 9 = .ok (.putfield 9, 3) := by decide +kernel
theorem dX5_init_12 : decode cX5_init 12 = .ok (.aload_n 0, 1) := by decide +kernel
theorem dX5_init_13 : decode cX5_init 13 = .ok (.iconst (-1), 1) := by decide +kernel
theorem dX5_init_14 : decode cX5_init 14 = .ok (.putfield 15, 3) := by decide +kernel
theorem dX5_init_17 : decode cX5_init 17 = .ok (.aload_n 0, 1) := by decide +kernel
theorem dX5_init_18 : decode cX5_init 18 = .ok (.new 19, 3) := by decide +kernel
theorem dX5_init_21 : decode cX5_init 21 = .ok (.dup, 1) := by decide +kernel
theorem dX5_init_22 : decode cX5_init 22 = .ok (.invokespecial 21, 3) := by decide +kernel
theorem dX5_init_25 : decode cX5_init 25 = .ok (.putfield 22, 3) := by decide +kernel
theorem dX5_init_28 : decode cX5_init 28 = .ok (.aload_n 0, 1) := by decide +kernel
theorem dX5_init_29 : decode cX5_init 29 = .ok (.new 19, 3) := by decide +kernel
theorem dX5_init_32 : decode cX5_init 32 = .ok (.dup, 1) := by decide +kernel
theorem dX5_init_33 : decode cX5_init 33 = .ok (.invokespecial 21, 3) := by decide +kernel
theorem dX5_init_36 : decode cX5_init 36 = .ok (.putfield 26, 3) := by decide +kernel
theorem dX5_init_39 : decode cX5_init 39 = .ok (.return_, 1) := by decide +kernel
theorem dX6_init_0 : decode cX6_init 0 = .ok (.aload_n 0, 1) := by decide +kernel
theorem dX6_init_1 : decode cX6_init 1 = .ok (.invokespecial 3, 3) := by decide +kernel
theorem dX6_init_4 : decode cX6_init 4 = .ok (.aload_n 0, 1) := by decide +kernel
theorem dX6_init_5 : decode cX6_init 5 = .ok (.bipush 18, 2) := by decide +kernel
theorem dX6_init_7 : decode cX6_init 7 = .ok (.newarray .int, 2) := by decide +kernel
theorem dX6_init_9 : decode cX6_init 9 = .ok (.putfield 9, 3) := by decide +kernel
theorem dX6_init_12 : decode cX6_init 12 = .ok (.aload_n 0, 1) := by decide +kernel
theorem dX6_init_13 : decode cX6_init 13 = .ok (.bipush 18, 2) := by decide +kernel
theorem dX6_init_15 : decode cX6_init 15 = .ok (.newarray .int, 2) := by decide +kernel
theorem dX6_init_17 : decode cX6_init 17 = .ok (.putfield 15, 3) := by decide +kernel
theorem dX6_init_20 : decode cX6_init 20 = .ok (.aload_n 0, 1) := by decide +kernel
theorem dX6_init_21 : decode cX6_init 21 = .ok (.bipush 18, 2) := by decide +kernel
theorem dX6_init_23 : decode cX6_init 23 = .ok (.newarray .int, 2) := by decide +kernel
theorem dX6_init_25 : decode cX6_init 25 = .ok (.putfield 18, 3) := by decide +kernel
theorem dX6_init_28 : decode cX6_init 28 = .ok (.aload_n 0, 1) := by decide +kernel
theorem dX6_init_29 : decode cX6_init 29 = .ok (.bipush 6, 2) := by decide +kernel
theorem dX6_init_31 : decode cX6_init 31 = .ok (.newarray .int, 2) := by decide +kernel
theorem dX6_init_33 : decode cX6_init 33 = .ok (.putfield 21, 3) := by decide +kernel
theorem dX6_init_36 : decode cX6_init 36 = .ok (.aload_n 0, 1) := by decide +kernel
theorem dX6_init_37 : decode cX6_init 37 = .ok (.bipush 6, 2) := by decide +kernel
theorem dX6_init_39 : decode cX6_init 39 = .ok (.newarray .int, 2) := by decide +kernel
theorem dX6_init_41 : decode cX6_init 41 = .ok (.putfield 24, 3) := by decide +kernel
theorem dX6_init_44 : decode cX6_init 44 = .ok (.return_, 1) := by decide +kernel
theorem dX7_init_0 : decode cX7_init 0 = .ok (.aload_n 0, 1) := by decide +kernel
theorem dX7_init_1 : decode cX7_init 1 = .ok (.invokespecial 3, 3) := by decide +kernel
theorem dX7_init_4 : decode cX7_init 4 = .ok (.aload_n 0, 1) := by decide +kernel
theorem dX7_init_5 : decode cX7_init 5 = .ok (.bipush 60, 2) := by decide +kernel
theorem dX7_init_7 : decode cX7_init 7 = .ok (.newarray .int, 2) := by decide +kernel
theorem dX7_init_9 : decode cX7_init 9 = .ok (.putfield 9, 3) := by decide +kernel
theorem dX7_init_12 : decode cX7_init 12 = .ok (.aload_n 0, 1) := by decide +kernel
theorem dX7_init_13 : decode cX7_init 13 = .ok (.bipush 60, 2) := by decide +kernel
theorem dX7_init_15 : decode cX7_init 15 = .ok (.newarray .int, 2) := by decide +kernel
theorem dX7_init_17 : decode cX7_init 17 = .ok (.putfield 15, 3) := by decide +kernel
theorem dX7_init_20 : decode cX7_init 20 = .ok (.aload_n 0, 1) := by decide +kernel
theorem dX7_init_21 : decode cX7_init 21 = .ok (.bipush 60, 2) := by decide +kernel
theorem dX7_init_23 : decode cX7_init 23 = .ok (.newarray .int, 2) := by decide +kernel
theorem dX7_init_25 : decode cX7_init 25 = .ok (.putfield 18, 3) := by decide +kernel
theorem dX7_init_28 : decode cX7_init 28 = .ok (.aload_n 0, 1) := by decide +kernel
theorem dX7_init_29 : decode cX7_init 29 = .ok (.sipush 401, 3) := by decide +kernel
theorem dX7_init_32 : decode cX7_init 32 = .ok (.newarray .int, 2) := by decide +kernel
theorem dX7_init_34 : decode cX7_init 34 = .ok (.putfield 21, 3) := by decide +kernel
theorem dX7_init_37 : decode cX7_init 37 = .ok (.return_, 1) := by decide +kernel
set_option maxRecDepth 20000 in
theorem ggX7_add_X9_isBelow : GoodIn wsX7_add wsX9_isBelow := goodIn_r _ [7] (by decide +kernel) (by decide +kernel)
set_option maxRecDepth 20000 in
theorem gX7_add_X9_isBelow_n28 : GoodIn wsX7_add (wsX9_isBelow) := ggX7_add_X9_isBelow
theorem dX7_add_0 : decode cX7_add 0 = .ok (.aload_n 0, 1) := by decide +kernel
theorem dX7_add_1 : decode cX7_add 1 = .ok (.getfield 24, 3) := by decide +kernel
theorem dX7_add_4 : decode cX7_add 4 = .ok (.bipush 60, 2) := by decide +kernel
theorem dX7_add_6 : decode cX7_add 6 = .ok (.invokestatic 28, 3) := by decide +kernel
theorem dX7_add_9 : decode cX7_add 9 = .ok (.ifCond .ne 7, 3) := by decide +kernel
theorem dX7_add_12 : decode cX7_add 12 = .ok (.sipush (-1004), 3) := by decide +kernel
theorem dX7_add_15 : decode cX7_add 15 = .ok (.ireturn, 1) := by decide +kernel
theorem dX7_add_16 : decode cX7_add 16 = .ok (.aload_n 0, 1) := by decide +kernel
theorem dX7_add_17 : decode cX7_add 17 = .ok (.getfield 9, 3) := by decide +kernel
theorem dX7_add_20 : decode cX7_add 20 = .ok (.aload_n 0, 1) := by decide +kernel
theorem dX7_add_21 : decode cX7_add 21 = .ok (.getfield 24, 3) := by decide +kernel
theorem dX7_add_24 : decode cX7_add 24 = .ok (.iload_n 1, 1) := by decide +kernel
theorem dX7_add_25 : decode cX7_add 25 = .ok (.iastore, 1) := by decide +kernel
theorem dX7_add_26 : decode cX7_add 26 = .ok (.aload_n 0, 1) := by decide +kernel
theorem dX7_add_27 : decode cX7_add 27 = .ok (.getfield 15, 3) := by decide +kernel
theorem dX7_add_30 : decode cX7_add 30 = .ok (.aload_n 0, 1) := by decide +kernel
theorem dX7_add_31 : decode cX7_add 31 = .ok (.getfield 24, 3) := by decide +kernel
theorem dX7_add_34 : decode cX7_add 34 = .ok (.iload_n 2, 1) := by decide +kernel
theorem dX7_add_35 : decode cX7_add 35 = .ok (.iastore, 1) := by decide +kernel
theorem dX7_add_36 : decode cX7_add 36 = .ok (.aload_n 0, 1) := by decide +kernel
theorem dX7_add_37 : decode cX7_add 37 = .ok (.getfield 18, 3) := by decide +kernel
theorem dX7_add_40 : decode cX7_add 40 = .ok (.aload_n 0, 1) := by decide +kernel
theorem dX7_add_41 : decode cX7_add 41 = .ok (.getfield 24, 3) := by decide +kernel
theorem dX7_add_44 : decode cX7_add 44 = .ok (.iload_n 3, 1) := by decide +kernel
theorem dX7_add_45 : decode cX7_add 45 = .ok (.iastore, 1) := by decide +kernel
theorem dX7_add_46 : decode cX7_add 46 = .ok (.aload_n 0, 1) := by decide +kernel
theorem dX7_add_47 : decode cX7_add 47 = .ok (.dup, 1) := by decide +kernel
theorem dX7_add_48 : decode cX7_add 48 = .ok (.getfield 24, 3) := by decide +kernel
theorem dX7_add_51 : decode cX7_add 51 = .ok (.iconst 1, 1) := by decide +kernel
theorem dX7_add_52 : decode cX7_add 52 = .ok (.iadd, 1) := by decide +kernel
theorem dX7_add_53 : decode cX7_add 53 = .ok (.putfield 24, 3) := by decide +kernel
theorem dX7_add_56 : decode cX7_add 56 = .ok (.aload_n 0, 1) := by decide +kernel
theorem dX7_add_57 : decode cX7_add 57 = .ok (.getfield 24, 3) := by decide +kernel
theorem dX7_add_60 : decode cX7_add 60 = .ok (.ireturn, 1) := by decide +kernel
set_option maxRecDepth 20000 in
theorem ggX7_spread_J7_fill_53178 : GoodIn wsX7_spread wsJ7_fill_53178 := goodIn_r _ [9] (by decide +kernel) (by decide +kernel)
set_option maxRecDepth 20000 in
theorem gX7_spread_J7_fill_53178 : GoodIn wsX7_spread (va_wsS RX7 32 yJ7_fill_53178 wsJ7_fill_53178) := goodIn_app (goodIn_of _ (by decide +kernel)) ggX7_spread_J7_fill_53178
set_option maxRecDepth 20000 in
theorem ggX7_spread_X7_spreadFrom : GoodIn wsX7_spread wsX7_spreadFrom := goodIn_r _ [14, 15, 16, 17, 18, 1, 19, 20, 21, 22, 23] (by decide +kernel) (by decide +kernel)
set_option maxRecDepth 20000 in
theorem gX7_spread_X7_spreadFrom : GoodIn wsX7_spread (wsV RX7 38 RX7 yX7_spreadFrom wsX7_spreadFrom) := goodIn_app (goodIn_of _ (by decide +kernel)) ggX7_spread_X7_spreadFrom
theorem dX7_spread_0 : decode cX7_spread 0 = .ok (.aload_n 2, 1) := by decide +kernel
theorem dX7_spread_1 : decode cX7_spread 1 = .ok (.iconst 0, 1) := by decide +kernel
theorem dX7_spread_2 : decode cX7_spread 2 = .ok (.invokestatic 32, 3) := by decide +kernel
theorem dX7_spread_5 : decode cX7_spread 5 = .ok (.aload_n 0, 1) := by decide +kernel
theorem dX7_spread_6 : decode cX7_spread 6 = .ok (.getfield 21, 3) := by decide +kernel
theorem dX7_spread_9 : decode cX7_spread 9 = .ok (.iconst (-1), 1) := by decide +kernel
theorem dX7_spread_10 : decode cX7_spread 10 = .ok (.invokestatic 32, 3) := by decide +kernel
theorem dX7_spread_13 : decode cX7_spread 13 = .ok (.iconst 0, 1) := by decide +kernel
theorem dX7_spread_14 : decode cX7_spread 14 = .ok (.istore_n 3, 1) := by decide +kernel
theorem dX7_spread_15 : decode cX7_spread 15 = .ok (.iload_n 3, 1) := by decide +kernel
theorem dX7_spread_16 : decode cX7_spread 16 = .ok (.aload_n 0, 1) := by decide +kernel
theorem dX7_spread_17 : decode cX7_spread 17 = .ok (.getfield 24, 3) := by decide +kernel
theorem dX7_spread_20 : decode cX7_spread 20 = .ok (.if_icmp .ge 42, 3) := by decide +kernel
theorem dX7_spread_23 : decode cX7_spread 23 = .ok (.iload_n 3, 1) := by decide +kernel
theorem dX7_spread_24 : decode cX7_spread 24 = .ok (.bipush 60, 2) := by decide +kernel
theorem dX7_spread_26 : decode cX7_spread 26 = .ok (.if_icmp .ge 36, 3) := by decide +kernel
theorem dX7_spread_29 : decode cX7_spread 29 = .ok (.aload_n 0, 1) := by decide +kernel
theorem dX7_spread_30 : decode cX7_spread 30 = .ok (.getfield 9, 3) := by decide +kernel
theorem dX7_spread_33 : decode cX7_spread 33 = .ok (.iload_n 3, 1) := by decide +kernel
theorem dX7_spread_34 : decode cX7_spread 34 = .ok (.iaload, 1) := by decide +kernel
theorem dX7_spread_35 : decode cX7_spread 35 = .ok (.iload_n 1, 1) := by decide +kernel
theorem dX7_spread_36 : decode cX7_spread 36 = .ok (.if_icmp .ne 20, 3) := by decide +kernel
theorem dX7_spread_39 : decode cX7_spread 39 = .ok (.aload_n 0, 1) := by decide +kernel
theorem dX7_spread_40 : decode cX7_spread 40 = .ok (.aload_n 0, 1) := by decide +kernel
theorem dX7_spread_41 : decode cX7_spread 41 = .ok (.getfield 15, 3) := by decide +kernel
theorem dX7_spread_44 : decode cX7_spread 44 = .ok (.iload_n 3, 1) := by decide +kernel
theorem dX7_spread_45 : decode cX7_spread 45 = .ok (.iaload, 1) := by decide +kernel
theorem dX7_spread_46 : decode cX7_spread 46 = .ok (.aload_n 0, 1) := by decide +kernel
theorem dX7_spread_47 : decode cX7_spread 47 = .ok (.getfield 18, 3) := by decide +kernel
theorem dX7_spread_50 : decode cX7_spread 50 = .ok (.iload_n 3, 1) := by decide +kernel
theorem dX7_spread_51 : decode cX7_spread 51 = .ok (.iaload, 1) := by decide +kernel
theorem dX7_spread_52 : decode cX7_spread 52 = .ok (.aload_n 2, 1) := by decide +kernel
theorem dX7_spread_53 : decode cX7_spread 53 = .ok (.invokevirtual 38, 3) := by decide +kernel
theorem dX7_spread_56 : decode cX7_spread 56 = .ok (.iinc 3 1, 3) := by decide +kernel
theorem dX7_spread_59 : decode cX7_spread 59 = .ok (.goto (-44), 3) := by decide +kernel
theorem dX7_spread_62 : decode cX7_spread 62 = .ok (.return_, 1) := by decide +kernel
theorem dX7_spreadFrom_0 : decode cX7_spreadFrom 0 = .ok (.iload_n 1, 1) := by decide +kernel
theorem dX7_spreadFrom_1 : decode cX7_spreadFrom 1 = .ok (.iconst 0, 1) := by decide +kernel
theorem dX7_spreadFrom_2 : decode cX7_spreadFrom 2 = .ok (.invokestatic 42, 3) := by decide +kernel
theorem dX7_spreadFrom_5 : decode cX7_spreadFrom 5 = .ok (.istore 4, 2) := by decide +kernel
theorem dX7_spreadFrom_7 : decode cX7_spreadFrom 7 = .ok (.iload 4, 2) := by decide +kernel
theorem dX7_spreadFrom_9 : decode cX7_spreadFrom 9 = .ok (.sipush 401, 3) := by decide +kernel
theorem dX7_spreadFrom_12 : decode cX7_spreadFrom 12 = .ok (.if_icmp .ge 40, 3) := by decide +kernel
theorem dX7_spreadFrom_15 : decode cX7_spreadFrom 15 = .ok (.iload 4, 2) := by decide +kernel
theorem dX7_spreadFrom_17 : decode cX7_spreadFrom 17 = .ok (.aload_n 3, 1) := by decide +kernel
theorem dX7_spreadFrom_18 : decode cX7_spreadFrom 18 = .ok (.arraylength, 1) := by decide +kernel
theorem dX7_spreadFrom_19 : decode cX7_spreadFrom 19 = .ok (.if_icmp .ge 33, 3) := by decide +kernel
theorem dX7_spreadFrom_22 : decode cX7_spreadFrom 22 = .ok (.aload_n 0, 1) := by decide +kernel
theorem dX7_spreadFrom_23 : decode cX7_spreadFrom 23 = .ok (.getfield 21, 3) := by decide +kernel
theorem dX7_spreadFrom_26 : decode cX7_spreadFrom 26 = .ok (.iload 4, 2) := by decide +kernel
theorem dX7_spreadFrom_28 : decode cX7_spreadFrom 28 = .ok (.iaload, 1) := by decide +kernel
theorem dX7_spreadFrom_29 : decode cX7_spreadFrom 29 = .ok (.iload_n 1, 1) := by decide +kernel
theorem dX7_spreadFrom_30 : decode cX7_spreadFrom 30 = .ok (.if_icmp .gt 16, 3) := by decide +kernel
theorem dX7_spreadFrom_33 : decode cX7_spreadFrom 33 = .ok (.aload_n 0, 1) := by decide +kernel
theorem dX7_spreadFrom_34 : decode cX7_spreadFrom 34 = .ok (.getfield 21, 3) := by decide +kernel
theorem dX7_spreadFrom_37 : decode cX7_spreadFrom 37 = .ok (.iload 4, 2) := by decide +kernel
theorem dX7_spreadFrom_39 : decode cX7_spreadFrom 39 = .ok (.iload_n 1, 1) := by decide +kernel
theorem dX7_spreadFrom_40 : decode cX7_spreadFrom 40 = .ok (.iastore, 1) := by decide +kernel
theorem dX7_spreadFrom_41 : decode cX7_spreadFrom 41 = .ok (.aload_n 3, 1) := by decide +kernel
theorem dX7_spreadFrom_42 : decode cX7_spreadFrom 42 = .ok (.iload 4, 2) := by decide +kernel
theorem dX7_spreadFrom_44 : decode cX7_spreadFrom 44 = .ok (.iload_n 2, 1) := by decide +kernel
theorem dX7_spreadFrom_45 : decode cX7_spreadFrom 45 = .ok (.iastore, 1) := by decide +kernel
theorem dX7_spreadFrom_46 : decode cX7_spreadFrom 46 = .ok (.iinc 4 1, 3) := by decide +kernel
theorem dX7_spreadFrom_49 : decode cX7_spreadFrom 49 = .ok (.goto (-42), 3) := by decide +kernel
theorem dX7_spreadFrom_52 : decode cX7_spreadFrom 52 = .ok (.return_, 1) := by decide +kernel
theorem dX8_init_0 : decode cX8_init 0 = .ok (.aload_n 0, 1) := by decide +kernel
theorem dX8_init_1 : decode cX8_init 1 = .ok (.invokespecial 3, 3) := by decide +kernel
theorem dX8_init_4 : decode cX8_init 4 = .ok (.aload_n 0, 1) := by decide +kernel
theorem dX8_init_5 : decode cX8_init 5 = .ok (.bipush 20, 2) := by decide +kernel
theorem dX8_init_7 : decode cX8_init 7 = .ok (.newarray .int, 2) := by decide +kernel
theorem dX8_init_9 : decode cX8_init 9 = .ok (.putfield 9, 3) := by decide +kernel
theorem dX8_init_12 : decode cX8_init 12 = .ok (.aload_n 0, 1) := by decide +kernel
theorem dX8_init_13 : decode cX8_init 13 = .ok (.bipush 20, 2) := by decide +kernel
theorem dX8_init_15 : decode cX8_init 15 = .ok (.newarray .int, 2) := by decide +kernel
theorem dX8_init_17 : decode cX8_init 17 = .ok (.putfield 15, 3) := by decide +kernel
theorem dX8_init_20 : decode cX8_init 20 = .ok (.aload_n 0, 1) := by decide +kernel
theorem dX8_init_21 : decode cX8_init 21 = .ok (.bipush 20, 2) := by decide +kernel
theorem dX8_init_23 : decode cX8_init 23 = .ok (.newarray .int, 2) := by decide +kernel
theorem dX8_init_25 : decode cX8_init 25 = .ok (.putfield 18, 3) := by decide +kernel
theorem dX8_init_28 : decode cX8_init 28 = .ok (.aload_n 0, 1) := by decide +kernel
theorem dX8_init_29 : decode cX8_init 29 = .ok (.bipush 20, 2) := by decide +kernel
theorem dX8_init_31 : decode cX8_init 31 = .ok (.newarray .int, 2) := by decide +kernel
theorem dX8_init_33 : decode cX8_init 33 = .ok (.putfield 21, 3) := by decide +kernel
theorem dX8_init_36 : decode cX8_init 36 = .ok (.aload_n 0, 1) := by decide +kernel
theorem dX8_init_37 : decode cX8_init 37 = .ok (.bipush 20, 2) := by decide +kernel
theorem dX8_init_39 : decode cX8_init 39 = .ok (.newarray .int, 2) := by decide +kernel
theorem dX8_init_41 : decode cX8_init 41 = .ok (.putfield 24, 3) := by decide +kernel
theorem dX8_init_44 : decode cX8_init 44 = .ok (.return_, 1) := by decide +kernel
theorem dX8_countPieces_0 : decode cX8_countPieces 0 = .ok (.iconst 0, 1) := by decide +kernel
theorem dX8_countPieces_1 : decode cX8_countPieces 1 = .ok (.istore_n 1, 1) := by decide +kernel
theorem dX8_countPieces_2 : decode cX8_countPieces 2 = .ok (.iconst 0, 1) := by decide +kernel
theorem dX8_countPieces_3 : decode cX8_countPieces 3 = .ok (.istore_n 2, 1) := by decide +kernel
theorem dX8_countPieces_4 : decode cX8_countPieces 4 = .ok (.iload_n 2, 1) := by decide +kernel
theorem dX8_countPieces_5 : decode cX8_countPieces 5 = .ok (.aload_n 0, 1) := by decide +kernel
theorem dX8_countPieces_6 : decode cX8_countPieces 6 = .ok (.getfield 27, 3) := by decide +kernel
theorem dX8_countPieces_9 : decode cX8_countPieces 9 = .ok (.if_icmp .ge 24, 3) := by decide +kernel
theorem dX8_countPieces_12 : decode cX8_countPieces 12 = .ok (.iload_n 2, 1) := by decide +kernel
theorem dX8_countPieces_13 : decode cX8_countPieces 13 = .ok (.bipush 20, 2) := by decide +kernel
theorem dX8_countPieces_15 : decode cX8_countPieces 15 = .ok (.if_icmp .ge 18, 3) := by decide +kernel
theorem dX8_countPieces_18 : decode cX8_countPieces 18 = .ok (.iload_n 1, 1) := by decide +kernel
theorem dX8_countPieces_19 : decode cX8_countPieces 19 = .ok (.aload_n 0, 1) := by decide +kernel
theorem dX8_countPieces_20 : decode cX8_countPieces 20 = .ok (.getfield 24, 3) := by decide +kernel
theorem dX8_countPieces_23 : decode cX8_countPieces 23 = .ok (.iload_n 2, 1) := by decide +kernel
theorem dX8_countPieces_24 : decode cX8_countPieces 24 = .ok (.iaload, 1) := by decide +kernel
theorem dX8_countPieces_25 : decode cX8_countPieces 25 = .ok (.iadd, 1) := by decide +kernel
theorem dX8_countPieces_26 : decode cX8_countPieces 26 = .ok (.istore_n 1, 1) := by decide +kernel
theorem dX8_countPieces_27 : decode cX8_countPieces 27 = .ok (.iinc 2 1, 3) := by decide +kernel
theorem dX8_countPieces_30 : decode cX8_countPieces 30 = .ok (.goto (-26), 3) := by decide +kernel
theorem dX8_countPieces_33 : decode cX8_countPieces 33 = .ok (.iload_n 1, 1) := by decide +kernel
theorem dX8_countPieces_34 : decode cX8_countPieces 34 = .ok (.ireturn, 1) := by decide +kernel
set_option maxRecDepth 20000 in
theorem ggX9_init_X3_init : GoodIn wsX9_init wsX3_init := goodIn_r _ [36, 37, 2, 3, 24, 38, 39, 40, 41, 42, 43, 44, 45, 46, 47, 48, 49, 50, 51, 52, 53, 54, 55, 56, 57, 58, 59, 60, 119, 120, 121, 122, 123, 124, 125, 126, 127, 128, 179, 180, 181, 182, 183] (by decide +kernel) (by decide +kernel)
set_option maxRecDepth 20000 in
theorem gX9_init_X3_init : GoodIn wsX9_init (wsX3_init) := ggX9_init_X3_init
set_option maxRecDepth 20000 in
theorem ggX9_init_X0_init : GoodIn wsX9_init wsX0_init := goodIn_r _ [62, 63, 2, 3, 24, 64, 65, 66, 67, 137, 138, 139, 140] (by decide +kernel) (by decide +kernel)
set_option maxRecDepth 20000 in
theorem gX9_init_X0_init_n18 : GoodIn wsX9_init (wsX0_init) := ggX9_init_X0_init
set_option maxRecDepth 20000 in
theorem ggX9_init_X2_init : GoodIn wsX9_init wsX2_init := goodIn_r _ [69, 70, 2, 3, 24, 71, 72, 73, 74, 75, 76, 77, 141, 142, 143, 144, 145, 146, 147, 148, 149, 150] (by decide +kernel) (by decide +kernel)
set_option maxRecDepth 20000 in
theorem gX9_init_X2_init_n25 : GoodIn wsX9_init (wsX2_init) := ggX9_init_X2_init
set_option maxRecDepth 20000 in
theorem ggX9_init_X1_init : GoodIn wsX9_init wsX1_init := goodIn_r _ [79, 80, 2, 3, 81, 151, 152] (by decide +kernel) (by decide +kernel)
set_option maxRecDepth 20000 in
theorem gX9_init_X1_init_n32 : GoodIn wsX9_init (wsX1_init) := ggX9_init_X1_init
set_option maxRecDepth 20000 in
theorem ggX9_init_X5_init : GoodIn wsX9_init wsX5_init := goodIn_r _ [83, 84, 2, 3, 24, 85, 86, 87, 88, 89, 90, 91, 92, 93, 94, 95, 96, 97, 98, 99, 153, 154, 155, 156, 157, 158, 159, 184, 185, 186, 187, 188, 189] (by decide +kernel) (by decide +kernel)
set_option maxRecDepth 20000 in
theorem gX9_init_X5_init_n39 : GoodIn wsX9_init (wsX5_init) := ggX9_init_X5_init
set_option maxRecDepth 20000 in
theorem ggX9_init_X4_init : GoodIn wsX9_init wsX4_init := goodIn_r _ [101, 102, 2, 3, 24, 103, 104, 105, 106, 107, 108, 109, 110, 160, 161, 162, 163, 164, 165, 166, 167, 168, 169, 170, 171, 172] (by decide +kernel) (by decide +kernel)
set_option maxRecDepth 20000 in
theorem gX9_init_X4_init_n50 : GoodIn wsX9_init (wsX4_init) := ggX9_init_X4_init
set_option maxRecDepth 20000 in
theorem ggX9_init_X8_init : GoodIn wsX9_init wsX8_init := goodIn_r _ [112, 113, 2, 3, 24, 114, 115, 116, 117, 118, 173, 174, 175, 176, 177, 178] (by decide +kernel) (by decide +kernel)
set_option maxRecDepth 20000 in
theorem gX9_init_X8_init_n57 : GoodIn wsX9_init (wsX8_init) := ggX9_init_X8_init
theorem dX9_init_0 : decode cX9_init 0 = .ok (.aload_n 0, 1) := by decide +kernel
theorem dX9_init_1 : decode cX9_init 1 = .ok (.invokespecial 3, 3) := by decide +kernel
theorem dX9_init_4 : decode cX9_init 4 = .ok (.aload_n 0, 1) := by decide +kernel
theorem dX9_init_5 : decode cX9_init 5 = .ok (.new 9, 3) := by decide +kernel
theorem dX9_init_8 : decode cX9_init 8 = .ok (.dup, 1) := by decide +kernel
theorem dX9_init_9 : decode cX9_init 9 = .ok (.invokespecial 11, 3) := by decide +kernel
theorem dX9_init_12 : decode cX9_init 12 = .ok (.putfield 12, 3) := by decide +kernel
theorem dX9_init_15 : decode cX9_init 15 = .ok (.aload_n 0, 1) := by decide +kernel
theorem dX9_init_16 : decode cX9_init 16 = .ok (.new 16, 3) := by decide +kernel
theorem dX9_init_19 : decode cX9_init 19 = .ok (.dup, 1) := by decide +kernel
theorem dX9_init_20 : decode cX9_init 20 = .ok (.invokespecial 18, 3) := by decide +kernel
theorem dX9_init_23 : decode cX9_init 23 = .ok (.putfield 19, 3) := by decide +kernel
theorem dX9_init_26 : decode cX9_init 26 = .ok (.aload_n 0, 1) := by decide +kernel
theorem dX9_init_27 : decode cX9_init 27 = .ok (.new 23, 3) := by decide +kernel
theorem dX9_init_30 : decode cX9_init 30 = .ok (.dup, 1) := by decide +kernel
theorem dX9_init_31 : decode cX9_init 31 = .ok (.invokespecial 25, 3) := by decide +kernel
theorem dX9_init_34 : decode cX9_init 34 = .ok (.putfield 26, 3) := by decide +kernel
theorem dX9_init_37 : decode cX9_init 37 = .ok (.aload_n 0, 1) := by decide +kernel
theorem dX9_init_38 : decode cX9_init 38 = .ok (.new 30, 3) := by decide +kernel
theorem dX9_init_41 : decode cX9_init 41 = .ok (.dup, 1) := by decide +kernel
theorem dX9_init_42 : decode cX9_init 42 = .ok (.invokespecial 32, 3) := by decide +kernel
theorem dX9_init_45 : decode cX9_init 45 = .ok (.putfield 33, 3) := by decide +kernel
theorem dX9_init_48 : decode cX9_init 48 = .ok (.aload_n 0, 1) := by decide +kernel
theorem dX9_init_49 : decode cX9_init 49 = .ok (.new 37, 3) := by decide +kernel
theorem dX9_init_52 : decode cX9_init 52 = .ok (.dup, 1) := by decide +kernel
theorem dX9_init_53 : decode cX9_init 53 = .ok (.invokespecial 39, 3) := by decide +kernel
theorem dX9_init_56 : decode cX9_init 56 = .ok (.putfield 40, 3) := by decide +kernel
theorem dX9_init_59 : decode cX9_init 59 = .ok (.aload_n 0, 1) := by decide +kernel
theorem dX9_init_60 : decode cX9_init 60 = .ok (.bipush 7, 2) := by decide +kernel
theorem dX9_init_62 : decode cX9_init 62 = .ok (.newarray .int, 2) := by decide +kernel
theorem dX9_init_64 : decode cX9_init 64 = .ok (.putfield 44, 3) := by decide +kernel
theorem dX9_init_67 : decode cX9_init 67 = .ok (.aload_n 0, 1) := by decide +kernel
theorem dX9_init_68 : decode cX9_init 68 = .ok (.new 48, 3) := by decide +kernel
theorem dX9_init_71 : decode cX9_init 71 = .ok (.dup, 1) := by decide +kernel
theorem dX9_init_72 : decode cX9_init 72 = .ok (.invokespecial 50, 3) := by decide +kernel
theorem dX9_init_75 : decode cX9_init 75 = .ok (.putfield 51, 3) := by decide +kernel
theorem dX9_init_78 : decode cX9_init 78 = .ok (.aload_n 0, 1) := by decide +kernel
theorem dX9_init_79 : decode cX9_init 79 = .ok (.new 55, 3) := by decide +kernel
theorem dX9_init_82 : decode cX9_init 82 = .ok (.dup, 1) := by decide +kernel
theorem dX9_init_83 : decode cX9_init 83 = .ok (.invokespecial 57, 3) := by decide +kernel
theorem dX9_init_86 : decode cX9_init 86 = .ok (.putfield 58, 3) := by decide +kernel
theorem dX9_init_89 : decode cX9_init 89 = .ok (.return_, 1) := by decide +kernel
set_option maxRecDepth 20000 in
theorem ggX9_block_X9_isBelow : GoodIn wsX9_block wsX9_isBelow := goodIn_r _ [5] (by decide +kernel) (by decide +kernel)
set_option maxRecDepth 20000 in
theorem gX9_block_X9_isBelow : GoodIn wsX9_block (va_wsS RX9 62 yX9_isBelow wsX9_isBelow) := goodIn_app (goodIn_of _ (by decide +kernel)) ggX9_block_X9_isBelow
set_option maxRecDepth 20000 in
theorem ggX9_block_X3_addBlock : GoodIn wsX9_block wsX3_addBlock := goodIn_r _ [10, 11, 12, 13, 14, 3, 4, 5, 23, 24, 25, 26, 27, 28, 29, 30, 31, 32] (by decide +kernel) (by decide +kernel)
set_option maxRecDepth 20000 in
theorem gX9_block_X3_addBlock : GoodIn wsX9_block (wsV RX9 66 RX3 yX3_addBlock wsX3_addBlock) := goodIn_app (goodIn_of _ (by decide +kernel)) ggX9_block_X3_addBlock
theorem dX9_block_0 : decode cX9_block 0 = .ok (.iload_n 1, 1) := by decide +kernel
theorem dX9_block_1 : decode cX9_block 1 = .ok (.iconst 4, 1) := by decide +kernel
theorem dX9_block_2 : decode cX9_block 2 = .ok (.invokestatic 62, 3) := by decide +kernel
theorem dX9_block_5 : decode cX9_block 5 = .ok (.ifCond .eq 25, 3) := by decide +kernel
theorem dX9_block_8 : decode cX9_block 8 = .ok (.iload_n 2, 1) := by decide +kernel
theorem dX9_block_9 : decode cX9_block 9 = .ok (.sipush 401, 3) := by decide +kernel
theorem dX9_block_12 : decode cX9_block 12 = .ok (.invokestatic 62, 3) := by decide +kernel
theorem dX9_block_15 : decode cX9_block 15 = .ok (.ifCond .eq 15, 3) := by decide +kernel
theorem dX9_block_18 : decode cX9_block 18 = .ok (.iload_n 3, 1) := by decide +kernel
theorem dX9_block_19 : decode cX9_block 19 = .ok (.iconst 1, 1) := by decide +kernel
theorem dX9_block_20 : decode cX9_block 20 = .ok (.if_icmp .lt 10, 3) := by decide +kernel
theorem dX9_block_23 : decode cX9_block 23 = .ok (.iload_n 3, 1) := by decide +kernel
theorem dX9_block_24 : decode cX9_block 24 = .ok (.sipush 2000, 3) := by decide +kernel
theorem dX9_block_27 : decode cX9_block 27 = .ok (.if_icmp .le 7, 3) := by decide +kernel
theorem dX9_block_30 : decode cX9_block 30 = .ok (.sipush (-1002), 3) := by decide +kernel
theorem dX9_block_33 : decode cX9_block 33 = .ok (.ireturn, 1) := by decide +kernel
theorem dX9_block_34 : decode cX9_block 34 = .ok (.aload_n 0, 1) := by decide +kernel
theorem dX9_block_35 : decode cX9_block 35 = .ok (.getfield 12, 3) := by decide +kernel
theorem dX9_block_38 : decode cX9_block 38 = .ok (.iload_n 1, 1) := by decide +kernel
theorem dX9_block_39 : decode cX9_block 39 = .ok (.iload_n 2, 1) := by decide +kernel
theorem dX9_block_40 : decode cX9_block 40 = .ok (.iload_n 3, 1) := by decide +kernel
theorem dX9_block_41 : decode cX9_block 41 = .ok (.invokevirtual 66, 3) := by decide +kernel
theorem dX9_block_44 : decode cX9_block 44 = .ok (.ireturn, 1) := by decide +kernel
set_option maxRecDepth 20000 in
theorem ggX9_place_X3_hasBlock : GoodIn wsX9_place wsX3_hasBlock := goodIn_r _ [6, 7, 8, 9, 10, 35, 36, 37, 38, 39, 40, 41, 42, 43, 44] (by decide +kernel) (by decide +kernel)
set_option maxRecDepth 20000 in
theorem gX9_place_X3_hasBlock : GoodIn wsX9_place (wsV RX9 70 RX3 yX3_hasBlock wsX3_hasBlock) := goodIn_app (goodIn_of _ (by decide +kernel)) ggX9_place_X3_hasBlock
set_option maxRecDepth 20000 in
theorem ggX9_place_X9_isBelow : GoodIn wsX9_place wsX9_isBelow := goodIn_r _ [10] (by decide +kernel) (by decide +kernel)
set_option maxRecDepth 20000 in
theorem gX9_place_X9_isBelow : GoodIn wsX9_place (va_wsS RX9 62 yX9_isBelow wsX9_isBelow) := goodIn_app (goodIn_of _ (by decide +kernel)) ggX9_place_X9_isBelow
set_option maxRecDepth 20000 in
theorem ggX9_place_X9_isSpot : GoodIn wsX9_place wsX9_isSpot := goodIn_r _ [14, 11, 8, 9, 10] (by decide +kernel) (by decide +kernel)
set_option maxRecDepth 20000 in
theorem gX9_place_X9_isSpot : GoodIn wsX9_place (va_wsS RX9 74 yX9_isSpot wsX9_isSpot) := goodIn_app (goodIn_of _ (by decide +kernel)) ggX9_place_X9_isSpot
set_option maxRecDepth 20000 in
theorem ggX9_place_X9_spot : GoodIn wsX9_place wsX9_spot := goodIn_r _ [17] (by decide +kernel) (by decide +kernel)
set_option maxRecDepth 20000 in
theorem gX9_place_X9_spot : GoodIn wsX9_place (va_wsS RX9 81 yX9_spot wsX9_spot) := goodIn_app (goodIn_of _ (by decide +kernel)) ggX9_place_X9_spot
set_option maxRecDepth 20000 in
theorem ggX9_place_X7_add : GoodIn wsX9_place wsX7_add := goodIn_r _ [22, 23, 24, 25, 26, 8, 9, 10, 45, 46, 47, 48, 49] (by decide +kernel) (by decide +kernel)
set_option maxRecDepth 20000 in
theorem gX9_place_X7_add : GoodIn wsX9_place (wsV RX9 85 RX7 yX7_add wsX7_add) := goodIn_app (goodIn_of _ (by decide +kernel)) ggX9_place_X7_add
theorem dX9_place_0 : decode cX9_place 0 = .ok (.aload_n 0, 1) := by decide +kernel
theorem dX9_place_1 : decode cX9_place 1 = .ok (.getfield 12, 3) := by decide +kernel
theorem dX9_place_4 : decode cX9_place 4 = .ok (.iload_n 1, 1) := by decide +kernel
theorem dX9_place_5 : decode cX9_place 5 = .ok (.invokevirtual 70, 3) := by decide +kernel
theorem dX9_place_8 : decode cX9_place 8 = .ok (.ifCond .ne 7, 3) := by decide +kernel
theorem dX9_place_11 : decode cX9_place 11 = .ok (.sipush (-1001), 3) := by decide +kernel
theorem dX9_place_14 : decode cX9_place 14 = .ok (.ireturn, 1) := by decide +kernel
theorem dX9_place_15 : decode cX9_place 15 = .ok (.iload_n 2, 1) := by decide +kernel
theorem dX9_place_16 : decode cX9_place 16 = .ok (.sipush 401, 3) := by decide +kernel
theorem dX9_place_19 : decode cX9_place 19 = .ok (.invokestatic 62, 3) := by decide +kernel
theorem dX9_place_22 : decode cX9_place 22 = .ok (.ifCond .eq 22, 3) := by decide +kernel
theorem dX9_place_25 : decode cX9_place 25 = .ok (.iload_n 3, 1) := by decide +kernel
theorem dX9_place_26 : decode cX9_place 26 = .ok (.iload 4, 2) := by decide +kernel
theorem dX9_place_28 : decode cX9_place 28 = .ok (.invokestatic 74, 3) := by decide +kernel
theorem dX9_place_31 : decode cX9_place 31 = .ok (.ifCond .eq 13, 3) := by decide +kernel
theorem dX9_place_34 : decode cX9_place 34 = .ok (.iload 5, 2) := by decide +kernel
theorem dX9_place_36 : decode cX9_place 36 = .ok (.bipush 8, 2) := by decide +kernel
theorem dX9_place_38 : decode cX9_place 38 = .ok (.invokestatic 62, 3) := by decide +kernel
theorem dX9_place_41 : decode cX9_place 41 = .ok (.ifCond .ne 7, 3) := by decide +kernel
theorem dX9_place_44 : decode cX9_place 44 = .ok (.sipush (-1002), 3) := by decide +kernel
theorem dX9_place_47 : decode cX9_place 47 = .ok (.ireturn, 1) := by decide +kernel
theorem dX9_place_48 : decode cX9_place 48 = .ok (.aload_n 0, 1) := by decide +kernel
theorem dX9_place_49 : decode cX9_place 49 = .ok (.getfield 12, 3) := by decide +kernel
theorem dX9_place_52 : decode cX9_place 52 = .ok (.getfield 77, 3) := by decide +kernel
theorem dX9_place_55 : decode cX9_place 55 = .ok (.iload_n 1, 1) := by decide +kernel
theorem dX9_place_56 : decode cX9_place 56 = .ok (.iload_n 2, 1) := by decide +kernel
theorem dX9_place_57 : decode cX9_place 57 = .ok (.iload 5, 2) := by decide +kernel
theorem dX9_place_59 : decode cX9_place 59 = .ok (.bipush 16, 2) := by decide +kernel
theorem dX9_place_61 : decode cX9_place 61 = .ok (.imul, 1) := by decide +kernel
theorem dX9_place_62 : decode cX9_place 62 = .ok (.iload_n 3, 1) := by decide +kernel
theorem dX9_place_63 : decode cX9_place 63 = .ok (.iload 4, 2) := by decide +kernel
theorem dX9_place_65 : decode cX9_place 65 = .ok (.invokestatic 81, 3) := by decide +kernel
theorem dX9_place_68 : decode cX9_place 68 = .ok (.iadd, 1) := by decide +kernel
theorem dX9_place_69 : decode cX9_place 69 = .ok (.invokevirtual 85, 3) := by decide +kernel
theorem dX9_place_72 : decode cX9_place 72 = .ok (.ireturn, 1) := by decide +kernel
set_option maxRecDepth 20000 in
theorem ggX9_mortar_X3_hasBlock : GoodIn wsX9_mortar wsX3_hasBlock := goodIn_r _ [6, 7, 8, 9, 10, 29, 30, 31, 32, 33, 34, 35, 36, 37, 38] (by decide +kernel) (by decide +kernel)
set_option maxRecDepth 20000 in
theorem gX9_mortar_X3_hasBlock : GoodIn wsX9_mortar (wsV RX9 70 RX3 yX3_hasBlock wsX3_hasBlock) := goodIn_app (goodIn_of _ (by decide +kernel)) ggX9_mortar_X3_hasBlock
set_option maxRecDepth 20000 in
theorem ggX9_mortar_X9_isBelow : GoodIn wsX9_mortar wsX9_isBelow := goodIn_r _ [10] (by decide +kernel) (by decide +kernel)
set_option maxRecDepth 20000 in
theorem gX9_mortar_X9_isBelow : GoodIn wsX9_mortar (va_wsS RX9 62 yX9_isBelow wsX9_isBelow) := goodIn_app (goodIn_of _ (by decide +kernel)) ggX9_mortar_X9_isBelow
set_option maxRecDepth 20000 in
theorem ggX9_mortar_X7_add : GoodIn wsX9_mortar wsX7_add := goodIn_r _ [16, 17, 18, 19, 20, 8, 9, 10, 39, 40, 41, 42, 43] (by decide +kernel) (by decide +kernel)
set_option maxRecDepth 20000 in
theorem gX9_mortar_X7_add : GoodIn wsX9_mortar (wsV RX9 85 RX7 yX7_add wsX7_add) := goodIn_app (goodIn_of _ (by decide +kernel)) ggX9_mortar_X7_add
theorem dX9_mortar_0 : decode cX9_mortar 0 = .ok (.aload_n 0, 1) := by decide +kernel
theorem dX9_mortar_1 : decode cX9_mortar 1 = .ok (.getfield 12, 3) := by decide +kernel
theorem dX9_mortar_4 : decode cX9_mortar 4 = .ok (.iload_n 1, 1) := by decide +kernel
theorem dX9_mortar_5 : decode cX9_mortar 5 = .ok (.invokevirtual 70, 3) := by decide +kernel
theorem dX9_mortar_8 : decode cX9_mortar 8 = .ok (.ifCond .ne 7, 3) := by decide +kernel
theorem dX9_mortar_11 : decode cX9_mortar 11 = .ok (.sipush (-1001), 3) := by decide +kernel
theorem dX9_mortar_14 : decode cX9_mortar 14 = .ok (.ireturn, 1) := by decide +kernel
theorem dX9_mortar_15 : decode cX9_mortar 15 = .ok (.iload_n 2, 1) := by decide +kernel
theorem dX9_mortar_16 : decode cX9_mortar 16 = .ok (.sipush 401, 3) := by decide +kernel
theorem dX9_mortar_19 : decode cX9_mortar 19 = .ok (.invokestatic 62, 3) := by decide +kernel
theorem dX9_mortar_22 : decode cX9_mortar 22 = .ok (.ifCond .ne 7, 3) := by decide +kernel
theorem dX9_mortar_25 : decode cX9_mortar 25 = .ok (.sipush (-1002), 3) := by decide +kernel
theorem dX9_mortar_28 : decode cX9_mortar 28 = .ok (.ireturn, 1) := by decide +kernel
theorem dX9_mortar_29 : decode cX9_mortar 29 = .ok (.aload_n 0, 1) := by decide +kernel
theorem dX9_mortar_30 : decode cX9_mortar 30 = .ok (.getfield 12, 3) := by decide +kernel
theorem dX9_mortar_33 : decode cX9_mortar 33 = .ok (.getfield 90, 3) := by decide +kernel
theorem dX9_mortar_36 : decode cX9_mortar 36 = .ok (.iload_n 1, 1) := by decide +kernel
theorem dX9_mortar_37 : decode cX9_mortar 37 = .ok (.iload_n 2, 1) := by decide +kernel
theorem dX9_mortar_38 : decode cX9_mortar 38 = .ok (.iload_n 3, 1) := by decide +kernel
theorem dX9_mortar_39 : decode cX9_mortar 39 = .ok (.ifCond .eq 7, 3) := by decide +kernel
theorem dX9_mortar_42 : decode cX9_mortar 42 = .ok (.iconst 1, 1) := by decide +kernel
theorem dX9_mortar_43 : decode cX9_mortar 43 = .ok (.goto 4, 3) := by decide +kernel
theorem dX9_mortar_46 : decode cX9_mortar 46 = .ok (.iconst 0, 1) := by decide +kernel
theorem dX9_mortar_47 : decode cX9_mortar 47 = .ok (.invokevirtual 85, 3) := by decide +kernel
theorem dX9_mortar_50 : decode cX9_mortar 50 = .ok (.ireturn, 1) := by decide +kernel
set_option maxRecDepth 20000 in
theorem ggX9_rate_X9_isBelow : GoodIn wsX9_rate wsX9_isBelow := goodIn_r _ [5] (by decide +kernel) (by decide +kernel)
set_option maxRecDepth 20000 in
theorem gX9_rate_X9_isBelow : GoodIn wsX9_rate (va_wsS RX9 62 yX9_isBelow wsX9_isBelow) := goodIn_app (goodIn_of _ (by decide +kernel)) ggX9_rate_X9_isBelow
set_option maxRecDepth 20000 in
theorem ggX9_rate_X9_isSpot : GoodIn wsX9_rate wsX9_isSpot := goodIn_r _ [8, 2, 3, 4, 5] (by decide +kernel) (by decide +kernel)
set_option maxRecDepth 20000 in
theorem gX9_rate_X9_isSpot : GoodIn wsX9_rate (va_wsS RX9 74 yX9_isSpot wsX9_isSpot) := goodIn_app (goodIn_of _ (by decide +kernel)) ggX9_rate_X9_isSpot
set_option maxRecDepth 20000 in
theorem ggX9_rate_X9_spot : GoodIn wsX9_rate wsX9_spot := goodIn_r _ [11] (by decide +kernel) (by decide +kernel)
set_option maxRecDepth 20000 in
theorem gX9_rate_X9_spot : GoodIn wsX9_rate (va_wsS RX9 81 yX9_spot wsX9_spot) := goodIn_app (goodIn_of _ (by decide +kernel)) ggX9_rate_X9_spot
set_option maxRecDepth 20000 in
theorem ggX9_rate_X3_changeRate : GoodIn wsX9_rate wsX3_changeRate := goodIn_r _ [16, 17, 18, 4, 19, 3, 5, 28, 29, 30, 31, 32, 33, 34, 35, 36, 37] (by decide +kernel) (by decide +kernel)
set_option maxRecDepth 20000 in
theorem gX9_rate_X3_changeRate : GoodIn wsX9_rate (wsV RX9 93 RX3 yX3_changeRate wsX3_changeRate) := goodIn_app (goodIn_of _ (by decide +kernel)) ggX9_rate_X3_changeRate
theorem dX9_rate_0 : decode cX9_rate 0 = .ok (.iload_n 1, 1) := by decide +kernel
theorem dX9_rate_1 : decode cX9_rate 1 = .ok (.iconst 4, 1) := by decide +kernel
theorem dX9_rate_2 : decode cX9_rate 2 = .ok (.invokestatic 62, 3) := by decide +kernel
theorem dX9_rate_5 : decode cX9_rate 5 = .ok (.ifCond .eq 23, 3) := by decide +kernel
theorem dX9_rate_8 : decode cX9_rate 8 = .ok (.iload_n 2, 1) := by decide +kernel
theorem dX9_rate_9 : decode cX9_rate 9 = .ok (.iload_n 3, 1) := by decide +kernel
theorem dX9_rate_10 : decode cX9_rate 10 = .ok (.invokestatic 74, 3) := by decide +kernel
theorem dX9_rate_13 : decode cX9_rate 13 = .ok (.ifCond .eq 15, 3) := by decide +kernel
theorem dX9_rate_16 : decode cX9_rate 16 = .ok (.iload 4, 2) := by decide +kernel
theorem dX9_rate_18 : decode cX9_rate 18 = .ok (.ifCond .lt 10, 3) := by decide +kernel
theorem dX9_rate_21 : decode cX9_rate 21 = .ok (.iload 4, 2) := by decide +kernel
theorem dX9_rate_23 : decode cX9_rate 23 = .ok (.bipush 50, 2) := by decide +kernel
theorem dX9_rate_25 : decode cX9_rate 25 = .ok (.if_icmp .le 7, 3) := by decide +kernel
theorem dX9_rate_28 : decode cX9_rate 28 = .ok (.sipush (-1002), 3) := by decide +kernel
theorem dX9_rate_31 : decode cX9_rate 31 = .ok (.ireturn, 1) := by decide +kernel
theorem dX9_rate_32 : decode cX9_rate 32 = .ok (.aload_n 0, 1) := by decide +kernel
theorem dX9_rate_33 : decode cX9_rate 33 = .ok (.getfield 12, 3) := by decide +kernel
theorem dX9_rate_36 : decode cX9_rate 36 = .ok (.iload_n 1, 1) := by decide +kernel
theorem dX9_rate_37 : decode cX9_rate 37 = .ok (.iload_n 2, 1) := by decide +kernel
theorem dX9_rate_38 : decode cX9_rate 38 = .ok (.iload_n 3, 1) := by decide +kernel
theorem dX9_rate_39 : decode cX9_rate 39 = .ok (.invokestatic 81, 3) := by decide +kernel
theorem dX9_rate_42 : decode cX9_rate 42 = .ok (.iload 4, 2) := by decide +kernel
theorem dX9_rate_44 : decode cX9_rate 44 = .ok (.invokevirtual 93, 3) := by decide +kernel
theorem dX9_rate_47 : decode cX9_rate 47 = .ok (.ireturn, 1) := by decide +kernel
set_option maxRecDepth 20000 in
theorem ggX9_limit_X3_changeLimit : GoodIn wsX9_limit wsX3_changeLimit := goodIn_r _ [6, 7, 16, 17, 18, 19, 20, 21, 22, 23, 24, 25] (by decide +kernel) (by decide +kernel)
set_option maxRecDepth 20000 in
theorem gX9_limit_X3_changeLimit : GoodIn wsX9_limit (wsV RX9 96 RX3 yX3_changeLimit wsX3_changeLimit) := goodIn_app (goodIn_of _ (by decide +kernel)) ggX9_limit_X3_changeLimit
theorem dX9_limit_0 : decode cX9_limit 0 = .ok (.iload_n 1, 1) := by decide +kernel
theorem dX9_limit_1 : decode cX9_limit 1 = .ok (.iconst 1, 1) := by decide +kernel
theorem dX9_limit_2 : decode cX9_limit 2 = .ok (.if_icmp .lt 9, 3) := by decide +kernel
theorem dX9_limit_5 : decode cX9_limit 5 = .ok (.iload_n 1, 1) := by decide +kernel
theorem dX9_limit_6 : decode cX9_limit 6 = .ok (.bipush 100, 2) := by decide +kernel
theorem dX9_limit_8 : decode cX9_limit 8 = .ok (.if_icmp .le 7, 3) := by decide +kernel
theorem dX9_limit_11 : decode cX9_limit 11 = .ok (.sipush (-1002), 3) := by decide +kernel
theorem dX9_limit_14 : decode cX9_limit 14 = .ok (.ireturn, 1) := by decide +kernel
theorem dX9_limit_15 : decode cX9_limit 15 = .ok (.aload_n 0, 1) := by decide +kernel
theorem dX9_limit_16 : decode cX9_limit 16 = .ok (.getfield 12, 3) := by decide +kernel
theorem dX9_limit_19 : decode cX9_limit 19 = .ok (.iload_n 1, 1) := by decide +kernel
theorem dX9_limit_20 : decode cX9_limit 20 = .ok (.invokevirtual 96, 3) := by decide +kernel
theorem dX9_limit_23 : decode cX9_limit 23 = .ok (.ireturn, 1) := by decide +kernel
set_option maxRecDepth 20000 in
theorem ggX9_told_X3_hasBlock : GoodIn wsX9_told wsX3_hasBlock := goodIn_r _ [7, 8, 9, 10, 11, 106, 107, 108, 109, 110, 111, 112, 113, 114, 115] (by decide +kernel) (by decide +kernel)
set_option maxRecDepth 20000 in
theorem gX9_told_X3_hasBlock : GoodIn wsX9_told (wsV RX9 70 RX3 yX3_hasBlock wsX3_hasBlock) := goodIn_app (goodIn_of _ (by decide +kernel)) ggX9_told_X3_hasBlock
set_option maxRecDepth 20000 in
theorem ggX9_told_X9_isBelow : GoodIn wsX9_told wsX9_isBelow := goodIn_r _ [11] (by decide +kernel) (by decide +kernel)
set_option maxRecDepth 20000 in
theorem gX9_told_X9_isBelow : GoodIn wsX9_told (va_wsS RX9 62 yX9_isBelow wsX9_isBelow) := goodIn_app (goodIn_of _ (by decide +kernel)) ggX9_told_X9_isBelow
set_option maxRecDepth 20000 in
theorem ggX9_told_X0_follow : GoodIn wsX9_told wsX0_follow := goodIn_r _ [17, 18, 19, 20, 21, 22, 23, 24, 25, 26, 27, 28, 29, 30, 31, 32, 33, 34, 35, 36, 37, 38, 39, 40, 41, 42, 43, 44, 45, 46, 6, 47, 48, 49, 10, 50, 51, 52, 53, 54, 55, 56, 57, 58, 59, 60, 61, 62, 63, 64, 65, 66, 67, 68, 69, 70, 106, 107, 108, 109, 110, 111, 112, 113, 114, 115, 102, 103, 104, 105, 116, 117, 118, 119, 120] (by decide +kernel) (by decide +kernel)
set_option maxRecDepth 20000 in
theorem gX9_told_X0_follow : GoodIn wsX9_told (wsV RX9 100 RX0 yX0_follow wsX0_follow) := goodIn_app (goodIn_of _ (by decide +kernel)) ggX9_told_X0_follow
set_option maxRecDepth 20000 in
theorem ggX9_told_X3_stoneOf : GoodIn wsX9_told wsX3_stoneOf := goodIn_r _ [47, 48, 49, 10, 50, 106, 107, 108, 109, 110, 111, 112, 113, 114, 115] (by decide +kernel) (by decide +kernel)
set_option maxRecDepth 20000 in
theorem gX9_told_X3_stoneOf : GoodIn wsX9_told (wsV RX9 104 RX3 yX3_stoneOf wsX3_stoneOf) := goodIn_app (goodIn_of _ (by decide +kernel)) ggX9_told_X3_stoneOf
set_option maxRecDepth 20000 in
theorem ggX9_told_X3_laidOf : GoodIn wsX9_told wsX3_laidOf := goodIn_r _ [54, 55, 49, 10, 50, 106, 107, 108, 109, 110, 111, 112, 113, 114, 115] (by decide +kernel) (by decide +kernel)
set_option maxRecDepth 20000 in
theorem gX9_told_X3_laidOf : GoodIn wsX9_told (wsV RX9 107 RX3 yX3_laidOf wsX3_laidOf) := goodIn_app (goodIn_of _ (by decide +kernel)) ggX9_told_X3_laidOf
set_option maxRecDepth 20000 in
theorem ggX9_told_X3_deepOf : GoodIn wsX9_told wsX3_deepOf := goodIn_r _ [64, 65, 49, 10, 50, 106, 107, 108, 109, 110, 111, 112, 113, 114, 115] (by decide +kernel) (by decide +kernel)
set_option maxRecDepth 20000 in
theorem gX9_told_X3_deepOf : GoodIn wsX9_told (wsV RX9 110 RX3 yX3_deepOf wsX3_deepOf) := goodIn_app (goodIn_of _ (by decide +kernel)) ggX9_told_X3_deepOf
set_option maxRecDepth 20000 in
theorem ggX9_told_X0_sideAt : GoodIn wsX9_told wsX0_sideAt := goodIn_r _ [77, 18, 49, 10, 50, 102, 103, 104, 105] (by decide +kernel) (by decide +kernel)
set_option maxRecDepth 20000 in
theorem gX9_told_X0_sideAt : GoodIn wsX9_told (wsV RX9 113 RX0 yX0_sideAt wsX0_sideAt) := goodIn_app (goodIn_of _ (by decide +kernel)) ggX9_told_X0_sideAt
set_option maxRecDepth 20000 in
theorem ggX9_told_X0_wetAt : GoodIn wsX9_told wsX0_wetAt := goodIn_r _ [81, 18, 49, 10, 50, 102, 103, 104, 105] (by decide +kernel) (by decide +kernel)
set_option maxRecDepth 20000 in
theorem gX9_told_X0_wetAt : GoodIn wsX9_told (wsV RX9 116 RX0 yX0_wetAt wsX0_wetAt) := goodIn_app (goodIn_of _ (by decide +kernel)) ggX9_told_X0_wetAt
set_option maxRecDepth 20000 in
theorem ggX9_told_X0_zoneAt : GoodIn wsX9_told wsX0_zoneAt := goodIn_r _ [85, 18, 49, 10, 50, 102, 103, 104, 105] (by decide +kernel) (by decide +kernel)
set_option maxRecDepth 20000 in
theorem gX9_told_X0_zoneAt : GoodIn wsX9_told (wsV RX9 119 RX0 yX0_zoneAt wsX0_zoneAt) := goodIn_app (goodIn_of _ (by decide +kernel)) ggX9_told_X0_zoneAt
set_option maxRecDepth 20000 in
theorem ggX9_told_X0_harmAt : GoodIn wsX9_told wsX0_harmAt := goodIn_r _ [89, 19, 49, 10, 50, 102, 103, 104, 105] (by decide +kernel) (by decide +kernel)
set_option maxRecDepth 20000 in
theorem gX9_told_X0_harmAt : GoodIn wsX9_told (wsV RX9 122 RX0 yX0_harmAt wsX0_harmAt) := goodIn_app (goodIn_of _ (by decide +kernel)) ggX9_told_X0_harmAt
set_option maxRecDepth 20000 in
theorem ggX9_told_X0_lostAt : GoodIn wsX9_told wsX0_lostAt := goodIn_r _ [93, 21, 49, 10, 50, 102, 103, 104, 105] (by decide +kernel) (by decide +kernel)
set_option maxRecDepth 20000 in
theorem gX9_told_X0_lostAt : GoodIn wsX9_told (wsV RX9 125 RX0 yX0_lostAt wsX0_lostAt) := goodIn_app (goodIn_of _ (by decide +kernel)) ggX9_told_X0_lostAt
theorem dX9_told_0 : decode cX9_told 0 = .ok (.aload_n 0, 1) := by decide +kernel
theorem dX9_told_1 : decode cX9_told 1 = .ok (.getfield 12, 3) := by decide +kernel
theorem dX9_told_4 : decode cX9_told 4 = .ok (.iload_n 1, 1) := by decide +kernel
theorem dX9_told_5 : decode cX9_told 5 = .ok (.invokevirtual 70, 3) := by decide +kernel
theorem dX9_told_8 : decode cX9_told 8 = .ok (.ifCond .ne 7, 3) := by decide +kernel
theorem dX9_told_11 : decode cX9_told 11 = .ok (.sipush (-1001), 3) := by decide +kernel
theorem dX9_told_14 : decode cX9_told 14 = .ok (.ireturn, 1) := by decide +kernel
theorem dX9_told_15 : decode cX9_told 15 = .ok (.iload_n 2, 1) := by decide +kernel
theorem dX9_told_16 : decode cX9_told 16 = .ok (.sipush 401, 3) := by decide +kernel
theorem dX9_told_19 : decode cX9_told 19 = .ok (.invokestatic 62, 3) := by decide +kernel
theorem dX9_told_22 : decode cX9_told 22 = .ok (.ifCond .ne 7, 3) := by decide +kernel
theorem dX9_told_25 : decode cX9_told 25 = .ok (.sipush (-1002), 3) := by decide +kernel
theorem dX9_told_28 : decode cX9_told 28 = .ok (.ireturn, 1) := by decide +kernel
theorem dX9_told_29 : decode cX9_told 29 = .ok (.aload_n 0, 1) := by decide +kernel
theorem dX9_told_30 : decode cX9_told 30 = .ok (.getfield 19, 3) := by decide +kernel
theorem dX9_told_33 : decode cX9_told 33 = .ok (.aload_n 0, 1) := by decide +kernel
theorem dX9_told_34 : decode cX9_told 34 = .ok (.getfield 12, 3) := by decide +kernel
theorem dX9_told_37 : decode cX9_told 37 = .ok (.iload_n 1, 1) := by decide +kernel
theorem dX9_told_38 : decode cX9_told 38 = .ok (.invokevirtual 100, 3) := by decide +kernel
theorem dX9_told_41 : decode cX9_told 41 = .ok (.iload_n 3, 1) := by decide +kernel
theorem dX9_told_42 : decode cX9_told 42 = .ok (.tableswitch 130 0 8 #[50, 59, 68, 77, 86, 95, 104, 113, 122], 50) := by decide +kernel
theorem dX9_told_92 : decode cX9_told 92 = .ok (.aload_n 0, 1) := by decide +kernel
theorem dX9_told_93 : decode cX9_told 93 = .ok (.getfield 12, 3) := by decide +kernel
theorem dX9_told_96 : decode cX9_told 96 = .ok (.iload_n 1, 1) := by decide +kernel
theorem dX9_told_97 : decode cX9_told 97 = .ok (.invokevirtual 104, 3) := by decide +kernel
theorem dX9_told_100 : decode cX9_told 100 = .ok (.ireturn, 1) := by decide +kernel
theorem dX9_told_101 : decode cX9_told 101 = .ok (.aload_n 0, 1) := by decide +kernel
theorem dX9_told_102 : decode cX9_told 102 = .ok (.getfield 12, 3) := by decide +kernel
theorem dX9_told_105 : decode cX9_told 105 = .ok (.iload_n 1, 1) := by decide +kernel
theorem dX9_told_106 : decode cX9_told 106 = .ok (.invokevirtual 107, 3) := by decide +kernel
theorem dX9_told_109 : decode cX9_told 109 = .ok (.ireturn, 1) := by decide +kernel
theorem dX9_told_110 : decode cX9_told 110 = .ok (.aload_n 0, 1) := by decide +kernel
theorem dX9_told_111 : decode cX9_told 111 = .ok (.getfield 12, 3) := by decide +kernel
theorem dX9_told_114 : decode cX9_told 114 = .ok (.iload_n 1, 1) := by decide +kernel
theorem dX9_told_115 : decode cX9_told 115 = .ok (.invokevirtual 110, 3) := by decide +kernel
