theorem dX10_here_5 : decode cX10_here 5 = .ok (.getfield 151, 3) := by decide +kernel
theorem dX10_here_8 : decode cX10_here 8 = .ok (.if_icmp .ge 30, 3) := by decide +kernel
theorem dX10_here_11 : decode cX10_here 11 = .ok (.aload_n 0, 1) := by decide +kernel
theorem dX10_here_12 : decode cX10_here 12 = .ok (.getfield 35, 3) := by decide +kernel
theorem dX10_here_15 : decode cX10_here 15 = .ok (.aload_n 0, 1) := by decide +kernel
theorem dX10_here_16 : decode cX10_here 16 = .ok (.getfield 202, 3) := by decide +kernel
theorem dX10_here_19 : decode cX10_here 19 = .ok (.iaload, 1) := by decide +kernel
theorem dX10_here_20 : decode cX10_here 20 = .ok (.bipush 32, 2) := by decide +kernel
theorem dX10_here_22 : decode cX10_here 22 = .ok (.if_icmp .ne 16, 3) := by decide +kernel
theorem dX10_here_25 : decode cX10_here 25 = .ok (.aload_n 0, 1) := by decide +kernel
theorem dX10_here_26 : decode cX10_here 26 = .ok (.dup, 1) := by decide +kernel
theorem dX10_here_27 : decode cX10_here 27 = .ok (.getfield 202, 3) := by decide +kernel
theorem dX10_here_30 : decode cX10_here 30 = .ok (.iconst 1, 1) := by decide +kernel
theorem dX10_here_31 : decode cX10_here 31 = .ok (.iadd, 1) := by decide +kernel
theorem dX10_here_32 : decode cX10_here 32 = .ok (.putfield 202, 3) := by decide +kernel
theorem dX10_here_35 : decode cX10_here 35 = .ok (.goto (-35), 3) := by decide +kernel
theorem dX10_here_38 : decode cX10_here 38 = .ok (.aload_n 0, 1) := by decide +kernel
theorem dX10_here_39 : decode cX10_here 39 = .ok (.getfield 202, 3) := by decide +kernel
theorem dX10_here_42 : decode cX10_here 42 = .ok (.aload_n 0, 1) := by decide +kernel
theorem dX10_here_43 : decode cX10_here 43 = .ok (.getfield 151, 3) := by decide +kernel
theorem dX10_here_46 : decode cX10_here 46 = .ok (.if_icmp .ge 15, 3) := by decide +kernel
theorem dX10_here_49 : decode cX10_here 49 = .ok (.aload_n 0, 1) := by decide +kernel
theorem dX10_here_50 : decode cX10_here 50 = .ok (.getfield 35, 3) := by decide +kernel
theorem dX10_here_53 : decode cX10_here 53 = .ok (.aload_n 0, 1) := by decide +kernel
theorem dX10_here_54 : decode cX10_here 54 = .ok (.getfield 202, 3) := by decide +kernel
theorem dX10_here_57 : decode cX10_here 57 = .ok (.iaload, 1) := by decide +kernel
theorem dX10_here_58 : decode cX10_here 58 = .ok (.goto 4, 3) := by decide +kernel
theorem dX10_here_61 : decode cX10_here 61 = .ok (.iconst (-1), 1) := by decide +kernel
theorem dX10_here_62 : decode cX10_here 62 = .ok (.ireturn, 1) := by decide +kernel
theorem dX10_fails_0 : decode cX10_fails 0 = .ok (.aload_n 0, 1) := by decide +kernel
theorem dX10_fails_1 : decode cX10_fails 1 = .ok (.iload_n 2, 1) := by decide +kernel
theorem dX10_fails_2 : decode cX10_fails 2 = .ok (.putfield 38, 3) := by decide +kernel
theorem dX10_fails_5 : decode cX10_fails 5 = .ok (.iload_n 1, 1) := by decide +kernel
theorem dX10_fails_6 : decode cX10_fails 6 = .ok (.ireturn, 1) := by decide +kernel
set_option maxRecDepth 20000 in
theorem ggX10_readWord_X10_here : GoodIn wsX10_readWord wsX10_here := goodIn_r _ [14, 2, 4, 5, 18, 19, 20, 21, 22, 23, 24, 25, 26, 27, 28, 29, 30, 31, 32, 33, 34, 35, 36, 37, 38, 39, 40, 41, 42, 43, 44, 45, 46, 47, 48, 49, 50, 51, 52, 53] (by decide +kernel) (by decide +kernel)
set_option maxRecDepth 20000 in
theorem gX10_readWord_X10_here : GoodIn wsX10_readWord (wsV RX10 205 RX10 yX10_here wsX10_here) := goodIn_app (goodIn_of _ (by decide +kernel)) ggX10_readWord_X10_here
set_option maxRecDepth 20000 in
theorem ggX10_readWord_X10_in : GoodIn wsX10_readWord wsX10_in := goodIn_r _ [17] (by decide +kernel) (by decide +kernel)
set_option maxRecDepth 20000 in
theorem gX10_readWord_X10_in : GoodIn wsX10_readWord (va_wsS RX10 86 yX10_in wsX10_in) := goodIn_app (goodIn_of _ (by decide +kernel)) ggX10_readWord_X10_in
theorem dX10_readWord_0 : decode cX10_readWord 0 = .ok (.aload_n 0, 1) := by decide +kernel
theorem dX10_readWord_1 : decode cX10_readWord 1 = .ok (.invokevirtual 205, 3) := by decide +kernel
theorem dX10_readWord_4 : decode cX10_readWord 4 = .ok (.pop, 1) := by decide +kernel
theorem dX10_readWord_5 : decode cX10_readWord 5 = .ok (.aload_n 0, 1) := by decide +kernel
theorem dX10_readWord_6 : decode cX10_readWord 6 = .ok (.lconst 0, 1) := by decide +kernel
theorem dX10_readWord_7 : decode cX10_readWord 7 = .ok (.putfield 209, 3) := by decide +kernel
theorem dX10_readWord_10 : decode cX10_readWord 10 = .ok (.aload_n 0, 1) := by decide +kernel
theorem dX10_readWord_11 : decode cX10_readWord 11 = .ok (.aload_n 0, 1) := by decide +kernel
theorem dX10_readWord_12 : decode cX10_readWord 12 = .ok (.getfield 202, 3) := by decide +kernel
theorem dX10_readWord_15 : decode cX10_readWord 15 = .ok (.putfield 212, 3) := by decide +kernel
theorem dX10_readWord_18 : decode cX10_readWord 18 = .ok (.aload_n 0, 1) := by decide +kernel
theorem dX10_readWord_19 : decode cX10_readWord 19 = .ok (.getfield 212, 3) := by decide +kernel
theorem dX10_readWord_22 : decode cX10_readWord 22 = .ok (.aload_n 0, 1) := by decide +kernel
theorem dX10_readWord_23 : decode cX10_readWord 23 = .ok (.getfield 151, 3) := by decide +kernel
theorem dX10_readWord_26 : decode cX10_readWord 26 = .ok (.if_icmp .ge 85, 3) := by decide +kernel
theorem dX10_readWord_29 : decode cX10_readWord 29 = .ok (.aload_n 0, 1) := by decide +kernel
theorem dX10_readWord_30 : decode cX10_readWord 30 = .ok (.getfield 35, 3) := by decide +kernel
theorem dX10_readWord_33 : decode cX10_readWord 33 = .ok (.aload_n 0, 1) := by decide +kernel
theorem dX10_readWord_34 : decode cX10_readWord 34 = .ok (.getfield 212, 3) := by decide +kernel
theorem dX10_readWord_37 : decode cX10_readWord 37 = .ok (.iaload, 1) := by decide +kernel
theorem dX10_readWord_38 : decode cX10_readWord 38 = .ok (.i2l, 1) := by decide +kernel
theorem dX10_readWord_39 : decode cX10_readWord 39 = .ok (.ldc2_w 215, 3) := by decide +kernel
theorem dX10_readWord_42 : decode cX10_readWord 42 = .ok (.ldc2_w 217, 3) := by decide +kernel
theorem dX10_readWord_45 : decode cX10_readWord 45 = .ok (.invokestatic 86, 3) := by decide +kernel
theorem dX10_readWord_48 : decode cX10_readWord 48 = .ok (.ifCond .eq 63, 3) := by decide +kernel
theorem dX10_readWord_51 : decode cX10_readWord 51 = .ok (.aload_n 0, 1) := by decide +kernel
theorem dX10_readWord_52 : decode cX10_readWord 52 = .ok (.aload_n 0, 1) := by decide +kernel
theorem dX10_readWord_53 : decode cX10_readWord 53 = .ok (.getfield 209, 3) := by decide +kernel
theorem dX10_readWord_56 : decode cX10_readWord 56 = .ok (.ldc2_w 219, 3) := by decide +kernel
theorem dX10_readWord_59 : decode cX10_readWord 59 = .ok (.lcmp, 1) := by decide +kernel
theorem dX10_readWord_60 : decode cX10_readWord 60 = .ok (.ifCond .le 10, 3) := by decide +kernel
theorem dX10_readWord_63 : decode cX10_readWord 63 = .ok (.aload_n 0, 1) := by decide +kernel
theorem dX10_readWord_64 : decode cX10_readWord 64 = .ok (.getfield 209, 3) := by decide +kernel
theorem dX10_readWord_67 : decode cX10_readWord 67 = .ok (.goto 28, 3) := by decide +kernel
theorem dX10_readWord_70 : decode cX10_readWord 70 = .ok (.ldc2_w 221, 3) := by decide +kernel
theorem dX10_readWord_73 : decode cX10_readWord 73 = .ok (.aload_n 0, 1) := by decide +kernel
theorem dX10_readWord_74 : decode cX10_readWord 74 = .ok (.getfield 209, 3) := by decide +kernel
theorem dX10_readWord_77 : decode cX10_readWord 77 = .ok (.lmul, 1) := by decide +kernel
theorem dX10_readWord_78 : decode cX10_readWord 78 = .ok (.aload_n 0, 1) := by decide +kernel
theorem dX10_readWord_79 : decode cX10_readWord 79 = .ok (.getfield 35, 3) := by decide +kernel
theorem dX10_readWord_82 : decode cX10_readWord 82 = .ok (.aload_n 0, 1) := by decide +kernel
theorem dX10_readWord_83 : decode cX10_readWord 83 = .ok (.getfield 212, 3) := by decide +kernel
theorem dX10_readWord_86 : decode cX10_readWord 86 = .ok (.iaload, 1) := by decide +kernel
theorem dX10_readWord_87 : decode cX10_readWord 87 = .ok (.i2l, 1) := by decide +kernel
theorem dX10_readWord_88 : decode cX10_readWord 88 = .ok (.ladd, 1) := by decide +kernel
theorem dX10_readWord_89 : decode cX10_readWord 89 = .ok (.ldc2_w 215, 3) := by decide +kernel
theorem dX10_readWord_92 : decode cX10_readWord 92 = .ok (.lsub, 1) := by decide +kernel
theorem dX10_readWord_93 : decode cX10_readWord 93 = .ok (.lconst 1, 1) := by decide +kernel
theorem dX10_readWord_94 : decode cX10_readWord 94 = .ok (.ladd, 1) := by decide +kernel
theorem dX10_readWord_95 : decode cX10_readWord 95 = .ok (.putfield 209, 3) := by decide +kernel
theorem dX10_readWord_98 : decode cX10_readWord 98 = .ok (.aload_n 0, 1) := by decide +kernel
theorem dX10_readWord_99 : decode cX10_readWord 99 = .ok (.dup, 1) := by decide +kernel
theorem dX10_readWord_100 : decode cX10_readWord 100 = .ok (.getfield 212, 3) := by decide +kernel
theorem dX10_readWord_103 : decode cX10_readWord 103 = .ok (.iconst 1, 1) := by decide +kernel
theorem dX10_readWord_104 : decode cX10_readWord 104 = .ok (.iadd, 1) := by decide +kernel
theorem dX10_readWord_105 : decode cX10_readWord 105 = .ok (.putfield 212, 3) := by decide +kernel
theorem dX10_readWord_108 : decode cX10_readWord 108 = .ok (.goto (-90), 3) := by decide +kernel
theorem dX10_readWord_111 : decode cX10_readWord 111 = .ok (.return_, 1) := by decide +kernel
theorem dX10_code_0 : decode cX10_code 0 = .ok (.ldc2_w 221, 3) := by decide +kernel
theorem dX10_code_3 : decode cX10_code 3 = .ok (.ldc2_w 221, 3) := by decide +kernel
theorem dX10_code_6 : decode cX10_code 6 = .ok (.iload_n 0, 1) := by decide +kernel
theorem dX10_code_7 : decode cX10_code 7 = .ok (.i2l, 1) := by decide +kernel
theorem dX10_code_8 : decode cX10_code 8 = .ok (.ldc2_w 223, 3) := by decide +kernel
theorem dX10_code_11 : decode cX10_code 11 = .ok (.lsub, 1) := by decide +kernel
theorem dX10_code_12 : decode cX10_code 12 = .ok (.lmul, 1) := by decide +kernel
theorem dX10_code_13 : decode cX10_code 13 = .ok (.iload_n 1, 1) := by decide +kernel
theorem dX10_code_14 : decode cX10_code 14 = .ok (.i2l, 1) := by decide +kernel
theorem dX10_code_15 : decode cX10_code 15 = .ok (.ladd, 1) := by decide +kernel
theorem dX10_code_16 : decode cX10_code 16 = .ok (.ldc2_w 223, 3) := by decide +kernel
theorem dX10_code_19 : decode cX10_code 19 = .ok (.lsub, 1) := by decide +kernel
theorem dX10_code_20 : decode cX10_code 20 = .ok (.lmul, 1) := by decide +kernel
theorem dX10_code_21 : decode cX10_code 21 = .ok (.iload_n 2, 1) := by decide +kernel
theorem dX10_code_22 : decode cX10_code 22 = .ok (.i2l, 1) := by decide +kernel
theorem dX10_code_23 : decode cX10_code 23 = .ok (.ladd, 1) := by decide +kernel
theorem dX10_code_24 : decode cX10_code 24 = .ok (.ldc2_w 223, 3) := by decide +kernel
theorem dX10_code_27 : decode cX10_code 27 = .ok (.lsub, 1) := by decide +kernel
theorem dX10_code_28 : decode cX10_code 28 = .ok (.lstore 6, 2) := by decide +kernel
theorem dX10_code_30 : decode cX10_code 30 = .ok (.iload_n 3, 1) := by decide +kernel
theorem dX10_code_31 : decode cX10_code 31 = .ok (.ifCond .ne 8, 3) := by decide +kernel
theorem dX10_code_34 : decode cX10_code 34 = .ok (.lload 6, 2) := by decide +kernel
theorem dX10_code_36 : decode cX10_code 36 = .ok (.goto 16, 3) := by decide +kernel
theorem dX10_code_39 : decode cX10_code 39 = .ok (.ldc2_w 221, 3) := by decide +kernel
theorem dX10_code_42 : decode cX10_code 42 = .ok (.lload 6, 2) := by decide +kernel
theorem dX10_code_44 : decode cX10_code 44 = .ok (.lmul, 1) := by decide +kernel
theorem dX10_code_45 : decode cX10_code 45 = .ok (.iload_n 3, 1) := by decide +kernel
theorem dX10_code_46 : decode cX10_code 46 = .ok (.i2l, 1) := by decide +kernel
theorem dX10_code_47 : decode cX10_code 47 = .ok (.ladd, 1) := by decide +kernel
theorem dX10_code_48 : decode cX10_code 48 = .ok (.ldc2_w 223, 3) := by decide +kernel
theorem dX10_code_51 : decode cX10_code 51 = .ok (.lsub, 1) := by decide +kernel
theorem dX10_code_52 : decode cX10_code 52 = .ok (.lstore 6, 2) := by decide +kernel
theorem dX10_code_54 : decode cX10_code 54 = .ok (.iload 4, 2) := by decide +kernel
theorem dX10_code_56 : decode cX10_code 56 = .ok (.ifCond .ne 8, 3) := by decide +kernel
theorem dX10_code_59 : decode cX10_code 59 = .ok (.lload 6, 2) := by decide +kernel
theorem dX10_code_61 : decode cX10_code 61 = .ok (.goto 17, 3) := by decide +kernel
theorem dX10_code_64 : decode cX10_code 64 = .ok (.ldc2_w 221, 3) := by decide +kernel
theorem dX10_code_67 : decode cX10_code 67 = .ok (.lload 6, 2) := by decide +kernel
theorem dX10_code_69 : decode cX10_code 69 = .ok (.lmul, 1) := by decide +kernel
theorem dX10_code_70 : decode cX10_code 70 = .ok (.iload 4, 2) := by decide +kernel
theorem dX10_code_72 : decode cX10_code 72 = .ok (.i2l, 1) := by decide +kernel
theorem dX10_code_73 : decode cX10_code 73 = .ok (.ladd, 1) := by decide +kernel
theorem dX10_code_74 : decode cX10_code 74 = .ok (.ldc2_w 223, 3) := by decide +kernel
theorem dX10_code_77 : decode cX10_code 77 = .ok (.lsub, 1) := by decide +kernel
theorem dX10_code_78 : decode cX10_code 78 = .ok (.lstore 6, 2) := by decide +kernel
theorem dX10_code_80 : decode cX10_code 80 = .ok (.iload 5, 2) := by decide +kernel
theorem dX10_code_82 : decode cX10_code 82 = .ok (.ifCond .ne 8, 3) := by decide +kernel
theorem dX10_code_85 : decode cX10_code 85 = .ok (.lload 6, 2) := by decide +kernel
theorem dX10_code_87 : decode cX10_code 87 = .ok (.goto 17, 3) := by decide +kernel
theorem dX10_code_90 : decode cX10_code 90 = .ok (.ldc2_w 221, 3) := by decide +kernel
theorem dX10_code_93 : decode cX10_code 93 = .ok (.lload 6, 2) := by decide +kernel
theorem dX10_code_95 : decode cX10_code 95 = .ok (.lmul, 1) := by decide +kernel
theorem dX10_code_96 : decode cX10_code 96 = .ok (.iload 5, 2) := by decide +kernel
theorem dX10_code_98 : decode cX10_code 98 = .ok (.i2l, 1) := by decide +kernel
theorem dX10_code_99 : decode cX10_code 99 = .ok (.ladd, 1) := by decide +kernel
theorem dX10_code_100 : decode cX10_code 100 = .ok (.ldc2_w 223, 3) := by decide +kernel
theorem dX10_code_103 : decode cX10_code 103 = .ok (.lsub, 1) := by decide +kernel
theorem dX10_code_104 : decode cX10_code 104 = .ok (.lreturn, 1) := by decide +kernel
set_option maxRecDepth 20000 in
theorem ggX10_nameOf_X10_code : GoodIn wsX10_nameOf wsX10_code := goodIn_r _ [5, 6, 7] (by decide +kernel) (by decide +kernel)
set_option maxRecDepth 20000 in
theorem gX10_nameOf_X10_code : GoodIn wsX10_nameOf (va_wsS RX10 225 yX10_code wsX10_code) := goodIn_app (goodIn_of _ (by decide +kernel)) ggX10_nameOf_X10_code
theorem dX10_nameOf_0 : decode cX10_nameOf 0 = .ok (.aload_n 0, 1) := by decide +kernel
theorem dX10_nameOf_1 : decode cX10_nameOf 1 = .ok (.getfield 209, 3) := by decide +kernel
theorem dX10_nameOf_4 : decode cX10_nameOf 4 = .ok (.lstore_n 1, 1) := by decide +kernel
theorem dX10_nameOf_5 : decode cX10_nameOf 5 = .ok (.lload_n 1, 1) := by decide +kernel
theorem dX10_nameOf_6 : decode cX10_nameOf 6 = .ok (.bipush 108, 2) := by decide +kernel
theorem dX10_nameOf_8 : decode cX10_nameOf 8 = .ok (.bipush 111, 2) := by decide +kernel
theorem dX10_nameOf_10 : decode cX10_nameOf 10 = .ok (.bipush 115, 2) := by decide +kernel
theorem dX10_nameOf_12 : decode cX10_nameOf 12 = .ok (.bipush 116, 2) := by decide +kernel
theorem dX10_nameOf_14 : decode cX10_nameOf 14 = .ok (.iconst 0, 1) := by decide +kernel
theorem dX10_nameOf_15 : decode cX10_nameOf 15 = .ok (.iconst 0, 1) := by decide +kernel
theorem dX10_nameOf_16 : decode cX10_nameOf 16 = .ok (.invokestatic 225, 3) := by decide +kernel
theorem dX10_nameOf_19 : decode cX10_nameOf 19 = .ok (.lcmp, 1) := by decide +kernel
theorem dX10_nameOf_20 : decode cX10_nameOf 20 = .ok (.ifCond .ne 7, 3) := by decide +kernel
theorem dX10_nameOf_23 : decode cX10_nameOf 23 = .ok (.iconst 0, 1) := by decide +kernel
theorem dX10_nameOf_24 : decode cX10_nameOf 24 = .ok (.goto 137, 3) := by decide +kernel
theorem dX10_nameOf_27 : decode cX10_nameOf 27 = .ok (.lload_n 1, 1) := by decide +kernel
theorem dX10_nameOf_28 : decode cX10_nameOf 28 = .ok (.bipush 115, 2) := by decide +kernel
theorem dX10_nameOf_30 : decode cX10_nameOf 30 = .ok (.bipush 116, 2) := by decide +kernel
theorem dX10_nameOf_32 : decode cX10_nameOf 32 = .ok (.bipush 97, 2) := by decide +kernel
theorem dX10_nameOf_34 : decode cX10_nameOf 34 = .ok (.bipush 116, 2) := by decide +kernel
theorem dX10_nameOf_36 : decode cX10_nameOf 36 = .ok (.bipush 101, 2) := by decide +kernel
theorem dX10_nameOf_38 : decode cX10_nameOf 38 = .ok (.iconst 0, 1) := by decide +kernel
theorem dX10_nameOf_39 : decode cX10_nameOf 39 = .ok (.invokestatic 225, 3) := by decide +kernel
theorem dX10_nameOf_42 : decode cX10_nameOf 42 = .ok (.lcmp, 1) := by decide +kernel
theorem dX10_nameOf_43 : decode cX10_nameOf 43 = .ok (.ifCond .ne 7, 3) := by decide +kernel
theorem dX10_nameOf_46 : decode cX10_nameOf 46 = .ok (.iconst 1, 1) := by decide +kernel
theorem dX10_nameOf_47 : decode cX10_nameOf 47 = .ok (.goto 114, 3) := by decide +kernel
theorem dX10_nameOf_50 : decode cX10_nameOf 50 = .ok (.lload_n 1, 1) := by decide +kernel
theorem dX10_nameOf_51 : decode cX10_nameOf 51 = .ok (.bipush 119, 2) := by decide +kernel
theorem dX10_nameOf_53 : decode cX10_nameOf 53 = .ok (.bipush 101, 2) := by decide +kernel
theorem dX10_nameOf_55 : decode cX10_nameOf 55 = .ok (.bipush 116, 2) := by decide +kernel
theorem dX10_nameOf_57 : decode cX10_nameOf 57 = .ok (.iconst 0, 1) := by decide +kernel
theorem dX10_nameOf_58 : decode cX10_nameOf 58 = .ok (.iconst 0, 1) := by decide +kernel
theorem dX10_nameOf_59 : decode cX10_nameOf 59 = .ok (.iconst 0, 1) := by decide +kernel
theorem dX10_nameOf_60 : decode cX10_nameOf 60 = .ok (.invokestatic 225, 3) := by decide +kernel
theorem dX10_nameOf_63 : decode cX10_nameOf 63 = .ok (.lcmp, 1) := by decide +kernel
theorem dX10_nameOf_64 : decode cX10_nameOf 64 = .ok (.ifCond .ne 7, 3) := by decide +kernel
theorem dX10_nameOf_67 : decode cX10_nameOf 67 = .ok (.iconst 2, 1) := by decide +kernel
theorem dX10_nameOf_68 : decode cX10_nameOf 68 = .ok (.goto 93, 3) := by decide +kernel
theorem dX10_nameOf_71 : decode cX10_nameOf 71 = .ok (.lload_n 1, 1) := by decide +kernel
theorem dX10_nameOf_72 : decode cX10_nameOf 72 = .ok (.bipush 115, 2) := by decide +kernel
theorem dX10_nameOf_74 : decode cX10_nameOf 74 = .ok (.bipush 105, 2) := by decide +kernel
theorem dX10_nameOf_76 : decode cX10_nameOf 76 = .ok (.bipush 100, 2) := by decide +kernel
theorem dX10_nameOf_78 : decode cX10_nameOf 78 = .ok (.bipush 101, 2) := by decide +kernel
theorem dX10_nameOf_80 : decode cX10_nameOf 80 = .ok (.iconst 0, 1) := by decide +kernel
theorem dX10_nameOf_81 : decode cX10_nameOf 81 = .ok (.iconst 0, 1) := by decide +kernel
theorem dX10_nameOf_82 : decode cX10_nameOf 82 = .ok (.invokestatic 225, 3) := by decide +kernel
theorem dX10_nameOf_85 : decode cX10_nameOf 85 = .ok (.lcmp, 1) := by decide +kernel
theorem dX10_nameOf_86 : decode cX10_nameOf 86 = .ok (.ifCond .ne 7, 3) := by decide +kernel
theorem dX10_nameOf_89 : decode cX10_nameOf 89 = .ok (.iconst 3, 1) := by decide +kernel
theorem dX10_nameOf_90 : decode cX10_nameOf 90 = .ok (.goto 71, 3) := by decide +kernel
theorem dX10_nameOf_93 : decode cX10_nameOf 93 = .ok (.lload_n 1, 1) := by decide +kernel
theorem dX10_nameOf_94 : decode cX10_nameOf 94 = .ok (.bipush 115, 2) := by decide +kernel
theorem dX10_nameOf_96 : decode cX10_nameOf 96 = .ok (.bipush 116, 2) := by decide +kernel
theorem dX10_nameOf_98 : decode cX10_nameOf 98 = .ok (.bipush 111, 2) := by decide +kernel
theorem dX10_nameOf_100 : decode cX10_nameOf 100 = .ok (.bipush 110, 2) := by decide +kernel
theorem dX10_nameOf_102 : decode cX10_nameOf 102 = .ok (.bipush 101, 2) := by decide +kernel
theorem dX10_nameOf_104 : decode cX10_nameOf 104 = .ok (.iconst 0, 1) := by decide +kernel
theorem dX10_nameOf_105 : decode cX10_nameOf 105 = .ok (.invokestatic 225, 3) := by decide +kernel
theorem dX10_nameOf_108 : decode cX10_nameOf 108 = .ok (.lcmp, 1) := by decide +kernel
theorem dX10_nameOf_109 : decode cX10_nameOf 109 = .ok (.ifCond .ne 7, 3) := by decide +kernel
theorem dX10_nameOf_112 : decode cX10_nameOf 112 = .ok (.iconst 4, 1) := by decide +kernel
theorem dX10_nameOf_113 : decode cX10_nameOf 113 = .ok (.goto 48, 3) := by decide +kernel
theorem dX10_nameOf_116 : decode cX10_nameOf 116 = .ok (.lload_n 1, 1) := by decide +kernel
theorem dX10_nameOf_117 : decode cX10_nameOf 117 = .ok (.bipush 97, 2) := by decide +kernel
theorem dX10_nameOf_119 : decode cX10_nameOf 119 = .ok (.bipush 103, 2) := by decide +kernel
theorem dX10_nameOf_121 : decode cX10_nameOf 121 = .ok (.bipush 101, 2) := by decide +kernel
theorem dX10_nameOf_123 : decode cX10_nameOf 123 = .ok (.iconst 0, 1) := by decide +kernel
theorem dX10_nameOf_124 : decode cX10_nameOf 124 = .ok (.iconst 0, 1) := by decide +kernel
theorem dX10_nameOf_125 : decode cX10_nameOf 125 = .ok (.iconst 0, 1) := by decide +kernel
theorem dX10_nameOf_126 : decode cX10_nameOf 126 = .ok (.invokestatic 225, 3) := by decide +kernel
theorem dX10_nameOf_129 : decode cX10_nameOf 129 = .ok (.lcmp, 1) := by decide +kernel
theorem dX10_nameOf_130 : decode cX10_nameOf 130 = .ok (.ifCond .ne 7, 3) := by decide +kernel
theorem dX10_nameOf_133 : decode cX10_nameOf 133 = .ok (.iconst 5, 1) := by decide +kernel
theorem dX10_nameOf_134 : decode cX10_nameOf 134 = .ok (.goto 27, 3) := by decide +kernel
theorem dX10_nameOf_137 : decode cX10_nameOf 137 = .ok (.lload_n 1, 1) := by decide +kernel
theorem dX10_nameOf_138 : decode cX10_nameOf 138 = .ok (.bipush 104, 2) := by decide +kernel
theorem dX10_nameOf_140 : decode cX10_nameOf 140 = .ok (.bipush 97, 2) := by decide +kernel
theorem dX10_nameOf_142 : decode cX10_nameOf 142 = .ok (.bipush 114, 2) := by decide +kernel
theorem dX10_nameOf_144 : decode cX10_nameOf 144 = .ok (.bipush 109, 2) := by decide +kernel
theorem dX10_nameOf_146 : decode cX10_nameOf 146 = .ok (.iconst 0, 1) := by decide +kernel
theorem dX10_nameOf_147 : decode cX10_nameOf 147 = .ok (.iconst 0, 1) := by decide +kernel
theorem dX10_nameOf_148 : decode cX10_nameOf 148 = .ok (.invokestatic 225, 3) := by decide +kernel
theorem dX10_nameOf_151 : decode cX10_nameOf 151 = .ok (.lcmp, 1) := by decide +kernel
theorem dX10_nameOf_152 : decode cX10_nameOf 152 = .ok (.ifCond .ne 8, 3) := by decide +kernel
theorem dX10_nameOf_155 : decode cX10_nameOf 155 = .ok (.bipush 6, 2) := by decide +kernel
theorem dX10_nameOf_157 : decode cX10_nameOf 157 = .ok (.goto 4, 3) := by decide +kernel
theorem dX10_nameOf_160 : decode cX10_nameOf 160 = .ok (.iconst (-1), 1) := by decide +kernel
theorem dX10_nameOf_161 : decode cX10_nameOf 161 = .ok (.ireturn, 1) := by decide +kernel
set_option maxRecDepth 20000 in
theorem ggX10_actOf_X10_code : GoodIn wsX10_actOf wsX10_code := goodIn_r _ [5, 6, 7] (by decide +kernel) (by decide +kernel)
set_option maxRecDepth 20000 in
theorem gX10_actOf_X10_code : GoodIn wsX10_actOf (va_wsS RX10 225 yX10_code wsX10_code) := goodIn_app (goodIn_of _ (by decide +kernel)) ggX10_actOf_X10_code
theorem dX10_actOf_0 : decode cX10_actOf 0 = .ok (.aload_n 0, 1) := by decide +kernel
theorem dX10_actOf_1 : decode cX10_actOf 1 = .ok (.getfield 209, 3) := by decide +kernel
theorem dX10_actOf_4 : decode cX10_actOf 4 = .ok (.bipush 108, 2) := by decide +kernel
theorem dX10_actOf_6 : decode cX10_actOf 6 = .ok (.bipush 101, 2) := by decide +kernel
theorem dX10_actOf_8 : decode cX10_actOf 8 = .ok (.bipush 97, 2) := by decide +kernel
theorem dX10_actOf_10 : decode cX10_actOf 10 = .ok (.bipush 118, 2) := by decide +kernel
theorem dX10_actOf_12 : decode cX10_actOf 12 = .ok (.bipush 101, 2) := by decide +kernel
theorem dX10_actOf_14 : decode cX10_actOf 14 = .ok (.iconst 0, 1) := by decide +kernel
theorem dX10_actOf_15 : decode cX10_actOf 15 = .ok (.invokestatic 225, 3) := by decide +kernel
theorem dX10_actOf_18 : decode cX10_actOf 18 = .ok (.lcmp, 1) := by decide +kernel
theorem dX10_actOf_19 : decode cX10_actOf 19 = .ok (.ifCond .ne 7, 3) := by decide +kernel
theorem dX10_actOf_22 : decode cX10_actOf 22 = .ok (.iconst 0, 1) := by decide +kernel
theorem dX10_actOf_23 : decode cX10_actOf 23 = .ok (.goto 56, 3) := by decide +kernel
theorem dX10_actOf_26 : decode cX10_actOf 26 = .ok (.aload_n 0, 1) := by decide +kernel
theorem dX10_actOf_27 : decode cX10_actOf 27 = .ok (.getfield 209, 3) := by decide +kernel
theorem dX10_actOf_30 : decode cX10_actOf 30 = .ok (.bipush 109, 2) := by decide +kernel
theorem dX10_actOf_32 : decode cX10_actOf 32 = .ok (.bipush 101, 2) := by decide +kernel
theorem dX10_actOf_34 : decode cX10_actOf 34 = .ok (.bipush 110, 2) := by decide +kernel
theorem dX10_actOf_36 : decode cX10_actOf 36 = .ok (.bipush 100, 2) := by decide +kernel
theorem dX10_actOf_38 : decode cX10_actOf 38 = .ok (.iconst 0, 1) := by decide +kernel
theorem dX10_actOf_39 : decode cX10_actOf 39 = .ok (.iconst 0, 1) := by decide +kernel
theorem dX10_actOf_40 : decode cX10_actOf 40 = .ok (.invokestatic 225, 3) := by decide +kernel
theorem dX10_actOf_43 : decode cX10_actOf 43 = .ok (.lcmp, 1) := by decide +kernel
theorem dX10_actOf_44 : decode cX10_actOf 44 = .ok (.ifCond .ne 7, 3) := by decide +kernel
theorem dX10_actOf_47 : decode cX10_actOf 47 = .ok (.iconst 1, 1) := by decide +kernel
theorem dX10_actOf_48 : decode cX10_actOf 48 = .ok (.goto 31, 3) := by decide +kernel
theorem dX10_actOf_51 : decode cX10_actOf 51 = .ok (.aload_n 0, 1) := by decide +kernel
theorem dX10_actOf_52 : decode cX10_actOf 52 = .ok (.getfield 209, 3) := by decide +kernel
theorem dX10_actOf_55 : decode cX10_actOf 55 = .ok (.bipush 99, 2) := by decide +kernel
theorem dX10_actOf_57 : decode cX10_actOf 57 = .ok (.bipush 104, 2) := by decide +kernel
theorem dX10_actOf_59 : decode cX10_actOf 59 = .ok (.bipush 97, 2) := by decide +kernel
theorem dX10_actOf_61 : decode cX10_actOf 61 = .ok (.bipush 110, 2) := by decide +kernel
theorem dX10_actOf_63 : decode cX10_actOf 63 = .ok (.bipush 103, 2) := by decide +kernel
theorem dX10_actOf_65 : decode cX10_actOf 65 = .ok (.bipush 101, 2) := by decide +kernel
theorem dX10_actOf_67 : decode cX10_actOf 67 = .ok (.invokestatic 225, 3) := by decide +kernel
theorem dX10_actOf_70 : decode cX10_actOf 70 = .ok (.lcmp, 1) := by decide +kernel
theorem dX10_actOf_71 : decode cX10_actOf 71 = .ok (.ifCond .ne 7, 3) := by decide +kernel
theorem dX10_actOf_74 : decode cX10_actOf 74 = .ok (.iconst 2, 1) := by decide +kernel
theorem dX10_actOf_75 : decode cX10_actOf 75 = .ok (.goto 4, 3) := by decide +kernel
theorem dX10_actOf_78 : decode cX10_actOf 78 = .ok (.iconst (-1), 1) := by decide +kernel
theorem dX10_actOf_79 : decode cX10_actOf 79 = .ok (.ireturn, 1) := by decide +kernel
set_option maxRecDepth 20000 in
theorem ggX10_readTest_X10_nameOf : GoodIn wsX10_readTest wsX10_nameOf := goodIn_r _ [12, 13, 14, 15, 11, 16, 17, 18, 31, 32, 33, 34, 35, 36, 37, 38, 39, 40, 41, 42, 43, 44, 45, 46, 47, 48, 49, 50, 51, 52, 53, 54, 55, 56, 57, 58, 59, 60, 61, 62, 63, 64, 65, 66] (by decide +kernel) (by decide +kernel)
set_option maxRecDepth 20000 in
theorem gX10_readTest_X10_nameOf : GoodIn wsX10_readTest (wsV RX10 229 RX10 yX10_nameOf wsX10_nameOf) := goodIn_app (goodIn_of _ (by decide +kernel)) ggX10_readTest_X10_nameOf
set_option maxRecDepth 20000 in
theorem ggX10_readTest_X10_here : GoodIn wsX10_readTest wsX10_here := goodIn_r _ [22, 3, 6, 7, 31, 32, 33, 34, 35, 36, 37, 38, 39, 40, 41, 42, 43, 44, 45, 46, 47, 48, 49, 50, 51, 52, 53, 54, 55, 56, 57, 58, 59, 60, 61, 62, 63, 64, 65, 66] (by decide +kernel) (by decide +kernel)
set_option maxRecDepth 20000 in
theorem gX10_readTest_X10_here : GoodIn wsX10_readTest (wsV RX10 205 RX10 yX10_here wsX10_here) := goodIn_app (goodIn_of _ (by decide +kernel)) ggX10_readTest_X10_here
set_option maxRecDepth 20000 in
theorem ggX10_readTest_X10_fails : GoodIn wsX10_readTest wsX10_fails := goodIn_r _ [26, 27, 31, 32, 33, 34, 35, 36, 37, 38, 39, 40, 41, 42, 43, 44, 45, 46, 47, 48, 49, 50, 51, 52, 53, 54, 55, 56, 57, 58, 59, 60, 61, 62, 63, 64, 65, 66] (by decide +kernel) (by decide +kernel)
set_option maxRecDepth 20000 in
theorem gX10_readTest_X10_fails : GoodIn wsX10_readTest (wsV RX10 232 RX10 yX10_fails wsX10_fails) := goodIn_app (goodIn_of _ (by decide +kernel)) ggX10_readTest_X10_fails
set_option maxRecDepth 20000 in
theorem ggX10_readTest_X10_in : GoodIn wsX10_readTest wsX10_in := goodIn_r _ [30] (by decide +kernel) (by decide +kernel)
set_option maxRecDepth 20000 in
theorem gX10_readTest_X10_in : GoodIn wsX10_readTest (va_wsS RX10 86 yX10_in wsX10_in) := goodIn_app (goodIn_of _ (by decide +kernel)) ggX10_readTest_X10_in
theorem dX10_readTest_0 : decode cX10_readTest 0 = .ok (.aload_n 0, 1) := by decide +kernel
theorem dX10_readTest_1 : decode cX10_readTest 1 = .ok (.getfield 44, 3) := by decide +kernel
theorem dX10_readTest_4 : decode cX10_readTest 4 = .ok (.iload_n 1, 1) := by decide +kernel
theorem dX10_readTest_5 : decode cX10_readTest 5 = .ok (.aload_n 0, 1) := by decide +kernel
theorem dX10_readTest_6 : decode cX10_readTest 6 = .ok (.invokevirtual 229, 3) := by decide +kernel
theorem dX10_readTest_9 : decode cX10_readTest 9 = .ok (.iastore, 1) := by decide +kernel
theorem dX10_readTest_10 : decode cX10_readTest 10 = .ok (.aload_n 0, 1) := by decide +kernel
theorem dX10_readTest_11 : decode cX10_readTest 11 = .ok (.aload_n 0, 1) := by decide +kernel
theorem dX10_readTest_12 : decode cX10_readTest 12 = .ok (.getfield 212, 3) := by decide +kernel
theorem dX10_readTest_15 : decode cX10_readTest 15 = .ok (.putfield 202, 3) := by decide +kernel
theorem dX10_readTest_18 : decode cX10_readTest 18 = .ok (.aload_n 0, 1) := by decide +kernel
theorem dX10_readTest_19 : decode cX10_readTest 19 = .ok (.invokevirtual 205, 3) := by decide +kernel
theorem dX10_readTest_22 : decode cX10_readTest 22 = .ok (.istore_n 2, 1) := by decide +kernel
theorem dX10_readTest_23 : decode cX10_readTest 23 = .ok (.iload_n 2, 1) := by decide +kernel
theorem dX10_readTest_24 : decode cX10_readTest 24 = .ok (.bipush 60, 2) := by decide +kernel
theorem dX10_readTest_26 : decode cX10_readTest 26 = .ok (.if_icmp .eq 19, 3) := by decide +kernel
theorem dX10_readTest_29 : decode cX10_readTest 29 = .ok (.iload_n 2, 1) := by decide +kernel
theorem dX10_readTest_30 : decode cX10_readTest 30 = .ok (.bipush 62, 2) := by decide +kernel
theorem dX10_readTest_32 : decode cX10_readTest 32 = .ok (.if_icmp .eq 13, 3) := by decide +kernel
theorem dX10_readTest_35 : decode cX10_readTest 35 = .ok (.aload_n 0, 1) := by decide +kernel
theorem dX10_readTest_36 : decode cX10_readTest 36 = .ok (.iconst 1, 1) := by decide +kernel
theorem dX10_readTest_37 : decode cX10_readTest 37 = .ok (.aload_n 0, 1) := by decide +kernel
theorem dX10_readTest_38 : decode cX10_readTest 38 = .ok (.getfield 202, 3) := by decide +kernel
theorem dX10_readTest_41 : decode cX10_readTest 41 = .ok (.invokevirtual 232, 3) := by decide +kernel
theorem dX10_readTest_44 : decode cX10_readTest 44 = .ok (.ireturn, 1) := by decide +kernel
theorem dX10_readTest_45 : decode cX10_readTest 45 = .ok (.aload_n 0, 1) := by decide +kernel
theorem dX10_readTest_46 : decode cX10_readTest 46 = .ok (.getfield 44, 3) := by decide +kernel
theorem dX10_readTest_49 : decode cX10_readTest 49 = .ok (.iload_n 1, 1) := by decide +kernel
theorem dX10_readTest_50 : decode cX10_readTest 50 = .ok (.iconst 1, 1) := by decide +kernel
theorem dX10_readTest_51 : decode cX10_readTest 51 = .ok (.iadd, 1) := by decide +kernel
theorem dX10_readTest_52 : decode cX10_readTest 52 = .ok (.iload_n 2, 1) := by decide +kernel
theorem dX10_readTest_53 : decode cX10_readTest 53 = .ok (.bipush 60, 2) := by decide +kernel
theorem dX10_readTest_55 : decode cX10_readTest 55 = .ok (.if_icmp .ne 7, 3) := by decide +kernel
theorem dX10_readTest_58 : decode cX10_readTest 58 = .ok (.iconst 0, 1) := by decide +kernel
theorem dX10_readTest_59 : decode cX10_readTest 59 = .ok (.goto 4, 3) := by decide +kernel
theorem dX10_readTest_62 : decode cX10_readTest 62 = .ok (.iconst 1, 1) := by decide +kernel
theorem dX10_readTest_63 : decode cX10_readTest 63 = .ok (.iastore, 1) := by decide +kernel
theorem dX10_readTest_64 : decode cX10_readTest 64 = .ok (.aload_n 0, 1) := by decide +kernel
theorem dX10_readTest_65 : decode cX10_readTest 65 = .ok (.dup, 1) := by decide +kernel
theorem dX10_readTest_66 : decode cX10_readTest 66 = .ok (.getfield 202, 3) := by decide +kernel
theorem dX10_readTest_69 : decode cX10_readTest 69 = .ok (.iconst 1, 1) := by decide +kernel
theorem dX10_readTest_70 : decode cX10_readTest 70 = .ok (.iadd, 1) := by decide +kernel
theorem dX10_readTest_71 : decode cX10_readTest 71 = .ok (.putfield 202, 3) := by decide +kernel
theorem dX10_readTest_74 : decode cX10_readTest 74 = .ok (.aload_n 0, 1) := by decide +kernel
theorem dX10_readTest_75 : decode cX10_readTest 75 = .ok (.invokevirtual 205, 3) := by decide +kernel
theorem dX10_readTest_78 : decode cX10_readTest 78 = .ok (.i2l, 1) := by decide +kernel
theorem dX10_readTest_79 : decode cX10_readTest 79 = .ok (.ldc2_w 235, 3) := by decide +kernel
theorem dX10_readTest_82 : decode cX10_readTest 82 = .ok (.ldc2_w 237, 3) := by decide +kernel
theorem dX10_readTest_85 : decode cX10_readTest 85 = .ok (.invokestatic 86, 3) := by decide +kernel
theorem dX10_readTest_88 : decode cX10_readTest 88 = .ok (.ifCond .ne 13, 3) := by decide +kernel
theorem dX10_readTest_91 : decode cX10_readTest 91 = .ok (.aload_n 0, 1) := by decide +kernel
theorem dX10_readTest_92 : decode cX10_readTest 92 = .ok (.iconst 1, 1) := by decide +kernel
theorem dX10_readTest_93 : decode cX10_readTest 93 = .ok (.aload_n 0, 1) := by decide +kernel
theorem dX10_readTest_94 : decode cX10_readTest 94 = .ok (.getfield 202, 3) := by decide +kernel
theorem dX10_readTest_97 : decode cX10_readTest 97 = .ok (.invokevirtual 232, 3) := by decide +kernel
theorem dX10_readTest_100 : decode cX10_readTest 100 = .ok (.ireturn, 1) := by decide +kernel
theorem dX10_readTest_101 : decode cX10_readTest 101 = .ok (.aload_n 0, 1) := by decide +kernel
theorem dX10_readTest_102 : decode cX10_readTest 102 = .ok (.getfield 202, 3) := by decide +kernel
theorem dX10_readTest_105 : decode cX10_readTest 105 = .ok (.istore_n 3, 1) := by decide +kernel
theorem dX10_readTest_106 : decode cX10_readTest 106 = .ok (.iconst 0, 1) := by decide +kernel
theorem dX10_readTest_107 : decode cX10_readTest 107 = .ok (.istore 4, 2) := by decide +kernel
theorem dX10_readTest_109 : decode cX10_readTest 109 = .ok (.aload_n 0, 1) := by decide +kernel
theorem dX10_readTest_110 : decode cX10_readTest 110 = .ok (.getfield 202, 3) := by decide +kernel
theorem dX10_readTest_113 : decode cX10_readTest 113 = .ok (.aload_n 0, 1) := by decide +kernel
theorem dX10_readTest_114 : decode cX10_readTest 114 = .ok (.getfield 151, 3) := by decide +kernel
theorem dX10_readTest_117 : decode cX10_readTest 117 = .ok (.if_icmp .ge 73, 3) := by decide +kernel
theorem dX10_readTest_120 : decode cX10_readTest 120 = .ok (.aload_n 0, 1) := by decide +kernel
theorem dX10_readTest_121 : decode cX10_readTest 121 = .ok (.getfield 35, 3) := by decide +kernel
theorem dX10_readTest_124 : decode cX10_readTest 124 = .ok (.aload_n 0, 1) := by decide +kernel
theorem dX10_readTest_125 : decode cX10_readTest 125 = .ok (.getfield 202, 3) := by decide +kernel
theorem dX10_readTest_128 : decode cX10_readTest 128 = .ok (.iaload, 1) := by decide +kernel
theorem dX10_readTest_129 : decode cX10_readTest 129 = .ok (.i2l, 1) := by decide +kernel
theorem dX10_readTest_130 : decode cX10_readTest 130 = .ok (.ldc2_w 235, 3) := by decide +kernel
theorem dX10_readTest_133 : decode cX10_readTest 133 = .ok (.ldc2_w 237, 3) := by decide +kernel
theorem dX10_readTest_136 : decode cX10_readTest 136 = .ok (.invokestatic 86, 3) := by decide +kernel
theorem dX10_readTest_139 : decode cX10_readTest 139 = .ok (.ifCond .eq 51, 3) := by decide +kernel
theorem dX10_readTest_142 : decode cX10_readTest 142 = .ok (.aload_n 0, 1) := by decide +kernel
theorem dX10_readTest_143 : decode cX10_readTest 143 = .ok (.getfield 202, 3) := by decide +kernel
theorem dX10_readTest_146 : decode cX10_readTest 146 = .ok (.iload_n 3, 1) := by decide +kernel
theorem dX10_readTest_147 : decode cX10_readTest 147 = .ok (.isub, 1) := by decide +kernel
theorem dX10_readTest_148 : decode cX10_readTest 148 = .ok (.iconst 3, 1) := by decide +kernel
theorem dX10_readTest_149 : decode cX10_readTest 149 = .ok (.if_icmp .ge 24, 3) := by decide +kernel
theorem dX10_readTest_152 : decode cX10_readTest 152 = .ok (.bipush 10, 2) := by decide +kernel
theorem dX10_readTest_154 : decode cX10_readTest 154 = .ok (.iload 4, 2) := by decide +kernel
theorem dX10_readTest_156 : decode cX10_readTest 156 = .ok (.imul, 1) := by decide +kernel
theorem dX10_readTest_157 : decode cX10_readTest 157 = .ok (.aload_n 0, 1) := by decide +kernel
theorem dX10_readTest_158 : decode cX10_readTest 158 = .ok (.getfield 35, 3) := by decide +kernel
theorem dX10_readTest_161 : decode cX10_readTest 161 = .ok (.aload_n 0, 1) := by decide +kernel
theorem dX10_readTest_162 : decode cX10_readTest 162 = .ok (.getfield 202, 3) := by decide +kernel
theorem dX10_readTest_165 : decode cX10_readTest 165 = .ok (.iaload, 1) := by decide +kernel
theorem dX10_readTest_166 : decode cX10_readTest 166 = .ok (.iadd, 1) := by decide +kernel
theorem dX10_readTest_167 : decode cX10_readTest 167 = .ok (.bipush 48, 2) := by decide +kernel
theorem dX10_readTest_169 : decode cX10_readTest 169 = .ok (.isub, 1) := by decide +kernel
theorem dX10_readTest_170 : decode cX10_readTest 170 = .ok (.goto 5, 3) := by decide +kernel
theorem dX10_readTest_173 : decode cX10_readTest 173 = .ok (.iload 4, 2) := by decide +kernel
theorem dX10_readTest_175 : decode cX10_readTest 175 = .ok (.istore 4, 2) := by decide +kernel
theorem dX10_readTest_177 : decode cX10_readTest 177 = .ok (.aload_n 0, 1) := by decide +kernel
theorem dX10_readTest_178 : decode cX10_readTest 178 = .ok (.dup, 1) := by decide +kernel
theorem dX10_readTest_179 : decode cX10_readTest 179 = .ok (.getfield 202, 3) := by decide +kernel
theorem dX10_readTest_182 : decode cX10_readTest 182 = .ok (.iconst 1, 1) := by decide +kernel
theorem dX10_readTest_183 : decode cX10_readTest 183 = .ok (.iadd, 1) := by decide +kernel
theorem dX10_readTest_184 : decode cX10_readTest 184 = .ok (.putfield 202, 3) := by decide +kernel
theorem dX10_readTest_187 : decode cX10_readTest 187 = .ok (.goto (-78), 3) := by decide +kernel
theorem dX10_readTest_190 : decode cX10_readTest 190 = .ok (.aload_n 0, 1) := by decide +kernel
theorem dX10_readTest_191 : decode cX10_readTest 191 = .ok (.getfield 202, 3) := by decide +kernel
theorem dX10_readTest_194 : decode cX10_readTest 194 = .ok (.iload_n 3, 1) := by decide +kernel
theorem dX10_readTest_195 : decode cX10_readTest 195 = .ok (.isub, 1) := by decide +kernel
theorem dX10_readTest_196 : decode cX10_readTest 196 = .ok (.iconst 3, 1) := by decide +kernel
theorem dX10_readTest_197 : decode cX10_readTest 197 = .ok (.if_icmp .le 10, 3) := by decide +kernel
theorem dX10_readTest_200 : decode cX10_readTest 200 = .ok (.aload_n 0, 1) := by decide +kernel
theorem dX10_readTest_201 : decode cX10_readTest 201 = .ok (.iconst 2, 1) := by decide +kernel
theorem dX10_readTest_202 : decode cX10_readTest 202 = .ok (.iload_n 3, 1) := by decide +kernel
theorem dX10_readTest_203 : decode cX10_readTest 203 = .ok (.invokevirtual 232, 3) := by decide +kernel
theorem dX10_readTest_206 : decode cX10_readTest 206 = .ok (.ireturn, 1) := by decide +kernel
theorem dX10_readTest_207 : decode cX10_readTest 207 = .ok (.aload_n 0, 1) := by decide +kernel
theorem dX10_readTest_208 : decode cX10_readTest 208 = .ok (.getfield 44, 3) := by decide +kernel
theorem dX10_readTest_211 : decode cX10_readTest 211 = .ok (.iload_n 1, 1) := by decide +kernel
theorem dX10_readTest_212 : decode cX10_readTest 212 = .ok (.iconst 2, 1) := by decide +kernel
theorem dX10_readTest_213 : decode cX10_readTest 213 = .ok (.iadd, 1) := by decide +kernel
theorem dX10_readTest_214 : decode cX10_readTest 214 = .ok (.iload 4, 2) := by decide +kernel
theorem dX10_readTest_216 : decode cX10_readTest 216 = .ok (.iastore, 1) := by decide +kernel
theorem dX10_readTest_217 : decode cX10_readTest 217 = .ok (.iconst 0, 1) := by decide +kernel
theorem dX10_readTest_218 : decode cX10_readTest 218 = .ok (.ireturn, 1) := by decide +kernel
set_option maxRecDepth 20000 in
theorem ggX10_readClause_X10_readWord : GoodIn wsX10_readClause wsX10_readWord := goodIn_r _ [8, 9, 1, 2, 10, 11, 12, 13, 14, 15, 16, 17, 18, 7, 19, 20, 21, 22, 46, 47, 48, 49, 50, 51, 52, 53, 54, 55, 56, 57, 58, 59, 60, 61, 62, 63, 64, 65, 66, 67, 68, 69, 70, 71, 72, 73, 74, 75, 76, 77, 78, 79, 80, 81] (by decide +kernel) (by decide +kernel)
set_option maxRecDepth 20000 in
theorem gX10_readClause_X10_readWord : GoodIn wsX10_readClause (wsV RX10 239 RX10 yX10_readWord wsX10_readWord) := goodIn_app (goodIn_of _ (by decide +kernel)) ggX10_readClause_X10_readWord
set_option maxRecDepth 20000 in
theorem ggX10_readClause_X10_nameOf : GoodIn wsX10_readClause wsX10_nameOf := goodIn_r _ [26, 9, 27, 28, 7, 29, 15, 30, 46, 47, 48, 49, 50, 51, 52, 53, 54, 55, 56, 57, 58, 59, 60, 61, 62, 63, 64, 65, 66, 67, 68, 69, 70, 71, 72, 73, 74, 75, 76, 77, 78, 79, 80, 81] (by decide +kernel) (by decide +kernel)
set_option maxRecDepth 20000 in
theorem gX10_readClause_X10_nameOf : GoodIn wsX10_readClause (wsV RX10 229 RX10 yX10_nameOf wsX10_nameOf) := goodIn_app (goodIn_of _ (by decide +kernel)) ggX10_readClause_X10_nameOf
set_option maxRecDepth 20000 in
theorem ggX10_readClause_X10_fails : GoodIn wsX10_readClause wsX10_fails := goodIn_r _ [34, 35, 46, 47, 48, 49, 50, 51, 52, 53, 54, 55, 56, 57, 58, 59, 60, 61, 62, 63, 64, 65, 66, 67, 68, 69, 70, 71, 72, 73, 74, 75, 76, 77, 78, 79, 80, 81] (by decide +kernel) (by decide +kernel)
set_option maxRecDepth 20000 in
theorem gX10_readClause_X10_fails : GoodIn wsX10_readClause (wsV RX10 232 RX10 yX10_fails wsX10_fails) := goodIn_app (goodIn_of _ (by decide +kernel)) ggX10_readClause_X10_fails
set_option maxRecDepth 20000 in
theorem ggX10_readClause_X10_readTest : GoodIn wsX10_readClause wsX10_readTest := goodIn_r _ [39, 3, 2, 1, 40, 41, 10, 11, 23, 24, 25, 7, 26, 9, 27, 28, 29, 15, 30, 16, 17, 18, 19, 31, 32, 33, 34, 35, 20, 21, 22, 46, 47, 48, 49, 50, 51, 52, 53, 54, 55, 56, 57, 58, 59, 60, 61, 62, 63, 64, 65, 66, 67, 68, 69, 70, 71, 72, 73, 74, 75, 76, 77, 78, 79, 80, 81] (by decide +kernel) (by decide +kernel)
set_option maxRecDepth 20000 in
theorem gX10_readClause_X10_readTest : GoodIn wsX10_readClause (wsV RX10 242 RX10 yX10_readTest wsX10_readTest) := goodIn_app (goodIn_of _ (by decide +kernel)) ggX10_readClause_X10_readTest
set_option maxRecDepth 20000 in
theorem ggX10_readClause_X10_here : GoodIn wsX10_readClause wsX10_here := goodIn_r _ [19, 1, 10, 11, 46, 47, 48, 49, 50, 51, 52, 53, 54, 55, 56, 57, 58, 59, 60, 61, 62, 63, 64, 65, 66, 67, 68, 69, 70, 71, 72, 73, 74, 75, 76, 77, 78, 79, 80, 81] (by decide +kernel) (by decide +kernel)
set_option maxRecDepth 20000 in
theorem gX10_readClause_X10_here : GoodIn wsX10_readClause (wsV RX10 205 RX10 yX10_here wsX10_here) := goodIn_app (goodIn_of _ (by decide +kernel)) ggX10_readClause_X10_here
set_option maxRecDepth 20000 in
theorem ggX10_readClause_X10_actOf : GoodIn wsX10_readClause wsX10_actOf := goodIn_r _ [45, 9, 27, 28, 7, 29, 15, 30, 46, 47, 48, 49, 50, 51, 52, 53, 54, 55, 56, 57, 58, 59, 60, 61, 62, 63, 64, 65, 66, 67, 68, 69, 70, 71, 72, 73, 74, 75, 76, 77, 78, 79, 80, 81] (by decide +kernel) (by decide +kernel)
set_option maxRecDepth 20000 in
theorem gX10_readClause_X10_actOf : GoodIn wsX10_readClause (wsV RX10 245 RX10 yX10_actOf wsX10_actOf) := goodIn_app (goodIn_of _ (by decide +kernel)) ggX10_readClause_X10_actOf
theorem dX10_readClause_0 : decode cX10_readClause 0 = .ok (.iconst 0, 1) := by decide +kernel
theorem dX10_readClause_1 : decode cX10_readClause 1 = .ok (.istore_n 2, 1) := by decide +kernel
theorem dX10_readClause_2 : decode cX10_readClause 2 = .ok (.iconst 1, 1) := by decide +kernel
theorem dX10_readClause_3 : decode cX10_readClause 3 = .ok (.istore_n 3, 1) := by decide +kernel
theorem dX10_readClause_4 : decode cX10_readClause 4 = .ok (.iload_n 3, 1) := by decide +kernel
theorem dX10_readClause_5 : decode cX10_readClause 5 = .ok (.ifCond .eq 118, 3) := by decide +kernel
theorem dX10_readClause_8 : decode cX10_readClause 8 = .ok (.aload_n 0, 1) := by decide +kernel
theorem dX10_readClause_9 : decode cX10_readClause 9 = .ok (.invokevirtual 239, 3) := by decide +kernel
theorem dX10_readClause_12 : decode cX10_readClause 12 = .ok (.aload_n 0, 1) := by decide +kernel
theorem dX10_readClause_13 : decode cX10_readClause 13 = .ok (.invokevirtual 229, 3) := by decide +kernel
theorem dX10_readClause_16 : decode cX10_readClause 16 = .ok (.ifCond .ge 13, 3) := by decide +kernel
theorem dX10_readClause_19 : decode cX10_readClause 19 = .ok (.aload_n 0, 1) := by decide +kernel
theorem dX10_readClause_20 : decode cX10_readClause 20 = .ok (.iconst 1, 1) := by decide +kernel
theorem dX10_readClause_21 : decode cX10_readClause 21 = .ok (.aload_n 0, 1) := by decide +kernel
theorem dX10_readClause_22 : decode cX10_readClause 22 = .ok (.getfield 202, 3) := by decide +kernel
theorem dX10_readClause_25 : decode cX10_readClause 25 = .ok (.invokevirtual 232, 3) := by decide +kernel
theorem dX10_readClause_28 : decode cX10_readClause 28 = .ok (.ireturn, 1) := by decide +kernel
theorem dX10_readClause_29 : decode cX10_readClause 29 = .ok (.iload_n 1, 1) := by decide +kernel
theorem dX10_readClause_30 : decode cX10_readClause 30 = .ok (.bipush 6, 2) := by decide +kernel
theorem dX10_readClause_32 : decode cX10_readClause 32 = .ok (.if_icmp .ne 13, 3) := by decide +kernel
theorem dX10_readClause_35 : decode cX10_readClause 35 = .ok (.aload_n 0, 1) := by decide +kernel
theorem dX10_readClause_36 : decode cX10_readClause 36 = .ok (.iconst 3, 1) := by decide +kernel
theorem dX10_readClause_37 : decode cX10_readClause 37 = .ok (.aload_n 0, 1) := by decide +kernel
theorem dX10_readClause_38 : decode cX10_readClause 38 = .ok (.getfield 202, 3) := by decide +kernel
theorem dX10_readClause_41 : decode cX10_readClause 41 = .ok (.invokevirtual 232, 3) := by decide +kernel
theorem dX10_readClause_44 : decode cX10_readClause 44 = .ok (.ireturn, 1) := by decide +kernel
theorem dX10_readClause_45 : decode cX10_readClause 45 = .ok (.iload_n 2, 1) := by decide +kernel
theorem dX10_readClause_46 : decode cX10_readClause 46 = .ok (.iconst 3, 1) := by decide +kernel
theorem dX10_readClause_47 : decode cX10_readClause 47 = .ok (.if_icmp .ne 13, 3) := by decide +kernel
theorem dX10_readClause_50 : decode cX10_readClause 50 = .ok (.aload_n 0, 1) := by decide +kernel
theorem dX10_readClause_51 : decode cX10_readClause 51 = .ok (.iconst 4, 1) := by decide +kernel
theorem dX10_readClause_52 : decode cX10_readClause 52 = .ok (.aload_n 0, 1) := by decide +kernel
theorem dX10_readClause_53 : decode cX10_readClause 53 = .ok (.getfield 202, 3) := by decide +kernel
theorem dX10_readClause_56 : decode cX10_readClause 56 = .ok (.invokevirtual 232, 3) := by decide +kernel
theorem dX10_readClause_59 : decode cX10_readClause 59 = .ok (.ireturn, 1) := by decide +kernel
theorem dX10_readClause_60 : decode cX10_readClause 60 = .ok (.aload_n 0, 1) := by decide +kernel
theorem dX10_readClause_61 : decode cX10_readClause 61 = .ok (.bipush 11, 2) := by decide +kernel
theorem dX10_readClause_63 : decode cX10_readClause 63 = .ok (.iload_n 1, 1) := by decide +kernel
theorem dX10_readClause_64 : decode cX10_readClause 64 = .ok (.imul, 1) := by decide +kernel
theorem dX10_readClause_65 : decode cX10_readClause 65 = .ok (.iconst 2, 1) := by decide +kernel
theorem dX10_readClause_66 : decode cX10_readClause 66 = .ok (.iadd, 1) := by decide +kernel
theorem dX10_readClause_67 : decode cX10_readClause 67 = .ok (.iconst 3, 1) := by decide +kernel
theorem dX10_readClause_68 : decode cX10_readClause 68 = .ok (.iload_n 2, 1) := by decide +kernel
theorem dX10_readClause_69 : decode cX10_readClause 69 = .ok (.imul, 1) := by decide +kernel
theorem dX10_readClause_70 : decode cX10_readClause 70 = .ok (.iadd, 1) := by decide +kernel
theorem dX10_readClause_71 : decode cX10_readClause 71 = .ok (.invokevirtual 242, 3) := by decide +kernel
theorem dX10_readClause_74 : decode cX10_readClause 74 = .ok (.istore 4, 2) := by decide +kernel
theorem dX10_readClause_76 : decode cX10_readClause 76 = .ok (.iload 4, 2) := by decide +kernel
theorem dX10_readClause_78 : decode cX10_readClause 78 = .ok (.ifCond .le 6, 3) := by decide +kernel
theorem dX10_readClause_81 : decode cX10_readClause 81 = .ok (.iload 4, 2) := by decide +kernel
theorem dX10_readClause_83 : decode cX10_readClause 83 = .ok (.ireturn, 1) := by decide +kernel
theorem dX10_readClause_84 : decode cX10_readClause 84 = .ok (.iinc 2 1, 3) := by decide +kernel
theorem dX10_readClause_87 : decode cX10_readClause 87 = .ok (.aload_n 0, 1) := by decide +kernel
theorem dX10_readClause_88 : decode cX10_readClause 88 = .ok (.invokevirtual 205, 3) := by decide +kernel
theorem dX10_readClause_91 : decode cX10_readClause 91 = .ok (.bipush 38, 2) := by decide +kernel
theorem dX10_readClause_93 : decode cX10_readClause 93 = .ok (.if_icmp .ne 7, 3) := by decide +kernel
theorem dX10_readClause_96 : decode cX10_readClause 96 = .ok (.iconst 1, 1) := by decide +kernel
theorem dX10_readClause_97 : decode cX10_readClause 97 = .ok (.goto 4, 3) := by decide +kernel
theorem dX10_readClause_100 : decode cX10_readClause 100 = .ok (.iconst 0, 1) := by decide +kernel
theorem dX10_readClause_101 : decode cX10_readClause 101 = .ok (.istore_n 3, 1) := by decide +kernel
theorem dX10_readClause_102 : decode cX10_readClause 102 = .ok (.aload_n 0, 1) := by decide +kernel
theorem dX10_readClause_103 : decode cX10_readClause 103 = .ok (.dup, 1) := by decide +kernel
theorem dX10_readClause_104 : decode cX10_readClause 104 = .ok (.getfield 202, 3) := by decide +kernel
theorem dX10_readClause_107 : decode cX10_readClause 107 = .ok (.iload_n 3, 1) := by decide +kernel
theorem dX10_readClause_108 : decode cX10_readClause 108 = .ok (.ifCond .eq 7, 3) := by decide +kernel
theorem dX10_readClause_111 : decode cX10_readClause 111 = .ok (.iconst 1, 1) := by decide +kernel
theorem dX10_readClause_112 : decode cX10_readClause 112 = .ok (.goto 4, 3) := by decide +kernel
theorem dX10_readClause_115 : decode cX10_readClause 115 = .ok (.iconst 0, 1) := by decide +kernel
theorem dX10_readClause_116 : decode cX10_readClause 116 = .ok (.iadd, 1) := by decide +kernel
theorem dX10_readClause_117 : decode cX10_readClause 117 = .ok (.putfield 202, 3) := by decide +kernel
theorem dX10_readClause_120 : decode cX10_readClause 120 = .ok (.goto (-116), 3) := by decide +kernel
theorem dX10_readClause_123 : decode cX10_readClause 123 = .ok (.aload_n 0, 1) := by decide +kernel
theorem dX10_readClause_124 : decode cX10_readClause 124 = .ok (.invokevirtual 205, 3) := by decide +kernel
theorem dX10_readClause_127 : decode cX10_readClause 127 = .ok (.bipush 61, 2) := by decide +kernel
theorem dX10_readClause_129 : decode cX10_readClause 129 = .ok (.if_icmp .eq 13, 3) := by decide +kernel
theorem dX10_readClause_132 : decode cX10_readClause 132 = .ok (.aload_n 0, 1) := by decide +kernel
theorem dX10_readClause_133 : decode cX10_readClause 133 = .ok (.iconst 1, 1) := by decide +kernel
theorem dX10_readClause_134 : decode cX10_readClause 134 = .ok (.aload_n 0, 1) := by decide +kernel
theorem dX10_readClause_135 : decode cX10_readClause 135 = .ok (.getfield 202, 3) := by decide +kernel
theorem dX10_readClause_138 : decode cX10_readClause 138 = .ok (.invokevirtual 232, 3) := by decide +kernel
theorem dX10_readClause_141 : decode cX10_readClause 141 = .ok (.ireturn, 1) := by decide +kernel
theorem dX10_readClause_142 : decode cX10_readClause 142 = .ok (.aload_n 0, 1) := by decide +kernel
theorem dX10_readClause_143 : decode cX10_readClause 143 = .ok (.dup, 1) := by decide +kernel
theorem dX10_readClause_144 : decode cX10_readClause 144 = .ok (.getfield 202, 3) := by decide +kernel
theorem dX10_readClause_147 : decode cX10_readClause 147 = .ok (.iconst 1, 1) := by decide +kernel
theorem dX10_readClause_148 : decode cX10_readClause 148 = .ok (.iadd, 1) := by decide +kernel
theorem dX10_readClause_149 : decode cX10_readClause 149 = .ok (.putfield 202, 3) := by decide +kernel
theorem dX10_readClause_152 : decode cX10_readClause 152 = .ok (.aload_n 0, 1) := by decide +kernel
theorem dX10_readClause_153 : decode cX10_readClause 153 = .ok (.invokevirtual 239, 3) := by decide +kernel
theorem dX10_readClause_156 : decode cX10_readClause 156 = .ok (.aload_n 0, 1) := by decide +kernel
theorem dX10_readClause_157 : decode cX10_readClause 157 = .ok (.invokevirtual 245, 3) := by decide +kernel
theorem dX10_readClause_160 : decode cX10_readClause 160 = .ok (.istore 4, 2) := by decide +kernel
theorem dX10_readClause_162 : decode cX10_readClause 162 = .ok (.iload 4, 2) := by decide +kernel
theorem dX10_readClause_164 : decode cX10_readClause 164 = .ok (.ifCond .ge 13, 3) := by decide +kernel
theorem dX10_readClause_167 : decode cX10_readClause 167 = .ok (.aload_n 0, 1) := by decide +kernel
theorem dX10_readClause_168 : decode cX10_readClause 168 = .ok (.iconst 1, 1) := by decide +kernel
theorem dX10_readClause_169 : decode cX10_readClause 169 = .ok (.aload_n 0, 1) := by decide +kernel
theorem dX10_readClause_170 : decode cX10_readClause 170 = .ok (.getfield 202, 3) := by decide +kernel
theorem dX10_readClause_173 : decode cX10_readClause 173 = .ok (.invokevirtual 232, 3) := by decide +kernel
theorem dX10_readClause_176 : decode cX10_readClause 176 = .ok (.ireturn, 1) := by decide +kernel
theorem dX10_readClause_177 : decode cX10_readClause 177 = .ok (.aload_n 0, 1) := by decide +kernel
theorem dX10_readClause_178 : decode cX10_readClause 178 = .ok (.aload_n 0, 1) := by decide +kernel
theorem dX10_readClause_179 : decode cX10_readClause 179 = .ok (.getfield 212, 3) := by decide +kernel
theorem dX10_readClause_182 : decode cX10_readClause 182 = .ok (.putfield 202, 3) := by decide +kernel
theorem dX10_readClause_185 : decode cX10_readClause 185 = .ok (.aload_n 0, 1) := by decide +kernel
theorem dX10_readClause_186 : decode cX10_readClause 186 = .ok (.invokevirtual 205, 3) := by decide +kernel
theorem dX10_readClause_189 : decode cX10_readClause 189 = .ok (.bipush 59, 2) := by decide +kernel
theorem dX10_readClause_191 : decode cX10_readClause 191 = .ok (.if_icmp .eq 13, 3) := by decide +kernel
theorem dX10_readClause_194 : decode cX10_readClause 194 = .ok (.aload_n 0, 1) := by decide +kernel
theorem dX10_readClause_195 : decode cX10_readClause 195 = .ok (.iconst 1, 1) := by decide +kernel
theorem dX10_readClause_196 : decode cX10_readClause 196 = .ok (.aload_n 0, 1) := by decide +kernel
theorem dX10_readClause_197 : decode cX10_readClause 197 = .ok (.getfield 202, 3) := by decide +kernel
theorem dX10_readClause_200 : decode cX10_readClause 200 = .ok (.invokevirtual 232, 3) := by decide +kernel
theorem dX10_readClause_203 : decode cX10_readClause 203 = .ok (.ireturn, 1) := by decide +kernel
theorem dX10_readClause_204 : decode cX10_readClause 204 = .ok (.aload_n 0, 1) := by decide +kernel
theorem dX10_readClause_205 : decode cX10_readClause 205 = .ok (.dup, 1) := by decide +kernel
theorem dX10_readClause_206 : decode cX10_readClause 206 = .ok (.getfield 202, 3) := by decide +kernel
theorem dX10_readClause_209 : decode cX10_readClause 209 = .ok (.iconst 1, 1) := by decide +kernel
theorem dX10_readClause_210 : decode cX10_readClause 210 = .ok (.iadd, 1) := by decide +kernel
theorem dX10_readClause_211 : decode cX10_readClause 211 = .ok (.putfield 202, 3) := by decide +kernel
theorem dX10_readClause_214 : decode cX10_readClause 214 = .ok (.aload_n 0, 1) := by decide +kernel
theorem dX10_readClause_215 : decode cX10_readClause 215 = .ok (.getfield 44, 3) := by decide +kernel
theorem dX10_readClause_218 : decode cX10_readClause 218 = .ok (.bipush 11, 2) := by decide +kernel
theorem dX10_readClause_220 : decode cX10_readClause 220 = .ok (.iload_n 1, 1) := by decide +kernel
theorem dX10_readClause_221 : decode cX10_readClause 221 = .ok (.imul, 1) := by decide +kernel
theorem dX10_readClause_222 : decode cX10_readClause 222 = .ok (.iload_n 2, 1) := by decide +kernel
theorem dX10_readClause_223 : decode cX10_readClause 223 = .ok (.iastore, 1) := by decide +kernel
theorem dX10_readClause_224 : decode cX10_readClause 224 = .ok (.aload_n 0, 1) := by decide +kernel
theorem dX10_readClause_225 : decode cX10_readClause 225 = .ok (.getfield 44, 3) := by decide +kernel
theorem dX10_readClause_228 : decode cX10_readClause 228 = .ok (.bipush 11, 2) := by decide +kernel
theorem dX10_readClause_230 : decode cX10_readClause 230 = .ok (.iload_n 1, 1) := by decide +kernel
theorem dX10_readClause_231 : decode cX10_readClause 231 = .ok (.imul, 1) := by decide +kernel
theorem dX10_readClause_232 : decode cX10_readClause 232 = .ok (.iconst 1, 1) := by decide +kernel
theorem dX10_readClause_233 : decode cX10_readClause 233 = .ok (.iadd, 1) := by decide +kernel
theorem dX10_readClause_234 : decode cX10_readClause 234 = .ok (.iload 4, 2) := by decide +kernel
theorem dX10_readClause_236 : decode cX10_readClause 236 = .ok (.iastore, 1) := by decide +kernel
theorem dX10_readClause_237 : decode cX10_readClause 237 = .ok (.iconst 0, 1) := by decide +kernel
theorem dX10_readClause_238 : decode cX10_readClause 238 = .ok (.ireturn, 1) := by decide +kernel
set_option maxRecDepth 20000 in
theorem ggX10_read_X10_here : GoodIn wsX10_read wsX10_here := goodIn_r _ [11, 2, 3, 12, 52, 53, 54, 55, 56, 57, 58, 59, 60, 61, 62, 63, 64, 65, 66, 67, 68, 69, 70, 71, 72, 73, 74, 75, 76, 77, 78, 79, 80, 81, 82, 83, 84, 85, 86, 87] (by decide +kernel) (by decide +kernel)
set_option maxRecDepth 20000 in
theorem gX10_read_X10_here : GoodIn wsX10_read (wsV RX10 205 RX10 yX10_here wsX10_here) := goodIn_app (goodIn_of _ (by decide +kernel)) ggX10_read_X10_here
set_option maxRecDepth 20000 in
theorem ggX10_read_X10_readClause : GoodIn wsX10_read wsX10_readClause := goodIn_r _ [16, 2, 17, 6, 18, 19, 20, 10, 21, 22, 3, 12, 23, 24, 25, 26, 7, 8, 9, 11, 27, 28, 29, 30, 31, 32, 33, 34, 35, 36, 37, 38, 39, 40, 41, 1, 42, 43, 44, 45, 46, 47, 48, 49, 50, 51, 52, 53, 54, 55, 56, 57, 58, 59, 60, 61, 62, 63, 64, 65, 66, 67, 68, 69, 70, 71, 72, 73, 74, 75, 76, 77, 78, 79, 80, 81, 82, 83, 84, 85, 86, 87] (by decide +kernel) (by decide +kernel)
set_option maxRecDepth 20000 in
theorem gX10_read_X10_readClause : GoodIn wsX10_read (wsV RX10 248 RX10 yX10_readClause wsX10_readClause) := goodIn_app (goodIn_of _ (by decide +kernel)) ggX10_read_X10_readClause
theorem dX10_read_0 : decode cX10_read 0 = .ok (.aload_n 0, 1) := by decide +kernel
theorem dX10_read_1 : decode cX10_read 1 = .ok (.iconst (-1), 1) := by decide +kernel
theorem dX10_read_2 : decode cX10_read 2 = .ok (.putfield 38, 3) := by decide +kernel
theorem dX10_read_5 : decode cX10_read 5 = .ok (.aload_n 0, 1) := by decide +kernel
theorem dX10_read_6 : decode cX10_read 6 = .ok (.iconst 0, 1) := by decide +kernel
theorem dX10_read_7 : decode cX10_read 7 = .ok (.putfield 202, 3) := by decide +kernel
theorem dX10_read_10 : decode cX10_read 10 = .ok (.iconst 0, 1) := by decide +kernel
theorem dX10_read_11 : decode cX10_read 11 = .ok (.istore_n 1, 1) := by decide +kernel
theorem dX10_read_12 : decode cX10_read 12 = .ok (.iconst 0, 1) := by decide +kernel
theorem dX10_read_13 : decode cX10_read 13 = .ok (.istore_n 2, 1) := by decide +kernel
theorem dX10_read_14 : decode cX10_read 14 = .ok (.iload_n 2, 1) := by decide +kernel
theorem dX10_read_15 : decode cX10_read 15 = .ok (.ifCond .ne 22, 3) := by decide +kernel
theorem dX10_read_18 : decode cX10_read 18 = .ok (.aload_n 0, 1) := by decide +kernel
theorem dX10_read_19 : decode cX10_read 19 = .ok (.invokevirtual 205, 3) := by decide +kernel
theorem dX10_read_22 : decode cX10_read 22 = .ok (.ifCond .lt 15, 3) := by decide +kernel
theorem dX10_read_25 : decode cX10_read 25 = .ok (.aload_n 0, 1) := by decide +kernel
theorem dX10_read_26 : decode cX10_read 26 = .ok (.iload_n 1, 1) := by decide +kernel
theorem dX10_read_27 : decode cX10_read 27 = .ok (.invokevirtual 248, 3) := by decide +kernel
theorem dX10_read_30 : decode cX10_read 30 = .ok (.istore_n 2, 1) := by decide +kernel
theorem dX10_read_31 : decode cX10_read 31 = .ok (.iinc 1 1, 3) := by decide +kernel
theorem dX10_read_34 : decode cX10_read 34 = .ok (.goto (-20), 3) := by decide +kernel
theorem dX10_read_37 : decode cX10_read 37 = .ok (.aload_n 0, 1) := by decide +kernel
theorem dX10_read_38 : decode cX10_read 38 = .ok (.iconst 0, 1) := by decide +kernel
theorem dX10_read_39 : decode cX10_read 39 = .ok (.putfield 151, 3) := by decide +kernel
theorem dX10_read_42 : decode cX10_read 42 = .ok (.iload_n 2, 1) := by decide +kernel
theorem dX10_read_43 : decode cX10_read 43 = .ok (.ifCond .le 8, 3) := by decide +kernel
theorem dX10_read_46 : decode cX10_read 46 = .ok (.bipush (-10), 2) := by decide +kernel
theorem dX10_read_48 : decode cX10_read 48 = .ok (.iload_n 2, 1) := by decide +kernel
theorem dX10_read_49 : decode cX10_read 49 = .ok (.isub, 1) := by decide +kernel
theorem dX10_read_50 : decode cX10_read 50 = .ok (.ireturn, 1) := by decide +kernel
theorem dX10_read_51 : decode cX10_read 51 = .ok (.aload_n 0, 1) := by decide +kernel
theorem dX10_read_52 : decode cX10_read 52 = .ok (.iload_n 1, 1) := by decide +kernel
theorem dX10_read_53 : decode cX10_read 53 = .ok (.putfield 148, 3) := by decide +kernel
theorem dX10_read_56 : decode cX10_read 56 = .ok (.iconst 0, 1) := by decide +kernel
theorem dX10_read_57 : decode cX10_read 57 = .ok (.istore_n 3, 1) := by decide +kernel
theorem dX10_read_58 : decode cX10_read 58 = .ok (.iload_n 3, 1) := by decide +kernel
theorem dX10_read_59 : decode cX10_read 59 = .ok (.bipush 66, 2) := by decide +kernel
theorem dX10_read_61 : decode cX10_read 61 = .ok (.if_icmp .ge 21, 3) := by decide +kernel
theorem dX10_read_64 : decode cX10_read 64 = .ok (.aload_n 0, 1) := by decide +kernel
theorem dX10_read_65 : decode cX10_read 65 = .ok (.getfield 41, 3) := by decide +kernel
theorem dX10_read_68 : decode cX10_read 68 = .ok (.iload_n 3, 1) := by decide +kernel
theorem dX10_read_69 : decode cX10_read 69 = .ok (.aload_n 0, 1) := by decide +kernel
theorem dX10_read_70 : decode cX10_read 70 = .ok (.getfield 44, 3) := by decide +kernel
theorem dX10_read_73 : decode cX10_read 73 = .ok (.iload_n 3, 1) := by decide +kernel
theorem dX10_read_74 : decode cX10_read 74 = .ok (.iaload, 1) := by decide +kernel
theorem dX10_read_75 : decode cX10_read 75 = .ok (.iastore, 1) := by decide +kernel
theorem dX10_read_76 : decode cX10_read 76 = .ok (.iinc 3 1, 3) := by decide +kernel
theorem dX10_read_79 : decode cX10_read 79 = .ok (.goto (-21), 3) := by decide +kernel
theorem dX10_read_82 : decode cX10_read 82 = .ok (.aload_n 0, 1) := by decide +kernel
theorem dX10_read_83 : decode cX10_read 83 = .ok (.getfield 148, 3) := by decide +kernel
theorem dX10_read_86 : decode cX10_read 86 = .ok (.ireturn, 1) := by decide +kernel
theorem dX10_fault_0 : decode cX10_fault 0 = .ok (.aload_n 0, 1) := by decide +kernel
theorem dX10_fault_1 : decode cX10_fault 1 = .ok (.getfield 38, 3) := by decide +kernel
theorem dX10_fault_4 : decode cX10_fault 4 = .ok (.ireturn, 1) := by decide +kernel
set_option maxRecDepth 20000 in
theorem ggX10_isMet_X10_findState : GoodIn wsX10_isMet wsX10_findState := goodIn_r _ [11, 12, 3, 4, 13, 14, 15, 16, 17, 10, 18, 19, 20, 21, 22, 23, 24, 25, 26, 27, 28, 29, 30, 31, 32, 33, 34, 59, 60, 61, 62, 63, 64, 65, 66, 67, 68, 69, 70, 71, 72, 73, 74, 75, 76, 77, 78, 79, 80, 81, 82, 83, 84, 85, 86, 87, 88, 89, 90, 91, 92, 93, 94] (by decide +kernel) (by decide +kernel)
set_option maxRecDepth 20000 in
theorem gX10_isMet_X10_findState : GoodIn wsX10_isMet (wsV RX10 192 RX10 yX10_findState wsX10_findState) := goodIn_app (goodIn_of _ (by decide +kernel)) ggX10_isMet_X10_findState
set_option maxRecDepth 20000 in
theorem ggX10_isMet_X10_lostAt : GoodIn wsX10_isMet wsX10_lostAt := goodIn_r _ [38, 6, 39, 40, 41, 10, 42, 43, 5, 44, 45, 46, 47, 48, 49, 50, 51, 52, 53, 54, 55, 56, 57, 58, 59, 60, 61, 62, 63, 64, 65, 66, 67, 68, 69, 70, 71, 72, 73, 74, 75, 76, 77, 78, 79, 80, 81, 82, 83, 84, 85, 86, 87, 88, 89, 90, 91, 92, 93, 94] (by decide +kernel) (by decide +kernel)
set_option maxRecDepth 20000 in
theorem gX10_isMet_X10_lostAt : GoodIn wsX10_isMet (wsV RX10 131 RX10 yX10_lostAt wsX10_lostAt) := goodIn_app (goodIn_of _ (by decide +kernel)) ggX10_isMet_X10_lostAt
set_option maxRecDepth 20000 in
theorem ggX10_isMet_X10_placeOf : GoodIn wsX10_isMet wsX10_placeOf := goodIn_r _ [47, 48, 49, 50, 51, 10, 52, 59, 60, 61, 62, 63, 64, 65, 66, 67, 68, 69, 70, 71, 72, 73, 74, 75, 76, 77, 78, 79, 80, 81, 82, 83, 84, 85, 86, 87, 88, 89, 90, 91, 92, 93, 94] (by decide +kernel) (by decide +kernel)
set_option maxRecDepth 20000 in
theorem gX10_isMet_X10_placeOf : GoodIn wsX10_isMet (wsV RX10 120 RX10 yX10_placeOf wsX10_placeOf) := goodIn_app (goodIn_of _ (by decide +kernel)) ggX10_isMet_X10_placeOf
set_option maxRecDepth 20000 in
theorem ggX10_isMet_X10_harmOf : GoodIn wsX10_isMet wsX10_harmOf := goodIn_r _ [56, 57, 58, 50, 51, 10, 52, 59, 60, 61, 62, 63, 64, 65, 66, 67, 68, 69, 70, 71, 72, 73, 74, 75, 76, 77, 78, 79, 80, 81, 82, 83, 84, 85, 86, 87, 88, 89, 90, 91, 92, 93, 94] (by decide +kernel) (by decide +kernel)
set_option maxRecDepth 20000 in
theorem gX10_isMet_X10_harmOf : GoodIn wsX10_isMet (wsV RX10 124 RX10 yX10_harmOf wsX10_harmOf) := goodIn_app (goodIn_of _ (by decide +kernel)) ggX10_isMet_X10_harmOf
theorem dX10_isMet_0 : decode cX10_isMet 0 = .ok (.iload_n 3, 1) := by decide +kernel
theorem dX10_isMet_1 : decode cX10_isMet 1 = .ok (.iconst 1, 1) := by decide +kernel
theorem dX10_isMet_2 : decode cX10_isMet 2 = .ok (.if_icmp .ne 18, 3) := by decide +kernel
theorem dX10_isMet_5 : decode cX10_isMet 5 = .ok (.aload_n 0, 1) := by decide +kernel
theorem dX10_isMet_6 : decode cX10_isMet 6 = .ok (.iload_n 1, 1) := by decide +kernel
theorem dX10_isMet_7 : decode cX10_isMet 7 = .ok (.iload_n 2, 1) := by decide +kernel
theorem dX10_isMet_8 : decode cX10_isMet 8 = .ok (.aload_n 0, 1) := by decide +kernel
theorem dX10_isMet_9 : decode cX10_isMet 9 = .ok (.getfield 141, 3) := by decide +kernel
theorem dX10_isMet_12 : decode cX10_isMet 12 = .ok (.invokevirtual 192, 3) := by decide +kernel
theorem dX10_isMet_15 : decode cX10_isMet 15 = .ok (.ifCond .ne 5, 3) := by decide +kernel
theorem dX10_isMet_18 : decode cX10_isMet 18 = .ok (.iconst 0, 1) := by decide +kernel
theorem dX10_isMet_19 : decode cX10_isMet 19 = .ok (.ireturn, 1) := by decide +kernel
theorem dX10_isMet_20 : decode cX10_isMet 20 = .ok (.iload_n 3, 1) := by decide +kernel
theorem dX10_isMet_21 : decode cX10_isMet 21 = .ok (.ifCond .ne 23, 3) := by decide +kernel
theorem dX10_isMet_24 : decode cX10_isMet 24 = .ok (.aload_n 0, 1) := by decide +kernel
theorem dX10_isMet_25 : decode cX10_isMet 25 = .ok (.iload_n 1, 1) := by decide +kernel
theorem dX10_isMet_26 : decode cX10_isMet 26 = .ok (.iload_n 2, 1) := by decide +kernel
theorem dX10_isMet_27 : decode cX10_isMet 27 = .ok (.invokevirtual 131, 3) := by decide +kernel
theorem dX10_isMet_30 : decode cX10_isMet 30 = .ok (.bipush 100, 2) := by decide +kernel
theorem dX10_isMet_32 : decode cX10_isMet 32 = .ok (.imul, 1) := by decide +kernel
theorem dX10_isMet_33 : decode cX10_isMet 33 = .ok (.aload_n 0, 1) := by decide +kernel
theorem dX10_isMet_34 : decode cX10_isMet 34 = .ok (.getfield 16, 3) := by decide +kernel
theorem dX10_isMet_37 : decode cX10_isMet 37 = .ok (.iload_n 1, 1) := by decide +kernel
theorem dX10_isMet_38 : decode cX10_isMet 38 = .ok (.iaload, 1) := by decide +kernel
theorem dX10_isMet_39 : decode cX10_isMet 39 = .ok (.idiv, 1) := by decide +kernel
theorem dX10_isMet_40 : decode cX10_isMet 40 = .ok (.i2l, 1) := by decide +kernel
theorem dX10_isMet_41 : decode cX10_isMet 41 = .ok (.goto 91, 3) := by decide +kernel
theorem dX10_isMet_44 : decode cX10_isMet 44 = .ok (.iload_n 3, 1) := by decide +kernel
theorem dX10_isMet_45 : decode cX10_isMet 45 = .ok (.iconst 1, 1) := by decide +kernel
theorem dX10_isMet_46 : decode cX10_isMet 46 = .ok (.if_icmp .ne 15, 3) := by decide +kernel
theorem dX10_isMet_49 : decode cX10_isMet 49 = .ok (.aload_n 0, 1) := by decide +kernel
theorem dX10_isMet_50 : decode cX10_isMet 50 = .ok (.getfield 159, 3) := by decide +kernel
theorem dX10_isMet_53 : decode cX10_isMet 53 = .ok (.aload_n 0, 1) := by decide +kernel
theorem dX10_isMet_54 : decode cX10_isMet 54 = .ok (.getfield 163, 3) := by decide +kernel
theorem dX10_isMet_57 : decode cX10_isMet 57 = .ok (.ldiv, 1) := by decide +kernel
theorem dX10_isMet_58 : decode cX10_isMet 58 = .ok (.goto 74, 3) := by decide +kernel
theorem dX10_isMet_61 : decode cX10_isMet 61 = .ok (.iload_n 3, 1) := by decide +kernel
theorem dX10_isMet_62 : decode cX10_isMet 62 = .ok (.iconst 2, 1) := by decide +kernel
theorem dX10_isMet_63 : decode cX10_isMet 63 = .ok (.if_icmp .ne 14, 3) := by decide +kernel
theorem dX10_isMet_66 : decode cX10_isMet 66 = .ok (.aload_n 0, 1) := by decide +kernel
theorem dX10_isMet_67 : decode cX10_isMet 67 = .ok (.iload_n 1, 1) := by decide +kernel
theorem dX10_isMet_68 : decode cX10_isMet 68 = .ok (.iload_n 2, 1) := by decide +kernel
theorem dX10_isMet_69 : decode cX10_isMet 69 = .ok (.iconst 3, 1) := by decide +kernel
theorem dX10_isMet_70 : decode cX10_isMet 70 = .ok (.invokevirtual 120, 3) := by decide +kernel
theorem dX10_isMet_73 : decode cX10_isMet 73 = .ok (.i2l, 1) := by decide +kernel
theorem dX10_isMet_74 : decode cX10_isMet 74 = .ok (.goto 58, 3) := by decide +kernel
theorem dX10_isMet_77 : decode cX10_isMet 77 = .ok (.iload_n 3, 1) := by decide +kernel
theorem dX10_isMet_78 : decode cX10_isMet 78 = .ok (.iconst 3, 1) := by decide +kernel
theorem dX10_isMet_79 : decode cX10_isMet 79 = .ok (.if_icmp .ne 14, 3) := by decide +kernel
theorem dX10_isMet_82 : decode cX10_isMet 82 = .ok (.aload_n 0, 1) := by decide +kernel
theorem dX10_isMet_83 : decode cX10_isMet 83 = .ok (.iload_n 1, 1) := by decide +kernel
theorem dX10_isMet_84 : decode cX10_isMet 84 = .ok (.iload_n 2, 1) := by decide +kernel
theorem dX10_isMet_85 : decode cX10_isMet 85 = .ok (.iconst 2, 1) := by decide +kernel
theorem dX10_isMet_86 : decode cX10_isMet 86 = .ok (.invokevirtual 120, 3) := by decide +kernel
theorem dX10_isMet_89 : decode cX10_isMet 89 = .ok (.i2l, 1) := by decide +kernel
theorem dX10_isMet_90 : decode cX10_isMet 90 = .ok (.goto 42, 3) := by decide +kernel
theorem dX10_isMet_93 : decode cX10_isMet 93 = .ok (.iload_n 3, 1) := by decide +kernel
theorem dX10_isMet_94 : decode cX10_isMet 94 = .ok (.iconst 4, 1) := by decide +kernel
theorem dX10_isMet_95 : decode cX10_isMet 95 = .ok (.if_icmp .ne 13, 3) := by decide +kernel
theorem dX10_isMet_98 : decode cX10_isMet 98 = .ok (.aload_n 0, 1) := by decide +kernel
theorem dX10_isMet_99 : decode cX10_isMet 99 = .ok (.getfield 7, 3) := by decide +kernel
theorem dX10_isMet_102 : decode cX10_isMet 102 = .ok (.iload_n 1, 1) := by decide +kernel
theorem dX10_isMet_103 : decode cX10_isMet 103 = .ok (.iaload, 1) := by decide +kernel
theorem dX10_isMet_104 : decode cX10_isMet 104 = .ok (.i2l, 1) := by decide +kernel
theorem dX10_isMet_105 : decode cX10_isMet 105 = .ok (.goto 27, 3) := by decide +kernel
theorem dX10_isMet_108 : decode cX10_isMet 108 = .ok (.iload_n 3, 1) := by decide +kernel
theorem dX10_isMet_109 : decode cX10_isMet 109 = .ok (.iconst 5, 1) := by decide +kernel
theorem dX10_isMet_110 : decode cX10_isMet 110 = .ok (.if_icmp .ne 15, 3) := by decide +kernel
theorem dX10_isMet_113 : decode cX10_isMet 113 = .ok (.iload_n 2, 1) := by decide +kernel
theorem dX10_isMet_114 : decode cX10_isMet 114 = .ok (.aload_n 0, 1) := by decide +kernel
theorem dX10_isMet_115 : decode cX10_isMet 115 = .ok (.getfield 13, 3) := by decide +kernel
theorem dX10_isMet_118 : decode cX10_isMet 118 = .ok (.iload_n 1, 1) := by decide +kernel
theorem dX10_isMet_119 : decode cX10_isMet 119 = .ok (.iaload, 1) := by decide +kernel
theorem dX10_isMet_120 : decode cX10_isMet 120 = .ok (.isub, 1) := by decide +kernel
theorem dX10_isMet_121 : decode cX10_isMet 121 = .ok (.i2l, 1) := by decide +kernel
theorem dX10_isMet_122 : decode cX10_isMet 122 = .ok (.goto 10, 3) := by decide +kernel
theorem dX10_isMet_125 : decode cX10_isMet 125 = .ok (.aload_n 0, 1) := by decide +kernel
theorem dX10_isMet_126 : decode cX10_isMet 126 = .ok (.iload_n 1, 1) := by decide +kernel
theorem dX10_isMet_127 : decode cX10_isMet 127 = .ok (.iload_n 2, 1) := by decide +kernel
theorem dX10_isMet_128 : decode cX10_isMet 128 = .ok (.invokevirtual 124, 3) := by decide +kernel
theorem dX10_isMet_131 : decode cX10_isMet 131 = .ok (.i2l, 1) := by decide +kernel
theorem dX10_isMet_132 : decode cX10_isMet 132 = .ok (.lstore 6, 2) := by decide +kernel
theorem dX10_isMet_134 : decode cX10_isMet 134 = .ok (.iload 4, 2) := by decide +kernel
theorem dX10_isMet_136 : decode cX10_isMet 136 = .ok (.ifCond .ne 20, 3) := by decide +kernel
theorem dX10_isMet_139 : decode cX10_isMet 139 = .ok (.lload 6, 2) := by decide +kernel
theorem dX10_isMet_141 : decode cX10_isMet 141 = .ok (.iload 5, 2) := by decide +kernel
theorem dX10_isMet_143 : decode cX10_isMet 143 = .ok (.i2l, 1) := by decide +kernel
theorem dX10_isMet_144 : decode cX10_isMet 144 = .ok (.lcmp, 1) := by decide +kernel
theorem dX10_isMet_145 : decode cX10_isMet 145 = .ok (.ifCond .ge 7, 3) := by decide +kernel
theorem dX10_isMet_148 : decode cX10_isMet 148 = .ok (.iconst 1, 1) := by decide +kernel
theorem dX10_isMet_149 : decode cX10_isMet 149 = .ok (.goto 21, 3) := by decide +kernel
theorem dX10_isMet_152 : decode cX10_isMet 152 = .ok (.iconst 0, 1) := by decide +kernel
theorem dX10_isMet_153 : decode cX10_isMet 153 = .ok (.goto 17, 3) := by decide +kernel
theorem dX10_isMet_156 : decode cX10_isMet 156 = .ok (.lload 6, 2) := by decide +kernel
theorem dX10_isMet_158 : decode cX10_isMet 158 = .ok (.iload 5, 2) := by decide +kernel
theorem dX10_isMet_160 : decode cX10_isMet 160 = .ok (.i2l, 1) := by decide +kernel
theorem dX10_isMet_161 : decode cX10_isMet 161 = .ok (.lcmp, 1) := by decide +kernel
theorem dX10_isMet_162 : decode cX10_isMet 162 = .ok (.ifCond .le 7, 3) := by decide +kernel
theorem dX10_isMet_165 : decode cX10_isMet 165 = .ok (.iconst 1, 1) := by decide +kernel
theorem dX10_isMet_166 : decode cX10_isMet 166 = .ok (.goto 4, 3) := by decide +kernel
theorem dX10_isMet_169 : decode cX10_isMet 169 = .ok (.iconst 0, 1) := by decide +kernel
theorem dX10_isMet_170 : decode cX10_isMet 170 = .ok (.ireturn, 1) := by decide +kernel
set_option maxRecDepth 20000 in
theorem ggX10_judgedOf_X10_isMet : GoodIn wsX10_judgedOf wsX10_isMet := goodIn_r _ [7, 8, 9, 10, 11, 12, 13, 14, 15, 16, 6, 17, 18, 19, 20, 21, 22, 23, 24, 25, 26, 27, 28, 29, 30, 31, 32, 33, 34, 35, 36, 37, 38, 39, 40, 41, 42, 43, 44, 45, 46, 47, 48, 49, 50, 51, 52, 53, 54, 55, 56, 57, 58, 59, 60, 61, 62, 63, 64, 65, 66, 67, 68, 69, 70, 71, 72, 73, 74, 75, 76, 77, 78, 79, 80, 81, 82, 83, 84, 85, 86, 87, 88, 89, 90, 91, 92, 93, 94, 95, 96, 97, 98, 99, 100] (by decide +kernel) (by decide +kernel)
set_option maxRecDepth 20000 in
theorem gX10_judgedOf_X10_isMet : GoodIn wsX10_judgedOf (wsV RX10 251 RX10 yX10_isMet wsX10_isMet) := goodIn_app (goodIn_of _ (by decide +kernel)) ggX10_judgedOf_X10_isMet
theorem dX10_judgedOf_0 : decode cX10_judgedOf 0 = .ok (.iconst 0, 1) := by decide +kernel
theorem dX10_judgedOf_1 : decode cX10_judgedOf 1 = .ok (.istore_n 3, 1) := by decide +kernel
theorem dX10_judgedOf_2 : decode cX10_judgedOf 2 = .ok (.iload_n 3, 1) := by decide +kernel
theorem dX10_judgedOf_3 : decode cX10_judgedOf 3 = .ok (.aload_n 0, 1) := by decide +kernel
theorem dX10_judgedOf_4 : decode cX10_judgedOf 4 = .ok (.getfield 148, 3) := by decide +kernel
theorem dX10_judgedOf_7 : decode cX10_judgedOf 7 = .ok (.if_icmp .ge 103, 3) := by decide +kernel
theorem dX10_judgedOf_10 : decode cX10_judgedOf 10 = .ok (.iconst 1, 1) := by decide +kernel
theorem dX10_judgedOf_11 : decode cX10_judgedOf 11 = .ok (.istore 4, 2) := by decide +kernel
theorem dX10_judgedOf_13 : decode cX10_judgedOf 13 = .ok (.iconst 0, 1) := by decide +kernel
theorem dX10_judgedOf_14 : decode cX10_judgedOf 14 = .ok (.istore 5, 2) := by decide +kernel
theorem dX10_judgedOf_16 : decode cX10_judgedOf 16 = .ok (.iload 5, 2) := by decide +kernel
theorem dX10_judgedOf_18 : decode cX10_judgedOf 18 = .ok (.aload_n 0, 1) := by decide +kernel
theorem dX10_judgedOf_19 : decode cX10_judgedOf 19 = .ok (.getfield 41, 3) := by decide +kernel
theorem dX10_judgedOf_22 : decode cX10_judgedOf 22 = .ok (.bipush 11, 2) := by decide +kernel
theorem dX10_judgedOf_24 : decode cX10_judgedOf 24 = .ok (.iload_n 3, 1) := by decide +kernel
theorem dX10_judgedOf_25 : decode cX10_judgedOf 25 = .ok (.imul, 1) := by decide +kernel
theorem dX10_judgedOf_26 : decode cX10_judgedOf 26 = .ok (.iaload, 1) := by decide +kernel
theorem dX10_judgedOf_27 : decode cX10_judgedOf 27 = .ok (.if_icmp .ge 60, 3) := by decide +kernel
theorem dX10_judgedOf_30 : decode cX10_judgedOf 30 = .ok (.iload 4, 2) := by decide +kernel
theorem dX10_judgedOf_32 : decode cX10_judgedOf 32 = .ok (.ifCond .eq 55, 3) := by decide +kernel
theorem dX10_judgedOf_35 : decode cX10_judgedOf 35 = .ok (.bipush 11, 2) := by decide +kernel
theorem dX10_judgedOf_37 : decode cX10_judgedOf 37 = .ok (.iload_n 3, 1) := by decide +kernel
theorem dX10_judgedOf_38 : decode cX10_judgedOf 38 = .ok (.imul, 1) := by decide +kernel
theorem dX10_judgedOf_39 : decode cX10_judgedOf 39 = .ok (.iconst 2, 1) := by decide +kernel
theorem dX10_judgedOf_40 : decode cX10_judgedOf 40 = .ok (.iadd, 1) := by decide +kernel
theorem dX10_judgedOf_41 : decode cX10_judgedOf 41 = .ok (.iconst 3, 1) := by decide +kernel
theorem dX10_judgedOf_42 : decode cX10_judgedOf 42 = .ok (.iload 5, 2) := by decide +kernel
theorem dX10_judgedOf_44 : decode cX10_judgedOf 44 = .ok (.imul, 1) := by decide +kernel
theorem dX10_judgedOf_45 : decode cX10_judgedOf 45 = .ok (.iadd, 1) := by decide +kernel
theorem dX10_judgedOf_46 : decode cX10_judgedOf 46 = .ok (.istore 6, 2) := by decide +kernel
theorem dX10_judgedOf_48 : decode cX10_judgedOf 48 = .ok (.aload_n 0, 1) := by decide +kernel
theorem dX10_judgedOf_49 : decode cX10_judgedOf 49 = .ok (.iload_n 1, 1) := by decide +kernel
theorem dX10_judgedOf_50 : decode cX10_judgedOf 50 = .ok (.iload_n 2, 1) := by decide +kernel
theorem dX10_judgedOf_51 : decode cX10_judgedOf 51 = .ok (.aload_n 0, 1) := by decide +kernel
theorem dX10_judgedOf_52 : decode cX10_judgedOf 52 = .ok (.getfield 41, 3) := by decide +kernel
theorem dX10_judgedOf_55 : decode cX10_judgedOf 55 = .ok (.iload 6, 2) := by decide +kernel
theorem dX10_judgedOf_57 : decode cX10_judgedOf 57 = .ok (.iaload, 1) := by decide +kernel
theorem dX10_judgedOf_58 : decode cX10_judgedOf 58 = .ok (.aload_n 0, 1) := by decide +kernel
theorem dX10_judgedOf_59 : decode cX10_judgedOf 59 = .ok (.getfield 41, 3) := by decide +kernel
theorem dX10_judgedOf_62 : decode cX10_judgedOf 62 = .ok (.iload 6, 2) := by decide +kernel
theorem dX10_judgedOf_64 : decode cX10_judgedOf 64 = .ok (.iconst 1, 1) := by decide +kernel
theorem dX10_judgedOf_65 : decode cX10_judgedOf 65 = .ok (.iadd, 1) := by decide +kernel
theorem dX10_judgedOf_66 : decode cX10_judgedOf 66 = .ok (.iaload, 1) := by decide +kernel
theorem dX10_judgedOf_67 : decode cX10_judgedOf 67 = .ok (.aload_n 0, 1) := by decide +kernel
theorem dX10_judgedOf_68 : decode cX10_judgedOf 68 = .ok (.getfield 41, 3) := by decide +kernel
theorem dX10_judgedOf_71 : decode cX10_judgedOf 71 = .ok (.iload 6, 2) := by decide +kernel
theorem dX10_judgedOf_73 : decode cX10_judgedOf 73 = .ok (.iconst 2, 1) := by decide +kernel
theorem dX10_judgedOf_74 : decode cX10_judgedOf 74 = .ok (.iadd, 1) := by decide +kernel
theorem dX10_judgedOf_75 : decode cX10_judgedOf 75 = .ok (.iaload, 1) := by decide +kernel
theorem dX10_judgedOf_76 : decode cX10_judgedOf 76 = .ok (.invokevirtual 251, 3) := by decide +kernel
theorem dX10_judgedOf_79 : decode cX10_judgedOf 79 = .ok (.istore 4, 2) := by decide +kernel
theorem dX10_judgedOf_81 : decode cX10_judgedOf 81 = .ok (.iinc 5 1, 3) := by decide +kernel
theorem dX10_judgedOf_84 : decode cX10_judgedOf 84 = .ok (.goto (-68), 3) := by decide +kernel
theorem dX10_judgedOf_87 : decode cX10_judgedOf 87 = .ok (.iload 4, 2) := by decide +kernel
theorem dX10_judgedOf_89 : decode cX10_judgedOf 89 = .ok (.ifCond .eq 15, 3) := by decide +kernel
theorem dX10_judgedOf_92 : decode cX10_judgedOf 92 = .ok (.aload_n 0, 1) := by decide +kernel
theorem dX10_judgedOf_93 : decode cX10_judgedOf 93 = .ok (.getfield 41, 3) := by decide +kernel
theorem dX10_judgedOf_96 : decode cX10_judgedOf 96 = .ok (.bipush 11, 2) := by decide +kernel
theorem dX10_judgedOf_98 : decode cX10_judgedOf 98 = .ok (.iload_n 3, 1) := by decide +kernel
theorem dX10_judgedOf_99 : decode cX10_judgedOf 99 = .ok (.imul, 1) := by decide +kernel
theorem dX10_judgedOf_100 : decode cX10_judgedOf 100 = .ok (.iconst 1, 1) := by decide +kernel
theorem dX10_judgedOf_101 : decode cX10_judgedOf 101 = .ok (.iadd, 1) := by decide +kernel
theorem dX10_judgedOf_102 : decode cX10_judgedOf 102 = .ok (.iaload, 1) := by decide +kernel
theorem dX10_judgedOf_103 : decode cX10_judgedOf 103 = .ok (.ireturn, 1) := by decide +kernel
theorem dX10_judgedOf_104 : decode cX10_judgedOf 104 = .ok (.iinc 3 1, 3) := by decide +kernel
theorem dX10_judgedOf_107 : decode cX10_judgedOf 107 = .ok (.goto (-105), 3) := by decide +kernel
theorem dX10_judgedOf_110 : decode cX10_judgedOf 110 = .ok (.iconst 0, 1) := by decide +kernel
theorem dX10_judgedOf_111 : decode cX10_judgedOf 111 = .ok (.ireturn, 1) := by decide +kernel
set_option maxRecDepth 20000 in
theorem ggX10_judged_X10_isBlock : GoodIn wsX10_judged wsX10_isBlock := goodIn_r _ [5, 6, 7, 8, 4, 9, 81, 82, 83, 84, 85, 86, 87, 88, 89, 90, 91, 92, 93, 94, 95, 96, 97, 98, 99, 100, 101, 102, 103, 104, 105, 106, 107, 108, 109, 110, 111, 112, 113, 114, 115, 116] (by decide +kernel) (by decide +kernel)
set_option maxRecDepth 20000 in
theorem gX10_judged_X10_isBlock : GoodIn wsX10_judged (wsV RX10 101 RX10 yX10_isBlock wsX10_isBlock) := goodIn_app (goodIn_of _ (by decide +kernel)) ggX10_judged_X10_isBlock
set_option maxRecDepth 20000 in
theorem ggX10_judged_X10_isYear : GoodIn wsX10_judged wsX10_isYear := goodIn_r _ [12, 13, 7, 8, 4, 9] (by decide +kernel) (by decide +kernel)
set_option maxRecDepth 20000 in
theorem gX10_judged_X10_isYear : GoodIn wsX10_judged (va_wsS RX10 95 yX10_isYear wsX10_isYear) := goodIn_app (goodIn_of _ (by decide +kernel)) ggX10_judged_X10_isYear
set_option maxRecDepth 20000 in
theorem ggX10_judged_X10_judgedOf : GoodIn wsX10_judged wsX10_judgedOf := goodIn_r _ [17, 18, 19, 20, 21, 22, 4, 23, 24, 25, 26, 27, 28, 29, 30, 31, 32, 33, 34, 35, 36, 37, 38, 39, 40, 41, 42, 43, 44, 45, 46, 47, 48, 49, 50, 51, 52, 53, 54, 55, 56, 57, 58, 59, 60, 61, 62, 63, 64, 65, 66, 67, 68, 69, 70, 71, 72, 73, 74, 75, 76, 77, 78, 79, 80, 81, 82, 83, 84, 85, 86, 87, 88, 89, 90, 91, 92, 93, 94, 95, 96, 97, 98, 99, 100, 101, 102, 103, 104, 105, 106, 107, 108, 109, 110, 111, 112, 113, 114, 115, 116] (by decide +kernel) (by decide +kernel)
set_option maxRecDepth 20000 in
theorem gX10_judged_X10_judgedOf : GoodIn wsX10_judged (wsV RX10 255 RX10 yX10_judgedOf wsX10_judgedOf) := goodIn_app (goodIn_of _ (by decide +kernel)) ggX10_judged_X10_judgedOf
theorem dX10_judged_0 : decode cX10_judged 0 = .ok (.aload_n 0, 1) := by decide +kernel
theorem dX10_judged_1 : decode cX10_judged 1 = .ok (.iload_n 1, 1) := by decide +kernel
theorem dX10_judged_2 : decode cX10_judged 2 = .ok (.invokevirtual 101, 3) := by decide +kernel
theorem dX10_judged_5 : decode cX10_judged 5 = .ok (.ifCond .ne 7, 3) := by decide +kernel
theorem dX10_judged_8 : decode cX10_judged 8 = .ok (.sipush (-1001), 3) := by decide +kernel
theorem dX10_judged_11 : decode cX10_judged 11 = .ok (.ireturn, 1) := by decide +kernel
theorem dX10_judged_12 : decode cX10_judged 12 = .ok (.iload_n 2, 1) := by decide +kernel
theorem dX10_judged_13 : decode cX10_judged 13 = .ok (.invokestatic 95, 3) := by decide +kernel
theorem dX10_judged_16 : decode cX10_judged 16 = .ok (.ifCond .eq 12, 3) := by decide +kernel
theorem dX10_judged_19 : decode cX10_judged 19 = .ok (.aload_n 0, 1) := by decide +kernel
theorem dX10_judged_20 : decode cX10_judged 20 = .ok (.iload_n 1, 1) := by decide +kernel
theorem dX10_judged_21 : decode cX10_judged 21 = .ok (.iload_n 2, 1) := by decide +kernel
theorem dX10_judged_22 : decode cX10_judged 22 = .ok (.invokevirtual 255, 3) := by decide +kernel
theorem dX10_judged_25 : decode cX10_judged 25 = .ok (.goto 6, 3) := by decide +kernel
theorem dX10_judged_28 : decode cX10_judged 28 = .ok (.sipush (-1002), 3) := by decide +kernel
theorem dX10_judged_31 : decode cX10_judged 31 = .ok (.ireturn, 1) := by decide +kernel
set_option maxRecDepth 20000 in
theorem ggX10_acts_X10_isYear : GoodIn wsX10_acts wsX10_isYear := goodIn_r _ [6, 7, 8, 9, 5, 10] (by decide +kernel) (by decide +kernel)
set_option maxRecDepth 20000 in
theorem gX10_acts_X10_isYear : GoodIn wsX10_acts (va_wsS RX10 95 yX10_isYear wsX10_isYear) := goodIn_app (goodIn_of _ (by decide +kernel)) ggX10_acts_X10_isYear
set_option maxRecDepth 20000 in
theorem ggX10_acts_X10_in : GoodIn wsX10_acts wsX10_in := goodIn_r _ [10] (by decide +kernel) (by decide +kernel)
set_option maxRecDepth 20000 in
theorem gX10_acts_X10_in : GoodIn wsX10_acts (va_wsS RX10 86 yX10_in wsX10_in) := goodIn_app (goodIn_of _ (by decide +kernel)) ggX10_acts_X10_in
set_option maxRecDepth 20000 in
theorem ggX10_acts_X10_judgedOf : GoodIn wsX10_acts wsX10_judgedOf := goodIn_r _ [14, 15, 16, 17, 18, 19, 5, 20, 21, 22, 23, 24, 25, 26, 27, 28, 29, 30, 31, 32, 33, 34, 35, 36, 37, 1, 38, 39, 40, 41, 42, 43, 44, 45, 46, 47, 48, 49, 50, 51, 52, 53, 54, 55, 56, 57, 58, 59, 60, 61, 62, 63, 64, 65, 66, 67, 68, 69, 70, 71, 72, 73, 74, 75, 76, 77, 78, 79, 80, 81, 82, 83, 84, 85, 86, 87, 88, 89, 90, 91, 92, 93, 94, 95, 96, 97, 98, 99, 100, 101, 102, 103, 104, 105, 106, 107, 108, 109, 110, 111, 112] (by decide +kernel) (by decide +kernel)
set_option maxRecDepth 20000 in
theorem gX10_acts_X10_judgedOf : GoodIn wsX10_acts (wsV RX10 255 RX10 yX10_judgedOf wsX10_judgedOf) := goodIn_app (goodIn_of _ (by decide +kernel)) ggX10_acts_X10_judgedOf
theorem dX10_acts_0 : decode cX10_acts 0 = .ok (.iload_n 1, 1) := by decide +kernel
theorem dX10_acts_1 : decode cX10_acts 1 = .ok (.invokestatic 95, 3) := by decide +kernel
theorem dX10_acts_4 : decode cX10_acts 4 = .ok (.ifCond .eq 15, 3) := by decide +kernel
theorem dX10_acts_7 : decode cX10_acts 7 = .ok (.iload_n 2, 1) := by decide +kernel
theorem dX10_acts_8 : decode cX10_acts 8 = .ok (.i2l, 1) := by decide +kernel
theorem dX10_acts_9 : decode cX10_acts 9 = .ok (.lconst 0, 1) := by decide +kernel
theorem dX10_acts_10 : decode cX10_acts 10 = .ok (.ldc2_w 173, 3) := by decide +kernel
theorem dX10_acts_13 : decode cX10_acts 13 = .ok (.invokestatic 86, 3) := by decide +kernel
theorem dX10_acts_16 : decode cX10_acts 16 = .ok (.ifCond .ne 7, 3) := by decide +kernel
theorem dX10_acts_19 : decode cX10_acts 19 = .ok (.sipush (-1002), 3) := by decide +kernel
theorem dX10_acts_22 : decode cX10_acts 22 = .ok (.ireturn, 1) := by decide +kernel
theorem dX10_acts_23 : decode cX10_acts 23 = .ok (.iconst 0, 1) := by decide +kernel
theorem dX10_acts_24 : decode cX10_acts 24 = .ok (.istore_n 3, 1) := by decide +kernel
theorem dX10_acts_25 : decode cX10_acts 25 = .ok (.iconst 0, 1) := by decide +kernel
theorem dX10_acts_26 : decode cX10_acts 26 = .ok (.istore 4, 2) := by decide +kernel
theorem dX10_acts_28 : decode cX10_acts 28 = .ok (.iload 4, 2) := by decide +kernel
theorem dX10_acts_30 : decode cX10_acts 30 = .ok (.aload_n 0, 1) := by decide +kernel
theorem dX10_acts_31 : decode cX10_acts 31 = .ok (.getfield 90, 3) := by decide +kernel
theorem dX10_acts_34 : decode cX10_acts 34 = .ok (.if_icmp .ge 28, 3) := by decide +kernel
theorem dX10_acts_37 : decode cX10_acts 37 = .ok (.iload_n 3, 1) := by decide +kernel
theorem dX10_acts_38 : decode cX10_acts 38 = .ok (.aload_n 0, 1) := by decide +kernel
theorem dX10_acts_39 : decode cX10_acts 39 = .ok (.iload 4, 2) := by decide +kernel
theorem dX10_acts_41 : decode cX10_acts 41 = .ok (.iload_n 1, 1) := by decide +kernel
theorem dX10_acts_42 : decode cX10_acts 42 = .ok (.invokevirtual 255, 3) := by decide +kernel
theorem dX10_acts_45 : decode cX10_acts 45 = .ok (.iload_n 2, 1) := by decide +kernel
theorem dX10_acts_46 : decode cX10_acts 46 = .ok (.if_icmp .ne 7, 3) := by decide +kernel
theorem dX10_acts_49 : decode cX10_acts 49 = .ok (.iconst 1, 1) := by decide +kernel
theorem dX10_acts_50 : decode cX10_acts 50 = .ok (.goto 4, 3) := by decide +kernel
theorem dX10_acts_53 : decode cX10_acts 53 = .ok (.iconst 0, 1) := by decide +kernel
theorem dX10_acts_54 : decode cX10_acts 54 = .ok (.iadd, 1) := by decide +kernel
theorem dX10_acts_55 : decode cX10_acts 55 = .ok (.istore_n 3, 1) := by decide +kernel
theorem dX10_acts_56 : decode cX10_acts 56 = .ok (.iinc 4 1, 3) := by decide +kernel
theorem dX10_acts_59 : decode cX10_acts 59 = .ok (.goto (-31), 3) := by decide +kernel
theorem dX10_acts_62 : decode cX10_acts 62 = .ok (.iload_n 3, 1) := by decide +kernel
theorem dX10_acts_63 : decode cX10_acts 63 = .ok (.ireturn, 1) := by decide +kernel
theorem dX10_sumOf_0 : decode cX10_sumOf 0 = .ok (.iconst 0, 1) := by decide +kernel
theorem dX10_sumOf_1 : decode cX10_sumOf 1 = .ok (.istore 4, 2) := by decide +kernel
theorem dX10_sumOf_3 : decode cX10_sumOf 3 = .ok (.iconst 0, 1) := by decide +kernel
theorem dX10_sumOf_4 : decode cX10_sumOf 4 = .ok (.istore 5, 2) := by decide +kernel
theorem dX10_sumOf_6 : decode cX10_sumOf 6 = .ok (.iload 5, 2) := by decide +kernel
theorem dX10_sumOf_8 : decode cX10_sumOf 8 = .ok (.iconst 4, 1) := by decide +kernel
theorem dX10_sumOf_9 : decode cX10_sumOf 9 = .ok (.if_icmp .ge 25, 3) := by decide +kernel
theorem dX10_sumOf_12 : decode cX10_sumOf 12 = .ok (.aload_n 0, 1) := by decide +kernel
theorem dX10_sumOf_13 : decode cX10_sumOf 13 = .ok (.getfield 78, 3) := by decide +kernel
theorem dX10_sumOf_16 : decode cX10_sumOf 16 = .ok (.iload 5, 2) := by decide +kernel
theorem dX10_sumOf_18 : decode cX10_sumOf 18 = .ok (.iconst 0, 1) := by decide +kernel
theorem dX10_sumOf_19 : decode cX10_sumOf 19 = .ok (.iastore, 1) := by decide +kernel
theorem dX10_sumOf_20 : decode cX10_sumOf 20 = .ok (.aload_n 0, 1) := by decide +kernel
theorem dX10_sumOf_21 : decode cX10_sumOf 21 = .ok (.getfield 81, 3) := by decide +kernel
theorem dX10_sumOf_24 : decode cX10_sumOf 24 = .ok (.iload 5, 2) := by decide +kernel
theorem dX10_sumOf_26 : decode cX10_sumOf 26 = .ok (.iconst 0, 1) := by decide +kernel
theorem dX10_sumOf_27 : decode cX10_sumOf 27 = .ok (.iastore, 1) := by decide +kernel
theorem dX10_sumOf_28 : decode cX10_sumOf 28 = .ok (.iinc 5 1, 3) := by decide +kernel
theorem dX10_sumOf_31 : decode cX10_sumOf 31 = .ok (.goto (-25), 3) := by decide +kernel
theorem dX10_sumOf_34 : decode cX10_sumOf 34 = .ok (.iconst 0, 1) := by decide +kernel
theorem dX10_sumOf_35 : decode cX10_sumOf 35 = .ok (.istore 5, 2) := by decide +kernel
theorem dX10_sumOf_37 : decode cX10_sumOf 37 = .ok (.iload 5, 2) := by decide +kernel
theorem dX10_sumOf_39 : decode cX10_sumOf 39 = .ok (.iload_n 1, 1) := by decide +kernel
theorem dX10_sumOf_40 : decode cX10_sumOf 40 = .ok (.if_icmp .ge 126, 3) := by decide +kernel
theorem dX10_sumOf_43 : decode cX10_sumOf 43 = .ok (.aload_n 0, 1) := by decide +kernel
theorem dX10_sumOf_44 : decode cX10_sumOf 44 = .ok (.getfield 75, 3) := by decide +kernel
theorem dX10_sumOf_47 : decode cX10_sumOf 47 = .ok (.iload 5, 2) := by decide +kernel
theorem dX10_sumOf_49 : decode cX10_sumOf 49 = .ok (.iaload, 1) := by decide +kernel
theorem dX10_sumOf_50 : decode cX10_sumOf 50 = .ok (.istore 6, 2) := by decide +kernel
theorem dX10_sumOf_52 : decode cX10_sumOf 52 = .ok (.iload 6, 2) := by decide +kernel
theorem dX10_sumOf_54 : decode cX10_sumOf 54 = .ok (.iload_n 2, 1) := by decide +kernel
theorem dX10_sumOf_55 : decode cX10_sumOf 55 = .ok (.if_icmp .ne 24, 3) := by decide +kernel
theorem dX10_sumOf_58 : decode cX10_sumOf 58 = .ok (.iload 4, 2) := by decide +kernel
theorem dX10_sumOf_60 : decode cX10_sumOf 60 = .ok (.iconst 3, 1) := by decide +kernel
theorem dX10_sumOf_61 : decode cX10_sumOf 61 = .ok (.aload_n 0, 1) := by decide +kernel
theorem dX10_sumOf_62 : decode cX10_sumOf 62 = .ok (.getfield 69, 3) := by decide +kernel
theorem dX10_sumOf_65 : decode cX10_sumOf 65 = .ok (.iconst 5, 1) := by decide +kernel
theorem dX10_sumOf_66 : decode cX10_sumOf 66 = .ok (.iload 5, 2) := by decide +kernel
theorem dX10_sumOf_68 : decode cX10_sumOf 68 = .ok (.imul, 1) := by decide +kernel
theorem dX10_sumOf_69 : decode cX10_sumOf 69 = .ok (.iload_n 2, 1) := by decide +kernel
theorem dX10_sumOf_70 : decode cX10_sumOf 70 = .ok (.iadd, 1) := by decide +kernel
theorem dX10_sumOf_71 : decode cX10_sumOf 71 = .ok (.iaload, 1) := by decide +kernel
theorem dX10_sumOf_72 : decode cX10_sumOf 72 = .ok (.imul, 1) := by decide +kernel
theorem dX10_sumOf_73 : decode cX10_sumOf 73 = .ok (.iadd, 1) := by decide +kernel
theorem dX10_sumOf_74 : decode cX10_sumOf 74 = .ok (.istore 4, 2) := by decide +kernel
theorem dX10_sumOf_76 : decode cX10_sumOf 76 = .ok (.goto 84, 3) := by decide +kernel
theorem dX10_sumOf_79 : decode cX10_sumOf 79 = .ok (.aload_n 0, 1) := by decide +kernel
theorem dX10_sumOf_80 : decode cX10_sumOf 80 = .ok (.getfield 78, 3) := by decide +kernel
theorem dX10_sumOf_83 : decode cX10_sumOf 83 = .ok (.iload 6, 2) := by decide +kernel
theorem dX10_sumOf_85 : decode cX10_sumOf 85 = .ok (.dup2, 1) := by decide +kernel
theorem dX10_sumOf_86 : decode cX10_sumOf 86 = .ok (.iaload, 1) := by decide +kernel
theorem dX10_sumOf_87 : decode cX10_sumOf 87 = .ok (.bipush 10, 2) := by decide +kernel
theorem dX10_sumOf_89 : decode cX10_sumOf 89 = .ok (.aload_n 0, 1) := by decide +kernel
theorem dX10_sumOf_90 : decode cX10_sumOf 90 = .ok (.getfield 69, 3) := by decide +kernel
theorem dX10_sumOf_93 : decode cX10_sumOf 93 = .ok (.iconst 5, 1) := by decide +kernel
theorem dX10_sumOf_94 : decode cX10_sumOf 94 = .ok (.iload 5, 2) := by decide +kernel
theorem dX10_sumOf_96 : decode cX10_sumOf 96 = .ok (.imul, 1) := by decide +kernel
theorem dX10_sumOf_97 : decode cX10_sumOf 97 = .ok (.iload 6, 2) := by decide +kernel
theorem dX10_sumOf_99 : decode cX10_sumOf 99 = .ok (.iadd, 1) := by decide +kernel
theorem dX10_sumOf_100 : decode cX10_sumOf 100 = .ok (.iaload, 1) := by decide +kernel
theorem dX10_sumOf_101 : decode cX10_sumOf 101 = .ok (.iadd, 1) := by decide +kernel
theorem dX10_sumOf_102 : decode cX10_sumOf 102 = .ok (.aload_n 0, 1) := by decide +kernel
theorem dX10_sumOf_103 : decode cX10_sumOf 103 = .ok (.getfield 81, 3) := by decide +kernel
theorem dX10_sumOf_106 : decode cX10_sumOf 106 = .ok (.iload 6, 2) := by decide +kernel
theorem dX10_sumOf_108 : decode cX10_sumOf 108 = .ok (.iaload, 1) := by decide +kernel
theorem dX10_sumOf_109 : decode cX10_sumOf 109 = .ok (.aload_n 0, 1) := by decide +kernel
theorem dX10_sumOf_110 : decode cX10_sumOf 110 = .ok (.getfield 72, 3) := by decide +kernel
theorem dX10_sumOf_113 : decode cX10_sumOf 113 = .ok (.iconst 5, 1) := by decide +kernel
theorem dX10_sumOf_114 : decode cX10_sumOf 114 = .ok (.iload 5, 2) := by decide +kernel
theorem dX10_sumOf_116 : decode cX10_sumOf 116 = .ok (.imul, 1) := by decide +kernel
theorem dX10_sumOf_117 : decode cX10_sumOf 117 = .ok (.iload 6, 2) := by decide +kernel
theorem dX10_sumOf_119 : decode cX10_sumOf 119 = .ok (.iadd, 1) := by decide +kernel
theorem dX10_sumOf_120 : decode cX10_sumOf 120 = .ok (.iaload, 1) := by decide +kernel
theorem dX10_sumOf_121 : decode cX10_sumOf 121 = .ok (.ishr, 1) := by decide +kernel
theorem dX10_sumOf_122 : decode cX10_sumOf 122 = .ok (.iconst 1, 1) := by decide +kernel
theorem dX10_sumOf_123 : decode cX10_sumOf 123 = .ok (.iand, 1) := by decide +kernel
theorem dX10_sumOf_124 : decode cX10_sumOf 124 = .ok (.ifCond .ne 8, 3) := by decide +kernel
theorem dX10_sumOf_127 : decode cX10_sumOf 127 = .ok (.bipush 25, 2) := by decide +kernel
theorem dX10_sumOf_129 : decode cX10_sumOf 129 = .ok (.goto 4, 3) := by decide +kernel
theorem dX10_sumOf_132 : decode cX10_sumOf 132 = .ok (.iconst 0, 1) := by decide +kernel
theorem dX10_sumOf_133 : decode cX10_sumOf 133 = .ok (.iadd, 1) := by decide +kernel
theorem dX10_sumOf_134 : decode cX10_sumOf 134 = .ok (.iadd, 1) := by decide +kernel
theorem dX10_sumOf_135 : decode cX10_sumOf 135 = .ok (.iastore, 1) := by decide +kernel
theorem dX10_sumOf_136 : decode cX10_sumOf 136 = .ok (.aload_n 0, 1) := by decide +kernel
theorem dX10_sumOf_137 : decode cX10_sumOf 137 = .ok (.getfield 81, 3) := by decide +kernel
theorem dX10_sumOf_140 : decode cX10_sumOf 140 = .ok (.iload 6, 2) := by decide +kernel
theorem dX10_sumOf_142 : decode cX10_sumOf 142 = .ok (.dup2, 1) := by decide +kernel
theorem dX10_sumOf_143 : decode cX10_sumOf 143 = .ok (.iaload, 1) := by decide +kernel
theorem dX10_sumOf_144 : decode cX10_sumOf 144 = .ok (.iconst 1, 1) := by decide +kernel
theorem dX10_sumOf_145 : decode cX10_sumOf 145 = .ok (.aload_n 0, 1) := by decide +kernel
theorem dX10_sumOf_146 : decode cX10_sumOf 146 = .ok (.getfield 72, 3) := by decide +kernel
theorem dX10_sumOf_149 : decode cX10_sumOf 149 = .ok (.iconst 5, 1) := by decide +kernel
theorem dX10_sumOf_150 : decode cX10_sumOf 150 = .ok (.iload 5, 2) := by decide +kernel
theorem dX10_sumOf_152 : decode cX10_sumOf 152 = .ok (.imul, 1) := by decide +kernel
theorem dX10_sumOf_153 : decode cX10_sumOf 153 = .ok (.iload 6, 2) := by decide +kernel
theorem dX10_sumOf_155 : decode cX10_sumOf 155 = .ok (.iadd, 1) := by decide +kernel
theorem dX10_sumOf_156 : decode cX10_sumOf 156 = .ok (.iaload, 1) := by decide +kernel
theorem dX10_sumOf_157 : decode cX10_sumOf 157 = .ok (.ishl, 1) := by decide +kernel
theorem dX10_sumOf_158 : decode cX10_sumOf 158 = .ok (.ior, 1) := by decide +kernel
theorem dX10_sumOf_159 : decode cX10_sumOf 159 = .ok (.iastore, 1) := by decide +kernel
theorem dX10_sumOf_160 : decode cX10_sumOf 160 = .ok (.iinc 5 1, 3) := by decide +kernel
theorem dX10_sumOf_163 : decode cX10_sumOf 163 = .ok (.goto (-126), 3) := by decide +kernel
theorem dX10_sumOf_166 : decode cX10_sumOf 166 = .ok (.iconst 0, 1) := by decide +kernel
theorem dX10_sumOf_167 : decode cX10_sumOf 167 = .ok (.istore 5, 2) := by decide +kernel
theorem dX10_sumOf_169 : decode cX10_sumOf 169 = .ok (.iload 5, 2) := by decide +kernel
theorem dX10_sumOf_171 : decode cX10_sumOf 171 = .ok (.iload_n 2, 1) := by decide +kernel
theorem dX10_sumOf_172 : decode cX10_sumOf 172 = .ok (.if_icmp .ge 34, 3) := by decide +kernel
theorem dX10_sumOf_175 : decode cX10_sumOf 175 = .ok (.aload_n 0, 1) := by decide +kernel
theorem dX10_sumOf_176 : decode cX10_sumOf 176 = .ok (.getfield 78, 3) := by decide +kernel
theorem dX10_sumOf_179 : decode cX10_sumOf 179 = .ok (.iload 5, 2) := by decide +kernel
theorem dX10_sumOf_181 : decode cX10_sumOf 181 = .ok (.iaload, 1) := by decide +kernel
theorem dX10_sumOf_182 : decode cX10_sumOf 182 = .ok (.iload_n 3, 1) := by decide +kernel
theorem dX10_sumOf_183 : decode cX10_sumOf 183 = .ok (.if_icmp .le 5, 3) := by decide +kernel
theorem dX10_sumOf_186 : decode cX10_sumOf 186 = .ok (.iconst (-1), 1) := by decide +kernel
theorem dX10_sumOf_187 : decode cX10_sumOf 187 = .ok (.ireturn, 1) := by decide +kernel
theorem dX10_sumOf_188 : decode cX10_sumOf 188 = .ok (.iload 4, 2) := by decide +kernel
theorem dX10_sumOf_190 : decode cX10_sumOf 190 = .ok (.aload_n 0, 1) := by decide +kernel
theorem dX10_sumOf_191 : decode cX10_sumOf 191 = .ok (.getfield 78, 3) := by decide +kernel
theorem dX10_sumOf_194 : decode cX10_sumOf 194 = .ok (.iload 5, 2) := by decide +kernel
theorem dX10_sumOf_196 : decode cX10_sumOf 196 = .ok (.iaload, 1) := by decide +kernel
theorem dX10_sumOf_197 : decode cX10_sumOf 197 = .ok (.iadd, 1) := by decide +kernel
theorem dX10_sumOf_198 : decode cX10_sumOf 198 = .ok (.istore 4, 2) := by decide +kernel
theorem dX10_sumOf_200 : decode cX10_sumOf 200 = .ok (.iinc 5 1, 3) := by decide +kernel
theorem dX10_sumOf_203 : decode cX10_sumOf 203 = .ok (.goto (-34), 3) := by decide +kernel
theorem dX10_sumOf_206 : decode cX10_sumOf 206 = .ok (.iload 4, 2) := by decide +kernel
theorem dX10_sumOf_208 : decode cX10_sumOf 208 = .ok (.ireturn, 1) := by decide +kernel
theorem dX10_layWay_0 : decode cX10_layWay 0 = .ok (.iload_n 1, 1) := by decide +kernel
theorem dX10_layWay_1 : decode cX10_layWay 1 = .ok (.istore 4, 2) := by decide +kernel
theorem dX10_layWay_3 : decode cX10_layWay 3 = .ok (.iload_n 2, 1) := by decide +kernel
theorem dX10_layWay_4 : decode cX10_layWay 4 = .ok (.iconst 1, 1) := by decide +kernel
theorem dX10_layWay_5 : decode cX10_layWay 5 = .ok (.isub, 1) := by decide +kernel
theorem dX10_layWay_6 : decode cX10_layWay 6 = .ok (.istore 5, 2) := by decide +kernel
theorem dX10_layWay_8 : decode cX10_layWay 8 = .ok (.iload 5, 2) := by decide +kernel
theorem dX10_layWay_10 : decode cX10_layWay 10 = .ok (.ifCond .lt 30, 3) := by decide +kernel
theorem dX10_layWay_13 : decode cX10_layWay 13 = .ok (.aload_n 0, 1) := by decide +kernel
theorem dX10_layWay_14 : decode cX10_layWay 14 = .ok (.getfield 75, 3) := by decide +kernel
theorem dX10_layWay_17 : decode cX10_layWay 17 = .ok (.iload 5, 2) := by decide +kernel
theorem dX10_layWay_19 : decode cX10_layWay 19 = .ok (.iload 4, 2) := by decide +kernel
theorem dX10_layWay_21 : decode cX10_layWay 21 = .ok (.iload_n 3, 1) := by decide +kernel
theorem dX10_layWay_22 : decode cX10_layWay 22 = .ok (.iconst 1, 1) := by decide +kernel
theorem dX10_layWay_23 : decode cX10_layWay 23 = .ok (.iadd, 1) := by decide +kernel
theorem dX10_layWay_24 : decode cX10_layWay 24 = .ok (.irem, 1) := by decide +kernel
theorem dX10_layWay_25 : decode cX10_layWay 25 = .ok (.iastore, 1) := by decide +kernel
theorem dX10_layWay_26 : decode cX10_layWay 26 = .ok (.iload 4, 2) := by decide +kernel
theorem dX10_layWay_28 : decode cX10_layWay 28 = .ok (.iload_n 3, 1) := by decide +kernel
theorem dX10_layWay_29 : decode cX10_layWay 29 = .ok (.iconst 1, 1) := by decide +kernel
theorem dX10_layWay_30 : decode cX10_layWay 30 = .ok (.iadd, 1) := by decide +kernel
theorem dX10_layWay_31 : decode cX10_layWay 31 = .ok (.idiv, 1) := by decide +kernel
theorem dX10_layWay_32 : decode cX10_layWay 32 = .ok (.istore 4, 2) := by decide +kernel
theorem dX10_layWay_34 : decode cX10_layWay 34 = .ok (.iinc 5 (-1), 3) := by decide +kernel
theorem dX10_layWay_37 : decode cX10_layWay 37 = .ok (.goto (-29), 3) := by decide +kernel
theorem dX10_layWay_40 : decode cX10_layWay 40 = .ok (.return_, 1) := by decide +kernel
set_option maxRecDepth 20000 in
theorem ggX10_works_X10_isBlock : GoodIn wsX10_works wsX10_isBlock := goodIn_r _ [14, 1, 15, 16, 13, 17, 54, 55, 56, 57, 58, 59, 60, 61, 62, 63, 64, 65, 66, 67, 68, 69, 70, 71, 72, 73, 74, 75, 76, 77, 78, 79, 80, 81, 82, 83, 84, 85, 86, 87, 88, 89] (by decide +kernel) (by decide +kernel)
set_option maxRecDepth 20000 in
theorem gX10_works_X10_isBlock : GoodIn wsX10_works (wsV RX10 101 RX10 yX10_isBlock wsX10_isBlock) := goodIn_app (goodIn_of _ (by decide +kernel)) ggX10_works_X10_isBlock
set_option maxRecDepth 20000 in
theorem ggX10_works_X10_in : GoodIn wsX10_works wsX10_in := goodIn_r _ [17] (by decide +kernel) (by decide +kernel)
set_option maxRecDepth 20000 in
theorem gX10_works_X10_in : GoodIn wsX10_works (va_wsS RX10 86 yX10_in wsX10_in) := goodIn_app (goodIn_of _ (by decide +kernel)) ggX10_works_X10_in
set_option maxRecDepth 20000 in
theorem ggX10_works_X10_lostAt : GoodIn wsX10_works wsX10_lostAt := goodIn_r _ [21, 22, 23, 24, 25, 13, 26, 27, 28, 29, 30, 31, 32, 33, 34, 35, 36, 37, 38, 39, 40, 41, 42, 43, 54, 55, 56, 57, 58, 59, 60, 61, 62, 63, 64, 65, 66, 67, 68, 69, 70, 71, 72, 73, 74, 75, 76, 77, 78, 79, 80, 81, 82, 83, 84, 85, 86, 87, 88, 89] (by decide +kernel) (by decide +kernel)
set_option maxRecDepth 20000 in
theorem gX10_works_X10_lostAt : GoodIn wsX10_works (wsV RX10 131 RX10 yX10_lostAt wsX10_lostAt) := goodIn_app (goodIn_of _ (by decide +kernel)) ggX10_works_X10_lostAt
set_option maxRecDepth 20000 in
theorem ggX10_works_X10_placeOf : GoodIn wsX10_works wsX10_placeOf := goodIn_r _ [32, 33, 34, 35, 36, 13, 37, 54, 55, 56, 57, 58, 59, 60, 61, 62, 63, 64, 65, 66, 67, 68, 69, 70, 71, 72, 73, 74, 75, 76, 77, 78, 79, 80, 81, 82, 83, 84, 85, 86, 87, 88, 89] (by decide +kernel) (by decide +kernel)
set_option maxRecDepth 20000 in
theorem gX10_works_X10_placeOf : GoodIn wsX10_works (wsV RX10 120 RX10 yX10_placeOf wsX10_placeOf) := goodIn_app (goodIn_of _ (by decide +kernel)) ggX10_works_X10_placeOf
set_option maxRecDepth 20000 in
theorem ggX10_works_X10_layWay : GoodIn wsX10_works wsX10_layWay := goodIn_r _ [47, 9, 54, 55, 56, 57, 58, 59, 60, 61, 62, 63, 64, 65, 66, 67, 68, 69, 70, 71, 72, 73, 74, 75, 76, 77, 78, 79, 80, 81, 82, 83, 84, 85, 86, 87, 88, 89] (by decide +kernel) (by decide +kernel)
set_option maxRecDepth 20000 in
theorem gX10_works_X10_layWay : GoodIn wsX10_works (wsV RX10 265 RX10 yX10_layWay wsX10_layWay) := goodIn_app (goodIn_of _ (by decide +kernel)) ggX10_works_X10_layWay
set_option maxRecDepth 20000 in
theorem ggX10_works_X10_sumOf : GoodIn wsX10_works wsX10_sumOf := goodIn_r _ [51, 52, 53, 9, 6, 7, 54, 55, 56, 57, 58, 59, 60, 61, 62, 63, 64, 65, 66, 67, 68, 69, 70, 71, 72, 73, 74, 75, 76, 77, 78, 79, 80, 81, 82, 83, 84, 85, 86, 87, 88, 89] (by decide +kernel) (by decide +kernel)
set_option maxRecDepth 20000 in
theorem gX10_works_X10_sumOf : GoodIn wsX10_works (wsV RX10 269 RX10 yX10_sumOf wsX10_sumOf) := goodIn_app (goodIn_of _ (by decide +kernel)) ggX10_works_X10_sumOf
theorem dX10_works_0 : decode cX10_works 0 = .ok (.iload 5, 2) := by decide +kernel
theorem dX10_works_2 : decode cX10_works 2 = .ok (.iconst (-1), 1) := by decide +kernel
theorem dX10_works_3 : decode cX10_works 3 = .ok (.if_icmp .eq 16, 3) := by decide +kernel
theorem dX10_works_6 : decode cX10_works 6 = .ok (.aload_n 0, 1) := by decide +kernel
theorem dX10_works_7 : decode cX10_works 7 = .ok (.iload 5, 2) := by decide +kernel
theorem dX10_works_9 : decode cX10_works 9 = .ok (.invokevirtual 101, 3) := by decide +kernel
theorem dX10_works_12 : decode cX10_works 12 = .ok (.ifCond .ne 7, 3) := by decide +kernel
theorem dX10_works_15 : decode cX10_works 15 = .ok (.sipush (-1001), 3) := by decide +kernel
theorem dX10_works_18 : decode cX10_works 18 = .ok (.ireturn, 1) := by decide +kernel
theorem dX10_works_19 : decode cX10_works 19 = .ok (.iconst 0, 1) := by decide +kernel
theorem dX10_works_20 : decode cX10_works 20 = .ok (.istore 6, 2) := by decide +kernel
theorem dX10_works_22 : decode cX10_works 22 = .ok (.iconst 0, 1) := by decide +kernel
theorem dX10_works_23 : decode cX10_works 23 = .ok (.istore 7, 2) := by decide +kernel
theorem dX10_works_25 : decode cX10_works 25 = .ok (.iconst 0, 1) := by decide +kernel
theorem dX10_works_26 : decode cX10_works 26 = .ok (.istore 8, 2) := by decide +kernel
theorem dX10_works_28 : decode cX10_works 28 = .ok (.iload 8, 2) := by decide +kernel
theorem dX10_works_30 : decode cX10_works 30 = .ok (.bipush 30, 2) := by decide +kernel
theorem dX10_works_32 : decode cX10_works 32 = .ok (.if_icmp .ge 20, 3) := by decide +kernel
theorem dX10_works_35 : decode cX10_works 35 = .ok (.iload 7, 2) := by decide +kernel
theorem dX10_works_37 : decode cX10_works 37 = .ok (.iload_n 1, 1) := by decide +kernel
theorem dX10_works_38 : decode cX10_works 38 = .ok (.iload 8, 2) := by decide +kernel
theorem dX10_works_40 : decode cX10_works 40 = .ok (.ishr, 1) := by decide +kernel
theorem dX10_works_41 : decode cX10_works 41 = .ok (.iconst 1, 1) := by decide +kernel
theorem dX10_works_42 : decode cX10_works 42 = .ok (.iand, 1) := by decide +kernel
theorem dX10_works_43 : decode cX10_works 43 = .ok (.iadd, 1) := by decide +kernel
theorem dX10_works_44 : decode cX10_works 44 = .ok (.istore 7, 2) := by decide +kernel
theorem dX10_works_46 : decode cX10_works 46 = .ok (.iinc 8 1, 3) := by decide +kernel
theorem dX10_works_49 : decode cX10_works 49 = .ok (.goto (-21), 3) := by decide +kernel
theorem dX10_works_52 : decode cX10_works 52 = .ok (.iload_n 1, 1) := by decide +kernel
theorem dX10_works_53 : decode cX10_works 53 = .ok (.ifCond .le 63, 3) := by decide +kernel
theorem dX10_works_56 : decode cX10_works 56 = .ok (.iload_n 1, 1) := by decide +kernel
theorem dX10_works_57 : decode cX10_works 57 = .ok (.i2l, 1) := by decide +kernel
theorem dX10_works_58 : decode cX10_works 58 = .ok (.lconst 1, 1) := by decide +kernel
theorem dX10_works_59 : decode cX10_works 59 = .ok (.aload_n 0, 1) := by decide +kernel
theorem dX10_works_60 : decode cX10_works 60 = .ok (.getfield 90, 3) := by decide +kernel
theorem dX10_works_63 : decode cX10_works 63 = .ok (.lshl, 1) := by decide +kernel
theorem dX10_works_64 : decode cX10_works 64 = .ok (.lcmp, 1) := by decide +kernel
theorem dX10_works_65 : decode cX10_works 65 = .ok (.ifCond .ge 51, 3) := by decide +kernel
theorem dX10_works_68 : decode cX10_works 68 = .ok (.iload 7, 2) := by decide +kernel
theorem dX10_works_70 : decode cX10_works 70 = .ok (.bipush 6, 2) := by decide +kernel
theorem dX10_works_72 : decode cX10_works 72 = .ok (.if_icmp .gt 44, 3) := by decide +kernel
theorem dX10_works_75 : decode cX10_works 75 = .ok (.iload_n 2, 1) := by decide +kernel
theorem dX10_works_76 : decode cX10_works 76 = .ok (.i2l, 1) := by decide +kernel
theorem dX10_works_77 : decode cX10_works 77 = .ok (.lconst 0, 1) := by decide +kernel
theorem dX10_works_78 : decode cX10_works 78 = .ok (.ldc2_w 258, 3) := by decide +kernel
theorem dX10_works_81 : decode cX10_works 81 = .ok (.invokestatic 86, 3) := by decide +kernel
theorem dX10_works_84 : decode cX10_works 84 = .ok (.ifCond .eq 32, 3) := by decide +kernel
theorem dX10_works_87 : decode cX10_works 87 = .ok (.iload_n 3, 1) := by decide +kernel
theorem dX10_works_88 : decode cX10_works 88 = .ok (.i2l, 1) := by decide +kernel
theorem dX10_works_89 : decode cX10_works 89 = .ok (.lconst 1, 1) := by decide +kernel
theorem dX10_works_90 : decode cX10_works 90 = .ok (.ldc2_w 260, 3) := by decide +kernel
theorem dX10_works_93 : decode cX10_works 93 = .ok (.invokestatic 86, 3) := by decide +kernel
theorem dX10_works_96 : decode cX10_works 96 = .ok (.ifCond .eq 20, 3) := by decide +kernel
theorem dX10_works_99 : decode cX10_works 99 = .ok (.iload 4, 2) := by decide +kernel
theorem dX10_works_101 : decode cX10_works 101 = .ok (.i2l, 1) := by decide +kernel
theorem dX10_works_102 : decode cX10_works 102 = .ok (.lconst 0, 1) := by decide +kernel
theorem dX10_works_103 : decode cX10_works 103 = .ok (.ldc2_w 262, 3) := by decide +kernel
theorem dX10_works_106 : decode cX10_works 106 = .ok (.invokestatic 86, 3) := by decide +kernel
theorem dX10_works_109 : decode cX10_works 109 = .ok (.ifCond .eq 7, 3) := by decide +kernel
theorem dX10_works_112 : decode cX10_works 112 = .ok (.iconst 1, 1) := by decide +kernel
theorem dX10_works_113 : decode cX10_works 113 = .ok (.goto 4, 3) := by decide +kernel
theorem dX10_works_116 : decode cX10_works 116 = .ok (.iconst 0, 1) := by decide +kernel
theorem dX10_works_117 : decode cX10_works 117 = .ok (.istore 8, 2) := by decide +kernel
theorem dX10_works_119 : decode cX10_works 119 = .ok (.iload 8, 2) := by decide +kernel
theorem dX10_works_121 : decode cX10_works 121 = .ok (.ifCond .eq 17, 3) := by decide +kernel
theorem dX10_works_124 : decode cX10_works 124 = .ok (.iload 5, 2) := by decide +kernel
theorem dX10_works_126 : decode cX10_works 126 = .ok (.ifCond .lt 16, 3) := by decide +kernel
theorem dX10_works_129 : decode cX10_works 129 = .ok (.iload_n 1, 1) := by decide +kernel
theorem dX10_works_130 : decode cX10_works 130 = .ok (.iload 5, 2) := by decide +kernel
theorem dX10_works_132 : decode cX10_works 132 = .ok (.ishr, 1) := by decide +kernel
theorem dX10_works_133 : decode cX10_works 133 = .ok (.iconst 1, 1) := by decide +kernel
theorem dX10_works_134 : decode cX10_works 134 = .ok (.iand, 1) := by decide +kernel
theorem dX10_works_135 : decode cX10_works 135 = .ok (.ifCond .ne 7, 3) := by decide +kernel
theorem dX10_works_138 : decode cX10_works 138 = .ok (.sipush (-1002), 3) := by decide +kernel
theorem dX10_works_141 : decode cX10_works 141 = .ok (.ireturn, 1) := by decide +kernel
theorem dX10_works_142 : decode cX10_works 142 = .ok (.iconst (-1), 1) := by decide +kernel
theorem dX10_works_143 : decode cX10_works 143 = .ok (.istore 9, 2) := by decide +kernel
theorem dX10_works_145 : decode cX10_works 145 = .ok (.iconst 0, 1) := by decide +kernel
theorem dX10_works_146 : decode cX10_works 146 = .ok (.istore 10, 2) := by decide +kernel
theorem dX10_works_148 : decode cX10_works 148 = .ok (.iload 10, 2) := by decide +kernel
theorem dX10_works_150 : decode cX10_works 150 = .ok (.aload_n 0, 1) := by decide +kernel
theorem dX10_works_151 : decode cX10_works 151 = .ok (.getfield 90, 3) := by decide +kernel
theorem dX10_works_154 : decode cX10_works 154 = .ok (.if_icmp .ge 107, 3) := by decide +kernel
theorem dX10_works_157 : decode cX10_works 157 = .ok (.iload_n 1, 1) := by decide +kernel
theorem dX10_works_158 : decode cX10_works 158 = .ok (.iload 10, 2) := by decide +kernel
theorem dX10_works_160 : decode cX10_works 160 = .ok (.ishr, 1) := by decide +kernel
theorem dX10_works_161 : decode cX10_works 161 = .ok (.iconst 1, 1) := by decide +kernel
theorem dX10_works_162 : decode cX10_works 162 = .ok (.iand, 1) := by decide +kernel
theorem dX10_works_163 : decode cX10_works 163 = .ok (.iconst 1, 1) := by decide +kernel
theorem dX10_works_164 : decode cX10_works 164 = .ok (.if_icmp .ne 91, 3) := by decide +kernel
theorem dX10_works_167 : decode cX10_works 167 = .ok (.aload_n 0, 1) := by decide +kernel
theorem dX10_works_168 : decode cX10_works 168 = .ok (.getfield 66, 3) := by decide +kernel
theorem dX10_works_171 : decode cX10_works 171 = .ok (.iload 6, 2) := by decide +kernel
theorem dX10_works_173 : decode cX10_works 173 = .ok (.iload 10, 2) := by decide +kernel
theorem dX10_works_175 : decode cX10_works 175 = .ok (.iastore, 1) := by decide +kernel
theorem dX10_works_176 : decode cX10_works 176 = .ok (.iconst 0, 1) := by decide +kernel
theorem dX10_works_177 : decode cX10_works 177 = .ok (.istore 11, 2) := by decide +kernel
theorem dX10_works_179 : decode cX10_works 179 = .ok (.iload 11, 2) := by decide +kernel
theorem dX10_works_181 : decode cX10_works 181 = .ok (.iload_n 3, 1) := by decide +kernel
theorem dX10_works_182 : decode cX10_works 182 = .ok (.if_icmp .gt 54, 3) := by decide +kernel
theorem dX10_works_185 : decode cX10_works 185 = .ok (.aload_n 0, 1) := by decide +kernel
theorem dX10_works_186 : decode cX10_works 186 = .ok (.getfield 69, 3) := by decide +kernel
theorem dX10_works_189 : decode cX10_works 189 = .ok (.iconst 5, 1) := by decide +kernel
theorem dX10_works_190 : decode cX10_works 190 = .ok (.iload 6, 2) := by decide +kernel
theorem dX10_works_192 : decode cX10_works 192 = .ok (.imul, 1) := by decide +kernel
theorem dX10_works_193 : decode cX10_works 193 = .ok (.iload 11, 2) := by decide +kernel
theorem dX10_works_195 : decode cX10_works 195 = .ok (.iadd, 1) := by decide +kernel
theorem dX10_works_196 : decode cX10_works 196 = .ok (.aload_n 0, 1) := by decide +kernel
theorem dX10_works_197 : decode cX10_works 197 = .ok (.iload 10, 2) := by decide +kernel
theorem dX10_works_199 : decode cX10_works 199 = .ok (.iload_n 2, 1) := by decide +kernel
theorem dX10_works_200 : decode cX10_works 200 = .ok (.iload 11, 2) := by decide +kernel
theorem dX10_works_202 : decode cX10_works 202 = .ok (.iadd, 1) := by decide +kernel
theorem dX10_works_203 : decode cX10_works 203 = .ok (.invokevirtual 131, 3) := by decide +kernel
theorem dX10_works_206 : decode cX10_works 206 = .ok (.iastore, 1) := by decide +kernel
theorem dX10_works_207 : decode cX10_works 207 = .ok (.aload_n 0, 1) := by decide +kernel
theorem dX10_works_208 : decode cX10_works 208 = .ok (.getfield 72, 3) := by decide +kernel
theorem dX10_works_211 : decode cX10_works 211 = .ok (.iconst 5, 1) := by decide +kernel
theorem dX10_works_212 : decode cX10_works 212 = .ok (.iload 6, 2) := by decide +kernel
theorem dX10_works_214 : decode cX10_works 214 = .ok (.imul, 1) := by decide +kernel
theorem dX10_works_215 : decode cX10_works 215 = .ok (.iload 11, 2) := by decide +kernel
theorem dX10_works_217 : decode cX10_works 217 = .ok (.iadd, 1) := by decide +kernel
theorem dX10_works_218 : decode cX10_works 218 = .ok (.aload_n 0, 1) := by decide +kernel
theorem dX10_works_219 : decode cX10_works 219 = .ok (.iload 10, 2) := by decide +kernel
theorem dX10_works_221 : decode cX10_works 221 = .ok (.iload_n 2, 1) := by decide +kernel
theorem dX10_works_222 : decode cX10_works 222 = .ok (.iload 11, 2) := by decide +kernel
theorem dX10_works_224 : decode cX10_works 224 = .ok (.iadd, 1) := by decide +kernel
theorem dX10_works_225 : decode cX10_works 225 = .ok (.iconst 4, 1) := by decide +kernel
theorem dX10_works_226 : decode cX10_works 226 = .ok (.invokevirtual 120, 3) := by decide +kernel
theorem dX10_works_229 : decode cX10_works 229 = .ok (.iastore, 1) := by decide +kernel
theorem dX10_works_230 : decode cX10_works 230 = .ok (.iinc 11 1, 3) := by decide +kernel
theorem dX10_works_233 : decode cX10_works 233 = .ok (.goto (-54), 3) := by decide +kernel
theorem dX10_works_236 : decode cX10_works 236 = .ok (.iload 10, 2) := by decide +kernel
theorem dX10_works_238 : decode cX10_works 238 = .ok (.iload 5, 2) := by decide +kernel
theorem dX10_works_240 : decode cX10_works 240 = .ok (.if_icmp .ne 8, 3) := by decide +kernel
theorem dX10_works_243 : decode cX10_works 243 = .ok (.iload 6, 2) := by decide +kernel
theorem dX10_works_245 : decode cX10_works 245 = .ok (.goto 5, 3) := by decide +kernel
theorem dX10_works_248 : decode cX10_works 248 = .ok (.iload 9, 2) := by decide +kernel
theorem dX10_works_250 : decode cX10_works 250 = .ok (.istore 9, 2) := by decide +kernel
theorem dX10_works_252 : decode cX10_works 252 = .ok (.iinc 6 1, 3) := by decide +kernel
theorem dX10_works_255 : decode cX10_works 255 = .ok (.iinc 10 1, 3) := by decide +kernel
theorem dX10_works_258 : decode cX10_works 258 = .ok (.goto (-110), 3) := by decide +kernel
theorem dX10_works_261 : decode cX10_works 261 = .ok (.iconst 1, 1) := by decide +kernel
theorem dX10_works_262 : decode cX10_works 262 = .ok (.istore 10, 2) := by decide +kernel
theorem dX10_works_264 : decode cX10_works 264 = .ok (.iconst 0, 1) := by decide +kernel
theorem dX10_works_265 : decode cX10_works 265 = .ok (.istore 11, 2) := by decide +kernel
theorem dX10_works_267 : decode cX10_works 267 = .ok (.iload 11, 2) := by decide +kernel
theorem dX10_works_269 : decode cX10_works 269 = .ok (.iload 6, 2) := by decide +kernel
theorem dX10_works_271 : decode cX10_works 271 = .ok (.if_icmp .ge 17, 3) := by decide +kernel
theorem dX10_works_274 : decode cX10_works 274 = .ok (.iload 10, 2) := by decide +kernel
theorem dX10_works_276 : decode cX10_works 276 = .ok (.iload_n 3, 1) := by decide +kernel
theorem dX10_works_277 : decode cX10_works 277 = .ok (.iconst 1, 1) := by decide +kernel
theorem dX10_works_278 : decode cX10_works 278 = .ok (.iadd, 1) := by decide +kernel
theorem dX10_works_279 : decode cX10_works 279 = .ok (.imul, 1) := by decide +kernel
theorem dX10_works_280 : decode cX10_works 280 = .ok (.istore 10, 2) := by decide +kernel
theorem dX10_works_282 : decode cX10_works 282 = .ok (.iinc 11 1, 3) := by decide +kernel
theorem dX10_works_285 : decode cX10_works 285 = .ok (.goto (-18), 3) := by decide +kernel
theorem dX10_works_288 : decode cX10_works 288 = .ok (.iconst (-1), 1) := by decide +kernel
theorem dX10_works_289 : decode cX10_works 289 = .ok (.istore 11, 2) := by decide +kernel
theorem dX10_works_291 : decode cX10_works 291 = .ok (.ldc_w 264, 3) := by decide +kernel
theorem dX10_works_294 : decode cX10_works 294 = .ok (.istore 12, 2) := by decide +kernel
theorem dX10_works_296 : decode cX10_works 296 = .ok (.iconst 0, 1) := by decide +kernel
theorem dX10_works_297 : decode cX10_works 297 = .ok (.istore 13, 2) := by decide +kernel
theorem dX10_works_299 : decode cX10_works 299 = .ok (.iload 13, 2) := by decide +kernel
theorem dX10_works_301 : decode cX10_works 301 = .ok (.iload 10, 2) := by decide +kernel
theorem dX10_works_303 : decode cX10_works 303 = .ok (.if_icmp .ge 49, 3) := by decide +kernel
theorem dX10_works_306 : decode cX10_works 306 = .ok (.aload_n 0, 1) := by decide +kernel
theorem dX10_works_307 : decode cX10_works 307 = .ok (.iload 13, 2) := by decide +kernel
theorem dX10_works_309 : decode cX10_works 309 = .ok (.iload 6, 2) := by decide +kernel
theorem dX10_works_311 : decode cX10_works 311 = .ok (.iload_n 3, 1) := by decide +kernel
theorem dX10_works_312 : decode cX10_works 312 = .ok (.invokevirtual 265, 3) := by decide +kernel
theorem dX10_works_315 : decode cX10_works 315 = .ok (.aload_n 0, 1) := by decide +kernel
theorem dX10_works_316 : decode cX10_works 316 = .ok (.iload 6, 2) := by decide +kernel
theorem dX10_works_318 : decode cX10_works 318 = .ok (.iload_n 3, 1) := by decide +kernel
theorem dX10_works_319 : decode cX10_works 319 = .ok (.iload 4, 2) := by decide +kernel
theorem dX10_works_321 : decode cX10_works 321 = .ok (.invokevirtual 269, 3) := by decide +kernel
theorem dX10_works_324 : decode cX10_works 324 = .ok (.istore 14, 2) := by decide +kernel
theorem dX10_works_326 : decode cX10_works 326 = .ok (.iload 14, 2) := by decide +kernel
theorem dX10_works_328 : decode cX10_works 328 = .ok (.ifCond .lt 18, 3) := by decide +kernel
theorem dX10_works_331 : decode cX10_works 331 = .ok (.iload 14, 2) := by decide +kernel
theorem dX10_works_333 : decode cX10_works 333 = .ok (.iload 12, 2) := by decide +kernel
theorem dX10_works_335 : decode cX10_works 335 = .ok (.if_icmp .ge 11, 3) := by decide +kernel
theorem dX10_works_338 : decode cX10_works 338 = .ok (.iload 13, 2) := by decide +kernel
theorem dX10_works_340 : decode cX10_works 340 = .ok (.istore 11, 2) := by decide +kernel
theorem dX10_works_342 : decode cX10_works 342 = .ok (.iload 14, 2) := by decide +kernel
theorem dX10_works_344 : decode cX10_works 344 = .ok (.istore 12, 2) := by decide +kernel
theorem dX10_works_346 : decode cX10_works 346 = .ok (.iinc 13 1, 3) := by decide +kernel
theorem dX10_works_349 : decode cX10_works 349 = .ok (.goto (-50), 3) := by decide +kernel
theorem dX10_works_352 : decode cX10_works 352 = .ok (.iload 5, 2) := by decide +kernel
theorem dX10_works_354 : decode cX10_works 354 = .ok (.iconst (-1), 1) := by decide +kernel
theorem dX10_works_355 : decode cX10_works 355 = .ok (.if_icmp .ne 6, 3) := by decide +kernel
theorem dX10_works_358 : decode cX10_works 358 = .ok (.iload 12, 2) := by decide +kernel
theorem dX10_works_360 : decode cX10_works 360 = .ok (.ireturn, 1) := by decide +kernel
theorem dX10_works_361 : decode cX10_works 361 = .ok (.aload_n 0, 1) := by decide +kernel
theorem dX10_works_362 : decode cX10_works 362 = .ok (.iload 11, 2) := by decide +kernel
theorem dX10_works_364 : decode cX10_works 364 = .ok (.iload 6, 2) := by decide +kernel
theorem dX10_works_366 : decode cX10_works 366 = .ok (.iload_n 3, 1) := by decide +kernel
theorem dX10_works_367 : decode cX10_works 367 = .ok (.invokevirtual 265, 3) := by decide +kernel
theorem dX10_works_370 : decode cX10_works 370 = .ok (.aload_n 0, 1) := by decide +kernel
theorem dX10_works_371 : decode cX10_works 371 = .ok (.getfield 75, 3) := by decide +kernel
theorem dX10_works_374 : decode cX10_works 374 = .ok (.iload 9, 2) := by decide +kernel
theorem dX10_works_376 : decode cX10_works 376 = .ok (.iaload, 1) := by decide +kernel
theorem dX10_works_377 : decode cX10_works 377 = .ok (.iload_n 3, 1) := by decide +kernel
theorem dX10_works_378 : decode cX10_works 378 = .ok (.if_icmp .ne 7, 3) := by decide +kernel
theorem dX10_works_381 : decode cX10_works 381 = .ok (.iconst (-1), 1) := by decide +kernel
theorem dX10_works_382 : decode cX10_works 382 = .ok (.goto 12, 3) := by decide +kernel
theorem dX10_works_385 : decode cX10_works 385 = .ok (.iload_n 2, 1) := by decide +kernel
theorem dX10_works_386 : decode cX10_works 386 = .ok (.aload_n 0, 1) := by decide +kernel
theorem dX10_works_387 : decode cX10_works 387 = .ok (.getfield 75, 3) := by decide +kernel
theorem dX10_works_390 : decode cX10_works 390 = .ok (.iload 9, 2) := by decide +kernel
theorem dX10_works_392 : decode cX10_works 392 = .ok (.iaload, 1) := by decide +kernel
theorem dX10_works_393 : decode cX10_works 393 = .ok (.iadd, 1) := by decide +kernel
theorem dX10_works_394 : decode cX10_works 394 = .ok (.ireturn, 1) := by decide +kernel
set_option maxRecDepth 20000 in
theorem ggX10_lot_X10_in : GoodIn wsX10_lot wsX10_in := goodIn_r _ [8] (by decide +kernel) (by decide +kernel)
set_option maxRecDepth 20000 in
theorem gX10_lot_X10_in : GoodIn wsX10_lot (va_wsS RX10 86 yX10_in wsX10_in) := goodIn_app (goodIn_of _ (by decide +kernel)) ggX10_lot_X10_in
theorem dX10_lot_0 : decode cX10_lot 0 = .ok (.iload_n 1, 1) := by decide +kernel
theorem dX10_lot_1 : decode cX10_lot 1 = .ok (.i2l, 1) := by decide +kernel
theorem dX10_lot_2 : decode cX10_lot 2 = .ok (.lconst 0, 1) := by decide +kernel
theorem dX10_lot_3 : decode cX10_lot 3 = .ok (.ldc2_w 93, 3) := by decide +kernel
theorem dX10_lot_6 : decode cX10_lot 6 = .ok (.invokestatic 86, 3) := by decide +kernel
theorem dX10_lot_9 : decode cX10_lot 9 = .ok (.ifCond .eq 53, 3) := by decide +kernel
theorem dX10_lot_12 : decode cX10_lot 12 = .ok (.iload_n 2, 1) := by decide +kernel
theorem dX10_lot_13 : decode cX10_lot 13 = .ok (.i2l, 1) := by decide +kernel
theorem dX10_lot_14 : decode cX10_lot 14 = .ok (.lconst 0, 1) := by decide +kernel
theorem dX10_lot_15 : decode cX10_lot 15 = .ok (.ldc2_w 157, 3) := by decide +kernel
theorem dX10_lot_18 : decode cX10_lot 18 = .ok (.invokestatic 86, 3) := by decide +kernel
theorem dX10_lot_21 : decode cX10_lot 21 = .ok (.ifCond .eq 41, 3) := by decide +kernel
theorem dX10_lot_24 : decode cX10_lot 24 = .ok (.iload_n 3, 1) := by decide +kernel
theorem dX10_lot_25 : decode cX10_lot 25 = .ok (.i2l, 1) := by decide +kernel
theorem dX10_lot_26 : decode cX10_lot 26 = .ok (.lconst 0, 1) := by decide +kernel
theorem dX10_lot_27 : decode cX10_lot 27 = .ok (.ldc2_w 157, 3) := by decide +kernel
theorem dX10_lot_30 : decode cX10_lot 30 = .ok (.invokestatic 86, 3) := by decide +kernel
theorem dX10_lot_33 : decode cX10_lot 33 = .ok (.ifCond .eq 29, 3) := by decide +kernel
theorem dX10_lot_36 : decode cX10_lot 36 = .ok (.iload 4, 2) := by decide +kernel
theorem dX10_lot_38 : decode cX10_lot 38 = .ok (.i2l, 1) := by decide +kernel
theorem dX10_lot_39 : decode cX10_lot 39 = .ok (.lconst 0, 1) := by decide +kernel
theorem dX10_lot_40 : decode cX10_lot 40 = .ok (.ldc2_w 157, 3) := by decide +kernel
theorem dX10_lot_43 : decode cX10_lot 43 = .ok (.invokestatic 86, 3) := by decide +kernel
theorem dX10_lot_46 : decode cX10_lot 46 = .ok (.ifCond .eq 16, 3) := by decide +kernel
theorem dX10_lot_49 : decode cX10_lot 49 = .ok (.iload 5, 2) := by decide +kernel
theorem dX10_lot_51 : decode cX10_lot 51 = .ok (.i2l, 1) := by decide +kernel
theorem dX10_lot_52 : decode cX10_lot 52 = .ok (.lconst 0, 1) := by decide +kernel
theorem dX10_lot_53 : decode cX10_lot 53 = .ok (.ldc2_w 157, 3) := by decide +kernel
theorem dX10_lot_56 : decode cX10_lot 56 = .ok (.invokestatic 86, 3) := by decide +kernel
theorem dX10_lot_59 : decode cX10_lot 59 = .ok (.ifCond .ne 7, 3) := by decide +kernel
theorem dX10_lot_62 : decode cX10_lot 62 = .ok (.sipush (-1002), 3) := by decide +kernel
theorem dX10_lot_65 : decode cX10_lot 65 = .ok (.ireturn, 1) := by decide +kernel
theorem dX10_lot_66 : decode cX10_lot 66 = .ok (.aload_n 0, 1) := by decide +kernel
theorem dX10_lot_67 : decode cX10_lot 67 = .ok (.getfield 138, 3) := by decide +kernel
theorem dX10_lot_70 : decode cX10_lot 70 = .ok (.bipush 20, 2) := by decide +kernel
theorem dX10_lot_72 : decode cX10_lot 72 = .ok (.if_icmp .ne 7, 3) := by decide +kernel
theorem dX10_lot_75 : decode cX10_lot 75 = .ok (.sipush (-1004), 3) := by decide +kernel
theorem dX10_lot_78 : decode cX10_lot 78 = .ok (.ireturn, 1) := by decide +kernel
theorem dX10_lot_79 : decode cX10_lot 79 = .ok (.iconst 5, 1) := by decide +kernel
theorem dX10_lot_80 : decode cX10_lot 80 = .ok (.aload_n 0, 1) := by decide +kernel
theorem dX10_lot_81 : decode cX10_lot 81 = .ok (.getfield 138, 3) := by decide +kernel
theorem dX10_lot_84 : decode cX10_lot 84 = .ok (.imul, 1) := by decide +kernel
theorem dX10_lot_85 : decode cX10_lot 85 = .ok (.istore 6, 2) := by decide +kernel
theorem dX10_lot_87 : decode cX10_lot 87 = .ok (.aload_n 0, 1) := by decide +kernel
theorem dX10_lot_88 : decode cX10_lot 88 = .ok (.getfield 47, 3) := by decide +kernel
theorem dX10_lot_91 : decode cX10_lot 91 = .ok (.iload 6, 2) := by decide +kernel
theorem dX10_lot_93 : decode cX10_lot 93 = .ok (.iload_n 1, 1) := by decide +kernel
theorem dX10_lot_94 : decode cX10_lot 94 = .ok (.iastore, 1) := by decide +kernel
theorem dX10_lot_95 : decode cX10_lot 95 = .ok (.aload_n 0, 1) := by decide +kernel
theorem dX10_lot_96 : decode cX10_lot 96 = .ok (.getfield 47, 3) := by decide +kernel
theorem dX10_lot_99 : decode cX10_lot 99 = .ok (.iload 6, 2) := by decide +kernel
theorem dX10_lot_101 : decode cX10_lot 101 = .ok (.iconst 1, 1) := by decide +kernel
theorem dX10_lot_102 : decode cX10_lot 102 = .ok (.iadd, 1) := by decide +kernel
theorem dX10_lot_103 : decode cX10_lot 103 = .ok (.iload_n 2, 1) := by decide +kernel
theorem dX10_lot_104 : decode cX10_lot 104 = .ok (.iastore, 1) := by decide +kernel
theorem dX10_lot_105 : decode cX10_lot 105 = .ok (.aload_n 0, 1) := by decide +kernel
theorem dX10_lot_106 : decode cX10_lot 106 = .ok (.getfield 47, 3) := by decide +kernel
theorem dX10_lot_109 : decode cX10_lot 109 = .ok (.iload 6, 2) := by decide +kernel
theorem dX10_lot_111 : decode cX10_lot 111 = .ok (.iconst 2, 1) := by decide +kernel
theorem dX10_lot_112 : decode cX10_lot 112 = .ok (.iadd, 1) := by decide +kernel
theorem dX10_lot_113 : decode cX10_lot 113 = .ok (.iload_n 3, 1) := by decide +kernel
theorem dX10_lot_114 : decode cX10_lot 114 = .ok (.iastore, 1) := by decide +kernel
theorem dX10_lot_115 : decode cX10_lot 115 = .ok (.aload_n 0, 1) := by decide +kernel
theorem dX10_lot_116 : decode cX10_lot 116 = .ok (.getfield 47, 3) := by decide +kernel
theorem dX10_lot_119 : decode cX10_lot 119 = .ok (.iload 6, 2) := by decide +kernel
