theorem dX0_init_0 : decode cX0_init 0 = .ok (.aload_n 0, 1) := by decide +kernel
theorem dX0_init_1 : decode cX0_init 1 = .ok (.invokespecial 3, 3) := by decide +kernel
theorem dX0_init_4 : decode cX0_init 4 = .ok (.aload_n 0, 1) := by decide +kernel
theorem dX0_init_5 : decode cX0_init 5 = .ok (.iconst 5, 1) := by decide +kernel
theorem dX0_init_6 : decode cX0_init 6 = .ok (.newarray .int, 2) := by decide +kernel
theorem dX0_init_8 : decode cX0_init 8 = .ok (.putfield 9, 3) := by decide +kernel
theorem dX0_init_11 : decode cX0_init 11 = .ok (.aload_n 0, 1) := by decide +kernel
theorem dX0_init_12 : decode cX0_init 12 = .ok (.iconst 0, 1) := by decide +kernel
theorem dX0_init_13 : decode cX0_init 13 = .ok (.putfield 15, 3) := by decide +kernel
theorem dX0_init_16 : decode cX0_init 16 = .ok (.aload_n 0, 1) := by decide +kernel
theorem dX0_init_17 : decode cX0_init 17 = .ok (.iconst 0, 1) := by decide +kernel
theorem dX0_init_18 : decode cX0_init 18 = .ok (.putfield 19, 3) := by decide +kernel
theorem dX0_init_21 : decode cX0_init 21 = .ok (.aload_n 0, 1) := by decide +kernel
theorem dX0_init_22 : decode cX0_init 22 = .ok (.lconst 0, 1) := by decide +kernel
theorem dX0_init_23 : decode cX0_init 23 = .ok (.putfield 22, 3) := by decide +kernel
theorem dX0_init_26 : decode cX0_init 26 = .ok (.return_, 1) := by decide +kernel
set_option maxRecDepth 20000 in
theorem ggX0_find_X0_completes : GoodIn wsX0_find wsX0_completes := goodIn_r _ [8, 9, 10, 7, 11, 12, 13, 14, 15, 16, 17, 18, 19, 5, 6] (by decide +kernel) (by decide +kernel)
set_option maxRecDepth 20000 in
theorem gX0_find_X0_completes : GoodIn wsX0_find (va_wsS RX0 26 yX0_completes wsX0_completes) := goodIn_app (goodIn_of _ (by decide +kernel)) ggX0_find_X0_completes
theorem dX0_find_0 : decode cX0_find 0 = .ok (.iload_n 1, 1) := by decide +kernel
theorem dX0_find_1 : decode cX0_find 1 = .ok (.aload_n 0, 1) := by decide +kernel
theorem dX0_find_2 : decode cX0_find 2 = .ok (.getfield 19, 3) := by decide +kernel
theorem dX0_find_5 : decode cX0_find 5 = .ok (.if_icmp .ne 13, 3) := by decide +kernel
theorem dX0_find_8 : decode cX0_find 8 = .ok (.lload_n 2, 1) := by decide +kernel
theorem dX0_find_9 : decode cX0_find 9 = .ok (.aload_n 0, 1) := by decide +kernel
theorem dX0_find_10 : decode cX0_find 10 = .ok (.getfield 22, 3) := by decide +kernel
theorem dX0_find_13 : decode cX0_find 13 = .ok (.lcmp, 1) := by decide +kernel
theorem dX0_find_14 : decode cX0_find 14 = .ok (.ifCond .ne 4, 3) := by decide +kernel
theorem dX0_find_17 : decode cX0_find 17 = .ok (.return_, 1) := by decide +kernel
theorem dX0_find_18 : decode cX0_find 18 = .ok (.aload_n 0, 1) := by decide +kernel
theorem dX0_find_19 : decode cX0_find 19 = .ok (.iload_n 1, 1) := by decide +kernel
theorem dX0_find_20 : decode cX0_find 20 = .ok (.putfield 19, 3) := by decide +kernel
theorem dX0_find_23 : decode cX0_find 23 = .ok (.aload_n 0, 1) := by decide +kernel
theorem dX0_find_24 : decode cX0_find 24 = .ok (.lload_n 2, 1) := by decide +kernel
theorem dX0_find_25 : decode cX0_find 25 = .ok (.putfield 22, 3) := by decide +kernel
theorem dX0_find_28 : decode cX0_find 28 = .ok (.iconst 0, 1) := by decide +kernel
theorem dX0_find_29 : decode cX0_find 29 = .ok (.istore 4, 2) := by decide +kernel
theorem dX0_find_31 : decode cX0_find 31 = .ok (.iconst 0, 1) := by decide +kernel
theorem dX0_find_32 : decode cX0_find 32 = .ok (.istore 5, 2) := by decide +kernel
theorem dX0_find_34 : decode cX0_find 34 = .ok (.iload 5, 2) := by decide +kernel
theorem dX0_find_36 : decode cX0_find 36 = .ok (.iconst 5, 1) := by decide +kernel
theorem dX0_find_37 : decode cX0_find 37 = .ok (.if_icmp .gt 34, 3) := by decide +kernel
theorem dX0_find_40 : decode cX0_find 40 = .ok (.iload 4, 2) := by decide +kernel
theorem dX0_find_42 : decode cX0_find 42 = .ok (.ifCond .ne 29, 3) := by decide +kernel
theorem dX0_find_45 : decode cX0_find 45 = .ok (.lload_n 2, 1) := by decide +kernel
theorem dX0_find_46 : decode cX0_find 46 = .ok (.iload_n 1, 1) := by decide +kernel
theorem dX0_find_47 : decode cX0_find 47 = .ok (.iconst 0, 1) := by decide +kernel
theorem dX0_find_48 : decode cX0_find 48 = .ok (.iload 5, 2) := by decide +kernel
theorem dX0_find_50 : decode cX0_find 50 = .ok (.aload_n 0, 1) := by decide +kernel
theorem dX0_find_51 : decode cX0_find 51 = .ok (.getfield 9, 3) := by decide +kernel
theorem dX0_find_54 : decode cX0_find 54 = .ok (.invokestatic 26, 3) := by decide +kernel
theorem dX0_find_57 : decode cX0_find 57 = .ok (.istore 4, 2) := by decide +kernel
theorem dX0_find_59 : decode cX0_find 59 = .ok (.aload_n 0, 1) := by decide +kernel
theorem dX0_find_60 : decode cX0_find 60 = .ok (.iload 5, 2) := by decide +kernel
theorem dX0_find_62 : decode cX0_find 62 = .ok (.putfield 15, 3) := by decide +kernel
theorem dX0_find_65 : decode cX0_find 65 = .ok (.iinc 5 1, 3) := by decide +kernel
theorem dX0_find_68 : decode cX0_find 68 = .ok (.goto (-34), 3) := by decide +kernel
theorem dX0_find_71 : decode cX0_find 71 = .ok (.return_, 1) := by decide +kernel
set_option maxRecDepth 20000 in
theorem ggX0_completes_X0_areRising : GoodIn wsX0_completes wsX0_areRising := goodIn_r _ [4, 5, 6, 7, 3, 8, 9] (by decide +kernel) (by decide +kernel)
set_option maxRecDepth 20000 in
theorem gX0_completes_X0_areRising : GoodIn wsX0_completes (va_wsS RX0 30 yX0_areRising wsX0_areRising) := goodIn_app (goodIn_of _ (by decide +kernel)) ggX0_completes_X0_areRising
set_option maxRecDepth 20000 in
theorem ggX0_completes_X0_compared : GoodIn wsX0_completes wsX0_compared := goodIn_r _ [12, 5, 6, 7, 3, 8, 9] (by decide +kernel) (by decide +kernel)
set_option maxRecDepth 20000 in
theorem gX0_completes_X0_compared : GoodIn wsX0_completes (va_wsS RX0 34 yX0_compared wsX0_compared) := goodIn_app (goodIn_of _ (by decide +kernel)) ggX0_completes_X0_compared
set_option maxRecDepth 20000 in
theorem ggX0_completes_X0_completes : GoodIn wsX0_completes wsX0_completes := goodIn_r _ [0, 1, 2, 3, 4, 5, 6, 7, 8, 9, 10, 11, 12, 13, 14] (by decide +kernel) (by decide +kernel)
set_option maxRecDepth 20000 in
theorem gX0_completes_X0_completes : GoodIn wsX0_completes (va_wsS RX0 26 yX0_completes wsX0_completes) := goodIn_app (goodIn_of _ (by decide +kernel)) ggX0_completes_X0_completes
theorem dX0_completes_0 : decode cX0_completes 0 = .ok (.iload_n 3, 1) := by decide +kernel
theorem dX0_completes_1 : decode cX0_completes 1 = .ok (.iload 4, 2) := by decide +kernel
theorem dX0_completes_3 : decode cX0_completes 3 = .ok (.if_icmp .ge 10, 3) := by decide +kernel
theorem dX0_completes_6 : decode cX0_completes 6 = .ok (.iload_n 3, 1) := by decide +kernel
theorem dX0_completes_7 : decode cX0_completes 7 = .ok (.aload 5, 2) := by decide +kernel
theorem dX0_completes_9 : decode cX0_completes 9 = .ok (.arraylength, 1) := by decide +kernel
theorem dX0_completes_10 : decode cX0_completes 10 = .ok (.if_icmp .lt 9, 3) := by decide +kernel
theorem dX0_completes_13 : decode cX0_completes 13 = .ok (.lload_n 0, 1) := by decide +kernel
theorem dX0_completes_14 : decode cX0_completes 14 = .ok (.iload_n 2, 1) := by decide +kernel
theorem dX0_completes_15 : decode cX0_completes 15 = .ok (.invokestatic 30, 3) := by decide +kernel
theorem dX0_completes_18 : decode cX0_completes 18 = .ok (.ireturn, 1) := by decide +kernel
theorem dX0_completes_19 : decode cX0_completes 19 = .ok (.iconst 0, 1) := by decide +kernel
theorem dX0_completes_20 : decode cX0_completes 20 = .ok (.istore 6, 2) := by decide +kernel
theorem dX0_completes_22 : decode cX0_completes 22 = .ok (.iload 6, 2) := by decide +kernel
theorem dX0_completes_24 : decode cX0_completes 24 = .ok (.iload_n 2, 1) := by decide +kernel
theorem dX0_completes_25 : decode cX0_completes 25 = .ok (.if_icmp .ge 74, 3) := by decide +kernel
theorem dX0_completes_28 : decode cX0_completes 28 = .ok (.iload 6, 2) := by decide +kernel
theorem dX0_completes_30 : decode cX0_completes 30 = .ok (.iconst 1, 1) := by decide +kernel
theorem dX0_completes_31 : decode cX0_completes 31 = .ok (.iadd, 1) := by decide +kernel
theorem dX0_completes_32 : decode cX0_completes 32 = .ok (.istore 7, 2) := by decide +kernel
theorem dX0_completes_34 : decode cX0_completes 34 = .ok (.iload 7, 2) := by decide +kernel
theorem dX0_completes_36 : decode cX0_completes 36 = .ok (.iload_n 2, 1) := by decide +kernel
theorem dX0_completes_37 : decode cX0_completes 37 = .ok (.if_icmp .ge 56, 3) := by decide +kernel
theorem dX0_completes_40 : decode cX0_completes 40 = .ok (.lload_n 0, 1) := by decide +kernel
theorem dX0_completes_41 : decode cX0_completes 41 = .ok (.iload 6, 2) := by decide +kernel
theorem dX0_completes_43 : decode cX0_completes 43 = .ok (.iload 7, 2) := by decide +kernel
theorem dX0_completes_45 : decode cX0_completes 45 = .ok (.invokestatic 34, 3) := by decide +kernel
theorem dX0_completes_48 : decode cX0_completes 48 = .ok (.lstore 8, 2) := by decide +kernel
theorem dX0_completes_50 : decode cX0_completes 50 = .ok (.aload 5, 2) := by decide +kernel
theorem dX0_completes_52 : decode cX0_completes 52 = .ok (.iload_n 3, 1) := by decide +kernel
theorem dX0_completes_53 : decode cX0_completes 53 = .ok (.bipush 10, 2) := by decide +kernel
theorem dX0_completes_55 : decode cX0_completes 55 = .ok (.iload 6, 2) := by decide +kernel
theorem dX0_completes_57 : decode cX0_completes 57 = .ok (.imul, 1) := by decide +kernel
theorem dX0_completes_58 : decode cX0_completes 58 = .ok (.iload 7, 2) := by decide +kernel
theorem dX0_completes_60 : decode cX0_completes 60 = .ok (.iadd, 1) := by decide +kernel
theorem dX0_completes_61 : decode cX0_completes 61 = .ok (.iastore, 1) := by decide +kernel
theorem dX0_completes_62 : decode cX0_completes 62 = .ok (.lload 8, 2) := by decide +kernel
theorem dX0_completes_64 : decode cX0_completes 64 = .ok (.lload_n 0, 1) := by decide +kernel
theorem dX0_completes_65 : decode cX0_completes 65 = .ok (.lcmp, 1) := by decide +kernel
theorem dX0_completes_66 : decode cX0_completes 66 = .ok (.ifCond .eq 21, 3) := by decide +kernel
theorem dX0_completes_69 : decode cX0_completes 69 = .ok (.lload 8, 2) := by decide +kernel
theorem dX0_completes_71 : decode cX0_completes 71 = .ok (.iload_n 2, 1) := by decide +kernel
theorem dX0_completes_72 : decode cX0_completes 72 = .ok (.iload_n 3, 1) := by decide +kernel
theorem dX0_completes_73 : decode cX0_completes 73 = .ok (.iconst 1, 1) := by decide +kernel
theorem dX0_completes_74 : decode cX0_completes 74 = .ok (.iadd, 1) := by decide +kernel
theorem dX0_completes_75 : decode cX0_completes 75 = .ok (.iload 4, 2) := by decide +kernel
theorem dX0_completes_77 : decode cX0_completes 77 = .ok (.aload 5, 2) := by decide +kernel
theorem dX0_completes_79 : decode cX0_completes 79 = .ok (.invokestatic 26, 3) := by decide +kernel
theorem dX0_completes_82 : decode cX0_completes 82 = .ok (.ifCond .eq 5, 3) := by decide +kernel
theorem dX0_completes_85 : decode cX0_completes 85 = .ok (.iconst 1, 1) := by decide +kernel
theorem dX0_completes_86 : decode cX0_completes 86 = .ok (.ireturn, 1) := by decide +kernel
theorem dX0_completes_87 : decode cX0_completes 87 = .ok (.iinc 7 1, 3) := by decide +kernel
theorem dX0_completes_90 : decode cX0_completes 90 = .ok (.goto (-56), 3) := by decide +kernel
theorem dX0_completes_93 : decode cX0_completes 93 = .ok (.iinc 6 1, 3) := by decide +kernel
theorem dX0_completes_96 : decode cX0_completes 96 = .ok (.goto (-74), 3) := by decide +kernel
theorem dX0_completes_99 : decode cX0_completes 99 = .ok (.iconst 0, 1) := by decide +kernel
theorem dX0_completes_100 : decode cX0_completes 100 = .ok (.ireturn, 1) := by decide +kernel
theorem dX0_column_0 : decode cX0_column 0 = .ok (.lload_n 0, 1) := by decide +kernel
theorem dX0_column_1 : decode cX0_column 1 = .ok (.iload_n 2, 1) := by decide +kernel
theorem dX0_column_2 : decode cX0_column 2 = .ok (.bipush 16, 2) := by decide +kernel
theorem dX0_column_4 : decode cX0_column 4 = .ok (.imul, 1) := by decide +kernel
theorem dX0_column_5 : decode cX0_column 5 = .ok (.lushr, 1) := by decide +kernel
theorem dX0_column_6 : decode cX0_column 6 = .ok (.ldc2_w 38, 3) := by decide +kernel
theorem dX0_column_9 : decode cX0_column 9 = .ok (.land, 1) := by decide +kernel
theorem dX0_column_10 : decode cX0_column 10 = .ok (.lreturn, 1) := by decide +kernel
set_option maxRecDepth 20000 in
theorem ggX0_compared_X0_column : GoodIn wsX0_compared wsX0_column := goodIn_r _ [5, 6] (by decide +kernel) (by decide +kernel)
set_option maxRecDepth 20000 in
theorem gX0_compared_X0_column : GoodIn wsX0_compared (va_wsS RX0 40 yX0_column wsX0_column) := goodIn_app (goodIn_of _ (by decide +kernel)) ggX0_compared_X0_column
theorem dX0_compared_0 : decode cX0_compared 0 = .ok (.lload_n 0, 1) := by decide +kernel
theorem dX0_compared_1 : decode cX0_compared 1 = .ok (.iload_n 2, 1) := by decide +kernel
theorem dX0_compared_2 : decode cX0_compared 2 = .ok (.invokestatic 40, 3) := by decide +kernel
theorem dX0_compared_5 : decode cX0_compared 5 = .ok (.lload_n 0, 1) := by decide +kernel
theorem dX0_compared_6 : decode cX0_compared 6 = .ok (.iload_n 3, 1) := by decide +kernel
theorem dX0_compared_7 : decode cX0_compared 7 = .ok (.invokestatic 40, 3) := by decide +kernel
theorem dX0_compared_10 : decode cX0_compared 10 = .ok (.ldc2_w 44, 3) := by decide +kernel
theorem dX0_compared_13 : decode cX0_compared 13 = .ok (.lxor, 1) := by decide +kernel
theorem dX0_compared_14 : decode cX0_compared 14 = .ok (.land, 1) := by decide +kernel
theorem dX0_compared_15 : decode cX0_compared 15 = .ok (.lstore 4, 2) := by decide +kernel
theorem dX0_compared_17 : decode cX0_compared 17 = .ok (.lload_n 0, 1) := by decide +kernel
theorem dX0_compared_18 : decode cX0_compared 18 = .ok (.lload 4, 2) := by decide +kernel
theorem dX0_compared_20 : decode cX0_compared 20 = .ok (.iload_n 2, 1) := by decide +kernel
theorem dX0_compared_21 : decode cX0_compared 21 = .ok (.bipush 16, 2) := by decide +kernel
theorem dX0_compared_23 : decode cX0_compared 23 = .ok (.imul, 1) := by decide +kernel
theorem dX0_compared_24 : decode cX0_compared 24 = .ok (.lshl, 1) := by decide +kernel
theorem dX0_compared_25 : decode cX0_compared 25 = .ok (.lxor, 1) := by decide +kernel
theorem dX0_compared_26 : decode cX0_compared 26 = .ok (.lload 4, 2) := by decide +kernel
theorem dX0_compared_28 : decode cX0_compared 28 = .ok (.iload_n 3, 1) := by decide +kernel
theorem dX0_compared_29 : decode cX0_compared 29 = .ok (.bipush 16, 2) := by decide +kernel
theorem dX0_compared_31 : decode cX0_compared 31 = .ok (.imul, 1) := by decide +kernel
theorem dX0_compared_32 : decode cX0_compared 32 = .ok (.lshl, 1) := by decide +kernel
theorem dX0_compared_33 : decode cX0_compared 33 = .ok (.lxor, 1) := by decide +kernel
theorem dX0_compared_34 : decode cX0_compared 34 = .ok (.lreturn, 1) := by decide +kernel
set_option maxRecDepth 20000 in
theorem ggX0_areRising_X0_column : GoodIn wsX0_areRising wsX0_column := goodIn_r _ [5, 6] (by decide +kernel) (by decide +kernel)
set_option maxRecDepth 20000 in
theorem gX0_areRising_X0_column : GoodIn wsX0_areRising (va_wsS RX0 40 yX0_column wsX0_column) := goodIn_app (goodIn_of _ (by decide +kernel)) ggX0_areRising_X0_column
theorem dX0_areRising_0 : decode cX0_areRising 0 = .ok (.iconst 0, 1) := by decide +kernel
theorem dX0_areRising_1 : decode cX0_areRising 1 = .ok (.istore_n 3, 1) := by decide +kernel
theorem dX0_areRising_2 : decode cX0_areRising 2 = .ok (.iload_n 3, 1) := by decide +kernel
theorem dX0_areRising_3 : decode cX0_areRising 3 = .ok (.iconst 1, 1) := by decide +kernel
theorem dX0_areRising_4 : decode cX0_areRising 4 = .ok (.iadd, 1) := by decide +kernel
theorem dX0_areRising_5 : decode cX0_areRising 5 = .ok (.iload_n 2, 1) := by decide +kernel
theorem dX0_areRising_6 : decode cX0_areRising 6 = .ok (.if_icmp .ge 33, 3) := by decide +kernel
theorem dX0_areRising_9 : decode cX0_areRising 9 = .ok (.lload_n 0, 1) := by decide +kernel
theorem dX0_areRising_10 : decode cX0_areRising 10 = .ok (.iload_n 3, 1) := by decide +kernel
theorem dX0_areRising_11 : decode cX0_areRising 11 = .ok (.invokestatic 40, 3) := by decide +kernel
theorem dX0_areRising_14 : decode cX0_areRising 14 = .ok (.lload_n 0, 1) := by decide +kernel
theorem dX0_areRising_15 : decode cX0_areRising 15 = .ok (.iload_n 3, 1) := by decide +kernel
theorem dX0_areRising_16 : decode cX0_areRising 16 = .ok (.iconst 1, 1) := by decide +kernel
theorem dX0_areRising_17 : decode cX0_areRising 17 = .ok (.iadd, 1) := by decide +kernel
theorem dX0_areRising_18 : decode cX0_areRising 18 = .ok (.invokestatic 40, 3) := by decide +kernel
theorem dX0_areRising_21 : decode cX0_areRising 21 = .ok (.ldc2_w 44, 3) := by decide +kernel
theorem dX0_areRising_24 : decode cX0_areRising 24 = .ok (.lxor, 1) := by decide +kernel
theorem dX0_areRising_25 : decode cX0_areRising 25 = .ok (.land, 1) := by decide +kernel
theorem dX0_areRising_26 : decode cX0_areRising 26 = .ok (.lconst 0, 1) := by decide +kernel
theorem dX0_areRising_27 : decode cX0_areRising 27 = .ok (.lcmp, 1) := by decide +kernel
theorem dX0_areRising_28 : decode cX0_areRising 28 = .ok (.ifCond .eq 5, 3) := by decide +kernel
theorem dX0_areRising_31 : decode cX0_areRising 31 = .ok (.iconst 0, 1) := by decide +kernel
theorem dX0_areRising_32 : decode cX0_areRising 32 = .ok (.ireturn, 1) := by decide +kernel
theorem dX0_areRising_33 : decode cX0_areRising 33 = .ok (.iinc 3 1, 3) := by decide +kernel
theorem dX0_areRising_36 : decode cX0_areRising 36 = .ok (.goto (-34), 3) := by decide +kernel
theorem dX0_areRising_39 : decode cX0_areRising 39 = .ok (.iconst 1, 1) := by decide +kernel
theorem dX0_areRising_40 : decode cX0_areRising 40 = .ok (.ireturn, 1) := by decide +kernel
theorem dX1_init_0 : decode cX1_init 0 = .ok (.aload_n 0, 1) := by decide +kernel
theorem dX1_init_1 : decode cX1_init 1 = .ok (.invokespecial 3, 3) := by decide +kernel
theorem dX1_init_4 : decode cX1_init 4 = .ok (.aload_n 0, 1) := by decide +kernel
theorem dX1_init_5 : decode cX1_init 5 = .ok (.iconst 0, 1) := by decide +kernel
theorem dX1_init_6 : decode cX1_init 6 = .ok (.putfield 9, 3) := by decide +kernel
theorem dX1_init_9 : decode cX1_init 9 = .ok (.aload_n 0, 1) := by decide +kernel
theorem dX1_init_10 : decode cX1_init 10 = .ok (.iconst 0, 1) := by decide +kernel
theorem dX1_init_11 : decode cX1_init 11 = .ok (.putfield 15, 3) := by decide +kernel
theorem dX1_init_14 : decode cX1_init 14 = .ok (.aload_n 0, 1) := by decide +kernel
theorem dX1_init_15 : decode cX1_init 15 = .ok (.bipush 12, 2) := by decide +kernel
theorem dX1_init_17 : decode cX1_init 17 = .ok (.newarray .long, 2) := by decide +kernel
theorem dX1_init_19 : decode cX1_init 19 = .ok (.putfield 18, 3) := by decide +kernel
theorem dX1_init_22 : decode cX1_init 22 = .ok (.return_, 1) := by decide +kernel
theorem dX1_isMissing_0 : decode cX1_isMissing 0 = .ok (.aload_n 0, 1) := by decide +kernel
theorem dX1_isMissing_1 : decode cX1_isMissing 1 = .ok (.getfield 9, 3) := by decide +kernel
theorem dX1_isMissing_4 : decode cX1_isMissing 4 = .ok (.ifCond .ne 7, 3) := by decide +kernel
theorem dX1_isMissing_7 : decode cX1_isMissing 7 = .ok (.iconst 1, 1) := by decide +kernel
theorem dX1_isMissing_8 : decode cX1_isMissing 8 = .ok (.goto 4, 3) := by decide +kernel
theorem dX1_isMissing_11 : decode cX1_isMissing 11 = .ok (.iconst 0, 1) := by decide +kernel
theorem dX1_isMissing_12 : decode cX1_isMissing 12 = .ok (.ireturn, 1) := by decide +kernel
theorem dX1_hasPart_0 : decode cX1_hasPart 0 = .ok (.iload_n 1, 1) := by decide +kernel
theorem dX1_hasPart_1 : decode cX1_hasPart 1 = .ok (.ifCond .lt 21, 3) := by decide +kernel
theorem dX1_hasPart_4 : decode cX1_hasPart 4 = .ok (.iload_n 2, 1) := by decide +kernel
theorem dX1_hasPart_5 : decode cX1_hasPart 5 = .ok (.ifCond .lt 17, 3) := by decide +kernel
theorem dX1_hasPart_8 : decode cX1_hasPart 8 = .ok (.iload_n 1, 1) := by decide +kernel
theorem dX1_hasPart_9 : decode cX1_hasPart 9 = .ok (.aload_n 0, 1) := by decide +kernel
theorem dX1_hasPart_10 : decode cX1_hasPart 10 = .ok (.getfield 15, 3) := by decide +kernel
theorem dX1_hasPart_13 : decode cX1_hasPart 13 = .ok (.iload_n 2, 1) := by decide +kernel
theorem dX1_hasPart_14 : decode cX1_hasPart 14 = .ok (.isub, 1) := by decide +kernel
theorem dX1_hasPart_15 : decode cX1_hasPart 15 = .ok (.if_icmp .gt 7, 3) := by decide +kernel
theorem dX1_hasPart_18 : decode cX1_hasPart 18 = .ok (.iconst 1, 1) := by decide +kernel
theorem dX1_hasPart_19 : decode cX1_hasPart 19 = .ok (.goto 4, 3) := by decide +kernel
theorem dX1_hasPart_22 : decode cX1_hasPart 22 = .ok (.iconst 0, 1) := by decide +kernel
theorem dX1_hasPart_23 : decode cX1_hasPart 23 = .ok (.ireturn, 1) := by decide +kernel
theorem dX1_renew_0 : decode cX1_renew 0 = .ok (.aload_n 0, 1) := by decide +kernel
theorem dX1_renew_1 : decode cX1_renew 1 = .ok (.iload_n 1, 1) := by decide +kernel
theorem dX1_renew_2 : decode cX1_renew 2 = .ok (.putfield 9, 3) := by decide +kernel
theorem dX1_renew_5 : decode cX1_renew 5 = .ok (.aload_n 0, 1) := by decide +kernel
theorem dX1_renew_6 : decode cX1_renew 6 = .ok (.iload_n 2, 1) := by decide +kernel
theorem dX1_renew_7 : decode cX1_renew 7 = .ok (.putfield 15, 3) := by decide +kernel
theorem dX1_renew_10 : decode cX1_renew 10 = .ok (.iconst 0, 1) := by decide +kernel
theorem dX1_renew_11 : decode cX1_renew 11 = .ok (.istore_n 3, 1) := by decide +kernel
theorem dX1_renew_12 : decode cX1_renew 12 = .ok (.iload_n 3, 1) := by decide +kernel
theorem dX1_renew_13 : decode cX1_renew 13 = .ok (.bipush 12, 2) := by decide +kernel
theorem dX1_renew_15 : decode cX1_renew 15 = .ok (.if_icmp .ge 16, 3) := by decide +kernel
theorem dX1_renew_18 : decode cX1_renew 18 = .ok (.aload_n 0, 1) := by decide +kernel
theorem dX1_renew_19 : decode cX1_renew 19 = .ok (.getfield 18, 3) := by decide +kernel
theorem dX1_renew_22 : decode cX1_renew 22 = .ok (.iload_n 3, 1) := by decide +kernel
theorem dX1_renew_23 : decode cX1_renew 23 = .ok (.lconst 0, 1) := by decide +kernel
theorem dX1_renew_24 : decode cX1_renew 24 = .ok (.lastore, 1) := by decide +kernel
theorem dX1_renew_25 : decode cX1_renew 25 = .ok (.iinc 3 1, 3) := by decide +kernel
theorem dX1_renew_28 : decode cX1_renew 28 = .ok (.goto (-16), 3) := by decide +kernel
theorem dX1_renew_31 : decode cX1_renew 31 = .ok (.return_, 1) := by decide +kernel
set_option maxRecDepth 20000 in
theorem ggX1_write_X1_fitted : GoodIn wsX1_write wsX1_fitted := goodIn_r _ [6, 7, 8, 9, 10, 11, 12] (by decide +kernel) (by decide +kernel)
set_option maxRecDepth 20000 in
theorem gX1_write_X1_fitted : GoodIn wsX1_write (va_wsS RX1 22 yX1_fitted wsX1_fitted) := goodIn_app (goodIn_of _ (by decide +kernel)) ggX1_write_X1_fitted
theorem dX1_write_0 : decode cX1_write 0 = .ok (.aload_n 0, 1) := by decide +kernel
theorem dX1_write_1 : decode cX1_write 1 = .ok (.getfield 18, 3) := by decide +kernel
theorem dX1_write_4 : decode cX1_write 4 = .ok (.iload_n 1, 1) := by decide +kernel
theorem dX1_write_5 : decode cX1_write 5 = .ok (.aload_n 0, 1) := by decide +kernel
theorem dX1_write_6 : decode cX1_write 6 = .ok (.getfield 9, 3) := by decide +kernel
theorem dX1_write_9 : decode cX1_write 9 = .ok (.lload_n 2, 1) := by decide +kernel
theorem dX1_write_10 : decode cX1_write 10 = .ok (.invokestatic 22, 3) := by decide +kernel
theorem dX1_write_13 : decode cX1_write 13 = .ok (.lastore, 1) := by decide +kernel
theorem dX1_write_14 : decode cX1_write 14 = .ok (.return_, 1) := by decide +kernel
theorem dX1_fitted_0 : decode cX1_fitted 0 = .ok (.iload_n 0, 1) := by decide +kernel
theorem dX1_fitted_1 : decode cX1_fitted 1 = .ok (.tableswitch 102 1 7 #[43, 48, 53, 58, 102, 62, 82], 43) := by decide +kernel
theorem dX1_fitted_44 : decode cX1_fitted 44 = .ok (.lload_n 1, 1) := by decide +kernel
theorem dX1_fitted_45 : decode cX1_fitted 45 = .ok (.l2i, 1) := by decide +kernel
theorem dX1_fitted_46 : decode cX1_fitted 46 = .ok (.i2b, 1) := by decide +kernel
theorem dX1_fitted_47 : decode cX1_fitted 47 = .ok (.i2l, 1) := by decide +kernel
theorem dX1_fitted_48 : decode cX1_fitted 48 = .ok (.lreturn, 1) := by decide +kernel
theorem dX1_fitted_49 : decode cX1_fitted 49 = .ok (.lload_n 1, 1) := by decide +kernel
theorem dX1_fitted_50 : decode cX1_fitted 50 = .ok (.l2i, 1) := by decide +kernel
theorem dX1_fitted_51 : decode cX1_fitted 51 = .ok (.i2c, 1) := by decide +kernel
theorem dX1_fitted_52 : decode cX1_fitted 52 = .ok (.i2l, 1) := by decide +kernel
theorem dX1_fitted_53 : decode cX1_fitted 53 = .ok (.lreturn, 1) := by decide +kernel
theorem dX1_fitted_54 : decode cX1_fitted 54 = .ok (.lload_n 1, 1) := by decide +kernel
theorem dX1_fitted_55 : decode cX1_fitted 55 = .ok (.l2i, 1) := by decide +kernel
theorem dX1_fitted_56 : decode cX1_fitted 56 = .ok (.i2s, 1) := by decide +kernel
theorem dX1_fitted_57 : decode cX1_fitted 57 = .ok (.i2l, 1) := by decide +kernel
theorem dX1_fitted_58 : decode cX1_fitted 58 = .ok (.lreturn, 1) := by decide +kernel
theorem dX1_fitted_59 : decode cX1_fitted 59 = .ok (.lload_n 1, 1) := by decide +kernel
theorem dX1_fitted_60 : decode cX1_fitted 60 = .ok (.l2i, 1) := by decide +kernel
theorem dX1_fitted_61 : decode cX1_fitted 61 = .ok (.i2l, 1) := by decide +kernel
theorem dX1_fitted_62 : decode cX1_fitted 62 = .ok (.lreturn, 1) := by decide +kernel
theorem dX1_fitted_63 : decode cX1_fitted 63 = .ok (.lload_n 1, 1) := by decide +kernel
theorem dX1_fitted_64 : decode cX1_fitted 64 = .ok (.l2i, 1) := by decide +kernel
theorem dX1_fitted_65 : decode cX1_fitted 65 = .ok (.ldc 26, 2) := by decide +kernel
theorem dX1_fitted_67 : decode cX1_fitted 67 = .ok (.iand, 1) := by decide +kernel
theorem dX1_fitted_68 : decode cX1_fitted 68 = .ok (.ldc 27, 2) := by decide +kernel
theorem dX1_fitted_70 : decode cX1_fitted 70 = .ok (.if_icmp .le 9, 3) := by decide +kernel
theorem dX1_fitted_73 : decode cX1_fitted 73 = .ok (.ldc2_w 28, 3) := by decide +kernel
theorem dX1_fitted_76 : decode cX1_fitted 76 = .ok (.goto 6, 3) := by decide +kernel
theorem dX1_fitted_79 : decode cX1_fitted 79 = .ok (.lload_n 1, 1) := by decide +kernel
theorem dX1_fitted_80 : decode cX1_fitted 80 = .ok (.l2i, 1) := by decide +kernel
theorem dX1_fitted_81 : decode cX1_fitted 81 = .ok (.i2l, 1) := by decide +kernel
theorem dX1_fitted_82 : decode cX1_fitted 82 = .ok (.lreturn, 1) := by decide +kernel
theorem dX1_fitted_83 : decode cX1_fitted 83 = .ok (.lload_n 1, 1) := by decide +kernel
theorem dX1_fitted_84 : decode cX1_fitted 84 = .ok (.ldc2_w 30, 3) := by decide +kernel
theorem dX1_fitted_87 : decode cX1_fitted 87 = .ok (.land, 1) := by decide +kernel
theorem dX1_fitted_88 : decode cX1_fitted 88 = .ok (.ldc2_w 32, 3) := by decide +kernel
theorem dX1_fitted_91 : decode cX1_fitted 91 = .ok (.lcmp, 1) := by decide +kernel
theorem dX1_fitted_92 : decode cX1_fitted 92 = .ok (.ifCond .le 9, 3) := by decide +kernel
theorem dX1_fitted_95 : decode cX1_fitted 95 = .ok (.ldc2_w 34, 3) := by decide +kernel
theorem dX1_fitted_98 : decode cX1_fitted 98 = .ok (.goto 4, 3) := by decide +kernel
theorem dX1_fitted_101 : decode cX1_fitted 101 = .ok (.lload_n 1, 1) := by decide +kernel
theorem dX1_fitted_102 : decode cX1_fitted 102 = .ok (.lreturn, 1) := by decide +kernel
theorem dX1_fitted_103 : decode cX1_fitted 103 = .ok (.lload_n 1, 1) := by decide +kernel
theorem dX1_fitted_104 : decode cX1_fitted 104 = .ok (.lreturn, 1) := by decide +kernel
set_option maxRecDepth 20000 in
theorem ggX1_compare_X1_rank : GoodIn wsX1_compare wsX1_rank := goodIn_r _ [6, 7, 8, 13, 14, 15] (by decide +kernel) (by decide +kernel)
set_option maxRecDepth 20000 in
theorem gX1_compare_X1_rank : GoodIn wsX1_compare (wsV RX1 36 RX1 yX1_rank wsX1_rank) := goodIn_app (goodIn_of _ (by decide +kernel)) ggX1_compare_X1_rank
set_option maxRecDepth 20000 in
theorem ggX1_compare_J13_compare_74951 : GoodIn wsX1_compare wsJ13_compare_74951 := goodIn_r _ [12] (by decide +kernel) (by decide +kernel)
set_option maxRecDepth 20000 in
theorem gX1_compare_J13_compare_74951 : GoodIn wsX1_compare (va_wsS RX1 40 yJ13_compare_74951 wsJ13_compare_74951) := goodIn_app (goodIn_of _ (by decide +kernel)) ggX1_compare_J13_compare_74951
theorem dX1_compare_0 : decode cX1_compare 0 = .ok (.aload_n 0, 1) := by decide +kernel
theorem dX1_compare_1 : decode cX1_compare 1 = .ok (.aload_n 0, 1) := by decide +kernel
theorem dX1_compare_2 : decode cX1_compare 2 = .ok (.getfield 18, 3) := by decide +kernel
theorem dX1_compare_5 : decode cX1_compare 5 = .ok (.iload_n 1, 1) := by decide +kernel
theorem dX1_compare_6 : decode cX1_compare 6 = .ok (.laload, 1) := by decide +kernel
theorem dX1_compare_7 : decode cX1_compare 7 = .ok (.invokevirtual 36, 3) := by decide +kernel
theorem dX1_compare_10 : decode cX1_compare 10 = .ok (.aload_n 0, 1) := by decide +kernel
theorem dX1_compare_11 : decode cX1_compare 11 = .ok (.aload_n 0, 1) := by decide +kernel
theorem dX1_compare_12 : decode cX1_compare 12 = .ok (.getfield 18, 3) := by decide +kernel
theorem dX1_compare_15 : decode cX1_compare 15 = .ok (.iload_n 2, 1) := by decide +kernel
theorem dX1_compare_16 : decode cX1_compare 16 = .ok (.laload, 1) := by decide +kernel
theorem dX1_compare_17 : decode cX1_compare 17 = .ok (.invokevirtual 36, 3) := by decide +kernel
theorem dX1_compare_20 : decode cX1_compare 20 = .ok (.invokestatic 40, 3) := by decide +kernel
theorem dX1_compare_23 : decode cX1_compare 23 = .ok (.ireturn, 1) := by decide +kernel
theorem dX1_rank_0 : decode cX1_rank 0 = .ok (.aload_n 0, 1) := by decide +kernel
theorem dX1_rank_1 : decode cX1_rank 1 = .ok (.getfield 9, 3) := by decide +kernel
theorem dX1_rank_4 : decode cX1_rank 4 = .ok (.bipush 6, 2) := by decide +kernel
theorem dX1_rank_6 : decode cX1_rank 6 = .ok (.if_icmp .lt 13, 3) := by decide +kernel
theorem dX1_rank_9 : decode cX1_rank 9 = .ok (.lload_n 1, 1) := by decide +kernel
theorem dX1_rank_10 : decode cX1_rank 10 = .ok (.lconst 0, 1) := by decide +kernel
theorem dX1_rank_11 : decode cX1_rank 11 = .ok (.lcmp, 1) := by decide +kernel
theorem dX1_rank_12 : decode cX1_rank 12 = .ok (.ifCond .ge 7, 3) := by decide +kernel
theorem dX1_rank_15 : decode cX1_rank 15 = .ok (.iconst 1, 1) := by decide +kernel
theorem dX1_rank_16 : decode cX1_rank 16 = .ok (.goto 4, 3) := by decide +kernel
theorem dX1_rank_19 : decode cX1_rank 19 = .ok (.iconst 0, 1) := by decide +kernel
theorem dX1_rank_20 : decode cX1_rank 20 = .ok (.istore_n 3, 1) := by decide +kernel
theorem dX1_rank_21 : decode cX1_rank 21 = .ok (.iload_n 3, 1) := by decide +kernel
theorem dX1_rank_22 : decode cX1_rank 22 = .ok (.ifCond .eq 11, 3) := by decide +kernel
theorem dX1_rank_25 : decode cX1_rank 25 = .ok (.lload_n 1, 1) := by decide +kernel
theorem dX1_rank_26 : decode cX1_rank 26 = .ok (.ldc2_w 30, 3) := by decide +kernel
theorem dX1_rank_29 : decode cX1_rank 29 = .ok (.lxor, 1) := by decide +kernel
theorem dX1_rank_30 : decode cX1_rank 30 = .ok (.goto 4, 3) := by decide +kernel
theorem dX1_rank_33 : decode cX1_rank 33 = .ok (.lload_n 1, 1) := by decide +kernel
theorem dX1_rank_34 : decode cX1_rank 34 = .ok (.lreturn, 1) := by decide +kernel
set_option maxRecDepth 20000 in
theorem ggX1_mustChange_X1_compare : GoodIn wsX1_mustChange wsX1_compare := goodIn_r _ [5, 6, 7, 8, 9, 4, 10, 11, 12, 13, 14, 15, 16, 17, 18, 19] (by decide +kernel) (by decide +kernel)
set_option maxRecDepth 20000 in
theorem gX1_mustChange_X1_compare : GoodIn wsX1_mustChange (wsV RX1 46 RX1 yX1_compare wsX1_compare) := goodIn_app (goodIn_of _ (by decide +kernel)) ggX1_mustChange_X1_compare
theorem dX1_mustChange_0 : decode cX1_mustChange 0 = .ok (.iload_n 1, 1) := by decide +kernel
theorem dX1_mustChange_1 : decode cX1_mustChange 1 = .ok (.lookupswitch 57 #[(0, 27), (1, 42)], 27) := by decide +kernel
theorem dX1_mustChange_28 : decode cX1_mustChange 28 = .ok (.aload_n 0, 1) := by decide +kernel
theorem dX1_mustChange_29 : decode cX1_mustChange 29 = .ok (.iload_n 2, 1) := by decide +kernel
theorem dX1_mustChange_30 : decode cX1_mustChange 30 = .ok (.iload_n 3, 1) := by decide +kernel
theorem dX1_mustChange_31 : decode cX1_mustChange 31 = .ok (.invokevirtual 46, 3) := by decide +kernel
theorem dX1_mustChange_34 : decode cX1_mustChange 34 = .ok (.ifCond .le 7, 3) := by decide +kernel
theorem dX1_mustChange_37 : decode cX1_mustChange 37 = .ok (.iconst 1, 1) := by decide +kernel
theorem dX1_mustChange_38 : decode cX1_mustChange 38 = .ok (.goto 4, 3) := by decide +kernel
theorem dX1_mustChange_41 : decode cX1_mustChange 41 = .ok (.iconst 0, 1) := by decide +kernel
theorem dX1_mustChange_42 : decode cX1_mustChange 42 = .ok (.ireturn, 1) := by decide +kernel
theorem dX1_mustChange_43 : decode cX1_mustChange 43 = .ok (.aload_n 0, 1) := by decide +kernel
theorem dX1_mustChange_44 : decode cX1_mustChange 44 = .ok (.iload_n 2, 1) := by decide +kernel
theorem dX1_mustChange_45 : decode cX1_mustChange 45 = .ok (.iload_n 3, 1) := by decide +kernel
theorem dX1_mustChange_46 : decode cX1_mustChange 46 = .ok (.invokevirtual 46, 3) := by decide +kernel
theorem dX1_mustChange_49 : decode cX1_mustChange 49 = .ok (.ifCond .ge 7, 3) := by decide +kernel
theorem dX1_mustChange_52 : decode cX1_mustChange 52 = .ok (.iconst 1, 1) := by decide +kernel
theorem dX1_mustChange_53 : decode cX1_mustChange 53 = .ok (.goto 4, 3) := by decide +kernel
theorem dX1_mustChange_56 : decode cX1_mustChange 56 = .ok (.iconst 0, 1) := by decide +kernel
theorem dX1_mustChange_57 : decode cX1_mustChange 57 = .ok (.ireturn, 1) := by decide +kernel
theorem dX1_mustChange_58 : decode cX1_mustChange 58 = .ok (.iload_n 1, 1) := by decide +kernel
theorem dX1_mustChange_59 : decode cX1_mustChange 59 = .ok (.iconst 3, 1) := by decide +kernel
theorem dX1_mustChange_60 : decode cX1_mustChange 60 = .ok (.if_icmp .ne 7, 3) := by decide +kernel
theorem dX1_mustChange_63 : decode cX1_mustChange 63 = .ok (.iconst 1, 1) := by decide +kernel
theorem dX1_mustChange_64 : decode cX1_mustChange 64 = .ok (.goto 4, 3) := by decide +kernel
theorem dX1_mustChange_67 : decode cX1_mustChange 67 = .ok (.iconst 0, 1) := by decide +kernel
theorem dX1_mustChange_68 : decode cX1_mustChange 68 = .ok (.ireturn, 1) := by decide +kernel
theorem dX1_exchange_0 : decode cX1_exchange 0 = .ok (.aload_n 0, 1) := by decide +kernel
theorem dX1_exchange_1 : decode cX1_exchange 1 = .ok (.getfield 18, 3) := by decide +kernel
theorem dX1_exchange_4 : decode cX1_exchange 4 = .ok (.iload_n 1, 1) := by decide +kernel
theorem dX1_exchange_5 : decode cX1_exchange 5 = .ok (.laload, 1) := by decide +kernel
theorem dX1_exchange_6 : decode cX1_exchange 6 = .ok (.lstore_n 3, 1) := by decide +kernel
theorem dX1_exchange_7 : decode cX1_exchange 7 = .ok (.aload_n 0, 1) := by decide +kernel
theorem dX1_exchange_8 : decode cX1_exchange 8 = .ok (.getfield 18, 3) := by decide +kernel
theorem dX1_exchange_11 : decode cX1_exchange 11 = .ok (.iload_n 1, 1) := by decide +kernel
theorem dX1_exchange_12 : decode cX1_exchange 12 = .ok (.aload_n 0, 1) := by decide +kernel
theorem dX1_exchange_13 : decode cX1_exchange 13 = .ok (.getfield 18, 3) := by decide +kernel
theorem dX1_exchange_16 : decode cX1_exchange 16 = .ok (.iload_n 2, 1) := by decide +kernel
theorem dX1_exchange_17 : decode cX1_exchange 17 = .ok (.laload, 1) := by decide +kernel
theorem dX1_exchange_18 : decode cX1_exchange 18 = .ok (.lastore, 1) := by decide +kernel
theorem dX1_exchange_19 : decode cX1_exchange 19 = .ok (.aload_n 0, 1) := by decide +kernel
theorem dX1_exchange_20 : decode cX1_exchange 20 = .ok (.getfield 18, 3) := by decide +kernel
theorem dX1_exchange_23 : decode cX1_exchange 23 = .ok (.iload_n 2, 1) := by decide +kernel
theorem dX1_exchange_24 : decode cX1_exchange 24 = .ok (.lload_n 3, 1) := by decide +kernel
theorem dX1_exchange_25 : decode cX1_exchange 25 = .ok (.lastore, 1) := by decide +kernel
theorem dX1_exchange_26 : decode cX1_exchange 26 = .ok (.return_, 1) := by decide +kernel
set_option maxRecDepth 20000 in
theorem ggX2_init_X3_init : GoodIn wsX2_init wsX3_init := goodIn_r _ [11, 12, 2, 3, 13, 14, 15, 16, 20, 21, 22] (by decide +kernel) (by decide +kernel)
set_option maxRecDepth 20000 in
theorem gX2_init_X3_init_n24 : GoodIn wsX2_init (wsX3_init) := ggX2_init_X3_init
theorem dX2_init_0 : decode cX2_init 0 = .ok (.aload_n 0, 1) := by decide +kernel
theorem dX2_init_1 : decode cX2_init 1 = .ok (.invokespecial 3, 3) := by decide +kernel
theorem dX2_init_4 : decode cX2_init 4 = .ok (.aload_n 0, 1) := by decide +kernel
theorem dX2_init_5 : decode cX2_init 5 = .ok (.bipush 25, 2) := by decide +kernel
theorem dX2_init_7 : decode cX2_init 7 = .ok (.anewarray 9, 3) := by decide +kernel
theorem dX2_init_10 : decode cX2_init 10 = .ok (.putfield 11, 3) := by decide +kernel
theorem dX2_init_13 : decode cX2_init 13 = .ok (.aload_n 0, 1) := by decide +kernel
theorem dX2_init_14 : decode cX2_init 14 = .ok (.iconst 0, 1) := by decide +kernel
theorem dX2_init_15 : decode cX2_init 15 = .ok (.putfield 17, 3) := by decide +kernel
theorem dX2_init_18 : decode cX2_init 18 = .ok (.aload_n 0, 1) := by decide +kernel
theorem dX2_init_19 : decode cX2_init 19 = .ok (.iconst 0, 1) := by decide +kernel
theorem dX2_init_20 : decode cX2_init 20 = .ok (.putfield 21, 3) := by decide +kernel
theorem dX2_init_23 : decode cX2_init 23 = .ok (.iconst 0, 1) := by decide +kernel
theorem dX2_init_24 : decode cX2_init 24 = .ok (.istore_n 1, 1) := by decide +kernel
theorem dX2_init_25 : decode cX2_init 25 = .ok (.iload_n 1, 1) := by decide +kernel
theorem dX2_init_26 : decode cX2_init 26 = .ok (.bipush 25, 2) := by decide +kernel
theorem dX2_init_28 : decode cX2_init 28 = .ok (.if_icmp .ge 22, 3) := by decide +kernel
theorem dX2_init_31 : decode cX2_init 31 = .ok (.aload_n 0, 1) := by decide +kernel
theorem dX2_init_32 : decode cX2_init 32 = .ok (.getfield 11, 3) := by decide +kernel
theorem dX2_init_35 : decode cX2_init 35 = .ok (.iload_n 1, 1) := by decide +kernel
theorem dX2_init_36 : decode cX2_init 36 = .ok (.new 9, 3) := by decide +kernel
theorem dX2_init_39 : decode cX2_init 39 = .ok (.dup, 1) := by decide +kernel
theorem dX2_init_40 : decode cX2_init 40 = .ok (.invokespecial 24, 3) := by decide +kernel
theorem dX2_init_43 : decode cX2_init 43 = .ok (.aastore, 1) := by decide +kernel
theorem dX2_init_44 : decode cX2_init 44 = .ok (.iinc 1 1, 3) := by decide +kernel
theorem dX2_init_47 : decode cX2_init 47 = .ok (.goto (-22), 3) := by decide +kernel
theorem dX2_init_50 : decode cX2_init 50 = .ok (.return_, 1) := by decide +kernel
set_option maxRecDepth 20000 in
theorem ggX2_remember_X3_become : GoodIn wsX2_remember wsX3_become := goodIn_r _ [12, 13, 14, 15, 16, 17, 18, 19, 23, 24, 25] (by decide +kernel) (by decide +kernel)
set_option maxRecDepth 20000 in
theorem gX2_remember_X3_become : GoodIn wsX2_remember (wsV RX2 25 RX3 yX3_become wsX3_become) := goodIn_app (goodIn_of _ (by decide +kernel)) ggX2_remember_X3_become
theorem dX2_remember_0 : decode cX2_remember 0 = .ok (.aload_n 0, 1) := by decide +kernel
theorem dX2_remember_1 : decode cX2_remember 1 = .ok (.getfield 11, 3) := by decide +kernel
theorem dX2_remember_4 : decode cX2_remember 4 = .ok (.aload_n 0, 1) := by decide +kernel
theorem dX2_remember_5 : decode cX2_remember 5 = .ok (.getfield 17, 3) := by decide +kernel
theorem dX2_remember_8 : decode cX2_remember 8 = .ok (.aaload, 1) := by decide +kernel
theorem dX2_remember_9 : decode cX2_remember 9 = .ok (.aload_n 1, 1) := by decide +kernel
theorem dX2_remember_10 : decode cX2_remember 10 = .ok (.invokevirtual 25, 3) := by decide +kernel
theorem dX2_remember_13 : decode cX2_remember 13 = .ok (.aload_n 0, 1) := by decide +kernel
theorem dX2_remember_14 : decode cX2_remember 14 = .ok (.aload_n 0, 1) := by decide +kernel
theorem dX2_remember_15 : decode cX2_remember 15 = .ok (.getfield 17, 3) := by decide +kernel
theorem dX2_remember_18 : decode cX2_remember 18 = .ok (.iconst 1, 1) := by decide +kernel
theorem dX2_remember_19 : decode cX2_remember 19 = .ok (.iadd, 1) := by decide +kernel
theorem dX2_remember_20 : decode cX2_remember 20 = .ok (.bipush 25, 2) := by decide +kernel
theorem dX2_remember_22 : decode cX2_remember 22 = .ok (.if_icmp .ge 12, 3) := by decide +kernel
theorem dX2_remember_25 : decode cX2_remember 25 = .ok (.aload_n 0, 1) := by decide +kernel
theorem dX2_remember_26 : decode cX2_remember 26 = .ok (.getfield 17, 3) := by decide +kernel
theorem dX2_remember_29 : decode cX2_remember 29 = .ok (.iconst 1, 1) := by decide +kernel
theorem dX2_remember_30 : decode cX2_remember 30 = .ok (.iadd, 1) := by decide +kernel
theorem dX2_remember_31 : decode cX2_remember 31 = .ok (.goto 4, 3) := by decide +kernel
theorem dX2_remember_34 : decode cX2_remember 34 = .ok (.iconst 0, 1) := by decide +kernel
theorem dX2_remember_35 : decode cX2_remember 35 = .ok (.putfield 17, 3) := by decide +kernel
theorem dX2_remember_38 : decode cX2_remember 38 = .ok (.aload_n 0, 1) := by decide +kernel
theorem dX2_remember_39 : decode cX2_remember 39 = .ok (.aload_n 0, 1) := by decide +kernel
theorem dX2_remember_40 : decode cX2_remember 40 = .ok (.getfield 21, 3) := by decide +kernel
theorem dX2_remember_43 : decode cX2_remember 43 = .ok (.iconst 1, 1) := by decide +kernel
theorem dX2_remember_44 : decode cX2_remember 44 = .ok (.iadd, 1) := by decide +kernel
theorem dX2_remember_45 : decode cX2_remember 45 = .ok (.bipush 25, 2) := by decide +kernel
theorem dX2_remember_47 : decode cX2_remember 47 = .ok (.invokestatic 29, 3) := by decide +kernel
theorem dX2_remember_50 : decode cX2_remember 50 = .ok (.putfield 21, 3) := by decide +kernel
theorem dX2_remember_53 : decode cX2_remember 53 = .ok (.return_, 1) := by decide +kernel
set_option maxRecDepth 20000 in
theorem ggX2_giveBack_X3_become : GoodIn wsX2_giveBack wsX3_become := goodIn_r _ [8, 9, 10, 11, 12, 13, 14, 15, 19, 20, 21] (by decide +kernel) (by decide +kernel)
set_option maxRecDepth 20000 in
theorem gX2_giveBack_X3_become : GoodIn wsX2_giveBack (wsV RX2 25 RX3 yX3_become wsX3_become) := goodIn_app (goodIn_of _ (by decide +kernel)) ggX2_giveBack_X3_become
theorem dX2_giveBack_0 : decode cX2_giveBack 0 = .ok (.aload_n 0, 1) := by decide +kernel
theorem dX2_giveBack_1 : decode cX2_giveBack 1 = .ok (.getfield 21, 3) := by decide +kernel
theorem dX2_giveBack_4 : decode cX2_giveBack 4 = .ok (.ifCond .le 48, 3) := by decide +kernel
theorem dX2_giveBack_7 : decode cX2_giveBack 7 = .ok (.aload_n 0, 1) := by decide +kernel
theorem dX2_giveBack_8 : decode cX2_giveBack 8 = .ok (.aload_n 0, 1) := by decide +kernel
theorem dX2_giveBack_9 : decode cX2_giveBack 9 = .ok (.getfield 17, 3) := by decide +kernel
theorem dX2_giveBack_12 : decode cX2_giveBack 12 = .ok (.ifCond .le 12, 3) := by decide +kernel
theorem dX2_giveBack_15 : decode cX2_giveBack 15 = .ok (.aload_n 0, 1) := by decide +kernel
theorem dX2_giveBack_16 : decode cX2_giveBack 16 = .ok (.getfield 17, 3) := by decide +kernel
theorem dX2_giveBack_19 : decode cX2_giveBack 19 = .ok (.iconst 1, 1) := by decide +kernel
theorem dX2_giveBack_20 : decode cX2_giveBack 20 = .ok (.isub, 1) := by decide +kernel
theorem dX2_giveBack_21 : decode cX2_giveBack 21 = .ok (.goto 5, 3) := by decide +kernel
theorem dX2_giveBack_24 : decode cX2_giveBack 24 = .ok (.bipush 24, 2) := by decide +kernel
theorem dX2_giveBack_26 : decode cX2_giveBack 26 = .ok (.putfield 17, 3) := by decide +kernel
theorem dX2_giveBack_29 : decode cX2_giveBack 29 = .ok (.aload_n 0, 1) := by decide +kernel
theorem dX2_giveBack_30 : decode cX2_giveBack 30 = .ok (.dup, 1) := by decide +kernel
theorem dX2_giveBack_31 : decode cX2_giveBack 31 = .ok (.getfield 21, 3) := by decide +kernel
theorem dX2_giveBack_34 : decode cX2_giveBack 34 = .ok (.iconst 1, 1) := by decide +kernel
theorem dX2_giveBack_35 : decode cX2_giveBack 35 = .ok (.isub, 1) := by decide +kernel
theorem dX2_giveBack_36 : decode cX2_giveBack 36 = .ok (.putfield 21, 3) := by decide +kernel
theorem dX2_giveBack_39 : decode cX2_giveBack 39 = .ok (.aload_n 1, 1) := by decide +kernel
theorem dX2_giveBack_40 : decode cX2_giveBack 40 = .ok (.aload_n 0, 1) := by decide +kernel
theorem dX2_giveBack_41 : decode cX2_giveBack 41 = .ok (.getfield 11, 3) := by decide +kernel
theorem dX2_giveBack_44 : decode cX2_giveBack 44 = .ok (.aload_n 0, 1) := by decide +kernel
theorem dX2_giveBack_45 : decode cX2_giveBack 45 = .ok (.getfield 17, 3) := by decide +kernel
theorem dX2_giveBack_48 : decode cX2_giveBack 48 = .ok (.aaload, 1) := by decide +kernel
theorem dX2_giveBack_49 : decode cX2_giveBack 49 = .ok (.invokevirtual 25, 3) := by decide +kernel
theorem dX2_giveBack_52 : decode cX2_giveBack 52 = .ok (.return_, 1) := by decide +kernel
theorem dX3_init_0 : decode cX3_init 0 = .ok (.aload_n 0, 1) := by decide +kernel
theorem dX3_init_1 : decode cX3_init 1 = .ok (.invokespecial 3, 3) := by decide +kernel
theorem dX3_init_4 : decode cX3_init 4 = .ok (.aload_n 0, 1) := by decide +kernel
theorem dX3_init_5 : decode cX3_init 5 = .ok (.iconst 0, 1) := by decide +kernel
theorem dX3_init_6 : decode cX3_init 6 = .ok (.putfield 9, 3) := by decide +kernel
theorem dX3_init_9 : decode cX3_init 9 = .ok (.aload_n 0, 1) := by decide +kernel
theorem dX3_init_10 : decode cX3_init 10 = .ok (.iconst 0, 1) := by decide +kernel
theorem dX3_init_11 : decode cX3_init 11 = .ok (.putfield 15, 3) := by decide +kernel
theorem dX3_init_14 : decode cX3_init 14 = .ok (.aload_n 0, 1) := by decide +kernel
theorem dX3_init_15 : decode cX3_init 15 = .ok (.bipush 40, 2) := by decide +kernel
theorem dX3_init_17 : decode cX3_init 17 = .ok (.newarray .int, 2) := by decide +kernel
theorem dX3_init_19 : decode cX3_init 19 = .ok (.putfield 18, 3) := by decide +kernel
theorem dX3_init_22 : decode cX3_init 22 = .ok (.return_, 1) := by decide +kernel
theorem dX3_isNone_0 : decode cX3_isNone 0 = .ok (.aload_n 0, 1) := by decide +kernel
theorem dX3_isNone_1 : decode cX3_isNone 1 = .ok (.getfield 9, 3) := by decide +kernel
theorem dX3_isNone_4 : decode cX3_isNone 4 = .ok (.ifCond .ne 7, 3) := by decide +kernel
theorem dX3_isNone_7 : decode cX3_isNone 7 = .ok (.iconst 1, 1) := by decide +kernel
theorem dX3_isNone_8 : decode cX3_isNone 8 = .ok (.goto 4, 3) := by decide +kernel
theorem dX3_isNone_11 : decode cX3_isNone 11 = .ok (.iconst 0, 1) := by decide +kernel
theorem dX3_isNone_12 : decode cX3_isNone 12 = .ok (.ireturn, 1) := by decide +kernel
theorem dX3_has_0 : decode cX3_has 0 = .ok (.iload_n 1, 1) := by decide +kernel
theorem dX3_has_1 : decode cX3_has 1 = .ok (.ifCond .lt 15, 3) := by decide +kernel
theorem dX3_has_4 : decode cX3_has 4 = .ok (.iload_n 1, 1) := by decide +kernel
theorem dX3_has_5 : decode cX3_has 5 = .ok (.aload_n 0, 1) := by decide +kernel
theorem dX3_has_6 : decode cX3_has 6 = .ok (.getfield 15, 3) := by decide +kernel
theorem dX3_has_9 : decode cX3_has 9 = .ok (.if_icmp .ge 7, 3) := by decide +kernel
theorem dX3_has_12 : decode cX3_has 12 = .ok (.iconst 1, 1) := by decide +kernel
theorem dX3_has_13 : decode cX3_has 13 = .ok (.goto 4, 3) := by decide +kernel
theorem dX3_has_16 : decode cX3_has 16 = .ok (.iconst 0, 1) := by decide +kernel
theorem dX3_has_17 : decode cX3_has 17 = .ok (.ireturn, 1) := by decide +kernel
theorem dX3_hasLane_0 : decode cX3_hasLane 0 = .ok (.iload_n 1, 1) := by decide +kernel
theorem dX3_hasLane_1 : decode cX3_hasLane 1 = .ok (.ifCond .lt 15, 3) := by decide +kernel
theorem dX3_hasLane_4 : decode cX3_hasLane 4 = .ok (.iload_n 1, 1) := by decide +kernel
theorem dX3_hasLane_5 : decode cX3_hasLane 5 = .ok (.aload_n 0, 1) := by decide +kernel
theorem dX3_hasLane_6 : decode cX3_hasLane 6 = .ok (.getfield 9, 3) := by decide +kernel
theorem dX3_hasLane_9 : decode cX3_hasLane 9 = .ok (.if_icmp .ge 7, 3) := by decide +kernel
theorem dX3_hasLane_12 : decode cX3_hasLane 12 = .ok (.iconst 1, 1) := by decide +kernel
theorem dX3_hasLane_13 : decode cX3_hasLane 13 = .ok (.goto 4, 3) := by decide +kernel
theorem dX3_hasLane_16 : decode cX3_hasLane 16 = .ok (.iconst 0, 1) := by decide +kernel
theorem dX3_hasLane_17 : decode cX3_hasLane 17 = .ok (.ireturn, 1) := by decide +kernel
theorem dX3_kind_0 : decode cX3_kind 0 = .ok (.aload_n 0, 1) := by decide +kernel
theorem dX3_kind_1 : decode cX3_kind 1 = .ok (.getfield 18, 3) := by decide +kernel
theorem dX3_kind_4 : decode cX3_kind 4 = .ok (.iload_n 1, 1) := by decide +kernel
theorem dX3_kind_5 : decode cX3_kind 5 = .ok (.iaload, 1) := by decide +kernel
theorem dX3_kind_6 : decode cX3_kind 6 = .ok (.bipush 7, 2) := by decide +kernel
theorem dX3_kind_8 : decode cX3_kind 8 = .ok (.iand, 1) := by decide +kernel
theorem dX3_kind_9 : decode cX3_kind 9 = .ok (.ireturn, 1) := by decide +kernel
theorem dX3_low_0 : decode cX3_low 0 = .ok (.aload_n 0, 1) := by decide +kernel
theorem dX3_low_1 : decode cX3_low 1 = .ok (.getfield 18, 3) := by decide +kernel
theorem dX3_low_4 : decode cX3_low 4 = .ok (.iload_n 1, 1) := by decide +kernel
theorem dX3_low_5 : decode cX3_low 5 = .ok (.iaload, 1) := by decide +kernel
theorem dX3_low_6 : decode cX3_low 6 = .ok (.iconst 3, 1) := by decide +kernel
theorem dX3_low_7 : decode cX3_low 7 = .ok (.ishr, 1) := by decide +kernel
theorem dX3_low_8 : decode cX3_low 8 = .ok (.bipush 7, 2) := by decide +kernel
theorem dX3_low_10 : decode cX3_low 10 = .ok (.iand, 1) := by decide +kernel
theorem dX3_low_11 : decode cX3_low 11 = .ok (.ireturn, 1) := by decide +kernel
theorem dX3_high_0 : decode cX3_high 0 = .ok (.aload_n 0, 1) := by decide +kernel
theorem dX3_high_1 : decode cX3_high 1 = .ok (.getfield 18, 3) := by decide +kernel
theorem dX3_high_4 : decode cX3_high 4 = .ok (.iload_n 1, 1) := by decide +kernel
theorem dX3_high_5 : decode cX3_high 5 = .ok (.iaload, 1) := by decide +kernel
theorem dX3_high_6 : decode cX3_high 6 = .ok (.bipush 6, 2) := by decide +kernel
theorem dX3_high_8 : decode cX3_high 8 = .ok (.ishr, 1) := by decide +kernel
theorem dX3_high_9 : decode cX3_high 9 = .ok (.bipush 7, 2) := by decide +kernel
theorem dX3_high_11 : decode cX3_high 11 = .ok (.iand, 1) := by decide +kernel
theorem dX3_high_12 : decode cX3_high 12 = .ok (.ireturn, 1) := by decide +kernel
theorem dX3_switchOf_0 : decode cX3_switchOf 0 = .ok (.aload_n 0, 1) := by decide +kernel
theorem dX3_switchOf_1 : decode cX3_switchOf 1 = .ok (.getfield 18, 3) := by decide +kernel
theorem dX3_switchOf_4 : decode cX3_switchOf 4 = .ok (.iload_n 1, 1) := by decide +kernel
theorem dX3_switchOf_5 : decode cX3_switchOf 5 = .ok (.iaload, 1) := by decide +kernel
theorem dX3_switchOf_6 : decode cX3_switchOf 6 = .ok (.sipush 512, 3) := by decide +kernel
theorem dX3_switchOf_9 : decode cX3_switchOf 9 = .ok (.iand, 1) := by decide +kernel
theorem dX3_switchOf_10 : decode cX3_switchOf 10 = .ok (.ifCond .eq 7, 3) := by decide +kernel
theorem dX3_switchOf_13 : decode cX3_switchOf 13 = .ok (.iconst 1, 1) := by decide +kernel
theorem dX3_switchOf_14 : decode cX3_switchOf 14 = .ok (.goto 4, 3) := by decide +kernel
theorem dX3_switchOf_17 : decode cX3_switchOf 17 = .ok (.iconst 0, 1) := by decide +kernel
theorem dX3_switchOf_18 : decode cX3_switchOf 18 = .ok (.ireturn, 1) := by decide +kernel
set_option maxRecDepth 20000 in
theorem ggX3_actingKind_X3_kind : GoodIn wsX3_actingKind wsX3_kind := goodIn_r _ [5, 6, 11, 12, 13] (by decide +kernel) (by decide +kernel)
set_option maxRecDepth 20000 in
theorem gX3_actingKind_X3_kind : GoodIn wsX3_actingKind (wsV RX3 22 RX3 yX3_kind wsX3_kind) := goodIn_app (goodIn_of _ (by decide +kernel)) ggX3_actingKind_X3_kind
set_option maxRecDepth 20000 in
theorem ggX3_actingKind_X3_switchOf : GoodIn wsX3_actingKind wsX3_switchOf := goodIn_r _ [10, 6, 11, 12, 13] (by decide +kernel) (by decide +kernel)
set_option maxRecDepth 20000 in
theorem gX3_actingKind_X3_switchOf : GoodIn wsX3_actingKind (wsV RX3 26 RX3 yX3_switchOf wsX3_switchOf) := goodIn_app (goodIn_of _ (by decide +kernel)) ggX3_actingKind_X3_switchOf
theorem dX3_actingKind_0 : decode cX3_actingKind 0 = .ok (.aload_n 0, 1) := by decide +kernel
theorem dX3_actingKind_1 : decode cX3_actingKind 1 = .ok (.iload_n 1, 1) := by decide +kernel
theorem dX3_actingKind_2 : decode cX3_actingKind 2 = .ok (.invokevirtual 22, 3) := by decide +kernel
theorem dX3_actingKind_5 : decode cX3_actingKind 5 = .ok (.istore_n 2, 1) := by decide +kernel
theorem dX3_actingKind_6 : decode cX3_actingKind 6 = .ok (.iload_n 2, 1) := by decide +kernel
theorem dX3_actingKind_7 : decode cX3_actingKind 7 = .ok (.iconst 4, 1) := by decide +kernel
theorem dX3_actingKind_8 : decode cX3_actingKind 8 = .ok (.if_icmp .eq 5, 3) := by decide +kernel
theorem dX3_actingKind_11 : decode cX3_actingKind 11 = .ok (.iload_n 2, 1) := by decide +kernel
theorem dX3_actingKind_12 : decode cX3_actingKind 12 = .ok (.ireturn, 1) := by decide +kernel
theorem dX3_actingKind_13 : decode cX3_actingKind 13 = .ok (.aload_n 0, 1) := by decide +kernel
theorem dX3_actingKind_14 : decode cX3_actingKind 14 = .ok (.iload_n 1, 1) := by decide +kernel
theorem dX3_actingKind_15 : decode cX3_actingKind 15 = .ok (.invokevirtual 26, 3) := by decide +kernel
theorem dX3_actingKind_18 : decode cX3_actingKind 18 = .ok (.iconst 1, 1) := by decide +kernel
theorem dX3_actingKind_19 : decode cX3_actingKind 19 = .ok (.if_icmp .ne 7, 3) := by decide +kernel
theorem dX3_actingKind_22 : decode cX3_actingKind 22 = .ok (.iconst 0, 1) := by decide +kernel
theorem dX3_actingKind_23 : decode cX3_actingKind 23 = .ok (.goto 4, 3) := by decide +kernel
theorem dX3_actingKind_26 : decode cX3_actingKind 26 = .ok (.iconst 2, 1) := by decide +kernel
theorem dX3_actingKind_27 : decode cX3_actingKind 27 = .ok (.ireturn, 1) := by decide +kernel
theorem dX3_clear_0 : decode cX3_clear 0 = .ok (.aload_n 0, 1) := by decide +kernel
theorem dX3_clear_1 : decode cX3_clear 1 = .ok (.iload_n 1, 1) := by decide +kernel
theorem dX3_clear_2 : decode cX3_clear 2 = .ok (.putfield 9, 3) := by decide +kernel
theorem dX3_clear_5 : decode cX3_clear 5 = .ok (.aload_n 0, 1) := by decide +kernel
theorem dX3_clear_6 : decode cX3_clear 6 = .ok (.iconst 0, 1) := by decide +kernel
theorem dX3_clear_7 : decode cX3_clear 7 = .ok (.putfield 15, 3) := by decide +kernel
theorem dX3_clear_10 : decode cX3_clear 10 = .ok (.return_, 1) := by decide +kernel
set_option maxRecDepth 20000 in
theorem ggX3_add_X3_write : GoodIn wsX3_add wsX3_write := goodIn_r _ [6, 7, 8, 9, 10] (by decide +kernel) (by decide +kernel)
set_option maxRecDepth 20000 in
theorem gX3_add_X3_write : GoodIn wsX3_add (wsV RX3 29 RX3 yX3_write wsX3_write) := goodIn_app (goodIn_of _ (by decide +kernel)) ggX3_add_X3_write
theorem dX3_add_0 : decode cX3_add 0 = .ok (.aload_n 0, 1) := by decide +kernel
theorem dX3_add_1 : decode cX3_add 1 = .ok (.aload_n 0, 1) := by decide +kernel
theorem dX3_add_2 : decode cX3_add 2 = .ok (.getfield 15, 3) := by decide +kernel
theorem dX3_add_5 : decode cX3_add 5 = .ok (.iload_n 1, 1) := by decide +kernel
theorem dX3_add_6 : decode cX3_add 6 = .ok (.iload_n 2, 1) := by decide +kernel
theorem dX3_add_7 : decode cX3_add 7 = .ok (.iload_n 3, 1) := by decide +kernel
theorem dX3_add_8 : decode cX3_add 8 = .ok (.invokevirtual 29, 3) := by decide +kernel
theorem dX3_add_11 : decode cX3_add 11 = .ok (.aload_n 0, 1) := by decide +kernel
theorem dX3_add_12 : decode cX3_add 12 = .ok (.dup, 1) := by decide +kernel
theorem dX3_add_13 : decode cX3_add 13 = .ok (.getfield 15, 3) := by decide +kernel
theorem dX3_add_16 : decode cX3_add 16 = .ok (.iconst 1, 1) := by decide +kernel
theorem dX3_add_17 : decode cX3_add 17 = .ok (.iadd, 1) := by decide +kernel
theorem dX3_add_18 : decode cX3_add 18 = .ok (.putfield 15, 3) := by decide +kernel
theorem dX3_add_21 : decode cX3_add 21 = .ok (.return_, 1) := by decide +kernel
theorem dX3_write_0 : decode cX3_write 0 = .ok (.iload_n 2, 1) := by decide +kernel
theorem dX3_write_1 : decode cX3_write 1 = .ok (.iconst 4, 1) := by decide +kernel
theorem dX3_write_2 : decode cX3_write 2 = .ok (.if_icmp .ne 9, 3) := by decide +kernel
theorem dX3_write_5 : decode cX3_write 5 = .ok (.sipush 512, 3) := by decide +kernel
theorem dX3_write_8 : decode cX3_write 8 = .ok (.goto 4, 3) := by decide +kernel
theorem dX3_write_11 : decode cX3_write 11 = .ok (.iconst 0, 1) := by decide +kernel
theorem dX3_write_12 : decode cX3_write 12 = .ok (.istore 5, 2) := by decide +kernel
theorem dX3_write_14 : decode cX3_write 14 = .ok (.aload_n 0, 1) := by decide +kernel
theorem dX3_write_15 : decode cX3_write 15 = .ok (.getfield 18, 3) := by decide +kernel
theorem dX3_write_18 : decode cX3_write 18 = .ok (.iload_n 1, 1) := by decide +kernel
theorem dX3_write_19 : decode cX3_write 19 = .ok (.iload_n 2, 1) := by decide +kernel
theorem dX3_write_20 : decode cX3_write 20 = .ok (.iload_n 3, 1) := by decide +kernel
theorem dX3_write_21 : decode cX3_write 21 = .ok (.iconst 3, 1) := by decide +kernel
theorem dX3_write_22 : decode cX3_write 22 = .ok (.ishl, 1) := by decide +kernel
theorem dX3_write_23 : decode cX3_write 23 = .ok (.ior, 1) := by decide +kernel
theorem dX3_write_24 : decode cX3_write 24 = .ok (.iload 4, 2) := by decide +kernel
theorem dX3_write_26 : decode cX3_write 26 = .ok (.bipush 6, 2) := by decide +kernel
theorem dX3_write_28 : decode cX3_write 28 = .ok (.ishl, 1) := by decide +kernel
theorem dX3_write_29 : decode cX3_write 29 = .ok (.ior, 1) := by decide +kernel
theorem dX3_write_30 : decode cX3_write 30 = .ok (.iload 5, 2) := by decide +kernel
theorem dX3_write_32 : decode cX3_write 32 = .ok (.ior, 1) := by decide +kernel
theorem dX3_write_33 : decode cX3_write 33 = .ok (.iastore, 1) := by decide +kernel
theorem dX3_write_34 : decode cX3_write 34 = .ok (.return_, 1) := by decide +kernel
set_option maxRecDepth 20000 in
theorem ggX3_move_X3_kind : GoodIn wsX3_move wsX3_kind := goodIn_r _ [6, 1, 7, 8, 9] (by decide +kernel) (by decide +kernel)
set_option maxRecDepth 20000 in
theorem gX3_move_X3_kind : GoodIn wsX3_move (wsV RX3 22 RX3 yX3_kind wsX3_kind) := goodIn_app (goodIn_of _ (by decide +kernel)) ggX3_move_X3_kind
theorem dX3_move_0 : decode cX3_move 0 = .ok (.aload_n 0, 1) := by decide +kernel
theorem dX3_move_1 : decode cX3_move 1 = .ok (.getfield 18, 3) := by decide +kernel
theorem dX3_move_4 : decode cX3_move 4 = .ok (.iload_n 1, 1) := by decide +kernel
theorem dX3_move_5 : decode cX3_move 5 = .ok (.iaload, 1) := by decide +kernel
theorem dX3_move_6 : decode cX3_move 6 = .ok (.sipush 512, 3) := by decide +kernel
theorem dX3_move_9 : decode cX3_move 9 = .ok (.iand, 1) := by decide +kernel
theorem dX3_move_10 : decode cX3_move 10 = .ok (.istore 4, 2) := by decide +kernel
theorem dX3_move_12 : decode cX3_move 12 = .ok (.aload_n 0, 1) := by decide +kernel
theorem dX3_move_13 : decode cX3_move 13 = .ok (.getfield 18, 3) := by decide +kernel
theorem dX3_move_16 : decode cX3_move 16 = .ok (.iload_n 1, 1) := by decide +kernel
theorem dX3_move_17 : decode cX3_move 17 = .ok (.aload_n 0, 1) := by decide +kernel
theorem dX3_move_18 : decode cX3_move 18 = .ok (.iload_n 1, 1) := by decide +kernel
theorem dX3_move_19 : decode cX3_move 19 = .ok (.invokevirtual 22, 3) := by decide +kernel
theorem dX3_move_22 : decode cX3_move 22 = .ok (.iload_n 2, 1) := by decide +kernel
theorem dX3_move_23 : decode cX3_move 23 = .ok (.iconst 3, 1) := by decide +kernel
theorem dX3_move_24 : decode cX3_move 24 = .ok (.ishl, 1) := by decide +kernel
theorem dX3_move_25 : decode cX3_move 25 = .ok (.ior, 1) := by decide +kernel
theorem dX3_move_26 : decode cX3_move 26 = .ok (.iload_n 3, 1) := by decide +kernel
theorem dX3_move_27 : decode cX3_move 27 = .ok (.bipush 6, 2) := by decide +kernel
theorem dX3_move_29 : decode cX3_move 29 = .ok (.ishl, 1) := by decide +kernel
theorem dX3_move_30 : decode cX3_move 30 = .ok (.ior, 1) := by decide +kernel
theorem dX3_move_31 : decode cX3_move 31 = .ok (.iload 4, 2) := by decide +kernel
theorem dX3_move_33 : decode cX3_move 33 = .ok (.ior, 1) := by decide +kernel
theorem dX3_move_34 : decode cX3_move 34 = .ok (.iastore, 1) := by decide +kernel
theorem dX3_move_35 : decode cX3_move 35 = .ok (.return_, 1) := by decide +kernel
theorem dX3_setSwitch_0 : decode cX3_setSwitch 0 = .ok (.aload_n 0, 1) := by decide +kernel
theorem dX3_setSwitch_1 : decode cX3_setSwitch 1 = .ok (.getfield 18, 3) := by decide +kernel
theorem dX3_setSwitch_4 : decode cX3_setSwitch 4 = .ok (.iload_n 1, 1) := by decide +kernel
theorem dX3_setSwitch_5 : decode cX3_setSwitch 5 = .ok (.iload_n 2, 1) := by decide +kernel
theorem dX3_setSwitch_6 : decode cX3_setSwitch 6 = .ok (.ifCond .eq 16, 3) := by decide +kernel
theorem dX3_setSwitch_9 : decode cX3_setSwitch 9 = .ok (.aload_n 0, 1) := by decide +kernel
theorem dX3_setSwitch_10 : decode cX3_setSwitch 10 = .ok (.getfield 18, 3) := by decide +kernel
theorem dX3_setSwitch_13 : decode cX3_setSwitch 13 = .ok (.iload_n 1, 1) := by decide +kernel
theorem dX3_setSwitch_14 : decode cX3_setSwitch 14 = .ok (.iaload, 1) := by decide +kernel
theorem dX3_setSwitch_15 : decode cX3_setSwitch 15 = .ok (.sipush 512, 3) := by decide +kernel
theorem dX3_setSwitch_18 : decode cX3_setSwitch 18 = .ok (.ior, 1) := by decide +kernel
theorem dX3_setSwitch_19 : decode cX3_setSwitch 19 = .ok (.goto 13, 3) := by decide +kernel
theorem dX3_setSwitch_22 : decode cX3_setSwitch 22 = .ok (.aload_n 0, 1) := by decide +kernel
theorem dX3_setSwitch_23 : decode cX3_setSwitch 23 = .ok (.getfield 18, 3) := by decide +kernel
theorem dX3_setSwitch_26 : decode cX3_setSwitch 26 = .ok (.iload_n 1, 1) := by decide +kernel
theorem dX3_setSwitch_27 : decode cX3_setSwitch 27 = .ok (.iaload, 1) := by decide +kernel
theorem dX3_setSwitch_28 : decode cX3_setSwitch 28 = .ok (.sipush (-513), 3) := by decide +kernel
theorem dX3_setSwitch_31 : decode cX3_setSwitch 31 = .ok (.iand, 1) := by decide +kernel
theorem dX3_setSwitch_32 : decode cX3_setSwitch 32 = .ok (.iastore, 1) := by decide +kernel
theorem dX3_setSwitch_33 : decode cX3_setSwitch 33 = .ok (.return_, 1) := by decide +kernel
theorem dX3_become_0 : decode cX3_become 0 = .ok (.aload_n 0, 1) := by decide +kernel
theorem dX3_become_1 : decode cX3_become 1 = .ok (.aload_n 1, 1) := by decide +kernel
theorem dX3_become_2 : decode cX3_become 2 = .ok (.getfield 9, 3) := by decide +kernel
theorem dX3_become_5 : decode cX3_become 5 = .ok (.putfield 9, 3) := by decide +kernel
theorem dX3_become_8 : decode cX3_become 8 = .ok (.aload_n 0, 1) := by decide +kernel
theorem dX3_become_9 : decode cX3_become 9 = .ok (.aload_n 1, 1) := by decide +kernel
theorem dX3_become_10 : decode cX3_become 10 = .ok (.getfield 15, 3) := by decide +kernel
theorem dX3_become_13 : decode cX3_become 13 = .ok (.putfield 15, 3) := by decide +kernel
theorem dX3_become_16 : decode cX3_become 16 = .ok (.aload_n 1, 1) := by decide +kernel
theorem dX3_become_17 : decode cX3_become 17 = .ok (.getfield 18, 3) := by decide +kernel
theorem dX3_become_20 : decode cX3_become 20 = .ok (.iconst 0, 1) := by decide +kernel
theorem dX3_become_21 : decode cX3_become 21 = .ok (.aload_n 0, 1) := by decide +kernel
theorem dX3_become_22 : decode cX3_become 22 = .ok (.getfield 18, 3) := by decide +kernel
theorem dX3_become_25 : decode cX3_become 25 = .ok (.iconst 0, 1) := by decide +kernel
theorem dX3_become_26 : decode cX3_become 26 = .ok (.aload_n 1, 1) := by decide +kernel
theorem dX3_become_27 : decode cX3_become 27 = .ok (.getfield 15, 3) := by decide +kernel
theorem dX3_become_30 : decode cX3_become 30 = .ok (.invokestatic 33, 3) := by decide +kernel
theorem dX3_become_33 : decode cX3_become 33 = .ok (.return_, 1) := by decide +kernel
theorem dX4_init_0 : decode cX4_init 0 = .ok (.aload_n 0, 1) := by decide +kernel
theorem dX4_init_1 : decode cX4_init 1 = .ok (.invokespecial 3, 3) := by decide +kernel
theorem dX4_init_4 : decode cX4_init 4 = .ok (.aload_n 0, 1) := by decide +kernel
theorem dX4_init_5 : decode cX4_init 5 = .ok (.bipush 8, 2) := by decide +kernel
theorem dX4_init_7 : decode cX4_init 7 = .ok (.newarray .long, 2) := by decide +kernel
theorem dX4_init_9 : decode cX4_init 9 = .ok (.putfield 9, 3) := by decide +kernel
theorem dX4_init_12 : decode cX4_init 12 = .ok (.aload_n 0, 1) := by decide +kernel
theorem dX4_init_13 : decode cX4_init 13 = .ok (.lconst 0, 1) := by decide +kernel
theorem dX4_init_14 : decode cX4_init 14 = .ok (.putfield 15, 3) := by decide +kernel
theorem dX4_init_17 : decode cX4_init 17 = .ok (.return_, 1) := by decide +kernel
theorem dX4_blocks_0 : decode cX4_blocks 0 = .ok (.iload_n 0, 1) := by decide +kernel
theorem dX4_blocks_1 : decode cX4_blocks 1 = .ok (.bipush 6, 2) := by decide +kernel
theorem dX4_blocks_3 : decode cX4_blocks 3 = .ok (.if_icmp .le 12, 3) := by decide +kernel
theorem dX4_blocks_6 : decode cX4_blocks 6 = .ok (.iconst 1, 1) := by decide +kernel
theorem dX4_blocks_7 : decode cX4_blocks 7 = .ok (.iload_n 0, 1) := by decide +kernel
theorem dX4_blocks_8 : decode cX4_blocks 8 = .ok (.bipush 6, 2) := by decide +kernel
theorem dX4_blocks_10 : decode cX4_blocks 10 = .ok (.isub, 1) := by decide +kernel
theorem dX4_blocks_11 : decode cX4_blocks 11 = .ok (.ishl, 1) := by decide +kernel
theorem dX4_blocks_12 : decode cX4_blocks 12 = .ok (.goto 4, 3) := by decide +kernel
theorem dX4_blocks_15 : decode cX4_blocks 15 = .ok (.iconst 1, 1) := by decide +kernel
theorem dX4_blocks_16 : decode cX4_blocks 16 = .ok (.ireturn, 1) := by decide +kernel
set_option maxRecDepth 20000 in
theorem ggX4_leastOf_J13_bitCount_95d88 : GoodIn wsX4_leastOf wsJ13_bitCount_95d88 := goodIn_r _ [4, 5, 6, 7] (by decide +kernel) (by decide +kernel)
set_option maxRecDepth 20000 in
theorem gX4_leastOf_J13_bitCount_95d88 : GoodIn wsX4_leastOf (va_wsS RX4 19 yJ13_bitCount_95d88 wsJ13_bitCount_95d88) := goodIn_app (goodIn_of _ (by decide +kernel)) ggX4_leastOf_J13_bitCount_95d88
theorem dX4_leastOf_0 : decode cX4_leastOf 0 = .ok (.iload_n 2, 1) := by decide +kernel
theorem dX4_leastOf_1 : decode cX4_leastOf 1 = .ok (.bipush 64, 2) := by decide +kernel
theorem dX4_leastOf_3 : decode cX4_leastOf 3 = .ok (.imul, 1) := by decide +kernel
theorem dX4_leastOf_4 : decode cX4_leastOf 4 = .ok (.lload_n 0, 1) := by decide +kernel
theorem dX4_leastOf_5 : decode cX4_leastOf 5 = .ok (.lload_n 0, 1) := by decide +kernel
theorem dX4_leastOf_6 : decode cX4_leastOf 6 = .ok (.lneg, 1) := by decide +kernel
theorem dX4_leastOf_7 : decode cX4_leastOf 7 = .ok (.land, 1) := by decide +kernel
theorem dX4_leastOf_8 : decode cX4_leastOf 8 = .ok (.lconst 1, 1) := by decide +kernel
theorem dX4_leastOf_9 : decode cX4_leastOf 9 = .ok (.lsub, 1) := by decide +kernel
theorem dX4_leastOf_10 : decode cX4_leastOf 10 = .ok (.invokestatic 19, 3) := by decide +kernel
theorem dX4_leastOf_13 : decode cX4_leastOf 13 = .ok (.iadd, 1) := by decide +kernel
theorem dX4_leastOf_14 : decode cX4_leastOf 14 = .ok (.ireturn, 1) := by decide +kernel
set_option maxRecDepth 20000 in
theorem ggX4_start_X4_firstColumn : GoodIn wsX4_start wsX4_firstColumn := goodIn_r _ [7, 8, 1] (by decide +kernel) (by decide +kernel)
set_option maxRecDepth 20000 in
theorem gX4_start_X4_firstColumn : GoodIn wsX4_start (va_wsS RX4 27 yX4_firstColumn wsX4_firstColumn) := goodIn_app (goodIn_of _ (by decide +kernel)) ggX4_start_X4_firstColumn
theorem dX4_start_0 : decode cX4_start 0 = .ok (.aload_n 0, 1) := by decide +kernel
theorem dX4_start_1 : decode cX4_start 1 = .ok (.iload_n 1, 1) := by decide +kernel
theorem dX4_start_2 : decode cX4_start 2 = .ok (.bipush 6, 2) := by decide +kernel
theorem dX4_start_4 : decode cX4_start 4 = .ok (.if_icmp .ge 13, 3) := by decide +kernel
theorem dX4_start_7 : decode cX4_start 7 = .ok (.lconst 1, 1) := by decide +kernel
theorem dX4_start_8 : decode cX4_start 8 = .ok (.iconst 1, 1) := by decide +kernel
theorem dX4_start_9 : decode cX4_start 9 = .ok (.iload_n 1, 1) := by decide +kernel
theorem dX4_start_10 : decode cX4_start 10 = .ok (.ishl, 1) := by decide +kernel
theorem dX4_start_11 : decode cX4_start 11 = .ok (.lshl, 1) := by decide +kernel
theorem dX4_start_12 : decode cX4_start 12 = .ok (.lconst 1, 1) := by decide +kernel
theorem dX4_start_13 : decode cX4_start 13 = .ok (.lsub, 1) := by decide +kernel
theorem dX4_start_14 : decode cX4_start 14 = .ok (.goto 6, 3) := by decide +kernel
theorem dX4_start_17 : decode cX4_start 17 = .ok (.ldc2_w 25, 3) := by decide +kernel
theorem dX4_start_20 : decode cX4_start 20 = .ok (.putfield 15, 3) := by decide +kernel
theorem dX4_start_23 : decode cX4_start 23 = .ok (.iconst 0, 1) := by decide +kernel
theorem dX4_start_24 : decode cX4_start 24 = .ok (.istore_n 3, 1) := by decide +kernel
theorem dX4_start_25 : decode cX4_start 25 = .ok (.iload_n 3, 1) := by decide +kernel
theorem dX4_start_26 : decode cX4_start 26 = .ok (.iload_n 1, 1) := by decide +kernel
theorem dX4_start_27 : decode cX4_start 27 = .ok (.if_icmp .ge 25, 3) := by decide +kernel
theorem dX4_start_30 : decode cX4_start 30 = .ok (.aload_n 0, 1) := by decide +kernel
theorem dX4_start_31 : decode cX4_start 31 = .ok (.getfield 9, 3) := by decide +kernel
theorem dX4_start_34 : decode cX4_start 34 = .ok (.iload_n 3, 1) := by decide +kernel
theorem dX4_start_35 : decode cX4_start 35 = .ok (.aload_n 0, 1) := by decide +kernel
theorem dX4_start_36 : decode cX4_start 36 = .ok (.getfield 15, 3) := by decide +kernel
theorem dX4_start_39 : decode cX4_start 39 = .ok (.iload_n 3, 1) := by decide +kernel
theorem dX4_start_40 : decode cX4_start 40 = .ok (.iload_n 2, 1) := by decide +kernel
theorem dX4_start_41 : decode cX4_start 41 = .ok (.invokestatic 27, 3) := by decide +kernel
theorem dX4_start_44 : decode cX4_start 44 = .ok (.land, 1) := by decide +kernel
theorem dX4_start_45 : decode cX4_start 45 = .ok (.lastore, 1) := by decide +kernel
theorem dX4_start_46 : decode cX4_start 46 = .ok (.iinc 3 1, 3) := by decide +kernel
theorem dX4_start_49 : decode cX4_start 49 = .ok (.goto (-24), 3) := by decide +kernel
theorem dX4_start_52 : decode cX4_start 52 = .ok (.return_, 1) := by decide +kernel
theorem dX4_firstColumn_0 : decode cX4_firstColumn 0 = .ok (.iload_n 0, 1) := by decide +kernel
theorem dX4_firstColumn_1 : decode cX4_firstColumn 1 = .ok (.bipush 6, 2) := by decide +kernel
theorem dX4_firstColumn_3 : decode cX4_firstColumn 3 = .ok (.if_icmp .ge 9, 3) := by decide +kernel
theorem dX4_firstColumn_6 : decode cX4_firstColumn 6 = .ok (.getstatic 31, 3) := by decide +kernel
theorem dX4_firstColumn_9 : decode cX4_firstColumn 9 = .ok (.iload_n 0, 1) := by decide +kernel
theorem dX4_firstColumn_10 : decode cX4_firstColumn 10 = .ok (.laload, 1) := by decide +kernel
theorem dX4_firstColumn_11 : decode cX4_firstColumn 11 = .ok (.lreturn, 1) := by decide +kernel
theorem dX4_firstColumn_12 : decode cX4_firstColumn 12 = .ok (.iload_n 1, 1) := by decide +kernel
theorem dX4_firstColumn_13 : decode cX4_firstColumn 13 = .ok (.iload_n 0, 1) := by decide +kernel
theorem dX4_firstColumn_14 : decode cX4_firstColumn 14 = .ok (.bipush 6, 2) := by decide +kernel
theorem dX4_firstColumn_16 : decode cX4_firstColumn 16 = .ok (.isub, 1) := by decide +kernel
theorem dX4_firstColumn_17 : decode cX4_firstColumn 17 = .ok (.ishr, 1) := by decide +kernel
theorem dX4_firstColumn_18 : decode cX4_firstColumn 18 = .ok (.iconst 1, 1) := by decide +kernel
theorem dX4_firstColumn_19 : decode cX4_firstColumn 19 = .ok (.iand, 1) := by decide +kernel
theorem dX4_firstColumn_20 : decode cX4_firstColumn 20 = .ok (.ifCond .eq 9, 3) := by decide +kernel
theorem dX4_firstColumn_23 : decode cX4_firstColumn 23 = .ok (.ldc2_w 25, 3) := by decide +kernel
theorem dX4_firstColumn_26 : decode cX4_firstColumn 26 = .ok (.goto 4, 3) := by decide +kernel
theorem dX4_firstColumn_29 : decode cX4_firstColumn 29 = .ok (.lconst 0, 1) := by decide +kernel
theorem dX4_firstColumn_30 : decode cX4_firstColumn 30 = .ok (.lreturn, 1) := by decide +kernel
theorem dX4_changing_0 : decode cX4_changing 0 = .ok (.iload_n 1, 1) := by decide +kernel
theorem dX4_changing_1 : decode cX4_changing 1 = .ok (.lookupswitch 63 #[(0, 27), (1, 45)], 27) := by decide +kernel
theorem dX4_changing_28 : decode cX4_changing 28 = .ok (.aload_n 0, 1) := by decide +kernel
theorem dX4_changing_29 : decode cX4_changing 29 = .ok (.getfield 9, 3) := by decide +kernel
theorem dX4_changing_32 : decode cX4_changing 32 = .ok (.iload_n 2, 1) := by decide +kernel
theorem dX4_changing_33 : decode cX4_changing 33 = .ok (.laload, 1) := by decide +kernel
theorem dX4_changing_34 : decode cX4_changing 34 = .ok (.aload_n 0, 1) := by decide +kernel
theorem dX4_changing_35 : decode cX4_changing 35 = .ok (.getfield 9, 3) := by decide +kernel
theorem dX4_changing_38 : decode cX4_changing 38 = .ok (.iload_n 3, 1) := by decide +kernel
theorem dX4_changing_39 : decode cX4_changing 39 = .ok (.laload, 1) := by decide +kernel
theorem dX4_changing_40 : decode cX4_changing 40 = .ok (.ldc2_w 25, 3) := by decide +kernel
theorem dX4_changing_43 : decode cX4_changing 43 = .ok (.lxor, 1) := by decide +kernel
theorem dX4_changing_44 : decode cX4_changing 44 = .ok (.land, 1) := by decide +kernel
theorem dX4_changing_45 : decode cX4_changing 45 = .ok (.lreturn, 1) := by decide +kernel
theorem dX4_changing_46 : decode cX4_changing 46 = .ok (.aload_n 0, 1) := by decide +kernel
theorem dX4_changing_47 : decode cX4_changing 47 = .ok (.getfield 9, 3) := by decide +kernel
theorem dX4_changing_50 : decode cX4_changing 50 = .ok (.iload_n 3, 1) := by decide +kernel
theorem dX4_changing_51 : decode cX4_changing 51 = .ok (.laload, 1) := by decide +kernel
theorem dX4_changing_52 : decode cX4_changing 52 = .ok (.aload_n 0, 1) := by decide +kernel
theorem dX4_changing_53 : decode cX4_changing 53 = .ok (.getfield 9, 3) := by decide +kernel
theorem dX4_changing_56 : decode cX4_changing 56 = .ok (.iload_n 2, 1) := by decide +kernel
theorem dX4_changing_57 : decode cX4_changing 57 = .ok (.laload, 1) := by decide +kernel
theorem dX4_changing_58 : decode cX4_changing 58 = .ok (.ldc2_w 25, 3) := by decide +kernel
theorem dX4_changing_61 : decode cX4_changing 61 = .ok (.lxor, 1) := by decide +kernel
theorem dX4_changing_62 : decode cX4_changing 62 = .ok (.land, 1) := by decide +kernel
theorem dX4_changing_63 : decode cX4_changing 63 = .ok (.lreturn, 1) := by decide +kernel
theorem dX4_changing_64 : decode cX4_changing 64 = .ok (.iload_n 1, 1) := by decide +kernel
theorem dX4_changing_65 : decode cX4_changing 65 = .ok (.iconst 3, 1) := by decide +kernel
theorem dX4_changing_66 : decode cX4_changing 66 = .ok (.if_icmp .ne 10, 3) := by decide +kernel
theorem dX4_changing_69 : decode cX4_changing 69 = .ok (.aload_n 0, 1) := by decide +kernel
theorem dX4_changing_70 : decode cX4_changing 70 = .ok (.getfield 15, 3) := by decide +kernel
theorem dX4_changing_73 : decode cX4_changing 73 = .ok (.goto 4, 3) := by decide +kernel
theorem dX4_changing_76 : decode cX4_changing 76 = .ok (.lconst 0, 1) := by decide +kernel
theorem dX4_changing_77 : decode cX4_changing 77 = .ok (.lreturn, 1) := by decide +kernel
set_option maxRecDepth 20000 in
theorem ggX4_step_X4_changing : GoodIn wsX4_step wsX4_changing := goodIn_r _ [6, 1, 7, 8, 9, 10] (by decide +kernel) (by decide +kernel)
set_option maxRecDepth 20000 in
theorem gX4_step_X4_changing : GoodIn wsX4_step (wsV RX4 34 RX4 yX4_changing wsX4_changing) := goodIn_app (goodIn_of _ (by decide +kernel)) ggX4_step_X4_changing
theorem dX4_step_0 : decode cX4_step 0 = .ok (.aload_n 0, 1) := by decide +kernel
theorem dX4_step_1 : decode cX4_step 1 = .ok (.iload_n 1, 1) := by decide +kernel
theorem dX4_step_2 : decode cX4_step 2 = .ok (.iload_n 2, 1) := by decide +kernel
theorem dX4_step_3 : decode cX4_step 3 = .ok (.iload_n 3, 1) := by decide +kernel
theorem dX4_step_4 : decode cX4_step 4 = .ok (.invokevirtual 34, 3) := by decide +kernel
theorem dX4_step_7 : decode cX4_step 7 = .ok (.aload_n 0, 1) := by decide +kernel
theorem dX4_step_8 : decode cX4_step 8 = .ok (.getfield 9, 3) := by decide +kernel
theorem dX4_step_11 : decode cX4_step 11 = .ok (.iload_n 2, 1) := by decide +kernel
theorem dX4_step_12 : decode cX4_step 12 = .ok (.laload, 1) := by decide +kernel
theorem dX4_step_13 : decode cX4_step 13 = .ok (.aload_n 0, 1) := by decide +kernel
theorem dX4_step_14 : decode cX4_step 14 = .ok (.getfield 9, 3) := by decide +kernel
theorem dX4_step_17 : decode cX4_step 17 = .ok (.iload_n 3, 1) := by decide +kernel
theorem dX4_step_18 : decode cX4_step 18 = .ok (.laload, 1) := by decide +kernel
theorem dX4_step_19 : decode cX4_step 19 = .ok (.lxor, 1) := by decide +kernel
theorem dX4_step_20 : decode cX4_step 20 = .ok (.land, 1) := by decide +kernel
theorem dX4_step_21 : decode cX4_step 21 = .ok (.lstore 4, 2) := by decide +kernel
theorem dX4_step_23 : decode cX4_step 23 = .ok (.aload_n 0, 1) := by decide +kernel
theorem dX4_step_24 : decode cX4_step 24 = .ok (.getfield 9, 3) := by decide +kernel
theorem dX4_step_27 : decode cX4_step 27 = .ok (.iload_n 2, 1) := by decide +kernel
theorem dX4_step_28 : decode cX4_step 28 = .ok (.dup2, 1) := by decide +kernel
theorem dX4_step_29 : decode cX4_step 29 = .ok (.laload, 1) := by decide +kernel
theorem dX4_step_30 : decode cX4_step 30 = .ok (.lload 4, 2) := by decide +kernel
theorem dX4_step_32 : decode cX4_step 32 = .ok (.lxor, 1) := by decide +kernel
theorem dX4_step_33 : decode cX4_step 33 = .ok (.lastore, 1) := by decide +kernel
theorem dX4_step_34 : decode cX4_step 34 = .ok (.aload_n 0, 1) := by decide +kernel
theorem dX4_step_35 : decode cX4_step 35 = .ok (.getfield 9, 3) := by decide +kernel
theorem dX4_step_38 : decode cX4_step 38 = .ok (.iload_n 3, 1) := by decide +kernel
theorem dX4_step_39 : decode cX4_step 39 = .ok (.dup2, 1) := by decide +kernel
theorem dX4_step_40 : decode cX4_step 40 = .ok (.laload, 1) := by decide +kernel
theorem dX4_step_41 : decode cX4_step 41 = .ok (.lload 4, 2) := by decide +kernel
theorem dX4_step_43 : decode cX4_step 43 = .ok (.lxor, 1) := by decide +kernel
theorem dX4_step_44 : decode cX4_step 44 = .ok (.lastore, 1) := by decide +kernel
theorem dX4_step_45 : decode cX4_step 45 = .ok (.return_, 1) := by decide +kernel
set_option maxRecDepth 20000 in
theorem ggX4_pass_X3_actingKind : GoodIn wsX4_pass wsX3_actingKind := goodIn_r _ [6, 7, 8, 9, 5, 10, 11, 12, 13, 14, 15, 36, 37, 38] (by decide +kernel) (by decide +kernel)
set_option maxRecDepth 20000 in
theorem gX4_pass_X3_actingKind : GoodIn wsX4_pass (wsV RX4 44 RX3 yX3_actingKind wsX3_actingKind) := goodIn_app (goodIn_of _ (by decide +kernel)) ggX4_pass_X3_actingKind
set_option maxRecDepth 20000 in
theorem ggX4_pass_X3_low : GoodIn wsX4_pass wsX3_low := goodIn_r _ [19, 11, 36, 37, 38] (by decide +kernel) (by decide +kernel)
set_option maxRecDepth 20000 in
theorem gX4_pass_X3_low : GoodIn wsX4_pass (wsV RX4 48 RX3 yX3_low wsX3_low) := goodIn_app (goodIn_of _ (by decide +kernel)) ggX4_pass_X3_low
set_option maxRecDepth 20000 in
theorem ggX4_pass_X3_high : GoodIn wsX4_pass wsX3_high := goodIn_r _ [23, 11, 36, 37, 38] (by decide +kernel) (by decide +kernel)
set_option maxRecDepth 20000 in
theorem gX4_pass_X3_high : GoodIn wsX4_pass (wsV RX4 51 RX3 yX3_high wsX3_high) := goodIn_app (goodIn_of _ (by decide +kernel)) ggX4_pass_X3_high
set_option maxRecDepth 20000 in
theorem ggX4_pass_X4_step : GoodIn wsX4_pass wsX4_step := goodIn_r _ [28, 29, 30, 31, 32, 27, 33, 34, 35, 39, 40] (by decide +kernel) (by decide +kernel)
set_option maxRecDepth 20000 in
theorem gX4_pass_X4_step : GoodIn wsX4_pass (wsV RX4 54 RX4 yX4_step wsX4_step) := goodIn_app (goodIn_of _ (by decide +kernel)) ggX4_pass_X4_step
theorem dX4_pass_0 : decode cX4_pass 0 = .ok (.iconst 0, 1) := by decide +kernel
theorem dX4_pass_1 : decode cX4_pass 1 = .ok (.istore_n 3, 1) := by decide +kernel
theorem dX4_pass_2 : decode cX4_pass 2 = .ok (.iload_n 3, 1) := by decide +kernel
theorem dX4_pass_3 : decode cX4_pass 3 = .ok (.aload_n 1, 1) := by decide +kernel
theorem dX4_pass_4 : decode cX4_pass 4 = .ok (.getfield 38, 3) := by decide +kernel
theorem dX4_pass_7 : decode cX4_pass 7 = .ok (.if_icmp .ge 33, 3) := by decide +kernel
theorem dX4_pass_10 : decode cX4_pass 10 = .ok (.iload_n 3, 1) := by decide +kernel
theorem dX4_pass_11 : decode cX4_pass 11 = .ok (.iload_n 2, 1) := by decide +kernel
theorem dX4_pass_12 : decode cX4_pass 12 = .ok (.if_icmp .eq 22, 3) := by decide +kernel
theorem dX4_pass_15 : decode cX4_pass 15 = .ok (.aload_n 0, 1) := by decide +kernel
theorem dX4_pass_16 : decode cX4_pass 16 = .ok (.aload_n 1, 1) := by decide +kernel
theorem dX4_pass_17 : decode cX4_pass 17 = .ok (.iload_n 3, 1) := by decide +kernel
theorem dX4_pass_18 : decode cX4_pass 18 = .ok (.invokevirtual 44, 3) := by decide +kernel
theorem dX4_pass_21 : decode cX4_pass 21 = .ok (.aload_n 1, 1) := by decide +kernel
theorem dX4_pass_22 : decode cX4_pass 22 = .ok (.iload_n 3, 1) := by decide +kernel
theorem dX4_pass_23 : decode cX4_pass 23 = .ok (.invokevirtual 48, 3) := by decide +kernel
theorem dX4_pass_26 : decode cX4_pass 26 = .ok (.aload_n 1, 1) := by decide +kernel
theorem dX4_pass_27 : decode cX4_pass 27 = .ok (.iload_n 3, 1) := by decide +kernel
theorem dX4_pass_28 : decode cX4_pass 28 = .ok (.invokevirtual 51, 3) := by decide +kernel
theorem dX4_pass_31 : decode cX4_pass 31 = .ok (.invokevirtual 54, 3) := by decide +kernel
theorem dX4_pass_34 : decode cX4_pass 34 = .ok (.iinc 3 1, 3) := by decide +kernel
theorem dX4_pass_37 : decode cX4_pass 37 = .ok (.goto (-35), 3) := by decide +kernel
theorem dX4_pass_40 : decode cX4_pass 40 = .ok (.return_, 1) := by decide +kernel
theorem dX4_falling_0 : decode cX4_falling 0 = .ok (.lconst 0, 1) := by decide +kernel
theorem dX4_falling_1 : decode cX4_falling 1 = .ok (.lstore_n 3, 1) := by decide +kernel
theorem dX4_falling_2 : decode cX4_falling 2 = .ok (.iload_n 1, 1) := by decide +kernel
theorem dX4_falling_3 : decode cX4_falling 3 = .ok (.istore 5, 2) := by decide +kernel
theorem dX4_falling_5 : decode cX4_falling 5 = .ok (.iload 5, 2) := by decide +kernel
theorem dX4_falling_7 : decode cX4_falling 7 = .ok (.iconst 1, 1) := by decide +kernel
theorem dX4_falling_8 : decode cX4_falling 8 = .ok (.iadd, 1) := by decide +kernel
theorem dX4_falling_9 : decode cX4_falling 9 = .ok (.iload_n 2, 1) := by decide +kernel
theorem dX4_falling_10 : decode cX4_falling 10 = .ok (.if_icmp .ge 33, 3) := by decide +kernel
theorem dX4_falling_13 : decode cX4_falling 13 = .ok (.lload_n 3, 1) := by decide +kernel
theorem dX4_falling_14 : decode cX4_falling 14 = .ok (.aload_n 0, 1) := by decide +kernel
theorem dX4_falling_15 : decode cX4_falling 15 = .ok (.getfield 9, 3) := by decide +kernel
theorem dX4_falling_18 : decode cX4_falling 18 = .ok (.iload 5, 2) := by decide +kernel
theorem dX4_falling_20 : decode cX4_falling 20 = .ok (.laload, 1) := by decide +kernel
theorem dX4_falling_21 : decode cX4_falling 21 = .ok (.aload_n 0, 1) := by decide +kernel
theorem dX4_falling_22 : decode cX4_falling 22 = .ok (.getfield 9, 3) := by decide +kernel
theorem dX4_falling_25 : decode cX4_falling 25 = .ok (.iload 5, 2) := by decide +kernel
theorem dX4_falling_27 : decode cX4_falling 27 = .ok (.iconst 1, 1) := by decide +kernel
theorem dX4_falling_28 : decode cX4_falling 28 = .ok (.iadd, 1) := by decide +kernel
theorem dX4_falling_29 : decode cX4_falling 29 = .ok (.laload, 1) := by decide +kernel
theorem dX4_falling_30 : decode cX4_falling 30 = .ok (.ldc2_w 25, 3) := by decide +kernel
theorem dX4_falling_33 : decode cX4_falling 33 = .ok (.lxor, 1) := by decide +kernel
theorem dX4_falling_34 : decode cX4_falling 34 = .ok (.land, 1) := by decide +kernel
theorem dX4_falling_35 : decode cX4_falling 35 = .ok (.lor, 1) := by decide +kernel
theorem dX4_falling_36 : decode cX4_falling 36 = .ok (.lstore_n 3, 1) := by decide +kernel
theorem dX4_falling_37 : decode cX4_falling 37 = .ok (.iinc 5 1, 3) := by decide +kernel
theorem dX4_falling_40 : decode cX4_falling 40 = .ok (.goto (-35), 3) := by decide +kernel
theorem dX4_falling_43 : decode cX4_falling 43 = .ok (.lload_n 3, 1) := by decide +kernel
theorem dX4_falling_44 : decode cX4_falling 44 = .ok (.lreturn, 1) := by decide +kernel
theorem dX4_differing_0 : decode cX4_differing 0 = .ok (.lconst 0, 1) := by decide +kernel
theorem dX4_differing_1 : decode cX4_differing 1 = .ok (.lstore_n 3, 1) := by decide +kernel
theorem dX4_differing_2 : decode cX4_differing 2 = .ok (.iconst 0, 1) := by decide +kernel
theorem dX4_differing_3 : decode cX4_differing 3 = .ok (.istore 5, 2) := by decide +kernel
theorem dX4_differing_5 : decode cX4_differing 5 = .ok (.iload 5, 2) := by decide +kernel
theorem dX4_differing_7 : decode cX4_differing 7 = .ok (.iload_n 2, 1) := by decide +kernel
theorem dX4_differing_8 : decode cX4_differing 8 = .ok (.if_icmp .ge 27, 3) := by decide +kernel
theorem dX4_differing_11 : decode cX4_differing 11 = .ok (.lload_n 3, 1) := by decide +kernel
theorem dX4_differing_12 : decode cX4_differing 12 = .ok (.aload_n 0, 1) := by decide +kernel
theorem dX4_differing_13 : decode cX4_differing 13 = .ok (.getfield 9, 3) := by decide +kernel
theorem dX4_differing_16 : decode cX4_differing 16 = .ok (.iload 5, 2) := by decide +kernel
theorem dX4_differing_18 : decode cX4_differing 18 = .ok (.laload, 1) := by decide +kernel
theorem dX4_differing_19 : decode cX4_differing 19 = .ok (.aload_n 1, 1) := by decide +kernel
theorem dX4_differing_20 : decode cX4_differing 20 = .ok (.getfield 9, 3) := by decide +kernel
theorem dX4_differing_23 : decode cX4_differing 23 = .ok (.iload 5, 2) := by decide +kernel
theorem dX4_differing_25 : decode cX4_differing 25 = .ok (.laload, 1) := by decide +kernel
theorem dX4_differing_26 : decode cX4_differing 26 = .ok (.lxor, 1) := by decide +kernel
theorem dX4_differing_27 : decode cX4_differing 27 = .ok (.lor, 1) := by decide +kernel
theorem dX4_differing_28 : decode cX4_differing 28 = .ok (.lstore_n 3, 1) := by decide +kernel
theorem dX4_differing_29 : decode cX4_differing 29 = .ok (.iinc 5 1, 3) := by decide +kernel
theorem dX4_differing_32 : decode cX4_differing 32 = .ok (.goto (-27), 3) := by decide +kernel
theorem dX4_differing_35 : decode cX4_differing 35 = .ok (.lload_n 3, 1) := by decide +kernel
theorem dX4_differing_36 : decode cX4_differing 36 = .ok (.lreturn, 1) := by decide +kernel
theorem dX4_numberOf_0 : decode cX4_numberOf 0 = .ok (.iconst 0, 1) := by decide +kernel
theorem dX4_numberOf_1 : decode cX4_numberOf 1 = .ok (.istore_n 3, 1) := by decide +kernel
theorem dX4_numberOf_2 : decode cX4_numberOf 2 = .ok (.iconst 0, 1) := by decide +kernel
theorem dX4_numberOf_3 : decode cX4_numberOf 3 = .ok (.istore 4, 2) := by decide +kernel
theorem dX4_numberOf_5 : decode cX4_numberOf 5 = .ok (.iload 4, 2) := by decide +kernel
theorem dX4_numberOf_7 : decode cX4_numberOf 7 = .ok (.iload_n 2, 1) := by decide +kernel
theorem dX4_numberOf_8 : decode cX4_numberOf 8 = .ok (.if_icmp .ge 27, 3) := by decide +kernel
theorem dX4_numberOf_11 : decode cX4_numberOf 11 = .ok (.iload_n 3, 1) := by decide +kernel
theorem dX4_numberOf_12 : decode cX4_numberOf 12 = .ok (.aload_n 0, 1) := by decide +kernel
theorem dX4_numberOf_13 : decode cX4_numberOf 13 = .ok (.getfield 9, 3) := by decide +kernel
theorem dX4_numberOf_16 : decode cX4_numberOf 16 = .ok (.iload 4, 2) := by decide +kernel
theorem dX4_numberOf_18 : decode cX4_numberOf 18 = .ok (.laload, 1) := by decide +kernel
theorem dX4_numberOf_19 : decode cX4_numberOf 19 = .ok (.iload_n 1, 1) := by decide +kernel
theorem dX4_numberOf_20 : decode cX4_numberOf 20 = .ok (.lushr, 1) := by decide +kernel
theorem dX4_numberOf_21 : decode cX4_numberOf 21 = .ok (.lconst 1, 1) := by decide +kernel
theorem dX4_numberOf_22 : decode cX4_numberOf 22 = .ok (.land, 1) := by decide +kernel
theorem dX4_numberOf_23 : decode cX4_numberOf 23 = .ok (.l2i, 1) := by decide +kernel
theorem dX4_numberOf_24 : decode cX4_numberOf 24 = .ok (.iload 4, 2) := by decide +kernel
theorem dX4_numberOf_26 : decode cX4_numberOf 26 = .ok (.ishl, 1) := by decide +kernel
theorem dX4_numberOf_27 : decode cX4_numberOf 27 = .ok (.ior, 1) := by decide +kernel
theorem dX4_numberOf_28 : decode cX4_numberOf 28 = .ok (.istore_n 3, 1) := by decide +kernel
theorem dX4_numberOf_29 : decode cX4_numberOf 29 = .ok (.iinc 4 1, 3) := by decide +kernel
theorem dX4_numberOf_32 : decode cX4_numberOf 32 = .ok (.goto (-27), 3) := by decide +kernel
theorem dX4_numberOf_35 : decode cX4_numberOf 35 = .ok (.iload_n 3, 1) := by decide +kernel
theorem dX4_numberOf_36 : decode cX4_numberOf 36 = .ok (.ireturn, 1) := by decide +kernel
theorem dX4_packed_0 : decode cX4_packed 0 = .ok (.lconst 0, 1) := by decide +kernel
theorem dX4_packed_1 : decode cX4_packed 1 = .ok (.lstore_n 2, 1) := by decide +kernel
theorem dX4_packed_2 : decode cX4_packed 2 = .ok (.iconst 0, 1) := by decide +kernel
theorem dX4_packed_3 : decode cX4_packed 3 = .ok (.istore 4, 2) := by decide +kernel
theorem dX4_packed_5 : decode cX4_packed 5 = .ok (.iload 4, 2) := by decide +kernel
theorem dX4_packed_7 : decode cX4_packed 7 = .ok (.iload_n 1, 1) := by decide +kernel
theorem dX4_packed_8 : decode cX4_packed 8 = .ok (.if_icmp .ge 31, 3) := by decide +kernel
theorem dX4_packed_11 : decode cX4_packed 11 = .ok (.iload 4, 2) := by decide +kernel
theorem dX4_packed_13 : decode cX4_packed 13 = .ok (.iconst 4, 1) := by decide +kernel
theorem dX4_packed_14 : decode cX4_packed 14 = .ok (.if_icmp .ge 25, 3) := by decide +kernel
theorem dX4_packed_17 : decode cX4_packed 17 = .ok (.lload_n 2, 1) := by decide +kernel
theorem dX4_packed_18 : decode cX4_packed 18 = .ok (.aload_n 0, 1) := by decide +kernel
theorem dX4_packed_19 : decode cX4_packed 19 = .ok (.getfield 9, 3) := by decide +kernel
theorem dX4_packed_22 : decode cX4_packed 22 = .ok (.iload 4, 2) := by decide +kernel
theorem dX4_packed_24 : decode cX4_packed 24 = .ok (.laload, 1) := by decide +kernel
theorem dX4_packed_25 : decode cX4_packed 25 = .ok (.iload 4, 2) := by decide +kernel
theorem dX4_packed_27 : decode cX4_packed 27 = .ok (.bipush 16, 2) := by decide +kernel
theorem dX4_packed_29 : decode cX4_packed 29 = .ok (.imul, 1) := by decide +kernel
theorem dX4_packed_30 : decode cX4_packed 30 = .ok (.lshl, 1) := by decide +kernel
theorem dX4_packed_31 : decode cX4_packed 31 = .ok (.lor, 1) := by decide +kernel
theorem dX4_packed_32 : decode cX4_packed 32 = .ok (.lstore_n 2, 1) := by decide +kernel
theorem dX4_packed_33 : decode cX4_packed 33 = .ok (.iinc 4 1, 3) := by decide +kernel
theorem dX4_packed_36 : decode cX4_packed 36 = .ok (.goto (-31), 3) := by decide +kernel
theorem dX4_packed_39 : decode cX4_packed 39 = .ok (.lload_n 2, 1) := by decide +kernel
theorem dX4_packed_40 : decode cX4_packed 40 = .ok (.lreturn, 1) := by decide +kernel
set_option maxRecDepth 20000 in
theorem ggX5_init_X3_init : GoodIn wsX5_init wsX3_init := goodIn_r _ [32, 33, 2, 3, 34, 35, 24, 36, 68, 69, 70] (by decide +kernel) (by decide +kernel)
set_option maxRecDepth 20000 in
theorem gX5_init_X3_init_n9 : GoodIn wsX5_init (wsX3_init) := ggX5_init_X3_init
set_option maxRecDepth 20000 in
theorem ggX5_init_X2_init : GoodIn wsX5_init wsX2_init := goodIn_r _ [39, 40, 2, 3, 41, 42, 43, 44, 5, 6, 31, 32, 33, 34, 35, 24, 36, 82, 83, 84, 68, 69, 70] (by decide +kernel) (by decide +kernel)
set_option maxRecDepth 20000 in
theorem gX5_init_X2_init : GoodIn wsX5_init (wsX2_init) := ggX5_init_X2_init
set_option maxRecDepth 20000 in
theorem ggX5_init_X4_init : GoodIn wsX5_init wsX4_init := goodIn_r _ [46, 47, 2, 3, 48, 49, 50, 85, 86] (by decide +kernel) (by decide +kernel)
set_option maxRecDepth 20000 in
theorem gX5_init_X4_init_n35 : GoodIn wsX5_init (wsX4_init) := ggX5_init_X4_init
set_option maxRecDepth 20000 in
theorem ggX5_init_X0_init : GoodIn wsX5_init wsX0_init := goodIn_r _ [52, 53, 2, 3, 24, 54, 55, 56, 57, 87, 88, 89, 90] (by decide +kernel) (by decide +kernel)
set_option maxRecDepth 20000 in
theorem gX5_init_X0_init_n45 : GoodIn wsX5_init (wsX0_init) := ggX5_init_X0_init
set_option maxRecDepth 20000 in
theorem ggX5_init_X3_clear : GoodIn wsX5_init wsX3_clear := goodIn_r _ [61, 34, 35, 68, 69, 70] (by decide +kernel) (by decide +kernel)
set_option maxRecDepth 20000 in
theorem gX5_init_X3_clear : GoodIn wsX5_init (wsV RX5 64 RX3 yX3_clear wsX3_clear) := goodIn_app (goodIn_of _ (by decide +kernel)) ggX5_init_X3_clear
set_option maxRecDepth 20000 in
theorem ggX5_init_X1_init : GoodIn wsX5_init wsX1_init := goodIn_r _ [63, 64, 2, 3, 65, 66, 48, 67, 91, 92, 93] (by decide +kernel) (by decide +kernel)
set_option maxRecDepth 20000 in
theorem gX5_init_X1_init_n68 : GoodIn wsX5_init (wsX1_init) := ggX5_init_X1_init
theorem dX5_init_0 : decode cX5_init 0 = .ok (.aload_n 0, 1) := by decide +kernel
theorem dX5_init_1 : decode cX5_init 1 = .ok (.invokespecial 1, 3) := by decide +kernel
theorem dX5_init_4 : decode cX5_init 4 = .ok (.aload_n 0, 1) := by decide +kernel
theorem dX5_init_5 : decode cX5_init 5 = .ok (.new 7, 3) := by decide +kernel
theorem dX5_init_8 : decode cX5_init 8 = .ok (.dup, 1) := by decide +kernel
theorem dX5_init_9 : decode cX5_init 9 = .ok (.invokespecial 9, 3) := by decide +kernel
theorem dX5_init_12 : decode cX5_init 12 = .ok (.putfield 10, 3) := by decide +kernel
theorem dX5_init_15 : decode cX5_init 15 = .ok (.aload_n 0, 1) := by decide +kernel
theorem dX5_init_16 : decode cX5_init 16 = .ok (.iconst 4, 1) := by decide +kernel
theorem dX5_init_17 : decode cX5_init 17 = .ok (.anewarray 7, 3) := by decide +kernel
theorem dX5_init_20 : decode cX5_init 20 = .ok (.putfield 16, 3) := by decide +kernel
theorem dX5_init_23 : decode cX5_init 23 = .ok (.aload_n 0, 1) := by decide +kernel
theorem dX5_init_24 : decode cX5_init 24 = .ok (.new 20, 3) := by decide +kernel
theorem dX5_init_27 : decode cX5_init 27 = .ok (.dup, 1) := by decide +kernel
theorem dX5_init_28 : decode cX5_init 28 = .ok (.invokespecial 22, 3) := by decide +kernel
theorem dX5_init_31 : decode cX5_init 31 = .ok (.putfield 23, 3) := by decide +kernel
theorem dX5_init_34 : decode cX5_init 34 = .ok (.aload_n 0, 1) := by decide +kernel
theorem dX5_init_35 : decode cX5_init 35 = .ok (.bipush 6, 2) := by decide +kernel
theorem dX5_init_37 : decode cX5_init 37 = .ok (.anewarray 27, 3) := by decide +kernel
theorem dX5_init_40 : decode cX5_init 40 = .ok (.putfield 29, 3) := by decide +kernel
theorem dX5_init_43 : decode cX5_init 43 = .ok (.aload_n 0, 1) := by decide +kernel
theorem dX5_init_44 : decode cX5_init 44 = .ok (.new 33, 3) := by decide +kernel
theorem dX5_init_47 : decode cX5_init 47 = .ok (.dup, 1) := by decide +kernel
theorem dX5_init_48 : decode cX5_init 48 = .ok (.invokespecial 35, 3) := by decide +kernel
theorem dX5_init_51 : decode cX5_init 51 = .ok (.putfield 36, 3) := by decide +kernel
theorem dX5_init_54 : decode cX5_init 54 = .ok (.aload_n 0, 1) := by decide +kernel
theorem dX5_init_55 : decode cX5_init 55 = .ok (.new 33, 3) := by decide +kernel
theorem dX5_init_58 : decode cX5_init 58 = .ok (.dup, 1) := by decide +kernel
theorem dX5_init_59 : decode cX5_init 59 = .ok (.invokespecial 35, 3) := by decide +kernel
theorem dX5_init_62 : decode cX5_init 62 = .ok (.putfield 40, 3) := by decide +kernel
theorem dX5_init_65 : decode cX5_init 65 = .ok (.aload_n 0, 1) := by decide +kernel
theorem dX5_init_66 : decode cX5_init 66 = .ok (.new 43, 3) := by decide +kernel
theorem dX5_init_69 : decode cX5_init 69 = .ok (.dup, 1) := by decide +kernel
theorem dX5_init_70 : decode cX5_init 70 = .ok (.invokespecial 45, 3) := by decide +kernel
theorem dX5_init_73 : decode cX5_init 73 = .ok (.putfield 46, 3) := by decide +kernel
theorem dX5_init_76 : decode cX5_init 76 = .ok (.aload_n 0, 1) := by decide +kernel
theorem dX5_init_77 : decode cX5_init 77 = .ok (.bipush 8, 2) := by decide +kernel
theorem dX5_init_79 : decode cX5_init 79 = .ok (.newarray .int, 2) := by decide +kernel
theorem dX5_init_81 : decode cX5_init 81 = .ok (.putfield 50, 3) := by decide +kernel
theorem dX5_init_84 : decode cX5_init 84 = .ok (.aload_n 0, 1) := by decide +kernel
theorem dX5_init_85 : decode cX5_init 85 = .ok (.bipush 80, 2) := by decide +kernel
theorem dX5_init_87 : decode cX5_init 87 = .ok (.newarray .int, 2) := by decide +kernel
theorem dX5_init_89 : decode cX5_init 89 = .ok (.putfield 54, 3) := by decide +kernel
theorem dX5_init_92 : decode cX5_init 92 = .ok (.aload_n 0, 1) := by decide +kernel
theorem dX5_init_93 : decode cX5_init 93 = .ok (.iconst 0, 1) := by decide +kernel
theorem dX5_init_94 : decode cX5_init 94 = .ok (.putfield 57, 3) := by decide +kernel
theorem dX5_init_97 : decode cX5_init 97 = .ok (.aload_n 0, 1) := by decide +kernel
theorem dX5_init_98 : decode cX5_init 98 = .ok (.iconst 0, 1) := by decide +kernel
theorem dX5_init_99 : decode cX5_init 99 = .ok (.putfield 61, 3) := by decide +kernel
theorem dX5_init_102 : decode cX5_init 102 = .ok (.aload_n 0, 1) := by decide +kernel
theorem dX5_init_103 : decode cX5_init 103 = .ok (.getfield 10, 3) := by decide +kernel
theorem dX5_init_106 : decode cX5_init 106 = .ok (.iconst 2, 1) := by decide +kernel
theorem dX5_init_107 : decode cX5_init 107 = .ok (.invokevirtual 64, 3) := by decide +kernel
theorem dX5_init_110 : decode cX5_init 110 = .ok (.iconst 0, 1) := by decide +kernel
theorem dX5_init_111 : decode cX5_init 111 = .ok (.istore_n 1, 1) := by decide +kernel
theorem dX5_init_112 : decode cX5_init 112 = .ok (.iload_n 1, 1) := by decide +kernel
theorem dX5_init_113 : decode cX5_init 113 = .ok (.iconst 4, 1) := by decide +kernel
theorem dX5_init_114 : decode cX5_init 114 = .ok (.if_icmp .ge 22, 3) := by decide +kernel
theorem dX5_init_117 : decode cX5_init 117 = .ok (.aload_n 0, 1) := by decide +kernel
theorem dX5_init_118 : decode cX5_init 118 = .ok (.getfield 16, 3) := by decide +kernel
theorem dX5_init_121 : decode cX5_init 121 = .ok (.iload_n 1, 1) := by decide +kernel
theorem dX5_init_122 : decode cX5_init 122 = .ok (.new 7, 3) := by decide +kernel
theorem dX5_init_125 : decode cX5_init 125 = .ok (.dup, 1) := by decide +kernel
theorem dX5_init_126 : decode cX5_init 126 = .ok (.invokespecial 9, 3) := by decide +kernel
theorem dX5_init_129 : decode cX5_init 129 = .ok (.aastore, 1) := by decide +kernel
theorem dX5_init_130 : decode cX5_init 130 = .ok (.iinc 1 1, 3) := by decide +kernel
theorem dX5_init_133 : decode cX5_init 133 = .ok (.goto (-21), 3) := by decide +kernel
theorem dX5_init_136 : decode cX5_init 136 = .ok (.iconst 0, 1) := by decide +kernel
theorem dX5_init_137 : decode cX5_init 137 = .ok (.istore_n 1, 1) := by decide +kernel
theorem dX5_init_138 : decode cX5_init 138 = .ok (.iload_n 1, 1) := by decide +kernel
theorem dX5_init_139 : decode cX5_init 139 = .ok (.bipush 6, 2) := by decide +kernel
theorem dX5_init_141 : decode cX5_init 141 = .ok (.if_icmp .ge 22, 3) := by decide +kernel
theorem dX5_init_144 : decode cX5_init 144 = .ok (.aload_n 0, 1) := by decide +kernel
theorem dX5_init_145 : decode cX5_init 145 = .ok (.getfield 29, 3) := by decide +kernel
theorem dX5_init_148 : decode cX5_init 148 = .ok (.iload_n 1, 1) := by decide +kernel
theorem dX5_init_149 : decode cX5_init 149 = .ok (.new 27, 3) := by decide +kernel
theorem dX5_init_152 : decode cX5_init 152 = .ok (.dup, 1) := by decide +kernel
theorem dX5_init_153 : decode cX5_init 153 = .ok (.invokespecial 68, 3) := by decide +kernel
theorem dX5_init_156 : decode cX5_init 156 = .ok (.aastore, 1) := by decide +kernel
theorem dX5_init_157 : decode cX5_init 157 = .ok (.iinc 1 1, 3) := by decide +kernel
theorem dX5_init_160 : decode cX5_init 160 = .ok (.goto (-22), 3) := by decide +kernel
theorem dX5_init_163 : decode cX5_init 163 = .ok (.return_, 1) := by decide +kernel
set_option maxRecDepth 20000 in
theorem ggX5_lanes_X5_finding : GoodIn wsX5_lanes wsX5_finding := goodIn_r _ [8, 9, 38, 39, 40, 41, 42, 43, 44, 45, 46, 47, 48] (by decide +kernel) (by decide +kernel)
set_option maxRecDepth 20000 in
theorem gX5_lanes_X5_finding : GoodIn wsX5_lanes (wsV RX5 69 RX5 yX5_finding wsX5_finding) := goodIn_app (goodIn_of _ (by decide +kernel)) ggX5_lanes_X5_finding
set_option maxRecDepth 20000 in
theorem ggX5_lanes_X2_remember : GoodIn wsX5_lanes wsX2_remember := goodIn_r _ [14, 15, 16, 17, 18, 19, 20, 21, 22, 23, 24, 25, 26, 27, 28, 29, 30, 31, 32, 33, 52, 53, 54, 49, 50, 51] (by decide +kernel) (by decide +kernel)
set_option maxRecDepth 20000 in
theorem gX5_lanes_X2_remember : GoodIn wsX5_lanes (wsV RX5 73 RX2 yX2_remember wsX2_remember) := goodIn_app (goodIn_of _ (by decide +kernel)) ggX5_lanes_X2_remember
set_option maxRecDepth 20000 in
theorem ggX5_lanes_X3_clear : GoodIn wsX5_lanes wsX3_clear := goodIn_r _ [37, 27, 28, 49, 50, 51] (by decide +kernel) (by decide +kernel)
set_option maxRecDepth 20000 in
theorem gX5_lanes_X3_clear : GoodIn wsX5_lanes (wsV RX5 64 RX3 yX3_clear wsX3_clear) := goodIn_app (goodIn_of _ (by decide +kernel)) ggX5_lanes_X3_clear
theorem dX5_lanes_0 : decode cX5_lanes 0 = .ok (.iload_n 1, 1) := by decide +kernel
theorem dX5_lanes_1 : decode cX5_lanes 1 = .ok (.iconst 2, 1) := by decide +kernel
theorem dX5_lanes_2 : decode cX5_lanes 2 = .ok (.if_icmp .lt 9, 3) := by decide +kernel
theorem dX5_lanes_5 : decode cX5_lanes 5 = .ok (.iload_n 1, 1) := by decide +kernel
theorem dX5_lanes_6 : decode cX5_lanes 6 = .ok (.bipush 8, 2) := by decide +kernel
theorem dX5_lanes_8 : decode cX5_lanes 8 = .ok (.if_icmp .le 9, 3) := by decide +kernel
theorem dX5_lanes_11 : decode cX5_lanes 11 = .ok (.aload_n 0, 1) := by decide +kernel
theorem dX5_lanes_12 : decode cX5_lanes 12 = .ok (.iconst (-1), 1) := by decide +kernel
theorem dX5_lanes_13 : decode cX5_lanes 13 = .ok (.invokevirtual 69, 3) := by decide +kernel
theorem dX5_lanes_16 : decode cX5_lanes 16 = .ok (.ireturn, 1) := by decide +kernel
theorem dX5_lanes_17 : decode cX5_lanes 17 = .ok (.aload_n 0, 1) := by decide +kernel
theorem dX5_lanes_18 : decode cX5_lanes 18 = .ok (.getfield 23, 3) := by decide +kernel
theorem dX5_lanes_21 : decode cX5_lanes 21 = .ok (.aload_n 0, 1) := by decide +kernel
theorem dX5_lanes_22 : decode cX5_lanes 22 = .ok (.getfield 10, 3) := by decide +kernel
theorem dX5_lanes_25 : decode cX5_lanes 25 = .ok (.invokevirtual 73, 3) := by decide +kernel
theorem dX5_lanes_28 : decode cX5_lanes 28 = .ok (.aload_n 0, 1) := by decide +kernel
theorem dX5_lanes_29 : decode cX5_lanes 29 = .ok (.getfield 10, 3) := by decide +kernel
theorem dX5_lanes_32 : decode cX5_lanes 32 = .ok (.getfield 77, 3) := by decide +kernel
theorem dX5_lanes_35 : decode cX5_lanes 35 = .ok (.istore_n 2, 1) := by decide +kernel
theorem dX5_lanes_36 : decode cX5_lanes 36 = .ok (.aload_n 0, 1) := by decide +kernel
theorem dX5_lanes_37 : decode cX5_lanes 37 = .ok (.getfield 10, 3) := by decide +kernel
theorem dX5_lanes_40 : decode cX5_lanes 40 = .ok (.iload_n 1, 1) := by decide +kernel
theorem dX5_lanes_41 : decode cX5_lanes 41 = .ok (.invokevirtual 64, 3) := by decide +kernel
theorem dX5_lanes_44 : decode cX5_lanes 44 = .ok (.iload_n 2, 1) := by decide +kernel
theorem dX5_lanes_45 : decode cX5_lanes 45 = .ok (.ireturn, 1) := by decide +kernel
set_option maxRecDepth 20000 in
theorem ggX5_comparer_X5_isKind : GoodIn wsX5_comparer wsX5_isKind := goodIn_r _ [7] (by decide +kernel) (by decide +kernel)
set_option maxRecDepth 20000 in
theorem gX5_comparer_X5_isKind : GoodIn wsX5_comparer (va_wsS RX5 80 yX5_isKind wsX5_isKind) := goodIn_app (goodIn_of _ (by decide +kernel)) ggX5_comparer_X5_isKind
set_option maxRecDepth 20000 in
theorem ggX5_comparer_X3_hasLane : GoodIn wsX5_comparer wsX3_hasLane := goodIn_r _ [12, 13, 60, 61, 62] (by decide +kernel) (by decide +kernel)
set_option maxRecDepth 20000 in
theorem gX5_comparer_X3_hasLane : GoodIn wsX5_comparer (wsV RX5 84 RX3 yX3_hasLane wsX3_hasLane) := goodIn_app (goodIn_of _ (by decide +kernel)) ggX5_comparer_X3_hasLane
set_option maxRecDepth 20000 in
theorem ggX5_comparer_X5_finding : GoodIn wsX5_comparer wsX5_finding := goodIn_r _ [17, 18, 49, 50, 51, 52, 53, 54, 55, 56, 57, 58, 59] (by decide +kernel) (by decide +kernel)
set_option maxRecDepth 20000 in
theorem gX5_comparer_X5_finding : GoodIn wsX5_comparer (wsV RX5 69 RX5 yX5_finding wsX5_finding) := goodIn_app (goodIn_of _ (by decide +kernel)) ggX5_comparer_X5_finding
set_option maxRecDepth 20000 in
theorem ggX5_comparer_X2_remember : GoodIn wsX5_comparer wsX2_remember := goodIn_r _ [23, 24, 25, 26, 27, 28, 29, 30, 31, 32, 33, 11, 34, 13, 35, 36, 37, 38, 39, 40, 63, 64, 65, 60, 61, 62] (by decide +kernel) (by decide +kernel)
set_option maxRecDepth 20000 in
theorem gX5_comparer_X2_remember : GoodIn wsX5_comparer (wsV RX5 73 RX2 yX2_remember wsX2_remember) := goodIn_app (goodIn_of _ (by decide +kernel)) ggX5_comparer_X2_remember
set_option maxRecDepth 20000 in
theorem ggX5_comparer_X3_add : GoodIn wsX5_comparer wsX3_add := goodIn_r _ [44, 35, 45, 46, 47, 11, 48, 36, 60, 61, 62] (by decide +kernel) (by decide +kernel)
set_option maxRecDepth 20000 in
theorem gX5_comparer_X3_add : GoodIn wsX5_comparer (wsV RX5 87 RX3 yX3_add wsX3_add) := goodIn_app (goodIn_of _ (by decide +kernel)) ggX5_comparer_X3_add
theorem dX5_comparer_0 : decode cX5_comparer 0 = .ok (.iload_n 1, 1) := by decide +kernel
theorem dX5_comparer_1 : decode cX5_comparer 1 = .ok (.invokestatic 80, 3) := by decide +kernel
theorem dX5_comparer_4 : decode cX5_comparer 4 = .ok (.ifCond .eq 25, 3) := by decide +kernel
theorem dX5_comparer_7 : decode cX5_comparer 7 = .ok (.aload_n 0, 1) := by decide +kernel
theorem dX5_comparer_8 : decode cX5_comparer 8 = .ok (.getfield 10, 3) := by decide +kernel
theorem dX5_comparer_11 : decode cX5_comparer 11 = .ok (.iload_n 2, 1) := by decide +kernel
theorem dX5_comparer_12 : decode cX5_comparer 12 = .ok (.invokevirtual 84, 3) := by decide +kernel
theorem dX5_comparer_15 : decode cX5_comparer 15 = .ok (.ifCond .eq 14, 3) := by decide +kernel
theorem dX5_comparer_18 : decode cX5_comparer 18 = .ok (.aload_n 0, 1) := by decide +kernel
theorem dX5_comparer_19 : decode cX5_comparer 19 = .ok (.getfield 10, 3) := by decide +kernel
theorem dX5_comparer_22 : decode cX5_comparer 22 = .ok (.iload_n 3, 1) := by decide +kernel
theorem dX5_comparer_23 : decode cX5_comparer 23 = .ok (.invokevirtual 84, 3) := by decide +kernel
theorem dX5_comparer_26 : decode cX5_comparer 26 = .ok (.ifCond .ne 9, 3) := by decide +kernel
theorem dX5_comparer_29 : decode cX5_comparer 29 = .ok (.aload_n 0, 1) := by decide +kernel
theorem dX5_comparer_30 : decode cX5_comparer 30 = .ok (.iconst (-1), 1) := by decide +kernel
theorem dX5_comparer_31 : decode cX5_comparer 31 = .ok (.invokevirtual 69, 3) := by decide +kernel
theorem dX5_comparer_34 : decode cX5_comparer 34 = .ok (.ireturn, 1) := by decide +kernel
theorem dX5_comparer_35 : decode cX5_comparer 35 = .ok (.iload_n 2, 1) := by decide +kernel
theorem dX5_comparer_36 : decode cX5_comparer 36 = .ok (.iload_n 3, 1) := by decide +kernel
theorem dX5_comparer_37 : decode cX5_comparer 37 = .ok (.if_icmp .lt 10, 3) := by decide +kernel
theorem dX5_comparer_40 : decode cX5_comparer 40 = .ok (.aload_n 0, 1) := by decide +kernel
