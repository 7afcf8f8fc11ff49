theorem dX6_store_6 : decode cX6_store 6 = .ok (.getfield 7, 3) := by decide +kernel
theorem dX6_store_9 : decode cX6_store 9 = .ok (.iastore, 1) := by decide +kernel
theorem dX6_store_10 : decode cX6_store 10 = .ok (.aload_n 0, 1) := by decide +kernel
theorem dX6_store_11 : decode cX6_store 11 = .ok (.getfield 30, 3) := by decide +kernel
theorem dX6_store_14 : decode cX6_store 14 = .ok (.iload_n 1, 1) := by decide +kernel
theorem dX6_store_15 : decode cX6_store 15 = .ok (.aload_n 0, 1) := by decide +kernel
theorem dX6_store_16 : decode cX6_store 16 = .ok (.getfield 79, 3) := by decide +kernel
theorem dX6_store_19 : decode cX6_store 19 = .ok (.iastore, 1) := by decide +kernel
theorem dX6_store_20 : decode cX6_store 20 = .ok (.iconst 0, 1) := by decide +kernel
theorem dX6_store_21 : decode cX6_store 21 = .ok (.istore_n 2, 1) := by decide +kernel
theorem dX6_store_22 : decode cX6_store 22 = .ok (.iload_n 2, 1) := by decide +kernel
theorem dX6_store_23 : decode cX6_store 23 = .ok (.bipush 40, 2) := by decide +kernel
theorem dX6_store_25 : decode cX6_store 25 = .ok (.if_icmp .ge 77, 3) := by decide +kernel
theorem dX6_store_28 : decode cX6_store 28 = .ok (.aload_n 0, 1) := by decide +kernel
theorem dX6_store_29 : decode cX6_store 29 = .ok (.getfield 33, 3) := by decide +kernel
theorem dX6_store_32 : decode cX6_store 32 = .ok (.bipush 40, 2) := by decide +kernel
theorem dX6_store_34 : decode cX6_store 34 = .ok (.iload_n 1, 1) := by decide +kernel
theorem dX6_store_35 : decode cX6_store 35 = .ok (.imul, 1) := by decide +kernel
theorem dX6_store_36 : decode cX6_store 36 = .ok (.iload_n 2, 1) := by decide +kernel
theorem dX6_store_37 : decode cX6_store 37 = .ok (.iadd, 1) := by decide +kernel
theorem dX6_store_38 : decode cX6_store 38 = .ok (.aload_n 0, 1) := by decide +kernel
theorem dX6_store_39 : decode cX6_store 39 = .ok (.getfield 13, 3) := by decide +kernel
theorem dX6_store_42 : decode cX6_store 42 = .ok (.iload_n 2, 1) := by decide +kernel
theorem dX6_store_43 : decode cX6_store 43 = .ok (.iaload, 1) := by decide +kernel
theorem dX6_store_44 : decode cX6_store 44 = .ok (.iastore, 1) := by decide +kernel
theorem dX6_store_45 : decode cX6_store 45 = .ok (.aload_n 0, 1) := by decide +kernel
theorem dX6_store_46 : decode cX6_store 46 = .ok (.getfield 36, 3) := by decide +kernel
theorem dX6_store_49 : decode cX6_store 49 = .ok (.bipush 40, 2) := by decide +kernel
theorem dX6_store_51 : decode cX6_store 51 = .ok (.iload_n 1, 1) := by decide +kernel
theorem dX6_store_52 : decode cX6_store 52 = .ok (.imul, 1) := by decide +kernel
theorem dX6_store_53 : decode cX6_store 53 = .ok (.iload_n 2, 1) := by decide +kernel
theorem dX6_store_54 : decode cX6_store 54 = .ok (.iadd, 1) := by decide +kernel
theorem dX6_store_55 : decode cX6_store 55 = .ok (.aload_n 0, 1) := by decide +kernel
theorem dX6_store_56 : decode cX6_store 56 = .ok (.getfield 17, 3) := by decide +kernel
theorem dX6_store_59 : decode cX6_store 59 = .ok (.iload_n 2, 1) := by decide +kernel
theorem dX6_store_60 : decode cX6_store 60 = .ok (.iaload, 1) := by decide +kernel
theorem dX6_store_61 : decode cX6_store 61 = .ok (.iastore, 1) := by decide +kernel
theorem dX6_store_62 : decode cX6_store 62 = .ok (.aload_n 0, 1) := by decide +kernel
theorem dX6_store_63 : decode cX6_store 63 = .ok (.getfield 39, 3) := by decide +kernel
theorem dX6_store_66 : decode cX6_store 66 = .ok (.bipush 40, 2) := by decide +kernel
theorem dX6_store_68 : decode cX6_store 68 = .ok (.iload_n 1, 1) := by decide +kernel
theorem dX6_store_69 : decode cX6_store 69 = .ok (.imul, 1) := by decide +kernel
theorem dX6_store_70 : decode cX6_store 70 = .ok (.iload_n 2, 1) := by decide +kernel
theorem dX6_store_71 : decode cX6_store 71 = .ok (.iadd, 1) := by decide +kernel
theorem dX6_store_72 : decode cX6_store 72 = .ok (.aload_n 0, 1) := by decide +kernel
theorem dX6_store_73 : decode cX6_store 73 = .ok (.getfield 20, 3) := by decide +kernel
theorem dX6_store_76 : decode cX6_store 76 = .ok (.iload_n 2, 1) := by decide +kernel
theorem dX6_store_77 : decode cX6_store 77 = .ok (.iaload, 1) := by decide +kernel
theorem dX6_store_78 : decode cX6_store 78 = .ok (.iastore, 1) := by decide +kernel
theorem dX6_store_79 : decode cX6_store 79 = .ok (.aload_n 0, 1) := by decide +kernel
theorem dX6_store_80 : decode cX6_store 80 = .ok (.getfield 42, 3) := by decide +kernel
theorem dX6_store_83 : decode cX6_store 83 = .ok (.bipush 40, 2) := by decide +kernel
theorem dX6_store_85 : decode cX6_store 85 = .ok (.iload_n 1, 1) := by decide +kernel
theorem dX6_store_86 : decode cX6_store 86 = .ok (.imul, 1) := by decide +kernel
theorem dX6_store_87 : decode cX6_store 87 = .ok (.iload_n 2, 1) := by decide +kernel
theorem dX6_store_88 : decode cX6_store 88 = .ok (.iadd, 1) := by decide +kernel
theorem dX6_store_89 : decode cX6_store 89 = .ok (.aload_n 0, 1) := by decide +kernel
theorem dX6_store_90 : decode cX6_store 90 = .ok (.getfield 23, 3) := by decide +kernel
theorem dX6_store_93 : decode cX6_store 93 = .ok (.iload_n 2, 1) := by decide +kernel
theorem dX6_store_94 : decode cX6_store 94 = .ok (.baload, 1) := by decide +kernel
theorem dX6_store_95 : decode cX6_store 95 = .ok (.bastore, 1) := by decide +kernel
theorem dX6_store_96 : decode cX6_store 96 = .ok (.iinc 2 1, 3) := by decide +kernel
theorem dX6_store_99 : decode cX6_store 99 = .ok (.goto (-77), 3) := by decide +kernel
theorem dX6_store_102 : decode cX6_store 102 = .ok (.return_, 1) := by decide +kernel
theorem dX6_restore_0 : decode cX6_restore 0 = .ok (.aload_n 0, 1) := by decide +kernel
theorem dX6_restore_1 : decode cX6_restore 1 = .ok (.aload_n 0, 1) := by decide +kernel
theorem dX6_restore_2 : decode cX6_restore 2 = .ok (.getfield 27, 3) := by decide +kernel
theorem dX6_restore_5 : decode cX6_restore 5 = .ok (.iload_n 1, 1) := by decide +kernel
theorem dX6_restore_6 : decode cX6_restore 6 = .ok (.iaload, 1) := by decide +kernel
theorem dX6_restore_7 : decode cX6_restore 7 = .ok (.putfield 7, 3) := by decide +kernel
theorem dX6_restore_10 : decode cX6_restore 10 = .ok (.aload_n 0, 1) := by decide +kernel
theorem dX6_restore_11 : decode cX6_restore 11 = .ok (.aload_n 0, 1) := by decide +kernel
theorem dX6_restore_12 : decode cX6_restore 12 = .ok (.getfield 30, 3) := by decide +kernel
theorem dX6_restore_15 : decode cX6_restore 15 = .ok (.iload_n 1, 1) := by decide +kernel
theorem dX6_restore_16 : decode cX6_restore 16 = .ok (.iaload, 1) := by decide +kernel
theorem dX6_restore_17 : decode cX6_restore 17 = .ok (.putfield 79, 3) := by decide +kernel
theorem dX6_restore_20 : decode cX6_restore 20 = .ok (.iconst 0, 1) := by decide +kernel
theorem dX6_restore_21 : decode cX6_restore 21 = .ok (.istore_n 2, 1) := by decide +kernel
theorem dX6_restore_22 : decode cX6_restore 22 = .ok (.iload_n 2, 1) := by decide +kernel
theorem dX6_restore_23 : decode cX6_restore 23 = .ok (.bipush 40, 2) := by decide +kernel
theorem dX6_restore_25 : decode cX6_restore 25 = .ok (.if_icmp .ge 77, 3) := by decide +kernel
theorem dX6_restore_28 : decode cX6_restore 28 = .ok (.aload_n 0, 1) := by decide +kernel
theorem dX6_restore_29 : decode cX6_restore 29 = .ok (.getfield 13, 3) := by decide +kernel
theorem dX6_restore_32 : decode cX6_restore 32 = .ok (.iload_n 2, 1) := by decide +kernel
theorem dX6_restore_33 : decode cX6_restore 33 = .ok (.aload_n 0, 1) := by decide +kernel
theorem dX6_restore_34 : decode cX6_restore 34 = .ok (.getfield 33, 3) := by decide +kernel
theorem dX6_restore_37 : decode cX6_restore 37 = .ok (.bipush 40, 2) := by decide +kernel
theorem dX6_restore_39 : decode cX6_restore 39 = .ok (.iload_n 1, 1) := by decide +kernel
theorem dX6_restore_40 : decode cX6_restore 40 = .ok (.imul, 1) := by decide +kernel
theorem dX6_restore_41 : decode cX6_restore 41 = .ok (.iload_n 2, 1) := by decide +kernel
theorem dX6_restore_42 : decode cX6_restore 42 = .ok (.iadd, 1) := by decide +kernel
theorem dX6_restore_43 : decode cX6_restore 43 = .ok (.iaload, 1) := by decide +kernel
theorem dX6_restore_44 : decode cX6_restore 44 = .ok (.iastore, 1) := by decide +kernel
theorem dX6_restore_45 : decode cX6_restore 45 = .ok (.aload_n 0, 1) := by decide +kernel
theorem dX6_restore_46 : decode cX6_restore 46 = .ok (.getfield 17, 3) := by decide +kernel
theorem dX6_restore_49 : decode cX6_restore 49 = .ok (.iload_n 2, 1) := by decide +kernel
theorem dX6_restore_50 : decode cX6_restore 50 = .ok (.aload_n 0, 1) := by decide +kernel
theorem dX6_restore_51 : decode cX6_restore 51 = .ok (.getfield 36, 3) := by decide +kernel
theorem dX6_restore_54 : decode cX6_restore 54 = .ok (.bipush 40, 2) := by decide +kernel
theorem dX6_restore_56 : decode cX6_restore 56 = .ok (.iload_n 1, 1) := by decide +kernel
theorem dX6_restore_57 : decode cX6_restore 57 = .ok (.imul, 1) := by decide +kernel
theorem dX6_restore_58 : decode cX6_restore 58 = .ok (.iload_n 2, 1) := by decide +kernel
theorem dX6_restore_59 : decode cX6_restore 59 = .ok (.iadd, 1) := by decide +kernel
theorem dX6_restore_60 : decode cX6_restore 60 = .ok (.iaload, 1) := by decide +kernel
theorem dX6_restore_61 : decode cX6_restore 61 = .ok (.iastore, 1) := by decide +kernel
theorem dX6_restore_62 : decode cX6_restore 62 = .ok (.aload_n 0, 1) := by decide +kernel
theorem dX6_restore_63 : decode cX6_restore 63 = .ok (.getfield 20, 3) := by decide +kernel
theorem dX6_restore_66 : decode cX6_restore 66 = .ok (.iload_n 2, 1) := by decide +kernel
theorem dX6_restore_67 : decode cX6_restore 67 = .ok (.aload_n 0, 1) := by decide +kernel
theorem dX6_restore_68 : decode cX6_restore 68 = .ok (.getfield 39, 3) := by decide +kernel
theorem dX6_restore_71 : decode cX6_restore 71 = .ok (.bipush 40, 2) := by decide +kernel
theorem dX6_restore_73 : decode cX6_restore 73 = .ok (.iload_n 1, 1) := by decide +kernel
theorem dX6_restore_74 : decode cX6_restore 74 = .ok (.imul, 1) := by decide +kernel
theorem dX6_restore_75 : decode cX6_restore 75 = .ok (.iload_n 2, 1) := by decide +kernel
theorem dX6_restore_76 : decode cX6_restore 76 = .ok (.iadd, 1) := by decide +kernel
theorem dX6_restore_77 : decode cX6_restore 77 = .ok (.iaload, 1) := by decide +kernel
theorem dX6_restore_78 : decode cX6_restore 78 = .ok (.iastore, 1) := by decide +kernel
theorem dX6_restore_79 : decode cX6_restore 79 = .ok (.aload_n 0, 1) := by decide +kernel
theorem dX6_restore_80 : decode cX6_restore 80 = .ok (.getfield 23, 3) := by decide +kernel
theorem dX6_restore_83 : decode cX6_restore 83 = .ok (.iload_n 2, 1) := by decide +kernel
theorem dX6_restore_84 : decode cX6_restore 84 = .ok (.aload_n 0, 1) := by decide +kernel
theorem dX6_restore_85 : decode cX6_restore 85 = .ok (.getfield 42, 3) := by decide +kernel
theorem dX6_restore_88 : decode cX6_restore 88 = .ok (.bipush 40, 2) := by decide +kernel
theorem dX6_restore_90 : decode cX6_restore 90 = .ok (.iload_n 1, 1) := by decide +kernel
theorem dX6_restore_91 : decode cX6_restore 91 = .ok (.imul, 1) := by decide +kernel
theorem dX6_restore_92 : decode cX6_restore 92 = .ok (.iload_n 2, 1) := by decide +kernel
theorem dX6_restore_93 : decode cX6_restore 93 = .ok (.iadd, 1) := by decide +kernel
theorem dX6_restore_94 : decode cX6_restore 94 = .ok (.baload, 1) := by decide +kernel
theorem dX6_restore_95 : decode cX6_restore 95 = .ok (.bastore, 1) := by decide +kernel
theorem dX6_restore_96 : decode cX6_restore 96 = .ok (.iinc 2 1, 3) := by decide +kernel
theorem dX6_restore_99 : decode cX6_restore 99 = .ok (.goto (-77), 3) := by decide +kernel
theorem dX6_restore_102 : decode cX6_restore 102 = .ok (.return_, 1) := by decide +kernel
set_option maxRecDepth 20000 in
theorem ggX6_begins_X6_store : GoodIn wsX6_begins wsX6_store := goodIn_r _ [12, 2, 13, 3, 14, 4, 15, 5, 16, 6, 17, 7, 18, 19, 20, 21, 22, 23, 24, 25, 26, 27, 28, 29, 30, 31, 32, 33, 34, 35, 36, 37, 38, 39, 40, 41, 42, 43] (by decide +kernel) (by decide +kernel)
set_option maxRecDepth 20000 in
theorem gX6_begins_X6_store : GoodIn wsX6_begins (wsV RX6 89 RX6 yX6_store wsX6_store) := goodIn_app (goodIn_of _ (by decide +kernel)) ggX6_begins_X6_store
theorem dX6_begins_0 : decode cX6_begins 0 = .ok (.aload_n 0, 1) := by decide +kernel
theorem dX6_begins_1 : decode cX6_begins 1 = .ok (.getfield 86, 3) := by decide +kernel
theorem dX6_begins_4 : decode cX6_begins 4 = .ok (.bipush 25, 2) := by decide +kernel
theorem dX6_begins_6 : decode cX6_begins 6 = .ok (.if_icmp .ne 126, 3) := by decide +kernel
theorem dX6_begins_9 : decode cX6_begins 9 = .ok (.iconst 0, 1) := by decide +kernel
theorem dX6_begins_10 : decode cX6_begins 10 = .ok (.istore_n 1, 1) := by decide +kernel
theorem dX6_begins_11 : decode cX6_begins 11 = .ok (.iload_n 1, 1) := by decide +kernel
theorem dX6_begins_12 : decode cX6_begins 12 = .ok (.bipush 24, 2) := by decide +kernel
theorem dX6_begins_14 : decode cX6_begins 14 = .ok (.if_icmp .ge 37, 3) := by decide +kernel
theorem dX6_begins_17 : decode cX6_begins 17 = .ok (.aload_n 0, 1) := by decide +kernel
theorem dX6_begins_18 : decode cX6_begins 18 = .ok (.getfield 27, 3) := by decide +kernel
theorem dX6_begins_21 : decode cX6_begins 21 = .ok (.iload_n 1, 1) := by decide +kernel
theorem dX6_begins_22 : decode cX6_begins 22 = .ok (.aload_n 0, 1) := by decide +kernel
theorem dX6_begins_23 : decode cX6_begins 23 = .ok (.getfield 27, 3) := by decide +kernel
theorem dX6_begins_26 : decode cX6_begins 26 = .ok (.iload_n 1, 1) := by decide +kernel
theorem dX6_begins_27 : decode cX6_begins 27 = .ok (.iconst 1, 1) := by decide +kernel
theorem dX6_begins_28 : decode cX6_begins 28 = .ok (.iadd, 1) := by decide +kernel
theorem dX6_begins_29 : decode cX6_begins 29 = .ok (.iaload, 1) := by decide +kernel
theorem dX6_begins_30 : decode cX6_begins 30 = .ok (.iastore, 1) := by decide +kernel
theorem dX6_begins_31 : decode cX6_begins 31 = .ok (.aload_n 0, 1) := by decide +kernel
theorem dX6_begins_32 : decode cX6_begins 32 = .ok (.getfield 30, 3) := by decide +kernel
theorem dX6_begins_35 : decode cX6_begins 35 = .ok (.iload_n 1, 1) := by decide +kernel
theorem dX6_begins_36 : decode cX6_begins 36 = .ok (.aload_n 0, 1) := by decide +kernel
theorem dX6_begins_37 : decode cX6_begins 37 = .ok (.getfield 30, 3) := by decide +kernel
theorem dX6_begins_40 : decode cX6_begins 40 = .ok (.iload_n 1, 1) := by decide +kernel
theorem dX6_begins_41 : decode cX6_begins 41 = .ok (.iconst 1, 1) := by decide +kernel
theorem dX6_begins_42 : decode cX6_begins 42 = .ok (.iadd, 1) := by decide +kernel
theorem dX6_begins_43 : decode cX6_begins 43 = .ok (.iaload, 1) := by decide +kernel
theorem dX6_begins_44 : decode cX6_begins 44 = .ok (.iastore, 1) := by decide +kernel
theorem dX6_begins_45 : decode cX6_begins 45 = .ok (.iinc 1 1, 3) := by decide +kernel
theorem dX6_begins_48 : decode cX6_begins 48 = .ok (.goto (-37), 3) := by decide +kernel
theorem dX6_begins_51 : decode cX6_begins 51 = .ok (.iconst 0, 1) := by decide +kernel
theorem dX6_begins_52 : decode cX6_begins 52 = .ok (.istore_n 1, 1) := by decide +kernel
theorem dX6_begins_53 : decode cX6_begins 53 = .ok (.iload_n 1, 1) := by decide +kernel
theorem dX6_begins_54 : decode cX6_begins 54 = .ok (.sipush 960, 3) := by decide +kernel
theorem dX6_begins_57 : decode cX6_begins 57 = .ok (.if_icmp .ge 69, 3) := by decide +kernel
theorem dX6_begins_60 : decode cX6_begins 60 = .ok (.aload_n 0, 1) := by decide +kernel
theorem dX6_begins_61 : decode cX6_begins 61 = .ok (.getfield 33, 3) := by decide +kernel
theorem dX6_begins_64 : decode cX6_begins 64 = .ok (.iload_n 1, 1) := by decide +kernel
theorem dX6_begins_65 : decode cX6_begins 65 = .ok (.aload_n 0, 1) := by decide +kernel
theorem dX6_begins_66 : decode cX6_begins 66 = .ok (.getfield 33, 3) := by decide +kernel
theorem dX6_begins_69 : decode cX6_begins 69 = .ok (.iload_n 1, 1) := by decide +kernel
theorem dX6_begins_70 : decode cX6_begins 70 = .ok (.bipush 40, 2) := by decide +kernel
theorem dX6_begins_72 : decode cX6_begins 72 = .ok (.iadd, 1) := by decide +kernel
theorem dX6_begins_73 : decode cX6_begins 73 = .ok (.iaload, 1) := by decide +kernel
theorem dX6_begins_74 : decode cX6_begins 74 = .ok (.iastore, 1) := by decide +kernel
theorem dX6_begins_75 : decode cX6_begins 75 = .ok (.aload_n 0, 1) := by decide +kernel
theorem dX6_begins_76 : decode cX6_begins 76 = .ok (.getfield 36, 3) := by decide +kernel
theorem dX6_begins_79 : decode cX6_begins 79 = .ok (.iload_n 1, 1) := by decide +kernel
theorem dX6_begins_80 : decode cX6_begins 80 = .ok (.aload_n 0, 1) := by decide +kernel
theorem dX6_begins_81 : decode cX6_begins 81 = .ok (.getfield 36, 3) := by decide +kernel
theorem dX6_begins_84 : decode cX6_begins 84 = .ok (.iload_n 1, 1) := by decide +kernel
theorem dX6_begins_85 : decode cX6_begins 85 = .ok (.bipush 40, 2) := by decide +kernel
theorem dX6_begins_87 : decode cX6_begins 87 = .ok (.iadd, 1) := by decide +kernel
theorem dX6_begins_88 : decode cX6_begins 88 = .ok (.iaload, 1) := by decide +kernel
theorem dX6_begins_89 : decode cX6_begins 89 = .ok (.iastore, 1) := by decide +kernel
theorem dX6_begins_90 : decode cX6_begins 90 = .ok (.aload_n 0, 1) := by decide +kernel
theorem dX6_begins_91 : decode cX6_begins 91 = .ok (.getfield 39, 3) := by decide +kernel
theorem dX6_begins_94 : decode cX6_begins 94 = .ok (.iload_n 1, 1) := by decide +kernel
theorem dX6_begins_95 : decode cX6_begins 95 = .ok (.aload_n 0, 1) := by decide +kernel
theorem dX6_begins_96 : decode cX6_begins 96 = .ok (.getfield 39, 3) := by decide +kernel
theorem dX6_begins_99 : decode cX6_begins 99 = .ok (.iload_n 1, 1) := by decide +kernel
theorem dX6_begins_100 : decode cX6_begins 100 = .ok (.bipush 40, 2) := by decide +kernel
theorem dX6_begins_102 : decode cX6_begins 102 = .ok (.iadd, 1) := by decide +kernel
theorem dX6_begins_103 : decode cX6_begins 103 = .ok (.iaload, 1) := by decide +kernel
theorem dX6_begins_104 : decode cX6_begins 104 = .ok (.iastore, 1) := by decide +kernel
theorem dX6_begins_105 : decode cX6_begins 105 = .ok (.aload_n 0, 1) := by decide +kernel
theorem dX6_begins_106 : decode cX6_begins 106 = .ok (.getfield 42, 3) := by decide +kernel
theorem dX6_begins_109 : decode cX6_begins 109 = .ok (.iload_n 1, 1) := by decide +kernel
theorem dX6_begins_110 : decode cX6_begins 110 = .ok (.aload_n 0, 1) := by decide +kernel
theorem dX6_begins_111 : decode cX6_begins 111 = .ok (.getfield 42, 3) := by decide +kernel
theorem dX6_begins_114 : decode cX6_begins 114 = .ok (.iload_n 1, 1) := by decide +kernel
theorem dX6_begins_115 : decode cX6_begins 115 = .ok (.bipush 40, 2) := by decide +kernel
theorem dX6_begins_117 : decode cX6_begins 117 = .ok (.iadd, 1) := by decide +kernel
theorem dX6_begins_118 : decode cX6_begins 118 = .ok (.baload, 1) := by decide +kernel
theorem dX6_begins_119 : decode cX6_begins 119 = .ok (.bastore, 1) := by decide +kernel
theorem dX6_begins_120 : decode cX6_begins 120 = .ok (.iinc 1 1, 3) := by decide +kernel
theorem dX6_begins_123 : decode cX6_begins 123 = .ok (.goto (-70), 3) := by decide +kernel
theorem dX6_begins_126 : decode cX6_begins 126 = .ok (.aload_n 0, 1) := by decide +kernel
theorem dX6_begins_127 : decode cX6_begins 127 = .ok (.bipush 24, 2) := by decide +kernel
theorem dX6_begins_129 : decode cX6_begins 129 = .ok (.putfield 86, 3) := by decide +kernel
theorem dX6_begins_132 : decode cX6_begins 132 = .ok (.aload_n 0, 1) := by decide +kernel
theorem dX6_begins_133 : decode cX6_begins 133 = .ok (.aload_n 0, 1) := by decide +kernel
theorem dX6_begins_134 : decode cX6_begins 134 = .ok (.getfield 86, 3) := by decide +kernel
theorem dX6_begins_137 : decode cX6_begins 137 = .ok (.invokevirtual 89, 3) := by decide +kernel
theorem dX6_begins_140 : decode cX6_begins 140 = .ok (.aload_n 0, 1) := by decide +kernel
theorem dX6_begins_141 : decode cX6_begins 141 = .ok (.dup, 1) := by decide +kernel
theorem dX6_begins_142 : decode cX6_begins 142 = .ok (.getfield 86, 3) := by decide +kernel
theorem dX6_begins_145 : decode cX6_begins 145 = .ok (.iconst 1, 1) := by decide +kernel
theorem dX6_begins_146 : decode cX6_begins 146 = .ok (.iadd, 1) := by decide +kernel
theorem dX6_begins_147 : decode cX6_begins 147 = .ok (.putfield 86, 3) := by decide +kernel
theorem dX6_begins_150 : decode cX6_begins 150 = .ok (.return_, 1) := by decide +kernel
set_option maxRecDepth 20000 in
theorem ggX6_undo_X6_found : GoodIn wsX6_undo wsX6_found := goodIn_r _ [6, 7, 24, 25, 26, 27, 28, 29, 30, 31, 32, 33, 34, 35, 36, 37, 38, 39, 40, 41, 42, 43, 44, 45, 46, 47, 48] (by decide +kernel) (by decide +kernel)
set_option maxRecDepth 20000 in
theorem gX6_undo_X6_found : GoodIn wsX6_undo (wsV RX6 93 RX6 yX6_found wsX6_found) := goodIn_app (goodIn_of _ (by decide +kernel)) ggX6_undo_X6_found
set_option maxRecDepth 20000 in
theorem ggX6_undo_X6_restore : GoodIn wsX6_undo wsX6_restore := goodIn_r _ [11, 12, 13, 14, 15, 16, 17, 18, 19, 20, 21, 22, 23, 24, 25, 26, 27, 28, 29, 30, 31, 32, 33, 34, 35, 36, 37, 38, 39, 40, 41, 42, 43, 44, 45, 46, 47, 48] (by decide +kernel) (by decide +kernel)
set_option maxRecDepth 20000 in
theorem gX6_undo_X6_restore : GoodIn wsX6_undo (wsV RX6 97 RX6 yX6_restore wsX6_restore) := goodIn_app (goodIn_of _ (by decide +kernel)) ggX6_undo_X6_restore
theorem dX6_undo_0 : decode cX6_undo 0 = .ok (.aload_n 0, 1) := by decide +kernel
theorem dX6_undo_1 : decode cX6_undo 1 = .ok (.getfield 86, 3) := by decide +kernel
theorem dX6_undo_4 : decode cX6_undo 4 = .ok (.ifCond .ne 10, 3) := by decide +kernel
theorem dX6_undo_7 : decode cX6_undo 7 = .ok (.aload_n 0, 1) := by decide +kernel
theorem dX6_undo_8 : decode cX6_undo 8 = .ok (.bipush (-6), 2) := by decide +kernel
theorem dX6_undo_10 : decode cX6_undo 10 = .ok (.invokevirtual 93, 3) := by decide +kernel
theorem dX6_undo_13 : decode cX6_undo 13 = .ok (.ireturn, 1) := by decide +kernel
theorem dX6_undo_14 : decode cX6_undo 14 = .ok (.aload_n 0, 1) := by decide +kernel
theorem dX6_undo_15 : decode cX6_undo 15 = .ok (.dup, 1) := by decide +kernel
theorem dX6_undo_16 : decode cX6_undo 16 = .ok (.getfield 86, 3) := by decide +kernel
theorem dX6_undo_19 : decode cX6_undo 19 = .ok (.iconst 1, 1) := by decide +kernel
theorem dX6_undo_20 : decode cX6_undo 20 = .ok (.isub, 1) := by decide +kernel
theorem dX6_undo_21 : decode cX6_undo 21 = .ok (.putfield 86, 3) := by decide +kernel
theorem dX6_undo_24 : decode cX6_undo 24 = .ok (.aload_n 0, 1) := by decide +kernel
theorem dX6_undo_25 : decode cX6_undo 25 = .ok (.aload_n 0, 1) := by decide +kernel
theorem dX6_undo_26 : decode cX6_undo 26 = .ok (.getfield 86, 3) := by decide +kernel
theorem dX6_undo_29 : decode cX6_undo 29 = .ok (.invokevirtual 97, 3) := by decide +kernel
theorem dX6_undo_32 : decode cX6_undo 32 = .ok (.aload_n 0, 1) := by decide +kernel
theorem dX6_undo_33 : decode cX6_undo 33 = .ok (.getfield 86, 3) := by decide +kernel
theorem dX6_undo_36 : decode cX6_undo 36 = .ok (.ireturn, 1) := by decide +kernel
set_option maxRecDepth 20000 in
theorem ggX6_lanes_X6_in : GoodIn wsX6_lanes wsX6_in := goodIn_r _ [6] (by decide +kernel) (by decide +kernel)
set_option maxRecDepth 20000 in
theorem gX6_lanes_X6_in : GoodIn wsX6_lanes (va_wsS RX6 82 yX6_in wsX6_in) := goodIn_app (goodIn_of _ (by decide +kernel)) ggX6_lanes_X6_in
set_option maxRecDepth 20000 in
theorem ggX6_lanes_X6_found : GoodIn wsX6_lanes wsX6_found := goodIn_r _ [10, 11, 31, 32, 33, 34, 35, 36, 37, 38, 39, 40, 41, 42, 43, 44, 45, 46, 47, 48, 49, 50, 51, 52, 53, 54, 55] (by decide +kernel) (by decide +kernel)
set_option maxRecDepth 20000 in
theorem gX6_lanes_X6_found : GoodIn wsX6_lanes (wsV RX6 93 RX6 yX6_found wsX6_found) := goodIn_app (goodIn_of _ (by decide +kernel)) ggX6_lanes_X6_found
set_option maxRecDepth 20000 in
theorem ggX6_lanes_X6_begins : GoodIn wsX6_lanes wsX6_begins := goodIn_r _ [15, 16, 17, 18, 19, 20, 21, 22, 23, 24, 25, 5, 26, 2, 1, 27, 28, 29, 30, 31, 32, 33, 34, 35, 36, 37, 38, 39, 40, 41, 42, 43, 44, 45, 46, 47, 48, 49, 50, 51, 52, 53, 54, 55] (by decide +kernel) (by decide +kernel)
set_option maxRecDepth 20000 in
theorem gX6_lanes_X6_begins : GoodIn wsX6_lanes (wsV RX6 100 RX6 yX6_begins wsX6_begins) := goodIn_app (goodIn_of _ (by decide +kernel)) ggX6_lanes_X6_begins
theorem dX6_lanes_0 : decode cX6_lanes 0 = .ok (.iload_n 1, 1) := by decide +kernel
theorem dX6_lanes_1 : decode cX6_lanes 1 = .ok (.iconst 2, 1) := by decide +kernel
theorem dX6_lanes_2 : decode cX6_lanes 2 = .ok (.bipush 8, 2) := by decide +kernel
theorem dX6_lanes_4 : decode cX6_lanes 4 = .ok (.invokestatic 82, 3) := by decide +kernel
theorem dX6_lanes_7 : decode cX6_lanes 7 = .ok (.ifCond .ne 9, 3) := by decide +kernel
theorem dX6_lanes_10 : decode cX6_lanes 10 = .ok (.aload_n 0, 1) := by decide +kernel
theorem dX6_lanes_11 : decode cX6_lanes 11 = .ok (.iconst (-1), 1) := by decide +kernel
theorem dX6_lanes_12 : decode cX6_lanes 12 = .ok (.invokevirtual 93, 3) := by decide +kernel
theorem dX6_lanes_15 : decode cX6_lanes 15 = .ok (.ireturn, 1) := by decide +kernel
theorem dX6_lanes_16 : decode cX6_lanes 16 = .ok (.aload_n 0, 1) := by decide +kernel
theorem dX6_lanes_17 : decode cX6_lanes 17 = .ok (.invokevirtual 100, 3) := by decide +kernel
theorem dX6_lanes_20 : decode cX6_lanes 20 = .ok (.aload_n 0, 1) := by decide +kernel
theorem dX6_lanes_21 : decode cX6_lanes 21 = .ok (.getfield 79, 3) := by decide +kernel
theorem dX6_lanes_24 : decode cX6_lanes 24 = .ok (.istore_n 2, 1) := by decide +kernel
theorem dX6_lanes_25 : decode cX6_lanes 25 = .ok (.aload_n 0, 1) := by decide +kernel
theorem dX6_lanes_26 : decode cX6_lanes 26 = .ok (.iload_n 1, 1) := by decide +kernel
theorem dX6_lanes_27 : decode cX6_lanes 27 = .ok (.putfield 7, 3) := by decide +kernel
theorem dX6_lanes_30 : decode cX6_lanes 30 = .ok (.aload_n 0, 1) := by decide +kernel
theorem dX6_lanes_31 : decode cX6_lanes 31 = .ok (.iconst 0, 1) := by decide +kernel
theorem dX6_lanes_32 : decode cX6_lanes 32 = .ok (.putfield 79, 3) := by decide +kernel
theorem dX6_lanes_35 : decode cX6_lanes 35 = .ok (.iload_n 2, 1) := by decide +kernel
theorem dX6_lanes_36 : decode cX6_lanes 36 = .ok (.ireturn, 1) := by decide +kernel
theorem dX6_add_0 : decode cX6_add 0 = .ok (.aload_n 0, 1) := by decide +kernel
theorem dX6_add_1 : decode cX6_add 1 = .ok (.getfield 13, 3) := by decide +kernel
theorem dX6_add_4 : decode cX6_add 4 = .ok (.aload_n 0, 1) := by decide +kernel
theorem dX6_add_5 : decode cX6_add 5 = .ok (.getfield 79, 3) := by decide +kernel
theorem dX6_add_8 : decode cX6_add 8 = .ok (.iload_n 1, 1) := by decide +kernel
theorem dX6_add_9 : decode cX6_add 9 = .ok (.iastore, 1) := by decide +kernel
theorem dX6_add_10 : decode cX6_add 10 = .ok (.aload_n 0, 1) := by decide +kernel
theorem dX6_add_11 : decode cX6_add 11 = .ok (.getfield 17, 3) := by decide +kernel
theorem dX6_add_14 : decode cX6_add 14 = .ok (.aload_n 0, 1) := by decide +kernel
theorem dX6_add_15 : decode cX6_add 15 = .ok (.getfield 79, 3) := by decide +kernel
theorem dX6_add_18 : decode cX6_add 18 = .ok (.iload_n 2, 1) := by decide +kernel
theorem dX6_add_19 : decode cX6_add 19 = .ok (.iastore, 1) := by decide +kernel
theorem dX6_add_20 : decode cX6_add 20 = .ok (.aload_n 0, 1) := by decide +kernel
theorem dX6_add_21 : decode cX6_add 21 = .ok (.getfield 20, 3) := by decide +kernel
theorem dX6_add_24 : decode cX6_add 24 = .ok (.aload_n 0, 1) := by decide +kernel
theorem dX6_add_25 : decode cX6_add 25 = .ok (.getfield 79, 3) := by decide +kernel
theorem dX6_add_28 : decode cX6_add 28 = .ok (.iload_n 3, 1) := by decide +kernel
theorem dX6_add_29 : decode cX6_add 29 = .ok (.iastore, 1) := by decide +kernel
theorem dX6_add_30 : decode cX6_add 30 = .ok (.aload_n 0, 1) := by decide +kernel
theorem dX6_add_31 : decode cX6_add 31 = .ok (.getfield 23, 3) := by decide +kernel
theorem dX6_add_34 : decode cX6_add 34 = .ok (.aload_n 0, 1) := by decide +kernel
theorem dX6_add_35 : decode cX6_add 35 = .ok (.getfield 79, 3) := by decide +kernel
theorem dX6_add_38 : decode cX6_add 38 = .ok (.iconst 1, 1) := by decide +kernel
theorem dX6_add_39 : decode cX6_add 39 = .ok (.bastore, 1) := by decide +kernel
theorem dX6_add_40 : decode cX6_add 40 = .ok (.aload_n 0, 1) := by decide +kernel
theorem dX6_add_41 : decode cX6_add 41 = .ok (.dup, 1) := by decide +kernel
theorem dX6_add_42 : decode cX6_add 42 = .ok (.getfield 79, 3) := by decide +kernel
theorem dX6_add_45 : decode cX6_add 45 = .ok (.iconst 1, 1) := by decide +kernel
theorem dX6_add_46 : decode cX6_add 46 = .ok (.iadd, 1) := by decide +kernel
theorem dX6_add_47 : decode cX6_add 47 = .ok (.putfield 79, 3) := by decide +kernel
theorem dX6_add_50 : decode cX6_add 50 = .ok (.return_, 1) := by decide +kernel
set_option maxRecDepth 20000 in
theorem ggX6_comparer_X6_in : GoodIn wsX6_comparer wsX6_in := goodIn_r _ [5] (by decide +kernel) (by decide +kernel)
set_option maxRecDepth 20000 in
theorem gX6_comparer_X6_in : GoodIn wsX6_comparer (va_wsS RX6 82 yX6_in wsX6_in) := goodIn_app (goodIn_of _ (by decide +kernel)) ggX6_comparer_X6_in
set_option maxRecDepth 20000 in
theorem ggX6_comparer_X6_isLane : GoodIn wsX6_comparer wsX6_isLane := goodIn_r _ [9, 10, 2, 3, 4, 5, 39, 40, 41, 42, 43, 44, 45, 46, 47, 48, 49, 50, 51, 52, 53, 54, 55, 56, 57, 58, 59, 60, 61, 62, 63] (by decide +kernel) (by decide +kernel)
set_option maxRecDepth 20000 in
theorem gX6_comparer_X6_isLane : GoodIn wsX6_comparer (wsV RX6 103 RX6 yX6_isLane wsX6_isLane) := goodIn_app (goodIn_of _ (by decide +kernel)) ggX6_comparer_X6_isLane
set_option maxRecDepth 20000 in
theorem ggX6_comparer_X6_found : GoodIn wsX6_comparer wsX6_found := goodIn_r _ [14, 15, 39, 40, 41, 42, 43, 44, 45, 46, 47, 48, 49, 50, 51, 52, 53, 54, 55, 56, 57, 58, 59, 60, 61, 62, 63] (by decide +kernel) (by decide +kernel)
set_option maxRecDepth 20000 in
theorem gX6_comparer_X6_found : GoodIn wsX6_comparer (wsV RX6 93 RX6 yX6_found wsX6_found) := goodIn_app (goodIn_of _ (by decide +kernel)) ggX6_comparer_X6_found
set_option maxRecDepth 20000 in
theorem ggX6_comparer_X6_begins : GoodIn wsX6_comparer wsX6_begins := goodIn_r _ [19, 20, 21, 22, 23, 24, 25, 26, 27, 28, 29, 4, 30, 10, 1, 31, 32, 33, 34, 39, 40, 41, 42, 43, 44, 45, 46, 47, 48, 49, 50, 51, 52, 53, 54, 55, 56, 57, 58, 59, 60, 61, 62, 63] (by decide +kernel) (by decide +kernel)
set_option maxRecDepth 20000 in
theorem gX6_comparer_X6_begins : GoodIn wsX6_comparer (wsV RX6 100 RX6 yX6_begins wsX6_begins) := goodIn_app (goodIn_of _ (by decide +kernel)) ggX6_comparer_X6_begins
set_option maxRecDepth 20000 in
theorem ggX6_comparer_X6_add : GoodIn wsX6_comparer wsX6_add := goodIn_r _ [38, 31, 1, 32, 33, 34, 39, 40, 41, 42, 43, 44, 45, 46, 47, 48, 49, 50, 51, 52, 53, 54, 55, 56, 57, 58, 59, 60, 61, 62, 63] (by decide +kernel) (by decide +kernel)
set_option maxRecDepth 20000 in
theorem gX6_comparer_X6_add : GoodIn wsX6_comparer (wsV RX6 107 RX6 yX6_add wsX6_add) := goodIn_app (goodIn_of _ (by decide +kernel)) ggX6_comparer_X6_add
theorem dX6_comparer_0 : decode cX6_comparer 0 = .ok (.iload_n 1, 1) := by decide +kernel
theorem dX6_comparer_1 : decode cX6_comparer 1 = .ok (.iconst 0, 1) := by decide +kernel
theorem dX6_comparer_2 : decode cX6_comparer 2 = .ok (.iconst 4, 1) := by decide +kernel
theorem dX6_comparer_3 : decode cX6_comparer 3 = .ok (.invokestatic 82, 3) := by decide +kernel
theorem dX6_comparer_6 : decode cX6_comparer 6 = .ok (.ifCond .eq 19, 3) := by decide +kernel
theorem dX6_comparer_9 : decode cX6_comparer 9 = .ok (.aload_n 0, 1) := by decide +kernel
theorem dX6_comparer_10 : decode cX6_comparer 10 = .ok (.iload_n 2, 1) := by decide +kernel
theorem dX6_comparer_11 : decode cX6_comparer 11 = .ok (.invokevirtual 103, 3) := by decide +kernel
theorem dX6_comparer_14 : decode cX6_comparer 14 = .ok (.ifCond .eq 11, 3) := by decide +kernel
theorem dX6_comparer_17 : decode cX6_comparer 17 = .ok (.aload_n 0, 1) := by decide +kernel
theorem dX6_comparer_18 : decode cX6_comparer 18 = .ok (.iload_n 3, 1) := by decide +kernel
theorem dX6_comparer_19 : decode cX6_comparer 19 = .ok (.invokevirtual 103, 3) := by decide +kernel
theorem dX6_comparer_22 : decode cX6_comparer 22 = .ok (.ifCond .ne 9, 3) := by decide +kernel
theorem dX6_comparer_25 : decode cX6_comparer 25 = .ok (.aload_n 0, 1) := by decide +kernel
theorem dX6_comparer_26 : decode cX6_comparer 26 = .ok (.iconst (-1), 1) := by decide +kernel
theorem dX6_comparer_27 : decode cX6_comparer 27 = .ok (.invokevirtual 93, 3) := by decide +kernel
theorem dX6_comparer_30 : decode cX6_comparer 30 = .ok (.ireturn, 1) := by decide +kernel
theorem dX6_comparer_31 : decode cX6_comparer 31 = .ok (.iload_n 2, 1) := by decide +kernel
theorem dX6_comparer_32 : decode cX6_comparer 32 = .ok (.iload_n 3, 1) := by decide +kernel
theorem dX6_comparer_33 : decode cX6_comparer 33 = .ok (.if_icmp .lt 10, 3) := by decide +kernel
theorem dX6_comparer_36 : decode cX6_comparer 36 = .ok (.aload_n 0, 1) := by decide +kernel
theorem dX6_comparer_37 : decode cX6_comparer 37 = .ok (.bipush (-3), 2) := by decide +kernel
theorem dX6_comparer_39 : decode cX6_comparer 39 = .ok (.invokevirtual 93, 3) := by decide +kernel
theorem dX6_comparer_42 : decode cX6_comparer 42 = .ok (.ireturn, 1) := by decide +kernel
theorem dX6_comparer_43 : decode cX6_comparer 43 = .ok (.aload_n 0, 1) := by decide +kernel
theorem dX6_comparer_44 : decode cX6_comparer 44 = .ok (.getfield 79, 3) := by decide +kernel
theorem dX6_comparer_47 : decode cX6_comparer 47 = .ok (.bipush 40, 2) := by decide +kernel
theorem dX6_comparer_49 : decode cX6_comparer 49 = .ok (.if_icmp .ne 10, 3) := by decide +kernel
theorem dX6_comparer_52 : decode cX6_comparer 52 = .ok (.aload_n 0, 1) := by decide +kernel
theorem dX6_comparer_53 : decode cX6_comparer 53 = .ok (.bipush (-5), 2) := by decide +kernel
theorem dX6_comparer_55 : decode cX6_comparer 55 = .ok (.invokevirtual 93, 3) := by decide +kernel
theorem dX6_comparer_58 : decode cX6_comparer 58 = .ok (.ireturn, 1) := by decide +kernel
theorem dX6_comparer_59 : decode cX6_comparer 59 = .ok (.aload_n 0, 1) := by decide +kernel
theorem dX6_comparer_60 : decode cX6_comparer 60 = .ok (.invokevirtual 100, 3) := by decide +kernel
theorem dX6_comparer_63 : decode cX6_comparer 63 = .ok (.aload_n 0, 1) := by decide +kernel
theorem dX6_comparer_64 : decode cX6_comparer 64 = .ok (.iload_n 1, 1) := by decide +kernel
theorem dX6_comparer_65 : decode cX6_comparer 65 = .ok (.iload_n 2, 1) := by decide +kernel
theorem dX6_comparer_66 : decode cX6_comparer 66 = .ok (.iload_n 3, 1) := by decide +kernel
theorem dX6_comparer_67 : decode cX6_comparer 67 = .ok (.invokevirtual 107, 3) := by decide +kernel
theorem dX6_comparer_70 : decode cX6_comparer 70 = .ok (.aload_n 0, 1) := by decide +kernel
theorem dX6_comparer_71 : decode cX6_comparer 71 = .ok (.getfield 79, 3) := by decide +kernel
theorem dX6_comparer_74 : decode cX6_comparer 74 = .ok (.ireturn, 1) := by decide +kernel
set_option maxRecDepth 20000 in
theorem ggX6_cut_X6_in : GoodIn wsX6_cut wsX6_in := goodIn_r _ [5] (by decide +kernel) (by decide +kernel)
set_option maxRecDepth 20000 in
theorem gX6_cut_X6_in : GoodIn wsX6_cut (va_wsS RX6 82 yX6_in wsX6_in) := goodIn_app (goodIn_of _ (by decide +kernel)) ggX6_cut_X6_in
set_option maxRecDepth 20000 in
theorem ggX6_cut_X6_found : GoodIn wsX6_cut wsX6_found := goodIn_r _ [9, 10, 31, 32, 33, 34, 35, 36, 37, 38, 39, 40, 41, 42, 43, 44, 45, 46, 47, 48, 49, 50, 51, 52, 53, 54, 55] (by decide +kernel) (by decide +kernel)
set_option maxRecDepth 20000 in
theorem gX6_cut_X6_found : GoodIn wsX6_cut (wsV RX6 93 RX6 yX6_found wsX6_found) := goodIn_app (goodIn_of _ (by decide +kernel)) ggX6_cut_X6_found
set_option maxRecDepth 20000 in
theorem ggX6_cut_X6_begins : GoodIn wsX6_cut wsX6_begins := goodIn_r _ [14, 15, 16, 17, 18, 19, 20, 21, 22, 23, 24, 4, 25, 26, 1, 27, 28, 29, 30, 31, 32, 33, 34, 35, 36, 37, 38, 39, 40, 41, 42, 43, 44, 45, 46, 47, 48, 49, 50, 51, 52, 53, 54, 55] (by decide +kernel) (by decide +kernel)
set_option maxRecDepth 20000 in
theorem gX6_cut_X6_begins : GoodIn wsX6_cut (wsV RX6 100 RX6 yX6_begins wsX6_begins) := goodIn_app (goodIn_of _ (by decide +kernel)) ggX6_cut_X6_begins
theorem dX6_cut_0 : decode cX6_cut 0 = .ok (.iload_n 1, 1) := by decide +kernel
theorem dX6_cut_1 : decode cX6_cut 1 = .ok (.iconst 0, 1) := by decide +kernel
theorem dX6_cut_2 : decode cX6_cut 2 = .ok (.aload_n 0, 1) := by decide +kernel
theorem dX6_cut_3 : decode cX6_cut 3 = .ok (.getfield 79, 3) := by decide +kernel
theorem dX6_cut_6 : decode cX6_cut 6 = .ok (.invokestatic 82, 3) := by decide +kernel
theorem dX6_cut_9 : decode cX6_cut 9 = .ok (.ifCond .ne 9, 3) := by decide +kernel
theorem dX6_cut_12 : decode cX6_cut 12 = .ok (.aload_n 0, 1) := by decide +kernel
theorem dX6_cut_13 : decode cX6_cut 13 = .ok (.iconst (-1), 1) := by decide +kernel
theorem dX6_cut_14 : decode cX6_cut 14 = .ok (.invokevirtual 93, 3) := by decide +kernel
theorem dX6_cut_17 : decode cX6_cut 17 = .ok (.ireturn, 1) := by decide +kernel
theorem dX6_cut_18 : decode cX6_cut 18 = .ok (.aload_n 0, 1) := by decide +kernel
theorem dX6_cut_19 : decode cX6_cut 19 = .ok (.invokevirtual 100, 3) := by decide +kernel
theorem dX6_cut_22 : decode cX6_cut 22 = .ok (.aload_n 0, 1) := by decide +kernel
theorem dX6_cut_23 : decode cX6_cut 23 = .ok (.getfield 79, 3) := by decide +kernel
theorem dX6_cut_26 : decode cX6_cut 26 = .ok (.iload_n 1, 1) := by decide +kernel
theorem dX6_cut_27 : decode cX6_cut 27 = .ok (.isub, 1) := by decide +kernel
theorem dX6_cut_28 : decode cX6_cut 28 = .ok (.istore_n 2, 1) := by decide +kernel
theorem dX6_cut_29 : decode cX6_cut 29 = .ok (.aload_n 0, 1) := by decide +kernel
theorem dX6_cut_30 : decode cX6_cut 30 = .ok (.iload_n 1, 1) := by decide +kernel
theorem dX6_cut_31 : decode cX6_cut 31 = .ok (.putfield 79, 3) := by decide +kernel
theorem dX6_cut_34 : decode cX6_cut 34 = .ok (.iload_n 2, 1) := by decide +kernel
theorem dX6_cut_35 : decode cX6_cut 35 = .ok (.ireturn, 1) := by decide +kernel
set_option maxRecDepth 20000 in
theorem ggX6_change_X6_isComparer : GoodIn wsX6_change wsX6_isComparer := goodIn_r _ [7, 8, 9, 10, 6, 11, 35, 36, 37, 38, 39, 40, 41, 42, 43, 44, 45, 46, 47, 48, 49, 50, 51, 52, 53, 54, 55, 56, 57, 58, 59] (by decide +kernel) (by decide +kernel)
set_option maxRecDepth 20000 in
theorem gX6_change_X6_isComparer : GoodIn wsX6_change (wsV RX6 111 RX6 yX6_isComparer wsX6_isComparer) := goodIn_app (goodIn_of _ (by decide +kernel)) ggX6_change_X6_isComparer
set_option maxRecDepth 20000 in
theorem ggX6_change_X6_in : GoodIn wsX6_change wsX6_in := goodIn_r _ [11] (by decide +kernel) (by decide +kernel)
set_option maxRecDepth 20000 in
theorem gX6_change_X6_in : GoodIn wsX6_change (va_wsS RX6 82 yX6_in wsX6_in) := goodIn_app (goodIn_of _ (by decide +kernel)) ggX6_change_X6_in
set_option maxRecDepth 20000 in
theorem ggX6_change_X6_found : GoodIn wsX6_change wsX6_found := goodIn_r _ [15, 16, 35, 36, 37, 38, 39, 40, 41, 42, 43, 44, 45, 46, 47, 48, 49, 50, 51, 52, 53, 54, 55, 56, 57, 58, 59] (by decide +kernel) (by decide +kernel)
set_option maxRecDepth 20000 in
theorem gX6_change_X6_found : GoodIn wsX6_change (wsV RX6 93 RX6 yX6_found wsX6_found) := goodIn_app (goodIn_of _ (by decide +kernel)) ggX6_change_X6_found
set_option maxRecDepth 20000 in
theorem ggX6_change_X6_begins : GoodIn wsX6_change wsX6_begins := goodIn_r _ [20, 21, 22, 23, 24, 25, 26, 27, 28, 29, 30, 6, 31, 32, 8, 1, 33, 34, 2, 35, 36, 37, 38, 39, 40, 41, 42, 43, 44, 45, 46, 47, 48, 49, 50, 51, 52, 53, 54, 55, 56, 57, 58, 59] (by decide +kernel) (by decide +kernel)
set_option maxRecDepth 20000 in
theorem gX6_change_X6_begins : GoodIn wsX6_change (wsV RX6 100 RX6 yX6_begins wsX6_begins) := goodIn_app (goodIn_of _ (by decide +kernel)) ggX6_change_X6_begins
theorem dX6_change_0 : decode cX6_change 0 = .ok (.aload_n 0, 1) := by decide +kernel
theorem dX6_change_1 : decode cX6_change 1 = .ok (.iload_n 1, 1) := by decide +kernel
theorem dX6_change_2 : decode cX6_change 2 = .ok (.invokevirtual 111, 3) := by decide +kernel
theorem dX6_change_5 : decode cX6_change 5 = .ok (.ifCond .eq 12, 3) := by decide +kernel
theorem dX6_change_8 : decode cX6_change 8 = .ok (.iload_n 2, 1) := by decide +kernel
theorem dX6_change_9 : decode cX6_change 9 = .ok (.iconst 0, 1) := by decide +kernel
theorem dX6_change_10 : decode cX6_change 10 = .ok (.iconst 4, 1) := by decide +kernel
theorem dX6_change_11 : decode cX6_change 11 = .ok (.invokestatic 82, 3) := by decide +kernel
theorem dX6_change_14 : decode cX6_change 14 = .ok (.ifCond .ne 9, 3) := by decide +kernel
theorem dX6_change_17 : decode cX6_change 17 = .ok (.aload_n 0, 1) := by decide +kernel
theorem dX6_change_18 : decode cX6_change 18 = .ok (.iconst (-1), 1) := by decide +kernel
theorem dX6_change_19 : decode cX6_change 19 = .ok (.invokevirtual 93, 3) := by decide +kernel
theorem dX6_change_22 : decode cX6_change 22 = .ok (.ireturn, 1) := by decide +kernel
theorem dX6_change_23 : decode cX6_change 23 = .ok (.aload_n 0, 1) := by decide +kernel
theorem dX6_change_24 : decode cX6_change 24 = .ok (.invokevirtual 100, 3) := by decide +kernel
theorem dX6_change_27 : decode cX6_change 27 = .ok (.aload_n 0, 1) := by decide +kernel
theorem dX6_change_28 : decode cX6_change 28 = .ok (.getfield 13, 3) := by decide +kernel
theorem dX6_change_31 : decode cX6_change 31 = .ok (.iload_n 1, 1) := by decide +kernel
theorem dX6_change_32 : decode cX6_change 32 = .ok (.iaload, 1) := by decide +kernel
theorem dX6_change_33 : decode cX6_change 33 = .ok (.istore_n 3, 1) := by decide +kernel
theorem dX6_change_34 : decode cX6_change 34 = .ok (.aload_n 0, 1) := by decide +kernel
theorem dX6_change_35 : decode cX6_change 35 = .ok (.getfield 13, 3) := by decide +kernel
theorem dX6_change_38 : decode cX6_change 38 = .ok (.iload_n 1, 1) := by decide +kernel
theorem dX6_change_39 : decode cX6_change 39 = .ok (.iload_n 2, 1) := by decide +kernel
theorem dX6_change_40 : decode cX6_change 40 = .ok (.iastore, 1) := by decide +kernel
theorem dX6_change_41 : decode cX6_change 41 = .ok (.aload_n 0, 1) := by decide +kernel
theorem dX6_change_42 : decode cX6_change 42 = .ok (.getfield 23, 3) := by decide +kernel
theorem dX6_change_45 : decode cX6_change 45 = .ok (.iload_n 1, 1) := by decide +kernel
theorem dX6_change_46 : decode cX6_change 46 = .ok (.iconst 1, 1) := by decide +kernel
theorem dX6_change_47 : decode cX6_change 47 = .ok (.bastore, 1) := by decide +kernel
theorem dX6_change_48 : decode cX6_change 48 = .ok (.iload_n 3, 1) := by decide +kernel
theorem dX6_change_49 : decode cX6_change 49 = .ok (.ireturn, 1) := by decide +kernel
set_option maxRecDepth 20000 in
theorem ggX6_turnSwitch_X6_isComparer : GoodIn wsX6_turnSwitch wsX6_isComparer := goodIn_r _ [7, 8, 9, 10, 6, 11, 35, 36, 37, 38, 39, 40, 41, 42, 43, 44, 45, 46, 47, 48, 49, 50, 51, 52, 53, 54, 55, 56, 57, 58, 59] (by decide +kernel) (by decide +kernel)
set_option maxRecDepth 20000 in
theorem gX6_turnSwitch_X6_isComparer : GoodIn wsX6_turnSwitch (wsV RX6 111 RX6 yX6_isComparer wsX6_isComparer) := goodIn_app (goodIn_of _ (by decide +kernel)) ggX6_turnSwitch_X6_isComparer
set_option maxRecDepth 20000 in
theorem ggX6_turnSwitch_X6_found : GoodIn wsX6_turnSwitch wsX6_found := goodIn_r _ [15, 16, 35, 36, 37, 38, 39, 40, 41, 42, 43, 44, 45, 46, 47, 48, 49, 50, 51, 52, 53, 54, 55, 56, 57, 58, 59] (by decide +kernel) (by decide +kernel)
set_option maxRecDepth 20000 in
theorem gX6_turnSwitch_X6_found : GoodIn wsX6_turnSwitch (wsV RX6 93 RX6 yX6_found wsX6_found) := goodIn_app (goodIn_of _ (by decide +kernel)) ggX6_turnSwitch_X6_found
set_option maxRecDepth 20000 in
theorem ggX6_turnSwitch_X6_begins : GoodIn wsX6_turnSwitch wsX6_begins := goodIn_r _ [20, 21, 22, 23, 24, 25, 26, 27, 28, 29, 30, 6, 31, 32, 8, 1, 33, 34, 2, 35, 36, 37, 38, 39, 40, 41, 42, 43, 44, 45, 46, 47, 48, 49, 50, 51, 52, 53, 54, 55, 56, 57, 58, 59] (by decide +kernel) (by decide +kernel)
set_option maxRecDepth 20000 in
theorem gX6_turnSwitch_X6_begins : GoodIn wsX6_turnSwitch (wsV RX6 100 RX6 yX6_begins wsX6_begins) := goodIn_app (goodIn_of _ (by decide +kernel)) ggX6_turnSwitch_X6_begins
theorem dX6_turnSwitch_0 : decode cX6_turnSwitch 0 = .ok (.aload_n 0, 1) := by decide +kernel
theorem dX6_turnSwitch_1 : decode cX6_turnSwitch 1 = .ok (.iload_n 1, 1) := by decide +kernel
theorem dX6_turnSwitch_2 : decode cX6_turnSwitch 2 = .ok (.invokevirtual 111, 3) := by decide +kernel
theorem dX6_turnSwitch_5 : decode cX6_turnSwitch 5 = .ok (.ifCond .ne 9, 3) := by decide +kernel
theorem dX6_turnSwitch_8 : decode cX6_turnSwitch 8 = .ok (.aload_n 0, 1) := by decide +kernel
theorem dX6_turnSwitch_9 : decode cX6_turnSwitch 9 = .ok (.iconst (-1), 1) := by decide +kernel
theorem dX6_turnSwitch_10 : decode cX6_turnSwitch 10 = .ok (.invokevirtual 93, 3) := by decide +kernel
theorem dX6_turnSwitch_13 : decode cX6_turnSwitch 13 = .ok (.ireturn, 1) := by decide +kernel
theorem dX6_turnSwitch_14 : decode cX6_turnSwitch 14 = .ok (.aload_n 0, 1) := by decide +kernel
theorem dX6_turnSwitch_15 : decode cX6_turnSwitch 15 = .ok (.getfield 13, 3) := by decide +kernel
theorem dX6_turnSwitch_18 : decode cX6_turnSwitch 18 = .ok (.iload_n 1, 1) := by decide +kernel
theorem dX6_turnSwitch_19 : decode cX6_turnSwitch 19 = .ok (.iaload, 1) := by decide +kernel
theorem dX6_turnSwitch_20 : decode cX6_turnSwitch 20 = .ok (.iconst 4, 1) := by decide +kernel
theorem dX6_turnSwitch_21 : decode cX6_turnSwitch 21 = .ok (.if_icmp .eq 10, 3) := by decide +kernel
theorem dX6_turnSwitch_24 : decode cX6_turnSwitch 24 = .ok (.aload_n 0, 1) := by decide +kernel
theorem dX6_turnSwitch_25 : decode cX6_turnSwitch 25 = .ok (.bipush (-4), 2) := by decide +kernel
theorem dX6_turnSwitch_27 : decode cX6_turnSwitch 27 = .ok (.invokevirtual 93, 3) := by decide +kernel
theorem dX6_turnSwitch_30 : decode cX6_turnSwitch 30 = .ok (.ireturn, 1) := by decide +kernel
theorem dX6_turnSwitch_31 : decode cX6_turnSwitch 31 = .ok (.aload_n 0, 1) := by decide +kernel
theorem dX6_turnSwitch_32 : decode cX6_turnSwitch 32 = .ok (.invokevirtual 100, 3) := by decide +kernel
theorem dX6_turnSwitch_35 : decode cX6_turnSwitch 35 = .ok (.aload_n 0, 1) := by decide +kernel
theorem dX6_turnSwitch_36 : decode cX6_turnSwitch 36 = .ok (.getfield 23, 3) := by decide +kernel
theorem dX6_turnSwitch_39 : decode cX6_turnSwitch 39 = .ok (.iload_n 1, 1) := by decide +kernel
theorem dX6_turnSwitch_40 : decode cX6_turnSwitch 40 = .ok (.baload, 1) := by decide +kernel
theorem dX6_turnSwitch_41 : decode cX6_turnSwitch 41 = .ok (.istore_n 3, 1) := by decide +kernel
theorem dX6_turnSwitch_42 : decode cX6_turnSwitch 42 = .ok (.aload_n 0, 1) := by decide +kernel
theorem dX6_turnSwitch_43 : decode cX6_turnSwitch 43 = .ok (.getfield 23, 3) := by decide +kernel
theorem dX6_turnSwitch_46 : decode cX6_turnSwitch 46 = .ok (.iload_n 1, 1) := by decide +kernel
theorem dX6_turnSwitch_47 : decode cX6_turnSwitch 47 = .ok (.iload_n 2, 1) := by decide +kernel
theorem dX6_turnSwitch_48 : decode cX6_turnSwitch 48 = .ok (.bastore, 1) := by decide +kernel
theorem dX6_turnSwitch_49 : decode cX6_turnSwitch 49 = .ok (.iload_n 3, 1) := by decide +kernel
theorem dX6_turnSwitch_50 : decode cX6_turnSwitch 50 = .ok (.ifCond .eq 7, 3) := by decide +kernel
theorem dX6_turnSwitch_53 : decode cX6_turnSwitch 53 = .ok (.iconst 1, 1) := by decide +kernel
theorem dX6_turnSwitch_54 : decode cX6_turnSwitch 54 = .ok (.goto 4, 3) := by decide +kernel
theorem dX6_turnSwitch_57 : decode cX6_turnSwitch 57 = .ok (.iconst 0, 1) := by decide +kernel
theorem dX6_turnSwitch_58 : decode cX6_turnSwitch 58 = .ok (.ireturn, 1) := by decide +kernel
theorem dX6_above_0 : decode cX6_above 0 = .ok (.iload_n 0, 1) := by decide +kernel
theorem dX6_above_1 : decode cX6_above 1 = .ok (.ifCond .ne 7, 3) := by decide +kernel
theorem dX6_above_4 : decode cX6_above 4 = .ok (.iconst (-1), 1) := by decide +kernel
theorem dX6_above_5 : decode cX6_above 5 = .ok (.goto 15, 3) := by decide +kernel
theorem dX6_above_8 : decode cX6_above 8 = .ok (.iload_n 0, 1) := by decide +kernel
theorem dX6_above_9 : decode cX6_above 9 = .ok (.iconst 3, 1) := by decide +kernel
theorem dX6_above_10 : decode cX6_above 10 = .ok (.if_icmp .ge 7, 3) := by decide +kernel
theorem dX6_above_13 : decode cX6_above 13 = .ok (.iconst 0, 1) := by decide +kernel
theorem dX6_above_14 : decode cX6_above 14 = .ok (.goto 6, 3) := by decide +kernel
theorem dX6_above_17 : decode cX6_above 17 = .ok (.iload_n 0, 1) := by decide +kernel
theorem dX6_above_18 : decode cX6_above 18 = .ok (.iconst 2, 1) := by decide +kernel
theorem dX6_above_19 : decode cX6_above 19 = .ok (.isub, 1) := by decide +kernel
theorem dX6_above_20 : decode cX6_above 20 = .ok (.ireturn, 1) := by decide +kernel
set_option maxRecDepth 20000 in
theorem ggX6_as_X6_isComparer : GoodIn wsX6_as wsX6_isComparer := goodIn_r _ [6, 7, 8, 9, 5, 10, 19, 20, 21, 22, 23, 24, 25, 26, 27, 28, 29, 30, 31, 32, 33, 34, 35, 36, 37, 38, 39, 40, 41, 42, 43] (by decide +kernel) (by decide +kernel)
set_option maxRecDepth 20000 in
theorem gX6_as_X6_isComparer : GoodIn wsX6_as (wsV RX6 111 RX6 yX6_isComparer wsX6_isComparer) := goodIn_app (goodIn_of _ (by decide +kernel)) ggX6_as_X6_isComparer
set_option maxRecDepth 20000 in
theorem ggX6_as_X6_in : GoodIn wsX6_as wsX6_in := goodIn_r _ [10] (by decide +kernel) (by decide +kernel)
set_option maxRecDepth 20000 in
theorem gX6_as_X6_in : GoodIn wsX6_as (va_wsS RX6 82 yX6_in wsX6_in) := goodIn_app (goodIn_of _ (by decide +kernel)) ggX6_as_X6_in
set_option maxRecDepth 20000 in
theorem ggX6_as_X6_found : GoodIn wsX6_as wsX6_found := goodIn_r _ [14, 15, 19, 20, 21, 22, 23, 24, 25, 26, 27, 28, 29, 30, 31, 32, 33, 34, 35, 36, 37, 38, 39, 40, 41, 42, 43] (by decide +kernel) (by decide +kernel)
set_option maxRecDepth 20000 in
theorem gX6_as_X6_found : GoodIn wsX6_as (wsV RX6 93 RX6 yX6_found wsX6_found) := goodIn_app (goodIn_of _ (by decide +kernel)) ggX6_as_X6_found
set_option maxRecDepth 20000 in
theorem ggX6_as_X6_above : GoodIn wsX6_as wsX6_above := goodIn_r _ [18] (by decide +kernel) (by decide +kernel)
set_option maxRecDepth 20000 in
theorem gX6_as_X6_above : GoodIn wsX6_as (va_wsS RX6 114 yX6_above wsX6_above) := goodIn_app (goodIn_of _ (by decide +kernel)) ggX6_as_X6_above
theorem dX6_as_0 : decode cX6_as 0 = .ok (.aload_n 0, 1) := by decide +kernel
theorem dX6_as_1 : decode cX6_as 1 = .ok (.iload_n 1, 1) := by decide +kernel
theorem dX6_as_2 : decode cX6_as 2 = .ok (.invokevirtual 111, 3) := by decide +kernel
theorem dX6_as_5 : decode cX6_as 5 = .ok (.ifCond .eq 12, 3) := by decide +kernel
theorem dX6_as_8 : decode cX6_as 8 = .ok (.iload_n 2, 1) := by decide +kernel
theorem dX6_as_9 : decode cX6_as 9 = .ok (.iconst 0, 1) := by decide +kernel
theorem dX6_as_10 : decode cX6_as 10 = .ok (.iconst 4, 1) := by decide +kernel
theorem dX6_as_11 : decode cX6_as 11 = .ok (.invokestatic 82, 3) := by decide +kernel
theorem dX6_as_14 : decode cX6_as 14 = .ok (.ifCond .ne 9, 3) := by decide +kernel
theorem dX6_as_17 : decode cX6_as 17 = .ok (.aload_n 0, 1) := by decide +kernel
theorem dX6_as_18 : decode cX6_as 18 = .ok (.iconst (-1), 1) := by decide +kernel
theorem dX6_as_19 : decode cX6_as 19 = .ok (.invokevirtual 93, 3) := by decide +kernel
theorem dX6_as_22 : decode cX6_as 22 = .ok (.ireturn, 1) := by decide +kernel
theorem dX6_as_23 : decode cX6_as 23 = .ok (.aload_n 0, 1) := by decide +kernel
theorem dX6_as_24 : decode cX6_as 24 = .ok (.getfield 13, 3) := by decide +kernel
theorem dX6_as_27 : decode cX6_as 27 = .ok (.iload_n 1, 1) := by decide +kernel
theorem dX6_as_28 : decode cX6_as 28 = .ok (.iaload, 1) := by decide +kernel
theorem dX6_as_29 : decode cX6_as 29 = .ok (.istore_n 3, 1) := by decide +kernel
theorem dX6_as_30 : decode cX6_as 30 = .ok (.iload_n 3, 1) := by decide +kernel
theorem dX6_as_31 : decode cX6_as 31 = .ok (.ifCond .lt 18, 3) := by decide +kernel
theorem dX6_as_34 : decode cX6_as 34 = .ok (.iload_n 3, 1) := by decide +kernel
theorem dX6_as_35 : decode cX6_as 35 = .ok (.iload_n 2, 1) := by decide +kernel
theorem dX6_as_36 : decode cX6_as 36 = .ok (.if_icmp .ne 5, 3) := by decide +kernel
theorem dX6_as_39 : decode cX6_as 39 = .ok (.iload_n 1, 1) := by decide +kernel
theorem dX6_as_40 : decode cX6_as 40 = .ok (.ireturn, 1) := by decide +kernel
theorem dX6_as_41 : decode cX6_as 41 = .ok (.iload_n 3, 1) := by decide +kernel
theorem dX6_as_42 : decode cX6_as 42 = .ok (.invokestatic 114, 3) := by decide +kernel
theorem dX6_as_45 : decode cX6_as 45 = .ok (.istore_n 3, 1) := by decide +kernel
theorem dX6_as_46 : decode cX6_as 46 = .ok (.goto (-16), 3) := by decide +kernel
theorem dX6_as_49 : decode cX6_as 49 = .ok (.aload_n 0, 1) := by decide +kernel
theorem dX6_as_50 : decode cX6_as 50 = .ok (.bipush (-4), 2) := by decide +kernel
theorem dX6_as_52 : decode cX6_as 52 = .ok (.invokevirtual 93, 3) := by decide +kernel
theorem dX6_as_55 : decode cX6_as 55 = .ok (.ireturn, 1) := by decide +kernel
theorem dX6_roundOf_0 : decode cX6_roundOf 0 = .ok (.iconst 0, 1) := by decide +kernel
theorem dX6_roundOf_1 : decode cX6_roundOf 1 = .ok (.istore_n 2, 1) := by decide +kernel
theorem dX6_roundOf_2 : decode cX6_roundOf 2 = .ok (.iconst 0, 1) := by decide +kernel
theorem dX6_roundOf_3 : decode cX6_roundOf 3 = .ok (.istore_n 3, 1) := by decide +kernel
theorem dX6_roundOf_4 : decode cX6_roundOf 4 = .ok (.iload_n 3, 1) := by decide +kernel
theorem dX6_roundOf_5 : decode cX6_roundOf 5 = .ok (.iload_n 1, 1) := by decide +kernel
theorem dX6_roundOf_6 : decode cX6_roundOf 6 = .ok (.if_icmp .gt 130, 3) := by decide +kernel
theorem dX6_roundOf_9 : decode cX6_roundOf 9 = .ok (.iconst 0, 1) := by decide +kernel
theorem dX6_roundOf_10 : decode cX6_roundOf 10 = .ok (.istore_n 2, 1) := by decide +kernel
theorem dX6_roundOf_11 : decode cX6_roundOf 11 = .ok (.iconst 0, 1) := by decide +kernel
theorem dX6_roundOf_12 : decode cX6_roundOf 12 = .ok (.istore 4, 2) := by decide +kernel
theorem dX6_roundOf_14 : decode cX6_roundOf 14 = .ok (.iload 4, 2) := by decide +kernel
theorem dX6_roundOf_16 : decode cX6_roundOf 16 = .ok (.iload_n 3, 1) := by decide +kernel
theorem dX6_roundOf_17 : decode cX6_roundOf 17 = .ok (.if_icmp .ge 104, 3) := by decide +kernel
theorem dX6_roundOf_20 : decode cX6_roundOf 20 = .ok (.aload_n 0, 1) := by decide +kernel
theorem dX6_roundOf_21 : decode cX6_roundOf 21 = .ok (.getfield 17, 3) := by decide +kernel
theorem dX6_roundOf_24 : decode cX6_roundOf 24 = .ok (.iload 4, 2) := by decide +kernel
theorem dX6_roundOf_26 : decode cX6_roundOf 26 = .ok (.iaload, 1) := by decide +kernel
theorem dX6_roundOf_27 : decode cX6_roundOf 27 = .ok (.aload_n 0, 1) := by decide +kernel
theorem dX6_roundOf_28 : decode cX6_roundOf 28 = .ok (.getfield 17, 3) := by decide +kernel
theorem dX6_roundOf_31 : decode cX6_roundOf 31 = .ok (.iload_n 3, 1) := by decide +kernel
theorem dX6_roundOf_32 : decode cX6_roundOf 32 = .ok (.iaload, 1) := by decide +kernel
theorem dX6_roundOf_33 : decode cX6_roundOf 33 = .ok (.if_icmp .eq 51, 3) := by decide +kernel
theorem dX6_roundOf_36 : decode cX6_roundOf 36 = .ok (.aload_n 0, 1) := by decide +kernel
theorem dX6_roundOf_37 : decode cX6_roundOf 37 = .ok (.getfield 17, 3) := by decide +kernel
theorem dX6_roundOf_40 : decode cX6_roundOf 40 = .ok (.iload 4, 2) := by decide +kernel
theorem dX6_roundOf_42 : decode cX6_roundOf 42 = .ok (.iaload, 1) := by decide +kernel
theorem dX6_roundOf_43 : decode cX6_roundOf 43 = .ok (.aload_n 0, 1) := by decide +kernel
theorem dX6_roundOf_44 : decode cX6_roundOf 44 = .ok (.getfield 20, 3) := by decide +kernel
theorem dX6_roundOf_47 : decode cX6_roundOf 47 = .ok (.iload_n 3, 1) := by decide +kernel
theorem dX6_roundOf_48 : decode cX6_roundOf 48 = .ok (.iaload, 1) := by decide +kernel
theorem dX6_roundOf_49 : decode cX6_roundOf 49 = .ok (.if_icmp .eq 35, 3) := by decide +kernel
theorem dX6_roundOf_52 : decode cX6_roundOf 52 = .ok (.aload_n 0, 1) := by decide +kernel
theorem dX6_roundOf_53 : decode cX6_roundOf 53 = .ok (.getfield 20, 3) := by decide +kernel
theorem dX6_roundOf_56 : decode cX6_roundOf 56 = .ok (.iload 4, 2) := by decide +kernel
theorem dX6_roundOf_58 : decode cX6_roundOf 58 = .ok (.iaload, 1) := by decide +kernel
theorem dX6_roundOf_59 : decode cX6_roundOf 59 = .ok (.aload_n 0, 1) := by decide +kernel
theorem dX6_roundOf_60 : decode cX6_roundOf 60 = .ok (.getfield 17, 3) := by decide +kernel
theorem dX6_roundOf_63 : decode cX6_roundOf 63 = .ok (.iload_n 3, 1) := by decide +kernel
theorem dX6_roundOf_64 : decode cX6_roundOf 64 = .ok (.iaload, 1) := by decide +kernel
theorem dX6_roundOf_65 : decode cX6_roundOf 65 = .ok (.if_icmp .eq 19, 3) := by decide +kernel
theorem dX6_roundOf_68 : decode cX6_roundOf 68 = .ok (.aload_n 0, 1) := by decide +kernel
theorem dX6_roundOf_69 : decode cX6_roundOf 69 = .ok (.getfield 20, 3) := by decide +kernel
theorem dX6_roundOf_72 : decode cX6_roundOf 72 = .ok (.iload 4, 2) := by decide +kernel
theorem dX6_roundOf_74 : decode cX6_roundOf 74 = .ok (.iaload, 1) := by decide +kernel
theorem dX6_roundOf_75 : decode cX6_roundOf 75 = .ok (.aload_n 0, 1) := by decide +kernel
theorem dX6_roundOf_76 : decode cX6_roundOf 76 = .ok (.getfield 20, 3) := by decide +kernel
theorem dX6_roundOf_79 : decode cX6_roundOf 79 = .ok (.iload_n 3, 1) := by decide +kernel
theorem dX6_roundOf_80 : decode cX6_roundOf 80 = .ok (.iaload, 1) := by decide +kernel
theorem dX6_roundOf_81 : decode cX6_roundOf 81 = .ok (.if_icmp .ne 7, 3) := by decide +kernel
theorem dX6_roundOf_84 : decode cX6_roundOf 84 = .ok (.iconst 1, 1) := by decide +kernel
theorem dX6_roundOf_85 : decode cX6_roundOf 85 = .ok (.goto 4, 3) := by decide +kernel
theorem dX6_roundOf_88 : decode cX6_roundOf 88 = .ok (.iconst 0, 1) := by decide +kernel
theorem dX6_roundOf_89 : decode cX6_roundOf 89 = .ok (.istore 5, 2) := by decide +kernel
theorem dX6_roundOf_91 : decode cX6_roundOf 91 = .ok (.iload 5, 2) := by decide +kernel
theorem dX6_roundOf_93 : decode cX6_roundOf 93 = .ok (.ifCond .eq 22, 3) := by decide +kernel
theorem dX6_roundOf_96 : decode cX6_roundOf 96 = .ok (.aload_n 0, 1) := by decide +kernel
theorem dX6_roundOf_97 : decode cX6_roundOf 97 = .ok (.getfield 58, 3) := by decide +kernel
theorem dX6_roundOf_100 : decode cX6_roundOf 100 = .ok (.iload 4, 2) := by decide +kernel
theorem dX6_roundOf_102 : decode cX6_roundOf 102 = .ok (.iaload, 1) := by decide +kernel
theorem dX6_roundOf_103 : decode cX6_roundOf 103 = .ok (.iload_n 2, 1) := by decide +kernel
theorem dX6_roundOf_104 : decode cX6_roundOf 104 = .ok (.if_icmp .le 11, 3) := by decide +kernel
theorem dX6_roundOf_107 : decode cX6_roundOf 107 = .ok (.aload_n 0, 1) := by decide +kernel
theorem dX6_roundOf_108 : decode cX6_roundOf 108 = .ok (.getfield 58, 3) := by decide +kernel
theorem dX6_roundOf_111 : decode cX6_roundOf 111 = .ok (.iload 4, 2) := by decide +kernel
theorem dX6_roundOf_113 : decode cX6_roundOf 113 = .ok (.iaload, 1) := by decide +kernel
theorem dX6_roundOf_114 : decode cX6_roundOf 114 = .ok (.istore_n 2, 1) := by decide +kernel
theorem dX6_roundOf_115 : decode cX6_roundOf 115 = .ok (.iinc 4 1, 3) := by decide +kernel
theorem dX6_roundOf_118 : decode cX6_roundOf 118 = .ok (.goto (-104), 3) := by decide +kernel
theorem dX6_roundOf_121 : decode cX6_roundOf 121 = .ok (.aload_n 0, 1) := by decide +kernel
theorem dX6_roundOf_122 : decode cX6_roundOf 122 = .ok (.getfield 58, 3) := by decide +kernel
theorem dX6_roundOf_125 : decode cX6_roundOf 125 = .ok (.iload_n 3, 1) := by decide +kernel
theorem dX6_roundOf_126 : decode cX6_roundOf 126 = .ok (.iload_n 2, 1) := by decide +kernel
theorem dX6_roundOf_127 : decode cX6_roundOf 127 = .ok (.iconst 1, 1) := by decide +kernel
theorem dX6_roundOf_128 : decode cX6_roundOf 128 = .ok (.iadd, 1) := by decide +kernel
theorem dX6_roundOf_129 : decode cX6_roundOf 129 = .ok (.iastore, 1) := by decide +kernel
theorem dX6_roundOf_130 : decode cX6_roundOf 130 = .ok (.iinc 3 1, 3) := by decide +kernel
theorem dX6_roundOf_133 : decode cX6_roundOf 133 = .ok (.goto (-129), 3) := by decide +kernel
theorem dX6_roundOf_136 : decode cX6_roundOf 136 = .ok (.iload_n 2, 1) := by decide +kernel
theorem dX6_roundOf_137 : decode cX6_roundOf 137 = .ok (.iconst 1, 1) := by decide +kernel
theorem dX6_roundOf_138 : decode cX6_roundOf 138 = .ok (.iadd, 1) := by decide +kernel
theorem dX6_roundOf_139 : decode cX6_roundOf 139 = .ok (.ireturn, 1) := by decide +kernel
set_option maxRecDepth 20000 in
theorem ggX6_of_X6_isComparer : GoodIn wsX6_of wsX6_isComparer := goodIn_r _ [9, 10, 11, 12, 8, 13, 24, 25, 26, 27, 28, 29, 30, 31, 32, 33, 34, 35, 36, 37, 38, 39, 40, 41, 42, 43, 44, 45, 46, 47, 48] (by decide +kernel) (by decide +kernel)
set_option maxRecDepth 20000 in
theorem gX6_of_X6_isComparer : GoodIn wsX6_of (wsV RX6 111 RX6 yX6_isComparer wsX6_isComparer) := goodIn_app (goodIn_of _ (by decide +kernel)) ggX6_of_X6_isComparer
set_option maxRecDepth 20000 in
theorem ggX6_of_X6_in : GoodIn wsX6_of wsX6_in := goodIn_r _ [13] (by decide +kernel) (by decide +kernel)
set_option maxRecDepth 20000 in
theorem gX6_of_X6_in : GoodIn wsX6_of (va_wsS RX6 82 yX6_in wsX6_in) := goodIn_app (goodIn_of _ (by decide +kernel)) ggX6_of_X6_in
set_option maxRecDepth 20000 in
theorem ggX6_of_X6_found : GoodIn wsX6_of wsX6_found := goodIn_r _ [17, 18, 24, 25, 26, 27, 28, 29, 30, 31, 32, 33, 34, 35, 36, 37, 38, 39, 40, 41, 42, 43, 44, 45, 46, 47, 48] (by decide +kernel) (by decide +kernel)
set_option maxRecDepth 20000 in
theorem gX6_of_X6_found : GoodIn wsX6_of (wsV RX6 93 RX6 yX6_found wsX6_found) := goodIn_app (goodIn_of _ (by decide +kernel)) ggX6_of_X6_found
set_option maxRecDepth 20000 in
theorem ggX6_of_X6_roundOf : GoodIn wsX6_of wsX6_roundOf := goodIn_r _ [22, 2, 3, 23, 24, 25, 26, 27, 28, 29, 30, 31, 32, 33, 34, 35, 36, 37, 38, 39, 40, 41, 42, 43, 44, 45, 46, 47, 48] (by decide +kernel) (by decide +kernel)
set_option maxRecDepth 20000 in
theorem gX6_of_X6_roundOf : GoodIn wsX6_of (wsV RX6 117 RX6 yX6_roundOf wsX6_roundOf) := goodIn_app (goodIn_of _ (by decide +kernel)) ggX6_of_X6_roundOf
theorem dX6_of_0 : decode cX6_of 0 = .ok (.aload_n 0, 1) := by decide +kernel
theorem dX6_of_1 : decode cX6_of 1 = .ok (.iload_n 1, 1) := by decide +kernel
theorem dX6_of_2 : decode cX6_of 2 = .ok (.invokevirtual 111, 3) := by decide +kernel
theorem dX6_of_5 : decode cX6_of 5 = .ok (.ifCond .eq 12, 3) := by decide +kernel
theorem dX6_of_8 : decode cX6_of 8 = .ok (.iload_n 2, 1) := by decide +kernel
theorem dX6_of_9 : decode cX6_of 9 = .ok (.iconst 0, 1) := by decide +kernel
theorem dX6_of_10 : decode cX6_of 10 = .ok (.iconst 4, 1) := by decide +kernel
theorem dX6_of_11 : decode cX6_of 11 = .ok (.invokestatic 82, 3) := by decide +kernel
theorem dX6_of_14 : decode cX6_of 14 = .ok (.ifCond .ne 9, 3) := by decide +kernel
theorem dX6_of_17 : decode cX6_of 17 = .ok (.aload_n 0, 1) := by decide +kernel
theorem dX6_of_18 : decode cX6_of 18 = .ok (.iconst (-1), 1) := by decide +kernel
theorem dX6_of_19 : decode cX6_of 19 = .ok (.invokevirtual 93, 3) := by decide +kernel
theorem dX6_of_22 : decode cX6_of 22 = .ok (.ireturn, 1) := by decide +kernel
theorem dX6_of_23 : decode cX6_of 23 = .ok (.iload_n 2, 1) := by decide +kernel
theorem dX6_of_24 : decode cX6_of 24 = .ok (.tableswitch 59 0 3 #[32, 39, 46, 53], 32) := by decide +kernel
theorem dX6_of_56 : decode cX6_of 56 = .ok (.aload_n 0, 1) := by decide +kernel
theorem dX6_of_57 : decode cX6_of 57 = .ok (.getfield 13, 3) := by decide +kernel
theorem dX6_of_60 : decode cX6_of 60 = .ok (.iload_n 1, 1) := by decide +kernel
theorem dX6_of_61 : decode cX6_of 61 = .ok (.iaload, 1) := by decide +kernel
theorem dX6_of_62 : decode cX6_of 62 = .ok (.ireturn, 1) := by decide +kernel
theorem dX6_of_63 : decode cX6_of 63 = .ok (.aload_n 0, 1) := by decide +kernel
theorem dX6_of_64 : decode cX6_of 64 = .ok (.getfield 17, 3) := by decide +kernel
theorem dX6_of_67 : decode cX6_of 67 = .ok (.iload_n 1, 1) := by decide +kernel
theorem dX6_of_68 : decode cX6_of 68 = .ok (.iaload, 1) := by decide +kernel
theorem dX6_of_69 : decode cX6_of 69 = .ok (.ireturn, 1) := by decide +kernel
theorem dX6_of_70 : decode cX6_of 70 = .ok (.aload_n 0, 1) := by decide +kernel
theorem dX6_of_71 : decode cX6_of 71 = .ok (.getfield 20, 3) := by decide +kernel
theorem dX6_of_74 : decode cX6_of 74 = .ok (.iload_n 1, 1) := by decide +kernel
theorem dX6_of_75 : decode cX6_of 75 = .ok (.iaload, 1) := by decide +kernel
theorem dX6_of_76 : decode cX6_of 76 = .ok (.ireturn, 1) := by decide +kernel
theorem dX6_of_77 : decode cX6_of 77 = .ok (.aload_n 0, 1) := by decide +kernel
theorem dX6_of_78 : decode cX6_of 78 = .ok (.iload_n 1, 1) := by decide +kernel
theorem dX6_of_79 : decode cX6_of 79 = .ok (.invokevirtual 117, 3) := by decide +kernel
theorem dX6_of_82 : decode cX6_of 82 = .ok (.ireturn, 1) := by decide +kernel
theorem dX6_of_83 : decode cX6_of 83 = .ok (.aload_n 0, 1) := by decide +kernel
theorem dX6_of_84 : decode cX6_of 84 = .ok (.getfield 13, 3) := by decide +kernel
theorem dX6_of_87 : decode cX6_of 87 = .ok (.iload_n 1, 1) := by decide +kernel
theorem dX6_of_88 : decode cX6_of 88 = .ok (.iaload, 1) := by decide +kernel
theorem dX6_of_89 : decode cX6_of 89 = .ok (.iconst 4, 1) := by decide +kernel
theorem dX6_of_90 : decode cX6_of 90 = .ok (.if_icmp .ne 16, 3) := by decide +kernel
theorem dX6_of_93 : decode cX6_of 93 = .ok (.aload_n 0, 1) := by decide +kernel
theorem dX6_of_94 : decode cX6_of 94 = .ok (.getfield 23, 3) := by decide +kernel
theorem dX6_of_97 : decode cX6_of 97 = .ok (.iload_n 1, 1) := by decide +kernel
theorem dX6_of_98 : decode cX6_of 98 = .ok (.baload, 1) := by decide +kernel
theorem dX6_of_99 : decode cX6_of 99 = .ok (.ifCond .eq 7, 3) := by decide +kernel
theorem dX6_of_102 : decode cX6_of 102 = .ok (.iconst 1, 1) := by decide +kernel
theorem dX6_of_103 : decode cX6_of 103 = .ok (.goto 4, 3) := by decide +kernel
theorem dX6_of_106 : decode cX6_of 106 = .ok (.iconst 0, 1) := by decide +kernel
theorem dX6_of_107 : decode cX6_of 107 = .ok (.ireturn, 1) := by decide +kernel
set_option maxRecDepth 20000 in
theorem ggX6_rounds_X6_roundOf : GoodIn wsX6_rounds wsX6_roundOf := goodIn_r _ [6, 7, 8, 9, 10, 11, 12, 13, 14, 15, 16, 17, 18, 19, 20, 21, 22, 23, 24, 25, 26, 27, 28, 29, 30, 31, 32, 33, 34] (by decide +kernel) (by decide +kernel)
set_option maxRecDepth 20000 in
theorem gX6_rounds_X6_roundOf : GoodIn wsX6_rounds (wsV RX6 117 RX6 yX6_roundOf wsX6_roundOf) := goodIn_app (goodIn_of _ (by decide +kernel)) ggX6_rounds_X6_roundOf
theorem dX6_rounds_0 : decode cX6_rounds 0 = .ok (.iconst 0, 1) := by decide +kernel
theorem dX6_rounds_1 : decode cX6_rounds 1 = .ok (.istore_n 1, 1) := by decide +kernel
theorem dX6_rounds_2 : decode cX6_rounds 2 = .ok (.iconst 0, 1) := by decide +kernel
theorem dX6_rounds_3 : decode cX6_rounds 3 = .ok (.istore_n 2, 1) := by decide +kernel
theorem dX6_rounds_4 : decode cX6_rounds 4 = .ok (.iload_n 2, 1) := by decide +kernel
theorem dX6_rounds_5 : decode cX6_rounds 5 = .ok (.aload_n 0, 1) := by decide +kernel
theorem dX6_rounds_6 : decode cX6_rounds 6 = .ok (.getfield 79, 3) := by decide +kernel
theorem dX6_rounds_9 : decode cX6_rounds 9 = .ok (.if_icmp .ge 26, 3) := by decide +kernel
theorem dX6_rounds_12 : decode cX6_rounds 12 = .ok (.aload_n 0, 1) := by decide +kernel
theorem dX6_rounds_13 : decode cX6_rounds 13 = .ok (.iload_n 2, 1) := by decide +kernel
theorem dX6_rounds_14 : decode cX6_rounds 14 = .ok (.invokevirtual 117, 3) := by decide +kernel
theorem dX6_rounds_17 : decode cX6_rounds 17 = .ok (.istore_n 3, 1) := by decide +kernel
theorem dX6_rounds_18 : decode cX6_rounds 18 = .ok (.iload_n 3, 1) := by decide +kernel
theorem dX6_rounds_19 : decode cX6_rounds 19 = .ok (.iload_n 1, 1) := by decide +kernel
theorem dX6_rounds_20 : decode cX6_rounds 20 = .ok (.if_icmp .le 7, 3) := by decide +kernel
theorem dX6_rounds_23 : decode cX6_rounds 23 = .ok (.iload_n 3, 1) := by decide +kernel
theorem dX6_rounds_24 : decode cX6_rounds 24 = .ok (.goto 4, 3) := by decide +kernel
theorem dX6_rounds_27 : decode cX6_rounds 27 = .ok (.iload_n 1, 1) := by decide +kernel
theorem dX6_rounds_28 : decode cX6_rounds 28 = .ok (.istore_n 1, 1) := by decide +kernel
theorem dX6_rounds_29 : decode cX6_rounds 29 = .ok (.iinc 2 1, 3) := by decide +kernel
theorem dX6_rounds_32 : decode cX6_rounds 32 = .ok (.goto (-28), 3) := by decide +kernel
theorem dX6_rounds_35 : decode cX6_rounds 35 = .ok (.iload_n 1, 1) := by decide +kernel
theorem dX6_rounds_36 : decode cX6_rounds 36 = .ok (.ireturn, 1) := by decide +kernel
set_option maxRecDepth 20000 in
theorem ggX6_isCrate_X6_in : GoodIn wsX6_isCrate wsX6_in := goodIn_r _ [4] (by decide +kernel) (by decide +kernel)
set_option maxRecDepth 20000 in
theorem gX6_isCrate_X6_in : GoodIn wsX6_isCrate (va_wsS RX6 82 yX6_in wsX6_in) := goodIn_app (goodIn_of _ (by decide +kernel)) ggX6_isCrate_X6_in
theorem dX6_isCrate_0 : decode cX6_isCrate 0 = .ok (.iload_n 0, 1) := by decide +kernel
theorem dX6_isCrate_1 : decode cX6_isCrate 1 = .ok (.iconst 0, 1) := by decide +kernel
theorem dX6_isCrate_2 : decode cX6_isCrate 2 = .ok (.iconst 5, 1) := by decide +kernel
theorem dX6_isCrate_3 : decode cX6_isCrate 3 = .ok (.invokestatic 82, 3) := by decide +kernel
theorem dX6_isCrate_6 : decode cX6_isCrate 6 = .ok (.ireturn, 1) := by decide +kernel
set_option maxRecDepth 20000 in
theorem ggX6_crate_X6_isCrate : GoodIn wsX6_crate wsX6_isCrate := goodIn_r _ [7, 8, 9, 6, 10] (by decide +kernel) (by decide +kernel)
set_option maxRecDepth 20000 in
theorem gX6_crate_X6_isCrate : GoodIn wsX6_crate (va_wsS RX6 120 yX6_isCrate wsX6_isCrate) := goodIn_app (goodIn_of _ (by decide +kernel)) ggX6_crate_X6_isCrate
set_option maxRecDepth 20000 in
theorem ggX6_crate_X6_in : GoodIn wsX6_crate wsX6_in := goodIn_r _ [10] (by decide +kernel) (by decide +kernel)
set_option maxRecDepth 20000 in
theorem gX6_crate_X6_in : GoodIn wsX6_crate (va_wsS RX6 82 yX6_in wsX6_in) := goodIn_app (goodIn_of _ (by decide +kernel)) ggX6_crate_X6_in
set_option maxRecDepth 20000 in
theorem ggX6_crate_X6_found : GoodIn wsX6_crate wsX6_found := goodIn_r _ [14, 15, 16, 17, 18, 19, 20, 21, 22, 23, 24, 25, 26, 27, 28, 29, 30, 31, 32, 33, 34, 35, 36, 37, 38, 39, 40] (by decide +kernel) (by decide +kernel)
set_option maxRecDepth 20000 in
theorem gX6_crate_X6_found : GoodIn wsX6_crate (wsV RX6 93 RX6 yX6_found wsX6_found) := goodIn_app (goodIn_of _ (by decide +kernel)) ggX6_crate_X6_found
theorem dX6_crate_0 : decode cX6_crate 0 = .ok (.iload_n 1, 1) := by decide +kernel
theorem dX6_crate_1 : decode cX6_crate 1 = .ok (.invokestatic 120, 3) := by decide +kernel
theorem dX6_crate_4 : decode cX6_crate 4 = .ok (.ifCond .eq 13, 3) := by decide +kernel
theorem dX6_crate_7 : decode cX6_crate 7 = .ok (.iload_n 2, 1) := by decide +kernel
theorem dX6_crate_8 : decode cX6_crate 8 = .ok (.iconst 0, 1) := by decide +kernel
theorem dX6_crate_9 : decode cX6_crate 9 = .ok (.bipush 7, 2) := by decide +kernel
theorem dX6_crate_11 : decode cX6_crate 11 = .ok (.invokestatic 82, 3) := by decide +kernel
theorem dX6_crate_14 : decode cX6_crate 14 = .ok (.ifCond .ne 9, 3) := by decide +kernel
theorem dX6_crate_17 : decode cX6_crate 17 = .ok (.aload_n 0, 1) := by decide +kernel
theorem dX6_crate_18 : decode cX6_crate 18 = .ok (.iconst (-1), 1) := by decide +kernel
theorem dX6_crate_19 : decode cX6_crate 19 = .ok (.invokevirtual 93, 3) := by decide +kernel
theorem dX6_crate_22 : decode cX6_crate 22 = .ok (.ireturn, 1) := by decide +kernel
theorem dX6_crate_23 : decode cX6_crate 23 = .ok (.iload_n 3, 1) := by decide +kernel
theorem dX6_crate_24 : decode cX6_crate 24 = .ok (.ifCond .ge 10, 3) := by decide +kernel
theorem dX6_crate_27 : decode cX6_crate 27 = .ok (.aload_n 0, 1) := by decide +kernel
theorem dX6_crate_28 : decode cX6_crate 28 = .ok (.bipush (-3), 2) := by decide +kernel
theorem dX6_crate_30 : decode cX6_crate 30 = .ok (.invokevirtual 93, 3) := by decide +kernel
theorem dX6_crate_33 : decode cX6_crate 33 = .ok (.ireturn, 1) := by decide +kernel
theorem dX6_crate_34 : decode cX6_crate 34 = .ok (.iload_n 3, 1) := by decide +kernel
theorem dX6_crate_35 : decode cX6_crate 35 = .ok (.bipush 12, 2) := by decide +kernel
theorem dX6_crate_37 : decode cX6_crate 37 = .ok (.if_icmp .le 9, 3) := by decide +kernel
theorem dX6_crate_40 : decode cX6_crate 40 = .ok (.aload_n 0, 1) := by decide +kernel
theorem dX6_crate_41 : decode cX6_crate 41 = .ok (.iconst (-1), 1) := by decide +kernel
theorem dX6_crate_42 : decode cX6_crate 42 = .ok (.invokevirtual 93, 3) := by decide +kernel
theorem dX6_crate_45 : decode cX6_crate 45 = .ok (.ireturn, 1) := by decide +kernel
theorem dX6_crate_46 : decode cX6_crate 46 = .ok (.aload_n 0, 1) := by decide +kernel
theorem dX6_crate_47 : decode cX6_crate 47 = .ok (.getfield 45, 3) := by decide +kernel
theorem dX6_crate_50 : decode cX6_crate 50 = .ok (.iload_n 1, 1) := by decide +kernel
theorem dX6_crate_51 : decode cX6_crate 51 = .ok (.iload_n 2, 1) := by decide +kernel
theorem dX6_crate_52 : decode cX6_crate 52 = .ok (.iastore, 1) := by decide +kernel
theorem dX6_crate_53 : decode cX6_crate 53 = .ok (.aload_n 0, 1) := by decide +kernel
theorem dX6_crate_54 : decode cX6_crate 54 = .ok (.getfield 48, 3) := by decide +kernel
theorem dX6_crate_57 : decode cX6_crate 57 = .ok (.iload_n 1, 1) := by decide +kernel
theorem dX6_crate_58 : decode cX6_crate 58 = .ok (.iload_n 2, 1) := by decide +kernel
theorem dX6_crate_59 : decode cX6_crate 59 = .ok (.ifCond .ne 7, 3) := by decide +kernel
theorem dX6_crate_62 : decode cX6_crate 62 = .ok (.iconst 0, 1) := by decide +kernel
theorem dX6_crate_63 : decode cX6_crate 63 = .ok (.goto 4, 3) := by decide +kernel
theorem dX6_crate_66 : decode cX6_crate 66 = .ok (.iload_n 3, 1) := by decide +kernel
theorem dX6_crate_67 : decode cX6_crate 67 = .ok (.iastore, 1) := by decide +kernel
theorem dX6_crate_68 : decode cX6_crate 68 = .ok (.iconst 0, 1) := by decide +kernel
theorem dX6_crate_69 : decode cX6_crate 69 = .ok (.istore 4, 2) := by decide +kernel
theorem dX6_crate_71 : decode cX6_crate 71 = .ok (.iload 4, 2) := by decide +kernel
theorem dX6_crate_73 : decode cX6_crate 73 = .ok (.bipush 12, 2) := by decide +kernel
theorem dX6_crate_75 : decode cX6_crate 75 = .ok (.if_icmp .ge 22, 3) := by decide +kernel
theorem dX6_crate_78 : decode cX6_crate 78 = .ok (.aload_n 0, 1) := by decide +kernel
theorem dX6_crate_79 : decode cX6_crate 79 = .ok (.getfield 51, 3) := by decide +kernel
theorem dX6_crate_82 : decode cX6_crate 82 = .ok (.bipush 12, 2) := by decide +kernel
theorem dX6_crate_84 : decode cX6_crate 84 = .ok (.iload_n 1, 1) := by decide +kernel
theorem dX6_crate_85 : decode cX6_crate 85 = .ok (.imul, 1) := by decide +kernel
theorem dX6_crate_86 : decode cX6_crate 86 = .ok (.iload 4, 2) := by decide +kernel
theorem dX6_crate_88 : decode cX6_crate 88 = .ok (.iadd, 1) := by decide +kernel
theorem dX6_crate_89 : decode cX6_crate 89 = .ok (.lconst 0, 1) := by decide +kernel
theorem dX6_crate_90 : decode cX6_crate 90 = .ok (.lastore, 1) := by decide +kernel
theorem dX6_crate_91 : decode cX6_crate 91 = .ok (.iinc 4 1, 3) := by decide +kernel
theorem dX6_crate_94 : decode cX6_crate 94 = .ok (.goto (-23), 3) := by decide +kernel
theorem dX6_crate_97 : decode cX6_crate 97 = .ok (.aload_n 0, 1) := by decide +kernel
theorem dX6_crate_98 : decode cX6_crate 98 = .ok (.getfield 48, 3) := by decide +kernel
theorem dX6_crate_101 : decode cX6_crate 101 = .ok (.iload_n 1, 1) := by decide +kernel
theorem dX6_crate_102 : decode cX6_crate 102 = .ok (.iaload, 1) := by decide +kernel
theorem dX6_crate_103 : decode cX6_crate 103 = .ok (.ireturn, 1) := by decide +kernel
set_option maxRecDepth 20000 in
theorem ggX6_lacks_X6_isCrate : GoodIn wsX6_lacks wsX6_isCrate := goodIn_r _ [6, 7, 8, 5, 9] (by decide +kernel) (by decide +kernel)
set_option maxRecDepth 20000 in
theorem gX6_lacks_X6_isCrate : GoodIn wsX6_lacks (va_wsS RX6 120 yX6_isCrate wsX6_isCrate) := goodIn_app (goodIn_of _ (by decide +kernel)) ggX6_lacks_X6_isCrate
set_option maxRecDepth 20000 in
theorem ggX6_lacks_X6_in : GoodIn wsX6_lacks wsX6_in := goodIn_r _ [9] (by decide +kernel) (by decide +kernel)
set_option maxRecDepth 20000 in
theorem gX6_lacks_X6_in : GoodIn wsX6_lacks (va_wsS RX6 82 yX6_in wsX6_in) := goodIn_app (goodIn_of _ (by decide +kernel)) ggX6_lacks_X6_in
theorem dX6_lacks_0 : decode cX6_lacks 0 = .ok (.iload_n 1, 1) := by decide +kernel
theorem dX6_lacks_1 : decode cX6_lacks 1 = .ok (.invokestatic 120, 3) := by decide +kernel
theorem dX6_lacks_4 : decode cX6_lacks 4 = .ok (.ifCond .ne 7, 3) := by decide +kernel
theorem dX6_lacks_7 : decode cX6_lacks 7 = .ok (.iconst (-1), 1) := by decide +kernel
theorem dX6_lacks_8 : decode cX6_lacks 8 = .ok (.goto 38, 3) := by decide +kernel
theorem dX6_lacks_11 : decode cX6_lacks 11 = .ok (.aload_n 0, 1) := by decide +kernel
theorem dX6_lacks_12 : decode cX6_lacks 12 = .ok (.getfield 45, 3) := by decide +kernel
theorem dX6_lacks_15 : decode cX6_lacks 15 = .ok (.iload_n 1, 1) := by decide +kernel
theorem dX6_lacks_16 : decode cX6_lacks 16 = .ok (.iaload, 1) := by decide +kernel
theorem dX6_lacks_17 : decode cX6_lacks 17 = .ok (.ifCond .ne 8, 3) := by decide +kernel
theorem dX6_lacks_20 : decode cX6_lacks 20 = .ok (.bipush (-2), 2) := by decide +kernel
theorem dX6_lacks_22 : decode cX6_lacks 22 = .ok (.goto 24, 3) := by decide +kernel
theorem dX6_lacks_25 : decode cX6_lacks 25 = .ok (.iload_n 2, 1) := by decide +kernel
theorem dX6_lacks_26 : decode cX6_lacks 26 = .ok (.iconst 0, 1) := by decide +kernel
theorem dX6_lacks_27 : decode cX6_lacks 27 = .ok (.aload_n 0, 1) := by decide +kernel
theorem dX6_lacks_28 : decode cX6_lacks 28 = .ok (.getfield 48, 3) := by decide +kernel
theorem dX6_lacks_31 : decode cX6_lacks 31 = .ok (.iload_n 1, 1) := by decide +kernel
theorem dX6_lacks_32 : decode cX6_lacks 32 = .ok (.iaload, 1) := by decide +kernel
theorem dX6_lacks_33 : decode cX6_lacks 33 = .ok (.iconst 1, 1) := by decide +kernel
theorem dX6_lacks_34 : decode cX6_lacks 34 = .ok (.isub, 1) := by decide +kernel
theorem dX6_lacks_35 : decode cX6_lacks 35 = .ok (.invokestatic 82, 3) := by decide +kernel
theorem dX6_lacks_38 : decode cX6_lacks 38 = .ok (.ifCond .eq 7, 3) := by decide +kernel
theorem dX6_lacks_41 : decode cX6_lacks 41 = .ok (.iconst 0, 1) := by decide +kernel
theorem dX6_lacks_42 : decode cX6_lacks 42 = .ok (.goto 4, 3) := by decide +kernel
theorem dX6_lacks_45 : decode cX6_lacks 45 = .ok (.iconst (-1), 1) := by decide +kernel
theorem dX6_lacks_46 : decode cX6_lacks 46 = .ok (.ireturn, 1) := by decide +kernel
theorem dX6_narrow_0 : decode cX6_narrow 0 = .ok (.iload_n 0, 1) := by decide +kernel
theorem dX6_narrow_1 : decode cX6_narrow 1 = .ok (.tableswitch 81 1 6 #[39, 44, 50, 55, 59, 61], 39) := by decide +kernel
theorem dX6_narrow_40 : decode cX6_narrow 40 = .ok (.lload_n 1, 1) := by decide +kernel
theorem dX6_narrow_41 : decode cX6_narrow 41 = .ok (.l2i, 1) := by decide +kernel
theorem dX6_narrow_42 : decode cX6_narrow 42 = .ok (.i2b, 1) := by decide +kernel
theorem dX6_narrow_43 : decode cX6_narrow 43 = .ok (.i2l, 1) := by decide +kernel
theorem dX6_narrow_44 : decode cX6_narrow 44 = .ok (.lreturn, 1) := by decide +kernel
theorem dX6_narrow_45 : decode cX6_narrow 45 = .ok (.lload_n 1, 1) := by decide +kernel
theorem dX6_narrow_46 : decode cX6_narrow 46 = .ok (.ldc2_w 123, 3) := by decide +kernel
theorem dX6_narrow_49 : decode cX6_narrow 49 = .ok (.land, 1) := by decide +kernel
theorem dX6_narrow_50 : decode cX6_narrow 50 = .ok (.lreturn, 1) := by decide +kernel
theorem dX6_narrow_51 : decode cX6_narrow 51 = .ok (.lload_n 1, 1) := by decide +kernel
theorem dX6_narrow_52 : decode cX6_narrow 52 = .ok (.l2i, 1) := by decide +kernel
theorem dX6_narrow_53 : decode cX6_narrow 53 = .ok (.i2s, 1) := by decide +kernel
theorem dX6_narrow_54 : decode cX6_narrow 54 = .ok (.i2l, 1) := by decide +kernel
theorem dX6_narrow_55 : decode cX6_narrow 55 = .ok (.lreturn, 1) := by decide +kernel
theorem dX6_narrow_56 : decode cX6_narrow 56 = .ok (.lload_n 1, 1) := by decide +kernel
theorem dX6_narrow_57 : decode cX6_narrow 57 = .ok (.l2i, 1) := by decide +kernel
theorem dX6_narrow_58 : decode cX6_narrow 58 = .ok (.i2l, 1) := by decide +kernel
theorem dX6_narrow_59 : decode cX6_narrow 59 = .ok (.lreturn, 1) := by decide +kernel
theorem dX6_narrow_60 : decode cX6_narrow 60 = .ok (.lload_n 1, 1) := by decide +kernel
theorem dX6_narrow_61 : decode cX6_narrow 61 = .ok (.lreturn, 1) := by decide +kernel
theorem dX6_narrow_62 : decode cX6_narrow 62 = .ok (.lload_n 1, 1) := by decide +kernel
theorem dX6_narrow_63 : decode cX6_narrow 63 = .ok (.l2i, 1) := by decide +kernel
theorem dX6_narrow_64 : decode cX6_narrow 64 = .ok (.ldc 125, 2) := by decide +kernel
theorem dX6_narrow_66 : decode cX6_narrow 66 = .ok (.iand, 1) := by decide +kernel
theorem dX6_narrow_67 : decode cX6_narrow 67 = .ok (.ldc 126, 2) := by decide +kernel
theorem dX6_narrow_69 : decode cX6_narrow 69 = .ok (.if_icmp .le 9, 3) := by decide +kernel
theorem dX6_narrow_72 : decode cX6_narrow 72 = .ok (.ldc2_w 127, 3) := by decide +kernel
theorem dX6_narrow_75 : decode cX6_narrow 75 = .ok (.goto 6, 3) := by decide +kernel
theorem dX6_narrow_78 : decode cX6_narrow 78 = .ok (.lload_n 1, 1) := by decide +kernel
theorem dX6_narrow_79 : decode cX6_narrow 79 = .ok (.l2i, 1) := by decide +kernel
theorem dX6_narrow_80 : decode cX6_narrow 80 = .ok (.i2l, 1) := by decide +kernel
theorem dX6_narrow_81 : decode cX6_narrow 81 = .ok (.lreturn, 1) := by decide +kernel
theorem dX6_narrow_82 : decode cX6_narrow 82 = .ok (.lload_n 1, 1) := by decide +kernel
theorem dX6_narrow_83 : decode cX6_narrow 83 = .ok (.ldc2_w 129, 3) := by decide +kernel
theorem dX6_narrow_86 : decode cX6_narrow 86 = .ok (.land, 1) := by decide +kernel
theorem dX6_narrow_87 : decode cX6_narrow 87 = .ok (.ldc2_w 131, 3) := by decide +kernel
theorem dX6_narrow_90 : decode cX6_narrow 90 = .ok (.lcmp, 1) := by decide +kernel
theorem dX6_narrow_91 : decode cX6_narrow 91 = .ok (.ifCond .le 9, 3) := by decide +kernel
theorem dX6_narrow_94 : decode cX6_narrow 94 = .ok (.ldc2_w 133, 3) := by decide +kernel
theorem dX6_narrow_97 : decode cX6_narrow 97 = .ok (.goto 4, 3) := by decide +kernel
theorem dX6_narrow_100 : decode cX6_narrow 100 = .ok (.lload_n 1, 1) := by decide +kernel
theorem dX6_narrow_101 : decode cX6_narrow 101 = .ok (.lreturn, 1) := by decide +kernel
set_option maxRecDepth 20000 in
theorem ggX6_put_X6_lacks : GoodIn wsX6_put wsX6_lacks := goodIn_r _ [7, 2, 8, 9, 10, 6, 11, 12, 13, 14, 30, 31, 32, 33, 34, 35, 36, 37, 38, 39, 40, 41, 42, 43, 44, 45, 46, 47, 48, 49, 50, 51, 52, 53, 54] (by decide +kernel) (by decide +kernel)
set_option maxRecDepth 20000 in
theorem gX6_put_X6_lacks : GoodIn wsX6_put (wsV RX6 135 RX6 yX6_lacks wsX6_lacks) := goodIn_app (goodIn_of _ (by decide +kernel)) ggX6_put_X6_lacks
set_option maxRecDepth 20000 in
theorem ggX6_put_X6_found : GoodIn wsX6_put wsX6_found := goodIn_r _ [18, 19, 30, 31, 32, 33, 34, 35, 36, 37, 38, 39, 40, 41, 42, 43, 44, 45, 46, 47, 48, 49, 50, 51, 52, 53, 54] (by decide +kernel) (by decide +kernel)
set_option maxRecDepth 20000 in
theorem gX6_put_X6_found : GoodIn wsX6_put (wsV RX6 93 RX6 yX6_found wsX6_found) := goodIn_app (goodIn_of _ (by decide +kernel)) ggX6_put_X6_found
set_option maxRecDepth 20000 in
theorem ggX6_put_X6_narrow : GoodIn wsX6_put wsX6_narrow := goodIn_r _ [22, 23, 24, 25, 26, 27, 28, 29] (by decide +kernel) (by decide +kernel)
set_option maxRecDepth 20000 in
theorem gX6_put_X6_narrow : GoodIn wsX6_put (va_wsS RX6 139 yX6_narrow wsX6_narrow) := goodIn_app (goodIn_of _ (by decide +kernel)) ggX6_put_X6_narrow
theorem dX6_put_0 : decode cX6_put 0 = .ok (.aload_n 0, 1) := by decide +kernel
theorem dX6_put_1 : decode cX6_put 1 = .ok (.iload_n 1, 1) := by decide +kernel
theorem dX6_put_2 : decode cX6_put 2 = .ok (.iload_n 2, 1) := by decide +kernel
theorem dX6_put_3 : decode cX6_put 3 = .ok (.invokevirtual 135, 3) := by decide +kernel
theorem dX6_put_6 : decode cX6_put 6 = .ok (.istore 5, 2) := by decide +kernel
theorem dX6_put_8 : decode cX6_put 8 = .ok (.iload 5, 2) := by decide +kernel
theorem dX6_put_10 : decode cX6_put 10 = .ok (.ifCond .ge 10, 3) := by decide +kernel
theorem dX6_put_13 : decode cX6_put 13 = .ok (.aload_n 0, 1) := by decide +kernel
theorem dX6_put_14 : decode cX6_put 14 = .ok (.iload 5, 2) := by decide +kernel
theorem dX6_put_16 : decode cX6_put 16 = .ok (.invokevirtual 93, 3) := by decide +kernel
theorem dX6_put_19 : decode cX6_put 19 = .ok (.ireturn, 1) := by decide +kernel
theorem dX6_put_20 : decode cX6_put 20 = .ok (.aload_n 0, 1) := by decide +kernel
theorem dX6_put_21 : decode cX6_put 21 = .ok (.getfield 51, 3) := by decide +kernel
theorem dX6_put_24 : decode cX6_put 24 = .ok (.bipush 12, 2) := by decide +kernel
theorem dX6_put_26 : decode cX6_put 26 = .ok (.iload_n 1, 1) := by decide +kernel
theorem dX6_put_27 : decode cX6_put 27 = .ok (.imul, 1) := by decide +kernel
theorem dX6_put_28 : decode cX6_put 28 = .ok (.iload_n 2, 1) := by decide +kernel
theorem dX6_put_29 : decode cX6_put 29 = .ok (.iadd, 1) := by decide +kernel
theorem dX6_put_30 : decode cX6_put 30 = .ok (.aload_n 0, 1) := by decide +kernel
theorem dX6_put_31 : decode cX6_put 31 = .ok (.getfield 45, 3) := by decide +kernel
theorem dX6_put_34 : decode cX6_put 34 = .ok (.iload_n 1, 1) := by decide +kernel
theorem dX6_put_35 : decode cX6_put 35 = .ok (.iaload, 1) := by decide +kernel
theorem dX6_put_36 : decode cX6_put 36 = .ok (.lload_n 3, 1) := by decide +kernel
theorem dX6_put_37 : decode cX6_put 37 = .ok (.invokestatic 139, 3) := by decide +kernel
theorem dX6_put_40 : decode cX6_put 40 = .ok (.lastore, 1) := by decide +kernel
theorem dX6_put_41 : decode cX6_put 41 = .ok (.iconst 0, 1) := by decide +kernel
theorem dX6_put_42 : decode cX6_put 42 = .ok (.ireturn, 1) := by decide +kernel
set_option maxRecDepth 20000 in
theorem ggX6_load_X6_lacks : GoodIn wsX6_load wsX6_lacks := goodIn_r _ [8, 9, 10, 11, 12, 7, 13, 14, 15, 16, 17, 18, 19, 20, 21, 22, 23, 24, 25, 26, 27, 28, 29, 30, 31, 32, 33, 34, 35, 36, 37, 38, 39, 40, 41] (by decide +kernel) (by decide +kernel)
set_option maxRecDepth 20000 in
theorem gX6_load_X6_lacks : GoodIn wsX6_load (wsV RX6 135 RX6 yX6_lacks wsX6_lacks) := goodIn_app (goodIn_of _ (by decide +kernel)) ggX6_load_X6_lacks
theorem dX6_load_0 : decode cX6_load 0 = .ok (.aload_n 0, 1) := by decide +kernel
theorem dX6_load_1 : decode cX6_load 1 = .ok (.iload_n 1, 1) := by decide +kernel
theorem dX6_load_2 : decode cX6_load 2 = .ok (.iload_n 2, 1) := by decide +kernel
theorem dX6_load_3 : decode cX6_load 3 = .ok (.invokevirtual 135, 3) := by decide +kernel
theorem dX6_load_6 : decode cX6_load 6 = .ok (.istore_n 3, 1) := by decide +kernel
theorem dX6_load_7 : decode cX6_load 7 = .ok (.iload_n 3, 1) := by decide +kernel
theorem dX6_load_8 : decode cX6_load 8 = .ok (.ifCond .ge 17, 3) := by decide +kernel
theorem dX6_load_11 : decode cX6_load 11 = .ok (.aload_n 0, 1) := by decide +kernel
theorem dX6_load_12 : decode cX6_load 12 = .ok (.dup, 1) := by decide +kernel
theorem dX6_load_13 : decode cX6_load 13 = .ok (.getfield 76, 3) := by decide +kernel
theorem dX6_load_16 : decode cX6_load 16 = .ok (.iconst 1, 1) := by decide +kernel
theorem dX6_load_17 : decode cX6_load 17 = .ok (.iadd, 1) := by decide +kernel
theorem dX6_load_18 : decode cX6_load 18 = .ok (.putfield 76, 3) := by decide +kernel
theorem dX6_load_21 : decode cX6_load 21 = .ok (.ldc2_w 143, 3) := by decide +kernel
theorem dX6_load_24 : decode cX6_load 24 = .ok (.lreturn, 1) := by decide +kernel
theorem dX6_load_25 : decode cX6_load 25 = .ok (.aload_n 0, 1) := by decide +kernel
theorem dX6_load_26 : decode cX6_load 26 = .ok (.getfield 51, 3) := by decide +kernel
theorem dX6_load_29 : decode cX6_load 29 = .ok (.bipush 12, 2) := by decide +kernel
theorem dX6_load_31 : decode cX6_load 31 = .ok (.iload_n 1, 1) := by decide +kernel
theorem dX6_load_32 : decode cX6_load 32 = .ok (.imul, 1) := by decide +kernel
theorem dX6_load_33 : decode cX6_load 33 = .ok (.iload_n 2, 1) := by decide +kernel
theorem dX6_load_34 : decode cX6_load 34 = .ok (.iadd, 1) := by decide +kernel
theorem dX6_load_35 : decode cX6_load 35 = .ok (.laload, 1) := by decide +kernel
theorem dX6_load_36 : decode cX6_load 36 = .ok (.lreturn, 1) := by decide +kernel
set_option maxRecDepth 20000 in
theorem ggX6_copy_X6_isCrate : GoodIn wsX6_copy wsX6_isCrate := goodIn_r _ [8, 9, 10, 7, 11] (by decide +kernel) (by decide +kernel)
set_option maxRecDepth 20000 in
theorem gX6_copy_X6_isCrate : GoodIn wsX6_copy (va_wsS RX6 120 yX6_isCrate wsX6_isCrate) := goodIn_app (goodIn_of _ (by decide +kernel)) ggX6_copy_X6_isCrate
set_option maxRecDepth 20000 in
theorem ggX6_copy_X6_found : GoodIn wsX6_copy wsX6_found := goodIn_r _ [15, 16, 17, 18, 19, 20, 21, 22, 23, 24, 25, 26, 27, 28, 29, 30, 31, 32, 33, 34, 35, 36, 37, 38, 39, 40, 41] (by decide +kernel) (by decide +kernel)
set_option maxRecDepth 20000 in
theorem gX6_copy_X6_found : GoodIn wsX6_copy (wsV RX6 93 RX6 yX6_found wsX6_found) := goodIn_app (goodIn_of _ (by decide +kernel)) ggX6_copy_X6_found
theorem dX6_copy_0 : decode cX6_copy 0 = .ok (.iload_n 1, 1) := by decide +kernel
theorem dX6_copy_1 : decode cX6_copy 1 = .ok (.invokestatic 120, 3) := by decide +kernel
theorem dX6_copy_4 : decode cX6_copy 4 = .ok (.ifCond .eq 10, 3) := by decide +kernel
theorem dX6_copy_7 : decode cX6_copy 7 = .ok (.iload_n 3, 1) := by decide +kernel
theorem dX6_copy_8 : decode cX6_copy 8 = .ok (.invokestatic 120, 3) := by decide +kernel
theorem dX6_copy_11 : decode cX6_copy 11 = .ok (.ifCond .ne 9, 3) := by decide +kernel
theorem dX6_copy_14 : decode cX6_copy 14 = .ok (.aload_n 0, 1) := by decide +kernel
theorem dX6_copy_15 : decode cX6_copy 15 = .ok (.iconst (-1), 1) := by decide +kernel
theorem dX6_copy_16 : decode cX6_copy 16 = .ok (.invokevirtual 93, 3) := by decide +kernel
theorem dX6_copy_19 : decode cX6_copy 19 = .ok (.ireturn, 1) := by decide +kernel
theorem dX6_copy_20 : decode cX6_copy 20 = .ok (.aload_n 0, 1) := by decide +kernel
theorem dX6_copy_21 : decode cX6_copy 21 = .ok (.getfield 45, 3) := by decide +kernel
theorem dX6_copy_24 : decode cX6_copy 24 = .ok (.iload_n 1, 1) := by decide +kernel
theorem dX6_copy_25 : decode cX6_copy 25 = .ok (.iaload, 1) := by decide +kernel
theorem dX6_copy_26 : decode cX6_copy 26 = .ok (.ifCond .eq 12, 3) := by decide +kernel
theorem dX6_copy_29 : decode cX6_copy 29 = .ok (.aload_n 0, 1) := by decide +kernel
theorem dX6_copy_30 : decode cX6_copy 30 = .ok (.getfield 45, 3) := by decide +kernel
theorem dX6_copy_33 : decode cX6_copy 33 = .ok (.iload_n 3, 1) := by decide +kernel
theorem dX6_copy_34 : decode cX6_copy 34 = .ok (.iaload, 1) := by decide +kernel
theorem dX6_copy_35 : decode cX6_copy 35 = .ok (.ifCond .ne 10, 3) := by decide +kernel
theorem dX6_copy_38 : decode cX6_copy 38 = .ok (.aload_n 0, 1) := by decide +kernel
theorem dX6_copy_39 : decode cX6_copy 39 = .ok (.bipush (-2), 2) := by decide +kernel
theorem dX6_copy_41 : decode cX6_copy 41 = .ok (.invokevirtual 93, 3) := by decide +kernel
theorem dX6_copy_44 : decode cX6_copy 44 = .ok (.ireturn, 1) := by decide +kernel
theorem dX6_copy_45 : decode cX6_copy 45 = .ok (.aload_n 0, 1) := by decide +kernel
theorem dX6_copy_46 : decode cX6_copy 46 = .ok (.getfield 45, 3) := by decide +kernel
theorem dX6_copy_49 : decode cX6_copy 49 = .ok (.iload_n 1, 1) := by decide +kernel
theorem dX6_copy_50 : decode cX6_copy 50 = .ok (.iaload, 1) := by decide +kernel
theorem dX6_copy_51 : decode cX6_copy 51 = .ok (.aload_n 0, 1) := by decide +kernel
theorem dX6_copy_52 : decode cX6_copy 52 = .ok (.getfield 45, 3) := by decide +kernel
theorem dX6_copy_55 : decode cX6_copy 55 = .ok (.iload_n 3, 1) := by decide +kernel
theorem dX6_copy_56 : decode cX6_copy 56 = .ok (.iaload, 1) := by decide +kernel
theorem dX6_copy_57 : decode cX6_copy 57 = .ok (.if_icmp .eq 10, 3) := by decide +kernel
theorem dX6_copy_60 : decode cX6_copy 60 = .ok (.aload_n 0, 1) := by decide +kernel
theorem dX6_copy_61 : decode cX6_copy 61 = .ok (.bipush (-4), 2) := by decide +kernel
theorem dX6_copy_63 : decode cX6_copy 63 = .ok (.invokevirtual 93, 3) := by decide +kernel
theorem dX6_copy_66 : decode cX6_copy 66 = .ok (.ireturn, 1) := by decide +kernel
theorem dX6_copy_67 : decode cX6_copy 67 = .ok (.iload_n 2, 1) := by decide +kernel
theorem dX6_copy_68 : decode cX6_copy 68 = .ok (.ifCond .lt 48, 3) := by decide +kernel
theorem dX6_copy_71 : decode cX6_copy 71 = .ok (.iload 4, 2) := by decide +kernel
theorem dX6_copy_73 : decode cX6_copy 73 = .ok (.ifCond .lt 43, 3) := by decide +kernel
theorem dX6_copy_76 : decode cX6_copy 76 = .ok (.iload 5, 2) := by decide +kernel
theorem dX6_copy_78 : decode cX6_copy 78 = .ok (.ifCond .lt 38, 3) := by decide +kernel
theorem dX6_copy_81 : decode cX6_copy 81 = .ok (.iload_n 2, 1) := by decide +kernel
theorem dX6_copy_82 : decode cX6_copy 82 = .ok (.i2l, 1) := by decide +kernel
theorem dX6_copy_83 : decode cX6_copy 83 = .ok (.iload 5, 2) := by decide +kernel
theorem dX6_copy_85 : decode cX6_copy 85 = .ok (.i2l, 1) := by decide +kernel
theorem dX6_copy_86 : decode cX6_copy 86 = .ok (.ladd, 1) := by decide +kernel
theorem dX6_copy_87 : decode cX6_copy 87 = .ok (.aload_n 0, 1) := by decide +kernel
theorem dX6_copy_88 : decode cX6_copy 88 = .ok (.getfield 48, 3) := by decide +kernel
theorem dX6_copy_91 : decode cX6_copy 91 = .ok (.iload_n 1, 1) := by decide +kernel
theorem dX6_copy_92 : decode cX6_copy 92 = .ok (.iaload, 1) := by decide +kernel
theorem dX6_copy_93 : decode cX6_copy 93 = .ok (.i2l, 1) := by decide +kernel
theorem dX6_copy_94 : decode cX6_copy 94 = .ok (.lcmp, 1) := by decide +kernel
theorem dX6_copy_95 : decode cX6_copy 95 = .ok (.ifCond .gt 21, 3) := by decide +kernel
theorem dX6_copy_98 : decode cX6_copy 98 = .ok (.iload 4, 2) := by decide +kernel
theorem dX6_copy_100 : decode cX6_copy 100 = .ok (.i2l, 1) := by decide +kernel
theorem dX6_copy_101 : decode cX6_copy 101 = .ok (.iload 5, 2) := by decide +kernel
theorem dX6_copy_103 : decode cX6_copy 103 = .ok (.i2l, 1) := by decide +kernel
theorem dX6_copy_104 : decode cX6_copy 104 = .ok (.ladd, 1) := by decide +kernel
theorem dX6_copy_105 : decode cX6_copy 105 = .ok (.aload_n 0, 1) := by decide +kernel
theorem dX6_copy_106 : decode cX6_copy 106 = .ok (.getfield 48, 3) := by decide +kernel
theorem dX6_copy_109 : decode cX6_copy 109 = .ok (.iload_n 3, 1) := by decide +kernel
theorem dX6_copy_110 : decode cX6_copy 110 = .ok (.iaload, 1) := by decide +kernel
theorem dX6_copy_111 : decode cX6_copy 111 = .ok (.i2l, 1) := by decide +kernel
theorem dX6_copy_112 : decode cX6_copy 112 = .ok (.lcmp, 1) := by decide +kernel
theorem dX6_copy_113 : decode cX6_copy 113 = .ok (.ifCond .le 9, 3) := by decide +kernel
theorem dX6_copy_116 : decode cX6_copy 116 = .ok (.aload_n 0, 1) := by decide +kernel
theorem dX6_copy_117 : decode cX6_copy 117 = .ok (.iconst (-1), 1) := by decide +kernel
theorem dX6_copy_118 : decode cX6_copy 118 = .ok (.invokevirtual 93, 3) := by decide +kernel
theorem dX6_copy_121 : decode cX6_copy 121 = .ok (.ireturn, 1) := by decide +kernel
theorem dX6_copy_122 : decode cX6_copy 122 = .ok (.iconst 0, 1) := by decide +kernel
theorem dX6_copy_123 : decode cX6_copy 123 = .ok (.istore 6, 2) := by decide +kernel
theorem dX6_copy_125 : decode cX6_copy 125 = .ok (.iload 6, 2) := by decide +kernel
theorem dX6_copy_127 : decode cX6_copy 127 = .ok (.iload 5, 2) := by decide +kernel
theorem dX6_copy_129 : decode cX6_copy 129 = .ok (.if_icmp .ge 30, 3) := by decide +kernel
theorem dX6_copy_132 : decode cX6_copy 132 = .ok (.aload_n 0, 1) := by decide +kernel
theorem dX6_copy_133 : decode cX6_copy 133 = .ok (.getfield 61, 3) := by decide +kernel
theorem dX6_copy_136 : decode cX6_copy 136 = .ok (.iload 6, 2) := by decide +kernel
theorem dX6_copy_138 : decode cX6_copy 138 = .ok (.aload_n 0, 1) := by decide +kernel
theorem dX6_copy_139 : decode cX6_copy 139 = .ok (.getfield 51, 3) := by decide +kernel
theorem dX6_copy_142 : decode cX6_copy 142 = .ok (.bipush 12, 2) := by decide +kernel
theorem dX6_copy_144 : decode cX6_copy 144 = .ok (.iload_n 1, 1) := by decide +kernel
theorem dX6_copy_145 : decode cX6_copy 145 = .ok (.imul, 1) := by decide +kernel
theorem dX6_copy_146 : decode cX6_copy 146 = .ok (.iload_n 2, 1) := by decide +kernel
theorem dX6_copy_147 : decode cX6_copy 147 = .ok (.iadd, 1) := by decide +kernel
theorem dX6_copy_148 : decode cX6_copy 148 = .ok (.iload 6, 2) := by decide +kernel
theorem dX6_copy_150 : decode cX6_copy 150 = .ok (.iadd, 1) := by decide +kernel
theorem dX6_copy_151 : decode cX6_copy 151 = .ok (.laload, 1) := by decide +kernel
theorem dX6_copy_152 : decode cX6_copy 152 = .ok (.lastore, 1) := by decide +kernel
theorem dX6_copy_153 : decode cX6_copy 153 = .ok (.iinc 6 1, 3) := by decide +kernel
theorem dX6_copy_156 : decode cX6_copy 156 = .ok (.goto (-31), 3) := by decide +kernel
theorem dX6_copy_159 : decode cX6_copy 159 = .ok (.iconst 0, 1) := by decide +kernel
theorem dX6_copy_160 : decode cX6_copy 160 = .ok (.istore 6, 2) := by decide +kernel
theorem dX6_copy_162 : decode cX6_copy 162 = .ok (.iload 6, 2) := by decide +kernel
theorem dX6_copy_164 : decode cX6_copy 164 = .ok (.iload 5, 2) := by decide +kernel
theorem dX6_copy_166 : decode cX6_copy 166 = .ok (.if_icmp .ge 31, 3) := by decide +kernel
theorem dX6_copy_169 : decode cX6_copy 169 = .ok (.aload_n 0, 1) := by decide +kernel
theorem dX6_copy_170 : decode cX6_copy 170 = .ok (.getfield 51, 3) := by decide +kernel
theorem dX6_copy_173 : decode cX6_copy 173 = .ok (.bipush 12, 2) := by decide +kernel
theorem dX6_copy_175 : decode cX6_copy 175 = .ok (.iload_n 3, 1) := by decide +kernel
theorem dX6_copy_176 : decode cX6_copy 176 = .ok (.imul, 1) := by decide +kernel
theorem dX6_copy_177 : decode cX6_copy 177 = .ok (.iload 4, 2) := by decide +kernel
theorem dX6_copy_179 : decode cX6_copy 179 = .ok (.iadd, 1) := by decide +kernel
theorem dX6_copy_180 : decode cX6_copy 180 = .ok (.iload 6, 2) := by decide +kernel
theorem dX6_copy_182 : decode cX6_copy 182 = .ok (.iadd, 1) := by decide +kernel
theorem dX6_copy_183 : decode cX6_copy 183 = .ok (.aload_n 0, 1) := by decide +kernel
theorem dX6_copy_184 : decode cX6_copy 184 = .ok (.getfield 61, 3) := by decide +kernel
theorem dX6_copy_187 : decode cX6_copy 187 = .ok (.iload 6, 2) := by decide +kernel
theorem dX6_copy_189 : decode cX6_copy 189 = .ok (.laload, 1) := by decide +kernel
theorem dX6_copy_190 : decode cX6_copy 190 = .ok (.lastore, 1) := by decide +kernel
theorem dX6_copy_191 : decode cX6_copy 191 = .ok (.iinc 6 1, 3) := by decide +kernel
theorem dX6_copy_194 : decode cX6_copy 194 = .ok (.goto (-32), 3) := by decide +kernel
theorem dX6_copy_197 : decode cX6_copy 197 = .ok (.iload 5, 2) := by decide +kernel
theorem dX6_copy_199 : decode cX6_copy 199 = .ok (.ireturn, 1) := by decide +kernel
theorem dX6_key_0 : decode cX6_key 0 = .ok (.aload_n 0, 1) := by decide +kernel
theorem dX6_key_1 : decode cX6_key 1 = .ok (.getfield 51, 3) := by decide +kernel
theorem dX6_key_4 : decode cX6_key 4 = .ok (.bipush 12, 2) := by decide +kernel
theorem dX6_key_6 : decode cX6_key 6 = .ok (.iload_n 1, 1) := by decide +kernel
theorem dX6_key_7 : decode cX6_key 7 = .ok (.imul, 1) := by decide +kernel
theorem dX6_key_8 : decode cX6_key 8 = .ok (.iload_n 2, 1) := by decide +kernel
theorem dX6_key_9 : decode cX6_key 9 = .ok (.iadd, 1) := by decide +kernel
theorem dX6_key_10 : decode cX6_key 10 = .ok (.laload, 1) := by decide +kernel
theorem dX6_key_11 : decode cX6_key 11 = .ok (.lstore_n 3, 1) := by decide +kernel
theorem dX6_key_12 : decode cX6_key 12 = .ok (.aload_n 0, 1) := by decide +kernel
theorem dX6_key_13 : decode cX6_key 13 = .ok (.getfield 45, 3) := by decide +kernel
theorem dX6_key_16 : decode cX6_key 16 = .ok (.iload_n 1, 1) := by decide +kernel
theorem dX6_key_17 : decode cX6_key 17 = .ok (.iaload, 1) := by decide +kernel
theorem dX6_key_18 : decode cX6_key 18 = .ok (.bipush 6, 2) := by decide +kernel
theorem dX6_key_20 : decode cX6_key 20 = .ok (.if_icmp .ne 15, 3) := by decide +kernel
theorem dX6_key_23 : decode cX6_key 23 = .ok (.lload_n 3, 1) := by decide +kernel
theorem dX6_key_24 : decode cX6_key 24 = .ok (.lconst 0, 1) := by decide +kernel
theorem dX6_key_25 : decode cX6_key 25 = .ok (.lcmp, 1) := by decide +kernel
theorem dX6_key_26 : decode cX6_key 26 = .ok (.ifCond .ge 9, 3) := by decide +kernel
theorem dX6_key_29 : decode cX6_key 29 = .ok (.lload_n 3, 1) := by decide +kernel
theorem dX6_key_30 : decode cX6_key 30 = .ok (.ldc2_w 145, 3) := by decide +kernel
theorem dX6_key_33 : decode cX6_key 33 = .ok (.lxor, 1) := by decide +kernel
theorem dX6_key_34 : decode cX6_key 34 = .ok (.lreturn, 1) := by decide +kernel
theorem dX6_key_35 : decode cX6_key 35 = .ok (.aload_n 0, 1) := by decide +kernel
theorem dX6_key_36 : decode cX6_key 36 = .ok (.getfield 45, 3) := by decide +kernel
theorem dX6_key_39 : decode cX6_key 39 = .ok (.iload_n 1, 1) := by decide +kernel
theorem dX6_key_40 : decode cX6_key 40 = .ok (.iaload, 1) := by decide +kernel
theorem dX6_key_41 : decode cX6_key 41 = .ok (.bipush 7, 2) := by decide +kernel
theorem dX6_key_43 : decode cX6_key 43 = .ok (.if_icmp .ne 17, 3) := by decide +kernel
theorem dX6_key_46 : decode cX6_key 46 = .ok (.lload_n 3, 1) := by decide +kernel
theorem dX6_key_47 : decode cX6_key 47 = .ok (.lconst 0, 1) := by decide +kernel
theorem dX6_key_48 : decode cX6_key 48 = .ok (.lcmp, 1) := by decide +kernel
theorem dX6_key_49 : decode cX6_key 49 = .ok (.ifCond .ge 11, 3) := by decide +kernel
theorem dX6_key_52 : decode cX6_key 52 = .ok (.lload_n 3, 1) := by decide +kernel
theorem dX6_key_53 : decode cX6_key 53 = .ok (.ldc2_w 129, 3) := by decide +kernel
theorem dX6_key_56 : decode cX6_key 56 = .ok (.lxor, 1) := by decide +kernel
theorem dX6_key_57 : decode cX6_key 57 = .ok (.goto 4, 3) := by decide +kernel
theorem dX6_key_60 : decode cX6_key 60 = .ok (.lload_n 3, 1) := by decide +kernel
theorem dX6_key_61 : decode cX6_key 61 = .ok (.lreturn, 1) := by decide +kernel
theorem dX6_changes_0 : decode cX6_changes 0 = .ok (.aload_n 0, 1) := by decide +kernel
theorem dX6_changes_1 : decode cX6_changes 1 = .ok (.getfield 13, 3) := by decide +kernel
theorem dX6_changes_4 : decode cX6_changes 4 = .ok (.iload_n 1, 1) := by decide +kernel
theorem dX6_changes_5 : decode cX6_changes 5 = .ok (.iaload, 1) := by decide +kernel
theorem dX6_changes_6 : decode cX6_changes 6 = .ok (.tableswitch 54 0 3 #[30, 40, 50, 52], 30) := by decide +kernel
theorem dX6_changes_36 : decode cX6_changes 36 = .ok (.iload_n 2, 1) := by decide +kernel
theorem dX6_changes_37 : decode cX6_changes 37 = .ok (.ifCond .le 7, 3) := by decide +kernel
theorem dX6_changes_40 : decode cX6_changes 40 = .ok (.iconst 1, 1) := by decide +kernel
theorem dX6_changes_41 : decode cX6_changes 41 = .ok (.goto 4, 3) := by decide +kernel
theorem dX6_changes_44 : decode cX6_changes 44 = .ok (.iconst 0, 1) := by decide +kernel
theorem dX6_changes_45 : decode cX6_changes 45 = .ok (.ireturn, 1) := by decide +kernel
theorem dX6_changes_46 : decode cX6_changes 46 = .ok (.iload_n 2, 1) := by decide +kernel
theorem dX6_changes_47 : decode cX6_changes 47 = .ok (.ifCond .ge 7, 3) := by decide +kernel
theorem dX6_changes_50 : decode cX6_changes 50 = .ok (.iconst 1, 1) := by decide +kernel
theorem dX6_changes_51 : decode cX6_changes 51 = .ok (.goto 4, 3) := by decide +kernel
theorem dX6_changes_54 : decode cX6_changes 54 = .ok (.iconst 0, 1) := by decide +kernel
theorem dX6_changes_55 : decode cX6_changes 55 = .ok (.ireturn, 1) := by decide +kernel
theorem dX6_changes_56 : decode cX6_changes 56 = .ok (.iconst 0, 1) := by decide +kernel
theorem dX6_changes_57 : decode cX6_changes 57 = .ok (.ireturn, 1) := by decide +kernel
theorem dX6_changes_58 : decode cX6_changes 58 = .ok (.iconst 1, 1) := by decide +kernel
theorem dX6_changes_59 : decode cX6_changes 59 = .ok (.ireturn, 1) := by decide +kernel
theorem dX6_changes_60 : decode cX6_changes 60 = .ok (.aload_n 0, 1) := by decide +kernel
theorem dX6_changes_61 : decode cX6_changes 61 = .ok (.getfield 23, 3) := by decide +kernel
theorem dX6_changes_64 : decode cX6_changes 64 = .ok (.iload_n 1, 1) := by decide +kernel
theorem dX6_changes_65 : decode cX6_changes 65 = .ok (.baload, 1) := by decide +kernel
theorem dX6_changes_66 : decode cX6_changes 66 = .ok (.ifCond .eq 11, 3) := by decide +kernel
theorem dX6_changes_69 : decode cX6_changes 69 = .ok (.iload_n 2, 1) := by decide +kernel
theorem dX6_changes_70 : decode cX6_changes 70 = .ok (.ifCond .le 7, 3) := by decide +kernel
theorem dX6_changes_73 : decode cX6_changes 73 = .ok (.iconst 1, 1) := by decide +kernel
theorem dX6_changes_74 : decode cX6_changes 74 = .ok (.goto 4, 3) := by decide +kernel
theorem dX6_changes_77 : decode cX6_changes 77 = .ok (.iconst 0, 1) := by decide +kernel
theorem dX6_changes_78 : decode cX6_changes 78 = .ok (.ireturn, 1) := by decide +kernel
set_option maxRecDepth 20000 in
theorem ggX6_against_X6_key : GoodIn wsX6_against wsX6_key := goodIn_r _ [5, 6, 7, 8, 9, 10, 11, 12, 13, 14, 15, 16, 17, 18, 19, 20, 21, 22, 23, 24, 25, 26, 27, 28, 29, 30, 31, 32, 33, 34] (by decide +kernel) (by decide +kernel)
set_option maxRecDepth 20000 in
theorem gX6_against_X6_key : GoodIn wsX6_against (wsV RX6 147 RX6 yX6_key wsX6_key) := goodIn_app (goodIn_of _ (by decide +kernel)) ggX6_against_X6_key
theorem dX6_against_0 : decode cX6_against 0 = .ok (.aload_n 0, 1) := by decide +kernel
theorem dX6_against_1 : decode cX6_against 1 = .ok (.iload_n 1, 1) := by decide +kernel
theorem dX6_against_2 : decode cX6_against 2 = .ok (.iload_n 2, 1) := by decide +kernel
theorem dX6_against_3 : decode cX6_against 3 = .ok (.invokevirtual 147, 3) := by decide +kernel
theorem dX6_against_6 : decode cX6_against 6 = .ok (.lstore 4, 2) := by decide +kernel
theorem dX6_against_8 : decode cX6_against 8 = .ok (.aload_n 0, 1) := by decide +kernel
theorem dX6_against_9 : decode cX6_against 9 = .ok (.iload_n 1, 1) := by decide +kernel
theorem dX6_against_10 : decode cX6_against 10 = .ok (.iload_n 3, 1) := by decide +kernel
theorem dX6_against_11 : decode cX6_against 11 = .ok (.invokevirtual 147, 3) := by decide +kernel
theorem dX6_against_14 : decode cX6_against 14 = .ok (.lstore 6, 2) := by decide +kernel
theorem dX6_against_16 : decode cX6_against 16 = .ok (.lload 4, 2) := by decide +kernel
theorem dX6_against_18 : decode cX6_against 18 = .ok (.lload 6, 2) := by decide +kernel
theorem dX6_against_20 : decode cX6_against 20 = .ok (.lcmp, 1) := by decide +kernel
theorem dX6_against_21 : decode cX6_against 21 = .ok (.ifCond .ge 7, 3) := by decide +kernel
theorem dX6_against_24 : decode cX6_against 24 = .ok (.iconst (-1), 1) := by decide +kernel
theorem dX6_against_25 : decode cX6_against 25 = .ok (.goto 16, 3) := by decide +kernel
theorem dX6_against_28 : decode cX6_against 28 = .ok (.lload 4, 2) := by decide +kernel
theorem dX6_against_30 : decode cX6_against 30 = .ok (.lload 6, 2) := by decide +kernel
theorem dX6_against_32 : decode cX6_against 32 = .ok (.lcmp, 1) := by decide +kernel
theorem dX6_against_33 : decode cX6_against 33 = .ok (.ifCond .le 7, 3) := by decide +kernel
theorem dX6_against_36 : decode cX6_against 36 = .ok (.iconst 1, 1) := by decide +kernel
theorem dX6_against_37 : decode cX6_against 37 = .ok (.goto 4, 3) := by decide +kernel
theorem dX6_against_40 : decode cX6_against 40 = .ok (.iconst 0, 1) := by decide +kernel
theorem dX6_against_41 : decode cX6_against 41 = .ok (.ireturn, 1) := by decide +kernel
set_option maxRecDepth 20000 in
theorem ggX6_run_X6_isCrate : GoodIn wsX6_run wsX6_isCrate := goodIn_r _ [11, 12, 13, 10, 14] (by decide +kernel) (by decide +kernel)
set_option maxRecDepth 20000 in
theorem gX6_run_X6_isCrate : GoodIn wsX6_run (va_wsS RX6 120 yX6_isCrate wsX6_isCrate) := goodIn_app (goodIn_of _ (by decide +kernel)) ggX6_run_X6_isCrate
