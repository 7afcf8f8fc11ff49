theorem dX6_weak_13 : decode cX6_weak 13 = .ok (.ireturn, 1) := by decide +kernel
theorem dX6_weak_14 : decode cX6_weak 14 = .ok (.aload_n 0, 1) := by decide +kernel
theorem dX6_weak_15 : decode cX6_weak 15 = .ok (.iload_n 1, 1) := by decide +kernel
theorem dX6_weak_16 : decode cX6_weak 16 = .ok (.invokevirtual 172, 3) := by decide +kernel
theorem dX6_weak_19 : decode cX6_weak 19 = .ok (.istore_n 2, 1) := by decide +kernel
theorem dX6_weak_20 : decode cX6_weak 20 = .ok (.iload_n 2, 1) := by decide +kernel
theorem dX6_weak_21 : decode cX6_weak 21 = .ok (.ifCond .ge 12, 3) := by decide +kernel
theorem dX6_weak_24 : decode cX6_weak 24 = .ok (.aload_n 0, 1) := by decide +kernel
theorem dX6_weak_25 : decode cX6_weak 25 = .ok (.bipush (-6), 2) := by decide +kernel
theorem dX6_weak_27 : decode cX6_weak 27 = .ok (.invokevirtual 93, 3) := by decide +kernel
theorem dX6_weak_30 : decode cX6_weak 30 = .ok (.goto 4, 3) := by decide +kernel
theorem dX6_weak_33 : decode cX6_weak 33 = .ok (.iload_n 2, 1) := by decide +kernel
theorem dX6_weak_34 : decode cX6_weak 34 = .ok (.ireturn, 1) := by decide +kernel
set_option maxRecDepth 20000 in
theorem ggX6_isSlot_X6_in : GoodIn wsX6_isSlot wsX6_in := goodIn_r _ [4] (by decide +kernel) (by decide +kernel)
set_option maxRecDepth 20000 in
theorem gX6_isSlot_X6_in : GoodIn wsX6_isSlot (va_wsS RX6 82 yX6_in wsX6_in) := goodIn_app (goodIn_of _ (by decide +kernel)) ggX6_isSlot_X6_in
theorem dX6_isSlot_0 : decode cX6_isSlot 0 = .ok (.iload_n 0, 1) := by decide +kernel
theorem dX6_isSlot_1 : decode cX6_isSlot 1 = .ok (.iconst 0, 1) := by decide +kernel
theorem dX6_isSlot_2 : decode cX6_isSlot 2 = .ok (.iconst 3, 1) := by decide +kernel
theorem dX6_isSlot_3 : decode cX6_isSlot 3 = .ok (.invokestatic 82, 3) := by decide +kernel
theorem dX6_isSlot_6 : decode cX6_isSlot 6 = .ok (.ireturn, 1) := by decide +kernel
set_option maxRecDepth 20000 in
theorem ggX6_keep_X6_isSlot : GoodIn wsX6_keep wsX6_isSlot := goodIn_r _ [5, 6, 7, 4, 8] (by decide +kernel) (by decide +kernel)
set_option maxRecDepth 20000 in
theorem gX6_keep_X6_isSlot : GoodIn wsX6_keep (va_wsS RX6 190 yX6_isSlot wsX6_isSlot) := goodIn_app (goodIn_of _ (by decide +kernel)) ggX6_keep_X6_isSlot
set_option maxRecDepth 20000 in
theorem ggX6_keep_X6_found : GoodIn wsX6_keep wsX6_found := goodIn_r _ [12, 13, 29, 30, 31, 32, 33, 34, 35, 36, 37, 38, 39, 40, 41, 42, 43, 44, 45, 46, 47, 48, 49, 50, 51, 52, 53] (by decide +kernel) (by decide +kernel)
set_option maxRecDepth 20000 in
theorem gX6_keep_X6_found : GoodIn wsX6_keep (wsV RX6 93 RX6 yX6_found wsX6_found) := goodIn_app (goodIn_of _ (by decide +kernel)) ggX6_keep_X6_found
set_option maxRecDepth 20000 in
theorem ggX6_keep_X6_store : GoodIn wsX6_keep wsX6_store := goodIn_r _ [17, 18, 19, 20, 1, 21, 22, 23, 24, 25, 26, 27, 28, 29, 30, 31, 32, 33, 34, 35, 36, 37, 38, 39, 40, 41, 42, 43, 44, 45, 46, 47, 48, 49, 50, 51, 52, 53] (by decide +kernel) (by decide +kernel)
set_option maxRecDepth 20000 in
theorem gX6_keep_X6_store : GoodIn wsX6_keep (wsV RX6 89 RX6 yX6_store wsX6_store) := goodIn_app (goodIn_of _ (by decide +kernel)) ggX6_keep_X6_store
theorem dX6_keep_0 : decode cX6_keep 0 = .ok (.iload_n 1, 1) := by decide +kernel
theorem dX6_keep_1 : decode cX6_keep 1 = .ok (.invokestatic 190, 3) := by decide +kernel
theorem dX6_keep_4 : decode cX6_keep 4 = .ok (.ifCond .ne 9, 3) := by decide +kernel
theorem dX6_keep_7 : decode cX6_keep 7 = .ok (.aload_n 0, 1) := by decide +kernel
theorem dX6_keep_8 : decode cX6_keep 8 = .ok (.iconst (-1), 1) := by decide +kernel
theorem dX6_keep_9 : decode cX6_keep 9 = .ok (.invokevirtual 93, 3) := by decide +kernel
theorem dX6_keep_12 : decode cX6_keep 12 = .ok (.ireturn, 1) := by decide +kernel
theorem dX6_keep_13 : decode cX6_keep 13 = .ok (.aload_n 0, 1) := by decide +kernel
theorem dX6_keep_14 : decode cX6_keep 14 = .ok (.bipush 25, 2) := by decide +kernel
theorem dX6_keep_16 : decode cX6_keep 16 = .ok (.iload_n 1, 1) := by decide +kernel
theorem dX6_keep_17 : decode cX6_keep 17 = .ok (.iadd, 1) := by decide +kernel
theorem dX6_keep_18 : decode cX6_keep 18 = .ok (.invokevirtual 89, 3) := by decide +kernel
theorem dX6_keep_21 : decode cX6_keep 21 = .ok (.aload_n 0, 1) := by decide +kernel
theorem dX6_keep_22 : decode cX6_keep 22 = .ok (.getfield 79, 3) := by decide +kernel
theorem dX6_keep_25 : decode cX6_keep 25 = .ok (.ireturn, 1) := by decide +kernel
set_option maxRecDepth 20000 in
theorem ggX6_bring_X6_isSlot : GoodIn wsX6_bring wsX6_isSlot := goodIn_r _ [6, 7, 8, 5, 9] (by decide +kernel) (by decide +kernel)
set_option maxRecDepth 20000 in
theorem gX6_bring_X6_isSlot : GoodIn wsX6_bring (va_wsS RX6 190 yX6_isSlot wsX6_isSlot) := goodIn_app (goodIn_of _ (by decide +kernel)) ggX6_bring_X6_isSlot
set_option maxRecDepth 20000 in
theorem ggX6_bring_X6_found : GoodIn wsX6_bring wsX6_found := goodIn_r _ [13, 14, 38, 39, 40, 41, 42, 43, 44, 45, 46, 47, 48, 49, 50, 51, 52, 53, 54, 55, 56, 57, 58, 59, 60, 61, 62] (by decide +kernel) (by decide +kernel)
set_option maxRecDepth 20000 in
theorem gX6_bring_X6_found : GoodIn wsX6_bring (wsV RX6 93 RX6 yX6_found wsX6_found) := goodIn_app (goodIn_of _ (by decide +kernel)) ggX6_bring_X6_found
set_option maxRecDepth 20000 in
theorem ggX6_bring_X6_begins : GoodIn wsX6_bring wsX6_begins := goodIn_r _ [18, 19, 1, 20, 21, 22, 23, 24, 25, 26, 27, 5, 28, 29, 2, 30, 31, 32, 33, 38, 39, 40, 41, 42, 43, 44, 45, 46, 47, 48, 49, 50, 51, 52, 53, 54, 55, 56, 57, 58, 59, 60, 61, 62] (by decide +kernel) (by decide +kernel)
set_option maxRecDepth 20000 in
theorem gX6_bring_X6_begins : GoodIn wsX6_bring (wsV RX6 100 RX6 yX6_begins wsX6_begins) := goodIn_app (goodIn_of _ (by decide +kernel)) ggX6_bring_X6_begins
set_option maxRecDepth 20000 in
theorem ggX6_bring_X6_restore : GoodIn wsX6_bring wsX6_restore := goodIn_r _ [37, 1, 29, 20, 2, 30, 21, 31, 22, 32, 23, 33, 24, 38, 39, 40, 41, 42, 43, 44, 45, 46, 47, 48, 49, 50, 51, 52, 53, 54, 55, 56, 57, 58, 59, 60, 61, 62] (by decide +kernel) (by decide +kernel)
set_option maxRecDepth 20000 in
theorem gX6_bring_X6_restore : GoodIn wsX6_bring (wsV RX6 97 RX6 yX6_restore wsX6_restore) := goodIn_app (goodIn_of _ (by decide +kernel)) ggX6_bring_X6_restore
theorem dX6_bring_0 : decode cX6_bring 0 = .ok (.iload_n 1, 1) := by decide +kernel
theorem dX6_bring_1 : decode cX6_bring 1 = .ok (.invokestatic 190, 3) := by decide +kernel
theorem dX6_bring_4 : decode cX6_bring 4 = .ok (.ifCond .ne 9, 3) := by decide +kernel
theorem dX6_bring_7 : decode cX6_bring 7 = .ok (.aload_n 0, 1) := by decide +kernel
theorem dX6_bring_8 : decode cX6_bring 8 = .ok (.iconst (-1), 1) := by decide +kernel
theorem dX6_bring_9 : decode cX6_bring 9 = .ok (.invokevirtual 93, 3) := by decide +kernel
theorem dX6_bring_12 : decode cX6_bring 12 = .ok (.ireturn, 1) := by decide +kernel
theorem dX6_bring_13 : decode cX6_bring 13 = .ok (.aload_n 0, 1) := by decide +kernel
theorem dX6_bring_14 : decode cX6_bring 14 = .ok (.getfield 27, 3) := by decide +kernel
theorem dX6_bring_17 : decode cX6_bring 17 = .ok (.bipush 25, 2) := by decide +kernel
theorem dX6_bring_19 : decode cX6_bring 19 = .ok (.iload_n 1, 1) := by decide +kernel
theorem dX6_bring_20 : decode cX6_bring 20 = .ok (.iadd, 1) := by decide +kernel
theorem dX6_bring_21 : decode cX6_bring 21 = .ok (.iaload, 1) := by decide +kernel
theorem dX6_bring_22 : decode cX6_bring 22 = .ok (.ifCond .ne 10, 3) := by decide +kernel
theorem dX6_bring_25 : decode cX6_bring 25 = .ok (.aload_n 0, 1) := by decide +kernel
theorem dX6_bring_26 : decode cX6_bring 26 = .ok (.bipush (-6), 2) := by decide +kernel
theorem dX6_bring_28 : decode cX6_bring 28 = .ok (.invokevirtual 93, 3) := by decide +kernel
theorem dX6_bring_31 : decode cX6_bring 31 = .ok (.ireturn, 1) := by decide +kernel
theorem dX6_bring_32 : decode cX6_bring 32 = .ok (.aload_n 0, 1) := by decide +kernel
theorem dX6_bring_33 : decode cX6_bring 33 = .ok (.invokevirtual 100, 3) := by decide +kernel
theorem dX6_bring_36 : decode cX6_bring 36 = .ok (.aload_n 0, 1) := by decide +kernel
theorem dX6_bring_37 : decode cX6_bring 37 = .ok (.bipush 25, 2) := by decide +kernel
theorem dX6_bring_39 : decode cX6_bring 39 = .ok (.iload_n 1, 1) := by decide +kernel
theorem dX6_bring_40 : decode cX6_bring 40 = .ok (.iadd, 1) := by decide +kernel
theorem dX6_bring_41 : decode cX6_bring 41 = .ok (.invokevirtual 97, 3) := by decide +kernel
theorem dX6_bring_44 : decode cX6_bring 44 = .ok (.aload_n 0, 1) := by decide +kernel
theorem dX6_bring_45 : decode cX6_bring 45 = .ok (.getfield 79, 3) := by decide +kernel
theorem dX6_bring_48 : decode cX6_bring 48 = .ok (.ireturn, 1) := by decide +kernel
set_option maxRecDepth 20000 in
theorem ggX6_follow_X6_isSlot : GoodIn wsX6_follow wsX6_isSlot := goodIn_r _ [16, 17, 18, 15, 19] (by decide +kernel) (by decide +kernel)
set_option maxRecDepth 20000 in
theorem gX6_follow_X6_isSlot : GoodIn wsX6_follow (va_wsS RX6 190 yX6_isSlot wsX6_isSlot) := goodIn_app (goodIn_of _ (by decide +kernel)) ggX6_follow_X6_isSlot
set_option maxRecDepth 20000 in
theorem ggX6_follow_X6_found : GoodIn wsX6_follow wsX6_found := goodIn_r _ [23, 24, 34, 35, 36, 37, 38, 39, 40, 41, 42, 43, 44, 45, 46, 47, 48, 49, 50, 51, 52, 53, 54, 55, 56, 57, 58] (by decide +kernel) (by decide +kernel)
set_option maxRecDepth 20000 in
theorem gX6_follow_X6_found : GoodIn wsX6_follow (wsV RX6 93 RX6 yX6_found wsX6_found) := goodIn_app (goodIn_of _ (by decide +kernel)) ggX6_follow_X6_found
set_option maxRecDepth 20000 in
theorem ggX6_follow_X6_begins : GoodIn wsX6_follow wsX6_begins := goodIn_r _ [28, 29, 1, 4, 6, 8, 10, 12, 30, 31, 32, 15, 33, 2, 3, 5, 7, 9, 11, 34, 35, 36, 37, 38, 39, 40, 41, 42, 43, 44, 45, 46, 47, 48, 49, 50, 51, 52, 53, 54, 55, 56, 57, 58] (by decide +kernel) (by decide +kernel)
set_option maxRecDepth 20000 in
theorem gX6_follow_X6_begins : GoodIn wsX6_follow (wsV RX6 100 RX6 yX6_begins wsX6_begins) := goodIn_app (goodIn_of _ (by decide +kernel)) ggX6_follow_X6_begins
theorem dX6_follow_0 : decode cX6_follow 0 = .ok (.iload_n 1, 1) := by decide +kernel
theorem dX6_follow_1 : decode cX6_follow 1 = .ok (.invokestatic 190, 3) := by decide +kernel
theorem dX6_follow_4 : decode cX6_follow 4 = .ok (.ifCond .ne 9, 3) := by decide +kernel
theorem dX6_follow_7 : decode cX6_follow 7 = .ok (.aload_n 0, 1) := by decide +kernel
theorem dX6_follow_8 : decode cX6_follow 8 = .ok (.iconst (-1), 1) := by decide +kernel
theorem dX6_follow_9 : decode cX6_follow 9 = .ok (.invokevirtual 93, 3) := by decide +kernel
theorem dX6_follow_12 : decode cX6_follow 12 = .ok (.ireturn, 1) := by decide +kernel
theorem dX6_follow_13 : decode cX6_follow 13 = .ok (.bipush 25, 2) := by decide +kernel
theorem dX6_follow_15 : decode cX6_follow 15 = .ok (.iload_n 1, 1) := by decide +kernel
theorem dX6_follow_16 : decode cX6_follow 16 = .ok (.iadd, 1) := by decide +kernel
theorem dX6_follow_17 : decode cX6_follow 17 = .ok (.istore_n 2, 1) := by decide +kernel
theorem dX6_follow_18 : decode cX6_follow 18 = .ok (.aload_n 0, 1) := by decide +kernel
theorem dX6_follow_19 : decode cX6_follow 19 = .ok (.getfield 27, 3) := by decide +kernel
theorem dX6_follow_22 : decode cX6_follow 22 = .ok (.iload_n 2, 1) := by decide +kernel
theorem dX6_follow_23 : decode cX6_follow 23 = .ok (.iaload, 1) := by decide +kernel
theorem dX6_follow_24 : decode cX6_follow 24 = .ok (.ifCond .ne 10, 3) := by decide +kernel
theorem dX6_follow_27 : decode cX6_follow 27 = .ok (.aload_n 0, 1) := by decide +kernel
theorem dX6_follow_28 : decode cX6_follow 28 = .ok (.bipush (-6), 2) := by decide +kernel
theorem dX6_follow_30 : decode cX6_follow 30 = .ok (.invokevirtual 93, 3) := by decide +kernel
theorem dX6_follow_33 : decode cX6_follow 33 = .ok (.ireturn, 1) := by decide +kernel
theorem dX6_follow_34 : decode cX6_follow 34 = .ok (.aload_n 0, 1) := by decide +kernel
theorem dX6_follow_35 : decode cX6_follow 35 = .ok (.getfield 27, 3) := by decide +kernel
theorem dX6_follow_38 : decode cX6_follow 38 = .ok (.iload_n 2, 1) := by decide +kernel
theorem dX6_follow_39 : decode cX6_follow 39 = .ok (.iaload, 1) := by decide +kernel
theorem dX6_follow_40 : decode cX6_follow 40 = .ok (.aload_n 0, 1) := by decide +kernel
theorem dX6_follow_41 : decode cX6_follow 41 = .ok (.getfield 7, 3) := by decide +kernel
theorem dX6_follow_44 : decode cX6_follow 44 = .ok (.if_icmp .eq 10, 3) := by decide +kernel
theorem dX6_follow_47 : decode cX6_follow 47 = .ok (.aload_n 0, 1) := by decide +kernel
theorem dX6_follow_48 : decode cX6_follow 48 = .ok (.bipush (-3), 2) := by decide +kernel
theorem dX6_follow_50 : decode cX6_follow 50 = .ok (.invokevirtual 93, 3) := by decide +kernel
theorem dX6_follow_53 : decode cX6_follow 53 = .ok (.ireturn, 1) := by decide +kernel
theorem dX6_follow_54 : decode cX6_follow 54 = .ok (.aload_n 0, 1) := by decide +kernel
theorem dX6_follow_55 : decode cX6_follow 55 = .ok (.getfield 79, 3) := by decide +kernel
theorem dX6_follow_58 : decode cX6_follow 58 = .ok (.aload_n 0, 1) := by decide +kernel
theorem dX6_follow_59 : decode cX6_follow 59 = .ok (.getfield 30, 3) := by decide +kernel
theorem dX6_follow_62 : decode cX6_follow 62 = .ok (.iload_n 2, 1) := by decide +kernel
theorem dX6_follow_63 : decode cX6_follow 63 = .ok (.iaload, 1) := by decide +kernel
theorem dX6_follow_64 : decode cX6_follow 64 = .ok (.iadd, 1) := by decide +kernel
theorem dX6_follow_65 : decode cX6_follow 65 = .ok (.bipush 40, 2) := by decide +kernel
theorem dX6_follow_67 : decode cX6_follow 67 = .ok (.if_icmp .le 10, 3) := by decide +kernel
theorem dX6_follow_70 : decode cX6_follow 70 = .ok (.aload_n 0, 1) := by decide +kernel
theorem dX6_follow_71 : decode cX6_follow 71 = .ok (.bipush (-5), 2) := by decide +kernel
theorem dX6_follow_73 : decode cX6_follow 73 = .ok (.invokevirtual 93, 3) := by decide +kernel
theorem dX6_follow_76 : decode cX6_follow 76 = .ok (.ireturn, 1) := by decide +kernel
theorem dX6_follow_77 : decode cX6_follow 77 = .ok (.aload_n 0, 1) := by decide +kernel
theorem dX6_follow_78 : decode cX6_follow 78 = .ok (.invokevirtual 100, 3) := by decide +kernel
theorem dX6_follow_81 : decode cX6_follow 81 = .ok (.iconst 0, 1) := by decide +kernel
theorem dX6_follow_82 : decode cX6_follow 82 = .ok (.istore_n 3, 1) := by decide +kernel
theorem dX6_follow_83 : decode cX6_follow 83 = .ok (.iload_n 3, 1) := by decide +kernel
theorem dX6_follow_84 : decode cX6_follow 84 = .ok (.aload_n 0, 1) := by decide +kernel
theorem dX6_follow_85 : decode cX6_follow 85 = .ok (.getfield 30, 3) := by decide +kernel
theorem dX6_follow_88 : decode cX6_follow 88 = .ok (.iload_n 2, 1) := by decide +kernel
theorem dX6_follow_89 : decode cX6_follow 89 = .ok (.iaload, 1) := by decide +kernel
theorem dX6_follow_90 : decode cX6_follow 90 = .ok (.if_icmp .ge 99, 3) := by decide +kernel
theorem dX6_follow_93 : decode cX6_follow 93 = .ok (.aload_n 0, 1) := by decide +kernel
theorem dX6_follow_94 : decode cX6_follow 94 = .ok (.getfield 13, 3) := by decide +kernel
theorem dX6_follow_97 : decode cX6_follow 97 = .ok (.aload_n 0, 1) := by decide +kernel
theorem dX6_follow_98 : decode cX6_follow 98 = .ok (.getfield 79, 3) := by decide +kernel
theorem dX6_follow_101 : decode cX6_follow 101 = .ok (.aload_n 0, 1) := by decide +kernel
theorem dX6_follow_102 : decode cX6_follow 102 = .ok (.getfield 33, 3) := by decide +kernel
theorem dX6_follow_105 : decode cX6_follow 105 = .ok (.bipush 40, 2) := by decide +kernel
theorem dX6_follow_107 : decode cX6_follow 107 = .ok (.iload_n 2, 1) := by decide +kernel
theorem dX6_follow_108 : decode cX6_follow 108 = .ok (.imul, 1) := by decide +kernel
theorem dX6_follow_109 : decode cX6_follow 109 = .ok (.iload_n 3, 1) := by decide +kernel
theorem dX6_follow_110 : decode cX6_follow 110 = .ok (.iadd, 1) := by decide +kernel
theorem dX6_follow_111 : decode cX6_follow 111 = .ok (.iaload, 1) := by decide +kernel
theorem dX6_follow_112 : decode cX6_follow 112 = .ok (.iastore, 1) := by decide +kernel
theorem dX6_follow_113 : decode cX6_follow 113 = .ok (.aload_n 0, 1) := by decide +kernel
theorem dX6_follow_114 : decode cX6_follow 114 = .ok (.getfield 17, 3) := by decide +kernel
theorem dX6_follow_117 : decode cX6_follow 117 = .ok (.aload_n 0, 1) := by decide +kernel
theorem dX6_follow_118 : decode cX6_follow 118 = .ok (.getfield 79, 3) := by decide +kernel
theorem dX6_follow_121 : decode cX6_follow 121 = .ok (.aload_n 0, 1) := by decide +kernel
theorem dX6_follow_122 : decode cX6_follow 122 = .ok (.getfield 36, 3) := by decide +kernel
theorem dX6_follow_125 : decode cX6_follow 125 = .ok (.bipush 40, 2) := by decide +kernel
theorem dX6_follow_127 : decode cX6_follow 127 = .ok (.iload_n 2, 1) := by decide +kernel
theorem dX6_follow_128 : decode cX6_follow 128 = .ok (.imul, 1) := by decide +kernel
theorem dX6_follow_129 : decode cX6_follow 129 = .ok (.iload_n 3, 1) := by decide +kernel
theorem dX6_follow_130 : decode cX6_follow 130 = .ok (.iadd, 1) := by decide +kernel
theorem dX6_follow_131 : decode cX6_follow 131 = .ok (.iaload, 1) := by decide +kernel
theorem dX6_follow_132 : decode cX6_follow 132 = .ok (.iastore, 1) := by decide +kernel
theorem dX6_follow_133 : decode cX6_follow 133 = .ok (.aload_n 0, 1) := by decide +kernel
theorem dX6_follow_134 : decode cX6_follow 134 = .ok (.getfield 20, 3) := by decide +kernel
theorem dX6_follow_137 : decode cX6_follow 137 = .ok (.aload_n 0, 1) := by decide +kernel
theorem dX6_follow_138 : decode cX6_follow 138 = .ok (.getfield 79, 3) := by decide +kernel
theorem dX6_follow_141 : decode cX6_follow 141 = .ok (.aload_n 0, 1) := by decide +kernel
theorem dX6_follow_142 : decode cX6_follow 142 = .ok (.getfield 39, 3) := by decide +kernel
theorem dX6_follow_145 : decode cX6_follow 145 = .ok (.bipush 40, 2) := by decide +kernel
theorem dX6_follow_147 : decode cX6_follow 147 = .ok (.iload_n 2, 1) := by decide +kernel
theorem dX6_follow_148 : decode cX6_follow 148 = .ok (.imul, 1) := by decide +kernel
theorem dX6_follow_149 : decode cX6_follow 149 = .ok (.iload_n 3, 1) := by decide +kernel
theorem dX6_follow_150 : decode cX6_follow 150 = .ok (.iadd, 1) := by decide +kernel
theorem dX6_follow_151 : decode cX6_follow 151 = .ok (.iaload, 1) := by decide +kernel
theorem dX6_follow_152 : decode cX6_follow 152 = .ok (.iastore, 1) := by decide +kernel
theorem dX6_follow_153 : decode cX6_follow 153 = .ok (.aload_n 0, 1) := by decide +kernel
theorem dX6_follow_154 : decode cX6_follow 154 = .ok (.getfield 23, 3) := by decide +kernel
theorem dX6_follow_157 : decode cX6_follow 157 = .ok (.aload_n 0, 1) := by decide +kernel
theorem dX6_follow_158 : decode cX6_follow 158 = .ok (.getfield 79, 3) := by decide +kernel
theorem dX6_follow_161 : decode cX6_follow 161 = .ok (.aload_n 0, 1) := by decide +kernel
theorem dX6_follow_162 : decode cX6_follow 162 = .ok (.getfield 42, 3) := by decide +kernel
theorem dX6_follow_165 : decode cX6_follow 165 = .ok (.bipush 40, 2) := by decide +kernel
theorem dX6_follow_167 : decode cX6_follow 167 = .ok (.iload_n 2, 1) := by decide +kernel
theorem dX6_follow_168 : decode cX6_follow 168 = .ok (.imul, 1) := by decide +kernel
theorem dX6_follow_169 : decode cX6_follow 169 = .ok (.iload_n 3, 1) := by decide +kernel
theorem dX6_follow_170 : decode cX6_follow 170 = .ok (.iadd, 1) := by decide +kernel
theorem dX6_follow_171 : decode cX6_follow 171 = .ok (.baload, 1) := by decide +kernel
theorem dX6_follow_172 : decode cX6_follow 172 = .ok (.bastore, 1) := by decide +kernel
theorem dX6_follow_173 : decode cX6_follow 173 = .ok (.aload_n 0, 1) := by decide +kernel
theorem dX6_follow_174 : decode cX6_follow 174 = .ok (.dup, 1) := by decide +kernel
theorem dX6_follow_175 : decode cX6_follow 175 = .ok (.getfield 79, 3) := by decide +kernel
theorem dX6_follow_178 : decode cX6_follow 178 = .ok (.iconst 1, 1) := by decide +kernel
theorem dX6_follow_179 : decode cX6_follow 179 = .ok (.iadd, 1) := by decide +kernel
theorem dX6_follow_180 : decode cX6_follow 180 = .ok (.putfield 79, 3) := by decide +kernel
theorem dX6_follow_183 : decode cX6_follow 183 = .ok (.iinc 3 1, 3) := by decide +kernel
theorem dX6_follow_186 : decode cX6_follow 186 = .ok (.goto (-103), 3) := by decide +kernel
theorem dX6_follow_189 : decode cX6_follow 189 = .ok (.aload_n 0, 1) := by decide +kernel
theorem dX6_follow_190 : decode cX6_follow 190 = .ok (.getfield 79, 3) := by decide +kernel
theorem dX6_follow_193 : decode cX6_follow 193 = .ok (.ireturn, 1) := by decide +kernel
set_option maxRecDepth 20000 in
theorem ggX6_unlike_X6_isSlot : GoodIn wsX6_unlike wsX6_isSlot := goodIn_r _ [8, 9, 10, 7, 11] (by decide +kernel) (by decide +kernel)
set_option maxRecDepth 20000 in
theorem gX6_unlike_X6_isSlot : GoodIn wsX6_unlike (va_wsS RX6 190 yX6_isSlot wsX6_isSlot) := goodIn_app (goodIn_of _ (by decide +kernel)) ggX6_unlike_X6_isSlot
set_option maxRecDepth 20000 in
theorem ggX6_unlike_X6_found : GoodIn wsX6_unlike wsX6_found := goodIn_r _ [15, 16, 49, 50, 51, 52, 53, 54, 55, 56, 57, 58, 59, 60, 61, 62, 63, 64, 65, 66, 67, 68, 69, 70, 71, 72, 73] (by decide +kernel) (by decide +kernel)
set_option maxRecDepth 20000 in
theorem gX6_unlike_X6_found : GoodIn wsX6_unlike (wsV RX6 93 RX6 yX6_found wsX6_found) := goodIn_app (goodIn_of _ (by decide +kernel)) ggX6_unlike_X6_found
set_option maxRecDepth 20000 in
theorem ggX6_unlike_X6_rows : GoodIn wsX6_unlike wsX6_rows := goodIn_r _ [20, 2, 49, 50, 51, 52, 53, 54, 55, 56, 57, 58, 59, 60, 61, 62, 63, 64, 65, 66, 67, 68, 69, 70, 71, 72, 73] (by decide +kernel) (by decide +kernel)
set_option maxRecDepth 20000 in
theorem gX6_unlike_X6_rows : GoodIn wsX6_unlike (wsV RX6 162 RX6 yX6_rows wsX6_rows) := goodIn_app (goodIn_of _ (by decide +kernel)) ggX6_unlike_X6_rows
set_option maxRecDepth 20000 in
theorem ggX6_unlike_X6_goes : GoodIn wsX6_unlike wsX6_goes := goodIn_r _ [24, 25, 26, 27, 28, 7, 29, 30, 31, 32, 33, 34, 35, 49, 50, 51, 52, 53, 54, 55, 56, 57, 58, 59, 60, 61, 62, 63, 64, 65, 66, 67, 68, 69, 70, 71, 72, 73] (by decide +kernel) (by decide +kernel)
set_option maxRecDepth 20000 in
theorem gX6_unlike_X6_goes : GoodIn wsX6_unlike (wsV RX6 166 RX6 yX6_goes wsX6_goes) := goodIn_app (goodIn_of _ (by decide +kernel)) ggX6_unlike_X6_goes
set_option maxRecDepth 20000 in
theorem ggX6_unlike_X6_store : GoodIn wsX6_unlike wsX6_store := goodIn_r _ [39, 1, 2, 40, 4, 41, 34, 42, 25, 43, 26, 44, 35, 49, 50, 51, 52, 53, 54, 55, 56, 57, 58, 59, 60, 61, 62, 63, 64, 65, 66, 67, 68, 69, 70, 71, 72, 73] (by decide +kernel) (by decide +kernel)
set_option maxRecDepth 20000 in
theorem gX6_unlike_X6_store : GoodIn wsX6_unlike (wsV RX6 89 RX6 yX6_store wsX6_store) := goodIn_app (goodIn_of _ (by decide +kernel)) ggX6_unlike_X6_store
set_option maxRecDepth 20000 in
theorem ggX6_unlike_X6_restore : GoodIn wsX6_unlike wsX6_restore := goodIn_r _ [48, 1, 2, 40, 4, 34, 41, 25, 42, 26, 43, 35, 44, 49, 50, 51, 52, 53, 54, 55, 56, 57, 58, 59, 60, 61, 62, 63, 64, 65, 66, 67, 68, 69, 70, 71, 72, 73] (by decide +kernel) (by decide +kernel)
set_option maxRecDepth 20000 in
theorem gX6_unlike_X6_restore : GoodIn wsX6_unlike (wsV RX6 97 RX6 yX6_restore wsX6_restore) := goodIn_app (goodIn_of _ (by decide +kernel)) ggX6_unlike_X6_restore
theorem dX6_unlike_0 : decode cX6_unlike 0 = .ok (.iload_n 1, 1) := by decide +kernel
theorem dX6_unlike_1 : decode cX6_unlike 1 = .ok (.invokestatic 190, 3) := by decide +kernel
theorem dX6_unlike_4 : decode cX6_unlike 4 = .ok (.ifCond .ne 9, 3) := by decide +kernel
theorem dX6_unlike_7 : decode cX6_unlike 7 = .ok (.aload_n 0, 1) := by decide +kernel
theorem dX6_unlike_8 : decode cX6_unlike 8 = .ok (.iconst (-1), 1) := by decide +kernel
theorem dX6_unlike_9 : decode cX6_unlike 9 = .ok (.invokevirtual 93, 3) := by decide +kernel
theorem dX6_unlike_12 : decode cX6_unlike 12 = .ok (.ireturn, 1) := by decide +kernel
theorem dX6_unlike_13 : decode cX6_unlike 13 = .ok (.bipush 25, 2) := by decide +kernel
theorem dX6_unlike_15 : decode cX6_unlike 15 = .ok (.iload_n 1, 1) := by decide +kernel
theorem dX6_unlike_16 : decode cX6_unlike 16 = .ok (.iadd, 1) := by decide +kernel
theorem dX6_unlike_17 : decode cX6_unlike 17 = .ok (.istore_n 2, 1) := by decide +kernel
theorem dX6_unlike_18 : decode cX6_unlike 18 = .ok (.aload_n 0, 1) := by decide +kernel
theorem dX6_unlike_19 : decode cX6_unlike 19 = .ok (.getfield 27, 3) := by decide +kernel
theorem dX6_unlike_22 : decode cX6_unlike 22 = .ok (.iload_n 2, 1) := by decide +kernel
theorem dX6_unlike_23 : decode cX6_unlike 23 = .ok (.iaload, 1) := by decide +kernel
theorem dX6_unlike_24 : decode cX6_unlike 24 = .ok (.ifCond .ne 10, 3) := by decide +kernel
theorem dX6_unlike_27 : decode cX6_unlike 27 = .ok (.aload_n 0, 1) := by decide +kernel
theorem dX6_unlike_28 : decode cX6_unlike 28 = .ok (.bipush (-6), 2) := by decide +kernel
theorem dX6_unlike_30 : decode cX6_unlike 30 = .ok (.invokevirtual 93, 3) := by decide +kernel
theorem dX6_unlike_33 : decode cX6_unlike 33 = .ok (.ireturn, 1) := by decide +kernel
theorem dX6_unlike_34 : decode cX6_unlike 34 = .ok (.aload_n 0, 1) := by decide +kernel
theorem dX6_unlike_35 : decode cX6_unlike 35 = .ok (.getfield 27, 3) := by decide +kernel
theorem dX6_unlike_38 : decode cX6_unlike 38 = .ok (.iload_n 2, 1) := by decide +kernel
theorem dX6_unlike_39 : decode cX6_unlike 39 = .ok (.iaload, 1) := by decide +kernel
theorem dX6_unlike_40 : decode cX6_unlike 40 = .ok (.aload_n 0, 1) := by decide +kernel
theorem dX6_unlike_41 : decode cX6_unlike 41 = .ok (.getfield 7, 3) := by decide +kernel
theorem dX6_unlike_44 : decode cX6_unlike 44 = .ok (.if_icmp .eq 10, 3) := by decide +kernel
theorem dX6_unlike_47 : decode cX6_unlike 47 = .ok (.aload_n 0, 1) := by decide +kernel
theorem dX6_unlike_48 : decode cX6_unlike 48 = .ok (.bipush (-3), 2) := by decide +kernel
theorem dX6_unlike_50 : decode cX6_unlike 50 = .ok (.invokevirtual 93, 3) := by decide +kernel
theorem dX6_unlike_53 : decode cX6_unlike 53 = .ok (.ireturn, 1) := by decide +kernel
theorem dX6_unlike_54 : decode cX6_unlike 54 = .ok (.iconst 0, 1) := by decide +kernel
theorem dX6_unlike_55 : decode cX6_unlike 55 = .ok (.istore_n 3, 1) := by decide +kernel
theorem dX6_unlike_56 : decode cX6_unlike 56 = .ok (.iload_n 3, 1) := by decide +kernel
theorem dX6_unlike_57 : decode cX6_unlike 57 = .ok (.aload_n 0, 1) := by decide +kernel
theorem dX6_unlike_58 : decode cX6_unlike 58 = .ok (.invokevirtual 162, 3) := by decide +kernel
theorem dX6_unlike_61 : decode cX6_unlike 61 = .ok (.if_icmp .ge 25, 3) := by decide +kernel
theorem dX6_unlike_64 : decode cX6_unlike 64 = .ok (.aload_n 0, 1) := by decide +kernel
theorem dX6_unlike_65 : decode cX6_unlike 65 = .ok (.getfield 73, 3) := by decide +kernel
theorem dX6_unlike_68 : decode cX6_unlike 68 = .ok (.iload_n 3, 1) := by decide +kernel
theorem dX6_unlike_69 : decode cX6_unlike 69 = .ok (.aload_n 0, 1) := by decide +kernel
theorem dX6_unlike_70 : decode cX6_unlike 70 = .ok (.iload_n 3, 1) := by decide +kernel
theorem dX6_unlike_71 : decode cX6_unlike 71 = .ok (.aload_n 0, 1) := by decide +kernel
theorem dX6_unlike_72 : decode cX6_unlike 72 = .ok (.getfield 79, 3) := by decide +kernel
theorem dX6_unlike_75 : decode cX6_unlike 75 = .ok (.iconst (-1), 1) := by decide +kernel
theorem dX6_unlike_76 : decode cX6_unlike 76 = .ok (.invokevirtual 166, 3) := by decide +kernel
theorem dX6_unlike_79 : decode cX6_unlike 79 = .ok (.iastore, 1) := by decide +kernel
theorem dX6_unlike_80 : decode cX6_unlike 80 = .ok (.iinc 3 1, 3) := by decide +kernel
theorem dX6_unlike_83 : decode cX6_unlike 83 = .ok (.goto (-27), 3) := by decide +kernel
theorem dX6_unlike_86 : decode cX6_unlike 86 = .ok (.aload_n 0, 1) := by decide +kernel
theorem dX6_unlike_87 : decode cX6_unlike 87 = .ok (.bipush 29, 2) := by decide +kernel
theorem dX6_unlike_89 : decode cX6_unlike 89 = .ok (.invokevirtual 89, 3) := by decide +kernel
theorem dX6_unlike_92 : decode cX6_unlike 92 = .ok (.aload_n 0, 1) := by decide +kernel
theorem dX6_unlike_93 : decode cX6_unlike 93 = .ok (.iload_n 2, 1) := by decide +kernel
theorem dX6_unlike_94 : decode cX6_unlike 94 = .ok (.invokevirtual 97, 3) := by decide +kernel
theorem dX6_unlike_97 : decode cX6_unlike 97 = .ok (.iconst (-1), 1) := by decide +kernel
theorem dX6_unlike_98 : decode cX6_unlike 98 = .ok (.istore_n 3, 1) := by decide +kernel
theorem dX6_unlike_99 : decode cX6_unlike 99 = .ok (.aload_n 0, 1) := by decide +kernel
theorem dX6_unlike_100 : decode cX6_unlike 100 = .ok (.invokevirtual 162, 3) := by decide +kernel
theorem dX6_unlike_103 : decode cX6_unlike 103 = .ok (.iconst 1, 1) := by decide +kernel
theorem dX6_unlike_104 : decode cX6_unlike 104 = .ok (.isub, 1) := by decide +kernel
theorem dX6_unlike_105 : decode cX6_unlike 105 = .ok (.istore 4, 2) := by decide +kernel
theorem dX6_unlike_107 : decode cX6_unlike 107 = .ok (.iload 4, 2) := by decide +kernel
theorem dX6_unlike_109 : decode cX6_unlike 109 = .ok (.ifCond .lt 33, 3) := by decide +kernel
theorem dX6_unlike_112 : decode cX6_unlike 112 = .ok (.aload_n 0, 1) := by decide +kernel
theorem dX6_unlike_113 : decode cX6_unlike 113 = .ok (.iload 4, 2) := by decide +kernel
theorem dX6_unlike_115 : decode cX6_unlike 115 = .ok (.aload_n 0, 1) := by decide +kernel
theorem dX6_unlike_116 : decode cX6_unlike 116 = .ok (.getfield 79, 3) := by decide +kernel
theorem dX6_unlike_119 : decode cX6_unlike 119 = .ok (.iconst (-1), 1) := by decide +kernel
theorem dX6_unlike_120 : decode cX6_unlike 120 = .ok (.invokevirtual 166, 3) := by decide +kernel
theorem dX6_unlike_123 : decode cX6_unlike 123 = .ok (.aload_n 0, 1) := by decide +kernel
theorem dX6_unlike_124 : decode cX6_unlike 124 = .ok (.getfield 73, 3) := by decide +kernel
theorem dX6_unlike_127 : decode cX6_unlike 127 = .ok (.iload 4, 2) := by decide +kernel
theorem dX6_unlike_129 : decode cX6_unlike 129 = .ok (.iaload, 1) := by decide +kernel
theorem dX6_unlike_130 : decode cX6_unlike 130 = .ok (.if_icmp .eq 6, 3) := by decide +kernel
theorem dX6_unlike_133 : decode cX6_unlike 133 = .ok (.iload 4, 2) := by decide +kernel
theorem dX6_unlike_135 : decode cX6_unlike 135 = .ok (.istore_n 3, 1) := by decide +kernel
theorem dX6_unlike_136 : decode cX6_unlike 136 = .ok (.iinc 4 (-1), 3) := by decide +kernel
theorem dX6_unlike_139 : decode cX6_unlike 139 = .ok (.goto (-32), 3) := by decide +kernel
theorem dX6_unlike_142 : decode cX6_unlike 142 = .ok (.aload_n 0, 1) := by decide +kernel
theorem dX6_unlike_143 : decode cX6_unlike 143 = .ok (.bipush 29, 2) := by decide +kernel
theorem dX6_unlike_145 : decode cX6_unlike 145 = .ok (.invokevirtual 97, 3) := by decide +kernel
theorem dX6_unlike_148 : decode cX6_unlike 148 = .ok (.iload_n 3, 1) := by decide +kernel
theorem dX6_unlike_149 : decode cX6_unlike 149 = .ok (.ifCond .ge 12, 3) := by decide +kernel
theorem dX6_unlike_152 : decode cX6_unlike 152 = .ok (.aload_n 0, 1) := by decide +kernel
theorem dX6_unlike_153 : decode cX6_unlike 153 = .ok (.bipush (-8), 2) := by decide +kernel
theorem dX6_unlike_155 : decode cX6_unlike 155 = .ok (.invokevirtual 93, 3) := by decide +kernel
theorem dX6_unlike_158 : decode cX6_unlike 158 = .ok (.goto 4, 3) := by decide +kernel
theorem dX6_unlike_161 : decode cX6_unlike 161 = .ok (.iload_n 3, 1) := by decide +kernel
theorem dX6_unlike_162 : decode cX6_unlike 162 = .ok (.ireturn, 1) := by decide +kernel
set_option maxRecDepth 20000 in
theorem ggX6_tell_X6_found : GoodIn wsX6_tell wsX6_found := goodIn_r _ [7, 8, 9, 10, 11, 12, 13, 14, 15, 16, 17, 18, 19, 20, 21, 22, 23, 24, 25, 26, 27, 28, 29, 30, 31, 32, 33] (by decide +kernel) (by decide +kernel)
set_option maxRecDepth 20000 in
theorem gX6_tell_X6_found : GoodIn wsX6_tell (wsV RX6 93 RX6 yX6_found wsX6_found) := goodIn_app (goodIn_of _ (by decide +kernel)) ggX6_tell_X6_found
theorem dX6_tell_0 : decode cX6_tell 0 = .ok (.aload_n 0, 1) := by decide +kernel
theorem dX6_tell_1 : decode cX6_tell 1 = .ok (.getfield 193, 3) := by decide +kernel
theorem dX6_tell_4 : decode cX6_tell 4 = .ok (.bipush 80, 2) := by decide +kernel
theorem dX6_tell_6 : decode cX6_tell 6 = .ok (.if_icmp .ne 10, 3) := by decide +kernel
theorem dX6_tell_9 : decode cX6_tell 9 = .ok (.aload_n 0, 1) := by decide +kernel
theorem dX6_tell_10 : decode cX6_tell 10 = .ok (.bipush (-5), 2) := by decide +kernel
theorem dX6_tell_12 : decode cX6_tell 12 = .ok (.invokevirtual 93, 3) := by decide +kernel
theorem dX6_tell_15 : decode cX6_tell 15 = .ok (.ireturn, 1) := by decide +kernel
theorem dX6_tell_16 : decode cX6_tell 16 = .ok (.aload_n 0, 1) := by decide +kernel
theorem dX6_tell_17 : decode cX6_tell 17 = .ok (.getfield 55, 3) := by decide +kernel
theorem dX6_tell_20 : decode cX6_tell 20 = .ok (.aload_n 0, 1) := by decide +kernel
theorem dX6_tell_21 : decode cX6_tell 21 = .ok (.getfield 193, 3) := by decide +kernel
theorem dX6_tell_24 : decode cX6_tell 24 = .ok (.iload_n 1, 1) := by decide +kernel
theorem dX6_tell_25 : decode cX6_tell 25 = .ok (.iastore, 1) := by decide +kernel
theorem dX6_tell_26 : decode cX6_tell 26 = .ok (.aload_n 0, 1) := by decide +kernel
theorem dX6_tell_27 : decode cX6_tell 27 = .ok (.dup, 1) := by decide +kernel
theorem dX6_tell_28 : decode cX6_tell 28 = .ok (.getfield 193, 3) := by decide +kernel
theorem dX6_tell_31 : decode cX6_tell 31 = .ok (.iconst 1, 1) := by decide +kernel
theorem dX6_tell_32 : decode cX6_tell 32 = .ok (.iadd, 1) := by decide +kernel
theorem dX6_tell_33 : decode cX6_tell 33 = .ok (.putfield 193, 3) := by decide +kernel
theorem dX6_tell_36 : decode cX6_tell 36 = .ok (.aload_n 0, 1) := by decide +kernel
theorem dX6_tell_37 : decode cX6_tell 37 = .ok (.getfield 193, 3) := by decide +kernel
theorem dX6_tell_40 : decode cX6_tell 40 = .ok (.ireturn, 1) := by decide +kernel
set_option maxRecDepth 20000 in
theorem ggX6_would_X6_found : GoodIn wsX6_would wsX6_found := goodIn_r _ [8, 9, 41, 42, 43, 44, 45, 46, 47, 48, 49, 50, 51, 52, 53, 54, 55, 56, 57, 58, 59, 60, 61, 62, 63, 64, 65] (by decide +kernel) (by decide +kernel)
set_option maxRecDepth 20000 in
theorem gX6_would_X6_found : GoodIn wsX6_would (wsV RX6 93 RX6 yX6_found wsX6_found) := goodIn_app (goodIn_of _ (by decide +kernel)) ggX6_would_X6_found
set_option maxRecDepth 20000 in
theorem ggX6_would_X6_isLane : GoodIn wsX6_would wsX6_isLane := goodIn_r _ [13, 14, 15, 16, 7, 17, 41, 42, 43, 44, 45, 46, 47, 48, 49, 50, 51, 52, 53, 54, 55, 56, 57, 58, 59, 60, 61, 62, 63, 64, 65] (by decide +kernel) (by decide +kernel)
set_option maxRecDepth 20000 in
theorem gX6_would_X6_isLane : GoodIn wsX6_would (wsV RX6 103 RX6 yX6_isLane wsX6_isLane) := goodIn_app (goodIn_of _ (by decide +kernel)) ggX6_would_X6_isLane
set_option maxRecDepth 20000 in
theorem ggX6_would_X6_rows : GoodIn wsX6_would wsX6_rows := goodIn_r _ [21, 14, 41, 42, 43, 44, 45, 46, 47, 48, 49, 50, 51, 52, 53, 54, 55, 56, 57, 58, 59, 60, 61, 62, 63, 64, 65] (by decide +kernel) (by decide +kernel)
set_option maxRecDepth 20000 in
theorem gX6_would_X6_rows : GoodIn wsX6_would (wsV RX6 162 RX6 yX6_rows wsX6_rows) := goodIn_app (goodIn_of _ (by decide +kernel)) ggX6_would_X6_rows
set_option maxRecDepth 20000 in
theorem ggX6_would_X6_goes : GoodIn wsX6_would wsX6_goes := goodIn_r _ [25, 26, 27, 28, 29, 7, 30, 31, 32, 33, 34, 35, 36, 41, 42, 43, 44, 45, 46, 47, 48, 49, 50, 51, 52, 53, 54, 55, 56, 57, 58, 59, 60, 61, 62, 63, 64, 65] (by decide +kernel) (by decide +kernel)
set_option maxRecDepth 20000 in
theorem gX6_would_X6_goes : GoodIn wsX6_would (wsV RX6 166 RX6 yX6_goes wsX6_goes) := goodIn_app (goodIn_of _ (by decide +kernel)) ggX6_would_X6_goes
set_option maxRecDepth 20000 in
theorem ggX6_would_X6_at : GoodIn wsX6_would wsX6_at := goodIn_r _ [30] (by decide +kernel) (by decide +kernel)
set_option maxRecDepth 20000 in
theorem gX6_would_X6_at : GoodIn wsX6_would (va_wsS RX6 159 yX6_at wsX6_at) := goodIn_app (goodIn_of _ (by decide +kernel)) ggX6_would_X6_at
set_option maxRecDepth 20000 in
theorem ggX6_would_X6_isRising : GoodIn wsX6_would wsX6_isRising := goodIn_r _ [40, 14, 28, 29, 7, 30, 41, 42, 43, 44, 45, 46, 47, 48, 49, 50, 51, 52, 53, 54, 55, 56, 57, 58, 59, 60, 61, 62, 63, 64, 65] (by decide +kernel) (by decide +kernel)
set_option maxRecDepth 20000 in
theorem gX6_would_X6_isRising : GoodIn wsX6_would (wsV RX6 169 RX6 yX6_isRising wsX6_isRising) := goodIn_app (goodIn_of _ (by decide +kernel)) ggX6_would_X6_isRising
theorem dX6_would_0 : decode cX6_would 0 = .ok (.aload_n 0, 1) := by decide +kernel
theorem dX6_would_1 : decode cX6_would 1 = .ok (.getfield 193, 3) := by decide +kernel
theorem dX6_would_4 : decode cX6_would 4 = .ok (.istore_n 1, 1) := by decide +kernel
theorem dX6_would_5 : decode cX6_would 5 = .ok (.aload_n 0, 1) := by decide +kernel
theorem dX6_would_6 : decode cX6_would 6 = .ok (.iconst 0, 1) := by decide +kernel
theorem dX6_would_7 : decode cX6_would 7 = .ok (.putfield 193, 3) := by decide +kernel
theorem dX6_would_10 : decode cX6_would 10 = .ok (.iload_n 1, 1) := by decide +kernel
theorem dX6_would_11 : decode cX6_would 11 = .ok (.iconst 2, 1) := by decide +kernel
theorem dX6_would_12 : decode cX6_would 12 = .ok (.irem, 1) := by decide +kernel
theorem dX6_would_13 : decode cX6_would 13 = .ok (.ifCond .eq 10, 3) := by decide +kernel
theorem dX6_would_16 : decode cX6_would 16 = .ok (.aload_n 0, 1) := by decide +kernel
theorem dX6_would_17 : decode cX6_would 17 = .ok (.bipush (-3), 2) := by decide +kernel
theorem dX6_would_19 : decode cX6_would 19 = .ok (.invokevirtual 93, 3) := by decide +kernel
theorem dX6_would_22 : decode cX6_would 22 = .ok (.ireturn, 1) := by decide +kernel
theorem dX6_would_23 : decode cX6_would 23 = .ok (.iconst 0, 1) := by decide +kernel
theorem dX6_would_24 : decode cX6_would 24 = .ok (.istore_n 2, 1) := by decide +kernel
theorem dX6_would_25 : decode cX6_would 25 = .ok (.iload_n 2, 1) := by decide +kernel
theorem dX6_would_26 : decode cX6_would 26 = .ok (.iload_n 1, 1) := by decide +kernel
theorem dX6_would_27 : decode cX6_would 27 = .ok (.if_icmp .ge 60, 3) := by decide +kernel
theorem dX6_would_30 : decode cX6_would 30 = .ok (.aload_n 0, 1) := by decide +kernel
theorem dX6_would_31 : decode cX6_would 31 = .ok (.aload_n 0, 1) := by decide +kernel
theorem dX6_would_32 : decode cX6_would 32 = .ok (.getfield 55, 3) := by decide +kernel
theorem dX6_would_35 : decode cX6_would 35 = .ok (.iload_n 2, 1) := by decide +kernel
theorem dX6_would_36 : decode cX6_would 36 = .ok (.iaload, 1) := by decide +kernel
theorem dX6_would_37 : decode cX6_would 37 = .ok (.invokevirtual 103, 3) := by decide +kernel
theorem dX6_would_40 : decode cX6_would 40 = .ok (.ifCond .eq 35, 3) := by decide +kernel
theorem dX6_would_43 : decode cX6_would 43 = .ok (.aload_n 0, 1) := by decide +kernel
theorem dX6_would_44 : decode cX6_would 44 = .ok (.aload_n 0, 1) := by decide +kernel
theorem dX6_would_45 : decode cX6_would 45 = .ok (.getfield 55, 3) := by decide +kernel
theorem dX6_would_48 : decode cX6_would 48 = .ok (.iload_n 2, 1) := by decide +kernel
theorem dX6_would_49 : decode cX6_would 49 = .ok (.iconst 1, 1) := by decide +kernel
theorem dX6_would_50 : decode cX6_would 50 = .ok (.iadd, 1) := by decide +kernel
theorem dX6_would_51 : decode cX6_would 51 = .ok (.iaload, 1) := by decide +kernel
theorem dX6_would_52 : decode cX6_would 52 = .ok (.invokevirtual 103, 3) := by decide +kernel
theorem dX6_would_55 : decode cX6_would 55 = .ok (.ifCond .eq 20, 3) := by decide +kernel
theorem dX6_would_58 : decode cX6_would 58 = .ok (.aload_n 0, 1) := by decide +kernel
theorem dX6_would_59 : decode cX6_would 59 = .ok (.getfield 55, 3) := by decide +kernel
theorem dX6_would_62 : decode cX6_would 62 = .ok (.iload_n 2, 1) := by decide +kernel
theorem dX6_would_63 : decode cX6_would 63 = .ok (.iaload, 1) := by decide +kernel
theorem dX6_would_64 : decode cX6_would 64 = .ok (.aload_n 0, 1) := by decide +kernel
theorem dX6_would_65 : decode cX6_would 65 = .ok (.getfield 55, 3) := by decide +kernel
theorem dX6_would_68 : decode cX6_would 68 = .ok (.iload_n 2, 1) := by decide +kernel
theorem dX6_would_69 : decode cX6_would 69 = .ok (.iconst 1, 1) := by decide +kernel
theorem dX6_would_70 : decode cX6_would 70 = .ok (.iadd, 1) := by decide +kernel
theorem dX6_would_71 : decode cX6_would 71 = .ok (.iaload, 1) := by decide +kernel
theorem dX6_would_72 : decode cX6_would 72 = .ok (.if_icmp .lt 9, 3) := by decide +kernel
theorem dX6_would_75 : decode cX6_would 75 = .ok (.aload_n 0, 1) := by decide +kernel
theorem dX6_would_76 : decode cX6_would 76 = .ok (.iconst (-1), 1) := by decide +kernel
theorem dX6_would_77 : decode cX6_would 77 = .ok (.invokevirtual 93, 3) := by decide +kernel
theorem dX6_would_80 : decode cX6_would 80 = .ok (.ireturn, 1) := by decide +kernel
theorem dX6_would_81 : decode cX6_would 81 = .ok (.iinc 2 2, 3) := by decide +kernel
theorem dX6_would_84 : decode cX6_would 84 = .ok (.goto (-59), 3) := by decide +kernel
theorem dX6_would_87 : decode cX6_would 87 = .ok (.iconst 0, 1) := by decide +kernel
theorem dX6_would_88 : decode cX6_would 88 = .ok (.istore_n 2, 1) := by decide +kernel
theorem dX6_would_89 : decode cX6_would 89 = .ok (.iload_n 2, 1) := by decide +kernel
theorem dX6_would_90 : decode cX6_would 90 = .ok (.aload_n 0, 1) := by decide +kernel
theorem dX6_would_91 : decode cX6_would 91 = .ok (.invokevirtual 162, 3) := by decide +kernel
theorem dX6_would_94 : decode cX6_would 94 = .ok (.if_icmp .ge 96, 3) := by decide +kernel
theorem dX6_would_97 : decode cX6_would 97 = .ok (.aload_n 0, 1) := by decide +kernel
theorem dX6_would_98 : decode cX6_would 98 = .ok (.iload_n 2, 1) := by decide +kernel
theorem dX6_would_99 : decode cX6_would 99 = .ok (.aload_n 0, 1) := by decide +kernel
theorem dX6_would_100 : decode cX6_would 100 = .ok (.getfield 79, 3) := by decide +kernel
theorem dX6_would_103 : decode cX6_would 103 = .ok (.iconst (-1), 1) := by decide +kernel
theorem dX6_would_104 : decode cX6_would 104 = .ok (.invokevirtual 166, 3) := by decide +kernel
theorem dX6_would_107 : decode cX6_would 107 = .ok (.istore_n 3, 1) := by decide +kernel
theorem dX6_would_108 : decode cX6_would 108 = .ok (.iconst 0, 1) := by decide +kernel
theorem dX6_would_109 : decode cX6_would 109 = .ok (.istore 4, 2) := by decide +kernel
theorem dX6_would_111 : decode cX6_would 111 = .ok (.iload 4, 2) := by decide +kernel
theorem dX6_would_113 : decode cX6_would 113 = .ok (.iload_n 1, 1) := by decide +kernel
theorem dX6_would_114 : decode cX6_would 114 = .ok (.if_icmp .ge 60, 3) := by decide +kernel
theorem dX6_would_117 : decode cX6_would 117 = .ok (.iload_n 3, 1) := by decide +kernel
theorem dX6_would_118 : decode cX6_would 118 = .ok (.aload_n 0, 1) := by decide +kernel
theorem dX6_would_119 : decode cX6_would 119 = .ok (.getfield 55, 3) := by decide +kernel
theorem dX6_would_122 : decode cX6_would 122 = .ok (.iload 4, 2) := by decide +kernel
theorem dX6_would_124 : decode cX6_would 124 = .ok (.iaload, 1) := by decide +kernel
theorem dX6_would_125 : decode cX6_would 125 = .ok (.invokestatic 159, 3) := by decide +kernel
theorem dX6_would_128 : decode cX6_would 128 = .ok (.iload_n 3, 1) := by decide +kernel
theorem dX6_would_129 : decode cX6_would 129 = .ok (.aload_n 0, 1) := by decide +kernel
theorem dX6_would_130 : decode cX6_would 130 = .ok (.getfield 55, 3) := by decide +kernel
theorem dX6_would_133 : decode cX6_would 133 = .ok (.iload 4, 2) := by decide +kernel
theorem dX6_would_135 : decode cX6_would 135 = .ok (.iconst 1, 1) := by decide +kernel
theorem dX6_would_136 : decode cX6_would 136 = .ok (.iadd, 1) := by decide +kernel
theorem dX6_would_137 : decode cX6_would 137 = .ok (.iaload, 1) := by decide +kernel
theorem dX6_would_138 : decode cX6_would 138 = .ok (.invokestatic 159, 3) := by decide +kernel
theorem dX6_would_141 : decode cX6_would 141 = .ok (.if_icmp .le 27, 3) := by decide +kernel
theorem dX6_would_144 : decode cX6_would 144 = .ok (.iload_n 3, 1) := by decide +kernel
theorem dX6_would_145 : decode cX6_would 145 = .ok (.iconst 1, 1) := by decide +kernel
theorem dX6_would_146 : decode cX6_would 146 = .ok (.aload_n 0, 1) := by decide +kernel
theorem dX6_would_147 : decode cX6_would 147 = .ok (.getfield 55, 3) := by decide +kernel
theorem dX6_would_150 : decode cX6_would 150 = .ok (.iload 4, 2) := by decide +kernel
theorem dX6_would_152 : decode cX6_would 152 = .ok (.iaload, 1) := by decide +kernel
theorem dX6_would_153 : decode cX6_would 153 = .ok (.ishl, 1) := by decide +kernel
theorem dX6_would_154 : decode cX6_would 154 = .ok (.ixor, 1) := by decide +kernel
theorem dX6_would_155 : decode cX6_would 155 = .ok (.iconst 1, 1) := by decide +kernel
theorem dX6_would_156 : decode cX6_would 156 = .ok (.aload_n 0, 1) := by decide +kernel
theorem dX6_would_157 : decode cX6_would 157 = .ok (.getfield 55, 3) := by decide +kernel
theorem dX6_would_160 : decode cX6_would 160 = .ok (.iload 4, 2) := by decide +kernel
theorem dX6_would_162 : decode cX6_would 162 = .ok (.iconst 1, 1) := by decide +kernel
theorem dX6_would_163 : decode cX6_would 163 = .ok (.iadd, 1) := by decide +kernel
theorem dX6_would_164 : decode cX6_would 164 = .ok (.iaload, 1) := by decide +kernel
theorem dX6_would_165 : decode cX6_would 165 = .ok (.ishl, 1) := by decide +kernel
theorem dX6_would_166 : decode cX6_would 166 = .ok (.ixor, 1) := by decide +kernel
theorem dX6_would_167 : decode cX6_would 167 = .ok (.istore_n 3, 1) := by decide +kernel
theorem dX6_would_168 : decode cX6_would 168 = .ok (.iinc 4 2, 3) := by decide +kernel
theorem dX6_would_171 : decode cX6_would 171 = .ok (.goto (-60), 3) := by decide +kernel
theorem dX6_would_174 : decode cX6_would 174 = .ok (.aload_n 0, 1) := by decide +kernel
theorem dX6_would_175 : decode cX6_would 175 = .ok (.iload_n 3, 1) := by decide +kernel
theorem dX6_would_176 : decode cX6_would 176 = .ok (.invokevirtual 169, 3) := by decide +kernel
theorem dX6_would_179 : decode cX6_would 179 = .ok (.ifCond .ne 5, 3) := by decide +kernel
theorem dX6_would_182 : decode cX6_would 182 = .ok (.iconst 0, 1) := by decide +kernel
theorem dX6_would_183 : decode cX6_would 183 = .ok (.ireturn, 1) := by decide +kernel
theorem dX6_would_184 : decode cX6_would 184 = .ok (.iinc 2 1, 3) := by decide +kernel
theorem dX6_would_187 : decode cX6_would 187 = .ok (.goto (-98), 3) := by decide +kernel
theorem dX6_would_190 : decode cX6_would 190 = .ok (.iconst 1, 1) := by decide +kernel
theorem dX6_would_191 : decode cX6_would 191 = .ok (.ireturn, 1) := by decide +kernel
set_option maxRecDepth 20000 in
theorem ggX6_told_X6_found : GoodIn wsX6_told wsX6_found := goodIn_r _ [9, 4, 10, 11, 12, 13, 14, 15, 16, 17, 18, 19, 20, 21, 22, 23, 24, 25, 26, 27, 28, 29, 30, 31, 32, 33, 34] (by decide +kernel) (by decide +kernel)
set_option maxRecDepth 20000 in
theorem gX6_told_X6_found : GoodIn wsX6_told (wsV RX6 93 RX6 yX6_found wsX6_found) := goodIn_app (goodIn_of _ (by decide +kernel)) ggX6_told_X6_found
theorem dX6_told_0 : decode cX6_told 0 = .ok (.iload_n 1, 1) := by decide +kernel
theorem dX6_told_1 : decode cX6_told 1 = .ok (.ifCond .ne 10, 3) := by decide +kernel
theorem dX6_told_4 : decode cX6_told 4 = .ok (.aload_n 0, 1) := by decide +kernel
theorem dX6_told_5 : decode cX6_told 5 = .ok (.getfield 7, 3) := by decide +kernel
theorem dX6_told_8 : decode cX6_told 8 = .ok (.goto 44, 3) := by decide +kernel
theorem dX6_told_11 : decode cX6_told 11 = .ok (.iload_n 1, 1) := by decide +kernel
theorem dX6_told_12 : decode cX6_told 12 = .ok (.iconst 1, 1) := by decide +kernel
theorem dX6_told_13 : decode cX6_told 13 = .ok (.if_icmp .ne 10, 3) := by decide +kernel
theorem dX6_told_16 : decode cX6_told 16 = .ok (.aload_n 0, 1) := by decide +kernel
theorem dX6_told_17 : decode cX6_told 17 = .ok (.getfield 79, 3) := by decide +kernel
theorem dX6_told_20 : decode cX6_told 20 = .ok (.goto 32, 3) := by decide +kernel
theorem dX6_told_23 : decode cX6_told 23 = .ok (.iload_n 1, 1) := by decide +kernel
theorem dX6_told_24 : decode cX6_told 24 = .ok (.iconst 2, 1) := by decide +kernel
theorem dX6_told_25 : decode cX6_told 25 = .ok (.if_icmp .ne 10, 3) := by decide +kernel
theorem dX6_told_28 : decode cX6_told 28 = .ok (.aload_n 0, 1) := by decide +kernel
theorem dX6_told_29 : decode cX6_told 29 = .ok (.getfield 193, 3) := by decide +kernel
theorem dX6_told_32 : decode cX6_told 32 = .ok (.goto 20, 3) := by decide +kernel
theorem dX6_told_35 : decode cX6_told 35 = .ok (.iload_n 1, 1) := by decide +kernel
theorem dX6_told_36 : decode cX6_told 36 = .ok (.iconst 3, 1) := by decide +kernel
theorem dX6_told_37 : decode cX6_told 37 = .ok (.if_icmp .ne 10, 3) := by decide +kernel
theorem dX6_told_40 : decode cX6_told 40 = .ok (.aload_n 0, 1) := by decide +kernel
theorem dX6_told_41 : decode cX6_told 41 = .ok (.getfield 76, 3) := by decide +kernel
theorem dX6_told_44 : decode cX6_told 44 = .ok (.goto 8, 3) := by decide +kernel
theorem dX6_told_47 : decode cX6_told 47 = .ok (.aload_n 0, 1) := by decide +kernel
theorem dX6_told_48 : decode cX6_told 48 = .ok (.iconst (-1), 1) := by decide +kernel
theorem dX6_told_49 : decode cX6_told 49 = .ok (.invokevirtual 93, 3) := by decide +kernel
theorem dX6_told_52 : decode cX6_told 52 = .ok (.ireturn, 1) := by decide +kernel
theorem dJ13_compare_74951_0 : decode cJ13_compare_74951 0 = .ok (.lload_n 0, 1) := by decide +kernel
theorem dJ13_compare_74951_1 : decode cJ13_compare_74951 1 = .ok (.lload_n 2, 1) := by decide +kernel
theorem dJ13_compare_74951_2 : decode cJ13_compare_74951 2 = .ok (.lcmp, 1) := by decide +kernel
theorem dJ13_compare_74951_3 : decode cJ13_compare_74951 3 = .ok (.ifCond .ge 7, 3) := by decide +kernel
theorem dJ13_compare_74951_6 : decode cJ13_compare_74951 6 = .ok (.iconst (-1), 1) := by decide +kernel
theorem dJ13_compare_74951_7 : decode cJ13_compare_74951 7 = .ok (.goto 14, 3) := by decide +kernel
theorem dJ13_compare_74951_10 : decode cJ13_compare_74951 10 = .ok (.lload_n 0, 1) := by decide +kernel
theorem dJ13_compare_74951_11 : decode cJ13_compare_74951 11 = .ok (.lload_n 2, 1) := by decide +kernel
theorem dJ13_compare_74951_12 : decode cJ13_compare_74951 12 = .ok (.lcmp, 1) := by decide +kernel
theorem dJ13_compare_74951_13 : decode cJ13_compare_74951 13 = .ok (.ifCond .ne 7, 3) := by decide +kernel
theorem dJ13_compare_74951_16 : decode cJ13_compare_74951 16 = .ok (.iconst 0, 1) := by decide +kernel
theorem dJ13_compare_74951_17 : decode cJ13_compare_74951 17 = .ok (.goto 4, 3) := by decide +kernel
theorem dJ13_compare_74951_20 : decode cJ13_compare_74951 20 = .ok (.iconst 1, 1) := by decide +kernel
theorem dJ13_compare_74951_21 : decode cJ13_compare_74951 21 = .ok (.ireturn, 1) := by decide +kernel
theorem dJ13_bitCount_95d88_0 : decode cJ13_bitCount_95d88 0 = .ok (.lload_n 0, 1) := by decide +kernel
theorem dJ13_bitCount_95d88_1 : decode cJ13_bitCount_95d88 1 = .ok (.lload_n 0, 1) := by decide +kernel
theorem dJ13_bitCount_95d88_2 : decode cJ13_bitCount_95d88 2 = .ok (.iconst 1, 1) := by decide +kernel
theorem dJ13_bitCount_95d88_3 : decode cJ13_bitCount_95d88 3 = .ok (.lushr, 1) := by decide +kernel
theorem dJ13_bitCount_95d88_4 : decode cJ13_bitCount_95d88 4 = .ok (.ldc2_w 314, 3) := by decide +kernel
theorem dJ13_bitCount_95d88_7 : decode cJ13_bitCount_95d88 7 = .ok (.land, 1) := by decide +kernel
theorem dJ13_bitCount_95d88_8 : decode cJ13_bitCount_95d88 8 = .ok (.lsub, 1) := by decide +kernel
theorem dJ13_bitCount_95d88_9 : decode cJ13_bitCount_95d88 9 = .ok (.lstore_n 0, 1) := by decide +kernel
theorem dJ13_bitCount_95d88_10 : decode cJ13_bitCount_95d88 10 = .ok (.lload_n 0, 1) := by decide +kernel
theorem dJ13_bitCount_95d88_11 : decode cJ13_bitCount_95d88 11 = .ok (.ldc2_w 316, 3) := by decide +kernel
theorem dJ13_bitCount_95d88_14 : decode cJ13_bitCount_95d88 14 = .ok (.land, 1) := by decide +kernel
theorem dJ13_bitCount_95d88_15 : decode cJ13_bitCount_95d88 15 = .ok (.lload_n 0, 1) := by decide +kernel
theorem dJ13_bitCount_95d88_16 : decode cJ13_bitCount_95d88 16 = .ok (.iconst 2, 1) := by decide +kernel
theorem dJ13_bitCount_95d88_17 : decode cJ13_bitCount_95d88 17 = .ok (.lushr, 1) := by decide +kernel
theorem dJ13_bitCount_95d88_18 : decode cJ13_bitCount_95d88 18 = .ok (.ldc2_w 316, 3) := by decide +kernel
theorem dJ13_bitCount_95d88_21 : decode cJ13_bitCount_95d88 21 = .ok (.land, 1) := by decide +kernel
theorem dJ13_bitCount_95d88_22 : decode cJ13_bitCount_95d88 22 = .ok (.ladd, 1) := by decide +kernel
theorem dJ13_bitCount_95d88_23 : decode cJ13_bitCount_95d88 23 = .ok (.lstore_n 0, 1) := by decide +kernel
theorem dJ13_bitCount_95d88_24 : decode cJ13_bitCount_95d88 24 = .ok (.lload_n 0, 1) := by decide +kernel
theorem dJ13_bitCount_95d88_25 : decode cJ13_bitCount_95d88 25 = .ok (.lload_n 0, 1) := by decide +kernel
theorem dJ13_bitCount_95d88_26 : decode cJ13_bitCount_95d88 26 = .ok (.iconst 4, 1) := by decide +kernel
theorem dJ13_bitCount_95d88_27 : decode cJ13_bitCount_95d88 27 = .ok (.lushr, 1) := by decide +kernel
theorem dJ13_bitCount_95d88_28 : decode cJ13_bitCount_95d88 28 = .ok (.ladd, 1) := by decide +kernel
theorem dJ13_bitCount_95d88_29 : decode cJ13_bitCount_95d88 29 = .ok (.ldc2_w 318, 3) := by decide +kernel
theorem dJ13_bitCount_95d88_32 : decode cJ13_bitCount_95d88 32 = .ok (.land, 1) := by decide +kernel
theorem dJ13_bitCount_95d88_33 : decode cJ13_bitCount_95d88 33 = .ok (.lstore_n 0, 1) := by decide +kernel
theorem dJ13_bitCount_95d88_34 : decode cJ13_bitCount_95d88 34 = .ok (.lload_n 0, 1) := by decide +kernel
theorem dJ13_bitCount_95d88_35 : decode cJ13_bitCount_95d88 35 = .ok (.lload_n 0, 1) := by decide +kernel
theorem dJ13_bitCount_95d88_36 : decode cJ13_bitCount_95d88 36 = .ok (.bipush 8, 2) := by decide +kernel
theorem dJ13_bitCount_95d88_38 : decode cJ13_bitCount_95d88 38 = .ok (.lushr, 1) := by decide +kernel
theorem dJ13_bitCount_95d88_39 : decode cJ13_bitCount_95d88 39 = .ok (.ladd, 1) := by decide +kernel
theorem dJ13_bitCount_95d88_40 : decode cJ13_bitCount_95d88 40 = .ok (.lstore_n 0, 1) := by decide +kernel
theorem dJ13_bitCount_95d88_41 : decode cJ13_bitCount_95d88 41 = .ok (.lload_n 0, 1) := by decide +kernel
theorem dJ13_bitCount_95d88_42 : decode cJ13_bitCount_95d88 42 = .ok (.lload_n 0, 1) := by decide +kernel
theorem dJ13_bitCount_95d88_43 : decode cJ13_bitCount_95d88 43 = .ok (.bipush 16, 2) := by decide +kernel
theorem dJ13_bitCount_95d88_45 : decode cJ13_bitCount_95d88 45 = .ok (.lushr, 1) := by decide +kernel
theorem dJ13_bitCount_95d88_46 : decode cJ13_bitCount_95d88 46 = .ok (.ladd, 1) := by decide +kernel
theorem dJ13_bitCount_95d88_47 : decode cJ13_bitCount_95d88 47 = .ok (.lstore_n 0, 1) := by decide +kernel
theorem dJ13_bitCount_95d88_48 : decode cJ13_bitCount_95d88 48 = .ok (.lload_n 0, 1) := by decide +kernel
theorem dJ13_bitCount_95d88_49 : decode cJ13_bitCount_95d88 49 = .ok (.lload_n 0, 1) := by decide +kernel
theorem dJ13_bitCount_95d88_50 : decode cJ13_bitCount_95d88 50 = .ok (.bipush 32, 2) := by decide +kernel
theorem dJ13_bitCount_95d88_52 : decode cJ13_bitCount_95d88 52 = .ok (.lushr, 1) := by decide +kernel
theorem dJ13_bitCount_95d88_53 : decode cJ13_bitCount_95d88 53 = .ok (.ladd, 1) := by decide +kernel
theorem dJ13_bitCount_95d88_54 : decode cJ13_bitCount_95d88 54 = .ok (.lstore_n 0, 1) := by decide +kernel
theorem dJ13_bitCount_95d88_55 : decode cJ13_bitCount_95d88 55 = .ok (.lload_n 0, 1) := by decide +kernel
theorem dJ13_bitCount_95d88_56 : decode cJ13_bitCount_95d88 56 = .ok (.l2i, 1) := by decide +kernel
theorem dJ13_bitCount_95d88_57 : decode cJ13_bitCount_95d88 57 = .ok (.bipush 127, 2) := by decide +kernel
theorem dJ13_bitCount_95d88_59 : decode cJ13_bitCount_95d88 59 = .ok (.iand, 1) := by decide +kernel
theorem dJ13_bitCount_95d88_60 : decode cJ13_bitCount_95d88 60 = .ok (.ireturn, 1) := by decide +kernel
theorem dJ9_max_7cf53_0 : decode cJ9_max_7cf53 0 = .ok (.iload_n 0, 1) := by decide +kernel
theorem dJ9_max_7cf53_1 : decode cJ9_max_7cf53 1 = .ok (.iload_n 1, 1) := by decide +kernel
theorem dJ9_max_7cf53_2 : decode cJ9_max_7cf53 2 = .ok (.if_icmp .lt 7, 3) := by decide +kernel
theorem dJ9_max_7cf53_5 : decode cJ9_max_7cf53 5 = .ok (.iload_n 0, 1) := by decide +kernel
theorem dJ9_max_7cf53_6 : decode cJ9_max_7cf53 6 = .ok (.goto 4, 3) := by decide +kernel
theorem dJ9_max_7cf53_9 : decode cJ9_max_7cf53 9 = .ok (.iload_n 1, 1) := by decide +kernel
theorem dJ9_max_7cf53_10 : decode cJ9_max_7cf53 10 = .ok (.ireturn, 1) := by decide +kernel
theorem dJ9_min_7cf53_0 : decode cJ9_min_7cf53 0 = .ok (.iload_n 0, 1) := by decide +kernel
theorem dJ9_min_7cf53_1 : decode cJ9_min_7cf53 1 = .ok (.iload_n 1, 1) := by decide +kernel
theorem dJ9_min_7cf53_2 : decode cJ9_min_7cf53 2 = .ok (.if_icmp .gt 7, 3) := by decide +kernel
theorem dJ9_min_7cf53_5 : decode cJ9_min_7cf53 5 = .ok (.iload_n 0, 1) := by decide +kernel
theorem dJ9_min_7cf53_6 : decode cJ9_min_7cf53 6 = .ok (.goto 4, 3) := by decide +kernel
theorem dJ9_min_7cf53_9 : decode cJ9_min_7cf53 9 = .ok (.iload_n 1, 1) := by decide +kernel
theorem dJ9_min_7cf53_10 : decode cJ9_min_7cf53 10 = .ok (.ireturn, 1) := by decide +kernel
