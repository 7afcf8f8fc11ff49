set_option maxRecDepth 20000 in
theorem ggX6_run_X6_found : GoodIn wsX6_run wsX6_found := goodIn_r _ [18, 19, 36, 37, 38, 39, 40, 41, 42, 43, 44, 45, 46, 47, 48, 49, 50, 51, 52, 53, 54, 55, 56, 57, 58, 59, 60] (by decide +kernel) (by decide +kernel)
set_option maxRecDepth 20000 in
theorem gX6_run_X6_found : GoodIn wsX6_run (wsV RX6 93 RX6 yX6_found wsX6_found) := goodIn_app (goodIn_of _ (by decide +kernel)) ggX6_run_X6_found
set_option maxRecDepth 20000 in
theorem ggX6_run_X6_against : GoodIn wsX6_run wsX6_against := goodIn_r _ [23, 24, 25, 26, 10, 27, 7, 1, 28, 29, 36, 37, 38, 39, 40, 41, 42, 43, 44, 45, 46, 47, 48, 49, 50, 51, 52, 53, 54, 55, 56, 57, 58, 59, 60] (by decide +kernel) (by decide +kernel)
set_option maxRecDepth 20000 in
theorem gX6_run_X6_against : GoodIn wsX6_run (wsV RX6 151 RX6 yX6_against wsX6_against) := goodIn_app (goodIn_of _ (by decide +kernel)) ggX6_run_X6_against
set_option maxRecDepth 20000 in
theorem ggX6_run_X6_changes : GoodIn wsX6_run wsX6_changes := goodIn_r _ [33, 34, 35, 36, 37, 38, 39, 40, 41, 42, 43, 44, 45, 46, 47, 48, 49, 50, 51, 52, 53, 54, 55, 56, 57, 58, 59, 60] (by decide +kernel) (by decide +kernel)
set_option maxRecDepth 20000 in
theorem gX6_run_X6_changes : GoodIn wsX6_run (wsV RX6 155 RX6 yX6_changes wsX6_changes) := goodIn_app (goodIn_of _ (by decide +kernel)) ggX6_run_X6_changes
theorem dX6_run_0 : decode cX6_run 0 = .ok (.iload_n 1, 1) := by decide +kernel
theorem dX6_run_1 : decode cX6_run 1 = .ok (.invokestatic 120, 3) := by decide +kernel
theorem dX6_run_4 : decode cX6_run 4 = .ok (.ifCond .ne 9, 3) := by decide +kernel
theorem dX6_run_7 : decode cX6_run 7 = .ok (.aload_n 0, 1) := by decide +kernel
theorem dX6_run_8 : decode cX6_run 8 = .ok (.iconst (-1), 1) := by decide +kernel
theorem dX6_run_9 : decode cX6_run 9 = .ok (.invokevirtual 93, 3) := by decide +kernel
theorem dX6_run_12 : decode cX6_run 12 = .ok (.ireturn, 1) := by decide +kernel
theorem dX6_run_13 : decode cX6_run 13 = .ok (.aload_n 0, 1) := by decide +kernel
theorem dX6_run_14 : decode cX6_run 14 = .ok (.getfield 45, 3) := by decide +kernel
theorem dX6_run_17 : decode cX6_run 17 = .ok (.iload_n 1, 1) := by decide +kernel
theorem dX6_run_18 : decode cX6_run 18 = .ok (.iaload, 1) := by decide +kernel
theorem dX6_run_19 : decode cX6_run 19 = .ok (.ifCond .ne 10, 3) := by decide +kernel
theorem dX6_run_22 : decode cX6_run 22 = .ok (.aload_n 0, 1) := by decide +kernel
theorem dX6_run_23 : decode cX6_run 23 = .ok (.bipush (-2), 2) := by decide +kernel
theorem dX6_run_25 : decode cX6_run 25 = .ok (.invokevirtual 93, 3) := by decide +kernel
theorem dX6_run_28 : decode cX6_run 28 = .ok (.ireturn, 1) := by decide +kernel
theorem dX6_run_29 : decode cX6_run 29 = .ok (.aload_n 0, 1) := by decide +kernel
theorem dX6_run_30 : decode cX6_run 30 = .ok (.getfield 48, 3) := by decide +kernel
theorem dX6_run_33 : decode cX6_run 33 = .ok (.iload_n 1, 1) := by decide +kernel
theorem dX6_run_34 : decode cX6_run 34 = .ok (.iaload, 1) := by decide +kernel
theorem dX6_run_35 : decode cX6_run 35 = .ok (.aload_n 0, 1) := by decide +kernel
theorem dX6_run_36 : decode cX6_run 36 = .ok (.getfield 7, 3) := by decide +kernel
theorem dX6_run_39 : decode cX6_run 39 = .ok (.if_icmp .ge 10, 3) := by decide +kernel
theorem dX6_run_42 : decode cX6_run 42 = .ok (.aload_n 0, 1) := by decide +kernel
theorem dX6_run_43 : decode cX6_run 43 = .ok (.bipush (-3), 2) := by decide +kernel
theorem dX6_run_45 : decode cX6_run 45 = .ok (.invokevirtual 93, 3) := by decide +kernel
theorem dX6_run_48 : decode cX6_run 48 = .ok (.ireturn, 1) := by decide +kernel
theorem dX6_run_49 : decode cX6_run 49 = .ok (.iconst 0, 1) := by decide +kernel
theorem dX6_run_50 : decode cX6_run 50 = .ok (.istore_n 2, 1) := by decide +kernel
theorem dX6_run_51 : decode cX6_run 51 = .ok (.iconst 0, 1) := by decide +kernel
theorem dX6_run_52 : decode cX6_run 52 = .ok (.istore_n 3, 1) := by decide +kernel
theorem dX6_run_53 : decode cX6_run 53 = .ok (.iload_n 3, 1) := by decide +kernel
theorem dX6_run_54 : decode cX6_run 54 = .ok (.aload_n 0, 1) := by decide +kernel
theorem dX6_run_55 : decode cX6_run 55 = .ok (.getfield 79, 3) := by decide +kernel
theorem dX6_run_58 : decode cX6_run 58 = .ok (.if_icmp .ge 108, 3) := by decide +kernel
theorem dX6_run_61 : decode cX6_run 61 = .ok (.aload_n 0, 1) := by decide +kernel
theorem dX6_run_62 : decode cX6_run 62 = .ok (.iload_n 3, 1) := by decide +kernel
theorem dX6_run_63 : decode cX6_run 63 = .ok (.aload_n 0, 1) := by decide +kernel
theorem dX6_run_64 : decode cX6_run 64 = .ok (.iload_n 1, 1) := by decide +kernel
theorem dX6_run_65 : decode cX6_run 65 = .ok (.aload_n 0, 1) := by decide +kernel
theorem dX6_run_66 : decode cX6_run 66 = .ok (.getfield 17, 3) := by decide +kernel
theorem dX6_run_69 : decode cX6_run 69 = .ok (.iload_n 3, 1) := by decide +kernel
theorem dX6_run_70 : decode cX6_run 70 = .ok (.iaload, 1) := by decide +kernel
theorem dX6_run_71 : decode cX6_run 71 = .ok (.aload_n 0, 1) := by decide +kernel
theorem dX6_run_72 : decode cX6_run 72 = .ok (.getfield 20, 3) := by decide +kernel
theorem dX6_run_75 : decode cX6_run 75 = .ok (.iload_n 3, 1) := by decide +kernel
theorem dX6_run_76 : decode cX6_run 76 = .ok (.iaload, 1) := by decide +kernel
theorem dX6_run_77 : decode cX6_run 77 = .ok (.invokevirtual 151, 3) := by decide +kernel
theorem dX6_run_80 : decode cX6_run 80 = .ok (.invokevirtual 155, 3) := by decide +kernel
theorem dX6_run_83 : decode cX6_run 83 = .ok (.ifCond .ne 6, 3) := by decide +kernel
theorem dX6_run_86 : decode cX6_run 86 = .ok (.goto 74, 3) := by decide +kernel
theorem dX6_run_89 : decode cX6_run 89 = .ok (.aload_n 0, 1) := by decide +kernel
theorem dX6_run_90 : decode cX6_run 90 = .ok (.getfield 51, 3) := by decide +kernel
theorem dX6_run_93 : decode cX6_run 93 = .ok (.bipush 12, 2) := by decide +kernel
theorem dX6_run_95 : decode cX6_run 95 = .ok (.iload_n 1, 1) := by decide +kernel
theorem dX6_run_96 : decode cX6_run 96 = .ok (.imul, 1) := by decide +kernel
theorem dX6_run_97 : decode cX6_run 97 = .ok (.aload_n 0, 1) := by decide +kernel
theorem dX6_run_98 : decode cX6_run 98 = .ok (.getfield 17, 3) := by decide +kernel
theorem dX6_run_101 : decode cX6_run 101 = .ok (.iload_n 3, 1) := by decide +kernel
theorem dX6_run_102 : decode cX6_run 102 = .ok (.iaload, 1) := by decide +kernel
theorem dX6_run_103 : decode cX6_run 103 = .ok (.iadd, 1) := by decide +kernel
theorem dX6_run_104 : decode cX6_run 104 = .ok (.laload, 1) := by decide +kernel
theorem dX6_run_105 : decode cX6_run 105 = .ok (.lstore 4, 2) := by decide +kernel
theorem dX6_run_107 : decode cX6_run 107 = .ok (.aload_n 0, 1) := by decide +kernel
theorem dX6_run_108 : decode cX6_run 108 = .ok (.getfield 51, 3) := by decide +kernel
theorem dX6_run_111 : decode cX6_run 111 = .ok (.bipush 12, 2) := by decide +kernel
theorem dX6_run_113 : decode cX6_run 113 = .ok (.iload_n 1, 1) := by decide +kernel
theorem dX6_run_114 : decode cX6_run 114 = .ok (.imul, 1) := by decide +kernel
theorem dX6_run_115 : decode cX6_run 115 = .ok (.aload_n 0, 1) := by decide +kernel
theorem dX6_run_116 : decode cX6_run 116 = .ok (.getfield 17, 3) := by decide +kernel
theorem dX6_run_119 : decode cX6_run 119 = .ok (.iload_n 3, 1) := by decide +kernel
theorem dX6_run_120 : decode cX6_run 120 = .ok (.iaload, 1) := by decide +kernel
theorem dX6_run_121 : decode cX6_run 121 = .ok (.iadd, 1) := by decide +kernel
theorem dX6_run_122 : decode cX6_run 122 = .ok (.aload_n 0, 1) := by decide +kernel
theorem dX6_run_123 : decode cX6_run 123 = .ok (.getfield 51, 3) := by decide +kernel
theorem dX6_run_126 : decode cX6_run 126 = .ok (.bipush 12, 2) := by decide +kernel
theorem dX6_run_128 : decode cX6_run 128 = .ok (.iload_n 1, 1) := by decide +kernel
theorem dX6_run_129 : decode cX6_run 129 = .ok (.imul, 1) := by decide +kernel
theorem dX6_run_130 : decode cX6_run 130 = .ok (.aload_n 0, 1) := by decide +kernel
theorem dX6_run_131 : decode cX6_run 131 = .ok (.getfield 20, 3) := by decide +kernel
theorem dX6_run_134 : decode cX6_run 134 = .ok (.iload_n 3, 1) := by decide +kernel
theorem dX6_run_135 : decode cX6_run 135 = .ok (.iaload, 1) := by decide +kernel
theorem dX6_run_136 : decode cX6_run 136 = .ok (.iadd, 1) := by decide +kernel
theorem dX6_run_137 : decode cX6_run 137 = .ok (.laload, 1) := by decide +kernel
theorem dX6_run_138 : decode cX6_run 138 = .ok (.lastore, 1) := by decide +kernel
theorem dX6_run_139 : decode cX6_run 139 = .ok (.aload_n 0, 1) := by decide +kernel
theorem dX6_run_140 : decode cX6_run 140 = .ok (.getfield 51, 3) := by decide +kernel
theorem dX6_run_143 : decode cX6_run 143 = .ok (.bipush 12, 2) := by decide +kernel
theorem dX6_run_145 : decode cX6_run 145 = .ok (.iload_n 1, 1) := by decide +kernel
theorem dX6_run_146 : decode cX6_run 146 = .ok (.imul, 1) := by decide +kernel
theorem dX6_run_147 : decode cX6_run 147 = .ok (.aload_n 0, 1) := by decide +kernel
theorem dX6_run_148 : decode cX6_run 148 = .ok (.getfield 20, 3) := by decide +kernel
theorem dX6_run_151 : decode cX6_run 151 = .ok (.iload_n 3, 1) := by decide +kernel
theorem dX6_run_152 : decode cX6_run 152 = .ok (.iaload, 1) := by decide +kernel
theorem dX6_run_153 : decode cX6_run 153 = .ok (.iadd, 1) := by decide +kernel
theorem dX6_run_154 : decode cX6_run 154 = .ok (.lload 4, 2) := by decide +kernel
theorem dX6_run_156 : decode cX6_run 156 = .ok (.lastore, 1) := by decide +kernel
theorem dX6_run_157 : decode cX6_run 157 = .ok (.iinc 2 1, 3) := by decide +kernel
theorem dX6_run_160 : decode cX6_run 160 = .ok (.iinc 3 1, 3) := by decide +kernel
theorem dX6_run_163 : decode cX6_run 163 = .ok (.goto (-110), 3) := by decide +kernel
theorem dX6_run_166 : decode cX6_run 166 = .ok (.iload_n 2, 1) := by decide +kernel
theorem dX6_run_167 : decode cX6_run 167 = .ok (.ireturn, 1) := by decide +kernel
set_option maxRecDepth 20000 in
theorem ggX6_rises_X6_isCrate : GoodIn wsX6_rises wsX6_isCrate := goodIn_r _ [6, 7, 8, 5, 9] (by decide +kernel) (by decide +kernel)
set_option maxRecDepth 20000 in
theorem gX6_rises_X6_isCrate : GoodIn wsX6_rises (va_wsS RX6 120 yX6_isCrate wsX6_isCrate) := goodIn_app (goodIn_of _ (by decide +kernel)) ggX6_rises_X6_isCrate
set_option maxRecDepth 20000 in
theorem ggX6_rises_X6_found : GoodIn wsX6_rises wsX6_found := goodIn_r _ [13, 14, 26, 27, 28, 29, 30, 31, 32, 33, 34, 35, 36, 37, 38, 39, 40, 41, 42, 43, 44, 45, 46, 47, 48, 49, 50] (by decide +kernel) (by decide +kernel)
set_option maxRecDepth 20000 in
theorem gX6_rises_X6_found : GoodIn wsX6_rises (wsV RX6 93 RX6 yX6_found wsX6_found) := goodIn_app (goodIn_of _ (by decide +kernel)) ggX6_rises_X6_found
set_option maxRecDepth 20000 in
theorem ggX6_rises_X6_against : GoodIn wsX6_rises wsX6_against := goodIn_r _ [18, 19, 20, 21, 5, 22, 23, 1, 24, 25, 26, 27, 28, 29, 30, 31, 32, 33, 34, 35, 36, 37, 38, 39, 40, 41, 42, 43, 44, 45, 46, 47, 48, 49, 50] (by decide +kernel) (by decide +kernel)
set_option maxRecDepth 20000 in
theorem gX6_rises_X6_against : GoodIn wsX6_rises (wsV RX6 151 RX6 yX6_against wsX6_against) := goodIn_app (goodIn_of _ (by decide +kernel)) ggX6_rises_X6_against
theorem dX6_rises_0 : decode cX6_rises 0 = .ok (.iload_n 1, 1) := by decide +kernel
theorem dX6_rises_1 : decode cX6_rises 1 = .ok (.invokestatic 120, 3) := by decide +kernel
theorem dX6_rises_4 : decode cX6_rises 4 = .ok (.ifCond .ne 9, 3) := by decide +kernel
theorem dX6_rises_7 : decode cX6_rises 7 = .ok (.aload_n 0, 1) := by decide +kernel
theorem dX6_rises_8 : decode cX6_rises 8 = .ok (.iconst (-1), 1) := by decide +kernel
theorem dX6_rises_9 : decode cX6_rises 9 = .ok (.invokevirtual 93, 3) := by decide +kernel
theorem dX6_rises_12 : decode cX6_rises 12 = .ok (.ireturn, 1) := by decide +kernel
theorem dX6_rises_13 : decode cX6_rises 13 = .ok (.aload_n 0, 1) := by decide +kernel
theorem dX6_rises_14 : decode cX6_rises 14 = .ok (.getfield 45, 3) := by decide +kernel
theorem dX6_rises_17 : decode cX6_rises 17 = .ok (.iload_n 1, 1) := by decide +kernel
theorem dX6_rises_18 : decode cX6_rises 18 = .ok (.iaload, 1) := by decide +kernel
theorem dX6_rises_19 : decode cX6_rises 19 = .ok (.ifCond .ne 10, 3) := by decide +kernel
theorem dX6_rises_22 : decode cX6_rises 22 = .ok (.aload_n 0, 1) := by decide +kernel
theorem dX6_rises_23 : decode cX6_rises 23 = .ok (.bipush (-2), 2) := by decide +kernel
theorem dX6_rises_25 : decode cX6_rises 25 = .ok (.invokevirtual 93, 3) := by decide +kernel
theorem dX6_rises_28 : decode cX6_rises 28 = .ok (.ireturn, 1) := by decide +kernel
theorem dX6_rises_29 : decode cX6_rises 29 = .ok (.iconst 1, 1) := by decide +kernel
theorem dX6_rises_30 : decode cX6_rises 30 = .ok (.istore_n 2, 1) := by decide +kernel
theorem dX6_rises_31 : decode cX6_rises 31 = .ok (.iload_n 2, 1) := by decide +kernel
theorem dX6_rises_32 : decode cX6_rises 32 = .ok (.aload_n 0, 1) := by decide +kernel
theorem dX6_rises_33 : decode cX6_rises 33 = .ok (.getfield 48, 3) := by decide +kernel
theorem dX6_rises_36 : decode cX6_rises 36 = .ok (.iload_n 1, 1) := by decide +kernel
theorem dX6_rises_37 : decode cX6_rises 37 = .ok (.iaload, 1) := by decide +kernel
theorem dX6_rises_38 : decode cX6_rises 38 = .ok (.if_icmp .ge 23, 3) := by decide +kernel
theorem dX6_rises_41 : decode cX6_rises 41 = .ok (.aload_n 0, 1) := by decide +kernel
theorem dX6_rises_42 : decode cX6_rises 42 = .ok (.iload_n 1, 1) := by decide +kernel
theorem dX6_rises_43 : decode cX6_rises 43 = .ok (.iload_n 2, 1) := by decide +kernel
theorem dX6_rises_44 : decode cX6_rises 44 = .ok (.iconst 1, 1) := by decide +kernel
theorem dX6_rises_45 : decode cX6_rises 45 = .ok (.isub, 1) := by decide +kernel
theorem dX6_rises_46 : decode cX6_rises 46 = .ok (.iload_n 2, 1) := by decide +kernel
theorem dX6_rises_47 : decode cX6_rises 47 = .ok (.invokevirtual 151, 3) := by decide +kernel
theorem dX6_rises_50 : decode cX6_rises 50 = .ok (.ifCond .le 5, 3) := by decide +kernel
theorem dX6_rises_53 : decode cX6_rises 53 = .ok (.iconst 0, 1) := by decide +kernel
theorem dX6_rises_54 : decode cX6_rises 54 = .ok (.ireturn, 1) := by decide +kernel
theorem dX6_rises_55 : decode cX6_rises 55 = .ok (.iinc 2 1, 3) := by decide +kernel
theorem dX6_rises_58 : decode cX6_rises 58 = .ok (.goto (-27), 3) := by decide +kernel
theorem dX6_rises_61 : decode cX6_rises 61 = .ok (.iconst 1, 1) := by decide +kernel
theorem dX6_rises_62 : decode cX6_rises 62 = .ok (.ireturn, 1) := by decide +kernel
set_option maxRecDepth 20000 in
theorem ggX6_order_X6_lacks : GoodIn wsX6_order wsX6_lacks := goodIn_r _ [5, 6, 7, 8, 9, 4, 10, 11, 12, 13, 30, 31, 32, 33, 34, 35, 36, 37, 38, 39, 40, 41, 42, 43, 44, 45, 46, 47, 48, 49, 50, 51, 52, 53, 54] (by decide +kernel) (by decide +kernel)
set_option maxRecDepth 20000 in
theorem gX6_order_X6_lacks : GoodIn wsX6_order (wsV RX6 135 RX6 yX6_lacks wsX6_lacks) := goodIn_app (goodIn_of _ (by decide +kernel)) ggX6_order_X6_lacks
set_option maxRecDepth 20000 in
theorem ggX6_order_X6_found : GoodIn wsX6_order wsX6_found := goodIn_r _ [17, 18, 30, 31, 32, 33, 34, 35, 36, 37, 38, 39, 40, 41, 42, 43, 44, 45, 46, 47, 48, 49, 50, 51, 52, 53, 54] (by decide +kernel) (by decide +kernel)
set_option maxRecDepth 20000 in
theorem gX6_order_X6_found : GoodIn wsX6_order (wsV RX6 93 RX6 yX6_found wsX6_found) := goodIn_app (goodIn_of _ (by decide +kernel)) ggX6_order_X6_found
set_option maxRecDepth 20000 in
theorem ggX6_order_X6_against : GoodIn wsX6_order wsX6_against := goodIn_r _ [22, 23, 24, 25, 4, 26, 27, 6, 28, 29, 30, 31, 32, 33, 34, 35, 36, 37, 38, 39, 40, 41, 42, 43, 44, 45, 46, 47, 48, 49, 50, 51, 52, 53, 54] (by decide +kernel) (by decide +kernel)
set_option maxRecDepth 20000 in
theorem gX6_order_X6_against : GoodIn wsX6_order (wsV RX6 151 RX6 yX6_against wsX6_against) := goodIn_app (goodIn_of _ (by decide +kernel)) ggX6_order_X6_against
theorem dX6_order_0 : decode cX6_order 0 = .ok (.aload_n 0, 1) := by decide +kernel
theorem dX6_order_1 : decode cX6_order 1 = .ok (.iload_n 1, 1) := by decide +kernel
theorem dX6_order_2 : decode cX6_order 2 = .ok (.iload_n 2, 1) := by decide +kernel
theorem dX6_order_3 : decode cX6_order 3 = .ok (.invokevirtual 135, 3) := by decide +kernel
theorem dX6_order_6 : decode cX6_order 6 = .ok (.istore 4, 2) := by decide +kernel
theorem dX6_order_8 : decode cX6_order 8 = .ok (.iload 4, 2) := by decide +kernel
theorem dX6_order_10 : decode cX6_order 10 = .ok (.ifCond .ne 11, 3) := by decide +kernel
theorem dX6_order_13 : decode cX6_order 13 = .ok (.aload_n 0, 1) := by decide +kernel
theorem dX6_order_14 : decode cX6_order 14 = .ok (.iload_n 1, 1) := by decide +kernel
theorem dX6_order_15 : decode cX6_order 15 = .ok (.iload_n 3, 1) := by decide +kernel
theorem dX6_order_16 : decode cX6_order 16 = .ok (.invokevirtual 135, 3) := by decide +kernel
theorem dX6_order_19 : decode cX6_order 19 = .ok (.istore 4, 2) := by decide +kernel
theorem dX6_order_21 : decode cX6_order 21 = .ok (.iload 4, 2) := by decide +kernel
theorem dX6_order_23 : decode cX6_order 23 = .ok (.ifCond .ge 12, 3) := by decide +kernel
theorem dX6_order_26 : decode cX6_order 26 = .ok (.aload_n 0, 1) := by decide +kernel
theorem dX6_order_27 : decode cX6_order 27 = .ok (.iload 4, 2) := by decide +kernel
theorem dX6_order_29 : decode cX6_order 29 = .ok (.invokevirtual 93, 3) := by decide +kernel
theorem dX6_order_32 : decode cX6_order 32 = .ok (.goto 13, 3) := by decide +kernel
theorem dX6_order_35 : decode cX6_order 35 = .ok (.bipush 10, 2) := by decide +kernel
theorem dX6_order_37 : decode cX6_order 37 = .ok (.aload_n 0, 1) := by decide +kernel
theorem dX6_order_38 : decode cX6_order 38 = .ok (.iload_n 1, 1) := by decide +kernel
theorem dX6_order_39 : decode cX6_order 39 = .ok (.iload_n 2, 1) := by decide +kernel
theorem dX6_order_40 : decode cX6_order 40 = .ok (.iload_n 3, 1) := by decide +kernel
theorem dX6_order_41 : decode cX6_order 41 = .ok (.invokevirtual 151, 3) := by decide +kernel
theorem dX6_order_44 : decode cX6_order 44 = .ok (.iadd, 1) := by decide +kernel
theorem dX6_order_45 : decode cX6_order 45 = .ok (.ireturn, 1) := by decide +kernel
theorem dX6_at_0 : decode cX6_at 0 = .ok (.iload_n 0, 1) := by decide +kernel
theorem dX6_at_1 : decode cX6_at 1 = .ok (.iload_n 1, 1) := by decide +kernel
theorem dX6_at_2 : decode cX6_at 2 = .ok (.ishr, 1) := by decide +kernel
theorem dX6_at_3 : decode cX6_at 3 = .ok (.iconst 1, 1) := by decide +kernel
theorem dX6_at_4 : decode cX6_at 4 = .ok (.iand, 1) := by decide +kernel
theorem dX6_at_5 : decode cX6_at 5 = .ok (.ireturn, 1) := by decide +kernel
set_option maxRecDepth 20000 in
theorem ggX6_goes_X6_at : GoodIn wsX6_goes wsX6_at := goodIn_r _ [6] (by decide +kernel) (by decide +kernel)
set_option maxRecDepth 20000 in
theorem gX6_goes_X6_at : GoodIn wsX6_goes (va_wsS RX6 159 yX6_at wsX6_at) := goodIn_app (goodIn_of _ (by decide +kernel)) ggX6_goes_X6_at
set_option maxRecDepth 20000 in
theorem ggX6_goes_X6_changes : GoodIn wsX6_goes wsX6_changes := goodIn_r _ [10, 11, 12, 13, 14, 15, 16, 17, 18, 19, 20, 21, 22, 23, 24, 25, 26, 27, 28, 29, 30, 31, 32, 33, 34, 35, 36, 37] (by decide +kernel) (by decide +kernel)
set_option maxRecDepth 20000 in
theorem gX6_goes_X6_changes : GoodIn wsX6_goes (wsV RX6 155 RX6 yX6_changes wsX6_changes) := goodIn_app (goodIn_of _ (by decide +kernel)) ggX6_goes_X6_changes
theorem dX6_goes_0 : decode cX6_goes 0 = .ok (.iload_n 1, 1) := by decide +kernel
theorem dX6_goes_1 : decode cX6_goes 1 = .ok (.istore 4, 2) := by decide +kernel
theorem dX6_goes_3 : decode cX6_goes 3 = .ok (.iconst 0, 1) := by decide +kernel
theorem dX6_goes_4 : decode cX6_goes 4 = .ok (.istore 5, 2) := by decide +kernel
theorem dX6_goes_6 : decode cX6_goes 6 = .ok (.iload 5, 2) := by decide +kernel
theorem dX6_goes_8 : decode cX6_goes 8 = .ok (.iload_n 2, 1) := by decide +kernel
theorem dX6_goes_9 : decode cX6_goes 9 = .ok (.if_icmp .ge 85, 3) := by decide +kernel
theorem dX6_goes_12 : decode cX6_goes 12 = .ok (.iload 4, 2) := by decide +kernel
theorem dX6_goes_14 : decode cX6_goes 14 = .ok (.aload_n 0, 1) := by decide +kernel
theorem dX6_goes_15 : decode cX6_goes 15 = .ok (.getfield 17, 3) := by decide +kernel
theorem dX6_goes_18 : decode cX6_goes 18 = .ok (.iload 5, 2) := by decide +kernel
theorem dX6_goes_20 : decode cX6_goes 20 = .ok (.iaload, 1) := by decide +kernel
theorem dX6_goes_21 : decode cX6_goes 21 = .ok (.invokestatic 159, 3) := by decide +kernel
theorem dX6_goes_24 : decode cX6_goes 24 = .ok (.iload 4, 2) := by decide +kernel
theorem dX6_goes_26 : decode cX6_goes 26 = .ok (.aload_n 0, 1) := by decide +kernel
theorem dX6_goes_27 : decode cX6_goes 27 = .ok (.getfield 20, 3) := by decide +kernel
theorem dX6_goes_30 : decode cX6_goes 30 = .ok (.iload 5, 2) := by decide +kernel
theorem dX6_goes_32 : decode cX6_goes 32 = .ok (.iaload, 1) := by decide +kernel
theorem dX6_goes_33 : decode cX6_goes 33 = .ok (.invokestatic 159, 3) := by decide +kernel
theorem dX6_goes_36 : decode cX6_goes 36 = .ok (.isub, 1) := by decide +kernel
theorem dX6_goes_37 : decode cX6_goes 37 = .ok (.istore 6, 2) := by decide +kernel
theorem dX6_goes_39 : decode cX6_goes 39 = .ok (.iload 5, 2) := by decide +kernel
theorem dX6_goes_41 : decode cX6_goes 41 = .ok (.iload_n 3, 1) := by decide +kernel
theorem dX6_goes_42 : decode cX6_goes 42 = .ok (.if_icmp .eq 46, 3) := by decide +kernel
theorem dX6_goes_45 : decode cX6_goes 45 = .ok (.aload_n 0, 1) := by decide +kernel
theorem dX6_goes_46 : decode cX6_goes 46 = .ok (.iload 5, 2) := by decide +kernel
theorem dX6_goes_48 : decode cX6_goes 48 = .ok (.iload 6, 2) := by decide +kernel
theorem dX6_goes_50 : decode cX6_goes 50 = .ok (.invokevirtual 155, 3) := by decide +kernel
theorem dX6_goes_53 : decode cX6_goes 53 = .ok (.ifCond .eq 35, 3) := by decide +kernel
theorem dX6_goes_56 : decode cX6_goes 56 = .ok (.iload 6, 2) := by decide +kernel
theorem dX6_goes_58 : decode cX6_goes 58 = .ok (.ifCond .ne 6, 3) := by decide +kernel
theorem dX6_goes_61 : decode cX6_goes 61 = .ok (.goto 27, 3) := by decide +kernel
theorem dX6_goes_64 : decode cX6_goes 64 = .ok (.iload 4, 2) := by decide +kernel
theorem dX6_goes_66 : decode cX6_goes 66 = .ok (.iconst 1, 1) := by decide +kernel
theorem dX6_goes_67 : decode cX6_goes 67 = .ok (.aload_n 0, 1) := by decide +kernel
theorem dX6_goes_68 : decode cX6_goes 68 = .ok (.getfield 17, 3) := by decide +kernel
theorem dX6_goes_71 : decode cX6_goes 71 = .ok (.iload 5, 2) := by decide +kernel
theorem dX6_goes_73 : decode cX6_goes 73 = .ok (.iaload, 1) := by decide +kernel
theorem dX6_goes_74 : decode cX6_goes 74 = .ok (.ishl, 1) := by decide +kernel
theorem dX6_goes_75 : decode cX6_goes 75 = .ok (.ixor, 1) := by decide +kernel
theorem dX6_goes_76 : decode cX6_goes 76 = .ok (.iconst 1, 1) := by decide +kernel
theorem dX6_goes_77 : decode cX6_goes 77 = .ok (.aload_n 0, 1) := by decide +kernel
theorem dX6_goes_78 : decode cX6_goes 78 = .ok (.getfield 20, 3) := by decide +kernel
theorem dX6_goes_81 : decode cX6_goes 81 = .ok (.iload 5, 2) := by decide +kernel
theorem dX6_goes_83 : decode cX6_goes 83 = .ok (.iaload, 1) := by decide +kernel
theorem dX6_goes_84 : decode cX6_goes 84 = .ok (.ishl, 1) := by decide +kernel
theorem dX6_goes_85 : decode cX6_goes 85 = .ok (.ixor, 1) := by decide +kernel
theorem dX6_goes_86 : decode cX6_goes 86 = .ok (.istore 4, 2) := by decide +kernel
theorem dX6_goes_88 : decode cX6_goes 88 = .ok (.iinc 5 1, 3) := by decide +kernel
theorem dX6_goes_91 : decode cX6_goes 91 = .ok (.goto (-85), 3) := by decide +kernel
theorem dX6_goes_94 : decode cX6_goes 94 = .ok (.iload 4, 2) := by decide +kernel
theorem dX6_goes_96 : decode cX6_goes 96 = .ok (.ireturn, 1) := by decide +kernel
set_option maxRecDepth 20000 in
theorem ggX6_isRising_X6_at : GoodIn wsX6_isRising wsX6_at := goodIn_r _ [5] (by decide +kernel) (by decide +kernel)
set_option maxRecDepth 20000 in
theorem gX6_isRising_X6_at : GoodIn wsX6_isRising (va_wsS RX6 159 yX6_at wsX6_at) := goodIn_app (goodIn_of _ (by decide +kernel)) ggX6_isRising_X6_at
theorem dX6_isRising_0 : decode cX6_isRising 0 = .ok (.iconst 1, 1) := by decide +kernel
theorem dX6_isRising_1 : decode cX6_isRising 1 = .ok (.istore_n 2, 1) := by decide +kernel
theorem dX6_isRising_2 : decode cX6_isRising 2 = .ok (.iload_n 2, 1) := by decide +kernel
theorem dX6_isRising_3 : decode cX6_isRising 3 = .ok (.aload_n 0, 1) := by decide +kernel
theorem dX6_isRising_4 : decode cX6_isRising 4 = .ok (.getfield 7, 3) := by decide +kernel
theorem dX6_isRising_7 : decode cX6_isRising 7 = .ok (.if_icmp .ge 26, 3) := by decide +kernel
theorem dX6_isRising_10 : decode cX6_isRising 10 = .ok (.iload_n 1, 1) := by decide +kernel
theorem dX6_isRising_11 : decode cX6_isRising 11 = .ok (.iload_n 2, 1) := by decide +kernel
theorem dX6_isRising_12 : decode cX6_isRising 12 = .ok (.iconst 1, 1) := by decide +kernel
theorem dX6_isRising_13 : decode cX6_isRising 13 = .ok (.isub, 1) := by decide +kernel
theorem dX6_isRising_14 : decode cX6_isRising 14 = .ok (.invokestatic 159, 3) := by decide +kernel
theorem dX6_isRising_17 : decode cX6_isRising 17 = .ok (.iload_n 1, 1) := by decide +kernel
theorem dX6_isRising_18 : decode cX6_isRising 18 = .ok (.iload_n 2, 1) := by decide +kernel
theorem dX6_isRising_19 : decode cX6_isRising 19 = .ok (.invokestatic 159, 3) := by decide +kernel
theorem dX6_isRising_22 : decode cX6_isRising 22 = .ok (.if_icmp .le 5, 3) := by decide +kernel
theorem dX6_isRising_25 : decode cX6_isRising 25 = .ok (.iconst 0, 1) := by decide +kernel
theorem dX6_isRising_26 : decode cX6_isRising 26 = .ok (.ireturn, 1) := by decide +kernel
theorem dX6_isRising_27 : decode cX6_isRising 27 = .ok (.iinc 2 1, 3) := by decide +kernel
theorem dX6_isRising_30 : decode cX6_isRising 30 = .ok (.goto (-28), 3) := by decide +kernel
theorem dX6_isRising_33 : decode cX6_isRising 33 = .ok (.iconst 1, 1) := by decide +kernel
theorem dX6_isRising_34 : decode cX6_isRising 34 = .ok (.ireturn, 1) := by decide +kernel
theorem dX6_rows_0 : decode cX6_rows 0 = .ok (.iconst 1, 1) := by decide +kernel
theorem dX6_rows_1 : decode cX6_rows 1 = .ok (.aload_n 0, 1) := by decide +kernel
theorem dX6_rows_2 : decode cX6_rows 2 = .ok (.getfield 7, 3) := by decide +kernel
theorem dX6_rows_5 : decode cX6_rows 5 = .ok (.ishl, 1) := by decide +kernel
theorem dX6_rows_6 : decode cX6_rows 6 = .ok (.ireturn, 1) := by decide +kernel
set_option maxRecDepth 20000 in
theorem ggX6_failing_X6_rows : GoodIn wsX6_failing wsX6_rows := goodIn_r _ [6, 7, 27, 28, 29, 30, 31, 32, 33, 34, 35, 36, 37, 38, 39, 40, 41, 42, 43, 44, 45, 46, 47, 48, 49, 50, 51] (by decide +kernel) (by decide +kernel)
set_option maxRecDepth 20000 in
theorem gX6_failing_X6_rows : GoodIn wsX6_failing (wsV RX6 162 RX6 yX6_rows wsX6_rows) := goodIn_app (goodIn_of _ (by decide +kernel)) ggX6_failing_X6_rows
set_option maxRecDepth 20000 in
theorem ggX6_failing_X6_goes : GoodIn wsX6_failing wsX6_goes := goodIn_r _ [11, 12, 13, 14, 15, 5, 16, 17, 18, 19, 20, 21, 22, 27, 28, 29, 30, 31, 32, 33, 34, 35, 36, 37, 38, 39, 40, 41, 42, 43, 44, 45, 46, 47, 48, 49, 50, 51] (by decide +kernel) (by decide +kernel)
set_option maxRecDepth 20000 in
theorem gX6_failing_X6_goes : GoodIn wsX6_failing (wsV RX6 166 RX6 yX6_goes wsX6_goes) := goodIn_app (goodIn_of _ (by decide +kernel)) ggX6_failing_X6_goes
set_option maxRecDepth 20000 in
theorem ggX6_failing_X6_isRising : GoodIn wsX6_failing wsX6_isRising := goodIn_r _ [26, 7, 14, 15, 5, 16, 27, 28, 29, 30, 31, 32, 33, 34, 35, 36, 37, 38, 39, 40, 41, 42, 43, 44, 45, 46, 47, 48, 49, 50, 51] (by decide +kernel) (by decide +kernel)
set_option maxRecDepth 20000 in
theorem gX6_failing_X6_isRising : GoodIn wsX6_failing (wsV RX6 169 RX6 yX6_isRising wsX6_isRising) := goodIn_app (goodIn_of _ (by decide +kernel)) ggX6_failing_X6_isRising
theorem dX6_failing_0 : decode cX6_failing 0 = .ok (.iconst 0, 1) := by decide +kernel
theorem dX6_failing_1 : decode cX6_failing 1 = .ok (.istore_n 2, 1) := by decide +kernel
theorem dX6_failing_2 : decode cX6_failing 2 = .ok (.iload_n 2, 1) := by decide +kernel
theorem dX6_failing_3 : decode cX6_failing 3 = .ok (.aload_n 0, 1) := by decide +kernel
theorem dX6_failing_4 : decode cX6_failing 4 = .ok (.invokevirtual 162, 3) := by decide +kernel
theorem dX6_failing_7 : decode cX6_failing 7 = .ok (.if_icmp .ge 28, 3) := by decide +kernel
theorem dX6_failing_10 : decode cX6_failing 10 = .ok (.aload_n 0, 1) := by decide +kernel
theorem dX6_failing_11 : decode cX6_failing 11 = .ok (.aload_n 0, 1) := by decide +kernel
theorem dX6_failing_12 : decode cX6_failing 12 = .ok (.iload_n 2, 1) := by decide +kernel
theorem dX6_failing_13 : decode cX6_failing 13 = .ok (.aload_n 0, 1) := by decide +kernel
theorem dX6_failing_14 : decode cX6_failing 14 = .ok (.getfield 79, 3) := by decide +kernel
theorem dX6_failing_17 : decode cX6_failing 17 = .ok (.iload_n 1, 1) := by decide +kernel
theorem dX6_failing_18 : decode cX6_failing 18 = .ok (.invokevirtual 166, 3) := by decide +kernel
theorem dX6_failing_21 : decode cX6_failing 21 = .ok (.invokevirtual 169, 3) := by decide +kernel
theorem dX6_failing_24 : decode cX6_failing 24 = .ok (.ifCond .ne 5, 3) := by decide +kernel
theorem dX6_failing_27 : decode cX6_failing 27 = .ok (.iload_n 2, 1) := by decide +kernel
theorem dX6_failing_28 : decode cX6_failing 28 = .ok (.ireturn, 1) := by decide +kernel
theorem dX6_failing_29 : decode cX6_failing 29 = .ok (.iinc 2 1, 3) := by decide +kernel
theorem dX6_failing_32 : decode cX6_failing 32 = .ok (.goto (-30), 3) := by decide +kernel
theorem dX6_failing_35 : decode cX6_failing 35 = .ok (.iconst (-1), 1) := by decide +kernel
theorem dX6_failing_36 : decode cX6_failing 36 = .ok (.ireturn, 1) := by decide +kernel
set_option maxRecDepth 20000 in
theorem ggX6_out_X6_rows : GoodIn wsX6_out wsX6_rows := goodIn_r _ [6, 7, 31, 32, 33, 34, 35, 36, 37, 38, 39, 40, 41, 42, 43, 44, 45, 46, 47, 48, 49, 50, 51, 52, 53, 54, 55] (by decide +kernel) (by decide +kernel)
set_option maxRecDepth 20000 in
theorem gX6_out_X6_rows : GoodIn wsX6_out (wsV RX6 162 RX6 yX6_rows wsX6_rows) := goodIn_app (goodIn_of _ (by decide +kernel)) ggX6_out_X6_rows
set_option maxRecDepth 20000 in
theorem ggX6_out_X6_in : GoodIn wsX6_out wsX6_in := goodIn_r _ [10] (by decide +kernel) (by decide +kernel)
set_option maxRecDepth 20000 in
theorem gX6_out_X6_in : GoodIn wsX6_out (va_wsS RX6 82 yX6_in wsX6_in) := goodIn_app (goodIn_of _ (by decide +kernel)) ggX6_out_X6_in
set_option maxRecDepth 20000 in
theorem ggX6_out_X6_goes : GoodIn wsX6_out wsX6_goes := goodIn_r _ [14, 15, 16, 17, 18, 5, 19, 20, 21, 22, 23, 24, 25, 31, 32, 33, 34, 35, 36, 37, 38, 39, 40, 41, 42, 43, 44, 45, 46, 47, 48, 49, 50, 51, 52, 53, 54, 55] (by decide +kernel) (by decide +kernel)
set_option maxRecDepth 20000 in
theorem gX6_out_X6_goes : GoodIn wsX6_out (wsV RX6 166 RX6 yX6_goes wsX6_goes) := goodIn_app (goodIn_of _ (by decide +kernel)) ggX6_out_X6_goes
set_option maxRecDepth 20000 in
theorem ggX6_out_X6_found : GoodIn wsX6_out wsX6_found := goodIn_r _ [29, 30, 31, 32, 33, 34, 35, 36, 37, 38, 39, 40, 41, 42, 43, 44, 45, 46, 47, 48, 49, 50, 51, 52, 53, 54, 55] (by decide +kernel) (by decide +kernel)
set_option maxRecDepth 20000 in
theorem gX6_out_X6_found : GoodIn wsX6_out (wsV RX6 93 RX6 yX6_found wsX6_found) := goodIn_app (goodIn_of _ (by decide +kernel)) ggX6_out_X6_found
theorem dX6_out_0 : decode cX6_out 0 = .ok (.iload_n 1, 1) := by decide +kernel
theorem dX6_out_1 : decode cX6_out 1 = .ok (.iconst 0, 1) := by decide +kernel
theorem dX6_out_2 : decode cX6_out 2 = .ok (.aload_n 0, 1) := by decide +kernel
theorem dX6_out_3 : decode cX6_out 3 = .ok (.invokevirtual 162, 3) := by decide +kernel
theorem dX6_out_6 : decode cX6_out 6 = .ok (.iconst 1, 1) := by decide +kernel
theorem dX6_out_7 : decode cX6_out 7 = .ok (.isub, 1) := by decide +kernel
theorem dX6_out_8 : decode cX6_out 8 = .ok (.invokestatic 82, 3) := by decide +kernel
theorem dX6_out_11 : decode cX6_out 11 = .ok (.ifCond .eq 16, 3) := by decide +kernel
theorem dX6_out_14 : decode cX6_out 14 = .ok (.aload_n 0, 1) := by decide +kernel
theorem dX6_out_15 : decode cX6_out 15 = .ok (.iload_n 1, 1) := by decide +kernel
theorem dX6_out_16 : decode cX6_out 16 = .ok (.aload_n 0, 1) := by decide +kernel
theorem dX6_out_17 : decode cX6_out 17 = .ok (.getfield 79, 3) := by decide +kernel
theorem dX6_out_20 : decode cX6_out 20 = .ok (.iconst (-1), 1) := by decide +kernel
theorem dX6_out_21 : decode cX6_out 21 = .ok (.invokevirtual 166, 3) := by decide +kernel
theorem dX6_out_24 : decode cX6_out 24 = .ok (.goto 8, 3) := by decide +kernel
theorem dX6_out_27 : decode cX6_out 27 = .ok (.aload_n 0, 1) := by decide +kernel
theorem dX6_out_28 : decode cX6_out 28 = .ok (.iconst (-1), 1) := by decide +kernel
theorem dX6_out_29 : decode cX6_out 29 = .ok (.invokevirtual 93, 3) := by decide +kernel
theorem dX6_out_32 : decode cX6_out 32 = .ok (.ireturn, 1) := by decide +kernel
set_option maxRecDepth 20000 in
theorem ggX6_sorts_X6_failing : GoodIn wsX6_sorts wsX6_failing := goodIn_r _ [5, 6, 7, 8, 9, 4, 10, 11, 12, 13, 14, 15, 16, 17, 18, 19, 20, 21, 22, 23, 24, 25, 26, 27, 28, 29, 30, 31, 32, 33, 34, 35, 36, 37, 38, 39, 40, 41, 42, 43, 44, 45, 46, 47, 48, 49, 50, 51, 52, 53, 54, 55] (by decide +kernel) (by decide +kernel)
set_option maxRecDepth 20000 in
theorem gX6_sorts_X6_failing : GoodIn wsX6_sorts (wsV RX6 172 RX6 yX6_failing wsX6_failing) := goodIn_app (goodIn_of _ (by decide +kernel)) ggX6_sorts_X6_failing
theorem dX6_sorts_0 : decode cX6_sorts 0 = .ok (.aload_n 0, 1) := by decide +kernel
theorem dX6_sorts_1 : decode cX6_sorts 1 = .ok (.iconst (-1), 1) := by decide +kernel
theorem dX6_sorts_2 : decode cX6_sorts 2 = .ok (.invokevirtual 172, 3) := by decide +kernel
theorem dX6_sorts_5 : decode cX6_sorts 5 = .ok (.ifCond .ge 7, 3) := by decide +kernel
theorem dX6_sorts_8 : decode cX6_sorts 8 = .ok (.iconst 1, 1) := by decide +kernel
theorem dX6_sorts_9 : decode cX6_sorts 9 = .ok (.goto 4, 3) := by decide +kernel
theorem dX6_sorts_12 : decode cX6_sorts 12 = .ok (.iconst 0, 1) := by decide +kernel
theorem dX6_sorts_13 : decode cX6_sorts 13 = .ok (.ireturn, 1) := by decide +kernel
set_option maxRecDepth 20000 in
theorem ggX6_fails_X6_failing : GoodIn wsX6_fails wsX6_failing := goodIn_r _ [6, 1, 7, 8, 9, 5, 10, 11, 12, 13, 14, 15, 16, 17, 18, 19, 20, 21, 22, 23, 24, 25, 26, 27, 28, 29, 30, 36, 37, 38, 39, 40, 41, 42, 43, 44, 45, 46, 47, 48, 49, 50, 51, 52, 53, 54, 55, 56, 57, 58, 59, 60] (by decide +kernel) (by decide +kernel)
set_option maxRecDepth 20000 in
theorem gX6_fails_X6_failing : GoodIn wsX6_fails (wsV RX6 172 RX6 yX6_failing wsX6_failing) := goodIn_app (goodIn_of _ (by decide +kernel)) ggX6_fails_X6_failing
set_option maxRecDepth 20000 in
theorem ggX6_fails_X6_found : GoodIn wsX6_fails wsX6_found := goodIn_r _ [34, 35, 36, 37, 38, 39, 40, 41, 42, 43, 44, 45, 46, 47, 48, 49, 50, 51, 52, 53, 54, 55, 56, 57, 58, 59, 60] (by decide +kernel) (by decide +kernel)
set_option maxRecDepth 20000 in
theorem gX6_fails_X6_found : GoodIn wsX6_fails (wsV RX6 93 RX6 yX6_found wsX6_found) := goodIn_app (goodIn_of _ (by decide +kernel)) ggX6_fails_X6_found
set_option maxRecDepth 20000 in
theorem ggX6_fails_X6_rows : GoodIn wsX6_fails wsX6_rows := goodIn_r _ [10, 11, 36, 37, 38, 39, 40, 41, 42, 43, 44, 45, 46, 47, 48, 49, 50, 51, 52, 53, 54, 55, 56, 57, 58, 59, 60] (by decide +kernel) (by decide +kernel)
set_option maxRecDepth 20000 in
theorem gX6_fails_X6_rows : GoodIn wsX6_fails (wsV RX6 162 RX6 yX6_rows wsX6_rows) := goodIn_app (goodIn_of _ (by decide +kernel)) ggX6_fails_X6_rows
set_option maxRecDepth 20000 in
theorem ggX6_fails_X6_goes : GoodIn wsX6_fails wsX6_goes := goodIn_r _ [15, 16, 17, 18, 19, 5, 20, 21, 22, 23, 24, 25, 26, 36, 37, 38, 39, 40, 41, 42, 43, 44, 45, 46, 47, 48, 49, 50, 51, 52, 53, 54, 55, 56, 57, 58, 59, 60] (by decide +kernel) (by decide +kernel)
set_option maxRecDepth 20000 in
theorem gX6_fails_X6_goes : GoodIn wsX6_fails (wsV RX6 166 RX6 yX6_goes wsX6_goes) := goodIn_app (goodIn_of _ (by decide +kernel)) ggX6_fails_X6_goes
set_option maxRecDepth 20000 in
theorem ggX6_fails_X6_isRising : GoodIn wsX6_fails wsX6_isRising := goodIn_r _ [30, 11, 18, 19, 5, 20, 36, 37, 38, 39, 40, 41, 42, 43, 44, 45, 46, 47, 48, 49, 50, 51, 52, 53, 54, 55, 56, 57, 58, 59, 60] (by decide +kernel) (by decide +kernel)
set_option maxRecDepth 20000 in
theorem gX6_fails_X6_isRising : GoodIn wsX6_fails (wsV RX6 169 RX6 yX6_isRising wsX6_isRising) := goodIn_app (goodIn_of _ (by decide +kernel)) ggX6_fails_X6_isRising
theorem dX6_fails_0 : decode cX6_fails 0 = .ok (.iload_n 1, 1) := by decide +kernel
theorem dX6_fails_1 : decode cX6_fails 1 = .ok (.ifCond .eq 26, 3) := by decide +kernel
theorem dX6_fails_4 : decode cX6_fails 4 = .ok (.aload_n 0, 1) := by decide +kernel
theorem dX6_fails_5 : decode cX6_fails 5 = .ok (.iconst (-1), 1) := by decide +kernel
theorem dX6_fails_6 : decode cX6_fails 6 = .ok (.invokevirtual 172, 3) := by decide +kernel
theorem dX6_fails_9 : decode cX6_fails 9 = .ok (.ifCond .ge 12, 3) := by decide +kernel
theorem dX6_fails_12 : decode cX6_fails 12 = .ok (.aload_n 0, 1) := by decide +kernel
theorem dX6_fails_13 : decode cX6_fails 13 = .ok (.bipush (-6), 2) := by decide +kernel
theorem dX6_fails_15 : decode cX6_fails 15 = .ok (.invokevirtual 93, 3) := by decide +kernel
theorem dX6_fails_18 : decode cX6_fails 18 = .ok (.goto 8, 3) := by decide +kernel
theorem dX6_fails_21 : decode cX6_fails 21 = .ok (.aload_n 0, 1) := by decide +kernel
theorem dX6_fails_22 : decode cX6_fails 22 = .ok (.iconst (-1), 1) := by decide +kernel
theorem dX6_fails_23 : decode cX6_fails 23 = .ok (.invokevirtual 172, 3) := by decide +kernel
theorem dX6_fails_26 : decode cX6_fails 26 = .ok (.ireturn, 1) := by decide +kernel
theorem dX6_fails_27 : decode cX6_fails 27 = .ok (.iconst 0, 1) := by decide +kernel
theorem dX6_fails_28 : decode cX6_fails 28 = .ok (.istore_n 2, 1) := by decide +kernel
theorem dX6_fails_29 : decode cX6_fails 29 = .ok (.iconst 0, 1) := by decide +kernel
theorem dX6_fails_30 : decode cX6_fails 30 = .ok (.istore_n 3, 1) := by decide +kernel
theorem dX6_fails_31 : decode cX6_fails 31 = .ok (.iload_n 3, 1) := by decide +kernel
theorem dX6_fails_32 : decode cX6_fails 32 = .ok (.aload_n 0, 1) := by decide +kernel
theorem dX6_fails_33 : decode cX6_fails 33 = .ok (.invokevirtual 162, 3) := by decide +kernel
theorem dX6_fails_36 : decode cX6_fails 36 = .ok (.if_icmp .ge 34, 3) := by decide +kernel
theorem dX6_fails_39 : decode cX6_fails 39 = .ok (.iload_n 2, 1) := by decide +kernel
theorem dX6_fails_40 : decode cX6_fails 40 = .ok (.aload_n 0, 1) := by decide +kernel
theorem dX6_fails_41 : decode cX6_fails 41 = .ok (.aload_n 0, 1) := by decide +kernel
theorem dX6_fails_42 : decode cX6_fails 42 = .ok (.iload_n 3, 1) := by decide +kernel
theorem dX6_fails_43 : decode cX6_fails 43 = .ok (.aload_n 0, 1) := by decide +kernel
theorem dX6_fails_44 : decode cX6_fails 44 = .ok (.getfield 79, 3) := by decide +kernel
theorem dX6_fails_47 : decode cX6_fails 47 = .ok (.iconst (-1), 1) := by decide +kernel
theorem dX6_fails_48 : decode cX6_fails 48 = .ok (.invokevirtual 166, 3) := by decide +kernel
theorem dX6_fails_51 : decode cX6_fails 51 = .ok (.invokevirtual 169, 3) := by decide +kernel
theorem dX6_fails_54 : decode cX6_fails 54 = .ok (.ifCond .eq 7, 3) := by decide +kernel
theorem dX6_fails_57 : decode cX6_fails 57 = .ok (.iconst 0, 1) := by decide +kernel
theorem dX6_fails_58 : decode cX6_fails 58 = .ok (.goto 4, 3) := by decide +kernel
theorem dX6_fails_61 : decode cX6_fails 61 = .ok (.iconst 1, 1) := by decide +kernel
theorem dX6_fails_62 : decode cX6_fails 62 = .ok (.iadd, 1) := by decide +kernel
theorem dX6_fails_63 : decode cX6_fails 63 = .ok (.istore_n 2, 1) := by decide +kernel
theorem dX6_fails_64 : decode cX6_fails 64 = .ok (.iinc 3 1, 3) := by decide +kernel
theorem dX6_fails_67 : decode cX6_fails 67 = .ok (.goto (-36), 3) := by decide +kernel
theorem dX6_fails_70 : decode cX6_fails 70 = .ok (.iload_n 2, 1) := by decide +kernel
theorem dX6_fails_71 : decode cX6_fails 71 = .ok (.ireturn, 1) := by decide +kernel
set_option maxRecDepth 20000 in
theorem ggX6_merges_X6_in : GoodIn wsX6_merges wsX6_in := goodIn_r _ [6] (by decide +kernel) (by decide +kernel)
set_option maxRecDepth 20000 in
theorem gX6_merges_X6_in : GoodIn wsX6_merges (va_wsS RX6 82 yX6_in wsX6_in) := goodIn_app (goodIn_of _ (by decide +kernel)) ggX6_merges_X6_in
set_option maxRecDepth 20000 in
theorem ggX6_merges_X6_found : GoodIn wsX6_merges wsX6_found := goodIn_r _ [10, 11, 35, 36, 37, 38, 39, 40, 41, 42, 43, 44, 45, 46, 47, 48, 49, 50, 51, 52, 53, 54, 55, 56, 57, 58, 59] (by decide +kernel) (by decide +kernel)
set_option maxRecDepth 20000 in
theorem gX6_merges_X6_found : GoodIn wsX6_merges (wsV RX6 93 RX6 yX6_found wsX6_found) := goodIn_app (goodIn_of _ (by decide +kernel)) ggX6_merges_X6_found
set_option maxRecDepth 20000 in
theorem ggX6_merges_X6_rows : GoodIn wsX6_merges wsX6_rows := goodIn_r _ [15, 1, 35, 36, 37, 38, 39, 40, 41, 42, 43, 44, 45, 46, 47, 48, 49, 50, 51, 52, 53, 54, 55, 56, 57, 58, 59] (by decide +kernel) (by decide +kernel)
set_option maxRecDepth 20000 in
theorem gX6_merges_X6_rows : GoodIn wsX6_merges (wsV RX6 162 RX6 yX6_rows wsX6_rows) := goodIn_app (goodIn_of _ (by decide +kernel)) ggX6_merges_X6_rows
set_option maxRecDepth 20000 in
theorem ggX6_merges_X6_at : GoodIn wsX6_merges wsX6_at := goodIn_r _ [18] (by decide +kernel) (by decide +kernel)
set_option maxRecDepth 20000 in
theorem gX6_merges_X6_at : GoodIn wsX6_merges (va_wsS RX6 159 yX6_at wsX6_at) := goodIn_app (goodIn_of _ (by decide +kernel)) ggX6_merges_X6_at
set_option maxRecDepth 20000 in
theorem ggX6_merges_X6_goes : GoodIn wsX6_merges wsX6_goes := goodIn_r _ [22, 23, 24, 16, 17, 5, 18, 25, 26, 27, 28, 29, 30, 35, 36, 37, 38, 39, 40, 41, 42, 43, 44, 45, 46, 47, 48, 49, 50, 51, 52, 53, 54, 55, 56, 57, 58, 59] (by decide +kernel) (by decide +kernel)
set_option maxRecDepth 20000 in
theorem gX6_merges_X6_goes : GoodIn wsX6_merges (wsV RX6 166 RX6 yX6_goes wsX6_goes) := goodIn_app (goodIn_of _ (by decide +kernel)) ggX6_merges_X6_goes
set_option maxRecDepth 20000 in
theorem ggX6_merges_X6_isRising : GoodIn wsX6_merges wsX6_isRising := goodIn_r _ [34, 1, 16, 17, 5, 18, 35, 36, 37, 38, 39, 40, 41, 42, 43, 44, 45, 46, 47, 48, 49, 50, 51, 52, 53, 54, 55, 56, 57, 58, 59] (by decide +kernel) (by decide +kernel)
set_option maxRecDepth 20000 in
theorem gX6_merges_X6_isRising : GoodIn wsX6_merges (wsV RX6 169 RX6 yX6_isRising wsX6_isRising) := goodIn_app (goodIn_of _ (by decide +kernel)) ggX6_merges_X6_isRising
theorem dX6_merges_0 : decode cX6_merges 0 = .ok (.iload_n 1, 1) := by decide +kernel
theorem dX6_merges_1 : decode cX6_merges 1 = .ok (.iconst 1, 1) := by decide +kernel
theorem dX6_merges_2 : decode cX6_merges 2 = .ok (.aload_n 0, 1) := by decide +kernel
theorem dX6_merges_3 : decode cX6_merges 3 = .ok (.getfield 7, 3) := by decide +kernel
theorem dX6_merges_6 : decode cX6_merges 6 = .ok (.iconst 1, 1) := by decide +kernel
theorem dX6_merges_7 : decode cX6_merges 7 = .ok (.isub, 1) := by decide +kernel
theorem dX6_merges_8 : decode cX6_merges 8 = .ok (.invokestatic 82, 3) := by decide +kernel
theorem dX6_merges_11 : decode cX6_merges 11 = .ok (.ifCond .ne 9, 3) := by decide +kernel
theorem dX6_merges_14 : decode cX6_merges 14 = .ok (.aload_n 0, 1) := by decide +kernel
theorem dX6_merges_15 : decode cX6_merges 15 = .ok (.iconst (-1), 1) := by decide +kernel
theorem dX6_merges_16 : decode cX6_merges 16 = .ok (.invokevirtual 93, 3) := by decide +kernel
theorem dX6_merges_19 : decode cX6_merges 19 = .ok (.ireturn, 1) := by decide +kernel
theorem dX6_merges_20 : decode cX6_merges 20 = .ok (.iconst 0, 1) := by decide +kernel
theorem dX6_merges_21 : decode cX6_merges 21 = .ok (.istore_n 2, 1) := by decide +kernel
theorem dX6_merges_22 : decode cX6_merges 22 = .ok (.iload_n 2, 1) := by decide +kernel
theorem dX6_merges_23 : decode cX6_merges 23 = .ok (.aload_n 0, 1) := by decide +kernel
theorem dX6_merges_24 : decode cX6_merges 24 = .ok (.invokevirtual 162, 3) := by decide +kernel
theorem dX6_merges_27 : decode cX6_merges 27 = .ok (.if_icmp .ge 85, 3) := by decide +kernel
theorem dX6_merges_30 : decode cX6_merges 30 = .ok (.iconst 1, 1) := by decide +kernel
theorem dX6_merges_31 : decode cX6_merges 31 = .ok (.istore_n 3, 1) := by decide +kernel
theorem dX6_merges_32 : decode cX6_merges 32 = .ok (.iconst 1, 1) := by decide +kernel
theorem dX6_merges_33 : decode cX6_merges 33 = .ok (.istore 4, 2) := by decide +kernel
theorem dX6_merges_35 : decode cX6_merges 35 = .ok (.iload 4, 2) := by decide +kernel
theorem dX6_merges_37 : decode cX6_merges 37 = .ok (.aload_n 0, 1) := by decide +kernel
theorem dX6_merges_38 : decode cX6_merges 38 = .ok (.getfield 7, 3) := by decide +kernel
theorem dX6_merges_41 : decode cX6_merges 41 = .ok (.if_icmp .ge 42, 3) := by decide +kernel
theorem dX6_merges_44 : decode cX6_merges 44 = .ok (.iload_n 3, 1) := by decide +kernel
theorem dX6_merges_45 : decode cX6_merges 45 = .ok (.ifCond .eq 30, 3) := by decide +kernel
theorem dX6_merges_48 : decode cX6_merges 48 = .ok (.iload 4, 2) := by decide +kernel
theorem dX6_merges_50 : decode cX6_merges 50 = .ok (.iload_n 1, 1) := by decide +kernel
theorem dX6_merges_51 : decode cX6_merges 51 = .ok (.if_icmp .eq 20, 3) := by decide +kernel
theorem dX6_merges_54 : decode cX6_merges 54 = .ok (.iload_n 2, 1) := by decide +kernel
theorem dX6_merges_55 : decode cX6_merges 55 = .ok (.iload 4, 2) := by decide +kernel
theorem dX6_merges_57 : decode cX6_merges 57 = .ok (.iconst 1, 1) := by decide +kernel
theorem dX6_merges_58 : decode cX6_merges 58 = .ok (.isub, 1) := by decide +kernel
theorem dX6_merges_59 : decode cX6_merges 59 = .ok (.invokestatic 159, 3) := by decide +kernel
theorem dX6_merges_62 : decode cX6_merges 62 = .ok (.iload_n 2, 1) := by decide +kernel
theorem dX6_merges_63 : decode cX6_merges 63 = .ok (.iload 4, 2) := by decide +kernel
theorem dX6_merges_65 : decode cX6_merges 65 = .ok (.invokestatic 159, 3) := by decide +kernel
theorem dX6_merges_68 : decode cX6_merges 68 = .ok (.if_icmp .gt 7, 3) := by decide +kernel
theorem dX6_merges_71 : decode cX6_merges 71 = .ok (.iconst 1, 1) := by decide +kernel
theorem dX6_merges_72 : decode cX6_merges 72 = .ok (.goto 4, 3) := by decide +kernel
theorem dX6_merges_75 : decode cX6_merges 75 = .ok (.iconst 0, 1) := by decide +kernel
theorem dX6_merges_76 : decode cX6_merges 76 = .ok (.istore_n 3, 1) := by decide +kernel
theorem dX6_merges_77 : decode cX6_merges 77 = .ok (.iinc 4 1, 3) := by decide +kernel
theorem dX6_merges_80 : decode cX6_merges 80 = .ok (.goto (-45), 3) := by decide +kernel
theorem dX6_merges_83 : decode cX6_merges 83 = .ok (.iload_n 3, 1) := by decide +kernel
theorem dX6_merges_84 : decode cX6_merges 84 = .ok (.ifCond .eq 22, 3) := by decide +kernel
theorem dX6_merges_87 : decode cX6_merges 87 = .ok (.aload_n 0, 1) := by decide +kernel
theorem dX6_merges_88 : decode cX6_merges 88 = .ok (.aload_n 0, 1) := by decide +kernel
theorem dX6_merges_89 : decode cX6_merges 89 = .ok (.iload_n 2, 1) := by decide +kernel
theorem dX6_merges_90 : decode cX6_merges 90 = .ok (.aload_n 0, 1) := by decide +kernel
theorem dX6_merges_91 : decode cX6_merges 91 = .ok (.getfield 79, 3) := by decide +kernel
theorem dX6_merges_94 : decode cX6_merges 94 = .ok (.iconst (-1), 1) := by decide +kernel
theorem dX6_merges_95 : decode cX6_merges 95 = .ok (.invokevirtual 166, 3) := by decide +kernel
theorem dX6_merges_98 : decode cX6_merges 98 = .ok (.invokevirtual 169, 3) := by decide +kernel
theorem dX6_merges_101 : decode cX6_merges 101 = .ok (.ifCond .ne 5, 3) := by decide +kernel
theorem dX6_merges_104 : decode cX6_merges 104 = .ok (.iconst 0, 1) := by decide +kernel
theorem dX6_merges_105 : decode cX6_merges 105 = .ok (.ireturn, 1) := by decide +kernel
theorem dX6_merges_106 : decode cX6_merges 106 = .ok (.iinc 2 1, 3) := by decide +kernel
theorem dX6_merges_109 : decode cX6_merges 109 = .ok (.goto (-87), 3) := by decide +kernel
theorem dX6_merges_112 : decode cX6_merges 112 = .ok (.iconst 1, 1) := by decide +kernel
theorem dX6_merges_113 : decode cX6_merges 113 = .ok (.ireturn, 1) := by decide +kernel
set_option maxRecDepth 20000 in
theorem ggX6_isIdle_X6_rows : GoodIn wsX6_isIdle wsX6_rows := goodIn_r _ [8, 9, 22, 23, 24, 25, 26, 27, 28, 29, 30, 31, 32, 33, 34, 35, 36, 37, 38, 39, 40, 41, 42, 43, 44, 45, 46] (by decide +kernel) (by decide +kernel)
set_option maxRecDepth 20000 in
theorem gX6_isIdle_X6_rows : GoodIn wsX6_isIdle (wsV RX6 162 RX6 yX6_rows wsX6_rows) := goodIn_app (goodIn_of _ (by decide +kernel)) ggX6_isIdle_X6_rows
set_option maxRecDepth 20000 in
theorem ggX6_isIdle_X6_goes : GoodIn wsX6_isIdle wsX6_goes := goodIn_r _ [13, 2, 3, 14, 15, 7, 16, 17, 18, 19, 20, 1, 21, 22, 23, 24, 25, 26, 27, 28, 29, 30, 31, 32, 33, 34, 35, 36, 37, 38, 39, 40, 41, 42, 43, 44, 45, 46] (by decide +kernel) (by decide +kernel)
set_option maxRecDepth 20000 in
theorem gX6_isIdle_X6_goes : GoodIn wsX6_isIdle (wsV RX6 166 RX6 yX6_goes wsX6_goes) := goodIn_app (goodIn_of _ (by decide +kernel)) ggX6_isIdle_X6_goes
set_option maxRecDepth 20000 in
theorem ggX6_isIdle_X6_at : GoodIn wsX6_isIdle wsX6_at := goodIn_r _ [16] (by decide +kernel) (by decide +kernel)
set_option maxRecDepth 20000 in
theorem gX6_isIdle_X6_at : GoodIn wsX6_isIdle (va_wsS RX6 159 yX6_at wsX6_at) := goodIn_app (goodIn_of _ (by decide +kernel)) ggX6_isIdle_X6_at
set_option maxRecDepth 20000 in
theorem ggX6_isIdle_X6_changes : GoodIn wsX6_isIdle wsX6_changes := goodIn_r _ [20, 1, 21, 22, 23, 24, 25, 26, 27, 28, 29, 30, 31, 32, 33, 34, 35, 36, 37, 38, 39, 40, 41, 42, 43, 44, 45, 46] (by decide +kernel) (by decide +kernel)
set_option maxRecDepth 20000 in
theorem gX6_isIdle_X6_changes : GoodIn wsX6_isIdle (wsV RX6 155 RX6 yX6_changes wsX6_changes) := goodIn_app (goodIn_of _ (by decide +kernel)) ggX6_isIdle_X6_changes
theorem dX6_isIdle_0 : decode cX6_isIdle 0 = .ok (.aload_n 0, 1) := by decide +kernel
theorem dX6_isIdle_1 : decode cX6_isIdle 1 = .ok (.getfield 13, 3) := by decide +kernel
theorem dX6_isIdle_4 : decode cX6_isIdle 4 = .ok (.iload_n 1, 1) := by decide +kernel
theorem dX6_isIdle_5 : decode cX6_isIdle 5 = .ok (.iaload, 1) := by decide +kernel
theorem dX6_isIdle_6 : decode cX6_isIdle 6 = .ok (.iconst 3, 1) := by decide +kernel
theorem dX6_isIdle_7 : decode cX6_isIdle 7 = .ok (.if_icmp .ne 5, 3) := by decide +kernel
theorem dX6_isIdle_10 : decode cX6_isIdle 10 = .ok (.iconst 0, 1) := by decide +kernel
theorem dX6_isIdle_11 : decode cX6_isIdle 11 = .ok (.ireturn, 1) := by decide +kernel
theorem dX6_isIdle_12 : decode cX6_isIdle 12 = .ok (.iconst 0, 1) := by decide +kernel
theorem dX6_isIdle_13 : decode cX6_isIdle 13 = .ok (.istore_n 2, 1) := by decide +kernel
theorem dX6_isIdle_14 : decode cX6_isIdle 14 = .ok (.iload_n 2, 1) := by decide +kernel
theorem dX6_isIdle_15 : decode cX6_isIdle 15 = .ok (.aload_n 0, 1) := by decide +kernel
theorem dX6_isIdle_16 : decode cX6_isIdle 16 = .ok (.invokevirtual 162, 3) := by decide +kernel
theorem dX6_isIdle_19 : decode cX6_isIdle 19 = .ok (.if_icmp .ge 48, 3) := by decide +kernel
theorem dX6_isIdle_22 : decode cX6_isIdle 22 = .ok (.aload_n 0, 1) := by decide +kernel
theorem dX6_isIdle_23 : decode cX6_isIdle 23 = .ok (.iload_n 2, 1) := by decide +kernel
theorem dX6_isIdle_24 : decode cX6_isIdle 24 = .ok (.iload_n 1, 1) := by decide +kernel
theorem dX6_isIdle_25 : decode cX6_isIdle 25 = .ok (.iconst (-1), 1) := by decide +kernel
theorem dX6_isIdle_26 : decode cX6_isIdle 26 = .ok (.invokevirtual 166, 3) := by decide +kernel
theorem dX6_isIdle_29 : decode cX6_isIdle 29 = .ok (.istore_n 3, 1) := by decide +kernel
theorem dX6_isIdle_30 : decode cX6_isIdle 30 = .ok (.aload_n 0, 1) := by decide +kernel
theorem dX6_isIdle_31 : decode cX6_isIdle 31 = .ok (.iload_n 1, 1) := by decide +kernel
theorem dX6_isIdle_32 : decode cX6_isIdle 32 = .ok (.iload_n 3, 1) := by decide +kernel
theorem dX6_isIdle_33 : decode cX6_isIdle 33 = .ok (.aload_n 0, 1) := by decide +kernel
theorem dX6_isIdle_34 : decode cX6_isIdle 34 = .ok (.getfield 17, 3) := by decide +kernel
theorem dX6_isIdle_37 : decode cX6_isIdle 37 = .ok (.iload_n 1, 1) := by decide +kernel
theorem dX6_isIdle_38 : decode cX6_isIdle 38 = .ok (.iaload, 1) := by decide +kernel
theorem dX6_isIdle_39 : decode cX6_isIdle 39 = .ok (.invokestatic 159, 3) := by decide +kernel
theorem dX6_isIdle_42 : decode cX6_isIdle 42 = .ok (.iload_n 3, 1) := by decide +kernel
theorem dX6_isIdle_43 : decode cX6_isIdle 43 = .ok (.aload_n 0, 1) := by decide +kernel
theorem dX6_isIdle_44 : decode cX6_isIdle 44 = .ok (.getfield 20, 3) := by decide +kernel
theorem dX6_isIdle_47 : decode cX6_isIdle 47 = .ok (.iload_n 1, 1) := by decide +kernel
theorem dX6_isIdle_48 : decode cX6_isIdle 48 = .ok (.iaload, 1) := by decide +kernel
theorem dX6_isIdle_49 : decode cX6_isIdle 49 = .ok (.invokestatic 159, 3) := by decide +kernel
theorem dX6_isIdle_52 : decode cX6_isIdle 52 = .ok (.isub, 1) := by decide +kernel
theorem dX6_isIdle_53 : decode cX6_isIdle 53 = .ok (.invokevirtual 155, 3) := by decide +kernel
theorem dX6_isIdle_56 : decode cX6_isIdle 56 = .ok (.ifCond .eq 5, 3) := by decide +kernel
theorem dX6_isIdle_59 : decode cX6_isIdle 59 = .ok (.iconst 0, 1) := by decide +kernel
theorem dX6_isIdle_60 : decode cX6_isIdle 60 = .ok (.ireturn, 1) := by decide +kernel
theorem dX6_isIdle_61 : decode cX6_isIdle 61 = .ok (.iinc 2 1, 3) := by decide +kernel
theorem dX6_isIdle_64 : decode cX6_isIdle 64 = .ok (.goto (-50), 3) := by decide +kernel
theorem dX6_isIdle_67 : decode cX6_isIdle 67 = .ok (.iconst 1, 1) := by decide +kernel
theorem dX6_isIdle_68 : decode cX6_isIdle 68 = .ok (.ireturn, 1) := by decide +kernel
set_option maxRecDepth 20000 in
theorem ggX6_idle_X6_isComparer : GoodIn wsX6_idle wsX6_isComparer := goodIn_r _ [5, 6, 7, 8, 4, 9, 39, 40, 41, 42, 43, 44, 45, 46, 47, 48, 49, 50, 51, 52, 53, 54, 55, 56, 57, 58, 59, 60, 61, 62, 63] (by decide +kernel) (by decide +kernel)
set_option maxRecDepth 20000 in
theorem gX6_idle_X6_isComparer : GoodIn wsX6_idle (wsV RX6 111 RX6 yX6_isComparer wsX6_isComparer) := goodIn_app (goodIn_of _ (by decide +kernel)) ggX6_idle_X6_isComparer
set_option maxRecDepth 20000 in
theorem ggX6_idle_X6_found : GoodIn wsX6_idle wsX6_found := goodIn_r _ [13, 14, 39, 40, 41, 42, 43, 44, 45, 46, 47, 48, 49, 50, 51, 52, 53, 54, 55, 56, 57, 58, 59, 60, 61, 62, 63] (by decide +kernel) (by decide +kernel)
set_option maxRecDepth 20000 in
theorem gX6_idle_X6_found : GoodIn wsX6_idle (wsV RX6 93 RX6 yX6_found wsX6_found) := goodIn_app (goodIn_of _ (by decide +kernel)) ggX6_idle_X6_found
set_option maxRecDepth 20000 in
theorem ggX6_idle_X6_isIdle : GoodIn wsX6_idle wsX6_isIdle := goodIn_r _ [18, 19, 20, 21, 22, 23, 24, 4, 25, 26, 27, 28, 29, 30, 31, 32, 33, 34, 35, 36, 37, 38, 39, 40, 41, 42, 43, 44, 45, 46, 47, 48, 49, 50, 51, 52, 53, 54, 55, 56, 57, 58, 59, 60, 61, 62, 63] (by decide +kernel) (by decide +kernel)
set_option maxRecDepth 20000 in
theorem gX6_idle_X6_isIdle : GoodIn wsX6_idle (wsV RX6 175 RX6 yX6_isIdle wsX6_isIdle) := goodIn_app (goodIn_of _ (by decide +kernel)) ggX6_idle_X6_isIdle
theorem dX6_idle_0 : decode cX6_idle 0 = .ok (.aload_n 0, 1) := by decide +kernel
theorem dX6_idle_1 : decode cX6_idle 1 = .ok (.iload_n 1, 1) := by decide +kernel
theorem dX6_idle_2 : decode cX6_idle 2 = .ok (.invokevirtual 111, 3) := by decide +kernel
theorem dX6_idle_5 : decode cX6_idle 5 = .ok (.ifCond .ne 11, 3) := by decide +kernel
theorem dX6_idle_8 : decode cX6_idle 8 = .ok (.aload_n 0, 1) := by decide +kernel
theorem dX6_idle_9 : decode cX6_idle 9 = .ok (.iconst (-1), 1) := by decide +kernel
theorem dX6_idle_10 : decode cX6_idle 10 = .ok (.invokevirtual 93, 3) := by decide +kernel
theorem dX6_idle_13 : decode cX6_idle 13 = .ok (.goto 16, 3) := by decide +kernel
theorem dX6_idle_16 : decode cX6_idle 16 = .ok (.aload_n 0, 1) := by decide +kernel
theorem dX6_idle_17 : decode cX6_idle 17 = .ok (.iload_n 1, 1) := by decide +kernel
theorem dX6_idle_18 : decode cX6_idle 18 = .ok (.invokevirtual 175, 3) := by decide +kernel
theorem dX6_idle_21 : decode cX6_idle 21 = .ok (.ifCond .eq 7, 3) := by decide +kernel
theorem dX6_idle_24 : decode cX6_idle 24 = .ok (.iconst 1, 1) := by decide +kernel
theorem dX6_idle_25 : decode cX6_idle 25 = .ok (.goto 4, 3) := by decide +kernel
theorem dX6_idle_28 : decode cX6_idle 28 = .ok (.iconst 0, 1) := by decide +kernel
theorem dX6_idle_29 : decode cX6_idle 29 = .ok (.ireturn, 1) := by decide +kernel
set_option maxRecDepth 20000 in
theorem ggX6_drop_X6_begins : GoodIn wsX6_drop wsX6_begins := goodIn_r _ [11, 12, 13, 14, 15, 16, 17, 18, 19, 20, 21, 10, 22, 23, 1, 3, 4, 5, 6, 43, 44, 45, 46, 47, 48, 49, 50, 51, 52, 53, 54, 55, 56, 57, 58, 59, 60, 61, 62, 63, 64, 65, 66, 67] (by decide +kernel) (by decide +kernel)
set_option maxRecDepth 20000 in
theorem gX6_drop_X6_begins : GoodIn wsX6_drop (wsV RX6 100 RX6 yX6_begins wsX6_begins) := goodIn_app (goodIn_of _ (by decide +kernel)) ggX6_drop_X6_begins
set_option maxRecDepth 20000 in
theorem ggX6_drop_X6_isIdle : GoodIn wsX6_drop wsX6_isIdle := goodIn_r _ [27, 3, 4, 5, 28, 29, 30, 10, 31, 23, 32, 33, 34, 35, 36, 37, 38, 39, 40, 41, 42, 6, 43, 44, 45, 46, 47, 48, 49, 50, 51, 52, 53, 54, 55, 56, 57, 58, 59, 60, 61, 62, 63, 64, 65, 66, 67] (by decide +kernel) (by decide +kernel)
set_option maxRecDepth 20000 in
theorem gX6_drop_X6_isIdle : GoodIn wsX6_drop (wsV RX6 175 RX6 yX6_isIdle wsX6_isIdle) := goodIn_app (goodIn_of _ (by decide +kernel)) ggX6_drop_X6_isIdle
theorem dX6_drop_0 : decode cX6_drop 0 = .ok (.aload_n 0, 1) := by decide +kernel
theorem dX6_drop_1 : decode cX6_drop 1 = .ok (.invokevirtual 100, 3) := by decide +kernel
theorem dX6_drop_4 : decode cX6_drop 4 = .ok (.iconst 0, 1) := by decide +kernel
theorem dX6_drop_5 : decode cX6_drop 5 = .ok (.istore_n 1, 1) := by decide +kernel
theorem dX6_drop_6 : decode cX6_drop 6 = .ok (.iload_n 1, 1) := by decide +kernel
theorem dX6_drop_7 : decode cX6_drop 7 = .ok (.aload_n 0, 1) := by decide +kernel
theorem dX6_drop_8 : decode cX6_drop 8 = .ok (.getfield 79, 3) := by decide +kernel
theorem dX6_drop_11 : decode cX6_drop 11 = .ok (.if_icmp .ge 20, 3) := by decide +kernel
theorem dX6_drop_14 : decode cX6_drop 14 = .ok (.aload_n 0, 1) := by decide +kernel
theorem dX6_drop_15 : decode cX6_drop 15 = .ok (.getfield 64, 3) := by decide +kernel
theorem dX6_drop_18 : decode cX6_drop 18 = .ok (.iload_n 1, 1) := by decide +kernel
theorem dX6_drop_19 : decode cX6_drop 19 = .ok (.aload_n 0, 1) := by decide +kernel
theorem dX6_drop_20 : decode cX6_drop 20 = .ok (.iload_n 1, 1) := by decide +kernel
theorem dX6_drop_21 : decode cX6_drop 21 = .ok (.invokevirtual 175, 3) := by decide +kernel
theorem dX6_drop_24 : decode cX6_drop 24 = .ok (.bastore, 1) := by decide +kernel
theorem dX6_drop_25 : decode cX6_drop 25 = .ok (.iinc 1 1, 3) := by decide +kernel
theorem dX6_drop_28 : decode cX6_drop 28 = .ok (.goto (-22), 3) := by decide +kernel
theorem dX6_drop_31 : decode cX6_drop 31 = .ok (.iconst 0, 1) := by decide +kernel
theorem dX6_drop_32 : decode cX6_drop 32 = .ok (.istore_n 1, 1) := by decide +kernel
theorem dX6_drop_33 : decode cX6_drop 33 = .ok (.iconst 0, 1) := by decide +kernel
theorem dX6_drop_34 : decode cX6_drop 34 = .ok (.istore_n 2, 1) := by decide +kernel
theorem dX6_drop_35 : decode cX6_drop 35 = .ok (.iload_n 2, 1) := by decide +kernel
theorem dX6_drop_36 : decode cX6_drop 36 = .ok (.aload_n 0, 1) := by decide +kernel
theorem dX6_drop_37 : decode cX6_drop 37 = .ok (.getfield 79, 3) := by decide +kernel
theorem dX6_drop_40 : decode cX6_drop 40 = .ok (.if_icmp .ge 72, 3) := by decide +kernel
theorem dX6_drop_43 : decode cX6_drop 43 = .ok (.aload_n 0, 1) := by decide +kernel
theorem dX6_drop_44 : decode cX6_drop 44 = .ok (.getfield 64, 3) := by decide +kernel
theorem dX6_drop_47 : decode cX6_drop 47 = .ok (.iload_n 2, 1) := by decide +kernel
theorem dX6_drop_48 : decode cX6_drop 48 = .ok (.baload, 1) := by decide +kernel
theorem dX6_drop_49 : decode cX6_drop 49 = .ok (.ifCond .eq 6, 3) := by decide +kernel
theorem dX6_drop_52 : decode cX6_drop 52 = .ok (.goto 54, 3) := by decide +kernel
theorem dX6_drop_55 : decode cX6_drop 55 = .ok (.aload_n 0, 1) := by decide +kernel
theorem dX6_drop_56 : decode cX6_drop 56 = .ok (.getfield 13, 3) := by decide +kernel
theorem dX6_drop_59 : decode cX6_drop 59 = .ok (.iload_n 1, 1) := by decide +kernel
theorem dX6_drop_60 : decode cX6_drop 60 = .ok (.aload_n 0, 1) := by decide +kernel
theorem dX6_drop_61 : decode cX6_drop 61 = .ok (.getfield 13, 3) := by decide +kernel
theorem dX6_drop_64 : decode cX6_drop 64 = .ok (.iload_n 2, 1) := by decide +kernel
theorem dX6_drop_65 : decode cX6_drop 65 = .ok (.iaload, 1) := by decide +kernel
theorem dX6_drop_66 : decode cX6_drop 66 = .ok (.iastore, 1) := by decide +kernel
theorem dX6_drop_67 : decode cX6_drop 67 = .ok (.aload_n 0, 1) := by decide +kernel
theorem dX6_drop_68 : decode cX6_drop 68 = .ok (.getfield 17, 3) := by decide +kernel
theorem dX6_drop_71 : decode cX6_drop 71 = .ok (.iload_n 1, 1) := by decide +kernel
theorem dX6_drop_72 : decode cX6_drop 72 = .ok (.aload_n 0, 1) := by decide +kernel
theorem dX6_drop_73 : decode cX6_drop 73 = .ok (.getfield 17, 3) := by decide +kernel
theorem dX6_drop_76 : decode cX6_drop 76 = .ok (.iload_n 2, 1) := by decide +kernel
theorem dX6_drop_77 : decode cX6_drop 77 = .ok (.iaload, 1) := by decide +kernel
theorem dX6_drop_78 : decode cX6_drop 78 = .ok (.iastore, 1) := by decide +kernel
theorem dX6_drop_79 : decode cX6_drop 79 = .ok (.aload_n 0, 1) := by decide +kernel
theorem dX6_drop_80 : decode cX6_drop 80 = .ok (.getfield 20, 3) := by decide +kernel
theorem dX6_drop_83 : decode cX6_drop 83 = .ok (.iload_n 1, 1) := by decide +kernel
theorem dX6_drop_84 : decode cX6_drop 84 = .ok (.aload_n 0, 1) := by decide +kernel
theorem dX6_drop_85 : decode cX6_drop 85 = .ok (.getfield 20, 3) := by decide +kernel
theorem dX6_drop_88 : decode cX6_drop 88 = .ok (.iload_n 2, 1) := by decide +kernel
theorem dX6_drop_89 : decode cX6_drop 89 = .ok (.iaload, 1) := by decide +kernel
theorem dX6_drop_90 : decode cX6_drop 90 = .ok (.iastore, 1) := by decide +kernel
theorem dX6_drop_91 : decode cX6_drop 91 = .ok (.aload_n 0, 1) := by decide +kernel
theorem dX6_drop_92 : decode cX6_drop 92 = .ok (.getfield 23, 3) := by decide +kernel
theorem dX6_drop_95 : decode cX6_drop 95 = .ok (.iload_n 1, 1) := by decide +kernel
theorem dX6_drop_96 : decode cX6_drop 96 = .ok (.aload_n 0, 1) := by decide +kernel
theorem dX6_drop_97 : decode cX6_drop 97 = .ok (.getfield 23, 3) := by decide +kernel
theorem dX6_drop_100 : decode cX6_drop 100 = .ok (.iload_n 2, 1) := by decide +kernel
theorem dX6_drop_101 : decode cX6_drop 101 = .ok (.baload, 1) := by decide +kernel
theorem dX6_drop_102 : decode cX6_drop 102 = .ok (.bastore, 1) := by decide +kernel
theorem dX6_drop_103 : decode cX6_drop 103 = .ok (.iinc 1 1, 3) := by decide +kernel
theorem dX6_drop_106 : decode cX6_drop 106 = .ok (.iinc 2 1, 3) := by decide +kernel
theorem dX6_drop_109 : decode cX6_drop 109 = .ok (.goto (-74), 3) := by decide +kernel
theorem dX6_drop_112 : decode cX6_drop 112 = .ok (.aload_n 0, 1) := by decide +kernel
theorem dX6_drop_113 : decode cX6_drop 113 = .ok (.getfield 79, 3) := by decide +kernel
theorem dX6_drop_116 : decode cX6_drop 116 = .ok (.iload_n 1, 1) := by decide +kernel
theorem dX6_drop_117 : decode cX6_drop 117 = .ok (.isub, 1) := by decide +kernel
theorem dX6_drop_118 : decode cX6_drop 118 = .ok (.istore_n 2, 1) := by decide +kernel
theorem dX6_drop_119 : decode cX6_drop 119 = .ok (.aload_n 0, 1) := by decide +kernel
theorem dX6_drop_120 : decode cX6_drop 120 = .ok (.iload_n 1, 1) := by decide +kernel
theorem dX6_drop_121 : decode cX6_drop 121 = .ok (.putfield 79, 3) := by decide +kernel
theorem dX6_drop_124 : decode cX6_drop 124 = .ok (.iload_n 2, 1) := by decide +kernel
theorem dX6_drop_125 : decode cX6_drop 125 = .ok (.ireturn, 1) := by decide +kernel
set_option maxRecDepth 20000 in
theorem ggX6_turn_X6_found : GoodIn wsX6_turn wsX6_found := goodIn_r _ [11, 12, 29, 30, 31, 32, 33, 34, 35, 36, 37, 38, 39, 40, 41, 42, 43, 44, 45, 46, 47, 48, 49, 50, 51, 52, 53] (by decide +kernel) (by decide +kernel)
set_option maxRecDepth 20000 in
theorem gX6_turn_X6_found : GoodIn wsX6_turn (wsV RX6 93 RX6 yX6_found wsX6_found) := goodIn_app (goodIn_of _ (by decide +kernel)) ggX6_turn_X6_found
set_option maxRecDepth 20000 in
theorem ggX6_turn_X6_begins : GoodIn wsX6_turn wsX6_begins := goodIn_r _ [16, 17, 18, 19, 20, 21, 22, 23, 24, 25, 26, 10, 27, 28, 1, 2, 5, 6, 3, 29, 30, 31, 32, 33, 34, 35, 36, 37, 38, 39, 40, 41, 42, 43, 44, 45, 46, 47, 48, 49, 50, 51, 52, 53] (by decide +kernel) (by decide +kernel)
set_option maxRecDepth 20000 in
theorem gX6_turn_X6_begins : GoodIn wsX6_turn (wsV RX6 100 RX6 yX6_begins wsX6_begins) := goodIn_app (goodIn_of _ (by decide +kernel)) ggX6_turn_X6_begins
theorem dX6_turn_0 : decode cX6_turn 0 = .ok (.iconst 0, 1) := by decide +kernel
theorem dX6_turn_1 : decode cX6_turn 1 = .ok (.istore_n 1, 1) := by decide +kernel
theorem dX6_turn_2 : decode cX6_turn 2 = .ok (.iload_n 1, 1) := by decide +kernel
theorem dX6_turn_3 : decode cX6_turn 3 = .ok (.aload_n 0, 1) := by decide +kernel
theorem dX6_turn_4 : decode cX6_turn 4 = .ok (.getfield 79, 3) := by decide +kernel
theorem dX6_turn_7 : decode cX6_turn 7 = .ok (.if_icmp .ge 45, 3) := by decide +kernel
theorem dX6_turn_10 : decode cX6_turn 10 = .ok (.aload_n 0, 1) := by decide +kernel
theorem dX6_turn_11 : decode cX6_turn 11 = .ok (.getfield 13, 3) := by decide +kernel
theorem dX6_turn_14 : decode cX6_turn 14 = .ok (.iload_n 1, 1) := by decide +kernel
theorem dX6_turn_15 : decode cX6_turn 15 = .ok (.iaload, 1) := by decide +kernel
theorem dX6_turn_16 : decode cX6_turn 16 = .ok (.iconst 2, 1) := by decide +kernel
theorem dX6_turn_17 : decode cX6_turn 17 = .ok (.if_icmp .eq 22, 3) := by decide +kernel
theorem dX6_turn_20 : decode cX6_turn 20 = .ok (.aload_n 0, 1) := by decide +kernel
theorem dX6_turn_21 : decode cX6_turn 21 = .ok (.getfield 13, 3) := by decide +kernel
theorem dX6_turn_24 : decode cX6_turn 24 = .ok (.iload_n 1, 1) := by decide +kernel
theorem dX6_turn_25 : decode cX6_turn 25 = .ok (.iaload, 1) := by decide +kernel
theorem dX6_turn_26 : decode cX6_turn 26 = .ok (.iconst 4, 1) := by decide +kernel
theorem dX6_turn_27 : decode cX6_turn 27 = .ok (.if_icmp .ne 19, 3) := by decide +kernel
theorem dX6_turn_30 : decode cX6_turn 30 = .ok (.aload_n 0, 1) := by decide +kernel
theorem dX6_turn_31 : decode cX6_turn 31 = .ok (.getfield 23, 3) := by decide +kernel
theorem dX6_turn_34 : decode cX6_turn 34 = .ok (.iload_n 1, 1) := by decide +kernel
theorem dX6_turn_35 : decode cX6_turn 35 = .ok (.baload, 1) := by decide +kernel
theorem dX6_turn_36 : decode cX6_turn 36 = .ok (.ifCond .ne 10, 3) := by decide +kernel
theorem dX6_turn_39 : decode cX6_turn 39 = .ok (.aload_n 0, 1) := by decide +kernel
theorem dX6_turn_40 : decode cX6_turn 40 = .ok (.bipush (-7), 2) := by decide +kernel
theorem dX6_turn_42 : decode cX6_turn 42 = .ok (.invokevirtual 93, 3) := by decide +kernel
theorem dX6_turn_45 : decode cX6_turn 45 = .ok (.ireturn, 1) := by decide +kernel
theorem dX6_turn_46 : decode cX6_turn 46 = .ok (.iinc 1 1, 3) := by decide +kernel
theorem dX6_turn_49 : decode cX6_turn 49 = .ok (.goto (-47), 3) := by decide +kernel
theorem dX6_turn_52 : decode cX6_turn 52 = .ok (.aload_n 0, 1) := by decide +kernel
theorem dX6_turn_53 : decode cX6_turn 53 = .ok (.invokevirtual 100, 3) := by decide +kernel
theorem dX6_turn_56 : decode cX6_turn 56 = .ok (.iconst 0, 1) := by decide +kernel
theorem dX6_turn_57 : decode cX6_turn 57 = .ok (.istore_n 1, 1) := by decide +kernel
theorem dX6_turn_58 : decode cX6_turn 58 = .ok (.iload_n 1, 1) := by decide +kernel
theorem dX6_turn_59 : decode cX6_turn 59 = .ok (.bipush 8, 2) := by decide +kernel
theorem dX6_turn_61 : decode cX6_turn 61 = .ok (.if_icmp .ge 16, 3) := by decide +kernel
theorem dX6_turn_64 : decode cX6_turn 64 = .ok (.aload_n 0, 1) := by decide +kernel
theorem dX6_turn_65 : decode cX6_turn 65 = .ok (.getfield 67, 3) := by decide +kernel
theorem dX6_turn_68 : decode cX6_turn 68 = .ok (.iload_n 1, 1) := by decide +kernel
theorem dX6_turn_69 : decode cX6_turn 69 = .ok (.iload_n 1, 1) := by decide +kernel
theorem dX6_turn_70 : decode cX6_turn 70 = .ok (.iastore, 1) := by decide +kernel
theorem dX6_turn_71 : decode cX6_turn 71 = .ok (.iinc 1 1, 3) := by decide +kernel
theorem dX6_turn_74 : decode cX6_turn 74 = .ok (.goto (-16), 3) := by decide +kernel
theorem dX6_turn_77 : decode cX6_turn 77 = .ok (.iconst 0, 1) := by decide +kernel
theorem dX6_turn_78 : decode cX6_turn 78 = .ok (.istore_n 1, 1) := by decide +kernel
theorem dX6_turn_79 : decode cX6_turn 79 = .ok (.iconst 0, 1) := by decide +kernel
theorem dX6_turn_80 : decode cX6_turn 80 = .ok (.istore_n 2, 1) := by decide +kernel
theorem dX6_turn_81 : decode cX6_turn 81 = .ok (.iload_n 2, 1) := by decide +kernel
theorem dX6_turn_82 : decode cX6_turn 82 = .ok (.aload_n 0, 1) := by decide +kernel
theorem dX6_turn_83 : decode cX6_turn 83 = .ok (.getfield 79, 3) := by decide +kernel
theorem dX6_turn_86 : decode cX6_turn 86 = .ok (.if_icmp .ge 157, 3) := by decide +kernel
theorem dX6_turn_89 : decode cX6_turn 89 = .ok (.aload_n 0, 1) := by decide +kernel
theorem dX6_turn_90 : decode cX6_turn 90 = .ok (.getfield 13, 3) := by decide +kernel
theorem dX6_turn_93 : decode cX6_turn 93 = .ok (.iload_n 2, 1) := by decide +kernel
theorem dX6_turn_94 : decode cX6_turn 94 = .ok (.iaload, 1) := by decide +kernel
theorem dX6_turn_95 : decode cX6_turn 95 = .ok (.istore_n 3, 1) := by decide +kernel
theorem dX6_turn_96 : decode cX6_turn 96 = .ok (.aload_n 0, 1) := by decide +kernel
theorem dX6_turn_97 : decode cX6_turn 97 = .ok (.getfield 17, 3) := by decide +kernel
theorem dX6_turn_100 : decode cX6_turn 100 = .ok (.iload_n 2, 1) := by decide +kernel
theorem dX6_turn_101 : decode cX6_turn 101 = .ok (.iaload, 1) := by decide +kernel
theorem dX6_turn_102 : decode cX6_turn 102 = .ok (.istore 4, 2) := by decide +kernel
theorem dX6_turn_104 : decode cX6_turn 104 = .ok (.aload_n 0, 1) := by decide +kernel
theorem dX6_turn_105 : decode cX6_turn 105 = .ok (.getfield 20, 3) := by decide +kernel
theorem dX6_turn_108 : decode cX6_turn 108 = .ok (.iload_n 2, 1) := by decide +kernel
theorem dX6_turn_109 : decode cX6_turn 109 = .ok (.iaload, 1) := by decide +kernel
theorem dX6_turn_110 : decode cX6_turn 110 = .ok (.istore 5, 2) := by decide +kernel
theorem dX6_turn_112 : decode cX6_turn 112 = .ok (.aload_n 0, 1) := by decide +kernel
theorem dX6_turn_113 : decode cX6_turn 113 = .ok (.getfield 67, 3) := by decide +kernel
theorem dX6_turn_116 : decode cX6_turn 116 = .ok (.iload 4, 2) := by decide +kernel
theorem dX6_turn_118 : decode cX6_turn 118 = .ok (.iaload, 1) := by decide +kernel
theorem dX6_turn_119 : decode cX6_turn 119 = .ok (.istore 6, 2) := by decide +kernel
theorem dX6_turn_121 : decode cX6_turn 121 = .ok (.aload_n 0, 1) := by decide +kernel
theorem dX6_turn_122 : decode cX6_turn 122 = .ok (.getfield 67, 3) := by decide +kernel
theorem dX6_turn_125 : decode cX6_turn 125 = .ok (.iload 5, 2) := by decide +kernel
theorem dX6_turn_127 : decode cX6_turn 127 = .ok (.iaload, 1) := by decide +kernel
theorem dX6_turn_128 : decode cX6_turn 128 = .ok (.istore 7, 2) := by decide +kernel
theorem dX6_turn_130 : decode cX6_turn 130 = .ok (.iload_n 3, 1) := by decide +kernel
theorem dX6_turn_131 : decode cX6_turn 131 = .ok (.iconst 3, 1) := by decide +kernel
theorem dX6_turn_132 : decode cX6_turn 132 = .ok (.if_icmp .eq 60, 3) := by decide +kernel
theorem dX6_turn_135 : decode cX6_turn 135 = .ok (.aload_n 0, 1) := by decide +kernel
theorem dX6_turn_136 : decode cX6_turn 136 = .ok (.getfield 13, 3) := by decide +kernel
theorem dX6_turn_139 : decode cX6_turn 139 = .ok (.iload_n 1, 1) := by decide +kernel
theorem dX6_turn_140 : decode cX6_turn 140 = .ok (.iconst 0, 1) := by decide +kernel
theorem dX6_turn_141 : decode cX6_turn 141 = .ok (.iastore, 1) := by decide +kernel
theorem dX6_turn_142 : decode cX6_turn 142 = .ok (.aload_n 0, 1) := by decide +kernel
theorem dX6_turn_143 : decode cX6_turn 143 = .ok (.getfield 17, 3) := by decide +kernel
theorem dX6_turn_146 : decode cX6_turn 146 = .ok (.iload_n 1, 1) := by decide +kernel
theorem dX6_turn_147 : decode cX6_turn 147 = .ok (.iload 6, 2) := by decide +kernel
theorem dX6_turn_149 : decode cX6_turn 149 = .ok (.iload 7, 2) := by decide +kernel
theorem dX6_turn_151 : decode cX6_turn 151 = .ok (.if_icmp .ge 8, 3) := by decide +kernel
theorem dX6_turn_154 : decode cX6_turn 154 = .ok (.iload 6, 2) := by decide +kernel
theorem dX6_turn_156 : decode cX6_turn 156 = .ok (.goto 5, 3) := by decide +kernel
theorem dX6_turn_159 : decode cX6_turn 159 = .ok (.iload 7, 2) := by decide +kernel
theorem dX6_turn_161 : decode cX6_turn 161 = .ok (.iastore, 1) := by decide +kernel
theorem dX6_turn_162 : decode cX6_turn 162 = .ok (.aload_n 0, 1) := by decide +kernel
theorem dX6_turn_163 : decode cX6_turn 163 = .ok (.getfield 20, 3) := by decide +kernel
theorem dX6_turn_166 : decode cX6_turn 166 = .ok (.iload_n 1, 1) := by decide +kernel
theorem dX6_turn_167 : decode cX6_turn 167 = .ok (.iload 6, 2) := by decide +kernel
theorem dX6_turn_169 : decode cX6_turn 169 = .ok (.iload 7, 2) := by decide +kernel
theorem dX6_turn_171 : decode cX6_turn 171 = .ok (.if_icmp .ge 8, 3) := by decide +kernel
theorem dX6_turn_174 : decode cX6_turn 174 = .ok (.iload 7, 2) := by decide +kernel
theorem dX6_turn_176 : decode cX6_turn 176 = .ok (.goto 5, 3) := by decide +kernel
theorem dX6_turn_179 : decode cX6_turn 179 = .ok (.iload 6, 2) := by decide +kernel
theorem dX6_turn_181 : decode cX6_turn 181 = .ok (.iastore, 1) := by decide +kernel
theorem dX6_turn_182 : decode cX6_turn 182 = .ok (.aload_n 0, 1) := by decide +kernel
theorem dX6_turn_183 : decode cX6_turn 183 = .ok (.getfield 23, 3) := by decide +kernel
theorem dX6_turn_186 : decode cX6_turn 186 = .ok (.iload_n 1, 1) := by decide +kernel
theorem dX6_turn_187 : decode cX6_turn 187 = .ok (.iconst 1, 1) := by decide +kernel
theorem dX6_turn_188 : decode cX6_turn 188 = .ok (.bastore, 1) := by decide +kernel
theorem dX6_turn_189 : decode cX6_turn 189 = .ok (.iinc 1 1, 3) := by decide +kernel
theorem dX6_turn_192 : decode cX6_turn 192 = .ok (.iload_n 3, 1) := by decide +kernel
theorem dX6_turn_193 : decode cX6_turn 193 = .ok (.iconst 3, 1) := by decide +kernel
theorem dX6_turn_194 : decode cX6_turn 194 = .ok (.if_icmp .eq 25, 3) := by decide +kernel
theorem dX6_turn_197 : decode cX6_turn 197 = .ok (.iload_n 3, 1) := by decide +kernel
theorem dX6_turn_198 : decode cX6_turn 198 = .ok (.iconst 1, 1) := by decide +kernel
theorem dX6_turn_199 : decode cX6_turn 199 = .ok (.if_icmp .ne 13, 3) := by decide +kernel
theorem dX6_turn_202 : decode cX6_turn 202 = .ok (.iload 7, 2) := by decide +kernel
theorem dX6_turn_204 : decode cX6_turn 204 = .ok (.iload 6, 2) := by decide +kernel
theorem dX6_turn_206 : decode cX6_turn 206 = .ok (.if_icmp .le 31, 3) := by decide +kernel
theorem dX6_turn_209 : decode cX6_turn 209 = .ok (.goto 10, 3) := by decide +kernel
theorem dX6_turn_212 : decode cX6_turn 212 = .ok (.iload 6, 2) := by decide +kernel
theorem dX6_turn_214 : decode cX6_turn 214 = .ok (.iload 7, 2) := by decide +kernel
theorem dX6_turn_216 : decode cX6_turn 216 = .ok (.if_icmp .le 21, 3) := by decide +kernel
theorem dX6_turn_219 : decode cX6_turn 219 = .ok (.aload_n 0, 1) := by decide +kernel
theorem dX6_turn_220 : decode cX6_turn 220 = .ok (.getfield 67, 3) := by decide +kernel
theorem dX6_turn_223 : decode cX6_turn 223 = .ok (.iload 4, 2) := by decide +kernel
theorem dX6_turn_225 : decode cX6_turn 225 = .ok (.iload 7, 2) := by decide +kernel
theorem dX6_turn_227 : decode cX6_turn 227 = .ok (.iastore, 1) := by decide +kernel
theorem dX6_turn_228 : decode cX6_turn 228 = .ok (.aload_n 0, 1) := by decide +kernel
theorem dX6_turn_229 : decode cX6_turn 229 = .ok (.getfield 67, 3) := by decide +kernel
theorem dX6_turn_232 : decode cX6_turn 232 = .ok (.iload 5, 2) := by decide +kernel
theorem dX6_turn_234 : decode cX6_turn 234 = .ok (.iload 6, 2) := by decide +kernel
theorem dX6_turn_236 : decode cX6_turn 236 = .ok (.iastore, 1) := by decide +kernel
theorem dX6_turn_237 : decode cX6_turn 237 = .ok (.iinc 2 1, 3) := by decide +kernel
theorem dX6_turn_240 : decode cX6_turn 240 = .ok (.goto (-159), 3) := by decide +kernel
theorem dX6_turn_243 : decode cX6_turn 243 = .ok (.aload_n 0, 1) := by decide +kernel
theorem dX6_turn_244 : decode cX6_turn 244 = .ok (.iload_n 1, 1) := by decide +kernel
theorem dX6_turn_245 : decode cX6_turn 245 = .ok (.putfield 79, 3) := by decide +kernel
theorem dX6_turn_248 : decode cX6_turn 248 = .ok (.aload_n 0, 1) := by decide +kernel
theorem dX6_turn_249 : decode cX6_turn 249 = .ok (.getfield 79, 3) := by decide +kernel
theorem dX6_turn_252 : decode cX6_turn 252 = .ok (.ireturn, 1) := by decide +kernel
set_option maxRecDepth 20000 in
theorem ggX6_mirror_X6_begins : GoodIn wsX6_mirror wsX6_begins := goodIn_r _ [9, 10, 11, 12, 13, 14, 15, 16, 17, 18, 19, 8, 20, 3, 1, 21, 2, 4, 22, 23, 24, 25, 26, 27, 28, 29, 30, 31, 32, 33, 34, 35, 36, 37, 38, 39, 40, 41, 42, 43, 44, 45, 46, 47] (by decide +kernel) (by decide +kernel)
set_option maxRecDepth 20000 in
theorem gX6_mirror_X6_begins : GoodIn wsX6_mirror (wsV RX6 100 RX6 yX6_begins wsX6_begins) := goodIn_app (goodIn_of _ (by decide +kernel)) ggX6_mirror_X6_begins
theorem dX6_mirror_0 : decode cX6_mirror 0 = .ok (.aload_n 0, 1) := by decide +kernel
theorem dX6_mirror_1 : decode cX6_mirror 1 = .ok (.invokevirtual 100, 3) := by decide +kernel
theorem dX6_mirror_4 : decode cX6_mirror 4 = .ok (.iconst 0, 1) := by decide +kernel
theorem dX6_mirror_5 : decode cX6_mirror 5 = .ok (.istore_n 1, 1) := by decide +kernel
theorem dX6_mirror_6 : decode cX6_mirror 6 = .ok (.iload_n 1, 1) := by decide +kernel
theorem dX6_mirror_7 : decode cX6_mirror 7 = .ok (.aload_n 0, 1) := by decide +kernel
theorem dX6_mirror_8 : decode cX6_mirror 8 = .ok (.getfield 79, 3) := by decide +kernel
theorem dX6_mirror_11 : decode cX6_mirror 11 = .ok (.if_icmp .ge 49, 3) := by decide +kernel
theorem dX6_mirror_14 : decode cX6_mirror 14 = .ok (.aload_n 0, 1) := by decide +kernel
theorem dX6_mirror_15 : decode cX6_mirror 15 = .ok (.getfield 17, 3) := by decide +kernel
theorem dX6_mirror_18 : decode cX6_mirror 18 = .ok (.iload_n 1, 1) := by decide +kernel
theorem dX6_mirror_19 : decode cX6_mirror 19 = .ok (.iaload, 1) := by decide +kernel
theorem dX6_mirror_20 : decode cX6_mirror 20 = .ok (.istore_n 2, 1) := by decide +kernel
theorem dX6_mirror_21 : decode cX6_mirror 21 = .ok (.aload_n 0, 1) := by decide +kernel
theorem dX6_mirror_22 : decode cX6_mirror 22 = .ok (.getfield 17, 3) := by decide +kernel
theorem dX6_mirror_25 : decode cX6_mirror 25 = .ok (.iload_n 1, 1) := by decide +kernel
theorem dX6_mirror_26 : decode cX6_mirror 26 = .ok (.aload_n 0, 1) := by decide +kernel
theorem dX6_mirror_27 : decode cX6_mirror 27 = .ok (.getfield 7, 3) := by decide +kernel
theorem dX6_mirror_30 : decode cX6_mirror 30 = .ok (.iconst 1, 1) := by decide +kernel
theorem dX6_mirror_31 : decode cX6_mirror 31 = .ok (.isub, 1) := by decide +kernel
theorem dX6_mirror_32 : decode cX6_mirror 32 = .ok (.aload_n 0, 1) := by decide +kernel
theorem dX6_mirror_33 : decode cX6_mirror 33 = .ok (.getfield 20, 3) := by decide +kernel
theorem dX6_mirror_36 : decode cX6_mirror 36 = .ok (.iload_n 1, 1) := by decide +kernel
theorem dX6_mirror_37 : decode cX6_mirror 37 = .ok (.iaload, 1) := by decide +kernel
theorem dX6_mirror_38 : decode cX6_mirror 38 = .ok (.isub, 1) := by decide +kernel
theorem dX6_mirror_39 : decode cX6_mirror 39 = .ok (.iastore, 1) := by decide +kernel
theorem dX6_mirror_40 : decode cX6_mirror 40 = .ok (.aload_n 0, 1) := by decide +kernel
theorem dX6_mirror_41 : decode cX6_mirror 41 = .ok (.getfield 20, 3) := by decide +kernel
theorem dX6_mirror_44 : decode cX6_mirror 44 = .ok (.iload_n 1, 1) := by decide +kernel
theorem dX6_mirror_45 : decode cX6_mirror 45 = .ok (.aload_n 0, 1) := by decide +kernel
theorem dX6_mirror_46 : decode cX6_mirror 46 = .ok (.getfield 7, 3) := by decide +kernel
theorem dX6_mirror_49 : decode cX6_mirror 49 = .ok (.iconst 1, 1) := by decide +kernel
theorem dX6_mirror_50 : decode cX6_mirror 50 = .ok (.isub, 1) := by decide +kernel
theorem dX6_mirror_51 : decode cX6_mirror 51 = .ok (.iload_n 2, 1) := by decide +kernel
theorem dX6_mirror_52 : decode cX6_mirror 52 = .ok (.isub, 1) := by decide +kernel
theorem dX6_mirror_53 : decode cX6_mirror 53 = .ok (.iastore, 1) := by decide +kernel
theorem dX6_mirror_54 : decode cX6_mirror 54 = .ok (.iinc 1 1, 3) := by decide +kernel
theorem dX6_mirror_57 : decode cX6_mirror 57 = .ok (.goto (-51), 3) := by decide +kernel
theorem dX6_mirror_60 : decode cX6_mirror 60 = .ok (.aload_n 0, 1) := by decide +kernel
theorem dX6_mirror_61 : decode cX6_mirror 61 = .ok (.getfield 79, 3) := by decide +kernel
theorem dX6_mirror_64 : decode cX6_mirror 64 = .ok (.ireturn, 1) := by decide +kernel
theorem dX6_pair_0 : decode cX6_pair 0 = .ok (.iload_n 1, 1) := by decide +kernel
theorem dX6_pair_1 : decode cX6_pair 1 = .ok (.istore_n 2, 1) := by decide +kernel
theorem dX6_pair_2 : decode cX6_pair 2 = .ok (.iconst 0, 1) := by decide +kernel
theorem dX6_pair_3 : decode cX6_pair 3 = .ok (.istore_n 3, 1) := by decide +kernel
theorem dX6_pair_4 : decode cX6_pair 4 = .ok (.iload_n 3, 1) := by decide +kernel
theorem dX6_pair_5 : decode cX6_pair 5 = .ok (.aload_n 0, 1) := by decide +kernel
theorem dX6_pair_6 : decode cX6_pair 6 = .ok (.getfield 7, 3) := by decide +kernel
theorem dX6_pair_9 : decode cX6_pair 9 = .ok (.if_icmp .ge 44, 3) := by decide +kernel
theorem dX6_pair_12 : decode cX6_pair 12 = .ok (.iload_n 3, 1) := by decide +kernel
theorem dX6_pair_13 : decode cX6_pair 13 = .ok (.iconst 1, 1) := by decide +kernel
theorem dX6_pair_14 : decode cX6_pair 14 = .ok (.iadd, 1) := by decide +kernel
theorem dX6_pair_15 : decode cX6_pair 15 = .ok (.istore 4, 2) := by decide +kernel
theorem dX6_pair_17 : decode cX6_pair 17 = .ok (.iload 4, 2) := by decide +kernel
theorem dX6_pair_19 : decode cX6_pair 19 = .ok (.aload_n 0, 1) := by decide +kernel
theorem dX6_pair_20 : decode cX6_pair 20 = .ok (.getfield 7, 3) := by decide +kernel
theorem dX6_pair_23 : decode cX6_pair 23 = .ok (.if_icmp .ge 24, 3) := by decide +kernel
theorem dX6_pair_26 : decode cX6_pair 26 = .ok (.iload_n 2, 1) := by decide +kernel
theorem dX6_pair_27 : decode cX6_pair 27 = .ok (.ifCond .ne 11, 3) := by decide +kernel
theorem dX6_pair_30 : decode cX6_pair 30 = .ok (.bipush 10, 2) := by decide +kernel
theorem dX6_pair_32 : decode cX6_pair 32 = .ok (.iload_n 3, 1) := by decide +kernel
theorem dX6_pair_33 : decode cX6_pair 33 = .ok (.imul, 1) := by decide +kernel
theorem dX6_pair_34 : decode cX6_pair 34 = .ok (.iload 4, 2) := by decide +kernel
theorem dX6_pair_36 : decode cX6_pair 36 = .ok (.iadd, 1) := by decide +kernel
theorem dX6_pair_37 : decode cX6_pair 37 = .ok (.ireturn, 1) := by decide +kernel
theorem dX6_pair_38 : decode cX6_pair 38 = .ok (.iinc 2 (-1), 3) := by decide +kernel
theorem dX6_pair_41 : decode cX6_pair 41 = .ok (.iinc 4 1, 3) := by decide +kernel
theorem dX6_pair_44 : decode cX6_pair 44 = .ok (.goto (-27), 3) := by decide +kernel
theorem dX6_pair_47 : decode cX6_pair 47 = .ok (.iinc 3 1, 3) := by decide +kernel
theorem dX6_pair_50 : decode cX6_pair 50 = .ok (.goto (-46), 3) := by decide +kernel
theorem dX6_pair_53 : decode cX6_pair 53 = .ok (.iconst (-1), 1) := by decide +kernel
theorem dX6_pair_54 : decode cX6_pair 54 = .ok (.ireturn, 1) := by decide +kernel
set_option maxRecDepth 20000 in
theorem ggX6_does_X6_rows : GoodIn wsX6_does wsX6_rows := goodIn_r _ [7, 8, 32, 33, 34, 35, 36, 37, 38, 39, 40, 41, 42, 43, 44, 45, 46, 47, 48, 49, 50, 51, 52, 53, 54, 55, 56] (by decide +kernel) (by decide +kernel)
set_option maxRecDepth 20000 in
theorem gX6_does_X6_rows : GoodIn wsX6_does (wsV RX6 162 RX6 yX6_rows wsX6_rows) := goodIn_app (goodIn_of _ (by decide +kernel)) ggX6_does_X6_rows
set_option maxRecDepth 20000 in
theorem ggX6_does_X6_goes : GoodIn wsX6_does wsX6_goes := goodIn_r _ [12, 13, 14, 15, 16, 6, 17, 18, 19, 20, 21, 22, 23, 32, 33, 34, 35, 36, 37, 38, 39, 40, 41, 42, 43, 44, 45, 46, 47, 48, 49, 50, 51, 52, 53, 54, 55, 56] (by decide +kernel) (by decide +kernel)
set_option maxRecDepth 20000 in
theorem gX6_does_X6_goes : GoodIn wsX6_does (wsV RX6 166 RX6 yX6_goes wsX6_goes) := goodIn_app (goodIn_of _ (by decide +kernel)) ggX6_does_X6_goes
set_option maxRecDepth 20000 in
theorem ggX6_does_X6_pair : GoodIn wsX6_does wsX6_pair := goodIn_r _ [27, 8, 32, 33, 34, 35, 36, 37, 38, 39, 40, 41, 42, 43, 44, 45, 46, 47, 48, 49, 50, 51, 52, 53, 54, 55, 56] (by decide +kernel) (by decide +kernel)
set_option maxRecDepth 20000 in
theorem gX6_does_X6_pair : GoodIn wsX6_does (wsV RX6 178 RX6 yX6_pair wsX6_pair) := goodIn_app (goodIn_of _ (by decide +kernel)) ggX6_does_X6_pair
set_option maxRecDepth 20000 in
theorem ggX6_does_X6_at : GoodIn wsX6_does wsX6_at := goodIn_r _ [17] (by decide +kernel) (by decide +kernel)
set_option maxRecDepth 20000 in
theorem gX6_does_X6_at : GoodIn wsX6_does (va_wsS RX6 159 yX6_at wsX6_at) := goodIn_app (goodIn_of _ (by decide +kernel)) ggX6_does_X6_at
set_option maxRecDepth 20000 in
theorem ggX6_does_X6_isRising : GoodIn wsX6_does wsX6_isRising := goodIn_r _ [31, 8, 15, 16, 6, 17, 32, 33, 34, 35, 36, 37, 38, 39, 40, 41, 42, 43, 44, 45, 46, 47, 48, 49, 50, 51, 52, 53, 54, 55, 56] (by decide +kernel) (by decide +kernel)
set_option maxRecDepth 20000 in
theorem gX6_does_X6_isRising : GoodIn wsX6_does (wsV RX6 169 RX6 yX6_isRising wsX6_isRising) := goodIn_app (goodIn_of _ (by decide +kernel)) ggX6_does_X6_isRising
theorem dX6_does_0 : decode cX6_does 0 = .ok (.iconst 0, 1) := by decide +kernel
theorem dX6_does_1 : decode cX6_does 1 = .ok (.istore_n 2, 1) := by decide +kernel
theorem dX6_does_2 : decode cX6_does 2 = .ok (.iload_n 2, 1) := by decide +kernel
theorem dX6_does_3 : decode cX6_does 3 = .ok (.aload_n 0, 1) := by decide +kernel
theorem dX6_does_4 : decode cX6_does 4 = .ok (.invokevirtual 162, 3) := by decide +kernel
theorem dX6_does_7 : decode cX6_does 7 = .ok (.if_icmp .ge 97, 3) := by decide +kernel
theorem dX6_does_10 : decode cX6_does 10 = .ok (.aload_n 0, 1) := by decide +kernel
theorem dX6_does_11 : decode cX6_does 11 = .ok (.iload_n 2, 1) := by decide +kernel
theorem dX6_does_12 : decode cX6_does 12 = .ok (.aload_n 0, 1) := by decide +kernel
theorem dX6_does_13 : decode cX6_does 13 = .ok (.getfield 79, 3) := by decide +kernel
theorem dX6_does_16 : decode cX6_does 16 = .ok (.iconst (-1), 1) := by decide +kernel
theorem dX6_does_17 : decode cX6_does 17 = .ok (.invokevirtual 166, 3) := by decide +kernel
theorem dX6_does_20 : decode cX6_does 20 = .ok (.istore_n 3, 1) := by decide +kernel
theorem dX6_does_21 : decode cX6_does 21 = .ok (.iconst 0, 1) := by decide +kernel
theorem dX6_does_22 : decode cX6_does 22 = .ok (.istore 4, 2) := by decide +kernel
theorem dX6_does_24 : decode cX6_does 24 = .ok (.iload 4, 2) := by decide +kernel
theorem dX6_does_26 : decode cX6_does 26 = .ok (.iload_n 1, 1) := by decide +kernel
theorem dX6_does_27 : decode cX6_does 27 = .ok (.if_icmp .ge 61, 3) := by decide +kernel
theorem dX6_does_30 : decode cX6_does 30 = .ok (.aload_n 0, 1) := by decide +kernel
theorem dX6_does_31 : decode cX6_does 31 = .ok (.aload_n 0, 1) := by decide +kernel
theorem dX6_does_32 : decode cX6_does 32 = .ok (.getfield 70, 3) := by decide +kernel
theorem dX6_does_35 : decode cX6_does 35 = .ok (.iload 4, 2) := by decide +kernel
theorem dX6_does_37 : decode cX6_does 37 = .ok (.iaload, 1) := by decide +kernel
theorem dX6_does_38 : decode cX6_does 38 = .ok (.invokevirtual 178, 3) := by decide +kernel
theorem dX6_does_41 : decode cX6_does 41 = .ok (.istore 5, 2) := by decide +kernel
theorem dX6_does_43 : decode cX6_does 43 = .ok (.iload_n 3, 1) := by decide +kernel
theorem dX6_does_44 : decode cX6_does 44 = .ok (.iload 5, 2) := by decide +kernel
theorem dX6_does_46 : decode cX6_does 46 = .ok (.bipush 10, 2) := by decide +kernel
theorem dX6_does_48 : decode cX6_does 48 = .ok (.idiv, 1) := by decide +kernel
theorem dX6_does_49 : decode cX6_does 49 = .ok (.invokestatic 159, 3) := by decide +kernel
theorem dX6_does_52 : decode cX6_does 52 = .ok (.iload_n 3, 1) := by decide +kernel
theorem dX6_does_53 : decode cX6_does 53 = .ok (.iload 5, 2) := by decide +kernel
theorem dX6_does_55 : decode cX6_does 55 = .ok (.bipush 10, 2) := by decide +kernel
theorem dX6_does_57 : decode cX6_does 57 = .ok (.irem, 1) := by decide +kernel
theorem dX6_does_58 : decode cX6_does 58 = .ok (.invokestatic 159, 3) := by decide +kernel
theorem dX6_does_61 : decode cX6_does 61 = .ok (.if_icmp .le 21, 3) := by decide +kernel
theorem dX6_does_64 : decode cX6_does 64 = .ok (.iload_n 3, 1) := by decide +kernel
theorem dX6_does_65 : decode cX6_does 65 = .ok (.iconst 1, 1) := by decide +kernel
theorem dX6_does_66 : decode cX6_does 66 = .ok (.iload 5, 2) := by decide +kernel
theorem dX6_does_68 : decode cX6_does 68 = .ok (.bipush 10, 2) := by decide +kernel
theorem dX6_does_70 : decode cX6_does 70 = .ok (.idiv, 1) := by decide +kernel
theorem dX6_does_71 : decode cX6_does 71 = .ok (.ishl, 1) := by decide +kernel
theorem dX6_does_72 : decode cX6_does 72 = .ok (.ixor, 1) := by decide +kernel
theorem dX6_does_73 : decode cX6_does 73 = .ok (.iconst 1, 1) := by decide +kernel
theorem dX6_does_74 : decode cX6_does 74 = .ok (.iload 5, 2) := by decide +kernel
theorem dX6_does_76 : decode cX6_does 76 = .ok (.bipush 10, 2) := by decide +kernel
theorem dX6_does_78 : decode cX6_does 78 = .ok (.irem, 1) := by decide +kernel
theorem dX6_does_79 : decode cX6_does 79 = .ok (.ishl, 1) := by decide +kernel
theorem dX6_does_80 : decode cX6_does 80 = .ok (.ixor, 1) := by decide +kernel
theorem dX6_does_81 : decode cX6_does 81 = .ok (.istore_n 3, 1) := by decide +kernel
theorem dX6_does_82 : decode cX6_does 82 = .ok (.iinc 4 1, 3) := by decide +kernel
theorem dX6_does_85 : decode cX6_does 85 = .ok (.goto (-61), 3) := by decide +kernel
theorem dX6_does_88 : decode cX6_does 88 = .ok (.aload_n 0, 1) := by decide +kernel
theorem dX6_does_89 : decode cX6_does 89 = .ok (.iload_n 3, 1) := by decide +kernel
theorem dX6_does_90 : decode cX6_does 90 = .ok (.invokevirtual 169, 3) := by decide +kernel
theorem dX6_does_93 : decode cX6_does 93 = .ok (.ifCond .ne 5, 3) := by decide +kernel
theorem dX6_does_96 : decode cX6_does 96 = .ok (.iconst 0, 1) := by decide +kernel
theorem dX6_does_97 : decode cX6_does 97 = .ok (.ireturn, 1) := by decide +kernel
theorem dX6_does_98 : decode cX6_does 98 = .ok (.iinc 2 1, 3) := by decide +kernel
theorem dX6_does_101 : decode cX6_does 101 = .ok (.goto (-99), 3) := by decide +kernel
theorem dX6_does_104 : decode cX6_does 104 = .ok (.iconst 1, 1) := by decide +kernel
theorem dX6_does_105 : decode cX6_does 105 = .ok (.ireturn, 1) := by decide +kernel
set_option maxRecDepth 20000 in
theorem ggX6_shortest_X6_does : GoodIn wsX6_shortest wsX6_does := goodIn_r _ [7, 8, 2, 9, 10, 11, 6, 12, 1, 13, 14, 15, 16, 17, 18, 19, 20, 21, 22, 23, 24, 25, 26, 27, 28, 29, 30, 31, 32, 33, 34, 35, 36, 37, 38, 39, 40, 41, 42, 43, 44, 45, 46, 47, 48, 49, 50, 51, 52, 53, 54, 55, 56, 57, 58, 59, 60] (by decide +kernel) (by decide +kernel)
set_option maxRecDepth 20000 in
theorem gX6_shortest_X6_does : GoodIn wsX6_shortest (wsV RX6 181 RX6 yX6_does wsX6_does) := goodIn_app (goodIn_of _ (by decide +kernel)) ggX6_shortest_X6_does
theorem dX6_shortest_0 : decode cX6_shortest 0 = .ok (.aload_n 0, 1) := by decide +kernel
theorem dX6_shortest_1 : decode cX6_shortest 1 = .ok (.getfield 7, 3) := by decide +kernel
theorem dX6_shortest_4 : decode cX6_shortest 4 = .ok (.aload_n 0, 1) := by decide +kernel
theorem dX6_shortest_5 : decode cX6_shortest 5 = .ok (.getfield 7, 3) := by decide +kernel
theorem dX6_shortest_8 : decode cX6_shortest 8 = .ok (.iconst 1, 1) := by decide +kernel
theorem dX6_shortest_9 : decode cX6_shortest 9 = .ok (.isub, 1) := by decide +kernel
theorem dX6_shortest_10 : decode cX6_shortest 10 = .ok (.imul, 1) := by decide +kernel
theorem dX6_shortest_11 : decode cX6_shortest 11 = .ok (.iconst 2, 1) := by decide +kernel
theorem dX6_shortest_12 : decode cX6_shortest 12 = .ok (.idiv, 1) := by decide +kernel
theorem dX6_shortest_13 : decode cX6_shortest 13 = .ok (.istore_n 1, 1) := by decide +kernel
theorem dX6_shortest_14 : decode cX6_shortest 14 = .ok (.iconst 0, 1) := by decide +kernel
theorem dX6_shortest_15 : decode cX6_shortest 15 = .ok (.istore_n 2, 1) := by decide +kernel
theorem dX6_shortest_16 : decode cX6_shortest 16 = .ok (.iload_n 2, 1) := by decide +kernel
theorem dX6_shortest_17 : decode cX6_shortest 17 = .ok (.bipush 10, 2) := by decide +kernel
theorem dX6_shortest_19 : decode cX6_shortest 19 = .ok (.if_icmp .ge 111, 3) := by decide +kernel
theorem dX6_shortest_22 : decode cX6_shortest 22 = .ok (.iconst 0, 1) := by decide +kernel
theorem dX6_shortest_23 : decode cX6_shortest 23 = .ok (.istore_n 3, 1) := by decide +kernel
theorem dX6_shortest_24 : decode cX6_shortest 24 = .ok (.iload_n 3, 1) := by decide +kernel
theorem dX6_shortest_25 : decode cX6_shortest 25 = .ok (.iload_n 2, 1) := by decide +kernel
theorem dX6_shortest_26 : decode cX6_shortest 26 = .ok (.if_icmp .ge 16, 3) := by decide +kernel
theorem dX6_shortest_29 : decode cX6_shortest 29 = .ok (.aload_n 0, 1) := by decide +kernel
theorem dX6_shortest_30 : decode cX6_shortest 30 = .ok (.getfield 70, 3) := by decide +kernel
theorem dX6_shortest_33 : decode cX6_shortest 33 = .ok (.iload_n 3, 1) := by decide +kernel
theorem dX6_shortest_34 : decode cX6_shortest 34 = .ok (.iconst 0, 1) := by decide +kernel
theorem dX6_shortest_35 : decode cX6_shortest 35 = .ok (.iastore, 1) := by decide +kernel
theorem dX6_shortest_36 : decode cX6_shortest 36 = .ok (.iinc 3 1, 3) := by decide +kernel
theorem dX6_shortest_39 : decode cX6_shortest 39 = .ok (.goto (-15), 3) := by decide +kernel
theorem dX6_shortest_42 : decode cX6_shortest 42 = .ok (.iconst 1, 1) := by decide +kernel
theorem dX6_shortest_43 : decode cX6_shortest 43 = .ok (.istore_n 3, 1) := by decide +kernel
theorem dX6_shortest_44 : decode cX6_shortest 44 = .ok (.iload_n 3, 1) := by decide +kernel
theorem dX6_shortest_45 : decode cX6_shortest 45 = .ok (.ifCond .eq 79, 3) := by decide +kernel
theorem dX6_shortest_48 : decode cX6_shortest 48 = .ok (.aload_n 0, 1) := by decide +kernel
theorem dX6_shortest_49 : decode cX6_shortest 49 = .ok (.iload_n 2, 1) := by decide +kernel
theorem dX6_shortest_50 : decode cX6_shortest 50 = .ok (.invokevirtual 181, 3) := by decide +kernel
theorem dX6_shortest_53 : decode cX6_shortest 53 = .ok (.ifCond .eq 5, 3) := by decide +kernel
theorem dX6_shortest_56 : decode cX6_shortest 56 = .ok (.iload_n 2, 1) := by decide +kernel
theorem dX6_shortest_57 : decode cX6_shortest 57 = .ok (.ireturn, 1) := by decide +kernel
theorem dX6_shortest_58 : decode cX6_shortest 58 = .ok (.iload_n 2, 1) := by decide +kernel
theorem dX6_shortest_59 : decode cX6_shortest 59 = .ok (.iconst 1, 1) := by decide +kernel
theorem dX6_shortest_60 : decode cX6_shortest 60 = .ok (.isub, 1) := by decide +kernel
theorem dX6_shortest_61 : decode cX6_shortest 61 = .ok (.istore 4, 2) := by decide +kernel
theorem dX6_shortest_63 : decode cX6_shortest 63 = .ok (.iload 4, 2) := by decide +kernel
theorem dX6_shortest_65 : decode cX6_shortest 65 = .ok (.ifCond .lt 30, 3) := by decide +kernel
theorem dX6_shortest_68 : decode cX6_shortest 68 = .ok (.aload_n 0, 1) := by decide +kernel
theorem dX6_shortest_69 : decode cX6_shortest 69 = .ok (.getfield 70, 3) := by decide +kernel
theorem dX6_shortest_72 : decode cX6_shortest 72 = .ok (.iload 4, 2) := by decide +kernel
theorem dX6_shortest_74 : decode cX6_shortest 74 = .ok (.iaload, 1) := by decide +kernel
theorem dX6_shortest_75 : decode cX6_shortest 75 = .ok (.iload_n 1, 1) := by decide +kernel
theorem dX6_shortest_76 : decode cX6_shortest 76 = .ok (.iconst 1, 1) := by decide +kernel
theorem dX6_shortest_77 : decode cX6_shortest 77 = .ok (.isub, 1) := by decide +kernel
theorem dX6_shortest_78 : decode cX6_shortest 78 = .ok (.if_icmp .ne 17, 3) := by decide +kernel
theorem dX6_shortest_81 : decode cX6_shortest 81 = .ok (.aload_n 0, 1) := by decide +kernel
theorem dX6_shortest_82 : decode cX6_shortest 82 = .ok (.getfield 70, 3) := by decide +kernel
theorem dX6_shortest_85 : decode cX6_shortest 85 = .ok (.iload 4, 2) := by decide +kernel
theorem dX6_shortest_87 : decode cX6_shortest 87 = .ok (.iconst 0, 1) := by decide +kernel
theorem dX6_shortest_88 : decode cX6_shortest 88 = .ok (.iastore, 1) := by decide +kernel
theorem dX6_shortest_89 : decode cX6_shortest 89 = .ok (.iinc 4 (-1), 3) := by decide +kernel
theorem dX6_shortest_92 : decode cX6_shortest 92 = .ok (.goto (-29), 3) := by decide +kernel
theorem dX6_shortest_95 : decode cX6_shortest 95 = .ok (.iload 4, 2) := by decide +kernel
theorem dX6_shortest_97 : decode cX6_shortest 97 = .ok (.ifCond .lt 7, 3) := by decide +kernel
theorem dX6_shortest_100 : decode cX6_shortest 100 = .ok (.iconst 1, 1) := by decide +kernel
theorem dX6_shortest_101 : decode cX6_shortest 101 = .ok (.goto 4, 3) := by decide +kernel
theorem dX6_shortest_104 : decode cX6_shortest 104 = .ok (.iconst 0, 1) := by decide +kernel
theorem dX6_shortest_105 : decode cX6_shortest 105 = .ok (.istore_n 3, 1) := by decide +kernel
theorem dX6_shortest_106 : decode cX6_shortest 106 = .ok (.iload_n 3, 1) := by decide +kernel
theorem dX6_shortest_107 : decode cX6_shortest 107 = .ok (.ifCond .eq 14, 3) := by decide +kernel
theorem dX6_shortest_110 : decode cX6_shortest 110 = .ok (.aload_n 0, 1) := by decide +kernel
theorem dX6_shortest_111 : decode cX6_shortest 111 = .ok (.getfield 70, 3) := by decide +kernel
theorem dX6_shortest_114 : decode cX6_shortest 114 = .ok (.iload 4, 2) := by decide +kernel
theorem dX6_shortest_116 : decode cX6_shortest 116 = .ok (.dup2, 1) := by decide +kernel
theorem dX6_shortest_117 : decode cX6_shortest 117 = .ok (.iaload, 1) := by decide +kernel
theorem dX6_shortest_118 : decode cX6_shortest 118 = .ok (.iconst 1, 1) := by decide +kernel
theorem dX6_shortest_119 : decode cX6_shortest 119 = .ok (.iadd, 1) := by decide +kernel
theorem dX6_shortest_120 : decode cX6_shortest 120 = .ok (.iastore, 1) := by decide +kernel
theorem dX6_shortest_121 : decode cX6_shortest 121 = .ok (.goto (-77), 3) := by decide +kernel
theorem dX6_shortest_124 : decode cX6_shortest 124 = .ok (.iinc 2 1, 3) := by decide +kernel
theorem dX6_shortest_127 : decode cX6_shortest 127 = .ok (.goto (-111), 3) := by decide +kernel
theorem dX6_shortest_130 : decode cX6_shortest 130 = .ok (.iconst (-1), 1) := by decide +kernel
theorem dX6_shortest_131 : decode cX6_shortest 131 = .ok (.ireturn, 1) := by decide +kernel
set_option maxRecDepth 20000 in
theorem ggX6_missing_X6_found : GoodIn wsX6_missing wsX6_found := goodIn_r _ [6, 7, 45, 46, 47, 48, 49, 50, 51, 52, 53, 54, 55, 56, 57, 58, 59, 60, 61, 62, 63, 64, 65, 66, 67, 68, 69] (by decide +kernel) (by decide +kernel)
set_option maxRecDepth 20000 in
theorem gX6_missing_X6_found : GoodIn wsX6_missing (wsV RX6 93 RX6 yX6_found wsX6_found) := goodIn_app (goodIn_of _ (by decide +kernel)) ggX6_missing_X6_found
set_option maxRecDepth 20000 in
theorem ggX6_missing_X6_shortest : GoodIn wsX6_missing wsX6_shortest := goodIn_r _ [11, 1, 12, 13, 14, 15, 5, 16, 17, 18, 19, 20, 21, 22, 23, 24, 25, 26, 27, 28, 29, 30, 31, 32, 33, 34, 35, 36, 37, 38, 39, 40, 41, 42, 43, 44, 45, 46, 47, 48, 49, 50, 51, 52, 53, 54, 55, 56, 57, 58, 59, 60, 61, 62, 63, 64, 65, 66, 67, 68, 69] (by decide +kernel) (by decide +kernel)
set_option maxRecDepth 20000 in
theorem gX6_missing_X6_shortest : GoodIn wsX6_missing (wsV RX6 184 RX6 yX6_shortest wsX6_shortest) := goodIn_app (goodIn_of _ (by decide +kernel)) ggX6_missing_X6_shortest
theorem dX6_missing_0 : decode cX6_missing 0 = .ok (.aload_n 0, 1) := by decide +kernel
theorem dX6_missing_1 : decode cX6_missing 1 = .ok (.getfield 7, 3) := by decide +kernel
theorem dX6_missing_4 : decode cX6_missing 4 = .ok (.iconst 4, 1) := by decide +kernel
theorem dX6_missing_5 : decode cX6_missing 5 = .ok (.if_icmp .le 12, 3) := by decide +kernel
theorem dX6_missing_8 : decode cX6_missing 8 = .ok (.aload_n 0, 1) := by decide +kernel
theorem dX6_missing_9 : decode cX6_missing 9 = .ok (.bipush (-8), 2) := by decide +kernel
theorem dX6_missing_11 : decode cX6_missing 11 = .ok (.invokevirtual 93, 3) := by decide +kernel
theorem dX6_missing_14 : decode cX6_missing 14 = .ok (.goto 7, 3) := by decide +kernel
theorem dX6_missing_17 : decode cX6_missing 17 = .ok (.aload_n 0, 1) := by decide +kernel
theorem dX6_missing_18 : decode cX6_missing 18 = .ok (.invokevirtual 184, 3) := by decide +kernel
theorem dX6_missing_21 : decode cX6_missing 21 = .ok (.ireturn, 1) := by decide +kernel
set_option maxRecDepth 20000 in
theorem ggX6_next_X6_found : GoodIn wsX6_next wsX6_found := goodIn_r _ [7, 8, 48, 49, 50, 51, 52, 53, 54, 55, 56, 57, 58, 59, 60, 61, 62, 63, 64, 65, 66, 67, 68, 69, 70, 71, 72] (by decide +kernel) (by decide +kernel)
set_option maxRecDepth 20000 in
theorem gX6_next_X6_found : GoodIn wsX6_next (wsV RX6 93 RX6 yX6_found wsX6_found) := goodIn_app (goodIn_of _ (by decide +kernel)) ggX6_next_X6_found
set_option maxRecDepth 20000 in
theorem ggX6_next_X6_shortest : GoodIn wsX6_next wsX6_shortest := goodIn_r _ [12, 1, 2, 13, 14, 15, 6, 16, 17, 18, 19, 20, 21, 22, 23, 24, 25, 26, 27, 28, 29, 30, 31, 32, 33, 34, 35, 36, 37, 38, 39, 40, 41, 42, 43, 44, 48, 49, 50, 51, 52, 53, 54, 55, 56, 57, 58, 59, 60, 61, 62, 63, 64, 65, 66, 67, 68, 69, 70, 71, 72] (by decide +kernel) (by decide +kernel)
set_option maxRecDepth 20000 in
theorem gX6_next_X6_shortest : GoodIn wsX6_next (wsV RX6 184 RX6 yX6_shortest wsX6_shortest) := goodIn_app (goodIn_of _ (by decide +kernel)) ggX6_next_X6_shortest
set_option maxRecDepth 20000 in
theorem ggX6_next_X6_in : GoodIn wsX6_next wsX6_in := goodIn_r _ [47] (by decide +kernel) (by decide +kernel)
set_option maxRecDepth 20000 in
theorem gX6_next_X6_in : GoodIn wsX6_next (va_wsS RX6 82 yX6_in wsX6_in) := goodIn_app (goodIn_of _ (by decide +kernel)) ggX6_next_X6_in
set_option maxRecDepth 20000 in
theorem ggX6_next_X6_pair : GoodIn wsX6_next wsX6_pair := goodIn_r _ [40, 1, 48, 49, 50, 51, 52, 53, 54, 55, 56, 57, 58, 59, 60, 61, 62, 63, 64, 65, 66, 67, 68, 69, 70, 71, 72] (by decide +kernel) (by decide +kernel)
set_option maxRecDepth 20000 in
theorem gX6_next_X6_pair : GoodIn wsX6_next (wsV RX6 178 RX6 yX6_pair wsX6_pair) := goodIn_app (goodIn_of _ (by decide +kernel)) ggX6_next_X6_pair
theorem dX6_next_0 : decode cX6_next 0 = .ok (.aload_n 0, 1) := by decide +kernel
theorem dX6_next_1 : decode cX6_next 1 = .ok (.getfield 7, 3) := by decide +kernel
theorem dX6_next_4 : decode cX6_next 4 = .ok (.iconst 4, 1) := by decide +kernel
theorem dX6_next_5 : decode cX6_next 5 = .ok (.if_icmp .le 10, 3) := by decide +kernel
theorem dX6_next_8 : decode cX6_next 8 = .ok (.aload_n 0, 1) := by decide +kernel
theorem dX6_next_9 : decode cX6_next 9 = .ok (.bipush (-8), 2) := by decide +kernel
theorem dX6_next_11 : decode cX6_next 11 = .ok (.invokevirtual 93, 3) := by decide +kernel
theorem dX6_next_14 : decode cX6_next 14 = .ok (.ireturn, 1) := by decide +kernel
theorem dX6_next_15 : decode cX6_next 15 = .ok (.aload_n 0, 1) := by decide +kernel
theorem dX6_next_16 : decode cX6_next 16 = .ok (.invokevirtual 184, 3) := by decide +kernel
theorem dX6_next_19 : decode cX6_next 19 = .ok (.istore_n 2, 1) := by decide +kernel
theorem dX6_next_20 : decode cX6_next 20 = .ok (.iload_n 1, 1) := by decide +kernel
theorem dX6_next_21 : decode cX6_next 21 = .ok (.iconst 0, 1) := by decide +kernel
theorem dX6_next_22 : decode cX6_next 22 = .ok (.iload_n 2, 1) := by decide +kernel
theorem dX6_next_23 : decode cX6_next 23 = .ok (.iconst 1, 1) := by decide +kernel
theorem dX6_next_24 : decode cX6_next 24 = .ok (.isub, 1) := by decide +kernel
theorem dX6_next_25 : decode cX6_next 25 = .ok (.invokestatic 82, 3) := by decide +kernel
theorem dX6_next_28 : decode cX6_next 28 = .ok (.ifCond .eq 16, 3) := by decide +kernel
theorem dX6_next_31 : decode cX6_next 31 = .ok (.aload_n 0, 1) := by decide +kernel
theorem dX6_next_32 : decode cX6_next 32 = .ok (.aload_n 0, 1) := by decide +kernel
theorem dX6_next_33 : decode cX6_next 33 = .ok (.getfield 70, 3) := by decide +kernel
theorem dX6_next_36 : decode cX6_next 36 = .ok (.iload_n 1, 1) := by decide +kernel
theorem dX6_next_37 : decode cX6_next 37 = .ok (.iaload, 1) := by decide +kernel
theorem dX6_next_38 : decode cX6_next 38 = .ok (.invokevirtual 178, 3) := by decide +kernel
theorem dX6_next_41 : decode cX6_next 41 = .ok (.goto 9, 3) := by decide +kernel
theorem dX6_next_44 : decode cX6_next 44 = .ok (.aload_n 0, 1) := by decide +kernel
theorem dX6_next_45 : decode cX6_next 45 = .ok (.bipush (-6), 2) := by decide +kernel
theorem dX6_next_47 : decode cX6_next 47 = .ok (.invokevirtual 93, 3) := by decide +kernel
theorem dX6_next_50 : decode cX6_next 50 = .ok (.ireturn, 1) := by decide +kernel
set_option maxRecDepth 20000 in
theorem ggX6_bears_X6_sorts : GoodIn wsX6_bears wsX6_sorts := goodIn_r _ [6, 7, 8, 9, 5, 10, 1, 11, 12, 13, 14, 15, 16, 17, 18, 19, 20, 21, 22, 23, 24, 25, 26, 27, 28, 29, 30, 31, 32, 33, 34, 35, 36, 37, 38, 39, 40, 41, 42, 43, 44, 45, 46, 47, 48, 49, 50, 51, 52, 53, 54, 55, 56, 57, 58, 59] (by decide +kernel) (by decide +kernel)
set_option maxRecDepth 20000 in
theorem gX6_bears_X6_sorts : GoodIn wsX6_bears (wsV RX6 187 RX6 yX6_sorts wsX6_sorts) := goodIn_app (goodIn_of _ (by decide +kernel)) ggX6_bears_X6_sorts
set_option maxRecDepth 20000 in
theorem ggX6_bears_X6_failing : GoodIn wsX6_bears wsX6_failing := goodIn_r _ [10, 1, 11, 12, 13, 5, 14, 15, 16, 17, 18, 19, 20, 21, 22, 23, 24, 25, 26, 27, 28, 29, 30, 31, 32, 33, 34, 35, 36, 37, 38, 39, 40, 41, 42, 43, 44, 45, 46, 47, 48, 49, 50, 51, 52, 53, 54, 55, 56, 57, 58, 59] (by decide +kernel) (by decide +kernel)
set_option maxRecDepth 20000 in
theorem gX6_bears_X6_failing : GoodIn wsX6_bears (wsV RX6 172 RX6 yX6_failing wsX6_failing) := goodIn_app (goodIn_of _ (by decide +kernel)) ggX6_bears_X6_failing
theorem dX6_bears_0 : decode cX6_bears 0 = .ok (.aload_n 0, 1) := by decide +kernel
theorem dX6_bears_1 : decode cX6_bears 1 = .ok (.getfield 79, 3) := by decide +kernel
theorem dX6_bears_4 : decode cX6_bears 4 = .ok (.ifCond .ne 8, 3) := by decide +kernel
theorem dX6_bears_7 : decode cX6_bears 7 = .ok (.aload_n 0, 1) := by decide +kernel
theorem dX6_bears_8 : decode cX6_bears 8 = .ok (.invokevirtual 187, 3) := by decide +kernel
theorem dX6_bears_11 : decode cX6_bears 11 = .ok (.ireturn, 1) := by decide +kernel
theorem dX6_bears_12 : decode cX6_bears 12 = .ok (.iconst 0, 1) := by decide +kernel
theorem dX6_bears_13 : decode cX6_bears 13 = .ok (.istore_n 1, 1) := by decide +kernel
theorem dX6_bears_14 : decode cX6_bears 14 = .ok (.iload_n 1, 1) := by decide +kernel
theorem dX6_bears_15 : decode cX6_bears 15 = .ok (.aload_n 0, 1) := by decide +kernel
theorem dX6_bears_16 : decode cX6_bears 16 = .ok (.getfield 79, 3) := by decide +kernel
theorem dX6_bears_19 : decode cX6_bears 19 = .ok (.if_icmp .ge 19, 3) := by decide +kernel
theorem dX6_bears_22 : decode cX6_bears 22 = .ok (.aload_n 0, 1) := by decide +kernel
theorem dX6_bears_23 : decode cX6_bears 23 = .ok (.iload_n 1, 1) := by decide +kernel
theorem dX6_bears_24 : decode cX6_bears 24 = .ok (.invokevirtual 172, 3) := by decide +kernel
theorem dX6_bears_27 : decode cX6_bears 27 = .ok (.ifCond .lt 5, 3) := by decide +kernel
theorem dX6_bears_30 : decode cX6_bears 30 = .ok (.iconst 0, 1) := by decide +kernel
theorem dX6_bears_31 : decode cX6_bears 31 = .ok (.ireturn, 1) := by decide +kernel
theorem dX6_bears_32 : decode cX6_bears 32 = .ok (.iinc 1 1, 3) := by decide +kernel
theorem dX6_bears_35 : decode cX6_bears 35 = .ok (.goto (-21), 3) := by decide +kernel
theorem dX6_bears_38 : decode cX6_bears 38 = .ok (.iconst 1, 1) := by decide +kernel
theorem dX6_bears_39 : decode cX6_bears 39 = .ok (.ireturn, 1) := by decide +kernel
set_option maxRecDepth 20000 in
theorem ggX6_weak_X6_isComparer : GoodIn wsX6_weak wsX6_isComparer := goodIn_r _ [5, 6, 7, 8, 4, 9, 43, 44, 45, 46, 47, 48, 49, 50, 51, 52, 53, 54, 55, 56, 57, 58, 59, 60, 61, 62, 63, 64, 65, 66, 67] (by decide +kernel) (by decide +kernel)
set_option maxRecDepth 20000 in
theorem gX6_weak_X6_isComparer : GoodIn wsX6_weak (wsV RX6 111 RX6 yX6_isComparer wsX6_isComparer) := goodIn_app (goodIn_of _ (by decide +kernel)) ggX6_weak_X6_isComparer
set_option maxRecDepth 20000 in
theorem ggX6_weak_X6_found : GoodIn wsX6_weak wsX6_found := goodIn_r _ [13, 14, 43, 44, 45, 46, 47, 48, 49, 50, 51, 52, 53, 54, 55, 56, 57, 58, 59, 60, 61, 62, 63, 64, 65, 66, 67] (by decide +kernel) (by decide +kernel)
set_option maxRecDepth 20000 in
theorem gX6_weak_X6_found : GoodIn wsX6_weak (wsV RX6 93 RX6 yX6_found wsX6_found) := goodIn_app (goodIn_of _ (by decide +kernel)) ggX6_weak_X6_found
set_option maxRecDepth 20000 in
theorem ggX6_weak_X6_failing : GoodIn wsX6_weak wsX6_failing := goodIn_r _ [18, 6, 19, 20, 21, 4, 22, 23, 24, 25, 26, 27, 28, 29, 30, 31, 32, 33, 34, 35, 36, 37, 38, 39, 40, 41, 42, 43, 44, 45, 46, 47, 48, 49, 50, 51, 52, 53, 54, 55, 56, 57, 58, 59, 60, 61, 62, 63, 64, 65, 66, 67] (by decide +kernel) (by decide +kernel)
set_option maxRecDepth 20000 in
theorem gX6_weak_X6_failing : GoodIn wsX6_weak (wsV RX6 172 RX6 yX6_failing wsX6_failing) := goodIn_app (goodIn_of _ (by decide +kernel)) ggX6_weak_X6_failing
theorem dX6_weak_0 : decode cX6_weak 0 = .ok (.aload_n 0, 1) := by decide +kernel
theorem dX6_weak_1 : decode cX6_weak 1 = .ok (.iload_n 1, 1) := by decide +kernel
theorem dX6_weak_2 : decode cX6_weak 2 = .ok (.invokevirtual 111, 3) := by decide +kernel
theorem dX6_weak_5 : decode cX6_weak 5 = .ok (.ifCond .ne 9, 3) := by decide +kernel
theorem dX6_weak_8 : decode cX6_weak 8 = .ok (.aload_n 0, 1) := by decide +kernel
theorem dX6_weak_9 : decode cX6_weak 9 = .ok (.iconst (-1), 1) := by decide +kernel
theorem dX6_weak_10 : decode cX6_weak 10 = .ok (.invokevirtual 93, 3) := by decide +kernel
