theorem dX5_missing_0 : decode cX5_missing 0 = .ok (.aload_n 0, 1) := by decide +kernel
theorem dX5_missing_1 : decode cX5_missing 1 = .ok (.getfield 10, 3) := by decide +kernel
theorem dX5_missing_4 : decode cX5_missing 4 = .ok (.getfield 160, 3) := by decide +kernel
theorem dX5_missing_7 : decode cX5_missing 7 = .ok (.iconst 4, 1) := by decide +kernel
theorem dX5_missing_8 : decode cX5_missing 8 = .ok (.if_icmp .le 10, 3) := by decide +kernel
theorem dX5_missing_11 : decode cX5_missing 11 = .ok (.aload_n 0, 1) := by decide +kernel
theorem dX5_missing_12 : decode cX5_missing 12 = .ok (.bipush (-8), 2) := by decide +kernel
theorem dX5_missing_14 : decode cX5_missing 14 = .ok (.invokevirtual 69, 3) := by decide +kernel
theorem dX5_missing_17 : decode cX5_missing 17 = .ok (.ireturn, 1) := by decide +kernel
theorem dX5_missing_18 : decode cX5_missing 18 = .ok (.aload_n 0, 1) := by decide +kernel
theorem dX5_missing_19 : decode cX5_missing 19 = .ok (.invokevirtual 235, 3) := by decide +kernel
theorem dX5_missing_22 : decode cX5_missing 22 = .ok (.aload_n 0, 1) := by decide +kernel
theorem dX5_missing_23 : decode cX5_missing 23 = .ok (.getfield 46, 3) := by decide +kernel
theorem dX5_missing_26 : decode cX5_missing 26 = .ok (.getfield 238, 3) := by decide +kernel
theorem dX5_missing_29 : decode cX5_missing 29 = .ok (.ireturn, 1) := by decide +kernel
set_option maxRecDepth 20000 in
theorem ggX5_next_X5_finding : GoodIn wsX5_next wsX5_finding := goodIn_r _ [10, 11, 91, 92, 93, 94, 95, 96, 97, 98, 99, 100, 101] (by decide +kernel) (by decide +kernel)
set_option maxRecDepth 20000 in
theorem gX5_next_X5_finding : GoodIn wsX5_next (wsV RX5 69 RX5 yX5_finding wsX5_finding) := goodIn_app (goodIn_of _ (by decide +kernel)) ggX5_next_X5_finding
set_option maxRecDepth 20000 in
theorem ggX5_next_X5_findCompletion : GoodIn wsX5_next wsX5_findCompletion := goodIn_r _ [15, 16, 1, 2, 3, 17, 18, 19, 20, 21, 22, 23, 24, 25, 26, 27, 28, 29, 30, 31, 32, 33, 34, 35, 36, 37, 38, 39, 40, 41, 42, 43, 44, 45, 46, 47, 48, 49, 50, 51, 52, 53, 54, 55, 56, 57, 58, 59, 60, 61, 62, 63, 64, 65, 66, 67, 68, 69, 70, 71, 72, 73, 74, 75, 76, 77, 78, 79, 80, 81, 82, 83, 84, 85, 86, 87, 88, 89, 90, 91, 92, 93, 94, 95, 96, 97, 98, 99, 100, 101, 102, 103, 104, 109, 110, 105, 106, 107, 108] (by decide +kernel) (by decide +kernel)
set_option maxRecDepth 20000 in
theorem gX5_next_X5_findCompletion : GoodIn wsX5_next (wsV RX5 235 RX5 yX5_findCompletion wsX5_findCompletion) := goodIn_app (goodIn_of _ (by decide +kernel)) ggX5_next_X5_findCompletion
theorem dX5_next_0 : decode cX5_next 0 = .ok (.aload_n 0, 1) := by decide +kernel
theorem dX5_next_1 : decode cX5_next 1 = .ok (.getfield 10, 3) := by decide +kernel
theorem dX5_next_4 : decode cX5_next 4 = .ok (.getfield 160, 3) := by decide +kernel
theorem dX5_next_7 : decode cX5_next 7 = .ok (.iconst 4, 1) := by decide +kernel
theorem dX5_next_8 : decode cX5_next 8 = .ok (.if_icmp .le 10, 3) := by decide +kernel
theorem dX5_next_11 : decode cX5_next 11 = .ok (.aload_n 0, 1) := by decide +kernel
theorem dX5_next_12 : decode cX5_next 12 = .ok (.bipush (-8), 2) := by decide +kernel
theorem dX5_next_14 : decode cX5_next 14 = .ok (.invokevirtual 69, 3) := by decide +kernel
theorem dX5_next_17 : decode cX5_next 17 = .ok (.ireturn, 1) := by decide +kernel
theorem dX5_next_18 : decode cX5_next 18 = .ok (.aload_n 0, 1) := by decide +kernel
theorem dX5_next_19 : decode cX5_next 19 = .ok (.invokevirtual 235, 3) := by decide +kernel
theorem dX5_next_22 : decode cX5_next 22 = .ok (.iload_n 1, 1) := by decide +kernel
theorem dX5_next_23 : decode cX5_next 23 = .ok (.ifCond .lt 19, 3) := by decide +kernel
theorem dX5_next_26 : decode cX5_next 26 = .ok (.iload_n 1, 1) := by decide +kernel
theorem dX5_next_27 : decode cX5_next 27 = .ok (.aload_n 0, 1) := by decide +kernel
theorem dX5_next_28 : decode cX5_next 28 = .ok (.getfield 46, 3) := by decide +kernel
theorem dX5_next_31 : decode cX5_next 31 = .ok (.getfield 238, 3) := by decide +kernel
theorem dX5_next_34 : decode cX5_next 34 = .ok (.if_icmp .ge 8, 3) := by decide +kernel
theorem dX5_next_37 : decode cX5_next 37 = .ok (.iload_n 1, 1) := by decide +kernel
theorem dX5_next_38 : decode cX5_next 38 = .ok (.iconst 5, 1) := by decide +kernel
theorem dX5_next_39 : decode cX5_next 39 = .ok (.if_icmp .lt 10, 3) := by decide +kernel
theorem dX5_next_42 : decode cX5_next 42 = .ok (.aload_n 0, 1) := by decide +kernel
theorem dX5_next_43 : decode cX5_next 43 = .ok (.bipush (-6), 2) := by decide +kernel
theorem dX5_next_45 : decode cX5_next 45 = .ok (.invokevirtual 69, 3) := by decide +kernel
theorem dX5_next_48 : decode cX5_next 48 = .ok (.ireturn, 1) := by decide +kernel
theorem dX5_next_49 : decode cX5_next 49 = .ok (.aload_n 0, 1) := by decide +kernel
theorem dX5_next_50 : decode cX5_next 50 = .ok (.getfield 46, 3) := by decide +kernel
theorem dX5_next_53 : decode cX5_next 53 = .ok (.getfield 241, 3) := by decide +kernel
theorem dX5_next_56 : decode cX5_next 56 = .ok (.iload_n 1, 1) := by decide +kernel
theorem dX5_next_57 : decode cX5_next 57 = .ok (.iaload, 1) := by decide +kernel
theorem dX5_next_58 : decode cX5_next 58 = .ok (.ireturn, 1) := by decide +kernel
set_option maxRecDepth 20000 in
theorem ggX5_bears_X5_sorts : GoodIn wsX5_bears wsX5_sorts := goodIn_r _ [7, 8, 9, 10, 6, 11, 1, 12, 13, 14, 15, 16, 17, 18, 19, 20, 21, 22, 23, 24, 25, 26, 27, 28, 29, 30, 31, 32, 33, 34, 35, 36, 37, 38, 39, 40, 41, 42, 43, 44, 45, 46, 47, 48, 49, 50, 51, 52, 53, 54, 55, 56, 57, 58, 59, 60, 61, 62, 63, 64, 65, 66, 67, 68, 69, 70, 71, 72, 73, 74, 75, 76, 77, 78, 79, 80, 81, 82, 83, 84, 85, 86, 87, 88, 89, 90, 91, 92, 93, 94, 95, 96, 97] (by decide +kernel) (by decide +kernel)
set_option maxRecDepth 20000 in
theorem gX5_bears_X5_sorts : GoodIn wsX5_bears (wsV RX5 244 RX5 yX5_sorts wsX5_sorts) := goodIn_app (goodIn_of _ (by decide +kernel)) ggX5_bears_X5_sorts
set_option maxRecDepth 20000 in
theorem ggX5_bears_X5_leastFailing : GoodIn wsX5_bears wsX5_leastFailing := goodIn_r _ [11, 1, 12, 13, 14, 15, 16, 17, 18, 19, 6, 20, 21, 22, 23, 24, 25, 26, 27, 28, 29, 30, 31, 32, 33, 34, 35, 36, 37, 38, 39, 40, 41, 42, 43, 44, 45, 46, 47, 48, 49, 50, 51, 52, 53, 54, 55, 56, 57, 58, 59, 60, 61, 62, 63, 64, 65, 66, 67, 68, 69, 70, 71, 72, 73, 74, 75, 76, 77, 78, 79, 80, 81, 82, 83, 84, 85, 86, 87, 88, 89, 90, 91, 92, 93, 94, 95, 96, 97] (by decide +kernel) (by decide +kernel)
set_option maxRecDepth 20000 in
theorem gX5_bears_X5_leastFailing : GoodIn wsX5_bears (wsV RX5 186 RX5 yX5_leastFailing wsX5_leastFailing) := goodIn_app (goodIn_of _ (by decide +kernel)) ggX5_bears_X5_leastFailing
theorem dX5_bears_0 : decode cX5_bears 0 = .ok (.aload_n 0, 1) := by decide +kernel
theorem dX5_bears_1 : decode cX5_bears 1 = .ok (.getfield 10, 3) := by decide +kernel
theorem dX5_bears_4 : decode cX5_bears 4 = .ok (.getfield 77, 3) := by decide +kernel
theorem dX5_bears_7 : decode cX5_bears 7 = .ok (.ifCond .ne 8, 3) := by decide +kernel
theorem dX5_bears_10 : decode cX5_bears 10 = .ok (.aload_n 0, 1) := by decide +kernel
theorem dX5_bears_11 : decode cX5_bears 11 = .ok (.invokevirtual 244, 3) := by decide +kernel
theorem dX5_bears_14 : decode cX5_bears 14 = .ok (.ireturn, 1) := by decide +kernel
theorem dX5_bears_15 : decode cX5_bears 15 = .ok (.iconst 0, 1) := by decide +kernel
theorem dX5_bears_16 : decode cX5_bears 16 = .ok (.istore_n 1, 1) := by decide +kernel
theorem dX5_bears_17 : decode cX5_bears 17 = .ok (.iload_n 1, 1) := by decide +kernel
theorem dX5_bears_18 : decode cX5_bears 18 = .ok (.aload_n 0, 1) := by decide +kernel
theorem dX5_bears_19 : decode cX5_bears 19 = .ok (.getfield 10, 3) := by decide +kernel
theorem dX5_bears_22 : decode cX5_bears 22 = .ok (.getfield 77, 3) := by decide +kernel
theorem dX5_bears_25 : decode cX5_bears 25 = .ok (.if_icmp .ge 21, 3) := by decide +kernel
theorem dX5_bears_28 : decode cX5_bears 28 = .ok (.aload_n 0, 1) := by decide +kernel
theorem dX5_bears_29 : decode cX5_bears 29 = .ok (.iload_n 1, 1) := by decide +kernel
theorem dX5_bears_30 : decode cX5_bears 30 = .ok (.invokevirtual 186, 3) := by decide +kernel
theorem dX5_bears_33 : decode cX5_bears 33 = .ok (.bipush (-6), 2) := by decide +kernel
theorem dX5_bears_35 : decode cX5_bears 35 = .ok (.if_icmp .eq 5, 3) := by decide +kernel
theorem dX5_bears_38 : decode cX5_bears 38 = .ok (.iconst 0, 1) := by decide +kernel
theorem dX5_bears_39 : decode cX5_bears 39 = .ok (.ireturn, 1) := by decide +kernel
theorem dX5_bears_40 : decode cX5_bears 40 = .ok (.iinc 1 1, 3) := by decide +kernel
theorem dX5_bears_43 : decode cX5_bears 43 = .ok (.goto (-26), 3) := by decide +kernel
theorem dX5_bears_46 : decode cX5_bears 46 = .ok (.iconst 1, 1) := by decide +kernel
theorem dX5_bears_47 : decode cX5_bears 47 = .ok (.ireturn, 1) := by decide +kernel
set_option maxRecDepth 20000 in
theorem ggX5_weak_X3_has : GoodIn wsX5_weak wsX3_has := goodIn_r _ [6, 7, 102, 103, 104] (by decide +kernel) (by decide +kernel)
set_option maxRecDepth 20000 in
theorem gX5_weak_X3_has : GoodIn wsX5_weak (wsV RX5 91 RX3 yX3_has wsX3_has) := goodIn_app (goodIn_of _ (by decide +kernel)) ggX5_weak_X3_has
set_option maxRecDepth 20000 in
theorem ggX5_weak_X5_finding : GoodIn wsX5_weak wsX5_finding := goodIn_r _ [12, 13, 91, 92, 93, 94, 95, 96, 97, 98, 99, 100, 101] (by decide +kernel) (by decide +kernel)
set_option maxRecDepth 20000 in
theorem gX5_weak_X5_finding : GoodIn wsX5_weak (wsV RX5 69 RX5 yX5_finding wsX5_finding) := goodIn_app (goodIn_of _ (by decide +kernel)) ggX5_weak_X5_finding
set_option maxRecDepth 20000 in
theorem ggX5_weak_X5_leastFailing : GoodIn wsX5_weak wsX5_leastFailing := goodIn_r _ [17, 1, 18, 19, 20, 21, 22, 23, 24, 25, 11, 26, 27, 28, 29, 30, 31, 32, 33, 34, 35, 36, 37, 38, 39, 40, 41, 42, 43, 44, 45, 46, 5, 47, 48, 49, 50, 51, 52, 53, 54, 55, 56, 57, 58, 59, 60, 61, 62, 63, 64, 65, 66, 67, 68, 69, 70, 71, 72, 73, 74, 75, 76, 77, 78, 79, 80, 81, 82, 83, 84, 85, 86, 91, 92, 93, 94, 95, 96, 97, 98, 99, 100, 101, 102, 103, 104, 105, 106] (by decide +kernel) (by decide +kernel)
set_option maxRecDepth 20000 in
theorem gX5_weak_X5_leastFailing : GoodIn wsX5_weak (wsV RX5 186 RX5 yX5_leastFailing wsX5_leastFailing) := goodIn_app (goodIn_of _ (by decide +kernel)) ggX5_weak_X5_leastFailing
set_option maxRecDepth 20000 in
theorem ggX5_weak_X5_toldOrFinding : GoodIn wsX5_weak wsX5_toldOrFinding := goodIn_r _ [90, 8, 9, 10, 11, 12, 13, 91, 92, 93, 94, 95, 96, 97, 98, 99, 100, 101] (by decide +kernel) (by decide +kernel)
set_option maxRecDepth 20000 in
theorem gX5_weak_X5_toldOrFinding : GoodIn wsX5_weak (wsV RX5 189 RX5 yX5_toldOrFinding wsX5_toldOrFinding) := goodIn_app (goodIn_of _ (by decide +kernel)) ggX5_weak_X5_toldOrFinding
theorem dX5_weak_0 : decode cX5_weak 0 = .ok (.aload_n 0, 1) := by decide +kernel
theorem dX5_weak_1 : decode cX5_weak 1 = .ok (.getfield 10, 3) := by decide +kernel
theorem dX5_weak_4 : decode cX5_weak 4 = .ok (.iload_n 1, 1) := by decide +kernel
theorem dX5_weak_5 : decode cX5_weak 5 = .ok (.invokevirtual 91, 3) := by decide +kernel
theorem dX5_weak_8 : decode cX5_weak 8 = .ok (.ifCond .ne 9, 3) := by decide +kernel
theorem dX5_weak_11 : decode cX5_weak 11 = .ok (.aload_n 0, 1) := by decide +kernel
theorem dX5_weak_12 : decode cX5_weak 12 = .ok (.iconst (-1), 1) := by decide +kernel
theorem dX5_weak_13 : decode cX5_weak 13 = .ok (.invokevirtual 69, 3) := by decide +kernel
theorem dX5_weak_16 : decode cX5_weak 16 = .ok (.ireturn, 1) := by decide +kernel
theorem dX5_weak_17 : decode cX5_weak 17 = .ok (.aload_n 0, 1) := by decide +kernel
theorem dX5_weak_18 : decode cX5_weak 18 = .ok (.aload_n 0, 1) := by decide +kernel
theorem dX5_weak_19 : decode cX5_weak 19 = .ok (.iload_n 1, 1) := by decide +kernel
theorem dX5_weak_20 : decode cX5_weak 20 = .ok (.invokevirtual 186, 3) := by decide +kernel
theorem dX5_weak_23 : decode cX5_weak 23 = .ok (.invokevirtual 189, 3) := by decide +kernel
theorem dX5_weak_26 : decode cX5_weak 26 = .ok (.ireturn, 1) := by decide +kernel
set_option maxRecDepth 20000 in
theorem ggX5_keep_X5_isSlot : GoodIn wsX5_keep wsX5_isSlot := goodIn_r _ [7] (by decide +kernel) (by decide +kernel)
set_option maxRecDepth 20000 in
theorem gX5_keep_X5_isSlot : GoodIn wsX5_keep (va_wsS RX5 248 yX5_isSlot wsX5_isSlot) := goodIn_app (goodIn_of _ (by decide +kernel)) ggX5_keep_X5_isSlot
set_option maxRecDepth 20000 in
theorem ggX5_keep_X5_finding : GoodIn wsX5_keep wsX5_finding := goodIn_r _ [11, 12, 25, 26, 27, 28, 29, 30, 31, 32, 33, 34, 35] (by decide +kernel) (by decide +kernel)
set_option maxRecDepth 20000 in
theorem gX5_keep_X5_finding : GoodIn wsX5_keep (wsV RX5 69 RX5 yX5_finding wsX5_finding) := goodIn_app (goodIn_of _ (by decide +kernel)) ggX5_keep_X5_finding
set_option maxRecDepth 20000 in
theorem ggX5_keep_X3_become : GoodIn wsX5_keep wsX3_become := goodIn_r _ [17, 18, 19, 20, 21, 22, 23, 24, 36, 37, 38] (by decide +kernel) (by decide +kernel)
set_option maxRecDepth 20000 in
theorem gX5_keep_X3_become : GoodIn wsX5_keep (wsV RX5 251 RX3 yX3_become wsX3_become) := goodIn_app (goodIn_of _ (by decide +kernel)) ggX5_keep_X3_become
theorem dX5_keep_0 : decode cX5_keep 0 = .ok (.iload_n 1, 1) := by decide +kernel
theorem dX5_keep_1 : decode cX5_keep 1 = .ok (.invokestatic 248, 3) := by decide +kernel
theorem dX5_keep_4 : decode cX5_keep 4 = .ok (.ifCond .ne 9, 3) := by decide +kernel
theorem dX5_keep_7 : decode cX5_keep 7 = .ok (.aload_n 0, 1) := by decide +kernel
theorem dX5_keep_8 : decode cX5_keep 8 = .ok (.iconst (-1), 1) := by decide +kernel
theorem dX5_keep_9 : decode cX5_keep 9 = .ok (.invokevirtual 69, 3) := by decide +kernel
theorem dX5_keep_12 : decode cX5_keep 12 = .ok (.ireturn, 1) := by decide +kernel
theorem dX5_keep_13 : decode cX5_keep 13 = .ok (.aload_n 0, 1) := by decide +kernel
theorem dX5_keep_14 : decode cX5_keep 14 = .ok (.getfield 16, 3) := by decide +kernel
theorem dX5_keep_17 : decode cX5_keep 17 = .ok (.iload_n 1, 1) := by decide +kernel
theorem dX5_keep_18 : decode cX5_keep 18 = .ok (.aaload, 1) := by decide +kernel
theorem dX5_keep_19 : decode cX5_keep 19 = .ok (.aload_n 0, 1) := by decide +kernel
theorem dX5_keep_20 : decode cX5_keep 20 = .ok (.getfield 10, 3) := by decide +kernel
theorem dX5_keep_23 : decode cX5_keep 23 = .ok (.invokevirtual 251, 3) := by decide +kernel
theorem dX5_keep_26 : decode cX5_keep 26 = .ok (.aload_n 0, 1) := by decide +kernel
theorem dX5_keep_27 : decode cX5_keep 27 = .ok (.getfield 10, 3) := by decide +kernel
theorem dX5_keep_30 : decode cX5_keep 30 = .ok (.getfield 77, 3) := by decide +kernel
theorem dX5_keep_33 : decode cX5_keep 33 = .ok (.ireturn, 1) := by decide +kernel
set_option maxRecDepth 20000 in
theorem ggX5_bring_X5_findingOfSlot : GoodIn wsX5_bring wsX5_findingOfSlot := goodIn_r _ [9, 3, 10, 11, 8, 12, 13, 14, 15, 16, 17, 18, 47, 48, 49, 50, 51, 52, 53, 54, 55, 56, 57, 58, 59, 60] (by decide +kernel) (by decide +kernel)
set_option maxRecDepth 20000 in
theorem gX5_bring_X5_findingOfSlot : GoodIn wsX5_bring (wsV RX5 254 RX5 yX5_findingOfSlot wsX5_findingOfSlot) := goodIn_app (goodIn_of _ (by decide +kernel)) ggX5_bring_X5_findingOfSlot
set_option maxRecDepth 20000 in
theorem ggX5_bring_X5_finding : GoodIn wsX5_bring wsX5_finding := goodIn_r _ [22, 23, 47, 48, 49, 50, 51, 52, 53, 54, 55, 56, 57] (by decide +kernel) (by decide +kernel)
set_option maxRecDepth 20000 in
theorem gX5_bring_X5_finding : GoodIn wsX5_bring (wsV RX5 69 RX5 yX5_finding wsX5_finding) := goodIn_app (goodIn_of _ (by decide +kernel)) ggX5_bring_X5_finding
set_option maxRecDepth 20000 in
theorem ggX5_bring_X2_remember : GoodIn wsX5_bring wsX2_remember := goodIn_r _ [28, 29, 30, 31, 32, 33, 34, 35, 36, 37, 38, 16, 39, 18, 40, 41, 42, 43, 44, 45, 61, 62, 63, 58, 59, 60] (by decide +kernel) (by decide +kernel)
set_option maxRecDepth 20000 in
theorem gX5_bring_X2_remember : GoodIn wsX5_bring (wsV RX5 73 RX2 yX2_remember wsX2_remember) := goodIn_app (goodIn_of _ (by decide +kernel)) ggX5_bring_X2_remember
set_option maxRecDepth 20000 in
theorem ggX5_bring_X3_become : GoodIn wsX5_bring wsX3_become := goodIn_r _ [39, 18, 40, 41, 42, 43, 44, 45, 58, 59, 60] (by decide +kernel) (by decide +kernel)
set_option maxRecDepth 20000 in
theorem gX5_bring_X3_become : GoodIn wsX5_bring (wsV RX5 251 RX3 yX3_become wsX3_become) := goodIn_app (goodIn_of _ (by decide +kernel)) ggX5_bring_X3_become
theorem dX5_bring_0 : decode cX5_bring 0 = .ok (.aload_n 0, 1) := by decide +kernel
theorem dX5_bring_1 : decode cX5_bring 1 = .ok (.iload_n 1, 1) := by decide +kernel
theorem dX5_bring_2 : decode cX5_bring 2 = .ok (.invokevirtual 254, 3) := by decide +kernel
theorem dX5_bring_5 : decode cX5_bring 5 = .ok (.istore_n 2, 1) := by decide +kernel
theorem dX5_bring_6 : decode cX5_bring 6 = .ok (.iload_n 2, 1) := by decide +kernel
theorem dX5_bring_7 : decode cX5_bring 7 = .ok (.ifCond .ge 9, 3) := by decide +kernel
theorem dX5_bring_10 : decode cX5_bring 10 = .ok (.aload_n 0, 1) := by decide +kernel
theorem dX5_bring_11 : decode cX5_bring 11 = .ok (.iload_n 2, 1) := by decide +kernel
theorem dX5_bring_12 : decode cX5_bring 12 = .ok (.invokevirtual 69, 3) := by decide +kernel
theorem dX5_bring_15 : decode cX5_bring 15 = .ok (.ireturn, 1) := by decide +kernel
theorem dX5_bring_16 : decode cX5_bring 16 = .ok (.aload_n 0, 1) := by decide +kernel
theorem dX5_bring_17 : decode cX5_bring 17 = .ok (.getfield 23, 3) := by decide +kernel
theorem dX5_bring_20 : decode cX5_bring 20 = .ok (.aload_n 0, 1) := by decide +kernel
theorem dX5_bring_21 : decode cX5_bring 21 = .ok (.getfield 10, 3) := by decide +kernel
theorem dX5_bring_24 : decode cX5_bring 24 = .ok (.invokevirtual 73, 3) := by decide +kernel
theorem dX5_bring_27 : decode cX5_bring 27 = .ok (.aload_n 0, 1) := by decide +kernel
theorem dX5_bring_28 : decode cX5_bring 28 = .ok (.getfield 10, 3) := by decide +kernel
theorem dX5_bring_31 : decode cX5_bring 31 = .ok (.aload_n 0, 1) := by decide +kernel
theorem dX5_bring_32 : decode cX5_bring 32 = .ok (.getfield 16, 3) := by decide +kernel
theorem dX5_bring_35 : decode cX5_bring 35 = .ok (.iload_n 1, 1) := by decide +kernel
theorem dX5_bring_36 : decode cX5_bring 36 = .ok (.aaload, 1) := by decide +kernel
theorem dX5_bring_37 : decode cX5_bring 37 = .ok (.invokevirtual 251, 3) := by decide +kernel
theorem dX5_bring_40 : decode cX5_bring 40 = .ok (.aload_n 0, 1) := by decide +kernel
theorem dX5_bring_41 : decode cX5_bring 41 = .ok (.getfield 10, 3) := by decide +kernel
theorem dX5_bring_44 : decode cX5_bring 44 = .ok (.getfield 77, 3) := by decide +kernel
theorem dX5_bring_47 : decode cX5_bring 47 = .ok (.ireturn, 1) := by decide +kernel
set_option maxRecDepth 20000 in
theorem ggX5_follow_X5_findingOfFit : GoodIn wsX5_follow wsX5_findingOfFit := goodIn_r _ [14, 1, 15, 2, 16, 17, 18, 13, 19, 20, 21, 22, 23, 24, 25, 26, 27, 28, 53, 54, 55, 56, 57, 58, 59, 60, 61, 62, 63, 64, 65, 66] (by decide +kernel) (by decide +kernel)
set_option maxRecDepth 20000 in
theorem gX5_follow_X5_findingOfFit : GoodIn wsX5_follow (wsV RX5 257 RX5 yX5_findingOfFit wsX5_findingOfFit) := goodIn_app (goodIn_of _ (by decide +kernel)) ggX5_follow_X5_findingOfFit
set_option maxRecDepth 20000 in
theorem ggX5_follow_X5_finding : GoodIn wsX5_follow wsX5_finding := goodIn_r _ [32, 33, 53, 54, 55, 56, 57, 58, 59, 60, 61, 62, 63] (by decide +kernel) (by decide +kernel)
set_option maxRecDepth 20000 in
theorem gX5_follow_X5_finding : GoodIn wsX5_follow (wsV RX5 69 RX5 yX5_finding wsX5_finding) := goodIn_app (goodIn_of _ (by decide +kernel)) ggX5_follow_X5_finding
set_option maxRecDepth 20000 in
theorem ggX5_follow_X2_remember : GoodIn wsX5_follow wsX2_remember := goodIn_r _ [38, 39, 40, 41, 42, 43, 44, 45, 46, 47, 48, 26, 49, 28, 50, 51, 52, 7, 8, 9, 67, 68, 69, 64, 65, 66] (by decide +kernel) (by decide +kernel)
set_option maxRecDepth 20000 in
theorem gX5_follow_X2_remember : GoodIn wsX5_follow (wsV RX5 73 RX2 yX2_remember wsX2_remember) := goodIn_app (goodIn_of _ (by decide +kernel)) ggX5_follow_X2_remember
theorem dX5_follow_0 : decode cX5_follow 0 = .ok (.aload_n 0, 1) := by decide +kernel
theorem dX5_follow_1 : decode cX5_follow 1 = .ok (.iload_n 1, 1) := by decide +kernel
theorem dX5_follow_2 : decode cX5_follow 2 = .ok (.invokevirtual 257, 3) := by decide +kernel
theorem dX5_follow_5 : decode cX5_follow 5 = .ok (.istore_n 2, 1) := by decide +kernel
theorem dX5_follow_6 : decode cX5_follow 6 = .ok (.iload_n 2, 1) := by decide +kernel
theorem dX5_follow_7 : decode cX5_follow 7 = .ok (.ifCond .ge 9, 3) := by decide +kernel
theorem dX5_follow_10 : decode cX5_follow 10 = .ok (.aload_n 0, 1) := by decide +kernel
theorem dX5_follow_11 : decode cX5_follow 11 = .ok (.iload_n 2, 1) := by decide +kernel
theorem dX5_follow_12 : decode cX5_follow 12 = .ok (.invokevirtual 69, 3) := by decide +kernel
theorem dX5_follow_15 : decode cX5_follow 15 = .ok (.ireturn, 1) := by decide +kernel
theorem dX5_follow_16 : decode cX5_follow 16 = .ok (.aload_n 0, 1) := by decide +kernel
theorem dX5_follow_17 : decode cX5_follow 17 = .ok (.getfield 16, 3) := by decide +kernel
theorem dX5_follow_20 : decode cX5_follow 20 = .ok (.iload_n 1, 1) := by decide +kernel
theorem dX5_follow_21 : decode cX5_follow 21 = .ok (.aaload, 1) := by decide +kernel
theorem dX5_follow_22 : decode cX5_follow 22 = .ok (.astore_n 3, 1) := by decide +kernel
theorem dX5_follow_23 : decode cX5_follow 23 = .ok (.aload_n 0, 1) := by decide +kernel
theorem dX5_follow_24 : decode cX5_follow 24 = .ok (.getfield 10, 3) := by decide +kernel
theorem dX5_follow_27 : decode cX5_follow 27 = .ok (.getfield 77, 3) := by decide +kernel
theorem dX5_follow_30 : decode cX5_follow 30 = .ok (.aload_n 3, 1) := by decide +kernel
theorem dX5_follow_31 : decode cX5_follow 31 = .ok (.getfield 77, 3) := by decide +kernel
theorem dX5_follow_34 : decode cX5_follow 34 = .ok (.iadd, 1) := by decide +kernel
theorem dX5_follow_35 : decode cX5_follow 35 = .ok (.bipush 40, 2) := by decide +kernel
theorem dX5_follow_37 : decode cX5_follow 37 = .ok (.if_icmp .le 10, 3) := by decide +kernel
theorem dX5_follow_40 : decode cX5_follow 40 = .ok (.aload_n 0, 1) := by decide +kernel
theorem dX5_follow_41 : decode cX5_follow 41 = .ok (.bipush (-5), 2) := by decide +kernel
theorem dX5_follow_43 : decode cX5_follow 43 = .ok (.invokevirtual 69, 3) := by decide +kernel
theorem dX5_follow_46 : decode cX5_follow 46 = .ok (.ireturn, 1) := by decide +kernel
theorem dX5_follow_47 : decode cX5_follow 47 = .ok (.aload_n 0, 1) := by decide +kernel
theorem dX5_follow_48 : decode cX5_follow 48 = .ok (.getfield 23, 3) := by decide +kernel
theorem dX5_follow_51 : decode cX5_follow 51 = .ok (.aload_n 0, 1) := by decide +kernel
theorem dX5_follow_52 : decode cX5_follow 52 = .ok (.getfield 10, 3) := by decide +kernel
theorem dX5_follow_55 : decode cX5_follow 55 = .ok (.invokevirtual 73, 3) := by decide +kernel
theorem dX5_follow_58 : decode cX5_follow 58 = .ok (.aload_n 3, 1) := by decide +kernel
theorem dX5_follow_59 : decode cX5_follow 59 = .ok (.getfield 218, 3) := by decide +kernel
theorem dX5_follow_62 : decode cX5_follow 62 = .ok (.iconst 0, 1) := by decide +kernel
theorem dX5_follow_63 : decode cX5_follow 63 = .ok (.aload_n 0, 1) := by decide +kernel
theorem dX5_follow_64 : decode cX5_follow 64 = .ok (.getfield 10, 3) := by decide +kernel
theorem dX5_follow_67 : decode cX5_follow 67 = .ok (.getfield 218, 3) := by decide +kernel
theorem dX5_follow_70 : decode cX5_follow 70 = .ok (.aload_n 0, 1) := by decide +kernel
theorem dX5_follow_71 : decode cX5_follow 71 = .ok (.getfield 10, 3) := by decide +kernel
theorem dX5_follow_74 : decode cX5_follow 74 = .ok (.getfield 77, 3) := by decide +kernel
theorem dX5_follow_77 : decode cX5_follow 77 = .ok (.aload_n 3, 1) := by decide +kernel
theorem dX5_follow_78 : decode cX5_follow 78 = .ok (.getfield 77, 3) := by decide +kernel
theorem dX5_follow_81 : decode cX5_follow 81 = .ok (.invokestatic 150, 3) := by decide +kernel
theorem dX5_follow_84 : decode cX5_follow 84 = .ok (.aload_n 0, 1) := by decide +kernel
theorem dX5_follow_85 : decode cX5_follow 85 = .ok (.getfield 10, 3) := by decide +kernel
theorem dX5_follow_88 : decode cX5_follow 88 = .ok (.dup, 1) := by decide +kernel
theorem dX5_follow_89 : decode cX5_follow 89 = .ok (.getfield 77, 3) := by decide +kernel
theorem dX5_follow_92 : decode cX5_follow 92 = .ok (.aload_n 3, 1) := by decide +kernel
theorem dX5_follow_93 : decode cX5_follow 93 = .ok (.getfield 77, 3) := by decide +kernel
theorem dX5_follow_96 : decode cX5_follow 96 = .ok (.iadd, 1) := by decide +kernel
theorem dX5_follow_97 : decode cX5_follow 97 = .ok (.putfield 77, 3) := by decide +kernel
theorem dX5_follow_100 : decode cX5_follow 100 = .ok (.aload_n 0, 1) := by decide +kernel
theorem dX5_follow_101 : decode cX5_follow 101 = .ok (.getfield 10, 3) := by decide +kernel
theorem dX5_follow_104 : decode cX5_follow 104 = .ok (.getfield 77, 3) := by decide +kernel
theorem dX5_follow_107 : decode cX5_follow 107 = .ok (.ireturn, 1) := by decide +kernel
set_option maxRecDepth 20000 in
theorem ggX5_unlike_X5_findingOfFit : GoodIn wsX5_unlike wsX5_findingOfFit := goodIn_r _ [10, 5, 2, 1, 11, 12, 13, 9, 14, 15, 16, 17, 18, 19, 20, 21, 22, 23, 92, 93, 94, 95, 96, 97, 98, 99, 100, 101, 102, 103, 104, 105] (by decide +kernel) (by decide +kernel)
set_option maxRecDepth 20000 in
theorem gX5_unlike_X5_findingOfFit : GoodIn wsX5_unlike (wsV RX5 257 RX5 yX5_findingOfFit wsX5_findingOfFit) := goodIn_app (goodIn_of _ (by decide +kernel)) ggX5_unlike_X5_findingOfFit
set_option maxRecDepth 20000 in
theorem ggX5_unlike_X5_finding : GoodIn wsX5_unlike wsX5_finding := goodIn_r _ [27, 28, 92, 93, 94, 95, 96, 97, 98, 99, 100, 101, 102] (by decide +kernel) (by decide +kernel)
set_option maxRecDepth 20000 in
theorem gX5_unlike_X5_finding : GoodIn wsX5_unlike (wsV RX5 69 RX5 yX5_finding wsX5_finding) := goodIn_app (goodIn_of _ (by decide +kernel)) ggX5_unlike_X5_finding
set_option maxRecDepth 20000 in
theorem ggX5_unlike_X4_blocks : GoodIn wsX5_unlike wsX4_blocks := goodIn_r _ [32] (by decide +kernel) (by decide +kernel)
set_option maxRecDepth 20000 in
theorem gX5_unlike_X4_blocks : GoodIn wsX5_unlike (va_wsS RX5 192 yX4_blocks wsX4_blocks) := goodIn_app (goodIn_of _ (by decide +kernel)) ggX5_unlike_X4_blocks
set_option maxRecDepth 20000 in
theorem ggX5_unlike_X4_start : GoodIn wsX5_unlike wsX4_start := goodIn_r _ [36, 37, 38, 39, 40, 41, 31, 42, 43, 106, 107] (by decide +kernel) (by decide +kernel)
set_option maxRecDepth 20000 in
theorem gX5_unlike_X4_start : GoodIn wsX5_unlike (wsV RX5 176 RX4 yX4_start wsX4_start) := goodIn_app (goodIn_of _ (by decide +kernel)) ggX5_unlike_X4_start
set_option maxRecDepth 20000 in
theorem ggX5_unlike_X4_pass : GoodIn wsX5_unlike wsX4_pass := goodIn_r _ [47, 48, 49, 50, 51, 21, 52, 53, 54, 55, 56, 57, 58, 59, 60, 61, 62, 63, 64, 65, 66, 67, 68, 69, 70, 71, 72, 31, 73, 39, 74, 75, 76, 77, 37, 38, 103, 104, 105, 106, 107] (by decide +kernel) (by decide +kernel)
set_option maxRecDepth 20000 in
theorem gX5_unlike_X4_pass : GoodIn wsX5_unlike (wsV RX5 179 RX4 yX4_pass wsX4_pass) := goodIn_app (goodIn_of _ (by decide +kernel)) ggX5_unlike_X4_pass
set_option maxRecDepth 20000 in
theorem ggX5_unlike_X4_differing : GoodIn wsX5_unlike wsX4_differing := goodIn_r _ [81, 39, 106, 107] (by decide +kernel) (by decide +kernel)
set_option maxRecDepth 20000 in
theorem gX5_unlike_X4_differing : GoodIn wsX5_unlike (wsV RX5 260 RX4 yX4_differing wsX4_differing) := goodIn_app (goodIn_of _ (by decide +kernel)) ggX5_unlike_X4_differing
set_option maxRecDepth 20000 in
theorem ggX5_unlike_X4_leastOf : GoodIn wsX5_unlike wsX4_leastOf := goodIn_r _ [84, 85, 86, 87, 88, 89, 90, 91] (by decide +kernel) (by decide +kernel)
set_option maxRecDepth 20000 in
theorem gX5_unlike_X4_leastOf : GoodIn wsX5_unlike (va_wsS RX5 264 yX4_leastOf wsX4_leastOf) := goodIn_app (goodIn_of _ (by decide +kernel)) ggX5_unlike_X4_leastOf
theorem dX5_unlike_0 : decode cX5_unlike 0 = .ok (.aload_n 0, 1) := by decide +kernel
theorem dX5_unlike_1 : decode cX5_unlike 1 = .ok (.iload_n 1, 1) := by decide +kernel
theorem dX5_unlike_2 : decode cX5_unlike 2 = .ok (.invokevirtual 257, 3) := by decide +kernel
theorem dX5_unlike_5 : decode cX5_unlike 5 = .ok (.istore_n 2, 1) := by decide +kernel
theorem dX5_unlike_6 : decode cX5_unlike 6 = .ok (.iload_n 2, 1) := by decide +kernel
theorem dX5_unlike_7 : decode cX5_unlike 7 = .ok (.ifCond .ge 9, 3) := by decide +kernel
theorem dX5_unlike_10 : decode cX5_unlike 10 = .ok (.aload_n 0, 1) := by decide +kernel
theorem dX5_unlike_11 : decode cX5_unlike 11 = .ok (.iload_n 2, 1) := by decide +kernel
theorem dX5_unlike_12 : decode cX5_unlike 12 = .ok (.invokevirtual 69, 3) := by decide +kernel
theorem dX5_unlike_15 : decode cX5_unlike 15 = .ok (.ireturn, 1) := by decide +kernel
theorem dX5_unlike_16 : decode cX5_unlike 16 = .ok (.iconst 0, 1) := by decide +kernel
theorem dX5_unlike_17 : decode cX5_unlike 17 = .ok (.istore_n 3, 1) := by decide +kernel
theorem dX5_unlike_18 : decode cX5_unlike 18 = .ok (.iload_n 3, 1) := by decide +kernel
theorem dX5_unlike_19 : decode cX5_unlike 19 = .ok (.aload_n 0, 1) := by decide +kernel
theorem dX5_unlike_20 : decode cX5_unlike 20 = .ok (.getfield 10, 3) := by decide +kernel
theorem dX5_unlike_23 : decode cX5_unlike 23 = .ok (.getfield 160, 3) := by decide +kernel
theorem dX5_unlike_26 : decode cX5_unlike 26 = .ok (.invokestatic 192, 3) := by decide +kernel
theorem dX5_unlike_29 : decode cX5_unlike 29 = .ok (.if_icmp .ge 99, 3) := by decide +kernel
theorem dX5_unlike_32 : decode cX5_unlike 32 = .ok (.aload_n 0, 1) := by decide +kernel
theorem dX5_unlike_33 : decode cX5_unlike 33 = .ok (.getfield 36, 3) := by decide +kernel
theorem dX5_unlike_36 : decode cX5_unlike 36 = .ok (.aload_n 0, 1) := by decide +kernel
theorem dX5_unlike_37 : decode cX5_unlike 37 = .ok (.getfield 10, 3) := by decide +kernel
theorem dX5_unlike_40 : decode cX5_unlike 40 = .ok (.getfield 160, 3) := by decide +kernel
theorem dX5_unlike_43 : decode cX5_unlike 43 = .ok (.iload_n 3, 1) := by decide +kernel
theorem dX5_unlike_44 : decode cX5_unlike 44 = .ok (.invokevirtual 176, 3) := by decide +kernel
theorem dX5_unlike_47 : decode cX5_unlike 47 = .ok (.aload_n 0, 1) := by decide +kernel
theorem dX5_unlike_48 : decode cX5_unlike 48 = .ok (.getfield 36, 3) := by decide +kernel
theorem dX5_unlike_51 : decode cX5_unlike 51 = .ok (.aload_n 0, 1) := by decide +kernel
theorem dX5_unlike_52 : decode cX5_unlike 52 = .ok (.getfield 10, 3) := by decide +kernel
theorem dX5_unlike_55 : decode cX5_unlike 55 = .ok (.iconst (-1), 1) := by decide +kernel
theorem dX5_unlike_56 : decode cX5_unlike 56 = .ok (.invokevirtual 179, 3) := by decide +kernel
theorem dX5_unlike_59 : decode cX5_unlike 59 = .ok (.aload_n 0, 1) := by decide +kernel
theorem dX5_unlike_60 : decode cX5_unlike 60 = .ok (.getfield 40, 3) := by decide +kernel
theorem dX5_unlike_63 : decode cX5_unlike 63 = .ok (.aload_n 0, 1) := by decide +kernel
theorem dX5_unlike_64 : decode cX5_unlike 64 = .ok (.getfield 10, 3) := by decide +kernel
theorem dX5_unlike_67 : decode cX5_unlike 67 = .ok (.getfield 160, 3) := by decide +kernel
theorem dX5_unlike_70 : decode cX5_unlike 70 = .ok (.iload_n 3, 1) := by decide +kernel
theorem dX5_unlike_71 : decode cX5_unlike 71 = .ok (.invokevirtual 176, 3) := by decide +kernel
theorem dX5_unlike_74 : decode cX5_unlike 74 = .ok (.aload_n 0, 1) := by decide +kernel
theorem dX5_unlike_75 : decode cX5_unlike 75 = .ok (.getfield 40, 3) := by decide +kernel
theorem dX5_unlike_78 : decode cX5_unlike 78 = .ok (.aload_n 0, 1) := by decide +kernel
theorem dX5_unlike_79 : decode cX5_unlike 79 = .ok (.getfield 16, 3) := by decide +kernel
theorem dX5_unlike_82 : decode cX5_unlike 82 = .ok (.iload_n 1, 1) := by decide +kernel
theorem dX5_unlike_83 : decode cX5_unlike 83 = .ok (.aaload, 1) := by decide +kernel
theorem dX5_unlike_84 : decode cX5_unlike 84 = .ok (.iconst (-1), 1) := by decide +kernel
theorem dX5_unlike_85 : decode cX5_unlike 85 = .ok (.invokevirtual 179, 3) := by decide +kernel
theorem dX5_unlike_88 : decode cX5_unlike 88 = .ok (.aload_n 0, 1) := by decide +kernel
theorem dX5_unlike_89 : decode cX5_unlike 89 = .ok (.getfield 36, 3) := by decide +kernel
theorem dX5_unlike_92 : decode cX5_unlike 92 = .ok (.aload_n 0, 1) := by decide +kernel
theorem dX5_unlike_93 : decode cX5_unlike 93 = .ok (.getfield 40, 3) := by decide +kernel
theorem dX5_unlike_96 : decode cX5_unlike 96 = .ok (.aload_n 0, 1) := by decide +kernel
theorem dX5_unlike_97 : decode cX5_unlike 97 = .ok (.getfield 10, 3) := by decide +kernel
theorem dX5_unlike_100 : decode cX5_unlike 100 = .ok (.getfield 160, 3) := by decide +kernel
theorem dX5_unlike_103 : decode cX5_unlike 103 = .ok (.invokevirtual 260, 3) := by decide +kernel
theorem dX5_unlike_106 : decode cX5_unlike 106 = .ok (.lstore 4, 2) := by decide +kernel
theorem dX5_unlike_108 : decode cX5_unlike 108 = .ok (.lload 4, 2) := by decide +kernel
theorem dX5_unlike_110 : decode cX5_unlike 110 = .ok (.lconst 0, 1) := by decide +kernel
theorem dX5_unlike_111 : decode cX5_unlike 111 = .ok (.lcmp, 1) := by decide +kernel
theorem dX5_unlike_112 : decode cX5_unlike 112 = .ok (.ifCond .eq 10, 3) := by decide +kernel
theorem dX5_unlike_115 : decode cX5_unlike 115 = .ok (.lload 4, 2) := by decide +kernel
theorem dX5_unlike_117 : decode cX5_unlike 117 = .ok (.iload_n 3, 1) := by decide +kernel
theorem dX5_unlike_118 : decode cX5_unlike 118 = .ok (.invokestatic 264, 3) := by decide +kernel
theorem dX5_unlike_121 : decode cX5_unlike 121 = .ok (.ireturn, 1) := by decide +kernel
theorem dX5_unlike_122 : decode cX5_unlike 122 = .ok (.iinc 3 1, 3) := by decide +kernel
theorem dX5_unlike_125 : decode cX5_unlike 125 = .ok (.goto (-107), 3) := by decide +kernel
theorem dX5_unlike_128 : decode cX5_unlike 128 = .ok (.aload_n 0, 1) := by decide +kernel
theorem dX5_unlike_129 : decode cX5_unlike 129 = .ok (.bipush (-8), 2) := by decide +kernel
theorem dX5_unlike_131 : decode cX5_unlike 131 = .ok (.invokevirtual 69, 3) := by decide +kernel
theorem dX5_unlike_134 : decode cX5_unlike 134 = .ok (.ireturn, 1) := by decide +kernel
set_option maxRecDepth 20000 in
theorem ggX5_tell_X5_finding : GoodIn wsX5_tell wsX5_finding := goodIn_r _ [7, 8, 9, 10, 11, 12, 13, 14, 15, 16, 17, 18, 19] (by decide +kernel) (by decide +kernel)
set_option maxRecDepth 20000 in
theorem gX5_tell_X5_finding : GoodIn wsX5_tell (wsV RX5 69 RX5 yX5_finding wsX5_finding) := goodIn_app (goodIn_of _ (by decide +kernel)) ggX5_tell_X5_finding
theorem dX5_tell_0 : decode cX5_tell 0 = .ok (.aload_n 0, 1) := by decide +kernel
theorem dX5_tell_1 : decode cX5_tell 1 = .ok (.getfield 57, 3) := by decide +kernel
theorem dX5_tell_4 : decode cX5_tell 4 = .ok (.bipush 80, 2) := by decide +kernel
theorem dX5_tell_6 : decode cX5_tell 6 = .ok (.if_icmp .lt 10, 3) := by decide +kernel
theorem dX5_tell_9 : decode cX5_tell 9 = .ok (.aload_n 0, 1) := by decide +kernel
theorem dX5_tell_10 : decode cX5_tell 10 = .ok (.bipush (-5), 2) := by decide +kernel
theorem dX5_tell_12 : decode cX5_tell 12 = .ok (.invokevirtual 69, 3) := by decide +kernel
theorem dX5_tell_15 : decode cX5_tell 15 = .ok (.ireturn, 1) := by decide +kernel
theorem dX5_tell_16 : decode cX5_tell 16 = .ok (.aload_n 0, 1) := by decide +kernel
theorem dX5_tell_17 : decode cX5_tell 17 = .ok (.getfield 54, 3) := by decide +kernel
theorem dX5_tell_20 : decode cX5_tell 20 = .ok (.aload_n 0, 1) := by decide +kernel
theorem dX5_tell_21 : decode cX5_tell 21 = .ok (.getfield 57, 3) := by decide +kernel
theorem dX5_tell_24 : decode cX5_tell 24 = .ok (.iload_n 1, 1) := by decide +kernel
theorem dX5_tell_25 : decode cX5_tell 25 = .ok (.iastore, 1) := by decide +kernel
theorem dX5_tell_26 : decode cX5_tell 26 = .ok (.aload_n 0, 1) := by decide +kernel
theorem dX5_tell_27 : decode cX5_tell 27 = .ok (.dup, 1) := by decide +kernel
theorem dX5_tell_28 : decode cX5_tell 28 = .ok (.getfield 57, 3) := by decide +kernel
theorem dX5_tell_31 : decode cX5_tell 31 = .ok (.iconst 1, 1) := by decide +kernel
theorem dX5_tell_32 : decode cX5_tell 32 = .ok (.iadd, 1) := by decide +kernel
theorem dX5_tell_33 : decode cX5_tell 33 = .ok (.putfield 57, 3) := by decide +kernel
theorem dX5_tell_36 : decode cX5_tell 36 = .ok (.aload_n 0, 1) := by decide +kernel
theorem dX5_tell_37 : decode cX5_tell 37 = .ok (.getfield 57, 3) := by decide +kernel
theorem dX5_tell_40 : decode cX5_tell 40 = .ok (.ireturn, 1) := by decide +kernel
set_option maxRecDepth 20000 in
theorem ggX5_would_X5_finding : GoodIn wsX5_would wsX5_finding := goodIn_r _ [10, 11, 76, 77, 78, 79, 80, 81, 82, 83, 84, 85, 86] (by decide +kernel) (by decide +kernel)
set_option maxRecDepth 20000 in
theorem gX5_would_X5_finding : GoodIn wsX5_would (wsV RX5 69 RX5 yX5_finding wsX5_finding) := goodIn_app (goodIn_of _ (by decide +kernel)) ggX5_would_X5_finding
set_option maxRecDepth 20000 in
theorem ggX5_would_X5_areLanePairs : GoodIn wsX5_would wsX5_areLanePairs := goodIn_r _ [15, 5, 2, 16, 17, 18, 19, 20, 21, 76, 77, 78, 79, 80, 81, 82, 83, 84, 85, 86, 87, 88, 89] (by decide +kernel) (by decide +kernel)
set_option maxRecDepth 20000 in
theorem gX5_would_X5_areLanePairs : GoodIn wsX5_would (wsV RX5 268 RX5 yX5_areLanePairs wsX5_areLanePairs) := goodIn_app (goodIn_of _ (by decide +kernel)) ggX5_would_X5_areLanePairs
set_option maxRecDepth 20000 in
theorem ggX5_would_X4_blocks : GoodIn wsX5_would wsX4_blocks := goodIn_r _ [25] (by decide +kernel) (by decide +kernel)
set_option maxRecDepth 20000 in
theorem gX5_would_X4_blocks : GoodIn wsX5_would (va_wsS RX5 192 yX4_blocks wsX4_blocks) := goodIn_app (goodIn_of _ (by decide +kernel)) ggX5_would_X4_blocks
set_option maxRecDepth 20000 in
theorem ggX5_would_X4_start : GoodIn wsX5_would wsX4_start := goodIn_r _ [29, 30, 31, 32, 33, 34, 24, 35, 36, 90, 91] (by decide +kernel) (by decide +kernel)
set_option maxRecDepth 20000 in
theorem gX5_would_X4_start : GoodIn wsX5_would (wsV RX5 176 RX4 yX4_start wsX4_start) := goodIn_app (goodIn_of _ (by decide +kernel)) ggX5_would_X4_start
set_option maxRecDepth 20000 in
theorem ggX5_would_X4_pass : GoodIn wsX5_would wsX4_pass := goodIn_r _ [40, 41, 42, 43, 44, 19, 45, 46, 47, 48, 49, 50, 51, 52, 53, 54, 55, 56, 57, 58, 59, 60, 61, 62, 63, 64, 65, 24, 66, 32, 67, 68, 69, 70, 30, 31, 87, 88, 89, 90, 91] (by decide +kernel) (by decide +kernel)
set_option maxRecDepth 20000 in
theorem gX5_would_X4_pass : GoodIn wsX5_would (wsV RX5 179 RX4 yX4_pass wsX4_pass) := goodIn_app (goodIn_of _ (by decide +kernel)) ggX5_would_X4_pass
set_option maxRecDepth 20000 in
theorem ggX5_would_X4_step : GoodIn wsX5_would wsX4_step := goodIn_r _ [66, 32, 67, 68, 69, 24, 70, 30, 31, 90, 91] (by decide +kernel) (by decide +kernel)
set_option maxRecDepth 20000 in
theorem gX5_would_X4_step : GoodIn wsX5_would (wsV RX5 271 RX4 yX4_step wsX4_step) := goodIn_app (goodIn_of _ (by decide +kernel)) ggX5_would_X4_step
set_option maxRecDepth 20000 in
theorem ggX5_would_X4_falling : GoodIn wsX5_would wsX4_falling := goodIn_r _ [75, 32, 30, 90, 91] (by decide +kernel) (by decide +kernel)
set_option maxRecDepth 20000 in
theorem gX5_would_X4_falling : GoodIn wsX5_would (wsV RX5 205 RX4 yX4_falling wsX4_falling) := goodIn_app (goodIn_of _ (by decide +kernel)) ggX5_would_X4_falling
theorem dX5_would_0 : decode cX5_would 0 = .ok (.aload_n 0, 1) := by decide +kernel
theorem dX5_would_1 : decode cX5_would 1 = .ok (.getfield 57, 3) := by decide +kernel
theorem dX5_would_4 : decode cX5_would 4 = .ok (.istore_n 1, 1) := by decide +kernel
theorem dX5_would_5 : decode cX5_would 5 = .ok (.aload_n 0, 1) := by decide +kernel
theorem dX5_would_6 : decode cX5_would 6 = .ok (.iconst 0, 1) := by decide +kernel
theorem dX5_would_7 : decode cX5_would 7 = .ok (.putfield 57, 3) := by decide +kernel
theorem dX5_would_10 : decode cX5_would 10 = .ok (.iload_n 1, 1) := by decide +kernel
theorem dX5_would_11 : decode cX5_would 11 = .ok (.iconst 2, 1) := by decide +kernel
theorem dX5_would_12 : decode cX5_would 12 = .ok (.irem, 1) := by decide +kernel
theorem dX5_would_13 : decode cX5_would 13 = .ok (.ifCond .eq 10, 3) := by decide +kernel
theorem dX5_would_16 : decode cX5_would 16 = .ok (.aload_n 0, 1) := by decide +kernel
theorem dX5_would_17 : decode cX5_would 17 = .ok (.bipush (-3), 2) := by decide +kernel
theorem dX5_would_19 : decode cX5_would 19 = .ok (.invokevirtual 69, 3) := by decide +kernel
theorem dX5_would_22 : decode cX5_would 22 = .ok (.ireturn, 1) := by decide +kernel
theorem dX5_would_23 : decode cX5_would 23 = .ok (.aload_n 0, 1) := by decide +kernel
theorem dX5_would_24 : decode cX5_would 24 = .ok (.iload_n 1, 1) := by decide +kernel
theorem dX5_would_25 : decode cX5_would 25 = .ok (.invokevirtual 268, 3) := by decide +kernel
theorem dX5_would_28 : decode cX5_would 28 = .ok (.ifCond .ne 9, 3) := by decide +kernel
theorem dX5_would_31 : decode cX5_would 31 = .ok (.aload_n 0, 1) := by decide +kernel
theorem dX5_would_32 : decode cX5_would 32 = .ok (.iconst (-1), 1) := by decide +kernel
theorem dX5_would_33 : decode cX5_would 33 = .ok (.invokevirtual 69, 3) := by decide +kernel
theorem dX5_would_36 : decode cX5_would 36 = .ok (.ireturn, 1) := by decide +kernel
theorem dX5_would_37 : decode cX5_would 37 = .ok (.iconst 0, 1) := by decide +kernel
theorem dX5_would_38 : decode cX5_would 38 = .ok (.istore_n 2, 1) := by decide +kernel
theorem dX5_would_39 : decode cX5_would 39 = .ok (.iload_n 2, 1) := by decide +kernel
theorem dX5_would_40 : decode cX5_would 40 = .ok (.aload_n 0, 1) := by decide +kernel
theorem dX5_would_41 : decode cX5_would 41 = .ok (.getfield 10, 3) := by decide +kernel
theorem dX5_would_44 : decode cX5_would 44 = .ok (.getfield 160, 3) := by decide +kernel
theorem dX5_would_47 : decode cX5_would 47 = .ok (.invokestatic 192, 3) := by decide +kernel
theorem dX5_would_50 : decode cX5_would 50 = .ok (.if_icmp .ge 95, 3) := by decide +kernel
theorem dX5_would_53 : decode cX5_would 53 = .ok (.aload_n 0, 1) := by decide +kernel
theorem dX5_would_54 : decode cX5_would 54 = .ok (.getfield 36, 3) := by decide +kernel
theorem dX5_would_57 : decode cX5_would 57 = .ok (.aload_n 0, 1) := by decide +kernel
theorem dX5_would_58 : decode cX5_would 58 = .ok (.getfield 10, 3) := by decide +kernel
theorem dX5_would_61 : decode cX5_would 61 = .ok (.getfield 160, 3) := by decide +kernel
theorem dX5_would_64 : decode cX5_would 64 = .ok (.iload_n 2, 1) := by decide +kernel
theorem dX5_would_65 : decode cX5_would 65 = .ok (.invokevirtual 176, 3) := by decide +kernel
theorem dX5_would_68 : decode cX5_would 68 = .ok (.aload_n 0, 1) := by decide +kernel
theorem dX5_would_69 : decode cX5_would 69 = .ok (.getfield 36, 3) := by decide +kernel
theorem dX5_would_72 : decode cX5_would 72 = .ok (.aload_n 0, 1) := by decide +kernel
theorem dX5_would_73 : decode cX5_would 73 = .ok (.getfield 10, 3) := by decide +kernel
theorem dX5_would_76 : decode cX5_would 76 = .ok (.iconst (-1), 1) := by decide +kernel
theorem dX5_would_77 : decode cX5_would 77 = .ok (.invokevirtual 179, 3) := by decide +kernel
theorem dX5_would_80 : decode cX5_would 80 = .ok (.iconst 0, 1) := by decide +kernel
theorem dX5_would_81 : decode cX5_would 81 = .ok (.istore_n 3, 1) := by decide +kernel
theorem dX5_would_82 : decode cX5_would 82 = .ok (.iload_n 3, 1) := by decide +kernel
theorem dX5_would_83 : decode cX5_would 83 = .ok (.iconst 1, 1) := by decide +kernel
theorem dX5_would_84 : decode cX5_would 84 = .ok (.iadd, 1) := by decide +kernel
theorem dX5_would_85 : decode cX5_would 85 = .ok (.iload_n 1, 1) := by decide +kernel
theorem dX5_would_86 : decode cX5_would 86 = .ok (.if_icmp .ge 31, 3) := by decide +kernel
theorem dX5_would_89 : decode cX5_would 89 = .ok (.aload_n 0, 1) := by decide +kernel
theorem dX5_would_90 : decode cX5_would 90 = .ok (.getfield 36, 3) := by decide +kernel
theorem dX5_would_93 : decode cX5_would 93 = .ok (.iconst 0, 1) := by decide +kernel
theorem dX5_would_94 : decode cX5_would 94 = .ok (.aload_n 0, 1) := by decide +kernel
theorem dX5_would_95 : decode cX5_would 95 = .ok (.getfield 54, 3) := by decide +kernel
theorem dX5_would_98 : decode cX5_would 98 = .ok (.iload_n 3, 1) := by decide +kernel
theorem dX5_would_99 : decode cX5_would 99 = .ok (.iaload, 1) := by decide +kernel
theorem dX5_would_100 : decode cX5_would 100 = .ok (.aload_n 0, 1) := by decide +kernel
theorem dX5_would_101 : decode cX5_would 101 = .ok (.getfield 54, 3) := by decide +kernel
theorem dX5_would_104 : decode cX5_would 104 = .ok (.iload_n 3, 1) := by decide +kernel
theorem dX5_would_105 : decode cX5_would 105 = .ok (.iconst 1, 1) := by decide +kernel
theorem dX5_would_106 : decode cX5_would 106 = .ok (.iadd, 1) := by decide +kernel
theorem dX5_would_107 : decode cX5_would 107 = .ok (.iaload, 1) := by decide +kernel
theorem dX5_would_108 : decode cX5_would 108 = .ok (.invokevirtual 271, 3) := by decide +kernel
theorem dX5_would_111 : decode cX5_would 111 = .ok (.iinc 3 2, 3) := by decide +kernel
theorem dX5_would_114 : decode cX5_would 114 = .ok (.goto (-32), 3) := by decide +kernel
theorem dX5_would_117 : decode cX5_would 117 = .ok (.aload_n 0, 1) := by decide +kernel
theorem dX5_would_118 : decode cX5_would 118 = .ok (.getfield 36, 3) := by decide +kernel
theorem dX5_would_121 : decode cX5_would 121 = .ok (.iconst 0, 1) := by decide +kernel
theorem dX5_would_122 : decode cX5_would 122 = .ok (.aload_n 0, 1) := by decide +kernel
theorem dX5_would_123 : decode cX5_would 123 = .ok (.getfield 10, 3) := by decide +kernel
theorem dX5_would_126 : decode cX5_would 126 = .ok (.getfield 160, 3) := by decide +kernel
theorem dX5_would_129 : decode cX5_would 129 = .ok (.invokevirtual 205, 3) := by decide +kernel
theorem dX5_would_132 : decode cX5_would 132 = .ok (.lconst 0, 1) := by decide +kernel
theorem dX5_would_133 : decode cX5_would 133 = .ok (.lcmp, 1) := by decide +kernel
theorem dX5_would_134 : decode cX5_would 134 = .ok (.ifCond .eq 5, 3) := by decide +kernel
theorem dX5_would_137 : decode cX5_would 137 = .ok (.iconst 0, 1) := by decide +kernel
theorem dX5_would_138 : decode cX5_would 138 = .ok (.ireturn, 1) := by decide +kernel
theorem dX5_would_139 : decode cX5_would 139 = .ok (.iinc 2 1, 3) := by decide +kernel
theorem dX5_would_142 : decode cX5_would 142 = .ok (.goto (-103), 3) := by decide +kernel
theorem dX5_would_145 : decode cX5_would 145 = .ok (.iconst 1, 1) := by decide +kernel
theorem dX5_would_146 : decode cX5_would 146 = .ok (.ireturn, 1) := by decide +kernel
set_option maxRecDepth 20000 in
theorem ggX5_undo_X5_finding : GoodIn wsX5_undo wsX5_finding := goodIn_r _ [8, 9, 30, 31, 32, 33, 34, 35, 36, 37, 38, 39, 40] (by decide +kernel) (by decide +kernel)
set_option maxRecDepth 20000 in
theorem gX5_undo_X5_finding : GoodIn wsX5_undo (wsV RX5 69 RX5 yX5_finding wsX5_finding) := goodIn_app (goodIn_of _ (by decide +kernel)) ggX5_undo_X5_finding
set_option maxRecDepth 20000 in
theorem ggX5_undo_X2_giveBack : GoodIn wsX5_undo wsX2_giveBack := goodIn_r _ [14, 15, 16, 17, 18, 19, 20, 21, 22, 23, 24, 25, 26, 27, 28, 29, 41, 42, 43, 44, 45, 46] (by decide +kernel) (by decide +kernel)
set_option maxRecDepth 20000 in
theorem gX5_undo_X2_giveBack : GoodIn wsX5_undo (wsV RX5 277 RX2 yX2_giveBack wsX2_giveBack) := goodIn_app (goodIn_of _ (by decide +kernel)) ggX5_undo_X2_giveBack
theorem dX5_undo_0 : decode cX5_undo 0 = .ok (.aload_n 0, 1) := by decide +kernel
theorem dX5_undo_1 : decode cX5_undo 1 = .ok (.getfield 23, 3) := by decide +kernel
theorem dX5_undo_4 : decode cX5_undo 4 = .ok (.getfield 274, 3) := by decide +kernel
theorem dX5_undo_7 : decode cX5_undo 7 = .ok (.ifCond .ne 10, 3) := by decide +kernel
theorem dX5_undo_10 : decode cX5_undo 10 = .ok (.aload_n 0, 1) := by decide +kernel
theorem dX5_undo_11 : decode cX5_undo 11 = .ok (.bipush (-6), 2) := by decide +kernel
theorem dX5_undo_13 : decode cX5_undo 13 = .ok (.invokevirtual 69, 3) := by decide +kernel
theorem dX5_undo_16 : decode cX5_undo 16 = .ok (.ireturn, 1) := by decide +kernel
theorem dX5_undo_17 : decode cX5_undo 17 = .ok (.aload_n 0, 1) := by decide +kernel
theorem dX5_undo_18 : decode cX5_undo 18 = .ok (.getfield 23, 3) := by decide +kernel
theorem dX5_undo_21 : decode cX5_undo 21 = .ok (.aload_n 0, 1) := by decide +kernel
theorem dX5_undo_22 : decode cX5_undo 22 = .ok (.getfield 10, 3) := by decide +kernel
theorem dX5_undo_25 : decode cX5_undo 25 = .ok (.invokevirtual 277, 3) := by decide +kernel
theorem dX5_undo_28 : decode cX5_undo 28 = .ok (.aload_n 0, 1) := by decide +kernel
theorem dX5_undo_29 : decode cX5_undo 29 = .ok (.getfield 23, 3) := by decide +kernel
theorem dX5_undo_32 : decode cX5_undo 32 = .ok (.getfield 274, 3) := by decide +kernel
theorem dX5_undo_35 : decode cX5_undo 35 = .ok (.ireturn, 1) := by decide +kernel
set_option maxRecDepth 20000 in
theorem ggX5_told_X5_finding : GoodIn wsX5_told wsX5_finding := goodIn_r _ [10, 5, 11, 12, 13, 14, 15, 16, 17, 18, 19, 20, 21] (by decide +kernel) (by decide +kernel)
set_option maxRecDepth 20000 in
theorem gX5_told_X5_finding : GoodIn wsX5_told (wsV RX5 69 RX5 yX5_finding wsX5_finding) := goodIn_app (goodIn_of _ (by decide +kernel)) ggX5_told_X5_finding
theorem dX5_told_0 : decode cX5_told 0 = .ok (.iload_n 1, 1) := by decide +kernel
theorem dX5_told_1 : decode cX5_told 1 = .ok (.tableswitch 57 0 3 #[31, 39, 47, 52], 31) := by decide +kernel
theorem dX5_told_32 : decode cX5_told 32 = .ok (.aload_n 0, 1) := by decide +kernel
theorem dX5_told_33 : decode cX5_told 33 = .ok (.getfield 10, 3) := by decide +kernel
theorem dX5_told_36 : decode cX5_told 36 = .ok (.getfield 160, 3) := by decide +kernel
theorem dX5_told_39 : decode cX5_told 39 = .ok (.ireturn, 1) := by decide +kernel
theorem dX5_told_40 : decode cX5_told 40 = .ok (.aload_n 0, 1) := by decide +kernel
theorem dX5_told_41 : decode cX5_told 41 = .ok (.getfield 10, 3) := by decide +kernel
theorem dX5_told_44 : decode cX5_told 44 = .ok (.getfield 77, 3) := by decide +kernel
theorem dX5_told_47 : decode cX5_told 47 = .ok (.ireturn, 1) := by decide +kernel
theorem dX5_told_48 : decode cX5_told 48 = .ok (.aload_n 0, 1) := by decide +kernel
theorem dX5_told_49 : decode cX5_told 49 = .ok (.getfield 57, 3) := by decide +kernel
theorem dX5_told_52 : decode cX5_told 52 = .ok (.ireturn, 1) := by decide +kernel
theorem dX5_told_53 : decode cX5_told 53 = .ok (.aload_n 0, 1) := by decide +kernel
theorem dX5_told_54 : decode cX5_told 54 = .ok (.getfield 61, 3) := by decide +kernel
theorem dX5_told_57 : decode cX5_told 57 = .ok (.ireturn, 1) := by decide +kernel
theorem dX5_told_58 : decode cX5_told 58 = .ok (.aload_n 0, 1) := by decide +kernel
theorem dX5_told_59 : decode cX5_told 59 = .ok (.iconst (-1), 1) := by decide +kernel
theorem dX5_told_60 : decode cX5_told 60 = .ok (.invokevirtual 69, 3) := by decide +kernel
theorem dX5_told_63 : decode cX5_told 63 = .ok (.ireturn, 1) := by decide +kernel
theorem dX5_finding_0 : decode cX5_finding 0 = .ok (.aload_n 0, 1) := by decide +kernel
theorem dX5_finding_1 : decode cX5_finding 1 = .ok (.dup, 1) := by decide +kernel
theorem dX5_finding_2 : decode cX5_finding 2 = .ok (.getfield 61, 3) := by decide +kernel
theorem dX5_finding_5 : decode cX5_finding 5 = .ok (.iconst 1, 1) := by decide +kernel
theorem dX5_finding_6 : decode cX5_finding 6 = .ok (.iadd, 1) := by decide +kernel
theorem dX5_finding_7 : decode cX5_finding 7 = .ok (.putfield 61, 3) := by decide +kernel
theorem dX5_finding_10 : decode cX5_finding 10 = .ok (.iload_n 1, 1) := by decide +kernel
theorem dX5_finding_11 : decode cX5_finding 11 = .ok (.ireturn, 1) := by decide +kernel
set_option maxRecDepth 20000 in
theorem ggX5_toldOrFinding_X5_finding : GoodIn wsX5_toldOrFinding wsX5_finding := goodIn_r _ [5, 6, 7, 8, 9, 10, 11, 12, 13, 14, 15, 16, 17] (by decide +kernel) (by decide +kernel)
set_option maxRecDepth 20000 in
theorem gX5_toldOrFinding_X5_finding : GoodIn wsX5_toldOrFinding (wsV RX5 69 RX5 yX5_finding wsX5_finding) := goodIn_app (goodIn_of _ (by decide +kernel)) ggX5_toldOrFinding_X5_finding
theorem dX5_toldOrFinding_0 : decode cX5_toldOrFinding 0 = .ok (.iload_n 1, 1) := by decide +kernel
theorem dX5_toldOrFinding_1 : decode cX5_toldOrFinding 1 = .ok (.ifCond .ge 11, 3) := by decide +kernel
theorem dX5_toldOrFinding_4 : decode cX5_toldOrFinding 4 = .ok (.aload_n 0, 1) := by decide +kernel
theorem dX5_toldOrFinding_5 : decode cX5_toldOrFinding 5 = .ok (.iload_n 1, 1) := by decide +kernel
theorem dX5_toldOrFinding_6 : decode cX5_toldOrFinding 6 = .ok (.invokevirtual 69, 3) := by decide +kernel
theorem dX5_toldOrFinding_9 : decode cX5_toldOrFinding 9 = .ok (.goto 4, 3) := by decide +kernel
theorem dX5_toldOrFinding_12 : decode cX5_toldOrFinding 12 = .ok (.iload_n 1, 1) := by decide +kernel
theorem dX5_toldOrFinding_13 : decode cX5_toldOrFinding 13 = .ok (.ireturn, 1) := by decide +kernel
set_option maxRecDepth 20000 in
theorem ggX5_findingOfCrate_X5_isCrate : GoodIn wsX5_findingOfCrate wsX5_isCrate := goodIn_r _ [5] (by decide +kernel) (by decide +kernel)
set_option maxRecDepth 20000 in
theorem gX5_findingOfCrate_X5_isCrate : GoodIn wsX5_findingOfCrate (va_wsS RX5 121 yX5_isCrate wsX5_isCrate) := goodIn_app (goodIn_of _ (by decide +kernel)) ggX5_findingOfCrate_X5_isCrate
set_option maxRecDepth 20000 in
theorem ggX5_findingOfCrate_X1_isMissing : GoodIn wsX5_findingOfCrate wsX1_isMissing := goodIn_r _ [10, 11, 23, 24, 25] (by decide +kernel) (by decide +kernel)
set_option maxRecDepth 20000 in
theorem gX5_findingOfCrate_X1_isMissing : GoodIn wsX5_findingOfCrate (wsV RX5 141 RX1 yX1_isMissing wsX1_isMissing) := goodIn_app (goodIn_of _ (by decide +kernel)) ggX5_findingOfCrate_X1_isMissing
theorem dX5_findingOfCrate_0 : decode cX5_findingOfCrate 0 = .ok (.iload_n 1, 1) := by decide +kernel
theorem dX5_findingOfCrate_1 : decode cX5_findingOfCrate 1 = .ok (.invokestatic 121, 3) := by decide +kernel
theorem dX5_findingOfCrate_4 : decode cX5_findingOfCrate 4 = .ok (.ifCond .ne 5, 3) := by decide +kernel
theorem dX5_findingOfCrate_7 : decode cX5_findingOfCrate 7 = .ok (.iconst (-1), 1) := by decide +kernel
theorem dX5_findingOfCrate_8 : decode cX5_findingOfCrate 8 = .ok (.ireturn, 1) := by decide +kernel
theorem dX5_findingOfCrate_9 : decode cX5_findingOfCrate 9 = .ok (.aload_n 0, 1) := by decide +kernel
theorem dX5_findingOfCrate_10 : decode cX5_findingOfCrate 10 = .ok (.getfield 29, 3) := by decide +kernel
theorem dX5_findingOfCrate_13 : decode cX5_findingOfCrate 13 = .ok (.iload_n 1, 1) := by decide +kernel
theorem dX5_findingOfCrate_14 : decode cX5_findingOfCrate 14 = .ok (.aaload, 1) := by decide +kernel
theorem dX5_findingOfCrate_15 : decode cX5_findingOfCrate 15 = .ok (.invokevirtual 141, 3) := by decide +kernel
theorem dX5_findingOfCrate_18 : decode cX5_findingOfCrate 18 = .ok (.ifCond .eq 8, 3) := by decide +kernel
theorem dX5_findingOfCrate_21 : decode cX5_findingOfCrate 21 = .ok (.bipush (-2), 2) := by decide +kernel
theorem dX5_findingOfCrate_23 : decode cX5_findingOfCrate 23 = .ok (.goto 4, 3) := by decide +kernel
theorem dX5_findingOfCrate_26 : decode cX5_findingOfCrate 26 = .ok (.iconst 0, 1) := by decide +kernel
theorem dX5_findingOfCrate_27 : decode cX5_findingOfCrate 27 = .ok (.ireturn, 1) := by decide +kernel
set_option maxRecDepth 20000 in
theorem ggX5_findingOfLoad_X5_findingOfCrate : GoodIn wsX5_findingOfLoad wsX5_findingOfCrate := goodIn_r _ [7, 1, 8, 9, 6, 10, 11, 12, 13, 14, 15, 16, 17, 18, 19, 20, 21, 22, 23, 24, 25, 26, 27, 28, 29, 30] (by decide +kernel) (by decide +kernel)
set_option maxRecDepth 20000 in
theorem gX5_findingOfLoad_X5_findingOfCrate : GoodIn wsX5_findingOfLoad (wsV RX5 156 RX5 yX5_findingOfCrate wsX5_findingOfCrate) := goodIn_app (goodIn_of _ (by decide +kernel)) ggX5_findingOfLoad_X5_findingOfCrate
theorem dX5_findingOfLoad_0 : decode cX5_findingOfLoad 0 = .ok (.aload_n 0, 1) := by decide +kernel
theorem dX5_findingOfLoad_1 : decode cX5_findingOfLoad 1 = .ok (.iload_n 1, 1) := by decide +kernel
theorem dX5_findingOfLoad_2 : decode cX5_findingOfLoad 2 = .ok (.invokevirtual 156, 3) := by decide +kernel
theorem dX5_findingOfLoad_5 : decode cX5_findingOfLoad 5 = .ok (.istore_n 3, 1) := by decide +kernel
theorem dX5_findingOfLoad_6 : decode cX5_findingOfLoad 6 = .ok (.iload_n 3, 1) := by decide +kernel
theorem dX5_findingOfLoad_7 : decode cX5_findingOfLoad 7 = .ok (.ifCond .ge 5, 3) := by decide +kernel
theorem dX5_findingOfLoad_10 : decode cX5_findingOfLoad 10 = .ok (.iload_n 3, 1) := by decide +kernel
theorem dX5_findingOfLoad_11 : decode cX5_findingOfLoad 11 = .ok (.ireturn, 1) := by decide +kernel
theorem dX5_findingOfLoad_12 : decode cX5_findingOfLoad 12 = .ok (.iload_n 2, 1) := by decide +kernel
theorem dX5_findingOfLoad_13 : decode cX5_findingOfLoad 13 = .ok (.ifCond .lt 16, 3) := by decide +kernel
theorem dX5_findingOfLoad_16 : decode cX5_findingOfLoad 16 = .ok (.iload_n 2, 1) := by decide +kernel
theorem dX5_findingOfLoad_17 : decode cX5_findingOfLoad 17 = .ok (.aload_n 0, 1) := by decide +kernel
theorem dX5_findingOfLoad_18 : decode cX5_findingOfLoad 18 = .ok (.getfield 29, 3) := by decide +kernel
theorem dX5_findingOfLoad_21 : decode cX5_findingOfLoad 21 = .ok (.iload_n 1, 1) := by decide +kernel
theorem dX5_findingOfLoad_22 : decode cX5_findingOfLoad 22 = .ok (.aaload, 1) := by decide +kernel
theorem dX5_findingOfLoad_23 : decode cX5_findingOfLoad 23 = .ok (.getfield 159, 3) := by decide +kernel
theorem dX5_findingOfLoad_26 : decode cX5_findingOfLoad 26 = .ok (.if_icmp .lt 7, 3) := by decide +kernel
theorem dX5_findingOfLoad_29 : decode cX5_findingOfLoad 29 = .ok (.iconst (-1), 1) := by decide +kernel
theorem dX5_findingOfLoad_30 : decode cX5_findingOfLoad 30 = .ok (.goto 4, 3) := by decide +kernel
theorem dX5_findingOfLoad_33 : decode cX5_findingOfLoad 33 = .ok (.iconst 0, 1) := by decide +kernel
theorem dX5_findingOfLoad_34 : decode cX5_findingOfLoad 34 = .ok (.ireturn, 1) := by decide +kernel
set_option maxRecDepth 20000 in
theorem ggX5_findingOfSlot_X5_isSlot : GoodIn wsX5_findingOfSlot wsX5_isSlot := goodIn_r _ [5] (by decide +kernel) (by decide +kernel)
set_option maxRecDepth 20000 in
theorem gX5_findingOfSlot_X5_isSlot : GoodIn wsX5_findingOfSlot (va_wsS RX5 248 yX5_isSlot wsX5_isSlot) := goodIn_app (goodIn_of _ (by decide +kernel)) ggX5_findingOfSlot_X5_isSlot
set_option maxRecDepth 20000 in
theorem ggX5_findingOfSlot_X3_isNone : GoodIn wsX5_findingOfSlot wsX3_isNone := goodIn_r _ [10, 11, 23, 24, 25] (by decide +kernel) (by decide +kernel)
set_option maxRecDepth 20000 in
theorem gX5_findingOfSlot_X3_isNone : GoodIn wsX5_findingOfSlot (wsV RX5 280 RX3 yX3_isNone wsX3_isNone) := goodIn_app (goodIn_of _ (by decide +kernel)) ggX5_findingOfSlot_X3_isNone
theorem dX5_findingOfSlot_0 : decode cX5_findingOfSlot 0 = .ok (.iload_n 1, 1) := by decide +kernel
theorem dX5_findingOfSlot_1 : decode cX5_findingOfSlot 1 = .ok (.invokestatic 248, 3) := by decide +kernel
theorem dX5_findingOfSlot_4 : decode cX5_findingOfSlot 4 = .ok (.ifCond .ne 5, 3) := by decide +kernel
theorem dX5_findingOfSlot_7 : decode cX5_findingOfSlot 7 = .ok (.iconst (-1), 1) := by decide +kernel
theorem dX5_findingOfSlot_8 : decode cX5_findingOfSlot 8 = .ok (.ireturn, 1) := by decide +kernel
theorem dX5_findingOfSlot_9 : decode cX5_findingOfSlot 9 = .ok (.aload_n 0, 1) := by decide +kernel
theorem dX5_findingOfSlot_10 : decode cX5_findingOfSlot 10 = .ok (.getfield 16, 3) := by decide +kernel
theorem dX5_findingOfSlot_13 : decode cX5_findingOfSlot 13 = .ok (.iload_n 1, 1) := by decide +kernel
theorem dX5_findingOfSlot_14 : decode cX5_findingOfSlot 14 = .ok (.aaload, 1) := by decide +kernel
theorem dX5_findingOfSlot_15 : decode cX5_findingOfSlot 15 = .ok (.invokevirtual 280, 3) := by decide +kernel
theorem dX5_findingOfSlot_18 : decode cX5_findingOfSlot 18 = .ok (.ifCond .eq 8, 3) := by decide +kernel
theorem dX5_findingOfSlot_21 : decode cX5_findingOfSlot 21 = .ok (.bipush (-6), 2) := by decide +kernel
theorem dX5_findingOfSlot_23 : decode cX5_findingOfSlot 23 = .ok (.goto 4, 3) := by decide +kernel
theorem dX5_findingOfSlot_26 : decode cX5_findingOfSlot 26 = .ok (.iconst 0, 1) := by decide +kernel
theorem dX5_findingOfSlot_27 : decode cX5_findingOfSlot 27 = .ok (.ireturn, 1) := by decide +kernel
set_option maxRecDepth 20000 in
theorem ggX5_findingOfFit_X5_findingOfSlot : GoodIn wsX5_findingOfFit wsX5_findingOfSlot := goodIn_r _ [8, 1, 9, 10, 7, 11, 12, 13, 14, 15, 16, 17, 18, 19, 20, 21, 22, 23, 24, 25, 26, 27, 28, 29, 30, 31] (by decide +kernel) (by decide +kernel)
set_option maxRecDepth 20000 in
theorem gX5_findingOfFit_X5_findingOfSlot : GoodIn wsX5_findingOfFit (wsV RX5 254 RX5 yX5_findingOfSlot wsX5_findingOfSlot) := goodIn_app (goodIn_of _ (by decide +kernel)) ggX5_findingOfFit_X5_findingOfSlot
theorem dX5_findingOfFit_0 : decode cX5_findingOfFit 0 = .ok (.aload_n 0, 1) := by decide +kernel
theorem dX5_findingOfFit_1 : decode cX5_findingOfFit 1 = .ok (.iload_n 1, 1) := by decide +kernel
theorem dX5_findingOfFit_2 : decode cX5_findingOfFit 2 = .ok (.invokevirtual 254, 3) := by decide +kernel
theorem dX5_findingOfFit_5 : decode cX5_findingOfFit 5 = .ok (.istore_n 2, 1) := by decide +kernel
theorem dX5_findingOfFit_6 : decode cX5_findingOfFit 6 = .ok (.iload_n 2, 1) := by decide +kernel
theorem dX5_findingOfFit_7 : decode cX5_findingOfFit 7 = .ok (.ifCond .ge 5, 3) := by decide +kernel
theorem dX5_findingOfFit_10 : decode cX5_findingOfFit 10 = .ok (.iload_n 2, 1) := by decide +kernel
theorem dX5_findingOfFit_11 : decode cX5_findingOfFit 11 = .ok (.ireturn, 1) := by decide +kernel
theorem dX5_findingOfFit_12 : decode cX5_findingOfFit 12 = .ok (.aload_n 0, 1) := by decide +kernel
theorem dX5_findingOfFit_13 : decode cX5_findingOfFit 13 = .ok (.getfield 16, 3) := by decide +kernel
theorem dX5_findingOfFit_16 : decode cX5_findingOfFit 16 = .ok (.iload_n 1, 1) := by decide +kernel
theorem dX5_findingOfFit_17 : decode cX5_findingOfFit 17 = .ok (.aaload, 1) := by decide +kernel
theorem dX5_findingOfFit_18 : decode cX5_findingOfFit 18 = .ok (.getfield 160, 3) := by decide +kernel
theorem dX5_findingOfFit_21 : decode cX5_findingOfFit 21 = .ok (.aload_n 0, 1) := by decide +kernel
theorem dX5_findingOfFit_22 : decode cX5_findingOfFit 22 = .ok (.getfield 10, 3) := by decide +kernel
theorem dX5_findingOfFit_25 : decode cX5_findingOfFit 25 = .ok (.getfield 160, 3) := by decide +kernel
theorem dX5_findingOfFit_28 : decode cX5_findingOfFit 28 = .ok (.if_icmp .eq 8, 3) := by decide +kernel
theorem dX5_findingOfFit_31 : decode cX5_findingOfFit 31 = .ok (.bipush (-3), 2) := by decide +kernel
theorem dX5_findingOfFit_33 : decode cX5_findingOfFit 33 = .ok (.goto 4, 3) := by decide +kernel
theorem dX5_findingOfFit_36 : decode cX5_findingOfFit 36 = .ok (.iconst 0, 1) := by decide +kernel
theorem dX5_findingOfFit_37 : decode cX5_findingOfFit 37 = .ok (.ireturn, 1) := by decide +kernel
theorem dX5_isKind_0 : decode cX5_isKind 0 = .ok (.iload_n 0, 1) := by decide +kernel
theorem dX5_isKind_1 : decode cX5_isKind 1 = .ok (.ifCond .lt 12, 3) := by decide +kernel
theorem dX5_isKind_4 : decode cX5_isKind 4 = .ok (.iload_n 0, 1) := by decide +kernel
theorem dX5_isKind_5 : decode cX5_isKind 5 = .ok (.iconst 5, 1) := by decide +kernel
theorem dX5_isKind_6 : decode cX5_isKind 6 = .ok (.if_icmp .ge 7, 3) := by decide +kernel
theorem dX5_isKind_9 : decode cX5_isKind 9 = .ok (.iconst 1, 1) := by decide +kernel
theorem dX5_isKind_10 : decode cX5_isKind 10 = .ok (.goto 4, 3) := by decide +kernel
theorem dX5_isKind_13 : decode cX5_isKind 13 = .ok (.iconst 0, 1) := by decide +kernel
theorem dX5_isKind_14 : decode cX5_isKind 14 = .ok (.ireturn, 1) := by decide +kernel
theorem dX5_isCrate_0 : decode cX5_isCrate 0 = .ok (.iload_n 0, 1) := by decide +kernel
theorem dX5_isCrate_1 : decode cX5_isCrate 1 = .ok (.ifCond .lt 13, 3) := by decide +kernel
theorem dX5_isCrate_4 : decode cX5_isCrate 4 = .ok (.iload_n 0, 1) := by decide +kernel
theorem dX5_isCrate_5 : decode cX5_isCrate 5 = .ok (.bipush 6, 2) := by decide +kernel
theorem dX5_isCrate_7 : decode cX5_isCrate 7 = .ok (.if_icmp .ge 7, 3) := by decide +kernel
theorem dX5_isCrate_10 : decode cX5_isCrate 10 = .ok (.iconst 1, 1) := by decide +kernel
theorem dX5_isCrate_11 : decode cX5_isCrate 11 = .ok (.goto 4, 3) := by decide +kernel
theorem dX5_isCrate_14 : decode cX5_isCrate 14 = .ok (.iconst 0, 1) := by decide +kernel
theorem dX5_isCrate_15 : decode cX5_isCrate 15 = .ok (.ireturn, 1) := by decide +kernel
theorem dX5_isSlot_0 : decode cX5_isSlot 0 = .ok (.iload_n 0, 1) := by decide +kernel
theorem dX5_isSlot_1 : decode cX5_isSlot 1 = .ok (.ifCond .lt 12, 3) := by decide +kernel
theorem dX5_isSlot_4 : decode cX5_isSlot 4 = .ok (.iload_n 0, 1) := by decide +kernel
theorem dX5_isSlot_5 : decode cX5_isSlot 5 = .ok (.iconst 4, 1) := by decide +kernel
theorem dX5_isSlot_6 : decode cX5_isSlot 6 = .ok (.if_icmp .ge 7, 3) := by decide +kernel
theorem dX5_isSlot_9 : decode cX5_isSlot 9 = .ok (.iconst 1, 1) := by decide +kernel
theorem dX5_isSlot_10 : decode cX5_isSlot 10 = .ok (.goto 4, 3) := by decide +kernel
theorem dX5_isSlot_13 : decode cX5_isSlot 13 = .ok (.iconst 0, 1) := by decide +kernel
theorem dX5_isSlot_14 : decode cX5_isSlot 14 = .ok (.ireturn, 1) := by decide +kernel
theorem dX5_isIn_0 : decode cX5_isIn 0 = .ok (.lload_n 0, 1) := by decide +kernel
theorem dX5_isIn_1 : decode cX5_isIn 1 = .ok (.iload_n 2, 1) := by decide +kernel
theorem dX5_isIn_2 : decode cX5_isIn 2 = .ok (.lushr, 1) := by decide +kernel
theorem dX5_isIn_3 : decode cX5_isIn 3 = .ok (.lconst 1, 1) := by decide +kernel
theorem dX5_isIn_4 : decode cX5_isIn 4 = .ok (.land, 1) := by decide +kernel
theorem dX5_isIn_5 : decode cX5_isIn 5 = .ok (.lconst 0, 1) := by decide +kernel
theorem dX5_isIn_6 : decode cX5_isIn 6 = .ok (.lcmp, 1) := by decide +kernel
theorem dX5_isIn_7 : decode cX5_isIn 7 = .ok (.ifCond .eq 7, 3) := by decide +kernel
theorem dX5_isIn_10 : decode cX5_isIn 10 = .ok (.iconst 1, 1) := by decide +kernel
theorem dX5_isIn_11 : decode cX5_isIn 11 = .ok (.goto 4, 3) := by decide +kernel
theorem dX5_isIn_14 : decode cX5_isIn 14 = .ok (.iconst 0, 1) := by decide +kernel
theorem dX5_isIn_15 : decode cX5_isIn 15 = .ok (.ireturn, 1) := by decide +kernel
set_option maxRecDepth 20000 in
theorem ggX5_isUnder_X5_isKind : GoodIn wsX5_isUnder wsX5_isKind := goodIn_r _ [5] (by decide +kernel) (by decide +kernel)
set_option maxRecDepth 20000 in
theorem gX5_isUnder_X5_isKind : GoodIn wsX5_isUnder (va_wsS RX5 80 yX5_isKind wsX5_isKind) := goodIn_app (goodIn_of _ (by decide +kernel)) ggX5_isUnder_X5_isKind
theorem dX5_isUnder_0 : decode cX5_isUnder 0 = .ok (.iload_n 0, 1) := by decide +kernel
theorem dX5_isUnder_1 : decode cX5_isUnder 1 = .ok (.istore_n 2, 1) := by decide +kernel
theorem dX5_isUnder_2 : decode cX5_isUnder 2 = .ok (.iconst 0, 1) := by decide +kernel
theorem dX5_isUnder_3 : decode cX5_isUnder 3 = .ok (.istore_n 3, 1) := by decide +kernel
theorem dX5_isUnder_4 : decode cX5_isUnder 4 = .ok (.iload_n 3, 1) := by decide +kernel
theorem dX5_isUnder_5 : decode cX5_isUnder 5 = .ok (.iconst 5, 1) := by decide +kernel
theorem dX5_isUnder_6 : decode cX5_isUnder 6 = .ok (.if_icmp .ge 29, 3) := by decide +kernel
theorem dX5_isUnder_9 : decode cX5_isUnder 9 = .ok (.iload_n 2, 1) := by decide +kernel
theorem dX5_isUnder_10 : decode cX5_isUnder 10 = .ok (.invokestatic 80, 3) := by decide +kernel
theorem dX5_isUnder_13 : decode cX5_isUnder 13 = .ok (.ifCond .eq 22, 3) := by decide +kernel
theorem dX5_isUnder_16 : decode cX5_isUnder 16 = .ok (.iload_n 2, 1) := by decide +kernel
theorem dX5_isUnder_17 : decode cX5_isUnder 17 = .ok (.iload_n 1, 1) := by decide +kernel
theorem dX5_isUnder_18 : decode cX5_isUnder 18 = .ok (.if_icmp .ne 5, 3) := by decide +kernel
theorem dX5_isUnder_21 : decode cX5_isUnder 21 = .ok (.iconst 1, 1) := by decide +kernel
theorem dX5_isUnder_22 : decode cX5_isUnder 22 = .ok (.ireturn, 1) := by decide +kernel
theorem dX5_isUnder_23 : decode cX5_isUnder 23 = .ok (.getstatic 283, 3) := by decide +kernel
theorem dX5_isUnder_26 : decode cX5_isUnder 26 = .ok (.iload_n 2, 1) := by decide +kernel
theorem dX5_isUnder_27 : decode cX5_isUnder 27 = .ok (.iaload, 1) := by decide +kernel
theorem dX5_isUnder_28 : decode cX5_isUnder 28 = .ok (.istore_n 2, 1) := by decide +kernel
theorem dX5_isUnder_29 : decode cX5_isUnder 29 = .ok (.iinc 3 1, 3) := by decide +kernel
theorem dX5_isUnder_32 : decode cX5_isUnder 32 = .ok (.goto (-28), 3) := by decide +kernel
theorem dX5_isUnder_35 : decode cX5_isUnder 35 = .ok (.iconst 0, 1) := by decide +kernel
theorem dX5_isUnder_36 : decode cX5_isUnder 36 = .ok (.ireturn, 1) := by decide +kernel
theorem dX5_changesPlaces_0 : decode cX5_changesPlaces 0 = .ok (.iload_n 0, 1) := by decide +kernel
theorem dX5_changesPlaces_1 : decode cX5_changesPlaces 1 = .ok (.lookupswitch 49 #[(0, 27), (1, 38)], 27) := by decide +kernel
theorem dX5_changesPlaces_28 : decode cX5_changesPlaces 28 = .ok (.iload_n 1, 1) := by decide +kernel
theorem dX5_changesPlaces_29 : decode cX5_changesPlaces 29 = .ok (.iload_n 2, 1) := by decide +kernel
theorem dX5_changesPlaces_30 : decode cX5_changesPlaces 30 = .ok (.if_icmp .le 7, 3) := by decide +kernel
theorem dX5_changesPlaces_33 : decode cX5_changesPlaces 33 = .ok (.iconst 1, 1) := by decide +kernel
theorem dX5_changesPlaces_34 : decode cX5_changesPlaces 34 = .ok (.goto 4, 3) := by decide +kernel
theorem dX5_changesPlaces_37 : decode cX5_changesPlaces 37 = .ok (.iconst 0, 1) := by decide +kernel
theorem dX5_changesPlaces_38 : decode cX5_changesPlaces 38 = .ok (.ireturn, 1) := by decide +kernel
theorem dX5_changesPlaces_39 : decode cX5_changesPlaces 39 = .ok (.iload_n 2, 1) := by decide +kernel
theorem dX5_changesPlaces_40 : decode cX5_changesPlaces 40 = .ok (.iload_n 1, 1) := by decide +kernel
theorem dX5_changesPlaces_41 : decode cX5_changesPlaces 41 = .ok (.if_icmp .le 7, 3) := by decide +kernel
theorem dX5_changesPlaces_44 : decode cX5_changesPlaces 44 = .ok (.iconst 1, 1) := by decide +kernel
theorem dX5_changesPlaces_45 : decode cX5_changesPlaces 45 = .ok (.goto 4, 3) := by decide +kernel
theorem dX5_changesPlaces_48 : decode cX5_changesPlaces 48 = .ok (.iconst 0, 1) := by decide +kernel
theorem dX5_changesPlaces_49 : decode cX5_changesPlaces 49 = .ok (.ireturn, 1) := by decide +kernel
theorem dX5_changesPlaces_50 : decode cX5_changesPlaces 50 = .ok (.iload_n 0, 1) := by decide +kernel
theorem dX5_changesPlaces_51 : decode cX5_changesPlaces 51 = .ok (.iconst 3, 1) := by decide +kernel
theorem dX5_changesPlaces_52 : decode cX5_changesPlaces 52 = .ok (.if_icmp .ne 7, 3) := by decide +kernel
theorem dX5_changesPlaces_55 : decode cX5_changesPlaces 55 = .ok (.iconst 1, 1) := by decide +kernel
theorem dX5_changesPlaces_56 : decode cX5_changesPlaces 56 = .ok (.goto 4, 3) := by decide +kernel
theorem dX5_changesPlaces_59 : decode cX5_changesPlaces 59 = .ok (.iconst 0, 1) := by decide +kernel
theorem dX5_changesPlaces_60 : decode cX5_changesPlaces 60 = .ok (.ireturn, 1) := by decide +kernel
set_option maxRecDepth 20000 in
theorem ggX5_areLanePairs_X3_hasLane : GoodIn wsX5_areLanePairs wsX3_hasLane := goodIn_r _ [7, 8, 20, 21, 22] (by decide +kernel) (by decide +kernel)
set_option maxRecDepth 20000 in
theorem gX5_areLanePairs_X3_hasLane : GoodIn wsX5_areLanePairs (wsV RX5 84 RX3 yX3_hasLane wsX3_hasLane) := goodIn_app (goodIn_of _ (by decide +kernel)) ggX5_areLanePairs_X3_hasLane
theorem dX5_areLanePairs_0 : decode cX5_areLanePairs 0 = .ok (.iconst 0, 1) := by decide +kernel
theorem dX5_areLanePairs_1 : decode cX5_areLanePairs 1 = .ok (.istore_n 2, 1) := by decide +kernel
theorem dX5_areLanePairs_2 : decode cX5_areLanePairs 2 = .ok (.iload_n 2, 1) := by decide +kernel
theorem dX5_areLanePairs_3 : decode cX5_areLanePairs 3 = .ok (.iconst 1, 1) := by decide +kernel
theorem dX5_areLanePairs_4 : decode cX5_areLanePairs 4 = .ok (.iadd, 1) := by decide +kernel
theorem dX5_areLanePairs_5 : decode cX5_areLanePairs 5 = .ok (.iload_n 1, 1) := by decide +kernel
theorem dX5_areLanePairs_6 : decode cX5_areLanePairs 6 = .ok (.if_icmp .ge 57, 3) := by decide +kernel
theorem dX5_areLanePairs_9 : decode cX5_areLanePairs 9 = .ok (.aload_n 0, 1) := by decide +kernel
theorem dX5_areLanePairs_10 : decode cX5_areLanePairs 10 = .ok (.getfield 54, 3) := by decide +kernel
theorem dX5_areLanePairs_13 : decode cX5_areLanePairs 13 = .ok (.iload_n 2, 1) := by decide +kernel
theorem dX5_areLanePairs_14 : decode cX5_areLanePairs 14 = .ok (.iaload, 1) := by decide +kernel
theorem dX5_areLanePairs_15 : decode cX5_areLanePairs 15 = .ok (.istore_n 3, 1) := by decide +kernel
theorem dX5_areLanePairs_16 : decode cX5_areLanePairs 16 = .ok (.aload_n 0, 1) := by decide +kernel
theorem dX5_areLanePairs_17 : decode cX5_areLanePairs 17 = .ok (.getfield 54, 3) := by decide +kernel
theorem dX5_areLanePairs_20 : decode cX5_areLanePairs 20 = .ok (.iload_n 2, 1) := by decide +kernel
theorem dX5_areLanePairs_21 : decode cX5_areLanePairs 21 = .ok (.iconst 1, 1) := by decide +kernel
theorem dX5_areLanePairs_22 : decode cX5_areLanePairs 22 = .ok (.iadd, 1) := by decide +kernel
theorem dX5_areLanePairs_23 : decode cX5_areLanePairs 23 = .ok (.iaload, 1) := by decide +kernel
theorem dX5_areLanePairs_24 : decode cX5_areLanePairs 24 = .ok (.istore 4, 2) := by decide +kernel
theorem dX5_areLanePairs_26 : decode cX5_areLanePairs 26 = .ok (.aload_n 0, 1) := by decide +kernel
theorem dX5_areLanePairs_27 : decode cX5_areLanePairs 27 = .ok (.getfield 10, 3) := by decide +kernel
theorem dX5_areLanePairs_30 : decode cX5_areLanePairs 30 = .ok (.iload_n 3, 1) := by decide +kernel
theorem dX5_areLanePairs_31 : decode cX5_areLanePairs 31 = .ok (.invokevirtual 84, 3) := by decide +kernel
theorem dX5_areLanePairs_34 : decode cX5_areLanePairs 34 = .ok (.ifCond .eq 21, 3) := by decide +kernel
theorem dX5_areLanePairs_37 : decode cX5_areLanePairs 37 = .ok (.aload_n 0, 1) := by decide +kernel
theorem dX5_areLanePairs_38 : decode cX5_areLanePairs 38 = .ok (.getfield 10, 3) := by decide +kernel
theorem dX5_areLanePairs_41 : decode cX5_areLanePairs 41 = .ok (.iload 4, 2) := by decide +kernel
theorem dX5_areLanePairs_43 : decode cX5_areLanePairs 43 = .ok (.invokevirtual 84, 3) := by decide +kernel
theorem dX5_areLanePairs_46 : decode cX5_areLanePairs 46 = .ok (.ifCond .eq 9, 3) := by decide +kernel
theorem dX5_areLanePairs_49 : decode cX5_areLanePairs 49 = .ok (.iload_n 3, 1) := by decide +kernel
theorem dX5_areLanePairs_50 : decode cX5_areLanePairs 50 = .ok (.iload 4, 2) := by decide +kernel
theorem dX5_areLanePairs_52 : decode cX5_areLanePairs 52 = .ok (.if_icmp .lt 5, 3) := by decide +kernel
theorem dX5_areLanePairs_55 : decode cX5_areLanePairs 55 = .ok (.iconst 0, 1) := by decide +kernel
theorem dX5_areLanePairs_56 : decode cX5_areLanePairs 56 = .ok (.ireturn, 1) := by decide +kernel
theorem dX5_areLanePairs_57 : decode cX5_areLanePairs 57 = .ok (.iinc 2 2, 3) := by decide +kernel
theorem dX5_areLanePairs_60 : decode cX5_areLanePairs 60 = .ok (.goto (-58), 3) := by decide +kernel
theorem dX5_areLanePairs_63 : decode cX5_areLanePairs 63 = .ok (.iconst 1, 1) := by decide +kernel
theorem dX5_areLanePairs_64 : decode cX5_areLanePairs 64 = .ok (.ireturn, 1) := by decide +kernel
set_option maxRecDepth 20000 in
theorem ggX5_lastRound_X3_low : GoodIn wsX5_lastRound wsX3_low := goodIn_r _ [12, 13, 29, 30, 31] (by decide +kernel) (by decide +kernel)
set_option maxRecDepth 20000 in
theorem gX5_lastRound_X3_low : GoodIn wsX5_lastRound (wsV RX5 97 RX3 yX3_low wsX3_low) := goodIn_app (goodIn_of _ (by decide +kernel)) ggX5_lastRound_X3_low
set_option maxRecDepth 20000 in
theorem ggX5_lastRound_X3_high : GoodIn wsX5_lastRound wsX3_high := goodIn_r _ [17, 13, 29, 30, 31] (by decide +kernel) (by decide +kernel)
set_option maxRecDepth 20000 in
theorem gX5_lastRound_X3_high : GoodIn wsX5_lastRound (wsV RX5 100 RX3 yX3_high wsX3_high) := goodIn_app (goodIn_of _ (by decide +kernel)) ggX5_lastRound_X3_high
theorem dX5_lastRound_0 : decode cX5_lastRound 0 = .ok (.iconst 0, 1) := by decide +kernel
theorem dX5_lastRound_1 : decode cX5_lastRound 1 = .ok (.istore_n 2, 1) := by decide +kernel
theorem dX5_lastRound_2 : decode cX5_lastRound 2 = .ok (.iload_n 2, 1) := by decide +kernel
theorem dX5_lastRound_3 : decode cX5_lastRound 3 = .ok (.bipush 8, 2) := by decide +kernel
theorem dX5_lastRound_5 : decode cX5_lastRound 5 = .ok (.if_icmp .ge 16, 3) := by decide +kernel
theorem dX5_lastRound_8 : decode cX5_lastRound 8 = .ok (.aload_n 0, 1) := by decide +kernel
theorem dX5_lastRound_9 : decode cX5_lastRound 9 = .ok (.getfield 50, 3) := by decide +kernel
theorem dX5_lastRound_12 : decode cX5_lastRound 12 = .ok (.iload_n 2, 1) := by decide +kernel
theorem dX5_lastRound_13 : decode cX5_lastRound 13 = .ok (.iconst 0, 1) := by decide +kernel
theorem dX5_lastRound_14 : decode cX5_lastRound 14 = .ok (.iastore, 1) := by decide +kernel
theorem dX5_lastRound_15 : decode cX5_lastRound 15 = .ok (.iinc 2 1, 3) := by decide +kernel
theorem dX5_lastRound_18 : decode cX5_lastRound 18 = .ok (.goto (-16), 3) := by decide +kernel
theorem dX5_lastRound_21 : decode cX5_lastRound 21 = .ok (.iconst 0, 1) := by decide +kernel
theorem dX5_lastRound_22 : decode cX5_lastRound 22 = .ok (.istore_n 2, 1) := by decide +kernel
theorem dX5_lastRound_23 : decode cX5_lastRound 23 = .ok (.iconst 0, 1) := by decide +kernel
theorem dX5_lastRound_24 : decode cX5_lastRound 24 = .ok (.istore_n 3, 1) := by decide +kernel
theorem dX5_lastRound_25 : decode cX5_lastRound 25 = .ok (.iload_n 3, 1) := by decide +kernel
theorem dX5_lastRound_26 : decode cX5_lastRound 26 = .ok (.iload_n 1, 1) := by decide +kernel
theorem dX5_lastRound_27 : decode cX5_lastRound 27 = .ok (.if_icmp .ge 86, 3) := by decide +kernel
theorem dX5_lastRound_30 : decode cX5_lastRound 30 = .ok (.iload_n 3, 1) := by decide +kernel
theorem dX5_lastRound_31 : decode cX5_lastRound 31 = .ok (.aload_n 0, 1) := by decide +kernel
theorem dX5_lastRound_32 : decode cX5_lastRound 32 = .ok (.getfield 10, 3) := by decide +kernel
theorem dX5_lastRound_35 : decode cX5_lastRound 35 = .ok (.getfield 77, 3) := by decide +kernel
theorem dX5_lastRound_38 : decode cX5_lastRound 38 = .ok (.if_icmp .ge 75, 3) := by decide +kernel
theorem dX5_lastRound_41 : decode cX5_lastRound 41 = .ok (.aload_n 0, 1) := by decide +kernel
theorem dX5_lastRound_42 : decode cX5_lastRound 42 = .ok (.getfield 10, 3) := by decide +kernel
theorem dX5_lastRound_45 : decode cX5_lastRound 45 = .ok (.iload_n 3, 1) := by decide +kernel
theorem dX5_lastRound_46 : decode cX5_lastRound 46 = .ok (.invokevirtual 97, 3) := by decide +kernel
theorem dX5_lastRound_49 : decode cX5_lastRound 49 = .ok (.istore 4, 2) := by decide +kernel
theorem dX5_lastRound_51 : decode cX5_lastRound 51 = .ok (.aload_n 0, 1) := by decide +kernel
theorem dX5_lastRound_52 : decode cX5_lastRound 52 = .ok (.getfield 10, 3) := by decide +kernel
theorem dX5_lastRound_55 : decode cX5_lastRound 55 = .ok (.iload_n 3, 1) := by decide +kernel
theorem dX5_lastRound_56 : decode cX5_lastRound 56 = .ok (.invokevirtual 100, 3) := by decide +kernel
theorem dX5_lastRound_59 : decode cX5_lastRound 59 = .ok (.istore 5, 2) := by decide +kernel
theorem dX5_lastRound_61 : decode cX5_lastRound 61 = .ok (.aload_n 0, 1) := by decide +kernel
theorem dX5_lastRound_62 : decode cX5_lastRound 62 = .ok (.getfield 50, 3) := by decide +kernel
theorem dX5_lastRound_65 : decode cX5_lastRound 65 = .ok (.iload 4, 2) := by decide +kernel
theorem dX5_lastRound_67 : decode cX5_lastRound 67 = .ok (.iaload, 1) := by decide +kernel
theorem dX5_lastRound_68 : decode cX5_lastRound 68 = .ok (.aload_n 0, 1) := by decide +kernel
theorem dX5_lastRound_69 : decode cX5_lastRound 69 = .ok (.getfield 50, 3) := by decide +kernel
theorem dX5_lastRound_72 : decode cX5_lastRound 72 = .ok (.iload 5, 2) := by decide +kernel
theorem dX5_lastRound_74 : decode cX5_lastRound 74 = .ok (.iaload, 1) := by decide +kernel
theorem dX5_lastRound_75 : decode cX5_lastRound 75 = .ok (.invokestatic 226, 3) := by decide +kernel
theorem dX5_lastRound_78 : decode cX5_lastRound 78 = .ok (.iconst 1, 1) := by decide +kernel
theorem dX5_lastRound_79 : decode cX5_lastRound 79 = .ok (.iadd, 1) := by decide +kernel
theorem dX5_lastRound_80 : decode cX5_lastRound 80 = .ok (.istore 6, 2) := by decide +kernel
theorem dX5_lastRound_82 : decode cX5_lastRound 82 = .ok (.aload_n 0, 1) := by decide +kernel
theorem dX5_lastRound_83 : decode cX5_lastRound 83 = .ok (.getfield 50, 3) := by decide +kernel
theorem dX5_lastRound_86 : decode cX5_lastRound 86 = .ok (.iload 4, 2) := by decide +kernel
theorem dX5_lastRound_88 : decode cX5_lastRound 88 = .ok (.iload 6, 2) := by decide +kernel
theorem dX5_lastRound_90 : decode cX5_lastRound 90 = .ok (.iastore, 1) := by decide +kernel
theorem dX5_lastRound_91 : decode cX5_lastRound 91 = .ok (.aload_n 0, 1) := by decide +kernel
theorem dX5_lastRound_92 : decode cX5_lastRound 92 = .ok (.getfield 50, 3) := by decide +kernel
theorem dX5_lastRound_95 : decode cX5_lastRound 95 = .ok (.iload 5, 2) := by decide +kernel
theorem dX5_lastRound_97 : decode cX5_lastRound 97 = .ok (.iload 6, 2) := by decide +kernel
theorem dX5_lastRound_99 : decode cX5_lastRound 99 = .ok (.iastore, 1) := by decide +kernel
theorem dX5_lastRound_100 : decode cX5_lastRound 100 = .ok (.iload_n 2, 1) := by decide +kernel
theorem dX5_lastRound_101 : decode cX5_lastRound 101 = .ok (.iload 6, 2) := by decide +kernel
theorem dX5_lastRound_103 : decode cX5_lastRound 103 = .ok (.invokestatic 226, 3) := by decide +kernel
theorem dX5_lastRound_106 : decode cX5_lastRound 106 = .ok (.istore_n 2, 1) := by decide +kernel
theorem dX5_lastRound_107 : decode cX5_lastRound 107 = .ok (.iinc 3 1, 3) := by decide +kernel
theorem dX5_lastRound_110 : decode cX5_lastRound 110 = .ok (.goto (-85), 3) := by decide +kernel
theorem dX5_lastRound_113 : decode cX5_lastRound 113 = .ok (.iload_n 2, 1) := by decide +kernel
theorem dX5_lastRound_114 : decode cX5_lastRound 114 = .ok (.ireturn, 1) := by decide +kernel
set_option maxRecDepth 20000 in
theorem ggX5_failingRows_X4_start : GoodIn wsX5_failingRows wsX4_start := goodIn_r _ [8, 9, 10, 11, 12, 13, 7, 14, 15, 69, 70] (by decide +kernel) (by decide +kernel)
set_option maxRecDepth 20000 in
theorem gX5_failingRows_X4_start : GoodIn wsX5_failingRows (wsV RX5 176 RX4 yX4_start wsX4_start) := goodIn_app (goodIn_of _ (by decide +kernel)) ggX5_failingRows_X4_start
set_option maxRecDepth 20000 in
theorem ggX5_failingRows_X4_pass : GoodIn wsX5_failingRows wsX4_pass := goodIn_r _ [19, 20, 21, 22, 23, 24, 25, 26, 27, 28, 29, 30, 31, 32, 33, 34, 35, 36, 37, 38, 39, 40, 41, 42, 43, 44, 45, 7, 46, 11, 47, 48, 49, 50, 9, 10, 66, 67, 68, 69, 70] (by decide +kernel) (by decide +kernel)
set_option maxRecDepth 20000 in
theorem gX5_failingRows_X4_pass : GoodIn wsX5_failingRows (wsV RX5 179 RX4 yX4_pass wsX4_pass) := goodIn_app (goodIn_of _ (by decide +kernel)) ggX5_failingRows_X4_pass
set_option maxRecDepth 20000 in
theorem ggX5_failingRows_X4_falling : GoodIn wsX5_failingRows wsX4_falling := goodIn_r _ [54, 11, 9, 69, 70] (by decide +kernel) (by decide +kernel)
set_option maxRecDepth 20000 in
theorem gX5_failingRows_X4_falling : GoodIn wsX5_failingRows (wsV RX5 205 RX4 yX4_falling wsX4_falling) := goodIn_app (goodIn_of _ (by decide +kernel)) ggX5_failingRows_X4_falling
theorem dX5_failingRows_0 : decode cX5_failingRows 0 = .ok (.aload_n 0, 1) := by decide +kernel
theorem dX5_failingRows_1 : decode cX5_failingRows 1 = .ok (.getfield 36, 3) := by decide +kernel
theorem dX5_failingRows_4 : decode cX5_failingRows 4 = .ok (.aload_n 0, 1) := by decide +kernel
theorem dX5_failingRows_5 : decode cX5_failingRows 5 = .ok (.getfield 10, 3) := by decide +kernel
theorem dX5_failingRows_8 : decode cX5_failingRows 8 = .ok (.getfield 160, 3) := by decide +kernel
theorem dX5_failingRows_11 : decode cX5_failingRows 11 = .ok (.iload_n 1, 1) := by decide +kernel
theorem dX5_failingRows_12 : decode cX5_failingRows 12 = .ok (.invokevirtual 176, 3) := by decide +kernel
theorem dX5_failingRows_15 : decode cX5_failingRows 15 = .ok (.aload_n 0, 1) := by decide +kernel
theorem dX5_failingRows_16 : decode cX5_failingRows 16 = .ok (.getfield 36, 3) := by decide +kernel
theorem dX5_failingRows_19 : decode cX5_failingRows 19 = .ok (.aload_n 0, 1) := by decide +kernel
theorem dX5_failingRows_20 : decode cX5_failingRows 20 = .ok (.getfield 10, 3) := by decide +kernel
theorem dX5_failingRows_23 : decode cX5_failingRows 23 = .ok (.iload_n 2, 1) := by decide +kernel
theorem dX5_failingRows_24 : decode cX5_failingRows 24 = .ok (.invokevirtual 179, 3) := by decide +kernel
theorem dX5_failingRows_27 : decode cX5_failingRows 27 = .ok (.aload_n 0, 1) := by decide +kernel
theorem dX5_failingRows_28 : decode cX5_failingRows 28 = .ok (.getfield 36, 3) := by decide +kernel
theorem dX5_failingRows_31 : decode cX5_failingRows 31 = .ok (.iconst 0, 1) := by decide +kernel
theorem dX5_failingRows_32 : decode cX5_failingRows 32 = .ok (.aload_n 0, 1) := by decide +kernel
theorem dX5_failingRows_33 : decode cX5_failingRows 33 = .ok (.getfield 10, 3) := by decide +kernel
theorem dX5_failingRows_36 : decode cX5_failingRows 36 = .ok (.getfield 160, 3) := by decide +kernel
theorem dX5_failingRows_39 : decode cX5_failingRows 39 = .ok (.invokevirtual 205, 3) := by decide +kernel
theorem dX5_failingRows_42 : decode cX5_failingRows 42 = .ok (.lreturn, 1) := by decide +kernel
set_option maxRecDepth 20000 in
theorem ggX5_leastFailing_X4_blocks : GoodIn wsX5_leastFailing wsX4_blocks := goodIn_r _ [6] (by decide +kernel) (by decide +kernel)
set_option maxRecDepth 20000 in
theorem gX5_leastFailing_X4_blocks : GoodIn wsX5_leastFailing (va_wsS RX5 192 yX4_blocks wsX4_blocks) := goodIn_app (goodIn_of _ (by decide +kernel)) ggX5_leastFailing_X4_blocks
set_option maxRecDepth 20000 in
theorem ggX5_leastFailing_X5_failingRows : GoodIn wsX5_leastFailing wsX5_failingRows := goodIn_r _ [11, 12, 1, 2, 13, 14, 15, 5, 16, 17, 18, 19, 20, 21, 22, 23, 24, 25, 26, 27, 28, 29, 30, 31, 32, 33, 34, 35, 36, 37, 38, 39, 40, 41, 42, 43, 44, 45, 46, 47, 48, 49, 50, 51, 52, 53, 54, 55, 56, 57, 58, 59, 60, 61, 62, 73, 74, 75, 76, 77, 78, 79, 80, 81, 82, 83, 84, 85, 86, 87, 88] (by decide +kernel) (by decide +kernel)
set_option maxRecDepth 20000 in
theorem gX5_leastFailing_X5_failingRows : GoodIn wsX5_leastFailing (wsV RX5 195 RX5 yX5_failingRows wsX5_failingRows) := goodIn_app (goodIn_of _ (by decide +kernel)) ggX5_leastFailing_X5_failingRows
set_option maxRecDepth 20000 in
theorem ggX5_leastFailing_X4_leastOf : GoodIn wsX5_leastFailing wsX4_leastOf := goodIn_r _ [65, 66, 67, 68, 69, 70, 71, 72] (by decide +kernel) (by decide +kernel)
set_option maxRecDepth 20000 in
theorem gX5_leastFailing_X4_leastOf : GoodIn wsX5_leastFailing (va_wsS RX5 264 yX4_leastOf wsX4_leastOf) := goodIn_app (goodIn_of _ (by decide +kernel)) ggX5_leastFailing_X4_leastOf
theorem dX5_leastFailing_0 : decode cX5_leastFailing 0 = .ok (.iconst 0, 1) := by decide +kernel
theorem dX5_leastFailing_1 : decode cX5_leastFailing 1 = .ok (.istore_n 2, 1) := by decide +kernel
theorem dX5_leastFailing_2 : decode cX5_leastFailing 2 = .ok (.iload_n 2, 1) := by decide +kernel
theorem dX5_leastFailing_3 : decode cX5_leastFailing 3 = .ok (.aload_n 0, 1) := by decide +kernel
theorem dX5_leastFailing_4 : decode cX5_leastFailing 4 = .ok (.getfield 10, 3) := by decide +kernel
theorem dX5_leastFailing_7 : decode cX5_leastFailing 7 = .ok (.getfield 160, 3) := by decide +kernel
theorem dX5_leastFailing_10 : decode cX5_leastFailing 10 = .ok (.invokestatic 192, 3) := by decide +kernel
theorem dX5_leastFailing_13 : decode cX5_leastFailing 13 = .ok (.if_icmp .ge 28, 3) := by decide +kernel
theorem dX5_leastFailing_16 : decode cX5_leastFailing 16 = .ok (.aload_n 0, 1) := by decide +kernel
theorem dX5_leastFailing_17 : decode cX5_leastFailing 17 = .ok (.iload_n 2, 1) := by decide +kernel
theorem dX5_leastFailing_18 : decode cX5_leastFailing 18 = .ok (.iload_n 1, 1) := by decide +kernel
theorem dX5_leastFailing_19 : decode cX5_leastFailing 19 = .ok (.invokevirtual 195, 3) := by decide +kernel
theorem dX5_leastFailing_22 : decode cX5_leastFailing 22 = .ok (.lstore_n 3, 1) := by decide +kernel
theorem dX5_leastFailing_23 : decode cX5_leastFailing 23 = .ok (.lload_n 3, 1) := by decide +kernel
theorem dX5_leastFailing_24 : decode cX5_leastFailing 24 = .ok (.lconst 0, 1) := by decide +kernel
theorem dX5_leastFailing_25 : decode cX5_leastFailing 25 = .ok (.lcmp, 1) := by decide +kernel
theorem dX5_leastFailing_26 : decode cX5_leastFailing 26 = .ok (.ifCond .eq 9, 3) := by decide +kernel
theorem dX5_leastFailing_29 : decode cX5_leastFailing 29 = .ok (.lload_n 3, 1) := by decide +kernel
theorem dX5_leastFailing_30 : decode cX5_leastFailing 30 = .ok (.iload_n 2, 1) := by decide +kernel
theorem dX5_leastFailing_31 : decode cX5_leastFailing 31 = .ok (.invokestatic 264, 3) := by decide +kernel
theorem dX5_leastFailing_34 : decode cX5_leastFailing 34 = .ok (.ireturn, 1) := by decide +kernel
theorem dX5_leastFailing_35 : decode cX5_leastFailing 35 = .ok (.iinc 2 1, 3) := by decide +kernel
theorem dX5_leastFailing_38 : decode cX5_leastFailing 38 = .ok (.goto (-36), 3) := by decide +kernel
theorem dX5_leastFailing_41 : decode cX5_leastFailing 41 = .ok (.bipush (-6), 2) := by decide +kernel
theorem dX5_leastFailing_43 : decode cX5_leastFailing 43 = .ok (.ireturn, 1) := by decide +kernel
set_option maxRecDepth 20000 in
theorem ggX5_busyComparers_X4_blocks : GoodIn wsX5_busyComparers wsX4_blocks := goodIn_r _ [8] (by decide +kernel) (by decide +kernel)
set_option maxRecDepth 20000 in
theorem gX5_busyComparers_X4_blocks : GoodIn wsX5_busyComparers (va_wsS RX5 192 yX4_blocks wsX4_blocks) := goodIn_app (goodIn_of _ (by decide +kernel)) ggX5_busyComparers_X4_blocks
set_option maxRecDepth 20000 in
theorem ggX5_busyComparers_X4_start : GoodIn wsX5_busyComparers wsX4_start := goodIn_r _ [12, 13, 14, 15, 16, 17, 7, 18, 19, 65, 66] (by decide +kernel) (by decide +kernel)
set_option maxRecDepth 20000 in
theorem gX5_busyComparers_X4_start : GoodIn wsX5_busyComparers (wsV RX5 176 RX4 yX4_start wsX4_start) := goodIn_app (goodIn_of _ (by decide +kernel)) ggX5_busyComparers_X4_start
set_option maxRecDepth 20000 in
theorem ggX5_busyComparers_X3_actingKind : GoodIn wsX5_busyComparers wsX3_actingKind := goodIn_r _ [24, 25, 26, 27, 23, 28, 29, 30, 31, 32, 33, 62, 63, 64] (by decide +kernel) (by decide +kernel)
set_option maxRecDepth 20000 in
theorem gX5_busyComparers_X3_actingKind : GoodIn wsX5_busyComparers (wsV RX5 163 RX3 yX3_actingKind wsX3_actingKind) := goodIn_app (goodIn_of _ (by decide +kernel)) ggX5_busyComparers_X3_actingKind
set_option maxRecDepth 20000 in
theorem ggX5_busyComparers_X3_low : GoodIn wsX5_busyComparers wsX3_low := goodIn_r _ [37, 29, 62, 63, 64] (by decide +kernel) (by decide +kernel)
set_option maxRecDepth 20000 in
theorem gX5_busyComparers_X3_low : GoodIn wsX5_busyComparers (wsV RX5 97 RX3 yX3_low wsX3_low) := goodIn_app (goodIn_of _ (by decide +kernel)) ggX5_busyComparers_X3_low
set_option maxRecDepth 20000 in
theorem ggX5_busyComparers_X3_high : GoodIn wsX5_busyComparers wsX3_high := goodIn_r _ [41, 29, 62, 63, 64] (by decide +kernel) (by decide +kernel)
set_option maxRecDepth 20000 in
theorem gX5_busyComparers_X3_high : GoodIn wsX5_busyComparers (wsV RX5 100 RX3 yX3_high wsX3_high) := goodIn_app (goodIn_of _ (by decide +kernel)) ggX5_busyComparers_X3_high
set_option maxRecDepth 20000 in
theorem ggX5_busyComparers_X4_changing : GoodIn wsX5_busyComparers wsX4_changing := goodIn_r _ [45, 15, 13, 14, 65, 66] (by decide +kernel) (by decide +kernel)
set_option maxRecDepth 20000 in
theorem gX5_busyComparers_X4_changing : GoodIn wsX5_busyComparers (wsV RX5 286 RX4 yX4_changing wsX4_changing) := goodIn_app (goodIn_of _ (by decide +kernel)) ggX5_busyComparers_X4_changing
set_option maxRecDepth 20000 in
theorem ggX5_busyComparers_X4_step : GoodIn wsX5_busyComparers wsX4_step := goodIn_r _ [49, 15, 50, 43, 44, 7, 45, 13, 14, 65, 66] (by decide +kernel) (by decide +kernel)
set_option maxRecDepth 20000 in
theorem gX5_busyComparers_X4_step : GoodIn wsX5_busyComparers (wsV RX5 271 RX4 yX4_step wsX4_step) := goodIn_app (goodIn_of _ (by decide +kernel)) ggX5_busyComparers_X4_step
theorem dX5_busyComparers_0 : decode cX5_busyComparers 0 = .ok (.lconst 0, 1) := by decide +kernel
theorem dX5_busyComparers_1 : decode cX5_busyComparers 1 = .ok (.lstore_n 1, 1) := by decide +kernel
theorem dX5_busyComparers_2 : decode cX5_busyComparers 2 = .ok (.iconst 0, 1) := by decide +kernel
theorem dX5_busyComparers_3 : decode cX5_busyComparers 3 = .ok (.istore_n 3, 1) := by decide +kernel
theorem dX5_busyComparers_4 : decode cX5_busyComparers 4 = .ok (.iload_n 3, 1) := by decide +kernel
theorem dX5_busyComparers_5 : decode cX5_busyComparers 5 = .ok (.aload_n 0, 1) := by decide +kernel
theorem dX5_busyComparers_6 : decode cX5_busyComparers 6 = .ok (.getfield 10, 3) := by decide +kernel
theorem dX5_busyComparers_9 : decode cX5_busyComparers 9 = .ok (.getfield 160, 3) := by decide +kernel
theorem dX5_busyComparers_12 : decode cX5_busyComparers 12 = .ok (.invokestatic 192, 3) := by decide +kernel
theorem dX5_busyComparers_15 : decode cX5_busyComparers 15 = .ok (.if_icmp .ge 122, 3) := by decide +kernel
theorem dX5_busyComparers_18 : decode cX5_busyComparers 18 = .ok (.aload_n 0, 1) := by decide +kernel
theorem dX5_busyComparers_19 : decode cX5_busyComparers 19 = .ok (.getfield 36, 3) := by decide +kernel
theorem dX5_busyComparers_22 : decode cX5_busyComparers 22 = .ok (.aload_n 0, 1) := by decide +kernel
theorem dX5_busyComparers_23 : decode cX5_busyComparers 23 = .ok (.getfield 10, 3) := by decide +kernel
theorem dX5_busyComparers_26 : decode cX5_busyComparers 26 = .ok (.getfield 160, 3) := by decide +kernel
theorem dX5_busyComparers_29 : decode cX5_busyComparers 29 = .ok (.iload_n 3, 1) := by decide +kernel
theorem dX5_busyComparers_30 : decode cX5_busyComparers 30 = .ok (.invokevirtual 176, 3) := by decide +kernel
theorem dX5_busyComparers_33 : decode cX5_busyComparers 33 = .ok (.iconst 0, 1) := by decide +kernel
theorem dX5_busyComparers_34 : decode cX5_busyComparers 34 = .ok (.istore 4, 2) := by decide +kernel
theorem dX5_busyComparers_36 : decode cX5_busyComparers 36 = .ok (.iload 4, 2) := by decide +kernel
theorem dX5_busyComparers_38 : decode cX5_busyComparers 38 = .ok (.aload_n 0, 1) := by decide +kernel
theorem dX5_busyComparers_39 : decode cX5_busyComparers 39 = .ok (.getfield 10, 3) := by decide +kernel
theorem dX5_busyComparers_42 : decode cX5_busyComparers 42 = .ok (.getfield 77, 3) := by decide +kernel
theorem dX5_busyComparers_45 : decode cX5_busyComparers 45 = .ok (.if_icmp .ge 86, 3) := by decide +kernel
theorem dX5_busyComparers_48 : decode cX5_busyComparers 48 = .ok (.aload_n 0, 1) := by decide +kernel
theorem dX5_busyComparers_49 : decode cX5_busyComparers 49 = .ok (.getfield 10, 3) := by decide +kernel
theorem dX5_busyComparers_52 : decode cX5_busyComparers 52 = .ok (.iload 4, 2) := by decide +kernel
theorem dX5_busyComparers_54 : decode cX5_busyComparers 54 = .ok (.invokevirtual 163, 3) := by decide +kernel
theorem dX5_busyComparers_57 : decode cX5_busyComparers 57 = .ok (.istore 5, 2) := by decide +kernel
theorem dX5_busyComparers_59 : decode cX5_busyComparers 59 = .ok (.aload_n 0, 1) := by decide +kernel
theorem dX5_busyComparers_60 : decode cX5_busyComparers 60 = .ok (.getfield 36, 3) := by decide +kernel
theorem dX5_busyComparers_63 : decode cX5_busyComparers 63 = .ok (.iload 5, 2) := by decide +kernel
theorem dX5_busyComparers_65 : decode cX5_busyComparers 65 = .ok (.aload_n 0, 1) := by decide +kernel
theorem dX5_busyComparers_66 : decode cX5_busyComparers 66 = .ok (.getfield 10, 3) := by decide +kernel
theorem dX5_busyComparers_69 : decode cX5_busyComparers 69 = .ok (.iload 4, 2) := by decide +kernel
theorem dX5_busyComparers_71 : decode cX5_busyComparers 71 = .ok (.invokevirtual 97, 3) := by decide +kernel
theorem dX5_busyComparers_74 : decode cX5_busyComparers 74 = .ok (.aload_n 0, 1) := by decide +kernel
theorem dX5_busyComparers_75 : decode cX5_busyComparers 75 = .ok (.getfield 10, 3) := by decide +kernel
theorem dX5_busyComparers_78 : decode cX5_busyComparers 78 = .ok (.iload 4, 2) := by decide +kernel
theorem dX5_busyComparers_80 : decode cX5_busyComparers 80 = .ok (.invokevirtual 100, 3) := by decide +kernel
theorem dX5_busyComparers_83 : decode cX5_busyComparers 83 = .ok (.invokevirtual 286, 3) := by decide +kernel
theorem dX5_busyComparers_86 : decode cX5_busyComparers 86 = .ok (.lconst 0, 1) := by decide +kernel
theorem dX5_busyComparers_87 : decode cX5_busyComparers 87 = .ok (.lcmp, 1) := by decide +kernel
theorem dX5_busyComparers_88 : decode cX5_busyComparers 88 = .ok (.ifCond .eq 10, 3) := by decide +kernel
theorem dX5_busyComparers_91 : decode cX5_busyComparers 91 = .ok (.lload_n 1, 1) := by decide +kernel
theorem dX5_busyComparers_92 : decode cX5_busyComparers 92 = .ok (.lconst 1, 1) := by decide +kernel
theorem dX5_busyComparers_93 : decode cX5_busyComparers 93 = .ok (.iload 4, 2) := by decide +kernel
theorem dX5_busyComparers_95 : decode cX5_busyComparers 95 = .ok (.lshl, 1) := by decide +kernel
theorem dX5_busyComparers_96 : decode cX5_busyComparers 96 = .ok (.lor, 1) := by decide +kernel
theorem dX5_busyComparers_97 : decode cX5_busyComparers 97 = .ok (.lstore_n 1, 1) := by decide +kernel
theorem dX5_busyComparers_98 : decode cX5_busyComparers 98 = .ok (.aload_n 0, 1) := by decide +kernel
theorem dX5_busyComparers_99 : decode cX5_busyComparers 99 = .ok (.getfield 36, 3) := by decide +kernel
theorem dX5_busyComparers_102 : decode cX5_busyComparers 102 = .ok (.iload 5, 2) := by decide +kernel
theorem dX5_busyComparers_104 : decode cX5_busyComparers 104 = .ok (.aload_n 0, 1) := by decide +kernel
theorem dX5_busyComparers_105 : decode cX5_busyComparers 105 = .ok (.getfield 10, 3) := by decide +kernel
theorem dX5_busyComparers_108 : decode cX5_busyComparers 108 = .ok (.iload 4, 2) := by decide +kernel
theorem dX5_busyComparers_110 : decode cX5_busyComparers 110 = .ok (.invokevirtual 97, 3) := by decide +kernel
theorem dX5_busyComparers_113 : decode cX5_busyComparers 113 = .ok (.aload_n 0, 1) := by decide +kernel
theorem dX5_busyComparers_114 : decode cX5_busyComparers 114 = .ok (.getfield 10, 3) := by decide +kernel
theorem dX5_busyComparers_117 : decode cX5_busyComparers 117 = .ok (.iload 4, 2) := by decide +kernel
theorem dX5_busyComparers_119 : decode cX5_busyComparers 119 = .ok (.invokevirtual 100, 3) := by decide +kernel
theorem dX5_busyComparers_122 : decode cX5_busyComparers 122 = .ok (.invokevirtual 271, 3) := by decide +kernel
theorem dX5_busyComparers_125 : decode cX5_busyComparers 125 = .ok (.iinc 4 1, 3) := by decide +kernel
theorem dX5_busyComparers_128 : decode cX5_busyComparers 128 = .ok (.goto (-92), 3) := by decide +kernel
theorem dX5_busyComparers_131 : decode cX5_busyComparers 131 = .ok (.iinc 3 1, 3) := by decide +kernel
theorem dX5_busyComparers_134 : decode cX5_busyComparers 134 = .ok (.goto (-130), 3) := by decide +kernel
theorem dX5_busyComparers_137 : decode cX5_busyComparers 137 = .ok (.lload_n 1, 1) := by decide +kernel
theorem dX5_busyComparers_138 : decode cX5_busyComparers 138 = .ok (.lreturn, 1) := by decide +kernel
set_option maxRecDepth 20000 in
theorem ggX5_findCompletion_X4_start : GoodIn wsX5_findCompletion wsX4_start := goodIn_r _ [9, 10, 11, 12, 13, 14, 8, 15, 16, 93, 94] (by decide +kernel) (by decide +kernel)
set_option maxRecDepth 20000 in
theorem gX5_findCompletion_X4_start : GoodIn wsX5_findCompletion (wsV RX5 176 RX4 yX4_start wsX4_start) := goodIn_app (goodIn_of _ (by decide +kernel)) ggX5_findCompletion_X4_start
set_option maxRecDepth 20000 in
theorem ggX5_findCompletion_X4_pass : GoodIn wsX5_findCompletion wsX4_pass := goodIn_r _ [20, 21, 22, 23, 24, 25, 26, 27, 28, 29, 30, 31, 32, 33, 34, 35, 36, 37, 38, 39, 40, 41, 42, 43, 44, 45, 46, 8, 47, 12, 48, 49, 50, 51, 10, 11, 90, 91, 92, 93, 94] (by decide +kernel) (by decide +kernel)
set_option maxRecDepth 20000 in
theorem gX5_findCompletion_X4_pass : GoodIn wsX5_findCompletion (wsV RX5 179 RX4 yX4_pass wsX4_pass) := goodIn_app (goodIn_of _ (by decide +kernel)) ggX5_findCompletion_X4_pass
set_option maxRecDepth 20000 in
theorem ggX5_findCompletion_X4_packed : GoodIn wsX5_findCompletion wsX4_packed := goodIn_r _ [55, 12, 93, 94] (by decide +kernel) (by decide +kernel)
set_option maxRecDepth 20000 in
theorem gX5_findCompletion_X4_packed : GoodIn wsX5_findCompletion (wsV RX5 290 RX4 yX4_packed wsX4_packed) := goodIn_app (goodIn_of _ (by decide +kernel)) ggX5_findCompletion_X4_packed
set_option maxRecDepth 20000 in
theorem ggX5_findCompletion_X0_find : GoodIn wsX5_findCompletion wsX0_find := goodIn_r _ [60, 61, 62, 63, 64, 65, 66, 59, 67, 68, 69, 70, 71, 72, 73, 74, 75, 76, 77, 78, 95, 96, 97, 98] (by decide +kernel) (by decide +kernel)
set_option maxRecDepth 20000 in
theorem gX5_findCompletion_X0_find : GoodIn wsX5_findCompletion (wsV RX5 294 RX0 yX0_find wsX0_find) := goodIn_app (goodIn_of _ (by decide +kernel)) ggX5_findCompletion_X0_find
theorem dX5_findCompletion_0 : decode cX5_findCompletion 0 = .ok (.aload_n 0, 1) := by decide +kernel
theorem dX5_findCompletion_1 : decode cX5_findCompletion 1 = .ok (.getfield 36, 3) := by decide +kernel
theorem dX5_findCompletion_4 : decode cX5_findCompletion 4 = .ok (.aload_n 0, 1) := by decide +kernel
theorem dX5_findCompletion_5 : decode cX5_findCompletion 5 = .ok (.getfield 10, 3) := by decide +kernel
theorem dX5_findCompletion_8 : decode cX5_findCompletion 8 = .ok (.getfield 160, 3) := by decide +kernel
theorem dX5_findCompletion_11 : decode cX5_findCompletion 11 = .ok (.iconst 0, 1) := by decide +kernel
theorem dX5_findCompletion_12 : decode cX5_findCompletion 12 = .ok (.invokevirtual 176, 3) := by decide +kernel
theorem dX5_findCompletion_15 : decode cX5_findCompletion 15 = .ok (.aload_n 0, 1) := by decide +kernel
theorem dX5_findCompletion_16 : decode cX5_findCompletion 16 = .ok (.getfield 36, 3) := by decide +kernel
theorem dX5_findCompletion_19 : decode cX5_findCompletion 19 = .ok (.aload_n 0, 1) := by decide +kernel
theorem dX5_findCompletion_20 : decode cX5_findCompletion 20 = .ok (.getfield 10, 3) := by decide +kernel
theorem dX5_findCompletion_23 : decode cX5_findCompletion 23 = .ok (.iconst (-1), 1) := by decide +kernel
theorem dX5_findCompletion_24 : decode cX5_findCompletion 24 = .ok (.invokevirtual 179, 3) := by decide +kernel
theorem dX5_findCompletion_27 : decode cX5_findCompletion 27 = .ok (.aload_n 0, 1) := by decide +kernel
theorem dX5_findCompletion_28 : decode cX5_findCompletion 28 = .ok (.getfield 46, 3) := by decide +kernel
theorem dX5_findCompletion_31 : decode cX5_findCompletion 31 = .ok (.aload_n 0, 1) := by decide +kernel
theorem dX5_findCompletion_32 : decode cX5_findCompletion 32 = .ok (.getfield 10, 3) := by decide +kernel
theorem dX5_findCompletion_35 : decode cX5_findCompletion 35 = .ok (.getfield 160, 3) := by decide +kernel
theorem dX5_findCompletion_38 : decode cX5_findCompletion 38 = .ok (.aload_n 0, 1) := by decide +kernel
theorem dX5_findCompletion_39 : decode cX5_findCompletion 39 = .ok (.getfield 36, 3) := by decide +kernel
theorem dX5_findCompletion_42 : decode cX5_findCompletion 42 = .ok (.aload_n 0, 1) := by decide +kernel
theorem dX5_findCompletion_43 : decode cX5_findCompletion 43 = .ok (.getfield 10, 3) := by decide +kernel
theorem dX5_findCompletion_46 : decode cX5_findCompletion 46 = .ok (.getfield 160, 3) := by decide +kernel
theorem dX5_findCompletion_49 : decode cX5_findCompletion 49 = .ok (.invokevirtual 290, 3) := by decide +kernel
theorem dX5_findCompletion_52 : decode cX5_findCompletion 52 = .ok (.invokevirtual 294, 3) := by decide +kernel
theorem dX5_findCompletion_55 : decode cX5_findCompletion 55 = .ok (.return_, 1) := by decide +kernel
theorem dX6_init_0 : decode cX6_init 0 = .ok (.aload_n 0, 1) := by decide +kernel
theorem dX6_init_1 : decode cX6_init 1 = .ok (.invokespecial 1, 3) := by decide +kernel
theorem dX6_init_4 : decode cX6_init 4 = .ok (.aload_n 0, 1) := by decide +kernel
theorem dX6_init_5 : decode cX6_init 5 = .ok (.iconst 2, 1) := by decide +kernel
theorem dX6_init_6 : decode cX6_init 6 = .ok (.putfield 7, 3) := by decide +kernel
theorem dX6_init_9 : decode cX6_init 9 = .ok (.aload_n 0, 1) := by decide +kernel
theorem dX6_init_10 : decode cX6_init 10 = .ok (.bipush 40, 2) := by decide +kernel
theorem dX6_init_12 : decode cX6_init 12 = .ok (.newarray .int, 2) := by decide +kernel
theorem dX6_init_14 : decode cX6_init 14 = .ok (.putfield 13, 3) := by decide +kernel
theorem dX6_init_17 : decode cX6_init 17 = .ok (.aload_n 0, 1) := by decide +kernel
theorem dX6_init_18 : decode cX6_init 18 = .ok (.bipush 40, 2) := by decide +kernel
theorem dX6_init_20 : decode cX6_init 20 = .ok (.newarray .int, 2) := by decide +kernel
theorem dX6_init_22 : decode cX6_init 22 = .ok (.putfield 17, 3) := by decide +kernel
theorem dX6_init_25 : decode cX6_init 25 = .ok (.aload_n 0, 1) := by decide +kernel
theorem dX6_init_26 : decode cX6_init 26 = .ok (.bipush 40, 2) := by decide +kernel
theorem dX6_init_28 : decode cX6_init 28 = .ok (.newarray .int, 2) := by decide +kernel
theorem dX6_init_30 : decode cX6_init 30 = .ok (.putfield 20, 3) := by decide +kernel
theorem dX6_init_33 : decode cX6_init 33 = .ok (.aload_n 0, 1) := by decide +kernel
theorem dX6_init_34 : decode cX6_init 34 = .ok (.bipush 40, 2) := by decide +kernel
theorem dX6_init_36 : decode cX6_init 36 = .ok (.newarray .boolean, 2) := by decide +kernel
theorem dX6_init_38 : decode cX6_init 38 = .ok (.putfield 23, 3) := by decide +kernel
theorem dX6_init_41 : decode cX6_init 41 = .ok (.aload_n 0, 1) := by decide +kernel
theorem dX6_init_42 : decode cX6_init 42 = .ok (.bipush 30, 2) := by decide +kernel
theorem dX6_init_44 : decode cX6_init 44 = .ok (.newarray .int, 2) := by decide +kernel
theorem dX6_init_46 : decode cX6_init 46 = .ok (.putfield 27, 3) := by decide +kernel
theorem dX6_init_49 : decode cX6_init 49 = .ok (.aload_n 0, 1) := by decide +kernel
theorem dX6_init_50 : decode cX6_init 50 = .ok (.bipush 30, 2) := by decide +kernel
theorem dX6_init_52 : decode cX6_init 52 = .ok (.newarray .int, 2) := by decide +kernel
theorem dX6_init_54 : decode cX6_init 54 = .ok (.putfield 30, 3) := by decide +kernel
theorem dX6_init_57 : decode cX6_init 57 = .ok (.aload_n 0, 1) := by decide +kernel
theorem dX6_init_58 : decode cX6_init 58 = .ok (.sipush 1200, 3) := by decide +kernel
theorem dX6_init_61 : decode cX6_init 61 = .ok (.newarray .int, 2) := by decide +kernel
theorem dX6_init_63 : decode cX6_init 63 = .ok (.putfield 33, 3) := by decide +kernel
theorem dX6_init_66 : decode cX6_init 66 = .ok (.aload_n 0, 1) := by decide +kernel
theorem dX6_init_67 : decode cX6_init 67 = .ok (.sipush 1200, 3) := by decide +kernel
theorem dX6_init_70 : decode cX6_init 70 = .ok (.newarray .int, 2) := by decide +kernel
theorem dX6_init_72 : decode cX6_init 72 = .ok (.putfield 36, 3) := by decide +kernel
theorem dX6_init_75 : decode cX6_init 75 = .ok (.aload_n 0, 1) := by decide +kernel
theorem dX6_init_76 : decode cX6_init 76 = .ok (.sipush 1200, 3) := by decide +kernel
theorem dX6_init_79 : decode cX6_init 79 = .ok (.newarray .int, 2) := by decide +kernel
theorem dX6_init_81 : decode cX6_init 81 = .ok (.putfield 39, 3) := by decide +kernel
theorem dX6_init_84 : decode cX6_init 84 = .ok (.aload_n 0, 1) := by decide +kernel
theorem dX6_init_85 : decode cX6_init 85 = .ok (.sipush 1200, 3) := by decide +kernel
theorem dX6_init_88 : decode cX6_init 88 = .ok (.newarray .boolean, 2) := by decide +kernel
theorem dX6_init_90 : decode cX6_init 90 = .ok (.putfield 42, 3) := by decide +kernel
theorem dX6_init_93 : decode cX6_init 93 = .ok (.aload_n 0, 1) := by decide +kernel
theorem dX6_init_94 : decode cX6_init 94 = .ok (.bipush 6, 2) := by decide +kernel
theorem dX6_init_96 : decode cX6_init 96 = .ok (.newarray .int, 2) := by decide +kernel
theorem dX6_init_98 : decode cX6_init 98 = .ok (.putfield 45, 3) := by decide +kernel
theorem dX6_init_101 : decode cX6_init 101 = .ok (.aload_n 0, 1) := by decide +kernel
theorem dX6_init_102 : decode cX6_init 102 = .ok (.bipush 6, 2) := by decide +kernel
theorem dX6_init_104 : decode cX6_init 104 = .ok (.newarray .int, 2) := by decide +kernel
theorem dX6_init_106 : decode cX6_init 106 = .ok (.putfield 48, 3) := by decide +kernel
theorem dX6_init_109 : decode cX6_init 109 = .ok (.aload_n 0, 1) := by decide +kernel
theorem dX6_init_110 : decode cX6_init 110 = .ok (.bipush 72, 2) := by decide +kernel
theorem dX6_init_112 : decode cX6_init 112 = .ok (.newarray .long, 2) := by decide +kernel
theorem dX6_init_114 : decode cX6_init 114 = .ok (.putfield 51, 3) := by decide +kernel
theorem dX6_init_117 : decode cX6_init 117 = .ok (.aload_n 0, 1) := by decide +kernel
theorem dX6_init_118 : decode cX6_init 118 = .ok (.bipush 80, 2) := by decide +kernel
theorem dX6_init_120 : decode cX6_init 120 = .ok (.newarray .int, 2) := by decide +kernel
theorem dX6_init_122 : decode cX6_init 122 = .ok (.putfield 55, 3) := by decide +kernel
theorem dX6_init_125 : decode cX6_init 125 = .ok (.aload_n 0, 1) := by decide +kernel
theorem dX6_init_126 : decode cX6_init 126 = .ok (.bipush 40, 2) := by decide +kernel
theorem dX6_init_128 : decode cX6_init 128 = .ok (.newarray .int, 2) := by decide +kernel
theorem dX6_init_130 : decode cX6_init 130 = .ok (.putfield 58, 3) := by decide +kernel
theorem dX6_init_133 : decode cX6_init 133 = .ok (.aload_n 0, 1) := by decide +kernel
theorem dX6_init_134 : decode cX6_init 134 = .ok (.bipush 12, 2) := by decide +kernel
theorem dX6_init_136 : decode cX6_init 136 = .ok (.newarray .long, 2) := by decide +kernel
theorem dX6_init_138 : decode cX6_init 138 = .ok (.putfield 61, 3) := by decide +kernel
theorem dX6_init_141 : decode cX6_init 141 = .ok (.aload_n 0, 1) := by decide +kernel
theorem dX6_init_142 : decode cX6_init 142 = .ok (.bipush 40, 2) := by decide +kernel
theorem dX6_init_144 : decode cX6_init 144 = .ok (.newarray .boolean, 2) := by decide +kernel
theorem dX6_init_146 : decode cX6_init 146 = .ok (.putfield 64, 3) := by decide +kernel
theorem dX6_init_149 : decode cX6_init 149 = .ok (.aload_n 0, 1) := by decide +kernel
theorem dX6_init_150 : decode cX6_init 150 = .ok (.bipush 8, 2) := by decide +kernel
theorem dX6_init_152 : decode cX6_init 152 = .ok (.newarray .int, 2) := by decide +kernel
theorem dX6_init_154 : decode cX6_init 154 = .ok (.putfield 67, 3) := by decide +kernel
theorem dX6_init_157 : decode cX6_init 157 = .ok (.aload_n 0, 1) := by decide +kernel
theorem dX6_init_158 : decode cX6_init 158 = .ok (.bipush 10, 2) := by decide +kernel
theorem dX6_init_160 : decode cX6_init 160 = .ok (.newarray .int, 2) := by decide +kernel
theorem dX6_init_162 : decode cX6_init 162 = .ok (.putfield 70, 3) := by decide +kernel
theorem dX6_init_165 : decode cX6_init 165 = .ok (.aload_n 0, 1) := by decide +kernel
theorem dX6_init_166 : decode cX6_init 166 = .ok (.sipush 256, 3) := by decide +kernel
theorem dX6_init_169 : decode cX6_init 169 = .ok (.newarray .int, 2) := by decide +kernel
theorem dX6_init_171 : decode cX6_init 171 = .ok (.putfield 73, 3) := by decide +kernel
theorem dX6_init_174 : decode cX6_init 174 = .ok (.return_, 1) := by decide +kernel
theorem dX6_in_0 : decode cX6_in 0 = .ok (.iload_n 0, 1) := by decide +kernel
theorem dX6_in_1 : decode cX6_in 1 = .ok (.iload_n 1, 1) := by decide +kernel
theorem dX6_in_2 : decode cX6_in 2 = .ok (.if_icmp .lt 12, 3) := by decide +kernel
theorem dX6_in_5 : decode cX6_in 5 = .ok (.iload_n 0, 1) := by decide +kernel
theorem dX6_in_6 : decode cX6_in 6 = .ok (.iload_n 2, 1) := by decide +kernel
theorem dX6_in_7 : decode cX6_in 7 = .ok (.if_icmp .gt 7, 3) := by decide +kernel
theorem dX6_in_10 : decode cX6_in 10 = .ok (.iconst 1, 1) := by decide +kernel
theorem dX6_in_11 : decode cX6_in 11 = .ok (.goto 4, 3) := by decide +kernel
theorem dX6_in_14 : decode cX6_in 14 = .ok (.iconst 0, 1) := by decide +kernel
theorem dX6_in_15 : decode cX6_in 15 = .ok (.ireturn, 1) := by decide +kernel
theorem dX6_found_0 : decode cX6_found 0 = .ok (.aload_n 0, 1) := by decide +kernel
theorem dX6_found_1 : decode cX6_found 1 = .ok (.dup, 1) := by decide +kernel
theorem dX6_found_2 : decode cX6_found 2 = .ok (.getfield 76, 3) := by decide +kernel
theorem dX6_found_5 : decode cX6_found 5 = .ok (.iconst 1, 1) := by decide +kernel
theorem dX6_found_6 : decode cX6_found 6 = .ok (.iadd, 1) := by decide +kernel
theorem dX6_found_7 : decode cX6_found 7 = .ok (.putfield 76, 3) := by decide +kernel
theorem dX6_found_10 : decode cX6_found 10 = .ok (.iload_n 1, 1) := by decide +kernel
theorem dX6_found_11 : decode cX6_found 11 = .ok (.ireturn, 1) := by decide +kernel
set_option maxRecDepth 20000 in
theorem ggX6_isComparer_X6_in : GoodIn wsX6_isComparer wsX6_in := goodIn_r _ [5] (by decide +kernel) (by decide +kernel)
set_option maxRecDepth 20000 in
theorem gX6_isComparer_X6_in : GoodIn wsX6_isComparer (va_wsS RX6 82 yX6_in wsX6_in) := goodIn_app (goodIn_of _ (by decide +kernel)) ggX6_isComparer_X6_in
theorem dX6_isComparer_0 : decode cX6_isComparer 0 = .ok (.iload_n 1, 1) := by decide +kernel
theorem dX6_isComparer_1 : decode cX6_isComparer 1 = .ok (.iconst 0, 1) := by decide +kernel
theorem dX6_isComparer_2 : decode cX6_isComparer 2 = .ok (.aload_n 0, 1) := by decide +kernel
theorem dX6_isComparer_3 : decode cX6_isComparer 3 = .ok (.getfield 79, 3) := by decide +kernel
theorem dX6_isComparer_6 : decode cX6_isComparer 6 = .ok (.iconst 1, 1) := by decide +kernel
theorem dX6_isComparer_7 : decode cX6_isComparer 7 = .ok (.isub, 1) := by decide +kernel
theorem dX6_isComparer_8 : decode cX6_isComparer 8 = .ok (.invokestatic 82, 3) := by decide +kernel
theorem dX6_isComparer_11 : decode cX6_isComparer 11 = .ok (.ireturn, 1) := by decide +kernel
set_option maxRecDepth 20000 in
theorem ggX6_isLane_X6_in : GoodIn wsX6_isLane wsX6_in := goodIn_r _ [5] (by decide +kernel) (by decide +kernel)
set_option maxRecDepth 20000 in
theorem gX6_isLane_X6_in : GoodIn wsX6_isLane (va_wsS RX6 82 yX6_in wsX6_in) := goodIn_app (goodIn_of _ (by decide +kernel)) ggX6_isLane_X6_in
theorem dX6_isLane_0 : decode cX6_isLane 0 = .ok (.iload_n 1, 1) := by decide +kernel
theorem dX6_isLane_1 : decode cX6_isLane 1 = .ok (.iconst 0, 1) := by decide +kernel
theorem dX6_isLane_2 : decode cX6_isLane 2 = .ok (.aload_n 0, 1) := by decide +kernel
theorem dX6_isLane_3 : decode cX6_isLane 3 = .ok (.getfield 7, 3) := by decide +kernel
theorem dX6_isLane_6 : decode cX6_isLane 6 = .ok (.iconst 1, 1) := by decide +kernel
theorem dX6_isLane_7 : decode cX6_isLane 7 = .ok (.isub, 1) := by decide +kernel
theorem dX6_isLane_8 : decode cX6_isLane 8 = .ok (.invokestatic 82, 3) := by decide +kernel
theorem dX6_isLane_11 : decode cX6_isLane 11 = .ok (.ireturn, 1) := by decide +kernel
theorem dX6_store_0 : decode cX6_store 0 = .ok (.aload_n 0, 1) := by decide +kernel
theorem dX6_store_1 : decode cX6_store 1 = .ok (.getfield 27, 3) := by decide +kernel
theorem dX6_store_4 : decode cX6_store 4 = .ok (.iload_n 1, 1) := by decide +kernel
theorem dX6_store_5 : decode cX6_store 5 = .ok (.aload_n 0, 1) := by decide +kernel
