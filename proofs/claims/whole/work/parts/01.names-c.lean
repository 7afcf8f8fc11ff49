theorem dX5_comparer_41 : decode cX5_comparer 41 = .ok (.bipush (-3), 2) := by decide +kernel
theorem dX5_comparer_43 : decode cX5_comparer 43 = .ok (.invokevirtual 69, 3) := by decide +kernel
theorem dX5_comparer_46 : decode cX5_comparer 46 = .ok (.ireturn, 1) := by decide +kernel
theorem dX5_comparer_47 : decode cX5_comparer 47 = .ok (.aload_n 0, 1) := by decide +kernel
theorem dX5_comparer_48 : decode cX5_comparer 48 = .ok (.getfield 10, 3) := by decide +kernel
theorem dX5_comparer_51 : decode cX5_comparer 51 = .ok (.getfield 77, 3) := by decide +kernel
theorem dX5_comparer_54 : decode cX5_comparer 54 = .ok (.bipush 40, 2) := by decide +kernel
theorem dX5_comparer_56 : decode cX5_comparer 56 = .ok (.if_icmp .lt 10, 3) := by decide +kernel
theorem dX5_comparer_59 : decode cX5_comparer 59 = .ok (.aload_n 0, 1) := by decide +kernel
theorem dX5_comparer_60 : decode cX5_comparer 60 = .ok (.bipush (-5), 2) := by decide +kernel
theorem dX5_comparer_62 : decode cX5_comparer 62 = .ok (.invokevirtual 69, 3) := by decide +kernel
theorem dX5_comparer_65 : decode cX5_comparer 65 = .ok (.ireturn, 1) := by decide +kernel
theorem dX5_comparer_66 : decode cX5_comparer 66 = .ok (.aload_n 0, 1) := by decide +kernel
theorem dX5_comparer_67 : decode cX5_comparer 67 = .ok (.getfield 23, 3) := by decide +kernel
theorem dX5_comparer_70 : decode cX5_comparer 70 = .ok (.aload_n 0, 1) := by decide +kernel
theorem dX5_comparer_71 : decode cX5_comparer 71 = .ok (.getfield 10, 3) := by decide +kernel
theorem dX5_comparer_74 : decode cX5_comparer 74 = .ok (.invokevirtual 73, 3) := by decide +kernel
theorem dX5_comparer_77 : decode cX5_comparer 77 = .ok (.aload_n 0, 1) := by decide +kernel
theorem dX5_comparer_78 : decode cX5_comparer 78 = .ok (.getfield 10, 3) := by decide +kernel
theorem dX5_comparer_81 : decode cX5_comparer 81 = .ok (.iload_n 1, 1) := by decide +kernel
theorem dX5_comparer_82 : decode cX5_comparer 82 = .ok (.iload_n 2, 1) := by decide +kernel
theorem dX5_comparer_83 : decode cX5_comparer 83 = .ok (.iload_n 3, 1) := by decide +kernel
theorem dX5_comparer_84 : decode cX5_comparer 84 = .ok (.invokevirtual 87, 3) := by decide +kernel
theorem dX5_comparer_87 : decode cX5_comparer 87 = .ok (.aload_n 0, 1) := by decide +kernel
theorem dX5_comparer_88 : decode cX5_comparer 88 = .ok (.getfield 10, 3) := by decide +kernel
theorem dX5_comparer_91 : decode cX5_comparer 91 = .ok (.getfield 77, 3) := by decide +kernel
theorem dX5_comparer_94 : decode cX5_comparer 94 = .ok (.ireturn, 1) := by decide +kernel
set_option maxRecDepth 20000 in
theorem ggX5_cut_X5_finding : GoodIn wsX5_cut wsX5_finding := goodIn_r _ [8, 9, 34, 35, 36, 37, 38, 39, 40, 41, 42, 43, 44] (by decide +kernel) (by decide +kernel)
set_option maxRecDepth 20000 in
theorem gX5_cut_X5_finding : GoodIn wsX5_cut (wsV RX5 69 RX5 yX5_finding wsX5_finding) := goodIn_app (goodIn_of _ (by decide +kernel)) ggX5_cut_X5_finding
set_option maxRecDepth 20000 in
theorem ggX5_cut_X2_remember : GoodIn wsX5_cut wsX2_remember := goodIn_r _ [14, 15, 16, 17, 18, 19, 20, 21, 22, 23, 24, 25, 26, 27, 28, 29, 30, 31, 32, 33, 48, 49, 50, 45, 46, 47] (by decide +kernel) (by decide +kernel)
set_option maxRecDepth 20000 in
theorem gX5_cut_X2_remember : GoodIn wsX5_cut (wsV RX5 73 RX2 yX2_remember wsX2_remember) := goodIn_app (goodIn_of _ (by decide +kernel)) ggX5_cut_X2_remember
theorem dX5_cut_0 : decode cX5_cut 0 = .ok (.iload_n 1, 1) := by decide +kernel
theorem dX5_cut_1 : decode cX5_cut 1 = .ok (.ifCond .lt 14, 3) := by decide +kernel
theorem dX5_cut_4 : decode cX5_cut 4 = .ok (.iload_n 1, 1) := by decide +kernel
theorem dX5_cut_5 : decode cX5_cut 5 = .ok (.aload_n 0, 1) := by decide +kernel
theorem dX5_cut_6 : decode cX5_cut 6 = .ok (.getfield 10, 3) := by decide +kernel
theorem dX5_cut_9 : decode cX5_cut 9 = .ok (.getfield 77, 3) := by decide +kernel
theorem dX5_cut_12 : decode cX5_cut 12 = .ok (.if_icmp .le 9, 3) := by decide +kernel
theorem dX5_cut_15 : decode cX5_cut 15 = .ok (.aload_n 0, 1) := by decide +kernel
theorem dX5_cut_16 : decode cX5_cut 16 = .ok (.iconst (-1), 1) := by decide +kernel
theorem dX5_cut_17 : decode cX5_cut 17 = .ok (.invokevirtual 69, 3) := by decide +kernel
theorem dX5_cut_20 : decode cX5_cut 20 = .ok (.ireturn, 1) := by decide +kernel
theorem dX5_cut_21 : decode cX5_cut 21 = .ok (.aload_n 0, 1) := by decide +kernel
theorem dX5_cut_22 : decode cX5_cut 22 = .ok (.getfield 23, 3) := by decide +kernel
theorem dX5_cut_25 : decode cX5_cut 25 = .ok (.aload_n 0, 1) := by decide +kernel
theorem dX5_cut_26 : decode cX5_cut 26 = .ok (.getfield 10, 3) := by decide +kernel
theorem dX5_cut_29 : decode cX5_cut 29 = .ok (.invokevirtual 73, 3) := by decide +kernel
theorem dX5_cut_32 : decode cX5_cut 32 = .ok (.aload_n 0, 1) := by decide +kernel
theorem dX5_cut_33 : decode cX5_cut 33 = .ok (.getfield 10, 3) := by decide +kernel
theorem dX5_cut_36 : decode cX5_cut 36 = .ok (.getfield 77, 3) := by decide +kernel
theorem dX5_cut_39 : decode cX5_cut 39 = .ok (.iload_n 1, 1) := by decide +kernel
theorem dX5_cut_40 : decode cX5_cut 40 = .ok (.isub, 1) := by decide +kernel
theorem dX5_cut_41 : decode cX5_cut 41 = .ok (.istore_n 2, 1) := by decide +kernel
theorem dX5_cut_42 : decode cX5_cut 42 = .ok (.aload_n 0, 1) := by decide +kernel
theorem dX5_cut_43 : decode cX5_cut 43 = .ok (.getfield 10, 3) := by decide +kernel
theorem dX5_cut_46 : decode cX5_cut 46 = .ok (.iload_n 1, 1) := by decide +kernel
theorem dX5_cut_47 : decode cX5_cut 47 = .ok (.putfield 77, 3) := by decide +kernel
theorem dX5_cut_50 : decode cX5_cut 50 = .ok (.iload_n 2, 1) := by decide +kernel
theorem dX5_cut_51 : decode cX5_cut 51 = .ok (.ireturn, 1) := by decide +kernel
set_option maxRecDepth 20000 in
theorem ggX5_change_X3_has : GoodIn wsX5_change wsX3_has := goodIn_r _ [7, 8, 67, 68, 69] (by decide +kernel) (by decide +kernel)
set_option maxRecDepth 20000 in
theorem gX5_change_X3_has : GoodIn wsX5_change (wsV RX5 91 RX3 yX3_has wsX3_has) := goodIn_app (goodIn_of _ (by decide +kernel)) ggX5_change_X3_has
set_option maxRecDepth 20000 in
theorem ggX5_change_X5_isKind : GoodIn wsX5_change wsX5_isKind := goodIn_r _ [12] (by decide +kernel) (by decide +kernel)
set_option maxRecDepth 20000 in
theorem gX5_change_X5_isKind : GoodIn wsX5_change (va_wsS RX5 80 yX5_isKind wsX5_isKind) := goodIn_app (goodIn_of _ (by decide +kernel)) ggX5_change_X5_isKind
set_option maxRecDepth 20000 in
theorem ggX5_change_X5_finding : GoodIn wsX5_change wsX5_finding := goodIn_r _ [16, 17, 56, 57, 58, 59, 60, 61, 62, 63, 64, 65, 66] (by decide +kernel) (by decide +kernel)
set_option maxRecDepth 20000 in
theorem gX5_change_X5_finding : GoodIn wsX5_change (wsV RX5 69 RX5 yX5_finding wsX5_finding) := goodIn_app (goodIn_of _ (by decide +kernel)) ggX5_change_X5_finding
set_option maxRecDepth 20000 in
theorem ggX5_change_X2_remember : GoodIn wsX5_change wsX2_remember := goodIn_r _ [22, 23, 24, 25, 26, 27, 28, 29, 30, 31, 32, 6, 33, 34, 8, 35, 36, 37, 38, 39, 70, 71, 72, 67, 68, 69] (by decide +kernel) (by decide +kernel)
set_option maxRecDepth 20000 in
theorem gX5_change_X2_remember : GoodIn wsX5_change (wsV RX5 73 RX2 yX2_remember wsX2_remember) := goodIn_app (goodIn_of _ (by decide +kernel)) ggX5_change_X2_remember
set_option maxRecDepth 20000 in
theorem ggX5_change_X3_kind : GoodIn wsX5_change wsX3_kind := goodIn_r _ [43, 35, 67, 68, 69] (by decide +kernel) (by decide +kernel)
set_option maxRecDepth 20000 in
theorem gX5_change_X3_kind : GoodIn wsX5_change (wsV RX5 94 RX3 yX3_kind wsX3_kind) := goodIn_app (goodIn_of _ (by decide +kernel)) ggX5_change_X3_kind
set_option maxRecDepth 20000 in
theorem ggX5_change_X3_low : GoodIn wsX5_change wsX3_low := goodIn_r _ [47, 35, 67, 68, 69] (by decide +kernel) (by decide +kernel)
set_option maxRecDepth 20000 in
theorem gX5_change_X3_low : GoodIn wsX5_change (wsV RX5 97 RX3 yX3_low wsX3_low) := goodIn_app (goodIn_of _ (by decide +kernel)) ggX5_change_X3_low
set_option maxRecDepth 20000 in
theorem ggX5_change_X3_high : GoodIn wsX5_change wsX3_high := goodIn_r _ [51, 35, 67, 68, 69] (by decide +kernel) (by decide +kernel)
set_option maxRecDepth 20000 in
theorem gX5_change_X3_high : GoodIn wsX5_change (wsV RX5 100 RX3 yX3_high wsX3_high) := goodIn_app (goodIn_of _ (by decide +kernel)) ggX5_change_X3_high
set_option maxRecDepth 20000 in
theorem ggX5_change_X3_write : GoodIn wsX5_change wsX3_write := goodIn_r _ [55, 35, 67, 68, 69] (by decide +kernel) (by decide +kernel)
set_option maxRecDepth 20000 in
theorem gX5_change_X3_write : GoodIn wsX5_change (wsV RX5 103 RX3 yX3_write wsX3_write) := goodIn_app (goodIn_of _ (by decide +kernel)) ggX5_change_X3_write
theorem dX5_change_0 : decode cX5_change 0 = .ok (.aload_n 0, 1) := by decide +kernel
theorem dX5_change_1 : decode cX5_change 1 = .ok (.getfield 10, 3) := by decide +kernel
theorem dX5_change_4 : decode cX5_change 4 = .ok (.iload_n 1, 1) := by decide +kernel
theorem dX5_change_5 : decode cX5_change 5 = .ok (.invokevirtual 91, 3) := by decide +kernel
theorem dX5_change_8 : decode cX5_change 8 = .ok (.ifCond .eq 10, 3) := by decide +kernel
theorem dX5_change_11 : decode cX5_change 11 = .ok (.iload_n 2, 1) := by decide +kernel
theorem dX5_change_12 : decode cX5_change 12 = .ok (.invokestatic 80, 3) := by decide +kernel
theorem dX5_change_15 : decode cX5_change 15 = .ok (.ifCond .ne 9, 3) := by decide +kernel
theorem dX5_change_18 : decode cX5_change 18 = .ok (.aload_n 0, 1) := by decide +kernel
theorem dX5_change_19 : decode cX5_change 19 = .ok (.iconst (-1), 1) := by decide +kernel
theorem dX5_change_20 : decode cX5_change 20 = .ok (.invokevirtual 69, 3) := by decide +kernel
theorem dX5_change_23 : decode cX5_change 23 = .ok (.ireturn, 1) := by decide +kernel
theorem dX5_change_24 : decode cX5_change 24 = .ok (.aload_n 0, 1) := by decide +kernel
theorem dX5_change_25 : decode cX5_change 25 = .ok (.getfield 23, 3) := by decide +kernel
theorem dX5_change_28 : decode cX5_change 28 = .ok (.aload_n 0, 1) := by decide +kernel
theorem dX5_change_29 : decode cX5_change 29 = .ok (.getfield 10, 3) := by decide +kernel
theorem dX5_change_32 : decode cX5_change 32 = .ok (.invokevirtual 73, 3) := by decide +kernel
theorem dX5_change_35 : decode cX5_change 35 = .ok (.aload_n 0, 1) := by decide +kernel
theorem dX5_change_36 : decode cX5_change 36 = .ok (.getfield 10, 3) := by decide +kernel
theorem dX5_change_39 : decode cX5_change 39 = .ok (.iload_n 1, 1) := by decide +kernel
theorem dX5_change_40 : decode cX5_change 40 = .ok (.invokevirtual 94, 3) := by decide +kernel
theorem dX5_change_43 : decode cX5_change 43 = .ok (.istore_n 3, 1) := by decide +kernel
theorem dX5_change_44 : decode cX5_change 44 = .ok (.aload_n 0, 1) := by decide +kernel
theorem dX5_change_45 : decode cX5_change 45 = .ok (.getfield 10, 3) := by decide +kernel
theorem dX5_change_48 : decode cX5_change 48 = .ok (.iload_n 1, 1) := by decide +kernel
theorem dX5_change_49 : decode cX5_change 49 = .ok (.iload_n 2, 1) := by decide +kernel
theorem dX5_change_50 : decode cX5_change 50 = .ok (.aload_n 0, 1) := by decide +kernel
theorem dX5_change_51 : decode cX5_change 51 = .ok (.getfield 10, 3) := by decide +kernel
theorem dX5_change_54 : decode cX5_change 54 = .ok (.iload_n 1, 1) := by decide +kernel
theorem dX5_change_55 : decode cX5_change 55 = .ok (.invokevirtual 97, 3) := by decide +kernel
theorem dX5_change_58 : decode cX5_change 58 = .ok (.aload_n 0, 1) := by decide +kernel
theorem dX5_change_59 : decode cX5_change 59 = .ok (.getfield 10, 3) := by decide +kernel
theorem dX5_change_62 : decode cX5_change 62 = .ok (.iload_n 1, 1) := by decide +kernel
theorem dX5_change_63 : decode cX5_change 63 = .ok (.invokevirtual 100, 3) := by decide +kernel
theorem dX5_change_66 : decode cX5_change 66 = .ok (.invokevirtual 103, 3) := by decide +kernel
theorem dX5_change_69 : decode cX5_change 69 = .ok (.iload_n 3, 1) := by decide +kernel
theorem dX5_change_70 : decode cX5_change 70 = .ok (.ireturn, 1) := by decide +kernel
set_option maxRecDepth 20000 in
theorem ggX5_turnSwitch_X3_has : GoodIn wsX5_turnSwitch wsX3_has := goodIn_r _ [7, 8, 60, 61, 62] (by decide +kernel) (by decide +kernel)
set_option maxRecDepth 20000 in
theorem gX5_turnSwitch_X3_has : GoodIn wsX5_turnSwitch (wsV RX5 91 RX3 yX3_has wsX3_has) := goodIn_app (goodIn_of _ (by decide +kernel)) ggX5_turnSwitch_X3_has
set_option maxRecDepth 20000 in
theorem ggX5_turnSwitch_X5_finding : GoodIn wsX5_turnSwitch wsX5_finding := goodIn_r _ [13, 14, 49, 50, 51, 52, 53, 54, 55, 56, 57, 58, 59] (by decide +kernel) (by decide +kernel)
set_option maxRecDepth 20000 in
theorem gX5_turnSwitch_X5_finding : GoodIn wsX5_turnSwitch (wsV RX5 69 RX5 yX5_finding wsX5_finding) := goodIn_app (goodIn_of _ (by decide +kernel)) ggX5_turnSwitch_X5_finding
set_option maxRecDepth 20000 in
theorem ggX5_turnSwitch_X3_kind : GoodIn wsX5_turnSwitch wsX3_kind := goodIn_r _ [18, 19, 60, 61, 62] (by decide +kernel) (by decide +kernel)
set_option maxRecDepth 20000 in
theorem gX5_turnSwitch_X3_kind : GoodIn wsX5_turnSwitch (wsV RX5 94 RX3 yX3_kind wsX3_kind) := goodIn_app (goodIn_of _ (by decide +kernel)) ggX5_turnSwitch_X3_kind
set_option maxRecDepth 20000 in
theorem ggX5_turnSwitch_X2_remember : GoodIn wsX5_turnSwitch wsX2_remember := goodIn_r _ [24, 25, 26, 27, 28, 29, 30, 31, 32, 33, 34, 6, 35, 36, 8, 19, 37, 38, 39, 40, 63, 64, 65, 60, 61, 62] (by decide +kernel) (by decide +kernel)
set_option maxRecDepth 20000 in
theorem gX5_turnSwitch_X2_remember : GoodIn wsX5_turnSwitch (wsV RX5 73 RX2 yX2_remember wsX2_remember) := goodIn_app (goodIn_of _ (by decide +kernel)) ggX5_turnSwitch_X2_remember
set_option maxRecDepth 20000 in
theorem ggX5_turnSwitch_X3_switchOf : GoodIn wsX5_turnSwitch wsX3_switchOf := goodIn_r _ [44, 19, 60, 61, 62] (by decide +kernel) (by decide +kernel)
set_option maxRecDepth 20000 in
theorem gX5_turnSwitch_X3_switchOf : GoodIn wsX5_turnSwitch (wsV RX5 107 RX3 yX3_switchOf wsX3_switchOf) := goodIn_app (goodIn_of _ (by decide +kernel)) ggX5_turnSwitch_X3_switchOf
set_option maxRecDepth 20000 in
theorem ggX5_turnSwitch_X3_setSwitch : GoodIn wsX5_turnSwitch wsX3_setSwitch := goodIn_r _ [48, 19, 60, 61, 62] (by decide +kernel) (by decide +kernel)
set_option maxRecDepth 20000 in
theorem gX5_turnSwitch_X3_setSwitch : GoodIn wsX5_turnSwitch (wsV RX5 110 RX3 yX3_setSwitch wsX3_setSwitch) := goodIn_app (goodIn_of _ (by decide +kernel)) ggX5_turnSwitch_X3_setSwitch
theorem dX5_turnSwitch_0 : decode cX5_turnSwitch 0 = .ok (.aload_n 0, 1) := by decide +kernel
theorem dX5_turnSwitch_1 : decode cX5_turnSwitch 1 = .ok (.getfield 10, 3) := by decide +kernel
theorem dX5_turnSwitch_4 : decode cX5_turnSwitch 4 = .ok (.iload_n 1, 1) := by decide +kernel
theorem dX5_turnSwitch_5 : decode cX5_turnSwitch 5 = .ok (.invokevirtual 91, 3) := by decide +kernel
theorem dX5_turnSwitch_8 : decode cX5_turnSwitch 8 = .ok (.ifCond .ne 9, 3) := by decide +kernel
theorem dX5_turnSwitch_11 : decode cX5_turnSwitch 11 = .ok (.aload_n 0, 1) := by decide +kernel
theorem dX5_turnSwitch_12 : decode cX5_turnSwitch 12 = .ok (.iconst (-1), 1) := by decide +kernel
theorem dX5_turnSwitch_13 : decode cX5_turnSwitch 13 = .ok (.invokevirtual 69, 3) := by decide +kernel
theorem dX5_turnSwitch_16 : decode cX5_turnSwitch 16 = .ok (.ireturn, 1) := by decide +kernel
theorem dX5_turnSwitch_17 : decode cX5_turnSwitch 17 = .ok (.aload_n 0, 1) := by decide +kernel
theorem dX5_turnSwitch_18 : decode cX5_turnSwitch 18 = .ok (.getfield 10, 3) := by decide +kernel
theorem dX5_turnSwitch_21 : decode cX5_turnSwitch 21 = .ok (.iload_n 1, 1) := by decide +kernel
theorem dX5_turnSwitch_22 : decode cX5_turnSwitch 22 = .ok (.invokevirtual 94, 3) := by decide +kernel
theorem dX5_turnSwitch_25 : decode cX5_turnSwitch 25 = .ok (.iconst 4, 1) := by decide +kernel
theorem dX5_turnSwitch_26 : decode cX5_turnSwitch 26 = .ok (.if_icmp .eq 10, 3) := by decide +kernel
theorem dX5_turnSwitch_29 : decode cX5_turnSwitch 29 = .ok (.aload_n 0, 1) := by decide +kernel
theorem dX5_turnSwitch_30 : decode cX5_turnSwitch 30 = .ok (.bipush (-4), 2) := by decide +kernel
theorem dX5_turnSwitch_32 : decode cX5_turnSwitch 32 = .ok (.invokevirtual 69, 3) := by decide +kernel
theorem dX5_turnSwitch_35 : decode cX5_turnSwitch 35 = .ok (.ireturn, 1) := by decide +kernel
theorem dX5_turnSwitch_36 : decode cX5_turnSwitch 36 = .ok (.aload_n 0, 1) := by decide +kernel
theorem dX5_turnSwitch_37 : decode cX5_turnSwitch 37 = .ok (.getfield 23, 3) := by decide +kernel
theorem dX5_turnSwitch_40 : decode cX5_turnSwitch 40 = .ok (.aload_n 0, 1) := by decide +kernel
theorem dX5_turnSwitch_41 : decode cX5_turnSwitch 41 = .ok (.getfield 10, 3) := by decide +kernel
theorem dX5_turnSwitch_44 : decode cX5_turnSwitch 44 = .ok (.invokevirtual 73, 3) := by decide +kernel
theorem dX5_turnSwitch_47 : decode cX5_turnSwitch 47 = .ok (.aload_n 0, 1) := by decide +kernel
theorem dX5_turnSwitch_48 : decode cX5_turnSwitch 48 = .ok (.getfield 10, 3) := by decide +kernel
theorem dX5_turnSwitch_51 : decode cX5_turnSwitch 51 = .ok (.iload_n 1, 1) := by decide +kernel
theorem dX5_turnSwitch_52 : decode cX5_turnSwitch 52 = .ok (.invokevirtual 107, 3) := by decide +kernel
theorem dX5_turnSwitch_55 : decode cX5_turnSwitch 55 = .ok (.istore_n 3, 1) := by decide +kernel
theorem dX5_turnSwitch_56 : decode cX5_turnSwitch 56 = .ok (.aload_n 0, 1) := by decide +kernel
theorem dX5_turnSwitch_57 : decode cX5_turnSwitch 57 = .ok (.getfield 10, 3) := by decide +kernel
theorem dX5_turnSwitch_60 : decode cX5_turnSwitch 60 = .ok (.iload_n 1, 1) := by decide +kernel
theorem dX5_turnSwitch_61 : decode cX5_turnSwitch 61 = .ok (.iload_n 2, 1) := by decide +kernel
theorem dX5_turnSwitch_62 : decode cX5_turnSwitch 62 = .ok (.invokevirtual 110, 3) := by decide +kernel
theorem dX5_turnSwitch_65 : decode cX5_turnSwitch 65 = .ok (.iload_n 3, 1) := by decide +kernel
theorem dX5_turnSwitch_66 : decode cX5_turnSwitch 66 = .ok (.ireturn, 1) := by decide +kernel
set_option maxRecDepth 20000 in
theorem ggX5_as_X3_has : GoodIn wsX5_as wsX3_has := goodIn_r _ [6, 7, 37, 38, 39] (by decide +kernel) (by decide +kernel)
set_option maxRecDepth 20000 in
theorem gX5_as_X3_has : GoodIn wsX5_as (wsV RX5 91 RX3 yX3_has wsX3_has) := goodIn_app (goodIn_of _ (by decide +kernel)) ggX5_as_X3_has
set_option maxRecDepth 20000 in
theorem ggX5_as_X5_isKind : GoodIn wsX5_as wsX5_isKind := goodIn_r _ [11] (by decide +kernel) (by decide +kernel)
set_option maxRecDepth 20000 in
theorem gX5_as_X5_isKind : GoodIn wsX5_as (va_wsS RX5 80 yX5_isKind wsX5_isKind) := goodIn_app (goodIn_of _ (by decide +kernel)) ggX5_as_X5_isKind
set_option maxRecDepth 20000 in
theorem ggX5_as_X5_finding : GoodIn wsX5_as wsX5_finding := goodIn_r _ [15, 16, 26, 27, 28, 29, 30, 31, 32, 33, 34, 35, 36] (by decide +kernel) (by decide +kernel)
set_option maxRecDepth 20000 in
theorem gX5_as_X5_finding : GoodIn wsX5_as (wsV RX5 69 RX5 yX5_finding wsX5_finding) := goodIn_app (goodIn_of _ (by decide +kernel)) ggX5_as_X5_finding
set_option maxRecDepth 20000 in
theorem ggX5_as_X3_kind : GoodIn wsX5_as wsX3_kind := goodIn_r _ [20, 21, 37, 38, 39] (by decide +kernel) (by decide +kernel)
set_option maxRecDepth 20000 in
theorem gX5_as_X3_kind : GoodIn wsX5_as (wsV RX5 94 RX3 yX3_kind wsX3_kind) := goodIn_app (goodIn_of _ (by decide +kernel)) ggX5_as_X3_kind
set_option maxRecDepth 20000 in
theorem ggX5_as_X5_isUnder : GoodIn wsX5_as wsX5_isUnder := goodIn_r _ [24, 25, 8, 9, 10, 11] (by decide +kernel) (by decide +kernel)
set_option maxRecDepth 20000 in
theorem gX5_as_X5_isUnder : GoodIn wsX5_as (va_wsS RX5 114 yX5_isUnder wsX5_isUnder) := goodIn_app (goodIn_of _ (by decide +kernel)) ggX5_as_X5_isUnder
theorem dX5_as_0 : decode cX5_as 0 = .ok (.aload_n 0, 1) := by decide +kernel
theorem dX5_as_1 : decode cX5_as 1 = .ok (.getfield 10, 3) := by decide +kernel
theorem dX5_as_4 : decode cX5_as 4 = .ok (.iload_n 1, 1) := by decide +kernel
theorem dX5_as_5 : decode cX5_as 5 = .ok (.invokevirtual 91, 3) := by decide +kernel
theorem dX5_as_8 : decode cX5_as 8 = .ok (.ifCond .eq 10, 3) := by decide +kernel
theorem dX5_as_11 : decode cX5_as 11 = .ok (.iload_n 2, 1) := by decide +kernel
theorem dX5_as_12 : decode cX5_as 12 = .ok (.invokestatic 80, 3) := by decide +kernel
theorem dX5_as_15 : decode cX5_as 15 = .ok (.ifCond .ne 9, 3) := by decide +kernel
theorem dX5_as_18 : decode cX5_as 18 = .ok (.aload_n 0, 1) := by decide +kernel
theorem dX5_as_19 : decode cX5_as 19 = .ok (.iconst (-1), 1) := by decide +kernel
theorem dX5_as_20 : decode cX5_as 20 = .ok (.invokevirtual 69, 3) := by decide +kernel
theorem dX5_as_23 : decode cX5_as 23 = .ok (.ireturn, 1) := by decide +kernel
theorem dX5_as_24 : decode cX5_as 24 = .ok (.aload_n 0, 1) := by decide +kernel
theorem dX5_as_25 : decode cX5_as 25 = .ok (.getfield 10, 3) := by decide +kernel
theorem dX5_as_28 : decode cX5_as 28 = .ok (.iload_n 1, 1) := by decide +kernel
theorem dX5_as_29 : decode cX5_as 29 = .ok (.invokevirtual 94, 3) := by decide +kernel
theorem dX5_as_32 : decode cX5_as 32 = .ok (.iload_n 2, 1) := by decide +kernel
theorem dX5_as_33 : decode cX5_as 33 = .ok (.invokestatic 114, 3) := by decide +kernel
theorem dX5_as_36 : decode cX5_as 36 = .ok (.ifCond .ne 10, 3) := by decide +kernel
theorem dX5_as_39 : decode cX5_as 39 = .ok (.aload_n 0, 1) := by decide +kernel
theorem dX5_as_40 : decode cX5_as 40 = .ok (.bipush (-4), 2) := by decide +kernel
theorem dX5_as_42 : decode cX5_as 42 = .ok (.invokevirtual 69, 3) := by decide +kernel
theorem dX5_as_45 : decode cX5_as 45 = .ok (.ireturn, 1) := by decide +kernel
theorem dX5_as_46 : decode cX5_as 46 = .ok (.iload_n 1, 1) := by decide +kernel
theorem dX5_as_47 : decode cX5_as 47 = .ok (.ireturn, 1) := by decide +kernel
set_option maxRecDepth 20000 in
theorem ggX5_of_X3_has : GoodIn wsX5_of wsX3_has := goodIn_r _ [7, 8, 52, 53, 54] (by decide +kernel) (by decide +kernel)
set_option maxRecDepth 20000 in
theorem gX5_of_X3_has : GoodIn wsX5_of (wsV RX5 91 RX3 yX3_has wsX3_has) := goodIn_app (goodIn_of _ (by decide +kernel)) ggX5_of_X3_has
set_option maxRecDepth 20000 in
theorem ggX5_of_X5_finding : GoodIn wsX5_of wsX5_finding := goodIn_r _ [13, 14, 41, 42, 43, 44, 45, 46, 47, 48, 49, 50, 51] (by decide +kernel) (by decide +kernel)
set_option maxRecDepth 20000 in
theorem gX5_of_X5_finding : GoodIn wsX5_of (wsV RX5 69 RX5 yX5_finding wsX5_finding) := goodIn_app (goodIn_of _ (by decide +kernel)) ggX5_of_X5_finding
set_option maxRecDepth 20000 in
theorem ggX5_of_X3_kind : GoodIn wsX5_of wsX3_kind := goodIn_r _ [18, 19, 52, 53, 54] (by decide +kernel) (by decide +kernel)
set_option maxRecDepth 20000 in
theorem gX5_of_X3_kind : GoodIn wsX5_of (wsV RX5 94 RX3 yX3_kind wsX3_kind) := goodIn_app (goodIn_of _ (by decide +kernel)) ggX5_of_X3_kind
set_option maxRecDepth 20000 in
theorem ggX5_of_X3_low : GoodIn wsX5_of wsX3_low := goodIn_r _ [23, 19, 52, 53, 54] (by decide +kernel) (by decide +kernel)
set_option maxRecDepth 20000 in
theorem gX5_of_X3_low : GoodIn wsX5_of (wsV RX5 97 RX3 yX3_low wsX3_low) := goodIn_app (goodIn_of _ (by decide +kernel)) ggX5_of_X3_low
set_option maxRecDepth 20000 in
theorem ggX5_of_X3_high : GoodIn wsX5_of wsX3_high := goodIn_r _ [27, 19, 52, 53, 54] (by decide +kernel) (by decide +kernel)
set_option maxRecDepth 20000 in
theorem gX5_of_X3_high : GoodIn wsX5_of (wsV RX5 100 RX3 yX3_high wsX3_high) := goodIn_app (goodIn_of _ (by decide +kernel)) ggX5_of_X3_high
set_option maxRecDepth 20000 in
theorem ggX5_of_X5_lastRound : GoodIn wsX5_of wsX5_lastRound := goodIn_r _ [31, 2, 1, 32, 33, 34, 35, 36, 20, 21, 22, 6, 23, 19, 24, 25, 26, 27, 41, 42, 43, 44, 45, 46, 47, 48, 49, 50, 51, 52, 53, 54] (by decide +kernel) (by decide +kernel)
set_option maxRecDepth 20000 in
theorem gX5_of_X5_lastRound : GoodIn wsX5_of (wsV RX5 118 RX5 yX5_lastRound wsX5_lastRound) := goodIn_app (goodIn_of _ (by decide +kernel)) ggX5_of_X5_lastRound
set_option maxRecDepth 20000 in
theorem ggX5_of_X3_switchOf : GoodIn wsX5_of wsX3_switchOf := goodIn_r _ [40, 19, 52, 53, 54] (by decide +kernel) (by decide +kernel)
set_option maxRecDepth 20000 in
theorem gX5_of_X3_switchOf : GoodIn wsX5_of (wsV RX5 107 RX3 yX3_switchOf wsX3_switchOf) := goodIn_app (goodIn_of _ (by decide +kernel)) ggX5_of_X3_switchOf
theorem dX5_of_0 : decode cX5_of 0 = .ok (.aload_n 0, 1) := by decide +kernel
theorem dX5_of_1 : decode cX5_of 1 = .ok (.getfield 10, 3) := by decide +kernel
theorem dX5_of_4 : decode cX5_of 4 = .ok (.iload_n 1, 1) := by decide +kernel
theorem dX5_of_5 : decode cX5_of 5 = .ok (.invokevirtual 91, 3) := by decide +kernel
theorem dX5_of_8 : decode cX5_of 8 = .ok (.ifCond .ne 9, 3) := by decide +kernel
theorem dX5_of_11 : decode cX5_of 11 = .ok (.aload_n 0, 1) := by decide +kernel
theorem dX5_of_12 : decode cX5_of 12 = .ok (.iconst (-1), 1) := by decide +kernel
theorem dX5_of_13 : decode cX5_of 13 = .ok (.invokevirtual 69, 3) := by decide +kernel
theorem dX5_of_16 : decode cX5_of 16 = .ok (.ireturn, 1) := by decide +kernel
theorem dX5_of_17 : decode cX5_of 17 = .ok (.iload_n 2, 1) := by decide +kernel
theorem dX5_of_18 : decode cX5_of 18 = .ok (.tableswitch 92 0 4 #[34, 43, 52, 61, 83], 34) := by decide +kernel
theorem dX5_of_52 : decode cX5_of 52 = .ok (.aload_n 0, 1) := by decide +kernel
theorem dX5_of_53 : decode cX5_of 53 = .ok (.getfield 10, 3) := by decide +kernel
theorem dX5_of_56 : decode cX5_of 56 = .ok (.iload_n 1, 1) := by decide +kernel
theorem dX5_of_57 : decode cX5_of 57 = .ok (.invokevirtual 94, 3) := by decide +kernel
theorem dX5_of_60 : decode cX5_of 60 = .ok (.ireturn, 1) := by decide +kernel
theorem dX5_of_61 : decode cX5_of 61 = .ok (.aload_n 0, 1) := by decide +kernel
theorem dX5_of_62 : decode cX5_of 62 = .ok (.getfield 10, 3) := by decide +kernel
theorem dX5_of_65 : decode cX5_of 65 = .ok (.iload_n 1, 1) := by decide +kernel
theorem dX5_of_66 : decode cX5_of 66 = .ok (.invokevirtual 97, 3) := by decide +kernel
theorem dX5_of_69 : decode cX5_of 69 = .ok (.ireturn, 1) := by decide +kernel
theorem dX5_of_70 : decode cX5_of 70 = .ok (.aload_n 0, 1) := by decide +kernel
theorem dX5_of_71 : decode cX5_of 71 = .ok (.getfield 10, 3) := by decide +kernel
theorem dX5_of_74 : decode cX5_of 74 = .ok (.iload_n 1, 1) := by decide +kernel
theorem dX5_of_75 : decode cX5_of 75 = .ok (.invokevirtual 100, 3) := by decide +kernel
theorem dX5_of_78 : decode cX5_of 78 = .ok (.ireturn, 1) := by decide +kernel
theorem dX5_of_79 : decode cX5_of 79 = .ok (.aload_n 0, 1) := by decide +kernel
theorem dX5_of_80 : decode cX5_of 80 = .ok (.iload_n 1, 1) := by decide +kernel
theorem dX5_of_81 : decode cX5_of 81 = .ok (.iconst 1, 1) := by decide +kernel
theorem dX5_of_82 : decode cX5_of 82 = .ok (.iadd, 1) := by decide +kernel
theorem dX5_of_83 : decode cX5_of 83 = .ok (.invokevirtual 118, 3) := by decide +kernel
theorem dX5_of_86 : decode cX5_of 86 = .ok (.pop, 1) := by decide +kernel
theorem dX5_of_87 : decode cX5_of 87 = .ok (.aload_n 0, 1) := by decide +kernel
theorem dX5_of_88 : decode cX5_of 88 = .ok (.getfield 50, 3) := by decide +kernel
theorem dX5_of_91 : decode cX5_of 91 = .ok (.aload_n 0, 1) := by decide +kernel
theorem dX5_of_92 : decode cX5_of 92 = .ok (.getfield 10, 3) := by decide +kernel
theorem dX5_of_95 : decode cX5_of 95 = .ok (.iload_n 1, 1) := by decide +kernel
theorem dX5_of_96 : decode cX5_of 96 = .ok (.invokevirtual 97, 3) := by decide +kernel
theorem dX5_of_99 : decode cX5_of 99 = .ok (.iaload, 1) := by decide +kernel
theorem dX5_of_100 : decode cX5_of 100 = .ok (.ireturn, 1) := by decide +kernel
theorem dX5_of_101 : decode cX5_of 101 = .ok (.aload_n 0, 1) := by decide +kernel
theorem dX5_of_102 : decode cX5_of 102 = .ok (.getfield 10, 3) := by decide +kernel
theorem dX5_of_105 : decode cX5_of 105 = .ok (.iload_n 1, 1) := by decide +kernel
theorem dX5_of_106 : decode cX5_of 106 = .ok (.invokevirtual 107, 3) := by decide +kernel
theorem dX5_of_109 : decode cX5_of 109 = .ok (.ireturn, 1) := by decide +kernel
theorem dX5_of_110 : decode cX5_of 110 = .ok (.aload_n 0, 1) := by decide +kernel
theorem dX5_of_111 : decode cX5_of 111 = .ok (.iconst (-1), 1) := by decide +kernel
theorem dX5_of_112 : decode cX5_of 112 = .ok (.invokevirtual 69, 3) := by decide +kernel
theorem dX5_of_115 : decode cX5_of 115 = .ok (.ireturn, 1) := by decide +kernel
set_option maxRecDepth 20000 in
theorem ggX5_rounds_X5_lastRound : GoodIn wsX5_rounds wsX5_lastRound := goodIn_r _ [7, 8, 1, 2, 9, 10, 11, 12, 13, 14, 15, 16, 17, 18, 19, 20, 21, 22, 23, 24, 25, 26, 27, 28, 29, 30, 31, 32, 33, 34, 35, 36] (by decide +kernel) (by decide +kernel)
set_option maxRecDepth 20000 in
theorem gX5_rounds_X5_lastRound : GoodIn wsX5_rounds (wsV RX5 118 RX5 yX5_lastRound wsX5_lastRound) := goodIn_app (goodIn_of _ (by decide +kernel)) ggX5_rounds_X5_lastRound
theorem dX5_rounds_0 : decode cX5_rounds 0 = .ok (.aload_n 0, 1) := by decide +kernel
theorem dX5_rounds_1 : decode cX5_rounds 1 = .ok (.aload_n 0, 1) := by decide +kernel
theorem dX5_rounds_2 : decode cX5_rounds 2 = .ok (.getfield 10, 3) := by decide +kernel
theorem dX5_rounds_5 : decode cX5_rounds 5 = .ok (.getfield 77, 3) := by decide +kernel
theorem dX5_rounds_8 : decode cX5_rounds 8 = .ok (.invokevirtual 118, 3) := by decide +kernel
theorem dX5_rounds_11 : decode cX5_rounds 11 = .ok (.ireturn, 1) := by decide +kernel
set_option maxRecDepth 20000 in
theorem ggX5_crate_X5_isCrate : GoodIn wsX5_crate wsX5_isCrate := goodIn_r _ [5] (by decide +kernel) (by decide +kernel)
set_option maxRecDepth 20000 in
theorem gX5_crate_X5_isCrate : GoodIn wsX5_crate (va_wsS RX5 121 yX5_isCrate wsX5_isCrate) := goodIn_app (goodIn_of _ (by decide +kernel)) ggX5_crate_X5_isCrate
set_option maxRecDepth 20000 in
theorem ggX5_crate_X5_finding : GoodIn wsX5_crate wsX5_finding := goodIn_r _ [9, 10, 19, 20, 21, 22, 23, 24, 25, 26, 27, 28, 29] (by decide +kernel) (by decide +kernel)
set_option maxRecDepth 20000 in
theorem gX5_crate_X5_finding : GoodIn wsX5_crate (wsV RX5 69 RX5 yX5_finding wsX5_finding) := goodIn_app (goodIn_of _ (by decide +kernel)) ggX5_crate_X5_finding
set_option maxRecDepth 20000 in
theorem ggX5_crate_X1_renew : GoodIn wsX5_crate wsX1_renew := goodIn_r _ [15, 16, 17, 18, 30, 31, 32] (by decide +kernel) (by decide +kernel)
set_option maxRecDepth 20000 in
theorem gX5_crate_X1_renew : GoodIn wsX5_crate (wsV RX5 124 RX1 yX1_renew wsX1_renew) := goodIn_app (goodIn_of _ (by decide +kernel)) ggX5_crate_X1_renew
theorem dX5_crate_0 : decode cX5_crate 0 = .ok (.iload_n 1, 1) := by decide +kernel
theorem dX5_crate_1 : decode cX5_crate 1 = .ok (.invokestatic 121, 3) := by decide +kernel
theorem dX5_crate_4 : decode cX5_crate 4 = .ok (.ifCond .eq 13, 3) := by decide +kernel
theorem dX5_crate_7 : decode cX5_crate 7 = .ok (.iload_n 2, 1) := by decide +kernel
theorem dX5_crate_8 : decode cX5_crate 8 = .ok (.ifCond .lt 9, 3) := by decide +kernel
theorem dX5_crate_11 : decode cX5_crate 11 = .ok (.iload_n 2, 1) := by decide +kernel
theorem dX5_crate_12 : decode cX5_crate 12 = .ok (.bipush 7, 2) := by decide +kernel
theorem dX5_crate_14 : decode cX5_crate 14 = .ok (.if_icmp .le 9, 3) := by decide +kernel
theorem dX5_crate_17 : decode cX5_crate 17 = .ok (.aload_n 0, 1) := by decide +kernel
theorem dX5_crate_18 : decode cX5_crate 18 = .ok (.iconst (-1), 1) := by decide +kernel
theorem dX5_crate_19 : decode cX5_crate 19 = .ok (.invokevirtual 69, 3) := by decide +kernel
theorem dX5_crate_22 : decode cX5_crate 22 = .ok (.ireturn, 1) := by decide +kernel
theorem dX5_crate_23 : decode cX5_crate 23 = .ok (.iload_n 3, 1) := by decide +kernel
theorem dX5_crate_24 : decode cX5_crate 24 = .ok (.ifCond .ge 10, 3) := by decide +kernel
theorem dX5_crate_27 : decode cX5_crate 27 = .ok (.aload_n 0, 1) := by decide +kernel
theorem dX5_crate_28 : decode cX5_crate 28 = .ok (.bipush (-3), 2) := by decide +kernel
theorem dX5_crate_30 : decode cX5_crate 30 = .ok (.invokevirtual 69, 3) := by decide +kernel
theorem dX5_crate_33 : decode cX5_crate 33 = .ok (.ireturn, 1) := by decide +kernel
theorem dX5_crate_34 : decode cX5_crate 34 = .ok (.iload_n 3, 1) := by decide +kernel
theorem dX5_crate_35 : decode cX5_crate 35 = .ok (.bipush 12, 2) := by decide +kernel
theorem dX5_crate_37 : decode cX5_crate 37 = .ok (.if_icmp .le 9, 3) := by decide +kernel
theorem dX5_crate_40 : decode cX5_crate 40 = .ok (.aload_n 0, 1) := by decide +kernel
theorem dX5_crate_41 : decode cX5_crate 41 = .ok (.iconst (-1), 1) := by decide +kernel
theorem dX5_crate_42 : decode cX5_crate 42 = .ok (.invokevirtual 69, 3) := by decide +kernel
theorem dX5_crate_45 : decode cX5_crate 45 = .ok (.ireturn, 1) := by decide +kernel
theorem dX5_crate_46 : decode cX5_crate 46 = .ok (.iload_n 2, 1) := by decide +kernel
theorem dX5_crate_47 : decode cX5_crate 47 = .ok (.ifCond .ne 7, 3) := by decide +kernel
theorem dX5_crate_50 : decode cX5_crate 50 = .ok (.iconst 0, 1) := by decide +kernel
theorem dX5_crate_51 : decode cX5_crate 51 = .ok (.goto 4, 3) := by decide +kernel
theorem dX5_crate_54 : decode cX5_crate 54 = .ok (.iload_n 3, 1) := by decide +kernel
theorem dX5_crate_55 : decode cX5_crate 55 = .ok (.istore 4, 2) := by decide +kernel
theorem dX5_crate_57 : decode cX5_crate 57 = .ok (.aload_n 0, 1) := by decide +kernel
theorem dX5_crate_58 : decode cX5_crate 58 = .ok (.getfield 29, 3) := by decide +kernel
theorem dX5_crate_61 : decode cX5_crate 61 = .ok (.iload_n 1, 1) := by decide +kernel
theorem dX5_crate_62 : decode cX5_crate 62 = .ok (.aaload, 1) := by decide +kernel
theorem dX5_crate_63 : decode cX5_crate 63 = .ok (.iload_n 2, 1) := by decide +kernel
theorem dX5_crate_64 : decode cX5_crate 64 = .ok (.iload 4, 2) := by decide +kernel
theorem dX5_crate_66 : decode cX5_crate 66 = .ok (.invokevirtual 124, 3) := by decide +kernel
theorem dX5_crate_69 : decode cX5_crate 69 = .ok (.iload 4, 2) := by decide +kernel
theorem dX5_crate_71 : decode cX5_crate 71 = .ok (.ireturn, 1) := by decide +kernel
set_option maxRecDepth 20000 in
theorem ggX5_put_X5_findingOfLoad : GoodIn wsX5_put wsX5_findingOfLoad := goodIn_r _ [6, 1, 7, 8, 9, 10, 5, 11, 12, 13, 14, 15, 16, 17, 18, 19, 20, 40, 41, 42, 43, 44, 45, 46, 47, 48, 49, 50, 51, 52, 53] (by decide +kernel) (by decide +kernel)
set_option maxRecDepth 20000 in
theorem gX5_put_X5_findingOfLoad : GoodIn wsX5_put (wsV RX5 128 RX5 yX5_findingOfLoad wsX5_findingOfLoad) := goodIn_app (goodIn_of _ (by decide +kernel)) ggX5_put_X5_findingOfLoad
set_option maxRecDepth 20000 in
theorem ggX5_put_X5_finding : GoodIn wsX5_put wsX5_finding := goodIn_r _ [24, 25, 40, 41, 42, 43, 44, 45, 46, 47, 48, 49, 50] (by decide +kernel) (by decide +kernel)
set_option maxRecDepth 20000 in
theorem gX5_put_X5_finding : GoodIn wsX5_put (wsV RX5 69 RX5 yX5_finding wsX5_finding) := goodIn_app (goodIn_of _ (by decide +kernel)) ggX5_put_X5_finding
set_option maxRecDepth 20000 in
theorem ggX5_put_X1_write : GoodIn wsX5_put wsX1_write := goodIn_r _ [29, 30, 20, 31, 32, 18, 33, 34, 35, 36, 37, 38, 39, 51, 52, 53] (by decide +kernel) (by decide +kernel)
set_option maxRecDepth 20000 in
theorem gX5_put_X1_write : GoodIn wsX5_put (wsV RX5 132 RX1 yX1_write wsX1_write) := goodIn_app (goodIn_of _ (by decide +kernel)) ggX5_put_X1_write
theorem dX5_put_0 : decode cX5_put 0 = .ok (.aload_n 0, 1) := by decide +kernel
theorem dX5_put_1 : decode cX5_put 1 = .ok (.iload_n 1, 1) := by decide +kernel
theorem dX5_put_2 : decode cX5_put 2 = .ok (.iload_n 2, 1) := by decide +kernel
theorem dX5_put_3 : decode cX5_put 3 = .ok (.invokevirtual 128, 3) := by decide +kernel
theorem dX5_put_6 : decode cX5_put 6 = .ok (.istore 5, 2) := by decide +kernel
theorem dX5_put_8 : decode cX5_put 8 = .ok (.iload 5, 2) := by decide +kernel
theorem dX5_put_10 : decode cX5_put 10 = .ok (.ifCond .ge 10, 3) := by decide +kernel
theorem dX5_put_13 : decode cX5_put 13 = .ok (.aload_n 0, 1) := by decide +kernel
theorem dX5_put_14 : decode cX5_put 14 = .ok (.iload 5, 2) := by decide +kernel
theorem dX5_put_16 : decode cX5_put 16 = .ok (.invokevirtual 69, 3) := by decide +kernel
theorem dX5_put_19 : decode cX5_put 19 = .ok (.ireturn, 1) := by decide +kernel
theorem dX5_put_20 : decode cX5_put 20 = .ok (.aload_n 0, 1) := by decide +kernel
theorem dX5_put_21 : decode cX5_put 21 = .ok (.getfield 29, 3) := by decide +kernel
theorem dX5_put_24 : decode cX5_put 24 = .ok (.iload_n 1, 1) := by decide +kernel
theorem dX5_put_25 : decode cX5_put 25 = .ok (.aaload, 1) := by decide +kernel
theorem dX5_put_26 : decode cX5_put 26 = .ok (.iload_n 2, 1) := by decide +kernel
theorem dX5_put_27 : decode cX5_put 27 = .ok (.lload_n 3, 1) := by decide +kernel
theorem dX5_put_28 : decode cX5_put 28 = .ok (.invokevirtual 132, 3) := by decide +kernel
theorem dX5_put_31 : decode cX5_put 31 = .ok (.iconst 0, 1) := by decide +kernel
theorem dX5_put_32 : decode cX5_put 32 = .ok (.ireturn, 1) := by decide +kernel
set_option maxRecDepth 20000 in
theorem ggX5_load_X5_findingOfLoad : GoodIn wsX5_load wsX5_findingOfLoad := goodIn_r _ [8, 2, 9, 10, 11, 12, 7, 13, 14, 15, 16, 17, 18, 19, 20, 21, 22, 28, 29, 30, 31, 32, 33, 34, 35, 36, 37, 38, 39, 40, 41] (by decide +kernel) (by decide +kernel)
set_option maxRecDepth 20000 in
theorem gX5_load_X5_findingOfLoad : GoodIn wsX5_load (wsV RX5 128 RX5 yX5_findingOfLoad wsX5_findingOfLoad) := goodIn_app (goodIn_of _ (by decide +kernel)) ggX5_load_X5_findingOfLoad
set_option maxRecDepth 20000 in
theorem ggX5_load_X5_finding : GoodIn wsX5_load wsX5_finding := goodIn_r _ [26, 27, 28, 29, 30, 31, 32, 33, 34, 35, 36, 37, 38] (by decide +kernel) (by decide +kernel)
set_option maxRecDepth 20000 in
theorem gX5_load_X5_finding : GoodIn wsX5_load (wsV RX5 69 RX5 yX5_finding wsX5_finding) := goodIn_app (goodIn_of _ (by decide +kernel)) ggX5_load_X5_finding
theorem dX5_load_0 : decode cX5_load 0 = .ok (.aload_n 0, 1) := by decide +kernel
theorem dX5_load_1 : decode cX5_load 1 = .ok (.iload_n 1, 1) := by decide +kernel
theorem dX5_load_2 : decode cX5_load 2 = .ok (.iload_n 2, 1) := by decide +kernel
theorem dX5_load_3 : decode cX5_load 3 = .ok (.invokevirtual 128, 3) := by decide +kernel
theorem dX5_load_6 : decode cX5_load 6 = .ok (.istore_n 3, 1) := by decide +kernel
theorem dX5_load_7 : decode cX5_load 7 = .ok (.iload_n 3, 1) := by decide +kernel
theorem dX5_load_8 : decode cX5_load 8 = .ok (.ifCond .ge 13, 3) := by decide +kernel
theorem dX5_load_11 : decode cX5_load 11 = .ok (.aload_n 0, 1) := by decide +kernel
theorem dX5_load_12 : decode cX5_load 12 = .ok (.iload_n 3, 1) := by decide +kernel
theorem dX5_load_13 : decode cX5_load 13 = .ok (.invokevirtual 69, 3) := by decide +kernel
theorem dX5_load_16 : decode cX5_load 16 = .ok (.pop, 1) := by decide +kernel
theorem dX5_load_17 : decode cX5_load 17 = .ok (.ldc2_w 135, 3) := by decide +kernel
theorem dX5_load_20 : decode cX5_load 20 = .ok (.lreturn, 1) := by decide +kernel
theorem dX5_load_21 : decode cX5_load 21 = .ok (.aload_n 0, 1) := by decide +kernel
theorem dX5_load_22 : decode cX5_load 22 = .ok (.getfield 29, 3) := by decide +kernel
theorem dX5_load_25 : decode cX5_load 25 = .ok (.iload_n 1, 1) := by decide +kernel
theorem dX5_load_26 : decode cX5_load 26 = .ok (.aaload, 1) := by decide +kernel
theorem dX5_load_27 : decode cX5_load 27 = .ok (.getfield 137, 3) := by decide +kernel
theorem dX5_load_30 : decode cX5_load 30 = .ok (.iload_n 2, 1) := by decide +kernel
theorem dX5_load_31 : decode cX5_load 31 = .ok (.laload, 1) := by decide +kernel
theorem dX5_load_32 : decode cX5_load 32 = .ok (.lreturn, 1) := by decide +kernel
set_option maxRecDepth 20000 in
theorem ggX5_copy_X5_isCrate : GoodIn wsX5_copy wsX5_isCrate := goodIn_r _ [11] (by decide +kernel) (by decide +kernel)
set_option maxRecDepth 20000 in
theorem gX5_copy_X5_isCrate : GoodIn wsX5_copy (va_wsS RX5 121 yX5_isCrate wsX5_isCrate) := goodIn_app (goodIn_of _ (by decide +kernel)) ggX5_copy_X5_isCrate
set_option maxRecDepth 20000 in
theorem ggX5_copy_X5_finding : GoodIn wsX5_copy wsX5_finding := goodIn_r _ [15, 16, 28, 29, 30, 31, 32, 33, 34, 35, 36, 37, 38] (by decide +kernel) (by decide +kernel)
set_option maxRecDepth 20000 in
theorem gX5_copy_X5_finding : GoodIn wsX5_copy (wsV RX5 69 RX5 yX5_finding wsX5_finding) := goodIn_app (goodIn_of _ (by decide +kernel)) ggX5_copy_X5_finding
set_option maxRecDepth 20000 in
theorem ggX5_copy_X1_isMissing : GoodIn wsX5_copy wsX1_isMissing := goodIn_r _ [21, 22, 39, 40, 41] (by decide +kernel) (by decide +kernel)
set_option maxRecDepth 20000 in
theorem gX5_copy_X1_isMissing : GoodIn wsX5_copy (wsV RX5 141 RX1 yX1_isMissing wsX1_isMissing) := goodIn_app (goodIn_of _ (by decide +kernel)) ggX5_copy_X1_isMissing
set_option maxRecDepth 20000 in
theorem ggX5_copy_X1_hasPart : GoodIn wsX5_copy wsX1_hasPart := goodIn_r _ [26, 27, 39, 40, 41] (by decide +kernel) (by decide +kernel)
set_option maxRecDepth 20000 in
theorem gX5_copy_X1_hasPart : GoodIn wsX5_copy (wsV RX5 147 RX1 yX1_hasPart wsX1_hasPart) := goodIn_app (goodIn_of _ (by decide +kernel)) ggX5_copy_X1_hasPart
theorem dX5_copy_0 : decode cX5_copy 0 = .ok (.iload_n 1, 1) := by decide +kernel
theorem dX5_copy_1 : decode cX5_copy 1 = .ok (.invokestatic 121, 3) := by decide +kernel
theorem dX5_copy_4 : decode cX5_copy 4 = .ok (.ifCond .eq 10, 3) := by decide +kernel
theorem dX5_copy_7 : decode cX5_copy 7 = .ok (.iload_n 3, 1) := by decide +kernel
theorem dX5_copy_8 : decode cX5_copy 8 = .ok (.invokestatic 121, 3) := by decide +kernel
theorem dX5_copy_11 : decode cX5_copy 11 = .ok (.ifCond .ne 9, 3) := by decide +kernel
theorem dX5_copy_14 : decode cX5_copy 14 = .ok (.aload_n 0, 1) := by decide +kernel
theorem dX5_copy_15 : decode cX5_copy 15 = .ok (.iconst (-1), 1) := by decide +kernel
theorem dX5_copy_16 : decode cX5_copy 16 = .ok (.invokevirtual 69, 3) := by decide +kernel
theorem dX5_copy_19 : decode cX5_copy 19 = .ok (.ireturn, 1) := by decide +kernel
theorem dX5_copy_20 : decode cX5_copy 20 = .ok (.aload_n 0, 1) := by decide +kernel
theorem dX5_copy_21 : decode cX5_copy 21 = .ok (.getfield 29, 3) := by decide +kernel
theorem dX5_copy_24 : decode cX5_copy 24 = .ok (.iload_n 1, 1) := by decide +kernel
theorem dX5_copy_25 : decode cX5_copy 25 = .ok (.aaload, 1) := by decide +kernel
theorem dX5_copy_26 : decode cX5_copy 26 = .ok (.astore 6, 2) := by decide +kernel
theorem dX5_copy_28 : decode cX5_copy 28 = .ok (.aload_n 0, 1) := by decide +kernel
theorem dX5_copy_29 : decode cX5_copy 29 = .ok (.getfield 29, 3) := by decide +kernel
theorem dX5_copy_32 : decode cX5_copy 32 = .ok (.iload_n 3, 1) := by decide +kernel
theorem dX5_copy_33 : decode cX5_copy 33 = .ok (.aaload, 1) := by decide +kernel
theorem dX5_copy_34 : decode cX5_copy 34 = .ok (.astore 7, 2) := by decide +kernel
theorem dX5_copy_36 : decode cX5_copy 36 = .ok (.aload 6, 2) := by decide +kernel
theorem dX5_copy_38 : decode cX5_copy 38 = .ok (.invokevirtual 141, 3) := by decide +kernel
theorem dX5_copy_41 : decode cX5_copy 41 = .ok (.ifCond .ne 11, 3) := by decide +kernel
theorem dX5_copy_44 : decode cX5_copy 44 = .ok (.aload 7, 2) := by decide +kernel
theorem dX5_copy_46 : decode cX5_copy 46 = .ok (.invokevirtual 141, 3) := by decide +kernel
theorem dX5_copy_49 : decode cX5_copy 49 = .ok (.ifCond .eq 10, 3) := by decide +kernel
theorem dX5_copy_52 : decode cX5_copy 52 = .ok (.aload_n 0, 1) := by decide +kernel
theorem dX5_copy_53 : decode cX5_copy 53 = .ok (.bipush (-2), 2) := by decide +kernel
theorem dX5_copy_55 : decode cX5_copy 55 = .ok (.invokevirtual 69, 3) := by decide +kernel
theorem dX5_copy_58 : decode cX5_copy 58 = .ok (.ireturn, 1) := by decide +kernel
theorem dX5_copy_59 : decode cX5_copy 59 = .ok (.aload 6, 2) := by decide +kernel
theorem dX5_copy_61 : decode cX5_copy 61 = .ok (.getfield 145, 3) := by decide +kernel
theorem dX5_copy_64 : decode cX5_copy 64 = .ok (.aload 7, 2) := by decide +kernel
theorem dX5_copy_66 : decode cX5_copy 66 = .ok (.getfield 145, 3) := by decide +kernel
theorem dX5_copy_69 : decode cX5_copy 69 = .ok (.if_icmp .eq 10, 3) := by decide +kernel
theorem dX5_copy_72 : decode cX5_copy 72 = .ok (.aload_n 0, 1) := by decide +kernel
theorem dX5_copy_73 : decode cX5_copy 73 = .ok (.bipush (-4), 2) := by decide +kernel
theorem dX5_copy_75 : decode cX5_copy 75 = .ok (.invokevirtual 69, 3) := by decide +kernel
theorem dX5_copy_78 : decode cX5_copy 78 = .ok (.ireturn, 1) := by decide +kernel
theorem dX5_copy_79 : decode cX5_copy 79 = .ok (.aload 6, 2) := by decide +kernel
theorem dX5_copy_81 : decode cX5_copy 81 = .ok (.iload_n 2, 1) := by decide +kernel
theorem dX5_copy_82 : decode cX5_copy 82 = .ok (.iload 5, 2) := by decide +kernel
theorem dX5_copy_84 : decode cX5_copy 84 = .ok (.invokevirtual 147, 3) := by decide +kernel
theorem dX5_copy_87 : decode cX5_copy 87 = .ok (.ifCond .eq 15, 3) := by decide +kernel
theorem dX5_copy_90 : decode cX5_copy 90 = .ok (.aload 7, 2) := by decide +kernel
theorem dX5_copy_92 : decode cX5_copy 92 = .ok (.iload 4, 2) := by decide +kernel
theorem dX5_copy_94 : decode cX5_copy 94 = .ok (.iload 5, 2) := by decide +kernel
theorem dX5_copy_96 : decode cX5_copy 96 = .ok (.invokevirtual 147, 3) := by decide +kernel
theorem dX5_copy_99 : decode cX5_copy 99 = .ok (.ifCond .ne 9, 3) := by decide +kernel
theorem dX5_copy_102 : decode cX5_copy 102 = .ok (.aload_n 0, 1) := by decide +kernel
theorem dX5_copy_103 : decode cX5_copy 103 = .ok (.iconst (-1), 1) := by decide +kernel
theorem dX5_copy_104 : decode cX5_copy 104 = .ok (.invokevirtual 69, 3) := by decide +kernel
theorem dX5_copy_107 : decode cX5_copy 107 = .ok (.ireturn, 1) := by decide +kernel
theorem dX5_copy_108 : decode cX5_copy 108 = .ok (.aload 6, 2) := by decide +kernel
theorem dX5_copy_110 : decode cX5_copy 110 = .ok (.getfield 137, 3) := by decide +kernel
theorem dX5_copy_113 : decode cX5_copy 113 = .ok (.iload_n 2, 1) := by decide +kernel
theorem dX5_copy_114 : decode cX5_copy 114 = .ok (.aload 7, 2) := by decide +kernel
theorem dX5_copy_116 : decode cX5_copy 116 = .ok (.getfield 137, 3) := by decide +kernel
theorem dX5_copy_119 : decode cX5_copy 119 = .ok (.iload 4, 2) := by decide +kernel
theorem dX5_copy_121 : decode cX5_copy 121 = .ok (.iload 5, 2) := by decide +kernel
theorem dX5_copy_123 : decode cX5_copy 123 = .ok (.invokestatic 150, 3) := by decide +kernel
theorem dX5_copy_126 : decode cX5_copy 126 = .ok (.iload 5, 2) := by decide +kernel
theorem dX5_copy_128 : decode cX5_copy 128 = .ok (.ireturn, 1) := by decide +kernel
set_option maxRecDepth 20000 in
theorem ggX5_run_X5_findingOfCrate : GoodIn wsX5_run wsX5_findingOfCrate := goodIn_r _ [10, 1, 11, 12, 9, 13, 14, 15, 16, 17, 18, 19, 69, 70, 71, 72, 73, 74, 75, 76, 77, 78, 79, 80, 81, 82] (by decide +kernel) (by decide +kernel)
set_option maxRecDepth 20000 in
theorem gX5_run_X5_findingOfCrate : GoodIn wsX5_run (wsV RX5 156 RX5 yX5_findingOfCrate wsX5_findingOfCrate) := goodIn_app (goodIn_of _ (by decide +kernel)) ggX5_run_X5_findingOfCrate
set_option maxRecDepth 20000 in
theorem ggX5_run_X5_finding : GoodIn wsX5_run wsX5_finding := goodIn_r _ [23, 24, 69, 70, 71, 72, 73, 74, 75, 76, 77, 78, 79] (by decide +kernel) (by decide +kernel)
set_option maxRecDepth 20000 in
theorem gX5_run_X5_finding : GoodIn wsX5_run (wsV RX5 69 RX5 yX5_finding wsX5_finding) := goodIn_app (goodIn_of _ (by decide +kernel)) ggX5_run_X5_finding
set_option maxRecDepth 20000 in
theorem ggX5_run_X3_actingKind : GoodIn wsX5_run wsX3_actingKind := goodIn_r _ [29, 30, 31, 32, 28, 33, 34, 35, 36, 37, 38, 83, 84, 85] (by decide +kernel) (by decide +kernel)
set_option maxRecDepth 20000 in
theorem gX5_run_X3_actingKind : GoodIn wsX5_run (wsV RX5 163 RX3 yX3_actingKind wsX3_actingKind) := goodIn_app (goodIn_of _ (by decide +kernel)) ggX5_run_X3_actingKind
set_option maxRecDepth 20000 in
theorem ggX5_run_X3_low : GoodIn wsX5_run wsX3_low := goodIn_r _ [42, 34, 83, 84, 85] (by decide +kernel) (by decide +kernel)
set_option maxRecDepth 20000 in
theorem gX5_run_X3_low : GoodIn wsX5_run (wsV RX5 97 RX3 yX3_low wsX3_low) := goodIn_app (goodIn_of _ (by decide +kernel)) ggX5_run_X3_low
set_option maxRecDepth 20000 in
theorem ggX5_run_X3_high : GoodIn wsX5_run wsX3_high := goodIn_r _ [46, 34, 83, 84, 85] (by decide +kernel) (by decide +kernel)
set_option maxRecDepth 20000 in
theorem gX5_run_X3_high : GoodIn wsX5_run (wsV RX5 100 RX3 yX3_high wsX3_high) := goodIn_app (goodIn_of _ (by decide +kernel)) ggX5_run_X3_high
set_option maxRecDepth 20000 in
theorem ggX5_run_X1_mustChange : GoodIn wsX5_run wsX1_mustChange := goodIn_r _ [50, 51, 52, 53, 17, 54, 55, 56, 57, 58, 59, 19, 60, 61, 62, 63, 64, 80, 81, 82] (by decide +kernel) (by decide +kernel)
set_option maxRecDepth 20000 in
theorem gX5_run_X1_mustChange : GoodIn wsX5_run (wsV RX5 166 RX1 yX1_mustChange wsX1_mustChange) := goodIn_app (goodIn_of _ (by decide +kernel)) ggX5_run_X1_mustChange
set_option maxRecDepth 20000 in
theorem ggX5_run_X1_exchange : GoodIn wsX5_run wsX1_exchange := goodIn_r _ [68, 55, 80, 81, 82] (by decide +kernel) (by decide +kernel)
set_option maxRecDepth 20000 in
theorem gX5_run_X1_exchange : GoodIn wsX5_run (wsV RX5 170 RX1 yX1_exchange wsX1_exchange) := goodIn_app (goodIn_of _ (by decide +kernel)) ggX5_run_X1_exchange
theorem dX5_run_0 : decode cX5_run 0 = .ok (.aload_n 0, 1) := by decide +kernel
theorem dX5_run_1 : decode cX5_run 1 = .ok (.iload_n 1, 1) := by decide +kernel
theorem dX5_run_2 : decode cX5_run 2 = .ok (.invokevirtual 156, 3) := by decide +kernel
theorem dX5_run_5 : decode cX5_run 5 = .ok (.istore_n 2, 1) := by decide +kernel
theorem dX5_run_6 : decode cX5_run 6 = .ok (.iload_n 2, 1) := by decide +kernel
theorem dX5_run_7 : decode cX5_run 7 = .ok (.ifCond .ge 9, 3) := by decide +kernel
theorem dX5_run_10 : decode cX5_run 10 = .ok (.aload_n 0, 1) := by decide +kernel
theorem dX5_run_11 : decode cX5_run 11 = .ok (.iload_n 2, 1) := by decide +kernel
theorem dX5_run_12 : decode cX5_run 12 = .ok (.invokevirtual 69, 3) := by decide +kernel
theorem dX5_run_15 : decode cX5_run 15 = .ok (.ireturn, 1) := by decide +kernel
theorem dX5_run_16 : decode cX5_run 16 = .ok (.aload_n 0, 1) := by decide +kernel
theorem dX5_run_17 : decode cX5_run 17 = .ok (.getfield 29, 3) := by decide +kernel
theorem dX5_run_20 : decode cX5_run 20 = .ok (.iload_n 1, 1) := by decide +kernel
theorem dX5_run_21 : decode cX5_run 21 = .ok (.aaload, 1) := by decide +kernel
theorem dX5_run_22 : decode cX5_run 22 = .ok (.astore_n 3, 1) := by decide +kernel
theorem dX5_run_23 : decode cX5_run 23 = .ok (.aload_n 3, 1) := by decide +kernel
theorem dX5_run_24 : decode cX5_run 24 = .ok (.getfield 159, 3) := by decide +kernel
theorem dX5_run_27 : decode cX5_run 27 = .ok (.aload_n 0, 1) := by decide +kernel
theorem dX5_run_28 : decode cX5_run 28 = .ok (.getfield 10, 3) := by decide +kernel
theorem dX5_run_31 : decode cX5_run 31 = .ok (.getfield 160, 3) := by decide +kernel
theorem dX5_run_34 : decode cX5_run 34 = .ok (.if_icmp .ge 10, 3) := by decide +kernel
theorem dX5_run_37 : decode cX5_run 37 = .ok (.aload_n 0, 1) := by decide +kernel
theorem dX5_run_38 : decode cX5_run 38 = .ok (.bipush (-3), 2) := by decide +kernel
theorem dX5_run_40 : decode cX5_run 40 = .ok (.invokevirtual 69, 3) := by decide +kernel
theorem dX5_run_43 : decode cX5_run 43 = .ok (.ireturn, 1) := by decide +kernel
theorem dX5_run_44 : decode cX5_run 44 = .ok (.iconst 0, 1) := by decide +kernel
theorem dX5_run_45 : decode cX5_run 45 = .ok (.istore 4, 2) := by decide +kernel
theorem dX5_run_47 : decode cX5_run 47 = .ok (.iconst 0, 1) := by decide +kernel
theorem dX5_run_48 : decode cX5_run 48 = .ok (.istore 5, 2) := by decide +kernel
theorem dX5_run_50 : decode cX5_run 50 = .ok (.iload 5, 2) := by decide +kernel
theorem dX5_run_52 : decode cX5_run 52 = .ok (.aload_n 0, 1) := by decide +kernel
theorem dX5_run_53 : decode cX5_run 53 = .ok (.getfield 10, 3) := by decide +kernel
theorem dX5_run_56 : decode cX5_run 56 = .ok (.getfield 77, 3) := by decide +kernel
theorem dX5_run_59 : decode cX5_run 59 = .ok (.if_icmp .ge 68, 3) := by decide +kernel
theorem dX5_run_62 : decode cX5_run 62 = .ok (.aload_n 3, 1) := by decide +kernel
theorem dX5_run_63 : decode cX5_run 63 = .ok (.aload_n 0, 1) := by decide +kernel
theorem dX5_run_64 : decode cX5_run 64 = .ok (.getfield 10, 3) := by decide +kernel
theorem dX5_run_67 : decode cX5_run 67 = .ok (.iload 5, 2) := by decide +kernel
theorem dX5_run_69 : decode cX5_run 69 = .ok (.invokevirtual 163, 3) := by decide +kernel
theorem dX5_run_72 : decode cX5_run 72 = .ok (.aload_n 0, 1) := by decide +kernel
theorem dX5_run_73 : decode cX5_run 73 = .ok (.getfield 10, 3) := by decide +kernel
theorem dX5_run_76 : decode cX5_run 76 = .ok (.iload 5, 2) := by decide +kernel
theorem dX5_run_78 : decode cX5_run 78 = .ok (.invokevirtual 97, 3) := by decide +kernel
theorem dX5_run_81 : decode cX5_run 81 = .ok (.aload_n 0, 1) := by decide +kernel
theorem dX5_run_82 : decode cX5_run 82 = .ok (.getfield 10, 3) := by decide +kernel
theorem dX5_run_85 : decode cX5_run 85 = .ok (.iload 5, 2) := by decide +kernel
theorem dX5_run_87 : decode cX5_run 87 = .ok (.invokevirtual 100, 3) := by decide +kernel
theorem dX5_run_90 : decode cX5_run 90 = .ok (.invokevirtual 166, 3) := by decide +kernel
theorem dX5_run_93 : decode cX5_run 93 = .ok (.ifCond .eq 28, 3) := by decide +kernel
theorem dX5_run_96 : decode cX5_run 96 = .ok (.aload_n 3, 1) := by decide +kernel
theorem dX5_run_97 : decode cX5_run 97 = .ok (.aload_n 0, 1) := by decide +kernel
theorem dX5_run_98 : decode cX5_run 98 = .ok (.getfield 10, 3) := by decide +kernel
theorem dX5_run_101 : decode cX5_run 101 = .ok (.iload 5, 2) := by decide +kernel
theorem dX5_run_103 : decode cX5_run 103 = .ok (.invokevirtual 97, 3) := by decide +kernel
theorem dX5_run_106 : decode cX5_run 106 = .ok (.aload_n 0, 1) := by decide +kernel
theorem dX5_run_107 : decode cX5_run 107 = .ok (.getfield 10, 3) := by decide +kernel
theorem dX5_run_110 : decode cX5_run 110 = .ok (.iload 5, 2) := by decide +kernel
theorem dX5_run_112 : decode cX5_run 112 = .ok (.invokevirtual 100, 3) := by decide +kernel
theorem dX5_run_115 : decode cX5_run 115 = .ok (.invokevirtual 170, 3) := by decide +kernel
theorem dX5_run_118 : decode cX5_run 118 = .ok (.iinc 4 1, 3) := by decide +kernel
theorem dX5_run_121 : decode cX5_run 121 = .ok (.iinc 5 1, 3) := by decide +kernel
theorem dX5_run_124 : decode cX5_run 124 = .ok (.goto (-74), 3) := by decide +kernel
theorem dX5_run_127 : decode cX5_run 127 = .ok (.iload 4, 2) := by decide +kernel
theorem dX5_run_129 : decode cX5_run 129 = .ok (.ireturn, 1) := by decide +kernel
set_option maxRecDepth 20000 in
theorem ggX5_rises_X5_findingOfCrate : GoodIn wsX5_rises wsX5_findingOfCrate := goodIn_r _ [7, 1, 8, 9, 6, 10, 11, 12, 13, 14, 15, 16, 36, 37, 38, 39, 40, 41, 42, 43, 44, 45, 46, 47, 48, 49] (by decide +kernel) (by decide +kernel)
set_option maxRecDepth 20000 in
theorem gX5_rises_X5_findingOfCrate : GoodIn wsX5_rises (wsV RX5 156 RX5 yX5_findingOfCrate wsX5_findingOfCrate) := goodIn_app (goodIn_of _ (by decide +kernel)) ggX5_rises_X5_findingOfCrate
set_option maxRecDepth 20000 in
theorem ggX5_rises_X5_finding : GoodIn wsX5_rises wsX5_finding := goodIn_r _ [20, 21, 36, 37, 38, 39, 40, 41, 42, 43, 44, 45, 46] (by decide +kernel) (by decide +kernel)
set_option maxRecDepth 20000 in
theorem gX5_rises_X5_finding : GoodIn wsX5_rises (wsV RX5 69 RX5 yX5_finding wsX5_finding) := goodIn_app (goodIn_of _ (by decide +kernel)) ggX5_rises_X5_finding
set_option maxRecDepth 20000 in
theorem ggX5_rises_X1_compare : GoodIn wsX5_rises wsX1_compare := goodIn_r _ [25, 26, 27, 28, 29, 14, 30, 16, 31, 32, 33, 34, 35, 47, 48, 49] (by decide +kernel) (by decide +kernel)
set_option maxRecDepth 20000 in
theorem gX5_rises_X1_compare : GoodIn wsX5_rises (wsV RX5 173 RX1 yX1_compare wsX1_compare) := goodIn_app (goodIn_of _ (by decide +kernel)) ggX5_rises_X1_compare
theorem dX5_rises_0 : decode cX5_rises 0 = .ok (.aload_n 0, 1) := by decide +kernel
theorem dX5_rises_1 : decode cX5_rises 1 = .ok (.iload_n 1, 1) := by decide +kernel
theorem dX5_rises_2 : decode cX5_rises 2 = .ok (.invokevirtual 156, 3) := by decide +kernel
theorem dX5_rises_5 : decode cX5_rises 5 = .ok (.istore_n 2, 1) := by decide +kernel
theorem dX5_rises_6 : decode cX5_rises 6 = .ok (.iload_n 2, 1) := by decide +kernel
theorem dX5_rises_7 : decode cX5_rises 7 = .ok (.ifCond .ge 9, 3) := by decide +kernel
theorem dX5_rises_10 : decode cX5_rises 10 = .ok (.aload_n 0, 1) := by decide +kernel
theorem dX5_rises_11 : decode cX5_rises 11 = .ok (.iload_n 2, 1) := by decide +kernel
theorem dX5_rises_12 : decode cX5_rises 12 = .ok (.invokevirtual 69, 3) := by decide +kernel
theorem dX5_rises_15 : decode cX5_rises 15 = .ok (.ireturn, 1) := by decide +kernel
theorem dX5_rises_16 : decode cX5_rises 16 = .ok (.aload_n 0, 1) := by decide +kernel
theorem dX5_rises_17 : decode cX5_rises 17 = .ok (.getfield 29, 3) := by decide +kernel
theorem dX5_rises_20 : decode cX5_rises 20 = .ok (.iload_n 1, 1) := by decide +kernel
theorem dX5_rises_21 : decode cX5_rises 21 = .ok (.aaload, 1) := by decide +kernel
theorem dX5_rises_22 : decode cX5_rises 22 = .ok (.astore_n 3, 1) := by decide +kernel
theorem dX5_rises_23 : decode cX5_rises 23 = .ok (.iconst 0, 1) := by decide +kernel
theorem dX5_rises_24 : decode cX5_rises 24 = .ok (.istore 4, 2) := by decide +kernel
theorem dX5_rises_26 : decode cX5_rises 26 = .ok (.iload 4, 2) := by decide +kernel
theorem dX5_rises_28 : decode cX5_rises 28 = .ok (.iconst 1, 1) := by decide +kernel
theorem dX5_rises_29 : decode cX5_rises 29 = .ok (.iadd, 1) := by decide +kernel
theorem dX5_rises_30 : decode cX5_rises 30 = .ok (.aload_n 3, 1) := by decide +kernel
theorem dX5_rises_31 : decode cX5_rises 31 = .ok (.getfield 159, 3) := by decide +kernel
theorem dX5_rises_34 : decode cX5_rises 34 = .ok (.if_icmp .ge 24, 3) := by decide +kernel
theorem dX5_rises_37 : decode cX5_rises 37 = .ok (.aload_n 3, 1) := by decide +kernel
theorem dX5_rises_38 : decode cX5_rises 38 = .ok (.iload 4, 2) := by decide +kernel
theorem dX5_rises_40 : decode cX5_rises 40 = .ok (.iload 4, 2) := by decide +kernel
theorem dX5_rises_42 : decode cX5_rises 42 = .ok (.iconst 1, 1) := by decide +kernel
theorem dX5_rises_43 : decode cX5_rises 43 = .ok (.iadd, 1) := by decide +kernel
theorem dX5_rises_44 : decode cX5_rises 44 = .ok (.invokevirtual 173, 3) := by decide +kernel
theorem dX5_rises_47 : decode cX5_rises 47 = .ok (.ifCond .le 5, 3) := by decide +kernel
theorem dX5_rises_50 : decode cX5_rises 50 = .ok (.iconst 0, 1) := by decide +kernel
theorem dX5_rises_51 : decode cX5_rises 51 = .ok (.ireturn, 1) := by decide +kernel
theorem dX5_rises_52 : decode cX5_rises 52 = .ok (.iinc 4 1, 3) := by decide +kernel
theorem dX5_rises_55 : decode cX5_rises 55 = .ok (.goto (-29), 3) := by decide +kernel
theorem dX5_rises_58 : decode cX5_rises 58 = .ok (.iconst 1, 1) := by decide +kernel
theorem dX5_rises_59 : decode cX5_rises 59 = .ok (.ireturn, 1) := by decide +kernel
set_option maxRecDepth 20000 in
theorem ggX5_order_X5_findingOfLoad : GoodIn wsX5_order wsX5_findingOfLoad := goodIn_r _ [6, 1, 7, 8, 9, 10, 5, 11, 12, 13, 14, 15, 16, 17, 18, 19, 20, 40, 41, 42, 43, 44, 45, 46, 47, 48, 49, 50, 51, 52, 53] (by decide +kernel) (by decide +kernel)
set_option maxRecDepth 20000 in
theorem gX5_order_X5_findingOfLoad : GoodIn wsX5_order (wsV RX5 128 RX5 yX5_findingOfLoad wsX5_findingOfLoad) := goodIn_app (goodIn_of _ (by decide +kernel)) ggX5_order_X5_findingOfLoad
set_option maxRecDepth 20000 in
theorem ggX5_order_X5_finding : GoodIn wsX5_order wsX5_finding := goodIn_r _ [24, 25, 40, 41, 42, 43, 44, 45, 46, 47, 48, 49, 50] (by decide +kernel) (by decide +kernel)
set_option maxRecDepth 20000 in
theorem gX5_order_X5_finding : GoodIn wsX5_order (wsV RX5 69 RX5 yX5_finding wsX5_finding) := goodIn_app (goodIn_of _ (by decide +kernel)) ggX5_order_X5_finding
set_option maxRecDepth 20000 in
theorem ggX5_order_X1_compare : GoodIn wsX5_order wsX1_compare := goodIn_r _ [29, 30, 31, 32, 33, 18, 34, 20, 35, 36, 37, 38, 39, 51, 52, 53] (by decide +kernel) (by decide +kernel)
set_option maxRecDepth 20000 in
theorem gX5_order_X1_compare : GoodIn wsX5_order (wsV RX5 173 RX1 yX1_compare wsX1_compare) := goodIn_app (goodIn_of _ (by decide +kernel)) ggX5_order_X1_compare
theorem dX5_order_0 : decode cX5_order 0 = .ok (.aload_n 0, 1) := by decide +kernel
theorem dX5_order_1 : decode cX5_order 1 = .ok (.iload_n 1, 1) := by decide +kernel
theorem dX5_order_2 : decode cX5_order 2 = .ok (.iload_n 2, 1) := by decide +kernel
theorem dX5_order_3 : decode cX5_order 3 = .ok (.invokevirtual 128, 3) := by decide +kernel
theorem dX5_order_6 : decode cX5_order 6 = .ok (.istore 4, 2) := by decide +kernel
theorem dX5_order_8 : decode cX5_order 8 = .ok (.iload 4, 2) := by decide +kernel
theorem dX5_order_10 : decode cX5_order 10 = .ok (.ifCond .ne 11, 3) := by decide +kernel
theorem dX5_order_13 : decode cX5_order 13 = .ok (.aload_n 0, 1) := by decide +kernel
theorem dX5_order_14 : decode cX5_order 14 = .ok (.iload_n 1, 1) := by decide +kernel
theorem dX5_order_15 : decode cX5_order 15 = .ok (.iload_n 3, 1) := by decide +kernel
theorem dX5_order_16 : decode cX5_order 16 = .ok (.invokevirtual 128, 3) := by decide +kernel
theorem dX5_order_19 : decode cX5_order 19 = .ok (.istore 4, 2) := by decide +kernel
theorem dX5_order_21 : decode cX5_order 21 = .ok (.iload 4, 2) := by decide +kernel
theorem dX5_order_23 : decode cX5_order 23 = .ok (.ifCond .ge 10, 3) := by decide +kernel
theorem dX5_order_26 : decode cX5_order 26 = .ok (.aload_n 0, 1) := by decide +kernel
theorem dX5_order_27 : decode cX5_order 27 = .ok (.iload 4, 2) := by decide +kernel
theorem dX5_order_29 : decode cX5_order 29 = .ok (.invokevirtual 69, 3) := by decide +kernel
theorem dX5_order_32 : decode cX5_order 32 = .ok (.ireturn, 1) := by decide +kernel
theorem dX5_order_33 : decode cX5_order 33 = .ok (.aload_n 0, 1) := by decide +kernel
theorem dX5_order_34 : decode cX5_order 34 = .ok (.getfield 29, 3) := by decide +kernel
theorem dX5_order_37 : decode cX5_order 37 = .ok (.iload_n 1, 1) := by decide +kernel
theorem dX5_order_38 : decode cX5_order 38 = .ok (.aaload, 1) := by decide +kernel
theorem dX5_order_39 : decode cX5_order 39 = .ok (.iload_n 2, 1) := by decide +kernel
theorem dX5_order_40 : decode cX5_order 40 = .ok (.iload_n 3, 1) := by decide +kernel
theorem dX5_order_41 : decode cX5_order 41 = .ok (.invokevirtual 173, 3) := by decide +kernel
theorem dX5_order_44 : decode cX5_order 44 = .ok (.istore 5, 2) := by decide +kernel
theorem dX5_order_46 : decode cX5_order 46 = .ok (.iload 5, 2) := by decide +kernel
theorem dX5_order_48 : decode cX5_order 48 = .ok (.ifCond .ne 6, 3) := by decide +kernel
theorem dX5_order_51 : decode cX5_order 51 = .ok (.bipush 10, 2) := by decide +kernel
theorem dX5_order_53 : decode cX5_order 53 = .ok (.ireturn, 1) := by decide +kernel
theorem dX5_order_54 : decode cX5_order 54 = .ok (.iload 5, 2) := by decide +kernel
theorem dX5_order_56 : decode cX5_order 56 = .ok (.ifCond .ge 8, 3) := by decide +kernel
theorem dX5_order_59 : decode cX5_order 59 = .ok (.bipush 9, 2) := by decide +kernel
theorem dX5_order_61 : decode cX5_order 61 = .ok (.goto 5, 3) := by decide +kernel
theorem dX5_order_64 : decode cX5_order 64 = .ok (.bipush 11, 2) := by decide +kernel
theorem dX5_order_66 : decode cX5_order 66 = .ok (.ireturn, 1) := by decide +kernel
set_option maxRecDepth 20000 in
theorem ggX5_out_X5_finding : GoodIn wsX5_out wsX5_finding := goodIn_r _ [8, 9, 61, 62, 63, 64, 65, 66, 67, 68, 69, 70, 71] (by decide +kernel) (by decide +kernel)
set_option maxRecDepth 20000 in
theorem gX5_out_X5_finding : GoodIn wsX5_out (wsV RX5 69 RX5 yX5_finding wsX5_finding) := goodIn_app (goodIn_of _ (by decide +kernel)) ggX5_out_X5_finding
set_option maxRecDepth 20000 in
theorem ggX5_out_X4_start : GoodIn wsX5_out wsX4_start := goodIn_r _ [14, 15, 16, 17, 18, 19, 13, 20, 21, 75, 76] (by decide +kernel) (by decide +kernel)
set_option maxRecDepth 20000 in
theorem gX5_out_X4_start : GoodIn wsX5_out (wsV RX5 176 RX4 yX4_start wsX4_start) := goodIn_app (goodIn_of _ (by decide +kernel)) ggX5_out_X4_start
set_option maxRecDepth 20000 in
theorem ggX5_out_X4_pass : GoodIn wsX5_out wsX4_pass := goodIn_r _ [25, 26, 27, 28, 29, 30, 31, 32, 33, 34, 35, 36, 37, 38, 39, 40, 41, 42, 43, 44, 45, 46, 47, 48, 49, 50, 51, 13, 52, 17, 53, 54, 55, 56, 15, 16, 72, 73, 74, 75, 76] (by decide +kernel) (by decide +kernel)
set_option maxRecDepth 20000 in
theorem gX5_out_X4_pass : GoodIn wsX5_out (wsV RX5 179 RX4 yX4_pass wsX4_pass) := goodIn_app (goodIn_of _ (by decide +kernel)) ggX5_out_X4_pass
set_option maxRecDepth 20000 in
theorem ggX5_out_X4_numberOf : GoodIn wsX5_out wsX4_numberOf := goodIn_r _ [60, 17, 75, 76] (by decide +kernel) (by decide +kernel)
set_option maxRecDepth 20000 in
theorem gX5_out_X4_numberOf : GoodIn wsX5_out (wsV RX5 183 RX4 yX4_numberOf wsX4_numberOf) := goodIn_app (goodIn_of _ (by decide +kernel)) ggX5_out_X4_numberOf
theorem dX5_out_0 : decode cX5_out 0 = .ok (.iload_n 1, 1) := by decide +kernel
theorem dX5_out_1 : decode cX5_out 1 = .ok (.ifCond .lt 16, 3) := by decide +kernel
theorem dX5_out_4 : decode cX5_out 4 = .ok (.iload_n 1, 1) := by decide +kernel
theorem dX5_out_5 : decode cX5_out 5 = .ok (.iconst 1, 1) := by decide +kernel
theorem dX5_out_6 : decode cX5_out 6 = .ok (.aload_n 0, 1) := by decide +kernel
theorem dX5_out_7 : decode cX5_out 7 = .ok (.getfield 10, 3) := by decide +kernel
theorem dX5_out_10 : decode cX5_out 10 = .ok (.getfield 160, 3) := by decide +kernel
theorem dX5_out_13 : decode cX5_out 13 = .ok (.ishl, 1) := by decide +kernel
theorem dX5_out_14 : decode cX5_out 14 = .ok (.if_icmp .lt 9, 3) := by decide +kernel
theorem dX5_out_17 : decode cX5_out 17 = .ok (.aload_n 0, 1) := by decide +kernel
theorem dX5_out_18 : decode cX5_out 18 = .ok (.iconst (-1), 1) := by decide +kernel
theorem dX5_out_19 : decode cX5_out 19 = .ok (.invokevirtual 69, 3) := by decide +kernel
theorem dX5_out_22 : decode cX5_out 22 = .ok (.ireturn, 1) := by decide +kernel
theorem dX5_out_23 : decode cX5_out 23 = .ok (.aload_n 0, 1) := by decide +kernel
theorem dX5_out_24 : decode cX5_out 24 = .ok (.getfield 36, 3) := by decide +kernel
theorem dX5_out_27 : decode cX5_out 27 = .ok (.aload_n 0, 1) := by decide +kernel
theorem dX5_out_28 : decode cX5_out 28 = .ok (.getfield 10, 3) := by decide +kernel
theorem dX5_out_31 : decode cX5_out 31 = .ok (.getfield 160, 3) := by decide +kernel
theorem dX5_out_34 : decode cX5_out 34 = .ok (.iload_n 1, 1) := by decide +kernel
theorem dX5_out_35 : decode cX5_out 35 = .ok (.bipush 64, 2) := by decide +kernel
theorem dX5_out_37 : decode cX5_out 37 = .ok (.idiv, 1) := by decide +kernel
theorem dX5_out_38 : decode cX5_out 38 = .ok (.invokevirtual 176, 3) := by decide +kernel
theorem dX5_out_41 : decode cX5_out 41 = .ok (.aload_n 0, 1) := by decide +kernel
theorem dX5_out_42 : decode cX5_out 42 = .ok (.getfield 36, 3) := by decide +kernel
theorem dX5_out_45 : decode cX5_out 45 = .ok (.aload_n 0, 1) := by decide +kernel
theorem dX5_out_46 : decode cX5_out 46 = .ok (.getfield 10, 3) := by decide +kernel
theorem dX5_out_49 : decode cX5_out 49 = .ok (.iconst (-1), 1) := by decide +kernel
theorem dX5_out_50 : decode cX5_out 50 = .ok (.invokevirtual 179, 3) := by decide +kernel
theorem dX5_out_53 : decode cX5_out 53 = .ok (.aload_n 0, 1) := by decide +kernel
theorem dX5_out_54 : decode cX5_out 54 = .ok (.getfield 36, 3) := by decide +kernel
theorem dX5_out_57 : decode cX5_out 57 = .ok (.iload_n 1, 1) := by decide +kernel
theorem dX5_out_58 : decode cX5_out 58 = .ok (.bipush 64, 2) := by decide +kernel
theorem dX5_out_60 : decode cX5_out 60 = .ok (.irem, 1) := by decide +kernel
theorem dX5_out_61 : decode cX5_out 61 = .ok (.aload_n 0, 1) := by decide +kernel
theorem dX5_out_62 : decode cX5_out 62 = .ok (.getfield 10, 3) := by decide +kernel
theorem dX5_out_65 : decode cX5_out 65 = .ok (.getfield 160, 3) := by decide +kernel
theorem dX5_out_68 : decode cX5_out 68 = .ok (.invokevirtual 183, 3) := by decide +kernel
theorem dX5_out_71 : decode cX5_out 71 = .ok (.ireturn, 1) := by decide +kernel
set_option maxRecDepth 20000 in
theorem ggX5_sorts_X5_leastFailing : GoodIn wsX5_sorts wsX5_leastFailing := goodIn_r _ [5, 6, 7, 8, 9, 10, 11, 12, 13, 14, 4, 15, 16, 17, 18, 19, 20, 21, 22, 23, 24, 25, 26, 27, 28, 29, 30, 31, 32, 33, 34, 35, 36, 37, 38, 39, 40, 41, 42, 43, 44, 45, 46, 47, 48, 49, 50, 51, 52, 53, 54, 55, 56, 57, 58, 59, 60, 61, 62, 63, 64, 65, 66, 67, 68, 69, 70, 71, 72, 73, 74, 75, 76, 77, 78, 79, 80, 81, 82, 83, 84, 85, 86, 87, 88, 89, 90, 91, 92] (by decide +kernel) (by decide +kernel)
set_option maxRecDepth 20000 in
theorem gX5_sorts_X5_leastFailing : GoodIn wsX5_sorts (wsV RX5 186 RX5 yX5_leastFailing wsX5_leastFailing) := goodIn_app (goodIn_of _ (by decide +kernel)) ggX5_sorts_X5_leastFailing
theorem dX5_sorts_0 : decode cX5_sorts 0 = .ok (.aload_n 0, 1) := by decide +kernel
theorem dX5_sorts_1 : decode cX5_sorts 1 = .ok (.iconst (-1), 1) := by decide +kernel
theorem dX5_sorts_2 : decode cX5_sorts 2 = .ok (.invokevirtual 186, 3) := by decide +kernel
theorem dX5_sorts_5 : decode cX5_sorts 5 = .ok (.bipush (-6), 2) := by decide +kernel
theorem dX5_sorts_7 : decode cX5_sorts 7 = .ok (.if_icmp .ne 7, 3) := by decide +kernel
theorem dX5_sorts_10 : decode cX5_sorts 10 = .ok (.iconst 1, 1) := by decide +kernel
theorem dX5_sorts_11 : decode cX5_sorts 11 = .ok (.goto 4, 3) := by decide +kernel
theorem dX5_sorts_14 : decode cX5_sorts 14 = .ok (.iconst 0, 1) := by decide +kernel
theorem dX5_sorts_15 : decode cX5_sorts 15 = .ok (.ireturn, 1) := by decide +kernel
set_option maxRecDepth 20000 in
theorem ggX5_fails_X5_leastFailing : GoodIn wsX5_fails wsX5_leastFailing := goodIn_r _ [7, 1, 2, 8, 9, 10, 11, 12, 13, 14, 6, 15, 16, 17, 18, 19, 20, 21, 22, 23, 24, 25, 26, 27, 28, 29, 30, 31, 32, 33, 34, 35, 36, 37, 38, 39, 40, 41, 42, 43, 44, 45, 46, 47, 48, 49, 50, 51, 52, 53, 54, 55, 56, 57, 58, 59, 60, 61, 62, 63, 64, 65, 66, 67, 68, 69, 70, 71, 72, 73, 74, 75, 76, 87, 88, 89, 90, 91, 92, 93, 94, 95, 96, 97, 98, 99, 100, 101, 102] (by decide +kernel) (by decide +kernel)
set_option maxRecDepth 20000 in
theorem gX5_fails_X5_leastFailing : GoodIn wsX5_fails (wsV RX5 186 RX5 yX5_leastFailing wsX5_leastFailing) := goodIn_app (goodIn_of _ (by decide +kernel)) ggX5_fails_X5_leastFailing
set_option maxRecDepth 20000 in
theorem ggX5_fails_X5_toldOrFinding : GoodIn wsX5_fails wsX5_toldOrFinding := goodIn_r _ [80, 81, 82, 83, 6, 84, 85, 87, 88, 89, 90, 91, 92, 93, 94, 95, 96, 97] (by decide +kernel) (by decide +kernel)
set_option maxRecDepth 20000 in
theorem gX5_fails_X5_toldOrFinding : GoodIn wsX5_fails (wsV RX5 189 RX5 yX5_toldOrFinding wsX5_toldOrFinding) := goodIn_app (goodIn_of _ (by decide +kernel)) ggX5_fails_X5_toldOrFinding
set_option maxRecDepth 20000 in
theorem ggX5_fails_X4_blocks : GoodIn wsX5_fails wsX4_blocks := goodIn_r _ [11] (by decide +kernel) (by decide +kernel)
set_option maxRecDepth 20000 in
theorem gX5_fails_X4_blocks : GoodIn wsX5_fails (va_wsS RX5 192 yX4_blocks wsX4_blocks) := goodIn_app (goodIn_of _ (by decide +kernel)) ggX5_fails_X4_blocks
set_option maxRecDepth 20000 in
theorem ggX5_fails_X5_failingRows : GoodIn wsX5_fails wsX5_failingRows := goodIn_r _ [15, 16, 1, 2, 17, 18, 19, 10, 20, 21, 22, 23, 24, 25, 26, 27, 28, 29, 30, 31, 32, 33, 34, 35, 36, 37, 38, 39, 40, 41, 42, 43, 44, 45, 46, 47, 48, 49, 50, 51, 52, 53, 54, 55, 56, 57, 58, 59, 60, 61, 62, 63, 64, 65, 66, 87, 88, 89, 90, 91, 92, 93, 94, 95, 96, 97, 98, 99, 100, 101, 102] (by decide +kernel) (by decide +kernel)
set_option maxRecDepth 20000 in
theorem gX5_fails_X5_failingRows : GoodIn wsX5_fails (wsV RX5 195 RX5 yX5_failingRows wsX5_failingRows) := goodIn_app (goodIn_of _ (by decide +kernel)) ggX5_fails_X5_failingRows
set_option maxRecDepth 20000 in
theorem ggX5_fails_J13_bitCount_95d88 : GoodIn wsX5_fails wsJ13_bitCount_95d88 := goodIn_r _ [73, 74, 75, 76] (by decide +kernel) (by decide +kernel)
set_option maxRecDepth 20000 in
theorem gX5_fails_J13_bitCount_95d88 : GoodIn wsX5_fails (va_wsS RX5 199 yJ13_bitCount_95d88 wsJ13_bitCount_95d88) := goodIn_app (goodIn_of _ (by decide +kernel)) ggX5_fails_J13_bitCount_95d88
theorem dX5_fails_0 : decode cX5_fails 0 = .ok (.iload_n 1, 1) := by decide +kernel
theorem dX5_fails_1 : decode cX5_fails 1 = .ok (.ifCond .eq 13, 3) := by decide +kernel
theorem dX5_fails_4 : decode cX5_fails 4 = .ok (.aload_n 0, 1) := by decide +kernel
theorem dX5_fails_5 : decode cX5_fails 5 = .ok (.aload_n 0, 1) := by decide +kernel
theorem dX5_fails_6 : decode cX5_fails 6 = .ok (.iconst (-1), 1) := by decide +kernel
theorem dX5_fails_7 : decode cX5_fails 7 = .ok (.invokevirtual 186, 3) := by decide +kernel
theorem dX5_fails_10 : decode cX5_fails 10 = .ok (.invokevirtual 189, 3) := by decide +kernel
theorem dX5_fails_13 : decode cX5_fails 13 = .ok (.ireturn, 1) := by decide +kernel
theorem dX5_fails_14 : decode cX5_fails 14 = .ok (.iconst 0, 1) := by decide +kernel
theorem dX5_fails_15 : decode cX5_fails 15 = .ok (.istore_n 2, 1) := by decide +kernel
theorem dX5_fails_16 : decode cX5_fails 16 = .ok (.iconst 0, 1) := by decide +kernel
theorem dX5_fails_17 : decode cX5_fails 17 = .ok (.istore_n 3, 1) := by decide +kernel
theorem dX5_fails_18 : decode cX5_fails 18 = .ok (.iload_n 3, 1) := by decide +kernel
theorem dX5_fails_19 : decode cX5_fails 19 = .ok (.aload_n 0, 1) := by decide +kernel
theorem dX5_fails_20 : decode cX5_fails 20 = .ok (.getfield 10, 3) := by decide +kernel
theorem dX5_fails_23 : decode cX5_fails 23 = .ok (.getfield 160, 3) := by decide +kernel
theorem dX5_fails_26 : decode cX5_fails 26 = .ok (.invokestatic 192, 3) := by decide +kernel
theorem dX5_fails_29 : decode cX5_fails 29 = .ok (.if_icmp .ge 21, 3) := by decide +kernel
theorem dX5_fails_32 : decode cX5_fails 32 = .ok (.iload_n 2, 1) := by decide +kernel
theorem dX5_fails_33 : decode cX5_fails 33 = .ok (.aload_n 0, 1) := by decide +kernel
theorem dX5_fails_34 : decode cX5_fails 34 = .ok (.iload_n 3, 1) := by decide +kernel
theorem dX5_fails_35 : decode cX5_fails 35 = .ok (.iconst (-1), 1) := by decide +kernel
theorem dX5_fails_36 : decode cX5_fails 36 = .ok (.invokevirtual 195, 3) := by decide +kernel
theorem dX5_fails_39 : decode cX5_fails 39 = .ok (.invokestatic 199, 3) := by decide +kernel
theorem dX5_fails_42 : decode cX5_fails 42 = .ok (.iadd, 1) := by decide +kernel
theorem dX5_fails_43 : decode cX5_fails 43 = .ok (.istore_n 2, 1) := by decide +kernel
theorem dX5_fails_44 : decode cX5_fails 44 = .ok (.iinc 3 1, 3) := by decide +kernel
theorem dX5_fails_47 : decode cX5_fails 47 = .ok (.goto (-29), 3) := by decide +kernel
theorem dX5_fails_50 : decode cX5_fails 50 = .ok (.iload_n 2, 1) := by decide +kernel
theorem dX5_fails_51 : decode cX5_fails 51 = .ok (.ireturn, 1) := by decide +kernel
set_option maxRecDepth 20000 in
theorem ggX5_merges_X5_finding : GoodIn wsX5_merges wsX5_finding := goodIn_r _ [9, 10, 65, 66, 67, 68, 69, 70, 71, 72, 73, 74, 75] (by decide +kernel) (by decide +kernel)
set_option maxRecDepth 20000 in
theorem gX5_merges_X5_finding : GoodIn wsX5_merges (wsV RX5 69 RX5 yX5_finding wsX5_finding) := goodIn_app (goodIn_of _ (by decide +kernel)) ggX5_merges_X5_finding
set_option maxRecDepth 20000 in
theorem ggX5_merges_X4_blocks : GoodIn wsX5_merges wsX4_blocks := goodIn_r _ [14] (by decide +kernel) (by decide +kernel)
set_option maxRecDepth 20000 in
theorem gX5_merges_X4_blocks : GoodIn wsX5_merges (va_wsS RX5 192 yX4_blocks wsX4_blocks) := goodIn_app (goodIn_of _ (by decide +kernel)) ggX5_merges_X4_blocks
set_option maxRecDepth 20000 in
theorem ggX5_merges_X4_start : GoodIn wsX5_merges wsX4_start := goodIn_r _ [18, 19, 20, 21, 22, 23, 13, 24, 25, 79, 80] (by decide +kernel) (by decide +kernel)
set_option maxRecDepth 20000 in
theorem gX5_merges_X4_start : GoodIn wsX5_merges (wsV RX5 176 RX4 yX4_start wsX4_start) := goodIn_app (goodIn_of _ (by decide +kernel)) ggX5_merges_X4_start
set_option maxRecDepth 20000 in
theorem ggX5_merges_X4_falling : GoodIn wsX5_merges wsX4_falling := goodIn_r _ [29, 21, 19, 79, 80] (by decide +kernel) (by decide +kernel)
set_option maxRecDepth 20000 in
theorem gX5_merges_X4_falling : GoodIn wsX5_merges (wsV RX5 205 RX4 yX4_falling wsX4_falling) := goodIn_app (goodIn_of _ (by decide +kernel)) ggX5_merges_X4_falling
set_option maxRecDepth 20000 in
theorem ggX5_merges_X4_pass : GoodIn wsX5_merges wsX4_pass := goodIn_r _ [33, 34, 35, 36, 37, 38, 39, 40, 41, 42, 43, 44, 45, 46, 47, 48, 49, 50, 51, 52, 53, 54, 55, 56, 57, 58, 59, 13, 60, 21, 61, 62, 63, 64, 19, 20, 76, 77, 78, 79, 80] (by decide +kernel) (by decide +kernel)
set_option maxRecDepth 20000 in
theorem gX5_merges_X4_pass : GoodIn wsX5_merges (wsV RX5 179 RX4 yX4_pass wsX4_pass) := goodIn_app (goodIn_of _ (by decide +kernel)) ggX5_merges_X4_pass
theorem dX5_merges_0 : decode cX5_merges 0 = .ok (.iload_n 1, 1) := by decide +kernel
theorem dX5_merges_1 : decode cX5_merges 1 = .ok (.iconst 1, 1) := by decide +kernel
theorem dX5_merges_2 : decode cX5_merges 2 = .ok (.if_icmp .lt 14, 3) := by decide +kernel
theorem dX5_merges_5 : decode cX5_merges 5 = .ok (.iload_n 1, 1) := by decide +kernel
theorem dX5_merges_6 : decode cX5_merges 6 = .ok (.aload_n 0, 1) := by decide +kernel
theorem dX5_merges_7 : decode cX5_merges 7 = .ok (.getfield 10, 3) := by decide +kernel
theorem dX5_merges_10 : decode cX5_merges 10 = .ok (.getfield 160, 3) := by decide +kernel
theorem dX5_merges_13 : decode cX5_merges 13 = .ok (.if_icmp .lt 9, 3) := by decide +kernel
theorem dX5_merges_16 : decode cX5_merges 16 = .ok (.aload_n 0, 1) := by decide +kernel
theorem dX5_merges_17 : decode cX5_merges 17 = .ok (.iconst (-1), 1) := by decide +kernel
theorem dX5_merges_18 : decode cX5_merges 18 = .ok (.invokevirtual 69, 3) := by decide +kernel
theorem dX5_merges_21 : decode cX5_merges 21 = .ok (.ireturn, 1) := by decide +kernel
theorem dX5_merges_22 : decode cX5_merges 22 = .ok (.iconst 0, 1) := by decide +kernel
theorem dX5_merges_23 : decode cX5_merges 23 = .ok (.istore_n 2, 1) := by decide +kernel
theorem dX5_merges_24 : decode cX5_merges 24 = .ok (.iload_n 2, 1) := by decide +kernel
theorem dX5_merges_25 : decode cX5_merges 25 = .ok (.aload_n 0, 1) := by decide +kernel
theorem dX5_merges_26 : decode cX5_merges 26 = .ok (.getfield 10, 3) := by decide +kernel
theorem dX5_merges_29 : decode cX5_merges 29 = .ok (.getfield 160, 3) := by decide +kernel
theorem dX5_merges_32 : decode cX5_merges 32 = .ok (.invokestatic 192, 3) := by decide +kernel
theorem dX5_merges_35 : decode cX5_merges 35 = .ok (.if_icmp .ge 90, 3) := by decide +kernel
theorem dX5_merges_38 : decode cX5_merges 38 = .ok (.aload_n 0, 1) := by decide +kernel
theorem dX5_merges_39 : decode cX5_merges 39 = .ok (.getfield 36, 3) := by decide +kernel
theorem dX5_merges_42 : decode cX5_merges 42 = .ok (.aload_n 0, 1) := by decide +kernel
theorem dX5_merges_43 : decode cX5_merges 43 = .ok (.getfield 10, 3) := by decide +kernel
theorem dX5_merges_46 : decode cX5_merges 46 = .ok (.getfield 160, 3) := by decide +kernel
theorem dX5_merges_49 : decode cX5_merges 49 = .ok (.iload_n 2, 1) := by decide +kernel
theorem dX5_merges_50 : decode cX5_merges 50 = .ok (.invokevirtual 176, 3) := by decide +kernel
theorem dX5_merges_53 : decode cX5_merges 53 = .ok (.aload_n 0, 1) := by decide +kernel
theorem dX5_merges_54 : decode cX5_merges 54 = .ok (.getfield 36, 3) := by decide +kernel
theorem dX5_merges_57 : decode cX5_merges 57 = .ok (.iconst 0, 1) := by decide +kernel
theorem dX5_merges_58 : decode cX5_merges 58 = .ok (.iload_n 1, 1) := by decide +kernel
theorem dX5_merges_59 : decode cX5_merges 59 = .ok (.invokevirtual 205, 3) := by decide +kernel
theorem dX5_merges_62 : decode cX5_merges 62 = .ok (.aload_n 0, 1) := by decide +kernel
theorem dX5_merges_63 : decode cX5_merges 63 = .ok (.getfield 36, 3) := by decide +kernel
theorem dX5_merges_66 : decode cX5_merges 66 = .ok (.iload_n 1, 1) := by decide +kernel
theorem dX5_merges_67 : decode cX5_merges 67 = .ok (.aload_n 0, 1) := by decide +kernel
theorem dX5_merges_68 : decode cX5_merges 68 = .ok (.getfield 10, 3) := by decide +kernel
theorem dX5_merges_71 : decode cX5_merges 71 = .ok (.getfield 160, 3) := by decide +kernel
theorem dX5_merges_74 : decode cX5_merges 74 = .ok (.invokevirtual 205, 3) := by decide +kernel
theorem dX5_merges_77 : decode cX5_merges 77 = .ok (.lor, 1) := by decide +kernel
theorem dX5_merges_78 : decode cX5_merges 78 = .ok (.lstore_n 3, 1) := by decide +kernel
theorem dX5_merges_79 : decode cX5_merges 79 = .ok (.aload_n 0, 1) := by decide +kernel
theorem dX5_merges_80 : decode cX5_merges 80 = .ok (.getfield 36, 3) := by decide +kernel
theorem dX5_merges_83 : decode cX5_merges 83 = .ok (.aload_n 0, 1) := by decide +kernel
theorem dX5_merges_84 : decode cX5_merges 84 = .ok (.getfield 10, 3) := by decide +kernel
theorem dX5_merges_87 : decode cX5_merges 87 = .ok (.iconst (-1), 1) := by decide +kernel
theorem dX5_merges_88 : decode cX5_merges 88 = .ok (.invokevirtual 179, 3) := by decide +kernel
theorem dX5_merges_91 : decode cX5_merges 91 = .ok (.aload_n 0, 1) := by decide +kernel
theorem dX5_merges_92 : decode cX5_merges 92 = .ok (.getfield 36, 3) := by decide +kernel
theorem dX5_merges_95 : decode cX5_merges 95 = .ok (.iconst 0, 1) := by decide +kernel
theorem dX5_merges_96 : decode cX5_merges 96 = .ok (.aload_n 0, 1) := by decide +kernel
theorem dX5_merges_97 : decode cX5_merges 97 = .ok (.getfield 10, 3) := by decide +kernel
theorem dX5_merges_100 : decode cX5_merges 100 = .ok (.getfield 160, 3) := by decide +kernel
theorem dX5_merges_103 : decode cX5_merges 103 = .ok (.invokevirtual 205, 3) := by decide +kernel
theorem dX5_merges_106 : decode cX5_merges 106 = .ok (.lload_n 3, 1) := by decide +kernel
theorem dX5_merges_107 : decode cX5_merges 107 = .ok (.ldc2_w 208, 3) := by decide +kernel
theorem dX5_merges_110 : decode cX5_merges 110 = .ok (.lxor, 1) := by decide +kernel
theorem dX5_merges_111 : decode cX5_merges 111 = .ok (.land, 1) := by decide +kernel
theorem dX5_merges_112 : decode cX5_merges 112 = .ok (.lconst 0, 1) := by decide +kernel
theorem dX5_merges_113 : decode cX5_merges 113 = .ok (.lcmp, 1) := by decide +kernel
theorem dX5_merges_114 : decode cX5_merges 114 = .ok (.ifCond .eq 5, 3) := by decide +kernel
theorem dX5_merges_117 : decode cX5_merges 117 = .ok (.iconst 0, 1) := by decide +kernel
theorem dX5_merges_118 : decode cX5_merges 118 = .ok (.ireturn, 1) := by decide +kernel
theorem dX5_merges_119 : decode cX5_merges 119 = .ok (.iinc 2 1, 3) := by decide +kernel
theorem dX5_merges_122 : decode cX5_merges 122 = .ok (.goto (-98), 3) := by decide +kernel
theorem dX5_merges_125 : decode cX5_merges 125 = .ok (.iconst 1, 1) := by decide +kernel
theorem dX5_merges_126 : decode cX5_merges 126 = .ok (.ireturn, 1) := by decide +kernel
set_option maxRecDepth 20000 in
theorem ggX5_idle_X3_has : GoodIn wsX5_idle wsX3_has := goodIn_r _ [6, 7, 80, 81, 82] (by decide +kernel) (by decide +kernel)
set_option maxRecDepth 20000 in
theorem gX5_idle_X3_has : GoodIn wsX5_idle (wsV RX5 91 RX3 yX3_has wsX3_has) := goodIn_app (goodIn_of _ (by decide +kernel)) ggX5_idle_X3_has
set_option maxRecDepth 20000 in
theorem ggX5_idle_X5_finding : GoodIn wsX5_idle wsX5_finding := goodIn_r _ [12, 13, 69, 70, 71, 72, 73, 74, 75, 76, 77, 78, 79] (by decide +kernel) (by decide +kernel)
set_option maxRecDepth 20000 in
theorem gX5_idle_X5_finding : GoodIn wsX5_idle (wsV RX5 69 RX5 yX5_finding wsX5_finding) := goodIn_app (goodIn_of _ (by decide +kernel)) ggX5_idle_X5_finding
set_option maxRecDepth 20000 in
theorem ggX5_idle_X5_busyComparers : GoodIn wsX5_idle wsX5_busyComparers := goodIn_r _ [17, 1, 18, 19, 20, 21, 22, 23, 24, 25, 26, 27, 28, 29, 30, 31, 32, 33, 34, 35, 36, 37, 38, 5, 39, 40, 41, 42, 43, 44, 45, 46, 47, 48, 49, 50, 51, 52, 53, 54, 55, 56, 57, 58, 59, 60, 61, 62, 63, 64, 65, 69, 70, 71, 72, 73, 74, 75, 76, 77, 78, 79, 80, 81, 82, 83, 84] (by decide +kernel) (by decide +kernel)
set_option maxRecDepth 20000 in
theorem gX5_idle_X5_busyComparers : GoodIn wsX5_idle (wsV RX5 210 RX5 yX5_busyComparers wsX5_busyComparers) := goodIn_app (goodIn_of _ (by decide +kernel)) ggX5_idle_X5_busyComparers
set_option maxRecDepth 20000 in
theorem ggX5_idle_X5_isIn : GoodIn wsX5_idle wsX5_isIn := goodIn_r _ [68] (by decide +kernel) (by decide +kernel)
set_option maxRecDepth 20000 in
theorem gX5_idle_X5_isIn : GoodIn wsX5_idle (va_wsS RX5 214 yX5_isIn wsX5_isIn) := goodIn_app (goodIn_of _ (by decide +kernel)) ggX5_idle_X5_isIn
theorem dX5_idle_0 : decode cX5_idle 0 = .ok (.aload_n 0, 1) := by decide +kernel
theorem dX5_idle_1 : decode cX5_idle 1 = .ok (.getfield 10, 3) := by decide +kernel
theorem dX5_idle_4 : decode cX5_idle 4 = .ok (.iload_n 1, 1) := by decide +kernel
theorem dX5_idle_5 : decode cX5_idle 5 = .ok (.invokevirtual 91, 3) := by decide +kernel
theorem dX5_idle_8 : decode cX5_idle 8 = .ok (.ifCond .ne 9, 3) := by decide +kernel
theorem dX5_idle_11 : decode cX5_idle 11 = .ok (.aload_n 0, 1) := by decide +kernel
theorem dX5_idle_12 : decode cX5_idle 12 = .ok (.iconst (-1), 1) := by decide +kernel
theorem dX5_idle_13 : decode cX5_idle 13 = .ok (.invokevirtual 69, 3) := by decide +kernel
theorem dX5_idle_16 : decode cX5_idle 16 = .ok (.ireturn, 1) := by decide +kernel
theorem dX5_idle_17 : decode cX5_idle 17 = .ok (.aload_n 0, 1) := by decide +kernel
theorem dX5_idle_18 : decode cX5_idle 18 = .ok (.invokevirtual 210, 3) := by decide +kernel
theorem dX5_idle_21 : decode cX5_idle 21 = .ok (.iload_n 1, 1) := by decide +kernel
theorem dX5_idle_22 : decode cX5_idle 22 = .ok (.invokestatic 214, 3) := by decide +kernel
theorem dX5_idle_25 : decode cX5_idle 25 = .ok (.ifCond .eq 7, 3) := by decide +kernel
theorem dX5_idle_28 : decode cX5_idle 28 = .ok (.iconst 0, 1) := by decide +kernel
theorem dX5_idle_29 : decode cX5_idle 29 = .ok (.goto 4, 3) := by decide +kernel
theorem dX5_idle_32 : decode cX5_idle 32 = .ok (.iconst 1, 1) := by decide +kernel
theorem dX5_idle_33 : decode cX5_idle 33 = .ok (.ireturn, 1) := by decide +kernel
set_option maxRecDepth 20000 in
theorem ggX5_drop_X5_busyComparers : GoodIn wsX5_drop wsX5_busyComparers := goodIn_r _ [9, 2, 10, 11, 3, 12, 13, 14, 15, 16, 17, 18, 19, 20, 21, 22, 23, 24, 25, 26, 27, 28, 29, 30, 31, 32, 33, 34, 35, 36, 37, 38, 39, 40, 41, 42, 43, 44, 45, 46, 47, 48, 49, 50, 51, 52, 53, 54, 55, 56, 57, 83, 84, 85, 86, 87, 88, 89, 90, 91, 92, 93, 94, 95, 96, 97, 98] (by decide +kernel) (by decide +kernel)
set_option maxRecDepth 20000 in
theorem gX5_drop_X5_busyComparers : GoodIn wsX5_drop (wsV RX5 210 RX5 yX5_busyComparers wsX5_busyComparers) := goodIn_app (goodIn_of _ (by decide +kernel)) ggX5_drop_X5_busyComparers
set_option maxRecDepth 20000 in
theorem ggX5_drop_X2_remember : GoodIn wsX5_drop wsX2_remember := goodIn_r _ [62, 63, 64, 65, 66, 67, 68, 69, 70, 71, 72, 30, 73, 74, 75, 36, 76, 77, 78, 79, 99, 100, 101, 94, 95, 96] (by decide +kernel) (by decide +kernel)
set_option maxRecDepth 20000 in
theorem gX5_drop_X2_remember : GoodIn wsX5_drop (wsV RX5 73 RX2 yX2_remember wsX2_remember) := goodIn_app (goodIn_of _ (by decide +kernel)) ggX5_drop_X2_remember
set_option maxRecDepth 20000 in
theorem ggX5_drop_X5_isIn : GoodIn wsX5_drop wsX5_isIn := goodIn_r _ [82] (by decide +kernel) (by decide +kernel)
set_option maxRecDepth 20000 in
theorem gX5_drop_X5_isIn : GoodIn wsX5_drop (va_wsS RX5 214 yX5_isIn wsX5_isIn) := goodIn_app (goodIn_of _ (by decide +kernel)) ggX5_drop_X5_isIn
theorem dX5_drop_0 : decode cX5_drop 0 = .ok (.aload_n 0, 1) := by decide +kernel
theorem dX5_drop_1 : decode cX5_drop 1 = .ok (.invokevirtual 210, 3) := by decide +kernel
theorem dX5_drop_4 : decode cX5_drop 4 = .ok (.lstore_n 1, 1) := by decide +kernel
theorem dX5_drop_5 : decode cX5_drop 5 = .ok (.aload_n 0, 1) := by decide +kernel
theorem dX5_drop_6 : decode cX5_drop 6 = .ok (.getfield 23, 3) := by decide +kernel
theorem dX5_drop_9 : decode cX5_drop 9 = .ok (.aload_n 0, 1) := by decide +kernel
theorem dX5_drop_10 : decode cX5_drop 10 = .ok (.getfield 10, 3) := by decide +kernel
theorem dX5_drop_13 : decode cX5_drop 13 = .ok (.invokevirtual 73, 3) := by decide +kernel
theorem dX5_drop_16 : decode cX5_drop 16 = .ok (.iconst 0, 1) := by decide +kernel
theorem dX5_drop_17 : decode cX5_drop 17 = .ok (.istore_n 3, 1) := by decide +kernel
theorem dX5_drop_18 : decode cX5_drop 18 = .ok (.iconst 0, 1) := by decide +kernel
theorem dX5_drop_19 : decode cX5_drop 19 = .ok (.istore 4, 2) := by decide +kernel
theorem dX5_drop_21 : decode cX5_drop 21 = .ok (.iload 4, 2) := by decide +kernel
theorem dX5_drop_23 : decode cX5_drop 23 = .ok (.aload_n 0, 1) := by decide +kernel
theorem dX5_drop_24 : decode cX5_drop 24 = .ok (.getfield 10, 3) := by decide +kernel
theorem dX5_drop_27 : decode cX5_drop 27 = .ok (.getfield 77, 3) := by decide +kernel
theorem dX5_drop_30 : decode cX5_drop 30 = .ok (.if_icmp .ge 40, 3) := by decide +kernel
theorem dX5_drop_33 : decode cX5_drop 33 = .ok (.lload_n 1, 1) := by decide +kernel
theorem dX5_drop_34 : decode cX5_drop 34 = .ok (.iload 4, 2) := by decide +kernel
theorem dX5_drop_36 : decode cX5_drop 36 = .ok (.invokestatic 214, 3) := by decide +kernel
theorem dX5_drop_39 : decode cX5_drop 39 = .ok (.ifCond .eq 25, 3) := by decide +kernel
theorem dX5_drop_42 : decode cX5_drop 42 = .ok (.aload_n 0, 1) := by decide +kernel
theorem dX5_drop_43 : decode cX5_drop 43 = .ok (.getfield 10, 3) := by decide +kernel
theorem dX5_drop_46 : decode cX5_drop 46 = .ok (.getfield 218, 3) := by decide +kernel
theorem dX5_drop_49 : decode cX5_drop 49 = .ok (.iload_n 3, 1) := by decide +kernel
theorem dX5_drop_50 : decode cX5_drop 50 = .ok (.aload_n 0, 1) := by decide +kernel
theorem dX5_drop_51 : decode cX5_drop 51 = .ok (.getfield 10, 3) := by decide +kernel
theorem dX5_drop_54 : decode cX5_drop 54 = .ok (.getfield 218, 3) := by decide +kernel
theorem dX5_drop_57 : decode cX5_drop 57 = .ok (.iload 4, 2) := by decide +kernel
theorem dX5_drop_59 : decode cX5_drop 59 = .ok (.iaload, 1) := by decide +kernel
theorem dX5_drop_60 : decode cX5_drop 60 = .ok (.iastore, 1) := by decide +kernel
theorem dX5_drop_61 : decode cX5_drop 61 = .ok (.iinc 3 1, 3) := by decide +kernel
theorem dX5_drop_64 : decode cX5_drop 64 = .ok (.iinc 4 1, 3) := by decide +kernel
theorem dX5_drop_67 : decode cX5_drop 67 = .ok (.goto (-46), 3) := by decide +kernel
theorem dX5_drop_70 : decode cX5_drop 70 = .ok (.aload_n 0, 1) := by decide +kernel
theorem dX5_drop_71 : decode cX5_drop 71 = .ok (.getfield 10, 3) := by decide +kernel
theorem dX5_drop_74 : decode cX5_drop 74 = .ok (.getfield 77, 3) := by decide +kernel
theorem dX5_drop_77 : decode cX5_drop 77 = .ok (.iload_n 3, 1) := by decide +kernel
theorem dX5_drop_78 : decode cX5_drop 78 = .ok (.isub, 1) := by decide +kernel
theorem dX5_drop_79 : decode cX5_drop 79 = .ok (.istore 4, 2) := by decide +kernel
theorem dX5_drop_81 : decode cX5_drop 81 = .ok (.aload_n 0, 1) := by decide +kernel
theorem dX5_drop_82 : decode cX5_drop 82 = .ok (.getfield 10, 3) := by decide +kernel
theorem dX5_drop_85 : decode cX5_drop 85 = .ok (.iload_n 3, 1) := by decide +kernel
theorem dX5_drop_86 : decode cX5_drop 86 = .ok (.putfield 77, 3) := by decide +kernel
theorem dX5_drop_89 : decode cX5_drop 89 = .ok (.iload 4, 2) := by decide +kernel
theorem dX5_drop_91 : decode cX5_drop 91 = .ok (.ireturn, 1) := by decide +kernel
set_option maxRecDepth 20000 in
theorem ggX5_turn_X3_actingKind : GoodIn wsX5_turn wsX3_actingKind := goodIn_r _ [16, 17, 18, 19, 15, 20, 21, 22, 23, 24, 25, 77, 78, 79] (by decide +kernel) (by decide +kernel)
set_option maxRecDepth 20000 in
theorem gX5_turn_X3_actingKind : GoodIn wsX5_turn (wsV RX5 163 RX3 yX3_actingKind wsX3_actingKind) := goodIn_app (goodIn_of _ (by decide +kernel)) ggX5_turn_X3_actingKind
set_option maxRecDepth 20000 in
theorem ggX5_turn_X5_finding : GoodIn wsX5_turn wsX5_finding := goodIn_r _ [30, 31, 66, 67, 68, 69, 70, 71, 72, 73, 74, 75, 76] (by decide +kernel) (by decide +kernel)
set_option maxRecDepth 20000 in
theorem gX5_turn_X5_finding : GoodIn wsX5_turn (wsV RX5 69 RX5 yX5_finding wsX5_finding) := goodIn_app (goodIn_of _ (by decide +kernel)) ggX5_turn_X5_finding
set_option maxRecDepth 20000 in
theorem ggX5_turn_X2_remember : GoodIn wsX5_turn wsX2_remember := goodIn_r _ [36, 37, 38, 39, 40, 6, 7, 8, 41, 42, 43, 15, 44, 45, 46, 21, 47, 48, 49, 50, 80, 81, 82, 77, 78, 79] (by decide +kernel) (by decide +kernel)
set_option maxRecDepth 20000 in
theorem gX5_turn_X2_remember : GoodIn wsX5_turn (wsV RX5 73 RX2 yX2_remember wsX2_remember) := goodIn_app (goodIn_of _ (by decide +kernel)) ggX5_turn_X2_remember
set_option maxRecDepth 20000 in
theorem ggX5_turn_X3_low : GoodIn wsX5_turn wsX3_low := goodIn_r _ [54, 21, 77, 78, 79] (by decide +kernel) (by decide +kernel)
set_option maxRecDepth 20000 in
theorem gX5_turn_X3_low : GoodIn wsX5_turn (wsV RX5 97 RX3 yX3_low wsX3_low) := goodIn_app (goodIn_of _ (by decide +kernel)) ggX5_turn_X3_low
set_option maxRecDepth 20000 in
theorem ggX5_turn_X3_high : GoodIn wsX5_turn wsX3_high := goodIn_r _ [58, 21, 77, 78, 79] (by decide +kernel) (by decide +kernel)
set_option maxRecDepth 20000 in
theorem gX5_turn_X3_high : GoodIn wsX5_turn (wsV RX5 100 RX3 yX3_high wsX3_high) := goodIn_app (goodIn_of _ (by decide +kernel)) ggX5_turn_X3_high
set_option maxRecDepth 20000 in
theorem ggX5_turn_X3_write : GoodIn wsX5_turn wsX3_write := goodIn_r _ [62, 21, 77, 78, 79] (by decide +kernel) (by decide +kernel)
set_option maxRecDepth 20000 in
theorem gX5_turn_X3_write : GoodIn wsX5_turn (wsV RX5 103 RX3 yX3_write wsX3_write) := goodIn_app (goodIn_of _ (by decide +kernel)) ggX5_turn_X3_write
set_option maxRecDepth 20000 in
theorem ggX5_turn_X5_changesPlaces : GoodIn wsX5_turn wsX5_changesPlaces := goodIn_r _ [65] (by decide +kernel) (by decide +kernel)
set_option maxRecDepth 20000 in
theorem gX5_turn_X5_changesPlaces : GoodIn wsX5_turn (va_wsS RX5 229 yX5_changesPlaces wsX5_changesPlaces) := goodIn_app (goodIn_of _ (by decide +kernel)) ggX5_turn_X5_changesPlaces
theorem dX5_turn_0 : decode cX5_turn 0 = .ok (.iconst 0, 1) := by decide +kernel
theorem dX5_turn_1 : decode cX5_turn 1 = .ok (.istore_n 1, 1) := by decide +kernel
theorem dX5_turn_2 : decode cX5_turn 2 = .ok (.iload_n 1, 1) := by decide +kernel
theorem dX5_turn_3 : decode cX5_turn 3 = .ok (.aload_n 0, 1) := by decide +kernel
theorem dX5_turn_4 : decode cX5_turn 4 = .ok (.getfield 10, 3) := by decide +kernel
theorem dX5_turn_7 : decode cX5_turn 7 = .ok (.getfield 77, 3) := by decide +kernel
theorem dX5_turn_10 : decode cX5_turn 10 = .ok (.if_icmp .ge 28, 3) := by decide +kernel
theorem dX5_turn_13 : decode cX5_turn 13 = .ok (.aload_n 0, 1) := by decide +kernel
theorem dX5_turn_14 : decode cX5_turn 14 = .ok (.getfield 10, 3) := by decide +kernel
theorem dX5_turn_17 : decode cX5_turn 17 = .ok (.iload_n 1, 1) := by decide +kernel
theorem dX5_turn_18 : decode cX5_turn 18 = .ok (.invokevirtual 163, 3) := by decide +kernel
theorem dX5_turn_21 : decode cX5_turn 21 = .ok (.iconst 2, 1) := by decide +kernel
theorem dX5_turn_22 : decode cX5_turn 22 = .ok (.if_icmp .ne 10, 3) := by decide +kernel
theorem dX5_turn_25 : decode cX5_turn 25 = .ok (.aload_n 0, 1) := by decide +kernel
theorem dX5_turn_26 : decode cX5_turn 26 = .ok (.bipush (-7), 2) := by decide +kernel
theorem dX5_turn_28 : decode cX5_turn 28 = .ok (.invokevirtual 69, 3) := by decide +kernel
theorem dX5_turn_31 : decode cX5_turn 31 = .ok (.ireturn, 1) := by decide +kernel
theorem dX5_turn_32 : decode cX5_turn 32 = .ok (.iinc 1 1, 3) := by decide +kernel
theorem dX5_turn_35 : decode cX5_turn 35 = .ok (.goto (-33), 3) := by decide +kernel
theorem dX5_turn_38 : decode cX5_turn 38 = .ok (.aload_n 0, 1) := by decide +kernel
theorem dX5_turn_39 : decode cX5_turn 39 = .ok (.getfield 23, 3) := by decide +kernel
theorem dX5_turn_42 : decode cX5_turn 42 = .ok (.aload_n 0, 1) := by decide +kernel
theorem dX5_turn_43 : decode cX5_turn 43 = .ok (.getfield 10, 3) := by decide +kernel
theorem dX5_turn_46 : decode cX5_turn 46 = .ok (.invokevirtual 73, 3) := by decide +kernel
theorem dX5_turn_49 : decode cX5_turn 49 = .ok (.iconst 0, 1) := by decide +kernel
theorem dX5_turn_50 : decode cX5_turn 50 = .ok (.istore_n 1, 1) := by decide +kernel
theorem dX5_turn_51 : decode cX5_turn 51 = .ok (.iload_n 1, 1) := by decide +kernel
theorem dX5_turn_52 : decode cX5_turn 52 = .ok (.bipush 8, 2) := by decide +kernel
theorem dX5_turn_54 : decode cX5_turn 54 = .ok (.if_icmp .ge 16, 3) := by decide +kernel
theorem dX5_turn_57 : decode cX5_turn 57 = .ok (.aload_n 0, 1) := by decide +kernel
theorem dX5_turn_58 : decode cX5_turn 58 = .ok (.getfield 50, 3) := by decide +kernel
theorem dX5_turn_61 : decode cX5_turn 61 = .ok (.iload_n 1, 1) := by decide +kernel
theorem dX5_turn_62 : decode cX5_turn 62 = .ok (.iload_n 1, 1) := by decide +kernel
theorem dX5_turn_63 : decode cX5_turn 63 = .ok (.iastore, 1) := by decide +kernel
theorem dX5_turn_64 : decode cX5_turn 64 = .ok (.iinc 1 1, 3) := by decide +kernel
theorem dX5_turn_67 : decode cX5_turn 67 = .ok (.goto (-16), 3) := by decide +kernel
theorem dX5_turn_70 : decode cX5_turn 70 = .ok (.iconst 0, 1) := by decide +kernel
theorem dX5_turn_71 : decode cX5_turn 71 = .ok (.istore_n 1, 1) := by decide +kernel
theorem dX5_turn_72 : decode cX5_turn 72 = .ok (.iconst 0, 1) := by decide +kernel
theorem dX5_turn_73 : decode cX5_turn 73 = .ok (.istore_n 2, 1) := by decide +kernel
theorem dX5_turn_74 : decode cX5_turn 74 = .ok (.iload_n 2, 1) := by decide +kernel
theorem dX5_turn_75 : decode cX5_turn 75 = .ok (.aload_n 0, 1) := by decide +kernel
theorem dX5_turn_76 : decode cX5_turn 76 = .ok (.getfield 10, 3) := by decide +kernel
theorem dX5_turn_79 : decode cX5_turn 79 = .ok (.getfield 77, 3) := by decide +kernel
theorem dX5_turn_82 : decode cX5_turn 82 = .ok (.if_icmp .ge 116, 3) := by decide +kernel
theorem dX5_turn_85 : decode cX5_turn 85 = .ok (.aload_n 0, 1) := by decide +kernel
theorem dX5_turn_86 : decode cX5_turn 86 = .ok (.getfield 10, 3) := by decide +kernel
theorem dX5_turn_89 : decode cX5_turn 89 = .ok (.iload_n 2, 1) := by decide +kernel
theorem dX5_turn_90 : decode cX5_turn 90 = .ok (.invokevirtual 163, 3) := by decide +kernel
theorem dX5_turn_93 : decode cX5_turn 93 = .ok (.istore_n 3, 1) := by decide +kernel
theorem dX5_turn_94 : decode cX5_turn 94 = .ok (.aload_n 0, 1) := by decide +kernel
theorem dX5_turn_95 : decode cX5_turn 95 = .ok (.getfield 10, 3) := by decide +kernel
theorem dX5_turn_98 : decode cX5_turn 98 = .ok (.iload_n 2, 1) := by decide +kernel
theorem dX5_turn_99 : decode cX5_turn 99 = .ok (.invokevirtual 97, 3) := by decide +kernel
theorem dX5_turn_102 : decode cX5_turn 102 = .ok (.istore 4, 2) := by decide +kernel
theorem dX5_turn_104 : decode cX5_turn 104 = .ok (.aload_n 0, 1) := by decide +kernel
theorem dX5_turn_105 : decode cX5_turn 105 = .ok (.getfield 10, 3) := by decide +kernel
theorem dX5_turn_108 : decode cX5_turn 108 = .ok (.iload_n 2, 1) := by decide +kernel
theorem dX5_turn_109 : decode cX5_turn 109 = .ok (.invokevirtual 100, 3) := by decide +kernel
theorem dX5_turn_112 : decode cX5_turn 112 = .ok (.istore 5, 2) := by decide +kernel
theorem dX5_turn_114 : decode cX5_turn 114 = .ok (.aload_n 0, 1) := by decide +kernel
theorem dX5_turn_115 : decode cX5_turn 115 = .ok (.getfield 50, 3) := by decide +kernel
theorem dX5_turn_118 : decode cX5_turn 118 = .ok (.iload 4, 2) := by decide +kernel
theorem dX5_turn_120 : decode cX5_turn 120 = .ok (.iaload, 1) := by decide +kernel
theorem dX5_turn_121 : decode cX5_turn 121 = .ok (.istore 6, 2) := by decide +kernel
theorem dX5_turn_123 : decode cX5_turn 123 = .ok (.aload_n 0, 1) := by decide +kernel
theorem dX5_turn_124 : decode cX5_turn 124 = .ok (.getfield 50, 3) := by decide +kernel
theorem dX5_turn_127 : decode cX5_turn 127 = .ok (.iload 5, 2) := by decide +kernel
theorem dX5_turn_129 : decode cX5_turn 129 = .ok (.iaload, 1) := by decide +kernel
theorem dX5_turn_130 : decode cX5_turn 130 = .ok (.istore 7, 2) := by decide +kernel
theorem dX5_turn_132 : decode cX5_turn 132 = .ok (.iload_n 3, 1) := by decide +kernel
theorem dX5_turn_133 : decode cX5_turn 133 = .ok (.iconst 3, 1) := by decide +kernel
theorem dX5_turn_134 : decode cX5_turn 134 = .ok (.if_icmp .eq 29, 3) := by decide +kernel
theorem dX5_turn_137 : decode cX5_turn 137 = .ok (.aload_n 0, 1) := by decide +kernel
theorem dX5_turn_138 : decode cX5_turn 138 = .ok (.getfield 10, 3) := by decide +kernel
theorem dX5_turn_141 : decode cX5_turn 141 = .ok (.iload_n 1, 1) := by decide +kernel
theorem dX5_turn_142 : decode cX5_turn 142 = .ok (.iconst 0, 1) := by decide +kernel
theorem dX5_turn_143 : decode cX5_turn 143 = .ok (.iload 6, 2) := by decide +kernel
theorem dX5_turn_145 : decode cX5_turn 145 = .ok (.iload 7, 2) := by decide +kernel
theorem dX5_turn_147 : decode cX5_turn 147 = .ok (.invokestatic 221, 3) := by decide +kernel
theorem dX5_turn_150 : decode cX5_turn 150 = .ok (.iload 6, 2) := by decide +kernel
theorem dX5_turn_152 : decode cX5_turn 152 = .ok (.iload 7, 2) := by decide +kernel
theorem dX5_turn_154 : decode cX5_turn 154 = .ok (.invokestatic 226, 3) := by decide +kernel
theorem dX5_turn_157 : decode cX5_turn 157 = .ok (.invokevirtual 103, 3) := by decide +kernel
theorem dX5_turn_160 : decode cX5_turn 160 = .ok (.iinc 1 1, 3) := by decide +kernel
theorem dX5_turn_163 : decode cX5_turn 163 = .ok (.iload_n 3, 1) := by decide +kernel
theorem dX5_turn_164 : decode cX5_turn 164 = .ok (.iload 6, 2) := by decide +kernel
theorem dX5_turn_166 : decode cX5_turn 166 = .ok (.iload 7, 2) := by decide +kernel
theorem dX5_turn_168 : decode cX5_turn 168 = .ok (.invokestatic 229, 3) := by decide +kernel
theorem dX5_turn_171 : decode cX5_turn 171 = .ok (.ifCond .eq 21, 3) := by decide +kernel
theorem dX5_turn_174 : decode cX5_turn 174 = .ok (.aload_n 0, 1) := by decide +kernel
theorem dX5_turn_175 : decode cX5_turn 175 = .ok (.getfield 50, 3) := by decide +kernel
theorem dX5_turn_178 : decode cX5_turn 178 = .ok (.iload 4, 2) := by decide +kernel
theorem dX5_turn_180 : decode cX5_turn 180 = .ok (.iload 7, 2) := by decide +kernel
theorem dX5_turn_182 : decode cX5_turn 182 = .ok (.iastore, 1) := by decide +kernel
theorem dX5_turn_183 : decode cX5_turn 183 = .ok (.aload_n 0, 1) := by decide +kernel
theorem dX5_turn_184 : decode cX5_turn 184 = .ok (.getfield 50, 3) := by decide +kernel
theorem dX5_turn_187 : decode cX5_turn 187 = .ok (.iload 5, 2) := by decide +kernel
theorem dX5_turn_189 : decode cX5_turn 189 = .ok (.iload 6, 2) := by decide +kernel
theorem dX5_turn_191 : decode cX5_turn 191 = .ok (.iastore, 1) := by decide +kernel
theorem dX5_turn_192 : decode cX5_turn 192 = .ok (.iinc 2 1, 3) := by decide +kernel
theorem dX5_turn_195 : decode cX5_turn 195 = .ok (.goto (-121), 3) := by decide +kernel
theorem dX5_turn_198 : decode cX5_turn 198 = .ok (.aload_n 0, 1) := by decide +kernel
theorem dX5_turn_199 : decode cX5_turn 199 = .ok (.getfield 10, 3) := by decide +kernel
theorem dX5_turn_202 : decode cX5_turn 202 = .ok (.iload_n 1, 1) := by decide +kernel
theorem dX5_turn_203 : decode cX5_turn 203 = .ok (.putfield 77, 3) := by decide +kernel
theorem dX5_turn_206 : decode cX5_turn 206 = .ok (.iload_n 1, 1) := by decide +kernel
theorem dX5_turn_207 : decode cX5_turn 207 = .ok (.ireturn, 1) := by decide +kernel
set_option maxRecDepth 20000 in
theorem ggX5_mirror_X2_remember : GoodIn wsX5_mirror wsX2_remember := goodIn_r _ [9, 10, 11, 12, 13, 14, 15, 16, 17, 18, 19, 20, 21, 22, 23, 24, 25, 26, 27, 28, 59, 60, 61, 56, 57, 58] (by decide +kernel) (by decide +kernel)
set_option maxRecDepth 20000 in
theorem gX5_mirror_X2_remember : GoodIn wsX5_mirror (wsV RX5 73 RX2 yX2_remember wsX2_remember) := goodIn_app (goodIn_of _ (by decide +kernel)) ggX5_mirror_X2_remember
set_option maxRecDepth 20000 in
theorem ggX5_mirror_X3_high : GoodIn wsX5_mirror wsX3_high := goodIn_r _ [32, 24, 56, 57, 58] (by decide +kernel) (by decide +kernel)
set_option maxRecDepth 20000 in
theorem gX5_mirror_X3_high : GoodIn wsX5_mirror (wsV RX5 100 RX3 yX3_high wsX3_high) := goodIn_app (goodIn_of _ (by decide +kernel)) ggX5_mirror_X3_high
set_option maxRecDepth 20000 in
theorem ggX5_mirror_X3_low : GoodIn wsX5_mirror wsX3_low := goodIn_r _ [36, 24, 56, 57, 58] (by decide +kernel) (by decide +kernel)
set_option maxRecDepth 20000 in
theorem gX5_mirror_X3_low : GoodIn wsX5_mirror (wsV RX5 97 RX3 yX3_low wsX3_low) := goodIn_app (goodIn_of _ (by decide +kernel)) ggX5_mirror_X3_low
set_option maxRecDepth 20000 in
theorem ggX5_mirror_X3_move : GoodIn wsX5_mirror wsX3_move := goodIn_r _ [40, 24, 41, 42, 43, 20, 44, 56, 57, 58] (by decide +kernel) (by decide +kernel)
set_option maxRecDepth 20000 in
theorem gX5_mirror_X3_move : GoodIn wsX5_mirror (wsV RX5 232 RX3 yX3_move wsX3_move) := goodIn_app (goodIn_of _ (by decide +kernel)) ggX5_mirror_X3_move
theorem dX5_mirror_0 : decode cX5_mirror 0 = .ok (.aload_n 0, 1) := by decide +kernel
theorem dX5_mirror_1 : decode cX5_mirror 1 = .ok (.getfield 23, 3) := by decide +kernel
theorem dX5_mirror_4 : decode cX5_mirror 4 = .ok (.aload_n 0, 1) := by decide +kernel
theorem dX5_mirror_5 : decode cX5_mirror 5 = .ok (.getfield 10, 3) := by decide +kernel
theorem dX5_mirror_8 : decode cX5_mirror 8 = .ok (.invokevirtual 73, 3) := by decide +kernel
theorem dX5_mirror_11 : decode cX5_mirror 11 = .ok (.aload_n 0, 1) := by decide +kernel
theorem dX5_mirror_12 : decode cX5_mirror 12 = .ok (.getfield 10, 3) := by decide +kernel
theorem dX5_mirror_15 : decode cX5_mirror 15 = .ok (.getfield 160, 3) := by decide +kernel
theorem dX5_mirror_18 : decode cX5_mirror 18 = .ok (.iconst 1, 1) := by decide +kernel
theorem dX5_mirror_19 : decode cX5_mirror 19 = .ok (.isub, 1) := by decide +kernel
theorem dX5_mirror_20 : decode cX5_mirror 20 = .ok (.istore_n 1, 1) := by decide +kernel
theorem dX5_mirror_21 : decode cX5_mirror 21 = .ok (.iconst 0, 1) := by decide +kernel
theorem dX5_mirror_22 : decode cX5_mirror 22 = .ok (.istore_n 2, 1) := by decide +kernel
theorem dX5_mirror_23 : decode cX5_mirror 23 = .ok (.iload_n 2, 1) := by decide +kernel
theorem dX5_mirror_24 : decode cX5_mirror 24 = .ok (.aload_n 0, 1) := by decide +kernel
theorem dX5_mirror_25 : decode cX5_mirror 25 = .ok (.getfield 10, 3) := by decide +kernel
theorem dX5_mirror_28 : decode cX5_mirror 28 = .ok (.getfield 77, 3) := by decide +kernel
theorem dX5_mirror_31 : decode cX5_mirror 31 = .ok (.if_icmp .ge 37, 3) := by decide +kernel
theorem dX5_mirror_34 : decode cX5_mirror 34 = .ok (.aload_n 0, 1) := by decide +kernel
theorem dX5_mirror_35 : decode cX5_mirror 35 = .ok (.getfield 10, 3) := by decide +kernel
theorem dX5_mirror_38 : decode cX5_mirror 38 = .ok (.iload_n 2, 1) := by decide +kernel
theorem dX5_mirror_39 : decode cX5_mirror 39 = .ok (.iload_n 1, 1) := by decide +kernel
theorem dX5_mirror_40 : decode cX5_mirror 40 = .ok (.aload_n 0, 1) := by decide +kernel
theorem dX5_mirror_41 : decode cX5_mirror 41 = .ok (.getfield 10, 3) := by decide +kernel
theorem dX5_mirror_44 : decode cX5_mirror 44 = .ok (.iload_n 2, 1) := by decide +kernel
theorem dX5_mirror_45 : decode cX5_mirror 45 = .ok (.invokevirtual 100, 3) := by decide +kernel
theorem dX5_mirror_48 : decode cX5_mirror 48 = .ok (.isub, 1) := by decide +kernel
theorem dX5_mirror_49 : decode cX5_mirror 49 = .ok (.iload_n 1, 1) := by decide +kernel
theorem dX5_mirror_50 : decode cX5_mirror 50 = .ok (.aload_n 0, 1) := by decide +kernel
theorem dX5_mirror_51 : decode cX5_mirror 51 = .ok (.getfield 10, 3) := by decide +kernel
theorem dX5_mirror_54 : decode cX5_mirror 54 = .ok (.iload_n 2, 1) := by decide +kernel
theorem dX5_mirror_55 : decode cX5_mirror 55 = .ok (.invokevirtual 97, 3) := by decide +kernel
theorem dX5_mirror_58 : decode cX5_mirror 58 = .ok (.isub, 1) := by decide +kernel
theorem dX5_mirror_59 : decode cX5_mirror 59 = .ok (.invokevirtual 232, 3) := by decide +kernel
theorem dX5_mirror_62 : decode cX5_mirror 62 = .ok (.iinc 2 1, 3) := by decide +kernel
theorem dX5_mirror_65 : decode cX5_mirror 65 = .ok (.goto (-42), 3) := by decide +kernel
theorem dX5_mirror_68 : decode cX5_mirror 68 = .ok (.aload_n 0, 1) := by decide +kernel
theorem dX5_mirror_69 : decode cX5_mirror 69 = .ok (.getfield 10, 3) := by decide +kernel
theorem dX5_mirror_72 : decode cX5_mirror 72 = .ok (.getfield 77, 3) := by decide +kernel
theorem dX5_mirror_75 : decode cX5_mirror 75 = .ok (.ireturn, 1) := by decide +kernel
set_option maxRecDepth 20000 in
theorem ggX5_missing_X5_finding : GoodIn wsX5_missing wsX5_finding := goodIn_r _ [9, 10, 90, 91, 92, 93, 94, 95, 96, 97, 98, 99, 100] (by decide +kernel) (by decide +kernel)
set_option maxRecDepth 20000 in
theorem gX5_missing_X5_finding : GoodIn wsX5_missing (wsV RX5 69 RX5 yX5_finding wsX5_finding) := goodIn_app (goodIn_of _ (by decide +kernel)) ggX5_missing_X5_finding
set_option maxRecDepth 20000 in
theorem ggX5_missing_X5_findCompletion : GoodIn wsX5_missing wsX5_findCompletion := goodIn_r _ [14, 15, 1, 2, 3, 16, 17, 18, 19, 20, 21, 22, 23, 24, 25, 26, 27, 28, 29, 30, 31, 32, 33, 34, 35, 36, 37, 38, 39, 40, 41, 42, 43, 44, 45, 46, 47, 48, 49, 50, 51, 52, 53, 54, 55, 56, 57, 58, 59, 60, 61, 62, 63, 64, 65, 66, 67, 68, 69, 70, 71, 72, 73, 74, 75, 76, 77, 78, 79, 80, 81, 82, 83, 84, 85, 86, 87, 88, 89, 90, 91, 92, 93, 94, 95, 96, 97, 98, 99, 100, 101, 102, 103, 108, 109, 104, 105, 106, 107] (by decide +kernel) (by decide +kernel)
set_option maxRecDepth 20000 in
theorem gX5_missing_X5_findCompletion : GoodIn wsX5_missing (wsV RX5 235 RX5 yX5_findCompletion wsX5_findCompletion) := goodIn_app (goodIn_of _ (by decide +kernel)) ggX5_missing_X5_findCompletion
