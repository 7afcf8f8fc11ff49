/-! THE LAW: its words, on -/
set_option maxRecDepth 20000 in
theorem wr_23 : ∀ w ∈ wsL_law_r23, w ∈ lw_tbl := fun w h => (goodIn_p wsL_law_r23 [837, 453, 841, 458, 462] (by decide +kernel) (by decide +kernel) w h).1
set_option maxRecDepth 20000 in
theorem wr_24 : ∀ w ∈ wsL_law_r24, w ∈ lw_tbl := fun w h => (goodIn_p wsL_law_r24 [467, 845, 849, 471, 853, 475] (by decide +kernel) (by decide +kernel) w h).1
set_option maxRecDepth 20000 in
theorem wr_25 : ∀ w ∈ wsL_law_r25, w ∈ lw_tbl := fun w h => (goodIn_p wsL_law_r25 [479, 857, 483, 487, 861, 491] (by decide +kernel) (by decide +kernel) w h).1
set_option maxRecDepth 20000 in
theorem wr_26 : ∀ w ∈ wsL_law_r26, w ∈ lw_tbl := fun w h => (goodIn_p wsL_law_r26 [495, 499, 503, 506, 509, 512] (by decide +kernel) (by decide +kernel) w h).1
set_option maxRecDepth 20000 in
theorem wr_27 : ∀ w ∈ wsL_law_r27, w ∈ lw_tbl := fun w h => (goodIn_p wsL_law_r27 [517, 865, 869, 873, 877, 521] (by decide +kernel) (by decide +kernel) w h).1
set_option maxRecDepth 20000 in
theorem wr_28 : ∀ w ∈ wsL_law_r28, w ∈ lw_tbl := fun w h => (goodIn_p wsL_law_r28 [881, 525, 885, 530, 890] (by decide +kernel) (by decide +kernel) w h).1
set_option maxRecDepth 20000 in
theorem wr_29 : ∀ w ∈ wsL_law_r29, w ∈ lw_tbl := fun w h => (goodIn_p wsL_law_r29 [534, 537, 894, 897, 542, 546] (by decide +kernel) (by decide +kernel) w h).1
set_option maxRecDepth 20000 in
theorem wr_30 : ∀ w ∈ wsL_law_r30, w ∈ lw_tbl := fun w h => (goodIn_p wsL_law_r30 [550, 901, 685, 554, 558, 905] (by decide +kernel) (by decide +kernel) w h).1
set_option maxRecDepth 20000 in
theorem wr_31 : ∀ w ∈ wsL_law_r31, w ∈ lw_tbl := fun w h => (goodIn_p wsL_law_r31 [562, 566, 909, 570, 913, 574] (by decide +kernel) (by decide +kernel) w h).1
set_option maxRecDepth 20000 in
theorem wr_32 : ∀ w ∈ wsL_law_r32, w ∈ lw_tbl := fun w h => (goodIn_p wsL_law_r32 [578, 917, 582, 586, 677, 590] (by decide +kernel) (by decide +kernel) w h).1
set_option maxRecDepth 20000 in
theorem wr_33 : ∀ w ∈ wsL_law_r33, w ∈ lw_tbl := fun w h => (goodIn_p wsL_law_r33 [921] (by decide +kernel) (by decide +kernel) w h).1
theorem wx_0 : ∀ w ∈ wsX00, w ∈ lw_tbl := by decide +kernel
theorem wx_1 : ∀ w ∈ wsX10, w ∈ lw_tbl := by decide +kernel
theorem wx_2 : ∀ w ∈ wsX20, w ∈ lw_tbl := by decide +kernel
theorem wx_3 : ∀ w ∈ wsX30, w ∈ lw_tbl := by decide +kernel
theorem wx_4 : ∀ w ∈ wsX40, w ∈ lw_tbl := by decide +kernel
theorem wx_5 : ∀ w ∈ wsX50, w ∈ lw_tbl := by decide +kernel
theorem wx_6 : ∀ w ∈ wsX60, w ∈ lw_tbl := by decide +kernel
