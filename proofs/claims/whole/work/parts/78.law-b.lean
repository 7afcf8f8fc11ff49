/-! THE LAW: its words, on -/
set_option maxRecDepth 20000 in
theorem wr_12 : ∀ w ∈ wsL_law_r12, w ∈ lw_tbl := fun w h => (goodIn_p wsL_law_r12 [743, 287, 747, 291, 294, 298] (by decide +kernel) (by decide +kernel) w h).1
set_option maxRecDepth 20000 in
theorem wr_13 : ∀ w ∈ wsL_law_r13, w ∈ lw_tbl := fun w h => (goodIn_p wsL_law_r13 [751, 754, 302, 306, 310, 314] (by decide +kernel) (by decide +kernel) w h).1
set_option maxRecDepth 20000 in
theorem wr_14 : ∀ w ∈ wsL_law_r14, w ∈ lw_tbl := fun w h => (goodIn_p wsL_law_r14 [318, 321, 758, 762, 765] (by decide +kernel) (by decide +kernel) w h).1
set_option maxRecDepth 20000 in
theorem wr_15 : ∀ w ∈ wsL_law_r15, w ∈ lw_tbl := fun w h => (goodIn_p wsL_law_r15 [331, 776, 336] (by decide +kernel) (by decide +kernel) w h).1
set_option maxRecDepth 20000 in
theorem wr_16 : ∀ w ∈ wsL_law_r16, w ∈ lw_tbl := fun w h => (goodIn_p wsL_law_r16 [340, 781, 345, 349, 355] (by decide +kernel) (by decide +kernel) w h).1
set_option maxRecDepth 20000 in
theorem wr_17 : ∀ w ∈ wsL_law_r17, w ∈ lw_tbl := fun w h => (goodIn_p wsL_law_r17 [359, 363, 366, 370, 785, 789] (by decide +kernel) (by decide +kernel) w h).1
set_option maxRecDepth 20000 in
theorem wr_18 : ∀ w ∈ wsL_law_r18, w ∈ lw_tbl := fun w h => (goodIn_p wsL_law_r18 [793, 798, 374, 802, 379, 806] (by decide +kernel) (by decide +kernel) w h).1
set_option maxRecDepth 20000 in
theorem wr_19 : ∀ w ∈ wsL_law_r19, w ∈ lw_tbl := fun w h => (goodIn_p wsL_law_r19 [383, 387, 391, 397] (by decide +kernel) (by decide +kernel) w h).1
set_option maxRecDepth 20000 in
theorem wr_20 : ∀ w ∈ wsL_law_r20, w ∈ lw_tbl := fun w h => (goodIn_p wsL_law_r20 [404, 408, 412, 810, 814, 818, 821] (by decide +kernel) (by decide +kernel) w h).1
set_option maxRecDepth 20000 in
theorem wr_21 : ∀ w ∈ wsL_law_r21, w ∈ lw_tbl := fun w h => (goodIn_p wsL_law_r21 [416, 420, 423, 427, 431, 434] (by decide +kernel) (by decide +kernel) w h).1
set_option maxRecDepth 20000 in
theorem wr_22 : ∀ w ∈ wsL_law_r22, w ∈ lw_tbl := fun w h => (goodIn_p wsL_law_r22 [437, 825, 829, 833, 444, 448] (by decide +kernel) (by decide +kernel) w h).1
