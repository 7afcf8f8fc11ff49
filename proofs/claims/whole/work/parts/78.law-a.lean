/-! THE LAW: its words are the tables' -/
set_option maxRecDepth 20000 in
theorem wr_1 : ∀ w ∈ wsL_law_r1, w ∈ lw_tbl := fun w h => (goodIn_p wsL_law_r1 [48, 51] (by decide +kernel) (by decide +kernel) w h).1
set_option maxRecDepth 20000 in
theorem wr_2 : ∀ w ∈ wsL_law_r2, w ∈ lw_tbl := fun w h => (goodIn_p wsL_law_r2 [56] (by decide +kernel) (by decide +kernel) w h).1
set_option maxRecDepth 20000 in
theorem wr_3 : ∀ w ∈ wsL_law_r3, w ∈ lw_tbl := fun w h => (goodIn_p wsL_law_r3 [78, 99, 113, 133] (by decide +kernel) (by decide +kernel) w h).1
set_option maxRecDepth 20000 in
theorem wr_4 : ∀ w ∈ wsL_law_r4, w ∈ lw_tbl := fun w h => (goodIn_p wsL_law_r4 [137, 595] (by decide +kernel) (by decide +kernel) w h).1
set_option maxRecDepth 20000 in
theorem wr_5 : ∀ w ∈ wsL_law_r5, w ∈ lw_tbl := fun w h => (goodIn_p wsL_law_r5 [189, 193, 197, 207] (by decide +kernel) (by decide +kernel) w h).1
set_option maxRecDepth 20000 in
theorem wr_6 : ∀ w ∈ wsL_law_r6, w ∈ lw_tbl := fun w h => (goodIn_p wsL_law_r6 [201, 689, 692, 681] (by decide +kernel) (by decide +kernel) w h).1
set_option maxRecDepth 20000 in
theorem wr_7 : ∀ w ∈ wsL_law_r7, w ∈ lw_tbl := fun w h => (goodIn_p wsL_law_r7 [696, 700, 211, 214, 218, 222] (by decide +kernel) (by decide +kernel) w h).1
set_option maxRecDepth 20000 in
theorem wr_8 : ∀ w ∈ wsL_law_r8, w ∈ lw_tbl := fun w h => (goodIn_p wsL_law_r8 [226, 704, 708, 712, 230, 716] (by decide +kernel) (by decide +kernel) w h).1
set_option maxRecDepth 20000 in
theorem wr_9 : ∀ w ∈ wsL_law_r9, w ∈ lw_tbl := fun w h => (goodIn_p wsL_law_r9 [234, 238, 242, 246, 250, 720] (by decide +kernel) (by decide +kernel) w h).1
set_option maxRecDepth 20000 in
theorem wr_10 : ∀ w ∈ wsL_law_r10, w ∈ lw_tbl := fun w h => (goodIn_p wsL_law_r10 [724, 255, 259, 263, 728, 267] (by decide +kernel) (by decide +kernel) w h).1
set_option maxRecDepth 20000 in
theorem wr_11 : ∀ w ∈ wsL_law_r11, w ∈ lw_tbl := fun w h => (goodIn_p wsL_law_r11 [270, 732, 735, 276, 280, 283, 739] (by decide +kernel) (by decide +kernel) w h).1
