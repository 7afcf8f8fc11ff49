/-! THE LAW: the callees' words among its own -/
set_option maxRecDepth 20000 in
theorem ggL_law_X5_init : GoodIn wsL_law wsX5_init := goodIn_r _ [9, 10, 11, 12, 13, 14, 15, 16, 17, 18, 19, 20, 21, 22, 23, 24, 25, 26, 27, 28, 29, 30, 31, 32, 33, 34, 35, 36, 37, 38, 39, 40, 41, 42, 43, 44, 45, 46, 47, 48, 49, 50, 51, 52, 53, 54, 55, 56, 57, 58, 59, 60, 61, 62, 63, 64, 65, 66, 67, 68, 69, 70, 71, 72, 73, 74, 75, 76, 807, 808, 809, 771, 772, 773, 774, 775, 776, 777, 778, 779, 780, 781, 810, 811, 812, 813, 814, 815, 816, 817, 818, 819, 820, 821] (by decide +kernel) (by decide +kernel)
set_option maxRecDepth 20000 in
theorem gL_law_X5_init : GoodIn wsL_law (wsX5_init) := ggL_law_X5_init
set_option maxRecDepth 20000 in
theorem ggL_law_X6_init : GoodIn wsL_law wsX6_init := goodIn_r _ [79, 80, 11, 12, 81, 33, 82, 83, 84, 85, 86, 87, 88, 89, 90, 91, 92, 93, 94, 57, 95, 96, 97, 98, 99, 100, 101, 102, 782, 783, 784, 785, 786, 787, 788, 789, 790, 791, 792, 793, 794, 795, 796, 797, 798, 799, 800, 801, 802, 803, 804, 805, 806] (by decide +kernel) (by decide +kernel)
set_option maxRecDepth 20000 in
theorem gL_law_X6_init : GoodIn wsL_law (wsX6_init) := ggL_law_X6_init
set_option maxRecDepth 20000 in
theorem ggL_law_X5_lanes : GoodIn wsL_law wsX5_lanes := goodIn_r _ [106, 21, 16, 107, 108, 109, 110, 2, 111, 37, 112, 113, 114, 20, 115, 51, 52, 53, 116, 117, 118, 119, 120, 121, 122, 15, 123, 43, 44, 45, 124, 125, 126, 127, 67, 68, 69, 70, 771, 772, 773, 774, 775, 776, 777, 778, 779, 780, 781, 807, 808, 809, 810, 811, 812] (by decide +kernel) (by decide +kernel)
set_option maxRecDepth 20000 in
theorem gL_law_X5_lanes : GoodIn wsL_law (wsV RL 13 RX5 yX5_lanes wsX5_lanes) := goodIn_app (goodIn_of _ (by decide +kernel)) ggL_law_X5_lanes
set_option maxRecDepth 20000 in
theorem ggL_law_X6_lanes : GoodIn wsL_law wsX6_lanes := goodIn_r _ [131, 132, 81, 133, 134, 5, 135, 136, 137, 138, 139, 140, 141, 142, 143, 144, 145, 87, 88, 89, 90, 91, 92, 146, 147, 148, 149, 82, 83, 84, 86, 782, 783, 784, 785, 786, 787, 788, 789, 790, 791, 792, 793, 794, 795, 796, 797, 798, 799, 800, 801, 802, 803, 804, 805, 806] (by decide +kernel) (by decide +kernel)
set_option maxRecDepth 20000 in
theorem gL_law_X6_lanes : GoodIn wsL_law (wsV RL 17 RX6 yX6_lanes wsX6_lanes) := goodIn_app (goodIn_of _ (by decide +kernel)) ggL_law_X6_lanes
set_option maxRecDepth 20000 in
theorem ggL_law_X5_comparer : GoodIn wsL_law wsX5_comparer := goodIn_r _ [153, 16, 107, 21, 154, 155, 2, 156, 157, 158, 159, 15, 160, 43, 108, 109, 110, 111, 37, 112, 113, 114, 20, 115, 51, 52, 53, 116, 117, 118, 119, 120, 121, 122, 123, 44, 45, 124, 125, 126, 127, 161, 162, 163, 164, 165, 166, 167, 168, 771, 772, 773, 774, 775, 776, 777, 778, 779, 780, 781, 807, 808, 809, 810, 811, 812] (by decide +kernel) (by decide +kernel)
set_option maxRecDepth 20000 in
theorem gL_law_X5_comparer : GoodIn wsL_law (wsV RL 18 RX5 yX5_comparer wsX5_comparer) := goodIn_app (goodIn_of _ (by decide +kernel)) ggL_law_X5_comparer
set_option maxRecDepth 20000 in
theorem ggL_law_X6_comparer : GoodIn wsL_law wsX6_comparer := goodIn_r _ [172, 132, 133, 134, 5, 135, 173, 174, 175, 176, 81, 136, 137, 138, 139, 140, 141, 142, 143, 144, 145, 87, 88, 89, 90, 91, 92, 146, 147, 148, 149, 82, 83, 84, 86, 177, 178, 179, 180, 782, 783, 784, 785, 786, 787, 788, 789, 790, 791, 792, 793, 794, 795, 796, 797, 798, 799, 800, 801, 802, 803, 804, 805, 806] (by decide +kernel) (by decide +kernel)
set_option maxRecDepth 20000 in
theorem gL_law_X6_comparer : GoodIn wsL_law (wsV RL 22 RX6 yX6_comparer wsX6_comparer) := goodIn_app (goodIn_of _ (by decide +kernel)) ggL_law_X6_comparer
set_option maxRecDepth 20000 in
theorem ggL_law_X5_cut : GoodIn wsL_law wsX5_cut := goodIn_r _ [184, 16, 107, 21, 108, 109, 110, 2, 111, 37, 112, 113, 114, 20, 115, 51, 52, 53, 116, 117, 118, 119, 120, 121, 122, 15, 123, 43, 44, 45, 124, 125, 126, 127, 771, 772, 773, 774, 775, 776, 777, 778, 779, 780, 781, 807, 808, 809, 810, 811, 812] (by decide +kernel) (by decide +kernel)
set_option maxRecDepth 20000 in
theorem gL_law_X5_cut : GoodIn wsL_law (wsV RL 23 RX5 yX5_cut wsX5_cut) := goodIn_app (goodIn_of _ (by decide +kernel)) ggL_law_X5_cut
set_option maxRecDepth 20000 in
theorem ggL_law_X6_cut : GoodIn wsL_law wsX6_cut := goodIn_r _ [188, 132, 133, 134, 5, 135, 136, 137, 138, 139, 140, 141, 142, 143, 144, 145, 87, 88, 89, 90, 91, 92, 146, 147, 148, 149, 81, 82, 83, 84, 86, 782, 783, 784, 785, 786, 787, 788, 789, 790, 791, 792, 793, 794, 795, 796, 797, 798, 799, 800, 801, 802, 803, 804, 805, 806] (by decide +kernel) (by decide +kernel)
set_option maxRecDepth 20000 in
theorem gL_law_X6_cut : GoodIn wsL_law (wsV RL 26 RX6 yX6_cut wsX6_cut) := goodIn_app (goodIn_of _ (by decide +kernel)) ggL_law_X6_cut
set_option maxRecDepth 20000 in
theorem ggL_law_X5_change : GoodIn wsL_law wsX5_change := goodIn_r _ [192, 16, 21, 193, 194, 195, 15, 196, 44, 154, 155, 2, 156, 108, 109, 110, 111, 37, 112, 113, 114, 20, 115, 51, 52, 53, 116, 117, 118, 119, 120, 121, 122, 123, 43, 45, 124, 125, 126, 127, 197, 198, 199, 200, 201, 202, 203, 204, 205, 206, 207, 208, 209, 166, 167, 168, 771, 772, 773, 774, 775, 776, 777, 778, 779, 780, 781, 807, 808, 809, 810, 811, 812] (by decide +kernel) (by decide +kernel)
set_option maxRecDepth 20000 in
theorem gL_law_X5_change : GoodIn wsL_law (wsV RL 27 RX5 yX5_change wsX5_change) := goodIn_app (goodIn_of _ (by decide +kernel)) ggL_law_X5_change
set_option maxRecDepth 20000 in
theorem ggL_law_X6_change : GoodIn wsL_law wsX6_change := goodIn_r _ [213, 82, 86, 214, 215, 216, 5, 217, 132, 133, 134, 135, 136, 137, 138, 139, 140, 141, 142, 143, 144, 145, 87, 88, 89, 90, 91, 92, 146, 147, 148, 149, 81, 83, 84, 782, 783, 784, 785, 786, 787, 788, 789, 790, 791, 792, 793, 794, 795, 796, 797, 798, 799, 800, 801, 802, 803, 804, 805, 806] (by decide +kernel) (by decide +kernel)
set_option maxRecDepth 20000 in
theorem gL_law_X6_change : GoodIn wsL_law (wsV RL 31 RX6 yX6_change wsX6_change) := goodIn_app (goodIn_of _ (by decide +kernel)) ggL_law_X6_change
set_option maxRecDepth 20000 in
theorem ggL_law_X5_turnSwitch : GoodIn wsL_law wsX5_turnSwitch := goodIn_r _ [221, 16, 21, 193, 194, 195, 15, 196, 44, 108, 109, 110, 2, 111, 37, 197, 198, 199, 200, 45, 112, 113, 114, 20, 115, 51, 52, 53, 116, 117, 118, 119, 120, 121, 122, 123, 43, 124, 125, 126, 127, 222, 223, 224, 225, 226, 227, 228, 229, 771, 772, 773, 774, 775, 776, 777, 778, 779, 780, 781, 807, 808, 809, 810, 811, 812] (by decide +kernel) (by decide +kernel)
set_option maxRecDepth 20000 in
theorem gL_law_X5_turnSwitch : GoodIn wsL_law (wsV RL 32 RX5 yX5_turnSwitch wsX5_turnSwitch) := goodIn_app (goodIn_of _ (by decide +kernel)) ggL_law_X5_turnSwitch
set_option maxRecDepth 20000 in
theorem ggL_law_X6_turnSwitch : GoodIn wsL_law wsX6_turnSwitch := goodIn_r _ [233, 82, 86, 214, 215, 216, 5, 217, 132, 133, 134, 135, 136, 137, 138, 139, 140, 141, 142, 143, 144, 145, 87, 88, 89, 90, 91, 92, 146, 147, 148, 149, 81, 83, 84, 782, 783, 784, 785, 786, 787, 788, 789, 790, 791, 792, 793, 794, 795, 796, 797, 798, 799, 800, 801, 802, 803, 804, 805, 806] (by decide +kernel) (by decide +kernel)
set_option maxRecDepth 20000 in
theorem gL_law_X6_turnSwitch : GoodIn wsL_law (wsV RL 36 RX6 yX6_turnSwitch wsX6_turnSwitch) := goodIn_app (goodIn_of _ (by decide +kernel)) ggL_law_X6_turnSwitch
set_option maxRecDepth 20000 in
theorem ggL_law_X5_as : GoodIn wsL_law wsX5_as := goodIn_r _ [237, 16, 193, 194, 195, 15, 196, 44, 154, 155, 2, 156, 108, 109, 110, 111, 37, 197, 198, 199, 200, 45, 238, 239, 240, 241, 771, 772, 773, 774, 775, 776, 777, 778, 779, 780, 781, 807, 808, 809] (by decide +kernel) (by decide +kernel)
set_option maxRecDepth 20000 in
theorem gL_law_X5_as : GoodIn wsL_law (wsV RL 37 RX5 yX5_as wsX5_as) := goodIn_app (goodIn_of _ (by decide +kernel)) ggL_law_X5_as
set_option maxRecDepth 20000 in
theorem ggL_law_X6_as : GoodIn wsL_law wsX6_as := goodIn_r _ [245, 82, 214, 215, 216, 5, 217, 132, 133, 134, 135, 136, 137, 138, 139, 140, 246, 247, 248, 782, 783, 784, 785, 786, 787, 788, 789, 790, 791, 792, 793, 794, 795, 796, 797, 798, 799, 800, 801, 802, 803, 804, 805, 806] (by decide +kernel) (by decide +kernel)
set_option maxRecDepth 20000 in
theorem gL_law_X6_as : GoodIn wsL_law (wsV RL 40 RX6 yX6_as wsX6_as) := goodIn_app (goodIn_of _ (by decide +kernel)) ggL_law_X6_as
set_option maxRecDepth 20000 in
theorem ggL_law_X5_of : GoodIn wsL_law wsX5_of := goodIn_r _ [252, 16, 34, 193, 194, 195, 15, 196, 44, 108, 109, 110, 2, 111, 37, 197, 198, 199, 200, 45, 201, 202, 203, 204, 205, 206, 207, 208, 253, 254, 255, 256, 107, 257, 258, 118, 259, 222, 223, 224, 225, 771, 772, 773, 774, 775, 776, 777, 778, 779, 780, 781, 807, 808, 809] (by decide +kernel) (by decide +kernel)
set_option maxRecDepth 20000 in
theorem gL_law_X5_of : GoodIn wsL_law (wsV RL 41 RX5 yX5_of wsX5_of) := goodIn_app (goodIn_of _ (by decide +kernel)) ggL_law_X5_of
set_option maxRecDepth 20000 in
theorem ggL_law_X6_of : GoodIn wsL_law wsX6_of := goodIn_r _ [263, 82, 83, 84, 86, 214, 215, 216, 5, 217, 132, 133, 134, 135, 136, 137, 138, 139, 140, 264, 265, 266, 267, 97, 782, 783, 784, 785, 786, 787, 788, 789, 790, 791, 792, 793, 794, 795, 796, 797, 798, 799, 800, 801, 802, 803, 804, 805, 806] (by decide +kernel) (by decide +kernel)
set_option maxRecDepth 20000 in
theorem gL_law_X6_of : GoodIn wsL_law (wsV RL 44 RX6 yX6_of wsX6_of) := goodIn_app (goodIn_of _ (by decide +kernel)) ggL_law_X6_of
set_option maxRecDepth 20000 in
theorem ggL_law_X5_rounds : GoodIn wsL_law wsX5_rounds := goodIn_r _ [271, 16, 107, 253, 254, 255, 2, 256, 34, 257, 258, 118, 259, 201, 202, 203, 15, 204, 45, 205, 206, 207, 208, 771, 772, 773, 774, 775, 776, 777, 778, 779, 780, 781, 807, 808, 809] (by decide +kernel) (by decide +kernel)
set_option maxRecDepth 20000 in
theorem gL_law_X5_rounds : GoodIn wsL_law (wsV RL 45 RX5 yX5_rounds wsX5_rounds) := goodIn_app (goodIn_of _ (by decide +kernel)) ggL_law_X5_rounds
set_option maxRecDepth 20000 in
theorem ggL_law_X6_rounds : GoodIn wsL_law wsX6_rounds := goodIn_r _ [275, 132, 264, 265, 266, 5, 267, 83, 84, 97, 782, 783, 784, 785, 786, 787, 788, 789, 790, 791, 792, 793, 794, 795, 796, 797, 798, 799, 800, 801, 802, 803, 804, 805, 806] (by decide +kernel) (by decide +kernel)
set_option maxRecDepth 20000 in
theorem gL_law_X6_rounds : GoodIn wsL_law (wsV RL 49 RX6 yX6_rounds wsX6_rounds) := goodIn_app (goodIn_of _ (by decide +kernel)) ggL_law_X6_rounds
set_option maxRecDepth 20000 in
theorem ggL_law_X5_crate : GoodIn wsL_law wsX5_crate := goodIn_r _ [279, 23, 280, 281, 2, 282, 108, 109, 110, 111, 37, 283, 284, 285, 39, 286, 74, 75, 76, 771, 772, 773, 774, 775, 776, 777, 778, 779, 780, 781, 819, 820, 821] (by decide +kernel) (by decide +kernel)
set_option maxRecDepth 20000 in
theorem gL_law_X5_crate : GoodIn wsL_law (wsV RL 50 RX5 yX5_crate wsX5_crate) := goodIn_app (goodIn_of _ (by decide +kernel)) ggL_law_X5_crate
set_option maxRecDepth 20000 in
theorem ggL_law_X6_crate : GoodIn wsL_law wsX6_crate := goodIn_r _ [290, 93, 94, 95, 291, 292, 5, 293, 133, 134, 135, 136, 137, 138, 139, 140, 782, 783, 784, 785, 786, 787, 788, 789, 790, 791, 792, 793, 794, 795, 796, 797, 798, 799, 800, 801, 802, 803, 804, 805, 806] (by decide +kernel) (by decide +kernel)
set_option maxRecDepth 20000 in
theorem gL_law_X6_crate : GoodIn wsL_law (wsV RL 53 RX6 yX6_crate wsX6_crate) := goodIn_app (goodIn_of _ (by decide +kernel)) ggL_law_X6_crate
set_option maxRecDepth 20000 in
theorem ggL_law_X5_put : GoodIn wsL_law wsX5_put := goodIn_r _ [297, 23, 298, 299, 300, 2, 301, 302, 303, 304, 305, 306, 280, 281, 282, 307, 308, 309, 39, 310, 74, 108, 109, 110, 111, 37, 311, 312, 313, 314, 76, 315, 316, 317, 318, 319, 320, 321, 322, 323, 771, 772, 773, 774, 775, 776, 777, 778, 779, 780, 781, 819, 820, 821] (by decide +kernel) (by decide +kernel)
set_option maxRecDepth 20000 in
theorem gL_law_X5_put : GoodIn wsL_law (wsV RL 56 RX5 yX5_put wsX5_put) := goodIn_app (goodIn_of _ (by decide +kernel)) ggL_law_X5_put
set_option maxRecDepth 20000 in
theorem ggL_law_X6_put : GoodIn wsL_law wsX6_put := goodIn_r _ [327, 95, 93, 328, 329, 330, 5, 331, 94, 291, 292, 293, 133, 134, 135, 136, 137, 138, 139, 140, 332, 333, 334, 335, 336, 337, 338, 339, 340, 341, 782, 783, 784, 785, 786, 787, 788, 789, 790, 791, 792, 793, 794, 795, 796, 797, 798, 799, 800, 801, 802, 803, 804, 805, 806] (by decide +kernel) (by decide +kernel)
set_option maxRecDepth 20000 in
theorem gL_law_X6_put : GoodIn wsL_law (wsV RL 60 RX6 yX6_put wsX6_put) := goodIn_app (goodIn_of _ (by decide +kernel)) ggL_law_X6_put
set_option maxRecDepth 20000 in
theorem ggL_law_X5_load : GoodIn wsL_law wsX5_load := goodIn_r _ [345, 346, 23, 347, 298, 299, 300, 2, 301, 302, 303, 304, 305, 306, 280, 281, 282, 307, 308, 309, 39, 310, 74, 108, 109, 110, 111, 37, 771, 772, 773, 774, 775, 776, 777, 778, 779, 780, 781, 819, 820, 821] (by decide +kernel) (by decide +kernel)
set_option maxRecDepth 20000 in
theorem gL_law_X5_load : GoodIn wsL_law (wsV RL 61 RX5 yX5_load wsX5_load) := goodIn_app (goodIn_of _ (by decide +kernel)) ggL_law_X5_load
set_option maxRecDepth 20000 in
theorem ggL_law_X6_load : GoodIn wsL_law wsX6_load := goodIn_r _ [351, 140, 352, 95, 328, 329, 330, 5, 331, 93, 94, 291, 292, 293, 133, 134, 135, 782, 783, 784, 785, 786, 787, 788, 789, 790, 791, 792, 793, 794, 795, 796, 797, 798, 799, 800, 801, 802, 803, 804, 805, 806] (by decide +kernel) (by decide +kernel)
set_option maxRecDepth 20000 in
theorem gL_law_X6_load : GoodIn wsL_law (wsV RL 65 RX6 yX6_load wsX6_load) := goodIn_app (goodIn_of _ (by decide +kernel)) ggL_law_X6_load
set_option maxRecDepth 20000 in
theorem ggL_law_X5_copy : GoodIn wsL_law wsX5_copy := goodIn_r _ [356, 23, 357, 347, 358, 125, 126, 127, 280, 281, 2, 282, 108, 109, 110, 111, 37, 307, 308, 309, 39, 310, 74, 359, 360, 361, 362, 75, 771, 772, 773, 774, 775, 776, 777, 778, 779, 780, 781, 819, 820, 821] (by decide +kernel) (by decide +kernel)
set_option maxRecDepth 20000 in
theorem gL_law_X5_copy : GoodIn wsL_law (wsV RL 66 RX5 yX5_copy wsX5_copy) := goodIn_app (goodIn_of _ (by decide +kernel)) ggL_law_X5_copy
set_option maxRecDepth 20000 in
theorem ggL_law_X6_copy : GoodIn wsL_law wsX6_copy := goodIn_r _ [366, 93, 94, 98, 95, 291, 292, 5, 293, 133, 134, 135, 136, 137, 138, 139, 140, 782, 783, 784, 785, 786, 787, 788, 789, 790, 791, 792, 793, 794, 795, 796, 797, 798, 799, 800, 801, 802, 803, 804, 805, 806] (by decide +kernel) (by decide +kernel)
set_option maxRecDepth 20000 in
theorem gL_law_X6_copy : GoodIn wsL_law (wsV RL 70 RX6 yX6_copy wsX6_copy) := goodIn_app (goodIn_of _ (by decide +kernel)) ggL_law_X6_copy
set_option maxRecDepth 20000 in
theorem ggL_law_X5_run : GoodIn wsL_law wsX5_run := goodIn_r _ [370, 23, 302, 16, 371, 107, 303, 304, 305, 2, 306, 280, 281, 282, 307, 308, 309, 39, 310, 74, 108, 109, 110, 111, 37, 372, 373, 374, 15, 375, 376, 198, 199, 200, 45, 377, 223, 224, 225, 201, 202, 203, 204, 205, 206, 207, 208, 378, 379, 380, 381, 382, 383, 384, 385, 76, 386, 387, 388, 389, 321, 390, 391, 392, 393, 394, 395, 396, 397, 771, 772, 773, 774, 775, 776, 777, 778, 779, 780, 781, 819, 820, 821, 807, 808, 809] (by decide +kernel) (by decide +kernel)
set_option maxRecDepth 20000 in
theorem gL_law_X5_run : GoodIn wsL_law (wsV RL 71 RX5 yX5_run wsX5_run) := goodIn_app (goodIn_of _ (by decide +kernel)) ggL_law_X5_run
set_option maxRecDepth 20000 in
theorem ggL_law_X6_run : GoodIn wsL_law wsX6_run := goodIn_r _ [401, 93, 94, 81, 132, 83, 84, 95, 291, 292, 5, 293, 133, 134, 135, 136, 137, 138, 139, 140, 402, 403, 404, 405, 406, 407, 408, 409, 410, 339, 411, 412, 413, 414, 82, 86, 782, 783, 784, 785, 786, 787, 788, 789, 790, 791, 792, 793, 794, 795, 796, 797, 798, 799, 800, 801, 802, 803, 804, 805, 806] (by decide +kernel) (by decide +kernel)
set_option maxRecDepth 20000 in
theorem gL_law_X6_run : GoodIn wsL_law (wsV RL 74 RX6 yX6_run wsX6_run) := goodIn_app (goodIn_of _ (by decide +kernel)) ggL_law_X6_run
set_option maxRecDepth 20000 in
theorem ggL_law_X5_rises : GoodIn wsL_law wsX5_rises := goodIn_r _ [418, 23, 302, 303, 304, 305, 2, 306, 280, 281, 282, 307, 308, 309, 39, 310, 74, 108, 109, 110, 111, 37, 419, 383, 384, 385, 76, 386, 387, 388, 389, 321, 390, 391, 392, 393, 771, 772, 773, 774, 775, 776, 777, 778, 779, 780, 781, 819, 820, 821] (by decide +kernel) (by decide +kernel)
set_option maxRecDepth 20000 in
theorem gL_law_X5_rises : GoodIn wsL_law (wsV RL 75 RX5 yX5_rises wsX5_rises) := goodIn_app (goodIn_of _ (by decide +kernel)) ggL_law_X5_rises
set_option maxRecDepth 20000 in
theorem ggL_law_X6_rises : GoodIn wsL_law wsX6_rises := goodIn_r _ [423, 93, 94, 291, 292, 5, 293, 133, 134, 135, 136, 137, 138, 139, 140, 402, 403, 404, 405, 406, 407, 408, 409, 95, 410, 339, 782, 783, 784, 785, 786, 787, 788, 789, 790, 791, 792, 793, 794, 795, 796, 797, 798, 799, 800, 801, 802, 803, 804, 805, 806] (by decide +kernel) (by decide +kernel)
set_option maxRecDepth 20000 in
theorem gL_law_X6_rises : GoodIn wsL_law (wsV RL 78 RX6 yX6_rises wsX6_rises) := goodIn_app (goodIn_of _ (by decide +kernel)) ggL_law_X6_rises
set_option maxRecDepth 20000 in
theorem ggL_law_X5_order : GoodIn wsL_law wsX5_order := goodIn_r _ [427, 23, 298, 299, 300, 2, 301, 302, 303, 304, 305, 306, 280, 281, 282, 307, 308, 309, 39, 310, 74, 108, 109, 110, 111, 37, 419, 383, 384, 385, 76, 386, 387, 388, 389, 321, 390, 391, 392, 393, 771, 772, 773, 774, 775, 776, 777, 778, 779, 780, 781, 819, 820, 821] (by decide +kernel) (by decide +kernel)
set_option maxRecDepth 20000 in
theorem gL_law_X5_order : GoodIn wsL_law (wsV RL 79 RX5 yX5_order wsX5_order) := goodIn_app (goodIn_of _ (by decide +kernel)) ggL_law_X5_order
set_option maxRecDepth 20000 in
theorem ggL_law_X6_order : GoodIn wsL_law wsX6_order := goodIn_r _ [431, 328, 329, 330, 5, 331, 93, 94, 291, 292, 293, 133, 134, 135, 136, 137, 138, 139, 140, 402, 403, 404, 405, 406, 407, 408, 409, 95, 410, 339, 782, 783, 784, 785, 786, 787, 788, 789, 790, 791, 792, 793, 794, 795, 796, 797, 798, 799, 800, 801, 802, 803, 804, 805, 806] (by decide +kernel) (by decide +kernel)
set_option maxRecDepth 20000 in
theorem gL_law_X6_order : GoodIn wsL_law (wsV RL 82 RX6 yX6_order wsX6_order) := goodIn_app (goodIn_of _ (by decide +kernel)) ggL_law_X6_order
set_option maxRecDepth 20000 in
theorem ggL_law_X5_out : GoodIn wsL_law wsX5_out := goodIn_r _ [435, 16, 371, 27, 108, 109, 110, 2, 111, 37, 436, 437, 438, 26, 439, 440, 59, 58, 441, 442, 443, 444, 445, 446, 447, 448, 449, 450, 373, 374, 15, 375, 376, 198, 199, 200, 45, 377, 223, 224, 225, 451, 202, 203, 204, 452, 206, 207, 208, 453, 454, 455, 456, 457, 458, 459, 460, 461, 462, 463, 464, 771, 772, 773, 774, 775, 776, 777, 778, 779, 780, 781, 807, 808, 809, 813, 814] (by decide +kernel) (by decide +kernel)
set_option maxRecDepth 20000 in
theorem gL_law_X5_out : GoodIn wsL_law (wsV RL 83 RX5 yX5_out wsX5_out) := goodIn_app (goodIn_of _ (by decide +kernel)) ggL_law_X5_out
set_option maxRecDepth 20000 in
theorem ggL_law_X6_out : GoodIn wsL_law wsX6_out := goodIn_r _ [468, 132, 469, 470, 471, 5, 472, 81, 133, 134, 135, 473, 474, 475, 476, 83, 84, 477, 478, 479, 411, 412, 413, 414, 82, 86, 136, 137, 138, 139, 140, 782, 783, 784, 785, 786, 787, 788, 789, 790, 791, 792, 793, 794, 795, 796, 797, 798, 799, 800, 801, 802, 803, 804, 805, 806] (by decide +kernel) (by decide +kernel)
set_option maxRecDepth 20000 in
theorem gL_law_X6_out : GoodIn wsL_law (wsV RL 86 RX6 yX6_out wsX6_out) := goodIn_app (goodIn_of _ (by decide +kernel)) ggL_law_X6_out
set_option maxRecDepth 20000 in
theorem ggL_law_X5_sorts : GoodIn wsL_law wsX5_sorts := goodIn_r _ [483, 484, 485, 486, 2, 487, 16, 371, 488, 489, 26, 490, 491, 492, 493, 494, 27, 436, 437, 438, 439, 440, 59, 58, 441, 442, 443, 444, 445, 446, 447, 448, 449, 450, 373, 374, 15, 375, 376, 198, 199, 200, 45, 377, 223, 224, 225, 451, 202, 203, 204, 452, 206, 207, 208, 453, 454, 455, 456, 457, 458, 459, 460, 495, 496, 497, 498, 499, 500, 501, 502, 503, 392, 504, 505, 506, 507, 771, 772, 773, 774, 775, 776, 777, 778, 779, 780, 781, 807, 808, 809, 813, 814] (by decide +kernel) (by decide +kernel)
set_option maxRecDepth 20000 in
theorem gL_law_X5_sorts : GoodIn wsL_law (wsV RL 87 RX5 yX5_sorts wsX5_sorts) := goodIn_app (goodIn_of _ (by decide +kernel)) ggL_law_X5_sorts
