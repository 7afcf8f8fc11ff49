/-! THE LAW: the callees' words among its own, on -/
set_option maxRecDepth 20000 in
theorem ggL_law_X6_sorts : GoodIn wsL_law wsX6_sorts := goodIn_r _ [511, 512, 513, 514, 5, 515, 132, 469, 470, 471, 472, 81, 473, 474, 475, 476, 83, 84, 477, 478, 479, 411, 412, 413, 414, 82, 86, 516, 517, 518, 519, 782, 783, 784, 785, 786, 787, 788, 789, 790, 791, 792, 793, 794, 795, 796, 797, 798, 799, 800, 801, 802, 803, 804, 805, 806] (by decide +kernel) (by decide +kernel)
set_option maxRecDepth 20000 in
theorem gL_law_X6_sorts : GoodIn wsL_law (wsV RL 90 RX6 yX6_sorts wsX6_sorts) := goodIn_app (goodIn_of _ (by decide +kernel)) ggL_law_X6_sorts
set_option maxRecDepth 20000 in
theorem ggL_law_X5_fails : GoodIn wsL_law wsX5_fails := goodIn_r _ [523, 16, 371, 484, 485, 486, 2, 487, 488, 489, 26, 490, 491, 492, 493, 494, 27, 436, 437, 438, 439, 440, 59, 58, 441, 442, 443, 444, 445, 446, 447, 448, 449, 450, 373, 374, 15, 375, 376, 198, 199, 200, 45, 377, 223, 224, 225, 451, 202, 203, 204, 452, 206, 207, 208, 453, 454, 455, 456, 457, 458, 459, 460, 495, 496, 497, 498, 499, 500, 501, 502, 503, 392, 504, 505, 506, 507, 524, 525, 526, 527, 108, 109, 110, 111, 37, 528, 771, 772, 773, 774, 775, 776, 777, 778, 779, 780, 781, 807, 808, 809, 813, 814] (by decide +kernel) (by decide +kernel)
set_option maxRecDepth 20000 in
theorem gL_law_X5_fails : GoodIn wsL_law (wsV RL 91 RX5 yX5_fails wsX5_fails) := goodIn_app (goodIn_of _ (by decide +kernel)) ggL_law_X5_fails
set_option maxRecDepth 20000 in
theorem ggL_law_X6_fails : GoodIn wsL_law wsX6_fails := goodIn_r _ [532, 132, 512, 513, 514, 5, 515, 469, 470, 471, 472, 81, 473, 474, 475, 476, 83, 84, 477, 478, 479, 411, 412, 413, 414, 82, 86, 516, 517, 518, 519, 136, 137, 138, 139, 140, 782, 783, 784, 785, 786, 787, 788, 789, 790, 791, 792, 793, 794, 795, 796, 797, 798, 799, 800, 801, 802, 803, 804, 805, 806] (by decide +kernel) (by decide +kernel)
set_option maxRecDepth 20000 in
theorem gL_law_X6_fails : GoodIn wsL_law (wsV RL 95 RX6 yX6_fails wsX6_fails) := goodIn_app (goodIn_of _ (by decide +kernel)) ggL_law_X6_fails
set_option maxRecDepth 20000 in
theorem ggL_law_X5_merges : GoodIn wsL_law wsX5_merges := goodIn_r _ [536, 16, 371, 27, 537, 108, 109, 110, 2, 111, 37, 488, 489, 26, 490, 436, 437, 438, 439, 440, 59, 58, 441, 442, 443, 444, 495, 496, 497, 498, 445, 446, 447, 448, 449, 450, 373, 374, 15, 375, 376, 198, 199, 200, 45, 377, 223, 224, 225, 451, 202, 203, 204, 452, 206, 207, 208, 453, 454, 455, 456, 457, 458, 459, 460, 771, 772, 773, 774, 775, 776, 777, 778, 779, 780, 781, 807, 808, 809, 813, 814] (by decide +kernel) (by decide +kernel)
set_option maxRecDepth 20000 in
theorem gL_law_X5_merges : GoodIn wsL_law (wsV RL 96 RX5 yX5_merges wsX5_merges) := goodIn_app (goodIn_of _ (by decide +kernel)) ggL_law_X5_merges
set_option maxRecDepth 20000 in
theorem ggL_law_X6_merges : GoodIn wsL_law wsX6_merges := goodIn_r _ [541, 81, 132, 133, 134, 5, 135, 136, 137, 138, 139, 140, 469, 470, 471, 472, 477, 478, 479, 473, 474, 475, 476, 83, 84, 411, 412, 413, 414, 82, 86, 516, 517, 518, 519, 782, 783, 784, 785, 786, 787, 788, 789, 790, 791, 792, 793, 794, 795, 796, 797, 798, 799, 800, 801, 802, 803, 804, 805, 806] (by decide +kernel) (by decide +kernel)
set_option maxRecDepth 20000 in
theorem gL_law_X6_merges : GoodIn wsL_law (wsV RL 99 RX6 yX6_merges wsX6_merges) := goodIn_app (goodIn_of _ (by decide +kernel)) ggL_law_X6_merges
set_option maxRecDepth 20000 in
theorem ggL_law_X5_idle : GoodIn wsL_law wsX5_idle := goodIn_r _ [545, 16, 193, 194, 195, 15, 196, 44, 108, 109, 110, 2, 111, 37, 546, 547, 548, 549, 371, 27, 107, 488, 489, 26, 490, 436, 437, 438, 439, 440, 59, 58, 441, 442, 443, 444, 372, 373, 374, 375, 376, 198, 199, 200, 45, 377, 223, 224, 225, 201, 202, 203, 204, 205, 206, 207, 208, 550, 458, 459, 460, 551, 454, 455, 456, 457, 552, 553, 554, 771, 772, 773, 774, 775, 776, 777, 778, 779, 780, 781, 807, 808, 809, 813, 814] (by decide +kernel) (by decide +kernel)
set_option maxRecDepth 20000 in
theorem gL_law_X5_idle : GoodIn wsL_law (wsV RL 100 RX5 yX5_idle wsX5_idle) := goodIn_app (goodIn_of _ (by decide +kernel)) ggL_law_X5_idle
set_option maxRecDepth 20000 in
theorem ggL_law_X6_idle : GoodIn wsL_law wsX6_idle := goodIn_r _ [558, 214, 215, 216, 5, 217, 132, 133, 134, 135, 136, 137, 138, 139, 140, 559, 560, 561, 562, 82, 83, 84, 469, 470, 471, 472, 81, 473, 474, 475, 476, 477, 478, 479, 411, 412, 413, 414, 86, 782, 783, 784, 785, 786, 787, 788, 789, 790, 791, 792, 793, 794, 795, 796, 797, 798, 799, 800, 801, 802, 803, 804, 805, 806] (by decide +kernel) (by decide +kernel)
set_option maxRecDepth 20000 in
theorem gL_law_X6_idle : GoodIn wsL_law (wsV RL 103 RX6 yX6_idle wsX6_idle) := goodIn_app (goodIn_of _ (by decide +kernel)) ggL_law_X6_idle
set_option maxRecDepth 20000 in
theorem ggL_law_X5_drop : GoodIn wsL_law wsX5_drop := goodIn_r _ [566, 21, 16, 107, 567, 546, 547, 548, 2, 549, 371, 27, 488, 489, 26, 490, 436, 437, 438, 439, 440, 59, 58, 441, 442, 443, 444, 372, 373, 374, 15, 375, 376, 198, 199, 200, 45, 377, 223, 224, 225, 201, 202, 203, 204, 205, 206, 207, 208, 550, 458, 459, 460, 551, 454, 455, 456, 457, 112, 113, 114, 20, 115, 51, 52, 53, 116, 117, 118, 119, 120, 121, 122, 123, 43, 44, 124, 125, 126, 127, 552, 553, 554, 771, 772, 773, 774, 775, 776, 777, 778, 779, 780, 781, 807, 808, 809, 813, 814, 810, 811, 812] (by decide +kernel) (by decide +kernel)
set_option maxRecDepth 20000 in
theorem gL_law_X5_drop : GoodIn wsL_law (wsV RL 104 RX5 yX5_drop wsX5_drop) := goodIn_app (goodIn_of _ (by decide +kernel)) ggL_law_X5_drop
set_option maxRecDepth 20000 in
theorem ggL_law_X6_drop : GoodIn wsL_law wsX6_drop := goodIn_r _ [571, 132, 99, 82, 83, 84, 86, 141, 142, 143, 5, 144, 145, 87, 88, 89, 90, 91, 92, 146, 147, 148, 149, 81, 559, 560, 561, 562, 469, 470, 471, 472, 473, 474, 475, 476, 477, 478, 479, 411, 412, 413, 414, 782, 783, 784, 785, 786, 787, 788, 789, 790, 791, 792, 793, 794, 795, 796, 797, 798, 799, 800, 801, 802, 803, 804, 805, 806] (by decide +kernel) (by decide +kernel)
set_option maxRecDepth 20000 in
theorem gL_law_X6_drop : GoodIn wsL_law (wsV RL 107 RX6 yX6_drop wsX6_drop) := goodIn_app (goodIn_of _ (by decide +kernel)) ggL_law_X6_drop
set_option maxRecDepth 20000 in
theorem ggL_law_X5_turn : GoodIn wsL_law wsX5_turn := goodIn_r _ [575, 16, 107, 21, 34, 576, 117, 118, 119, 257, 258, 259, 372, 373, 374, 15, 375, 376, 198, 199, 200, 45, 377, 223, 224, 225, 108, 109, 110, 2, 111, 37, 112, 113, 114, 20, 115, 51, 52, 53, 116, 120, 121, 122, 123, 43, 44, 124, 125, 126, 127, 201, 202, 203, 204, 205, 206, 207, 208, 209, 166, 167, 168, 577, 578, 579, 771, 772, 773, 774, 775, 776, 777, 778, 779, 780, 781, 807, 808, 809, 810, 811, 812] (by decide +kernel) (by decide +kernel)
set_option maxRecDepth 20000 in
theorem gL_law_X5_turn : GoodIn wsL_law (wsV RL 108 RX5 yX5_turn wsX5_turn) := goodIn_app (goodIn_of _ (by decide +kernel)) ggL_law_X5_turn
set_option maxRecDepth 20000 in
theorem ggL_law_X6_turn : GoodIn wsL_law wsX6_turn := goodIn_r _ [583, 132, 82, 86, 100, 83, 84, 136, 137, 138, 5, 139, 140, 141, 142, 143, 144, 145, 87, 88, 89, 90, 91, 92, 146, 147, 148, 149, 81, 782, 783, 784, 785, 786, 787, 788, 789, 790, 791, 792, 793, 794, 795, 796, 797, 798, 799, 800, 801, 802, 803, 804, 805, 806] (by decide +kernel) (by decide +kernel)
set_option maxRecDepth 20000 in
theorem gL_law_X6_turn : GoodIn wsL_law (wsV RL 111 RX6 yX6_turn wsX6_turn) := goodIn_app (goodIn_of _ (by decide +kernel)) ggL_law_X6_turn
set_option maxRecDepth 20000 in
theorem ggL_law_X5_mirror : GoodIn wsL_law wsX5_mirror := goodIn_r _ [587, 21, 16, 371, 107, 112, 113, 114, 20, 115, 51, 52, 53, 116, 117, 118, 119, 120, 121, 122, 15, 123, 43, 44, 45, 124, 125, 126, 127, 205, 206, 207, 208, 201, 202, 203, 204, 588, 589, 590, 591, 376, 198, 199, 200, 771, 772, 773, 774, 775, 776, 777, 778, 779, 780, 781, 807, 808, 809, 810, 811, 812] (by decide +kernel) (by decide +kernel)
set_option maxRecDepth 20000 in
theorem gL_law_X5_mirror : GoodIn wsL_law (wsV RL 112 RX5 yX5_mirror wsX5_mirror) := goodIn_app (goodIn_of _ (by decide +kernel)) ggL_law_X5_mirror
set_option maxRecDepth 20000 in
theorem ggL_law_X6_mirror : GoodIn wsL_law wsX6_mirror := goodIn_r _ [595, 132, 83, 81, 84, 141, 142, 143, 5, 144, 145, 87, 88, 89, 90, 91, 92, 146, 147, 148, 149, 82, 86, 782, 783, 784, 785, 786, 787, 788, 789, 790, 791, 792, 793, 794, 795, 796, 797, 798, 799, 800, 801, 802, 803, 804, 805, 806] (by decide +kernel) (by decide +kernel)
set_option maxRecDepth 20000 in
theorem gL_law_X6_mirror : GoodIn wsL_law (wsV RL 115 RX6 yX6_mirror wsX6_mirror) := goodIn_app (goodIn_of _ (by decide +kernel)) ggL_law_X6_mirror
set_option maxRecDepth 20000 in
theorem ggL_law_X5_missing : GoodIn wsL_law wsX5_missing := goodIn_r _ [599, 16, 371, 32, 600, 108, 109, 110, 2, 111, 37, 601, 602, 603, 604, 27, 436, 437, 438, 26, 439, 440, 59, 58, 441, 442, 443, 444, 445, 446, 447, 448, 449, 450, 373, 374, 15, 375, 376, 198, 199, 200, 45, 377, 223, 224, 225, 451, 202, 203, 204, 452, 206, 207, 208, 453, 454, 455, 456, 457, 458, 459, 460, 605, 606, 607, 608, 609, 610, 611, 31, 612, 65, 66, 63, 64, 613, 614, 615, 616, 617, 618, 619, 620, 621, 622, 623, 624, 625, 626, 771, 772, 773, 774, 775, 776, 777, 778, 779, 780, 781, 807, 808, 809, 815, 816, 817, 818, 813, 814] (by decide +kernel) (by decide +kernel)
set_option maxRecDepth 20000 in
theorem gL_law_X5_missing : GoodIn wsL_law (wsV RL 116 RX5 yX5_missing wsX5_missing) := goodIn_app (goodIn_of _ (by decide +kernel)) ggL_law_X5_missing
set_option maxRecDepth 20000 in
theorem ggL_law_X6_missing : GoodIn wsL_law wsX6_missing := goodIn_r _ [630, 81, 136, 137, 138, 5, 139, 140, 631, 632, 633, 634, 101, 635, 636, 637, 638, 132, 469, 470, 471, 472, 473, 474, 475, 476, 83, 84, 477, 478, 479, 411, 412, 413, 414, 82, 86, 639, 640, 641, 642, 516, 517, 518, 519, 782, 783, 784, 785, 786, 787, 788, 789, 790, 791, 792, 793, 794, 795, 796, 797, 798, 799, 800, 801, 802, 803, 804, 805, 806] (by decide +kernel) (by decide +kernel)
set_option maxRecDepth 20000 in
theorem gL_law_X6_missing : GoodIn wsL_law (wsV RL 119 RX6 yX6_missing wsX6_missing) := goodIn_app (goodIn_of _ (by decide +kernel)) ggL_law_X6_missing
set_option maxRecDepth 20000 in
theorem ggL_law_X5_next : GoodIn wsL_law wsX5_next := goodIn_r _ [646, 16, 371, 32, 600, 647, 108, 109, 110, 2, 111, 37, 601, 602, 603, 604, 27, 436, 437, 438, 26, 439, 440, 59, 58, 441, 442, 443, 444, 445, 446, 447, 448, 449, 450, 373, 374, 15, 375, 376, 198, 199, 200, 45, 377, 223, 224, 225, 451, 202, 203, 204, 452, 206, 207, 208, 453, 454, 455, 456, 457, 458, 459, 460, 605, 606, 607, 608, 609, 610, 611, 31, 612, 65, 66, 63, 64, 613, 614, 615, 616, 617, 618, 619, 620, 621, 622, 623, 624, 625, 626, 771, 772, 773, 774, 775, 776, 777, 778, 779, 780, 781, 807, 808, 809, 815, 816, 817, 818, 813, 814] (by decide +kernel) (by decide +kernel)
set_option maxRecDepth 20000 in
theorem gL_law_X5_next : GoodIn wsL_law (wsV RL 120 RX5 yX5_next wsX5_next) := goodIn_app (goodIn_of _ (by decide +kernel)) ggL_law_X5_next
set_option maxRecDepth 20000 in
theorem ggL_law_X6_next : GoodIn wsL_law wsX6_next := goodIn_r _ [651, 81, 101, 136, 137, 138, 5, 139, 140, 631, 632, 633, 634, 635, 636, 637, 638, 132, 469, 470, 471, 472, 473, 474, 475, 476, 83, 84, 477, 478, 479, 411, 412, 413, 414, 82, 86, 639, 640, 641, 642, 516, 517, 518, 519, 133, 134, 135, 782, 783, 784, 785, 786, 787, 788, 789, 790, 791, 792, 793, 794, 795, 796, 797, 798, 799, 800, 801, 802, 803, 804, 805, 806] (by decide +kernel) (by decide +kernel)
set_option maxRecDepth 20000 in
theorem gL_law_X6_next : GoodIn wsL_law (wsV RL 123 RX6 yX6_next wsX6_next) := goodIn_app (goodIn_of _ (by decide +kernel)) ggL_law_X6_next
set_option maxRecDepth 20000 in
theorem ggL_law_X5_bears : GoodIn wsL_law wsX5_bears := goodIn_r _ [655, 16, 107, 656, 481, 482, 2, 483, 484, 485, 486, 487, 371, 488, 489, 26, 490, 491, 492, 493, 494, 27, 436, 437, 438, 439, 440, 59, 58, 441, 442, 443, 444, 445, 446, 447, 448, 449, 450, 373, 374, 15, 375, 376, 198, 199, 200, 45, 377, 223, 224, 225, 451, 202, 203, 204, 452, 206, 207, 208, 453, 454, 455, 456, 457, 458, 459, 460, 495, 496, 497, 498, 499, 500, 501, 502, 503, 392, 504, 505, 506, 507, 771, 772, 773, 774, 775, 776, 777, 778, 779, 780, 781, 807, 808, 809, 813, 814] (by decide +kernel) (by decide +kernel)
set_option maxRecDepth 20000 in
theorem gL_law_X5_bears : GoodIn wsL_law (wsV RL 124 RX5 yX5_bears wsX5_bears) := goodIn_app (goodIn_of _ (by decide +kernel)) ggL_law_X5_bears
set_option maxRecDepth 20000 in
theorem ggL_law_X6_bears : GoodIn wsL_law wsX6_bears := goodIn_r _ [660, 132, 661, 509, 510, 5, 511, 512, 513, 514, 515, 469, 470, 471, 472, 81, 473, 474, 475, 476, 83, 84, 477, 478, 479, 411, 412, 413, 414, 82, 86, 516, 517, 518, 519, 782, 783, 784, 785, 786, 787, 788, 789, 790, 791, 792, 793, 794, 795, 796, 797, 798, 799, 800, 801, 802, 803, 804, 805, 806] (by decide +kernel) (by decide +kernel)
set_option maxRecDepth 20000 in
theorem gL_law_X6_bears : GoodIn wsL_law (wsV RL 127 RX6 yX6_bears wsX6_bears) := goodIn_app (goodIn_of _ (by decide +kernel)) ggL_law_X6_bears
set_option maxRecDepth 20000 in
theorem ggL_law_X5_weak : GoodIn wsL_law wsX5_weak := goodIn_r _ [665, 16, 193, 194, 195, 15, 196, 44, 108, 109, 110, 2, 111, 37, 484, 485, 486, 487, 371, 488, 489, 26, 490, 491, 492, 493, 494, 27, 436, 437, 438, 439, 440, 59, 58, 441, 442, 443, 444, 445, 446, 447, 448, 449, 450, 373, 374, 375, 376, 198, 199, 200, 45, 377, 223, 224, 225, 451, 202, 203, 204, 452, 206, 207, 208, 453, 454, 455, 456, 457, 458, 459, 460, 495, 496, 497, 498, 499, 500, 501, 502, 503, 392, 504, 505, 506, 507, 524, 525, 526, 527, 771, 772, 773, 774, 775, 776, 777, 778, 779, 780, 781, 807, 808, 809, 813, 814] (by decide +kernel) (by decide +kernel)
set_option maxRecDepth 20000 in
theorem gL_law_X5_weak : GoodIn wsL_law (wsV RL 128 RX5 yX5_weak wsX5_weak) := goodIn_app (goodIn_of _ (by decide +kernel)) ggL_law_X5_weak
set_option maxRecDepth 20000 in
theorem ggL_law_X6_weak : GoodIn wsL_law wsX6_weak := goodIn_r _ [669, 214, 215, 216, 5, 217, 132, 133, 134, 135, 136, 137, 138, 139, 140, 512, 513, 514, 515, 469, 470, 471, 472, 81, 473, 474, 475, 476, 83, 84, 477, 478, 479, 411, 412, 413, 414, 82, 86, 516, 517, 518, 519, 782, 783, 784, 785, 786, 787, 788, 789, 790, 791, 792, 793, 794, 795, 796, 797, 798, 799, 800, 801, 802, 803, 804, 805, 806] (by decide +kernel) (by decide +kernel)
set_option maxRecDepth 20000 in
theorem gL_law_X6_weak : GoodIn wsL_law (wsV RL 131 RX6 yX6_weak wsX6_weak) := goodIn_app (goodIn_of _ (by decide +kernel)) ggL_law_X6_weak
set_option maxRecDepth 20000 in
theorem ggL_law_X5_keep : GoodIn wsL_law wsX5_keep := goodIn_r _ [673, 17, 16, 107, 674, 675, 2, 676, 108, 109, 110, 111, 37, 677, 121, 122, 15, 123, 43, 44, 45, 124, 125, 126, 127, 771, 772, 773, 774, 775, 776, 777, 778, 779, 780, 781, 807, 808, 809] (by decide +kernel) (by decide +kernel)
set_option maxRecDepth 20000 in
theorem gL_law_X5_keep : GoodIn wsL_law (wsV RL 132 RX5 yX5_keep wsX5_keep) := goodIn_app (goodIn_of _ (by decide +kernel)) ggL_law_X5_keep
set_option maxRecDepth 20000 in
theorem ggL_law_X6_keep : GoodIn wsL_law wsX6_keep := goodIn_r _ [681, 132, 682, 683, 5, 684, 133, 134, 135, 136, 137, 138, 139, 140, 146, 147, 148, 149, 87, 81, 88, 89, 82, 90, 83, 91, 84, 92, 86, 782, 783, 784, 785, 786, 787, 788, 789, 790, 791, 792, 793, 794, 795, 796, 797, 798, 799, 800, 801, 802, 803, 804, 805, 806] (by decide +kernel) (by decide +kernel)
set_option maxRecDepth 20000 in
theorem gL_law_X6_keep : GoodIn wsL_law (wsV RL 135 RX6 yX6_keep wsX6_keep) := goodIn_app (goodIn_of _ (by decide +kernel)) ggL_law_X6_keep
set_option maxRecDepth 20000 in
theorem ggL_law_X5_bring : GoodIn wsL_law wsX5_bring := goodIn_r _ [688, 21, 16, 17, 107, 689, 690, 691, 2, 692, 674, 675, 676, 693, 694, 695, 15, 696, 43, 108, 109, 110, 111, 37, 112, 113, 114, 20, 115, 51, 52, 53, 116, 117, 118, 119, 120, 121, 122, 123, 44, 45, 124, 125, 126, 127, 677, 771, 772, 773, 774, 775, 776, 777, 778, 779, 780, 781, 807, 808, 809, 810, 811, 812] (by decide +kernel) (by decide +kernel)
set_option maxRecDepth 20000 in
theorem gL_law_X5_bring : GoodIn wsL_law (wsV RL 136 RX5 yX5_bring wsX5_bring) := goodIn_app (goodIn_of _ (by decide +kernel)) ggL_law_X5_bring
set_option maxRecDepth 20000 in
theorem ggL_law_X6_bring : GoodIn wsL_law wsX6_bring := goodIn_r _ [700, 87, 132, 682, 683, 5, 684, 133, 134, 135, 136, 137, 138, 139, 140, 141, 142, 143, 144, 145, 88, 89, 90, 91, 92, 146, 147, 148, 149, 81, 82, 83, 84, 86, 701, 702, 703, 704, 782, 783, 784, 785, 786, 787, 788, 789, 790, 791, 792, 793, 794, 795, 796, 797, 798, 799, 800, 801, 802, 803, 804, 805, 806] (by decide +kernel) (by decide +kernel)
set_option maxRecDepth 20000 in
theorem gL_law_X6_bring : GoodIn wsL_law (wsV RL 139 RX6 yX6_bring wsX6_bring) := goodIn_app (goodIn_of _ (by decide +kernel)) ggL_law_X6_bring
set_option maxRecDepth 20000 in
theorem ggL_law_X5_follow : GoodIn wsL_law wsX5_follow := goodIn_r _ [708, 17, 16, 107, 21, 567, 358, 125, 126, 127, 709, 710, 711, 2, 712, 371, 689, 690, 691, 692, 674, 675, 676, 693, 694, 695, 15, 696, 43, 108, 109, 110, 111, 37, 112, 113, 114, 20, 115, 51, 52, 53, 116, 117, 118, 119, 120, 121, 122, 123, 44, 45, 124, 771, 772, 773, 774, 775, 776, 777, 778, 779, 780, 781, 807, 808, 809, 810, 811, 812] (by decide +kernel) (by decide +kernel)
set_option maxRecDepth 20000 in
theorem gL_law_X5_follow : GoodIn wsL_law (wsV RL 140 RX5 yX5_follow wsX5_follow) := goodIn_app (goodIn_of _ (by decide +kernel)) ggL_law_X5_follow
set_option maxRecDepth 20000 in
theorem ggL_law_X6_follow : GoodIn wsL_law wsX6_follow := goodIn_r _ [716, 87, 81, 132, 88, 82, 89, 83, 90, 84, 91, 86, 92, 682, 683, 5, 684, 133, 134, 135, 136, 137, 138, 139, 140, 141, 142, 143, 144, 145, 146, 147, 148, 149, 782, 783, 784, 785, 786, 787, 788, 789, 790, 791, 792, 793, 794, 795, 796, 797, 798, 799, 800, 801, 802, 803, 804, 805, 806] (by decide +kernel) (by decide +kernel)
set_option maxRecDepth 20000 in
theorem gL_law_X6_follow : GoodIn wsL_law (wsV RL 143 RX6 yX6_follow wsX6_follow) := goodIn_app (goodIn_of _ (by decide +kernel)) ggL_law_X6_follow
set_option maxRecDepth 20000 in
theorem ggL_law_X5_unlike : GoodIn wsL_law wsX5_unlike := goodIn_r _ [720, 16, 371, 27, 28, 17, 709, 710, 711, 2, 712, 689, 690, 691, 692, 674, 675, 676, 693, 694, 695, 15, 696, 43, 108, 109, 110, 111, 37, 488, 489, 26, 490, 436, 437, 438, 439, 440, 59, 58, 441, 442, 443, 444, 445, 446, 447, 448, 449, 450, 373, 374, 375, 376, 198, 199, 200, 45, 377, 223, 224, 225, 451, 202, 203, 204, 452, 206, 207, 208, 453, 454, 455, 456, 457, 458, 459, 460, 721, 722, 723, 724, 499, 500, 501, 502, 503, 392, 504, 505, 506, 507, 771, 772, 773, 774, 775, 776, 777, 778, 779, 780, 781, 807, 808, 809, 813, 814] (by decide +kernel) (by decide +kernel)
set_option maxRecDepth 20000 in
theorem gL_law_X5_unlike : GoodIn wsL_law (wsV RL 144 RX5 yX5_unlike wsX5_unlike) := goodIn_app (goodIn_of _ (by decide +kernel)) ggL_law_X5_unlike
set_option maxRecDepth 20000 in
theorem ggL_law_X6_unlike : GoodIn wsL_law wsX6_unlike := goodIn_r _ [728, 87, 81, 102, 132, 682, 683, 5, 684, 133, 134, 135, 136, 137, 138, 139, 140, 469, 470, 471, 472, 473, 474, 475, 476, 83, 84, 477, 478, 479, 411, 412, 413, 414, 82, 86, 146, 147, 148, 149, 88, 89, 90, 91, 92, 701, 702, 703, 704, 782, 783, 784, 785, 786, 787, 788, 789, 790, 791, 792, 793, 794, 795, 796, 797, 798, 799, 800, 801, 802, 803, 804, 805, 806] (by decide +kernel) (by decide +kernel)
set_option maxRecDepth 20000 in
theorem gL_law_X6_unlike : GoodIn wsL_law (wsV RL 147 RX6 yX6_unlike wsX6_unlike) := goodIn_app (goodIn_of _ (by decide +kernel)) ggL_law_X6_unlike
set_option maxRecDepth 20000 in
theorem ggL_law_X5_tell : GoodIn wsL_law wsX5_tell := goodIn_r _ [732, 36, 35, 108, 109, 110, 2, 111, 37, 771, 772, 773, 774, 775, 776, 777, 778, 779, 780, 781] (by decide +kernel) (by decide +kernel)
set_option maxRecDepth 20000 in
theorem gL_law_X5_tell : GoodIn wsL_law (wsV RL 148 RX5 yX5_tell wsX5_tell) := goodIn_app (goodIn_of _ (by decide +kernel)) ggL_law_X5_tell
set_option maxRecDepth 20000 in
theorem ggL_law_X6_tell : GoodIn wsL_law wsX6_tell := goodIn_r _ [736, 737, 96, 136, 137, 138, 5, 139, 140, 782, 783, 784, 785, 786, 787, 788, 789, 790, 791, 792, 793, 794, 795, 796, 797, 798, 799, 800, 801, 802, 803, 804, 805, 806] (by decide +kernel) (by decide +kernel)
set_option maxRecDepth 20000 in
theorem gL_law_X6_tell : GoodIn wsL_law (wsV RL 151 RX6 yX6_tell wsX6_tell) := goodIn_app (goodIn_of _ (by decide +kernel)) ggL_law_X6_tell
set_option maxRecDepth 20000 in
theorem ggL_law_X5_would : GoodIn wsL_law wsX5_would := goodIn_r _ [741, 36, 16, 371, 27, 35, 108, 109, 110, 2, 111, 37, 742, 743, 744, 745, 157, 158, 159, 15, 160, 43, 488, 489, 26, 490, 436, 437, 438, 439, 440, 59, 58, 441, 442, 443, 444, 445, 446, 447, 448, 449, 450, 373, 374, 375, 376, 198, 199, 200, 45, 377, 223, 224, 225, 451, 202, 203, 204, 452, 206, 207, 208, 453, 454, 455, 456, 457, 458, 459, 460, 551, 495, 496, 497, 498, 771, 772, 773, 774, 775, 776, 777, 778, 779, 780, 781, 807, 808, 809, 813, 814] (by decide +kernel) (by decide +kernel)
set_option maxRecDepth 20000 in
theorem gL_law_X5_would : GoodIn wsL_law (wsV RL 152 RX5 yX5_would wsX5_would) := goodIn_app (goodIn_of _ (by decide +kernel)) ggL_law_X5_would
set_option maxRecDepth 20000 in
theorem ggL_law_X6_would : GoodIn wsL_law wsX6_would := goodIn_r _ [749, 737, 96, 132, 136, 137, 138, 5, 139, 140, 173, 174, 175, 176, 81, 133, 134, 135, 469, 470, 471, 472, 473, 474, 475, 476, 83, 84, 477, 478, 479, 411, 412, 413, 414, 82, 86, 516, 517, 518, 519, 782, 783, 784, 785, 786, 787, 788, 789, 790, 791, 792, 793, 794, 795, 796, 797, 798, 799, 800, 801, 802, 803, 804, 805, 806] (by decide +kernel) (by decide +kernel)
set_option maxRecDepth 20000 in
theorem gL_law_X6_would : GoodIn wsL_law (wsV RL 155 RX6 yX6_would wsX6_would) := goodIn_app (goodIn_of _ (by decide +kernel)) ggL_law_X6_would
set_option maxRecDepth 20000 in
theorem ggL_law_X5_undo : GoodIn wsL_law wsX5_undo := goodIn_r _ [753, 21, 754, 16, 108, 109, 110, 2, 111, 37, 755, 756, 757, 20, 758, 53, 52, 51, 120, 121, 122, 15, 123, 43, 44, 45, 124, 125, 126, 127, 771, 772, 773, 774, 775, 776, 777, 778, 779, 780, 781, 810, 811, 812, 807, 808, 809] (by decide +kernel) (by decide +kernel)
set_option maxRecDepth 20000 in
theorem gL_law_X5_undo : GoodIn wsL_law (wsV RL 156 RX5 yX5_undo wsX5_undo) := goodIn_app (goodIn_of _ (by decide +kernel)) ggL_law_X5_undo
set_option maxRecDepth 20000 in
theorem ggL_law_X6_undo : GoodIn wsL_law wsX6_undo := goodIn_r _ [762, 145, 136, 137, 138, 5, 139, 140, 701, 702, 703, 704, 87, 81, 88, 132, 82, 89, 83, 90, 84, 91, 86, 92, 782, 783, 784, 785, 786, 787, 788, 789, 790, 791, 792, 793, 794, 795, 796, 797, 798, 799, 800, 801, 802, 803, 804, 805, 806] (by decide +kernel) (by decide +kernel)
set_option maxRecDepth 20000 in
theorem gL_law_X6_undo : GoodIn wsL_law (wsV RL 159 RX6 yX6_undo wsX6_undo) := goodIn_app (goodIn_of _ (by decide +kernel)) ggL_law_X6_undo
set_option maxRecDepth 20000 in
theorem ggL_law_X5_told : GoodIn wsL_law wsX5_told := goodIn_r _ [766, 16, 371, 107, 36, 37, 108, 109, 110, 2, 111, 771, 772, 773, 774, 775, 776, 777, 778, 779, 780, 781, 807, 808, 809] (by decide +kernel) (by decide +kernel)
set_option maxRecDepth 20000 in
theorem gL_law_X5_told : GoodIn wsL_law (wsV RL 160 RX5 yX5_told wsX5_told) := goodIn_app (goodIn_of _ (by decide +kernel)) ggL_law_X5_told
set_option maxRecDepth 20000 in
theorem ggL_law_X6_told : GoodIn wsL_law wsX6_told := goodIn_r _ [770, 81, 132, 737, 140, 136, 137, 138, 5, 139, 782, 783, 784, 785, 786, 787, 788, 789, 790, 791, 792, 793, 794, 795, 796, 797, 798, 799, 800, 801, 802, 803, 804, 805, 806] (by decide +kernel) (by decide +kernel)
set_option maxRecDepth 20000 in
theorem gL_law_X6_told : GoodIn wsL_law (wsV RL 163 RX6 yX6_told wsX6_told) := goodIn_app (goodIn_of _ (by decide +kernel)) ggL_law_X6_told
