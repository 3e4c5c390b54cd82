set_option maxRecDepth 20000 in
theorem ggL_law_X5_told : GoodIn wsL_law wsX5_told := goodIn_r _ [669, 157, 158, 5, 159, 103, 104, 105, 106, 107, 670, 671, 672, 673, 61, 639, 640, 641, 642, 212, 213, 214, 408, 409, 410, 411, 412, 413, 414, 160, 161, 162, 415, 416, 417, 418, 419, 420, 421, 843, 844, 845, 846, 847, 848, 849, 850, 851, 852] (by decide +kernel) (by decide +kernel)
set_option maxRecDepth 20000 in
theorem gL_law_X5_told : GoodIn wsL_law (wsV RL 147 RX5 yX5_told wsX5_told) := goodIn_app (goodIn_of _ (by decide +kernel)) ggL_law_X5_told
set_option maxRecDepth 20000 in
theorem ggL_law_L_possible : GoodIn wsL_law wsL_possible := goodIn_ca (goodIn_r _ [676, 218, 677, 678, 679, 2, 680, 16, 355, 23, 223, 224, 225, 226, 227, 661, 662, 663, 15, 664, 42, 665, 624, 625, 626, 40, 379, 202, 203, 204, 205, 206, 207, 681, 682, 683, 22, 684, 260, 685, 381, 382, 383, 47, 836, 837, 838, 839, 840, 841, 842, 853, 854, 855, 856, 857, 858, 859, 860, 861, 862, 863, 864, 865, 866, 867, 868, 869] (by decide +kernel) (by decide +kernel)) (goodIn_sub (fun _ h => List.mem_append_right _ h) (by decide +kernel))
set_option maxRecDepth 20000 in
theorem gL_law_L_possible : GoodIn wsL_law (va_wsS RL 148 yL_possible wsL_possible) := goodIn_app (goodIn_of _ (by decide +kernel)) ggL_law_L_possible
set_option maxRecDepth 20000 in
theorem ggL_law_X5_possible : GoodIn wsL_law wsX5_possible := goodIn_r _ [689, 157, 158, 5, 159, 103, 104, 105, 106, 107, 690, 691, 692, 693, 61, 639, 640, 641, 642, 212, 213, 214, 412, 413, 414, 160, 161, 162, 415, 416, 417, 418, 419, 420, 421, 843, 844, 845, 846, 847, 848, 849, 850, 851, 852] (by decide +kernel) (by decide +kernel)
set_option maxRecDepth 20000 in
theorem gL_law_X5_possible : GoodIn wsL_law (wsV RL 150 RX5 yX5_possible wsX5_possible) := goodIn_app (goodIn_of _ (by decide +kernel)) ggL_law_X5_possible
set_option maxRecDepth 20000 in
theorem ggL_law_L_smallest : GoodIn wsL_law wsL_smallest := goodIn_ca (goodIn_r _ [696, 218, 697, 698, 699, 2, 700, 27, 16, 223, 224, 225, 226, 227, 357, 358, 359, 26, 360, 51, 52, 361, 362, 363, 364, 15, 365, 40, 366, 202, 203, 204, 205, 206, 207, 701, 702, 703, 704, 371, 372, 373, 374, 705, 706, 707, 708, 353, 355, 23, 356, 375, 376, 377, 378, 367, 368, 369, 370, 87, 379, 380, 381, 382, 22, 383, 47, 836, 837, 838, 839, 840, 841, 842, 870, 871, 853, 854, 855, 856, 857, 858, 859, 860, 861, 862, 863, 864, 865, 866, 867, 868, 869] (by decide +kernel) (by decide +kernel)) (goodIn_sub (fun _ h => List.mem_append_right _ h) (by decide +kernel))
set_option maxRecDepth 20000 in
theorem gL_law_L_smallest : GoodIn wsL_law (va_wsS RL 151 yL_smallest wsL_smallest) := goodIn_app (goodIn_of _ (by decide +kernel)) ggL_law_L_smallest
set_option maxRecDepth 20000 in
theorem ggL_law_X5_smallest : GoodIn wsL_law wsX5_smallest := goodIn_r _ [712, 157, 158, 5, 159, 103, 104, 105, 106, 107, 713, 714, 715, 716, 396, 397, 398, 399, 61, 400, 401, 402, 403, 160, 161, 162, 404, 405, 406, 407, 212, 213, 214, 408, 409, 410, 411, 412, 413, 414, 415, 416, 417, 418, 419, 420, 421, 843, 844, 845, 846, 847, 848, 849, 850, 851, 852] (by decide +kernel) (by decide +kernel)
set_option maxRecDepth 20000 in
theorem gL_law_X5_smallest : GoodIn wsL_law (wsV RL 153 RX5 yX5_smallest wsX5_smallest) := goodIn_app (goodIn_of _ (by decide +kernel)) ggL_law_X5_smallest
