set_option maxRecDepth 20000 in
theorem ggL_law_X4_groups : GoodIn wsL_law wsX4_groups := goodIn_r _ [720, 27, 16, 357, 358, 359, 26, 360, 51, 52, 361, 362, 363, 364, 15, 365, 40, 366, 202, 203, 204, 205, 206, 207, 701, 702, 703, 2, 704, 371, 372, 373, 374, 705, 706, 707, 708, 353, 355, 23, 356, 375, 376, 377, 378, 367, 368, 369, 370, 87, 379, 380, 381, 382, 22, 383, 47, 836, 837, 838, 839, 840, 841, 842, 870, 871, 853, 854, 855, 856, 857, 858, 859, 860, 861, 862, 863, 864, 865, 866, 867, 868, 869] (by decide +kernel) (by decide +kernel)
set_option maxRecDepth 20000 in
theorem gL_law_X4_groups : GoodIn wsL_law (wsV RL 154 RX4 yX4_groups wsX4_groups) := goodIn_app (goodIn_of _ (by decide +kernel)) ggL_law_X4_groups
set_option maxRecDepth 20000 in
theorem ggL_law_X5_groups : GoodIn wsL_law wsX5_groups := goodIn_r _ [724, 107, 725, 726, 727, 5, 728, 396, 397, 398, 399, 61, 400, 401, 402, 403, 160, 161, 162, 404, 405, 406, 407, 212, 213, 214, 408, 409, 410, 411, 412, 413, 414, 415, 416, 417, 418, 419, 420, 421, 843, 844, 845, 846, 847, 848, 849, 850, 851, 852] (by decide +kernel) (by decide +kernel)
set_option maxRecDepth 20000 in
theorem gL_law_X5_groups : GoodIn wsL_law (wsV RL 157 RX5 yX5_groups wsX5_groups) := goodIn_app (goodIn_of _ (by decide +kernel)) ggL_law_X5_groups
set_option maxRecDepth 20000 in
theorem ggL_law_X4_needed : GoodIn wsL_law wsX4_needed := goodIn_r _ [732, 16, 17, 733, 734, 735, 2, 736, 27, 357, 358, 359, 26, 360, 51, 52, 361, 362, 363, 364, 15, 365, 40, 366, 202, 203, 204, 205, 206, 207, 701, 702, 703, 704, 371, 372, 373, 374, 705, 706, 707, 708, 353, 355, 23, 356, 375, 376, 377, 378, 367, 368, 369, 370, 87, 379, 380, 381, 382, 22, 383, 47, 139, 140, 141, 142, 143, 136, 137, 138, 86, 82, 83, 84, 85, 37, 38, 39, 41, 88, 89, 42, 90, 91, 92, 93, 94, 43, 144, 145, 146, 147, 148, 836, 837, 838, 839, 840, 841, 842, 870, 871, 853, 854, 855, 856, 857, 858, 859, 860, 861, 862, 863, 864, 865, 866, 867, 868, 869] (by decide +kernel) (by decide +kernel)
set_option maxRecDepth 20000 in
theorem gL_law_X4_needed : GoodIn wsL_law (wsV RL 158 RX4 yX4_needed wsX4_needed) := goodIn_app (goodIn_of _ (by decide +kernel)) ggL_law_X4_needed
set_option maxRecDepth 20000 in
theorem ggL_law_X5_needed : GoodIn wsL_law wsX5_needed := goodIn_r _ [740, 107, 741, 742, 743, 5, 744, 61, 725, 726, 727, 728, 396, 397, 398, 399, 400, 401, 402, 403, 160, 161, 162, 404, 405, 406, 407, 212, 213, 214, 408, 409, 410, 411, 412, 413, 414, 415, 416, 417, 418, 419, 420, 421, 113, 114, 115, 116, 163, 164, 165, 166, 843, 844, 845, 846, 847, 848, 849, 850, 851, 852] (by decide +kernel) (by decide +kernel)
set_option maxRecDepth 20000 in
theorem gL_law_X5_needed : GoodIn wsL_law (wsV RL 161 RX5 yX5_needed wsX5_needed) := goodIn_app (goodIn_of _ (by decide +kernel)) ggL_law_X5_needed
set_option maxRecDepth 20000 in
theorem ggL_law_X4_peace : GoodIn wsL_law wsX4_peace := goodIn_r _ [748, 27, 16, 357, 358, 359, 26, 360, 51, 52, 361, 362, 363, 364, 15, 365, 40, 366, 202, 203, 204, 205, 206, 207, 749, 750, 751, 2, 752, 753, 754, 755, 756, 38, 371, 372, 373, 374, 705, 706, 707, 708, 353, 355, 23, 356, 375, 376, 377, 378, 367, 368, 369, 370, 87, 379, 380, 381, 382, 22, 383, 47, 836, 837, 838, 839, 840, 841, 842, 870, 871, 853, 854, 855, 856, 857, 858, 859, 860, 861, 862, 863, 864, 865, 866, 867, 868, 869] (by decide +kernel) (by decide +kernel)
set_option maxRecDepth 20000 in
theorem gL_law_X4_peace : GoodIn wsL_law (wsV RL 162 RX4 yX4_peace wsX4_peace) := goodIn_app (goodIn_of _ (by decide +kernel)) ggL_law_X4_peace
