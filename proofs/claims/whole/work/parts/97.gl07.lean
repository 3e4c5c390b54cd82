set_option maxRecDepth 20000 in
theorem ggL_law_L_count : GoodIn wsL_law wsL_count := goodIn_ca (goodIn_r _ [615, 218, 616, 617, 618, 2, 619, 226, 227, 16, 77, 323, 353, 355, 354, 620, 621, 622, 19, 228, 229, 230, 15, 231, 87, 201, 202, 203, 204, 205, 206, 207, 623, 624, 625, 626, 40, 379, 627, 628, 629, 630, 38, 836, 837, 838, 839, 840, 841, 842, 853, 854, 855, 856, 857, 858, 859, 860, 861, 862, 863, 864, 865, 866, 867, 868] (by decide +kernel) (by decide +kernel)) (goodIn_sub (fun _ h => List.mem_append_right _ h) (by decide +kernel))
set_option maxRecDepth 20000 in
theorem gL_law_L_count : GoodIn wsL_law (va_wsS RL 139 yL_count wsL_count) := goodIn_app (goodIn_of _ (by decide +kernel)) ggL_law_L_count
set_option maxRecDepth 20000 in
theorem ggL_law_X5_count : GoodIn wsL_law wsX5_count := goodIn_r _ [634, 157, 158, 5, 159, 103, 104, 105, 106, 107, 635, 636, 637, 638, 61, 112, 212, 213, 214, 639, 640, 641, 642, 843, 844, 845, 846, 847, 848, 849, 850, 851, 852] (by decide +kernel) (by decide +kernel)
set_option maxRecDepth 20000 in
theorem gL_law_X5_count : GoodIn wsL_law (wsV RL 141 RX5 yX5_count wsX5_count) := goodIn_app (goodIn_of _ (by decide +kernel)) ggL_law_X5_count
set_option maxRecDepth 20000 in
theorem ggL_law_L_why : GoodIn wsL_law wsL_why := goodIn_ca (goodIn_r _ [645, 218, 646, 647, 648, 2, 649, 341, 342, 343, 344, 226, 227, 16, 345, 346, 347, 15, 348, 86, 349, 350, 351, 352, 27, 353, 323, 354, 355, 23, 356, 357, 358, 359, 26, 360, 51, 52, 361, 362, 363, 364, 365, 40, 366, 202, 203, 204, 205, 206, 207, 367, 368, 369, 370, 87, 371, 372, 373, 374, 375, 376, 377, 378, 379, 380, 381, 382, 22, 383, 47, 836, 837, 838, 839, 840, 841, 842, 853, 854, 855, 856, 857, 858, 859, 860, 861, 862, 863, 864, 865, 866, 867, 868, 870, 871, 869] (by decide +kernel) (by decide +kernel)) (goodIn_sub (fun _ h => List.mem_append_right _ h) (by decide +kernel))
set_option maxRecDepth 20000 in
theorem gL_law_L_why : GoodIn wsL_law (va_wsS RL 142 yL_why wsL_why) := goodIn_app (goodIn_of _ (by decide +kernel)) ggL_law_L_why
set_option maxRecDepth 20000 in
theorem ggL_law_X5_why : GoodIn wsL_law wsX5_why := goodIn_r _ [653, 392, 393, 394, 5, 395, 61, 157, 158, 159, 103, 104, 105, 106, 107, 396, 397, 398, 399, 400, 401, 402, 403, 160, 161, 162, 404, 405, 406, 407, 212, 213, 214, 408, 409, 410, 411, 412, 413, 414, 415, 416, 417, 418, 419, 420, 421, 843, 844, 845, 846, 847, 848, 849, 850, 851, 852] (by decide +kernel) (by decide +kernel)
set_option maxRecDepth 20000 in
theorem gL_law_X5_why : GoodIn wsL_law (wsV RL 144 RX5 yX5_why wsX5_why) := goodIn_app (goodIn_of _ (by decide +kernel)) ggL_law_X5_why
set_option maxRecDepth 20000 in
theorem ggL_law_L_told : GoodIn wsL_law wsL_told := goodIn_ca (goodIn_r _ [656, 218, 657, 658, 659, 2, 660, 16, 355, 23, 223, 224, 225, 226, 227, 661, 662, 663, 15, 664, 42, 665, 624, 625, 626, 40, 379, 202, 203, 204, 205, 206, 207, 380, 381, 382, 22, 383, 47, 836, 837, 838, 839, 840, 841, 842, 853, 854, 855, 856, 857, 858, 859, 860, 861, 862, 863, 864, 865, 866, 867, 868, 869] (by decide +kernel) (by decide +kernel)) (goodIn_sub (fun _ h => List.mem_append_right _ h) (by decide +kernel))
set_option maxRecDepth 20000 in
theorem gL_law_L_told : GoodIn wsL_law (va_wsS RL 145 yL_told wsL_told) := goodIn_app (goodIn_of _ (by decide +kernel)) ggL_law_L_told
