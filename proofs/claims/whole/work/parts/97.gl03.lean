set_option maxRecDepth 20000 in
theorem ggL_law_L_forge : GoodIn wsL_law wsL_forge := goodIn_ca (goodIn_ca (goodIn_r _ [299, 218, 70, 300, 301, 302, 2, 303, 75, 76, 16, 23, 223, 224, 225, 226, 227, 304, 305, 306, 15, 307, 40, 78, 79, 80, 81, 19, 18, 82, 83, 84, 85, 86, 87, 37, 38, 39, 41, 88, 89, 42, 90, 91, 92, 93, 94, 43, 308, 309, 310, 311, 253, 254, 255, 22, 256, 47, 257, 258, 259, 260, 202, 203, 204, 205, 206, 207, 261, 262, 263, 264, 836, 837, 838, 839, 840, 841, 842, 853, 854, 855, 856, 857, 858, 859, 860, 861, 862, 863, 864, 865, 866, 867, 868, 869] (by decide +kernel) (by decide +kernel)) (goodIn_sub (fun _ h => List.mem_append_left _ (List.mem_append_left _ (List.mem_append_right _ h))) (by decide +kernel))) (goodIn_sub (fun _ h => List.mem_append_right _ h) (by decide +kernel))
set_option maxRecDepth 20000 in
theorem gL_law_L_forge : GoodIn wsL_law (va_wsS RL 107 yL_forge wsL_forge) := goodIn_app (goodIn_of _ (by decide +kernel)) ggL_law_L_forge
set_option maxRecDepth 20000 in
theorem ggL_law_X5_forge : GoodIn wsL_law wsX5_forge := goodIn_r _ [315, 61, 157, 158, 5, 159, 103, 104, 105, 106, 107, 108, 109, 110, 111, 112, 113, 114, 115, 116, 843, 844, 845, 846, 847, 848, 849, 850, 851, 852] (by decide +kernel) (by decide +kernel)
set_option maxRecDepth 20000 in
theorem gL_law_X5_forge : GoodIn wsL_law (wsV RL 109 RX5 yX5_forge wsX5_forge) := goodIn_app (goodIn_of _ (by decide +kernel)) ggL_law_X5_forge
set_option maxRecDepth 20000 in
theorem ggL_law_L_pass : GoodIn wsL_law wsL_pass := goodIn_ca (goodIn_ca (goodIn_r _ [318, 218, 70, 319, 320, 321, 2, 322, 75, 76, 16, 323, 223, 224, 225, 226, 227, 324, 325, 326, 15, 327, 89, 328, 78, 79, 80, 81, 19, 18, 82, 83, 84, 85, 86, 87, 37, 38, 39, 40, 41, 88, 42, 90, 91, 92, 93, 94, 43, 836, 837, 838, 839, 840, 841, 842, 853, 854, 855, 856, 857, 858, 859, 860, 861, 862, 863, 864, 865, 866, 867, 868] (by decide +kernel) (by decide +kernel)) (goodIn_sub (fun _ h => List.mem_append_left _ (List.mem_append_left _ (List.mem_append_right _ h))) (by decide +kernel))) (goodIn_sub (fun _ h => List.mem_append_right _ h) (by decide +kernel))
set_option maxRecDepth 20000 in
theorem gL_law_L_pass : GoodIn wsL_law (va_wsS RL 110 yL_pass wsL_pass) := goodIn_app (goodIn_of _ (by decide +kernel)) ggL_law_L_pass
set_option maxRecDepth 20000 in
theorem ggL_law_X5_pass : GoodIn wsL_law wsX5_pass := goodIn_r _ [332, 61, 333, 157, 158, 5, 159, 103, 104, 105, 106, 107, 108, 109, 110, 111, 112, 113, 114, 115, 116, 843, 844, 845, 846, 847, 848, 849, 850, 851, 852] (by decide +kernel) (by decide +kernel)
set_option maxRecDepth 20000 in
theorem gL_law_X5_pass : GoodIn wsL_law (wsV RL 112 RX5 yX5_pass wsX5_pass) := goodIn_app (goodIn_of _ (by decide +kernel)) ggL_law_X5_pass
set_option maxRecDepth 20000 in
theorem ggL_law_L_open : GoodIn wsL_law wsL_open := goodIn_ca (goodIn_r _ [336, 218, 337, 338, 339, 2, 340, 16, 341, 342, 343, 344, 226, 227, 345, 346, 347, 15, 348, 86, 78, 79, 80, 81, 19, 18, 82, 83, 84, 85, 87, 37, 38, 39, 40, 41, 88, 89, 42, 90, 91, 92, 93, 94, 43, 349, 350, 351, 352, 27, 353, 323, 354, 355, 23, 356, 357, 358, 359, 26, 360, 51, 52, 361, 362, 363, 364, 365, 366, 202, 203, 204, 205, 206, 207, 367, 368, 369, 370, 371, 372, 373, 374, 375, 376, 377, 378, 379, 380, 381, 382, 22, 383, 47, 384, 385, 386, 387, 836, 837, 838, 839, 840, 841, 842, 853, 854, 855, 856, 857, 858, 859, 860, 861, 862, 863, 864, 865, 866, 867, 868, 870, 871, 869] (by decide +kernel) (by decide +kernel)) (goodIn_sub (fun _ h => List.mem_append_right _ h) (by decide +kernel))
set_option maxRecDepth 20000 in
theorem gL_law_L_open : GoodIn wsL_law (va_wsS RL 113 yL_open wsL_open) := goodIn_app (goodIn_of _ (by decide +kernel)) ggL_law_L_open
