set_option maxRecDepth 20000 in
theorem ggL_law_X5_undo : GoodIn wsL_law wsX5_undo := goodIn_r _ [575, 112, 103, 104, 105, 5, 106, 107, 113, 114, 115, 116, 61, 843, 844, 845, 846, 847, 848, 849, 850, 851, 852] (by decide +kernel) (by decide +kernel)
set_option maxRecDepth 20000 in
theorem gL_law_X5_undo : GoodIn wsL_law (wsV RL 132 RX5 yX5_undo wsX5_undo) := goodIn_app (goodIn_of _ (by decide +kernel)) ggL_law_X5_undo
set_option maxRecDepth 20000 in
theorem ggL_law_L_keeperOf : GoodIn wsL_law wsL_keeperOf := goodIn_ca (goodIn_ca (goodIn_r _ [578, 124, 218, 579, 580, 581, 2, 582, 226, 227, 16, 583, 584, 585, 129, 130, 131, 132, 133, 134, 135, 136, 137, 15, 138, 86, 139, 140, 141, 142, 87, 143, 586, 363, 364, 365, 40, 836, 837, 838, 839, 840, 841, 842, 853, 854, 855, 856, 857, 858, 859, 860, 861, 862, 863, 864, 865, 866, 867, 868] (by decide +kernel) (by decide +kernel)) (goodIn_sub (fun _ h => List.mem_append_right _ h) (by decide +kernel))) (goodIn_sub (fun _ h => List.mem_append_left _ (List.mem_append_right _ h)) (by decide +kernel))
set_option maxRecDepth 20000 in
theorem gL_law_L_keeperOf : GoodIn wsL_law (va_wsS RL 133 yL_keeperOf wsL_keeperOf) := goodIn_app (goodIn_of _ (by decide +kernel)) ggL_law_L_keeperOf
set_option maxRecDepth 20000 in
theorem ggL_law_X5_keeperOf : GoodIn wsL_law wsX5_keeperOf := goodIn_r _ [590, 153, 154, 155, 5, 156, 61, 157, 158, 159, 103, 104, 105, 106, 107, 591, 592, 593, 594, 404, 405, 406, 407, 160, 161, 162, 843, 844, 845, 846, 847, 848, 849, 850, 851, 852] (by decide +kernel) (by decide +kernel)
set_option maxRecDepth 20000 in
theorem gL_law_X5_keeperOf : GoodIn wsL_law (wsV RL 135 RX5 yX5_keeperOf wsX5_keeperOf) := goodIn_app (goodIn_of _ (by decide +kernel)) ggL_law_X5_keeperOf
set_option maxRecDepth 20000 in
theorem ggL_law_L_share : GoodIn wsL_law wsL_share := goodIn_ca (goodIn_r _ [597, 218, 598, 599, 600, 2, 601, 16, 602, 603, 604, 223, 224, 225, 226, 227, 304, 305, 306, 15, 307, 40, 836, 837, 838, 839, 840, 841, 842, 853, 854, 855, 856, 857, 858, 859, 860, 861, 862, 863, 864, 865, 866, 867, 868] (by decide +kernel) (by decide +kernel)) (goodIn_sub (fun _ h => List.mem_append_right _ h) (by decide +kernel))
set_option maxRecDepth 20000 in
theorem gL_law_L_share : GoodIn wsL_law (va_wsS RL 136 yL_share wsL_share) := goodIn_app (goodIn_of _ (by decide +kernel)) ggL_law_L_share
set_option maxRecDepth 20000 in
theorem ggL_law_X5_share : GoodIn wsL_law wsX5_share := goodIn_r _ [608, 157, 158, 5, 159, 103, 104, 105, 106, 107, 609, 610, 611, 612, 61, 843, 844, 845, 846, 847, 848, 849, 850, 851, 852] (by decide +kernel) (by decide +kernel)
set_option maxRecDepth 20000 in
theorem gL_law_X5_share : GoodIn wsL_law (wsV RL 138 RX5 yX5_share wsX5_share) := goodIn_app (goodIn_of _ (by decide +kernel)) ggL_law_X5_share
