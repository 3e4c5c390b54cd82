set_option maxRecDepth 20000 in
theorem ggL_law_X5_peace : GoodIn wsL_law wsX5_peace := goodIn_r _ [760, 107, 761, 762, 763, 5, 764, 61, 725, 726, 727, 728, 396, 397, 398, 399, 400, 401, 402, 403, 160, 161, 162, 404, 405, 406, 407, 212, 213, 214, 408, 409, 410, 411, 412, 413, 414, 415, 416, 417, 418, 419, 420, 421, 186, 187, 188, 189, 113, 114, 115, 116, 843, 844, 845, 846, 847, 848, 849, 850, 851, 852] (by decide +kernel) (by decide +kernel)
set_option maxRecDepth 20000 in
theorem gL_law_X5_peace : GoodIn wsL_law (wsV RL 166 RX5 yX5_peace wsX5_peace) := goodIn_app (goodIn_of _ (by decide +kernel)) ggL_law_X5_peace
set_option maxRecDepth 20000 in
theorem ggL_law_X4_firstShare : GoodIn wsL_law wsX4_firstShare := goodIn_r _ [768, 16, 623, 624, 625, 15, 626, 40, 379, 202, 203, 204, 205, 206, 207, 769, 770, 771, 772, 836, 837, 838, 839, 840, 841, 842, 853, 854, 855, 856, 857, 858, 859, 860, 861, 862, 863, 864, 865, 866, 867, 868] (by decide +kernel) (by decide +kernel)
set_option maxRecDepth 20000 in
theorem gL_law_X4_firstShare : GoodIn wsL_law (wsV RL 167 RX4 yX4_firstShare wsX4_firstShare) := goodIn_app (goodIn_of _ (by decide +kernel)) ggL_law_X4_firstShare
set_option maxRecDepth 20000 in
theorem ggL_law_X5_firstShare : GoodIn wsL_law wsX5_firstShare := goodIn_r _ [776, 107, 777, 778, 779, 5, 780, 61, 843, 844, 845, 846, 847, 848, 849, 850, 851, 852] (by decide +kernel) (by decide +kernel)
set_option maxRecDepth 20000 in
theorem gL_law_X5_firstShare : GoodIn wsL_law (wsV RL 171 RX5 yX5_firstShare wsX5_firstShare) := goodIn_app (goodIn_of _ (by decide +kernel)) ggL_law_X5_firstShare
