set_option maxRecDepth 20000 in
theorem ggL_law_X5_quarrel : GoodIn wsL_law wsX5_quarrel := goodIn_r _ [211, 61, 153, 154, 155, 5, 156, 157, 158, 159, 103, 104, 105, 106, 107, 108, 109, 110, 111, 112, 113, 114, 115, 116, 212, 213, 214, 843, 844, 845, 846, 847, 848, 849, 850, 851, 852] (by decide +kernel) (by decide +kernel)
set_option maxRecDepth 20000 in
theorem gL_law_X5_quarrel : GoodIn wsL_law (wsV RL 99 RX5 yX5_quarrel wsX5_quarrel) := goodIn_app (goodIn_of _ (by decide +kernel)) ggL_law_X5_quarrel
set_option maxRecDepth 20000 in
theorem ggL_law_L_seal : GoodIn wsL_law wsL_seal := goodIn_ca (goodIn_ca (goodIn_r _ [217, 218, 70, 219, 220, 221, 2, 222, 75, 76, 16, 223, 224, 225, 226, 227, 228, 229, 230, 15, 231, 87, 201, 202, 203, 204, 205, 206, 207, 78, 79, 80, 81, 19, 18, 82, 83, 84, 85, 86, 37, 38, 39, 40, 41, 88, 89, 42, 90, 91, 92, 93, 94, 43, 232, 233, 234, 235, 236, 237, 238, 239, 23, 240, 241, 242, 243, 148, 140, 141, 142, 143, 136, 137, 138, 244, 245, 246, 247, 248, 249, 250, 251, 252, 253, 254, 255, 22, 256, 47, 257, 258, 259, 260, 261, 262, 263, 264, 836, 837, 838, 839, 840, 841, 842, 853, 854, 855, 856, 857, 858, 859, 860, 861, 862, 863, 864, 865, 866, 867, 868, 869] (by decide +kernel) (by decide +kernel)) (goodIn_sub (fun _ h => List.mem_append_left _ (List.mem_append_left _ (List.mem_append_right _ h))) (by decide +kernel))) (goodIn_sub (fun _ h => List.mem_append_right _ h) (by decide +kernel))
set_option maxRecDepth 20000 in
theorem gL_law_L_seal : GoodIn wsL_law (va_wsS RL 100 yL_seal wsL_seal) := goodIn_app (goodIn_of _ (by decide +kernel)) ggL_law_L_seal
set_option maxRecDepth 20000 in
theorem ggL_law_X5_seal : GoodIn wsL_law wsX5_seal := goodIn_r _ [268, 61, 157, 158, 5, 159, 212, 213, 214, 103, 104, 105, 106, 107, 108, 109, 110, 111, 112, 113, 114, 115, 116, 269, 270, 271, 272, 64, 273, 274, 275, 276, 277, 160, 161, 162, 843, 844, 845, 846, 847, 848, 849, 850, 851, 852] (by decide +kernel) (by decide +kernel)
set_option maxRecDepth 20000 in
theorem gL_law_X5_seal : GoodIn wsL_law (wsV RL 103 RX5 yX5_seal wsX5_seal) := goodIn_app (goodIn_of _ (by decide +kernel)) ggL_law_X5_seal
set_option maxRecDepth 20000 in
theorem ggL_law_L_renew : GoodIn wsL_law wsL_renew := goodIn_ca (goodIn_r _ [280, 70, 281, 282, 283, 2, 284, 75, 76, 16, 285, 286, 287, 15, 288, 42, 91, 252, 229, 230, 231, 87, 201, 202, 203, 204, 205, 206, 207, 78, 79, 80, 81, 19, 18, 82, 83, 84, 85, 86, 37, 38, 39, 40, 41, 88, 89, 90, 92, 93, 94, 43, 236, 237, 238, 239, 23, 240, 241, 242, 243, 148, 140, 141, 142, 143, 136, 137, 138, 244, 245, 246, 247, 248, 249, 250, 251, 253, 254, 255, 22, 256, 47, 257, 258, 259, 260, 261, 262, 263, 264, 836, 837, 838, 839, 840, 841, 842, 853, 854, 855, 856, 857, 858, 859, 860, 861, 862, 863, 864, 865, 866, 867, 868, 869] (by decide +kernel) (by decide +kernel)) (goodIn_sub (fun _ h => List.mem_append_left _ (List.mem_append_left _ (List.mem_append_right _ h))) (by decide +kernel))
set_option maxRecDepth 20000 in
theorem gL_law_L_renew : GoodIn wsL_law (va_wsS RL 104 yL_renew wsL_renew) := goodIn_app (goodIn_of _ (by decide +kernel)) ggL_law_L_renew
set_option maxRecDepth 20000 in
theorem ggL_law_X5_renew : GoodIn wsL_law wsX5_renew := goodIn_r _ [292, 293, 294, 295, 5, 296, 61, 212, 213, 214, 103, 104, 105, 106, 107, 108, 109, 110, 111, 112, 113, 114, 115, 116, 269, 270, 271, 272, 64, 273, 274, 275, 276, 277, 160, 161, 162, 843, 844, 845, 846, 847, 848, 849, 850, 851, 852] (by decide +kernel) (by decide +kernel)
set_option maxRecDepth 20000 in
theorem gL_law_X5_renew : GoodIn wsL_law (wsV RL 106 RX5 yX5_renew wsX5_renew) := goodIn_app (goodIn_of _ (by decide +kernel)) ggL_law_X5_renew
