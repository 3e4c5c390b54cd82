set_option maxRecDepth 20000 in
theorem ggL_law_L_die : GoodIn wsL_law wsL_die := goodIn_ca (goodIn_ca (goodIn_r _ [123, 124, 70, 125, 126, 127, 2, 128, 75, 76, 16, 129, 130, 131, 132, 133, 134, 135, 136, 137, 15, 138, 86, 139, 140, 141, 142, 87, 143, 78, 79, 80, 81, 19, 18, 82, 83, 84, 85, 37, 38, 39, 40, 41, 88, 89, 42, 90, 91, 92, 93, 94, 43, 144, 145, 146, 147, 148, 836, 837, 838, 839, 840, 841, 842, 853, 854, 855, 856, 857, 858, 859, 860, 861, 862, 863, 864, 865, 866, 867, 868] (by decide +kernel) (by decide +kernel)) (goodIn_sub (fun _ h => List.mem_append_left _ (List.mem_append_left _ (List.mem_append_right _ h))) (by decide +kernel))) (goodIn_sub (fun _ h => List.mem_append_left _ (List.mem_append_right _ h)) (by decide +kernel))
set_option maxRecDepth 20000 in
theorem gL_law_L_die : GoodIn wsL_law (va_wsS RL 89 yL_die wsL_die) := goodIn_app (goodIn_of _ (by decide +kernel)) ggL_law_L_die
set_option maxRecDepth 20000 in
theorem ggL_law_X5_die : GoodIn wsL_law wsX5_die := goodIn_r _ [152, 61, 153, 154, 155, 5, 156, 157, 158, 159, 160, 161, 162, 103, 104, 105, 106, 107, 108, 109, 110, 111, 112, 113, 114, 115, 116, 163, 164, 165, 166, 843, 844, 845, 846, 847, 848, 849, 850, 851, 852] (by decide +kernel) (by decide +kernel)
set_option maxRecDepth 20000 in
theorem gL_law_X5_die : GoodIn wsL_law (wsV RL 92 RX5 yX5_die wsX5_die) := goodIn_app (goodIn_of _ (by decide +kernel)) ggL_law_X5_die
set_option maxRecDepth 20000 in
theorem ggL_law_L_heir : GoodIn wsL_law wsL_heir := goodIn_ca (goodIn_ca (goodIn_r _ [169, 124, 70, 170, 171, 172, 2, 173, 75, 76, 16, 129, 130, 131, 132, 133, 134, 135, 136, 137, 15, 138, 86, 174, 175, 176, 177, 148, 140, 141, 142, 87, 143, 78, 79, 80, 81, 19, 18, 82, 83, 84, 85, 37, 38, 39, 40, 41, 88, 89, 42, 90, 91, 92, 93, 94, 43, 178, 179, 180, 181, 836, 837, 838, 839, 840, 841, 842, 853, 854, 855, 856, 857, 858, 859, 860, 861, 862, 863, 864, 865, 866, 867, 868] (by decide +kernel) (by decide +kernel)) (goodIn_sub (fun _ h => List.mem_append_left _ (List.mem_append_left _ (List.mem_append_right _ h))) (by decide +kernel))) (goodIn_sub (fun _ h => List.mem_append_left _ (List.mem_append_right _ h)) (by decide +kernel))
set_option maxRecDepth 20000 in
theorem gL_law_L_heir : GoodIn wsL_law (va_wsS RL 93 yL_heir wsL_heir) := goodIn_app (goodIn_of _ (by decide +kernel)) ggL_law_L_heir
set_option maxRecDepth 20000 in
theorem ggL_law_X5_heir : GoodIn wsL_law wsX5_heir := goodIn_r _ [185, 61, 153, 154, 155, 5, 156, 157, 158, 159, 186, 187, 188, 189, 160, 161, 162, 103, 104, 105, 106, 107, 108, 109, 110, 111, 112, 113, 114, 115, 116, 843, 844, 845, 846, 847, 848, 849, 850, 851, 852] (by decide +kernel) (by decide +kernel)
set_option maxRecDepth 20000 in
theorem gL_law_X5_heir : GoodIn wsL_law (wsV RL 96 RX5 yX5_heir wsX5_heir) := goodIn_app (goodIn_of _ (by decide +kernel)) ggL_law_X5_heir
set_option maxRecDepth 20000 in
theorem ggL_law_L_quarrel : GoodIn wsL_law wsL_quarrel := goodIn_ca (goodIn_ca (goodIn_r _ [192, 124, 70, 193, 194, 195, 2, 196, 75, 76, 16, 129, 130, 131, 132, 133, 134, 135, 136, 137, 15, 138, 86, 78, 79, 80, 81, 19, 18, 82, 83, 84, 85, 87, 37, 38, 39, 40, 41, 88, 89, 42, 90, 91, 92, 93, 94, 43, 197, 198, 199, 200, 201, 202, 203, 204, 205, 206, 207, 836, 837, 838, 839, 840, 841, 842, 853, 854, 855, 856, 857, 858, 859, 860, 861, 862, 863, 864, 865, 866, 867, 868] (by decide +kernel) (by decide +kernel)) (goodIn_sub (fun _ h => List.mem_append_left _ (List.mem_append_left _ (List.mem_append_right _ h))) (by decide +kernel))) (goodIn_sub (fun _ h => List.mem_append_left _ (List.mem_append_right _ h)) (by decide +kernel))
set_option maxRecDepth 20000 in
theorem gL_law_L_quarrel : GoodIn wsL_law (va_wsS RL 97 yL_quarrel wsL_quarrel) := goodIn_app (goodIn_of _ (by decide +kernel)) ggL_law_L_quarrel
