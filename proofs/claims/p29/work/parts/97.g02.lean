set_option maxRecDepth 20000 in
theorem ggL_hangs_L_count : GoodIn wsL_hangs wsL_count := goodIn_ca (goodIn_r _ [5, 6, 1, 7, 8, 9, 10, 11, 12, 13, 14, 15, 16, 17, 18, 19, 20, 21, 22, 23, 24, 25, 26, 27, 28, 29, 30, 31, 32, 33, 34, 35, 36, 37, 38, 39, 40, 41, 42, 43, 44, 45, 46, 47, 224, 225, 226, 227, 228, 229, 230, 231, 232, 233, 234, 235, 236, 237, 238, 239, 240, 241, 242, 243, 244, 245, 246] (by decide +kernel) (by decide +kernel)) (goodIn_sub (fun _ h => List.mem_cons_of_mem _ (List.mem_append_left _ (List.mem_append_right _ h))) (by decide +kernel))
set_option maxRecDepth 20000 in
theorem gL_hangs_L_count : GoodIn wsL_hangs (va_wsS RL 102 yL_count wsL_count) := goodIn_app (goodIn_of _ (by decide +kernel)) ggL_hangs_L_count
set_option maxRecDepth 20000 in
theorem ggL_hangs_L_keeperOf : GoodIn wsL_hangs wsL_keeperOf := goodIn_ca (goodIn_ca (goodIn_r _ [50, 51, 6, 1, 52, 53, 54, 55, 10, 56, 12, 13, 14, 57, 58, 59, 60, 61, 62, 63, 64, 65, 66, 67, 68, 27, 69, 70, 71, 72, 73, 74, 29, 75, 76, 77, 78, 79, 41, 224, 225, 226, 227, 228, 229, 230, 231, 232, 233, 234, 235, 236, 237, 238, 239, 240, 241, 242, 243, 244, 245, 246] (by decide +kernel) (by decide +kernel)) (goodIn_sub (fun _ h => List.mem_cons_of_mem _ (List.mem_append_left _ (List.mem_append_right _ h))) (by decide +kernel))) (goodIn_sub (fun _ h => List.mem_cons_of_mem _ (List.mem_append_right _ h)) (by decide +kernel))
set_option maxRecDepth 20000 in
theorem gL_hangs_L_keeperOf : GoodIn wsL_hangs (va_wsS RL 106 yL_keeperOf wsL_keeperOf) := goodIn_app (goodIn_of _ (by decide +kernel)) ggL_hangs_L_keeperOf
set_option maxRecDepth 20000 in
theorem ggL_hangs_L_share : GoodIn wsL_hangs wsL_share := goodIn_ca (goodIn_r _ [82, 6, 1, 83, 84, 85, 10, 86, 14, 87, 88, 89, 90, 91, 92, 12, 13, 93, 94, 95, 27, 96, 41, 224, 225, 226, 227, 228, 229, 230, 231, 232, 233, 234, 235, 236, 237, 238, 239, 240, 241, 242, 243, 244, 245, 246] (by decide +kernel) (by decide +kernel)) (goodIn_sub (fun _ h => List.mem_cons_of_mem _ (List.mem_append_left _ (List.mem_append_right _ h))) (by decide +kernel))
set_option maxRecDepth 20000 in
theorem gL_hangs_L_share : GoodIn wsL_hangs (va_wsS RL 108 yL_share wsL_share) := goodIn_app (goodIn_of _ (by decide +kernel)) ggL_hangs_L_share
set_option maxRecDepth 20000 in
theorem ggL_hangs_L_bits : GoodIn wsL_hangs wsL_bits := goodIn_r _ [99] (by decide +kernel) (by decide +kernel)
set_option maxRecDepth 20000 in
theorem gL_hangs_L_bits : GoodIn wsL_hangs (va_wsS RL 110 yL_bits wsL_bits) := goodIn_app (goodIn_of _ (by decide +kernel)) ggL_hangs_L_bits
set_option maxRecDepth 20000 in
theorem ggL_hangs_X4_groups : GoodIn wsL_hangs wsX4_groups := goodIn_r _ [103, 104, 14, 105, 106, 107, 108, 109, 110, 111, 112, 113, 77, 78, 27, 79, 41, 114, 31, 32, 33, 34, 35, 36, 115, 116, 117, 10, 118, 119, 120, 121, 122, 123, 124, 125, 126, 17, 18, 127, 128, 129, 130, 131, 132, 133, 134, 135, 136, 29, 42, 137, 138, 139, 140, 141, 142, 224, 225, 226, 227, 228, 229, 230, 247, 248, 231, 232, 233, 234, 235, 236, 237, 238, 239, 240, 241, 242, 243, 244, 245, 246, 249] (by decide +kernel) (by decide +kernel)
set_option maxRecDepth 20000 in
theorem gL_hangs_X4_groups : GoodIn wsL_hangs (wsV RL 113 RX4 yX4_groups wsX4_groups) := goodIn_app (goodIn_of _ (by decide +kernel)) ggL_hangs_X4_groups
