set_option maxRecDepth 20000 in
theorem ggL_law_X4_firstError : GoodIn wsL_law wsX4_firstError := goodIn_r _ [310, 30, 311, 312, 313, 29, 314, 223, 224, 225, 226, 227, 55, 228, 229, 230, 231, 232, 233, 234, 235, 236, 237, 238, 239, 240, 241, 242, 561, 562, 563, 564, 565, 566, 567, 587, 588] (by decide +kernel) (by decide +kernel)
set_option maxRecDepth 20000 in
theorem gL_law_X4_firstError : GoodIn wsL_law (wsV RL 136 RX4 yX4_firstError wsX4_firstError) := goodIn_app (goodIn_of _ (by decide +kernel)) ggL_law_X4_firstError
set_option maxRecDepth 20000 in
theorem ggL_law_L_cell : GoodIn wsL_law wsL_cell := goodIn_r _ [317, 318, 319] (by decide +kernel) (by decide +kernel)
set_option maxRecDepth 20000 in
theorem gL_law_L_cell : GoodIn wsL_law (va_wsS RL 139 yL_cell wsL_cell) := goodIn_app (goodIn_of _ (by decide +kernel)) ggL_law_L_cell
set_option maxRecDepth 20000 in
theorem ggL_law_L_keeper : GoodIn wsL_law wsL_keeper := goodIn_ca (goodIn_r _ [322, 60, 3, 323, 324, 325, 2, 326, 65, 66, 15, 327, 184, 185, 186, 187, 18, 17, 67, 68, 69, 14, 70, 71, 72, 36, 37, 38, 39, 40, 73, 74, 41, 75, 76, 77, 78, 79, 42, 328, 329, 330, 331, 561, 562, 563, 564, 565, 566, 567, 568, 569, 570, 571, 572, 573, 574, 575, 576, 577, 578, 579, 580, 581, 582, 583] (by decide +kernel) (by decide +kernel)) (goodIn_sub (fun _ h => List.mem_append_left _ (List.mem_append_left _ (List.mem_append_right _ h))) (by decide +kernel))
set_option maxRecDepth 20000 in
theorem gL_law_L_keeper : GoodIn wsL_law (va_wsS RL 80 yL_keeper wsL_keeper) := goodIn_app (goodIn_of _ (by decide +kernel)) ggL_law_L_keeper
