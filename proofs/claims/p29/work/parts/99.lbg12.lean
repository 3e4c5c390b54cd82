set_option maxRecDepth 20000 in
theorem ggL_law_L_share : GoodIn wsL_law wsL_share := goodIn_ca (goodIn_r _ [535, 101, 3, 536, 402, 403, 2, 404, 15, 405, 406, 407, 339, 340, 341, 110, 111, 408, 409, 410, 14, 411, 39, 561, 562, 563, 564, 565, 566, 567, 568, 569, 570, 571, 572, 573, 574, 575, 576, 577, 578, 579, 580, 581, 582, 583] (by decide +kernel) (by decide +kernel)) (goodIn_sub (fun _ h => List.mem_append_left _ (List.mem_append_right _ h)) (by decide +kernel))
set_option maxRecDepth 20000 in
theorem gL_law_L_share : GoodIn wsL_law (va_wsS RL 108 yL_share wsL_share) := goodIn_app (goodIn_of _ (by decide +kernel)) ggL_law_L_share
set_option maxRecDepth 20000 in
theorem ggL_law_L_possible : GoodIn wsL_law wsL_possible := goodIn_ca (goodIn_r _ [548, 101, 3, 549, 418, 419, 2, 420, 15, 123, 22, 339, 340, 341, 110, 111, 354, 355, 356, 14, 357, 41, 358, 359, 360, 361, 39, 147, 88, 89, 90, 91, 92, 93, 421, 422, 423, 21, 424, 87, 425, 149, 150, 151, 46, 561, 562, 563, 564, 565, 566, 567, 568, 569, 570, 571, 572, 573, 574, 575, 576, 577, 578, 579, 580, 581, 582, 583, 584] (by decide +kernel) (by decide +kernel)) (goodIn_sub (fun _ h => List.mem_append_left _ (List.mem_append_right _ h)) (by decide +kernel))
set_option maxRecDepth 20000 in
theorem gL_law_L_possible : GoodIn wsL_law (va_wsS RL 125 yL_possible wsL_possible) := goodIn_app (goodIn_of _ (by decide +kernel)) ggL_law_L_possible
set_option maxRecDepth 20000 in
theorem ggL_law_L_smallest : GoodIn wsL_law wsL_smallest := goodIn_ca (goodIn_r _ [543, 101, 3, 544, 431, 432, 2, 433, 26, 15, 339, 340, 341, 110, 111, 125, 126, 127, 25, 128, 50, 51, 129, 130, 131, 132, 14, 133, 39, 134, 88, 89, 90, 91, 92, 93, 434, 435, 436, 437, 139, 140, 141, 142, 164, 165, 166, 167, 120, 123, 22, 124, 143, 144, 145, 146, 135, 136, 137, 138, 72, 147, 148, 149, 150, 21, 151, 46, 561, 562, 563, 564, 565, 566, 567, 585, 586, 568, 569, 570, 571, 572, 573, 574, 575, 576, 577, 578, 579, 580, 581, 582, 583, 584] (by decide +kernel) (by decide +kernel)) (goodIn_sub (fun _ h => List.mem_append_left _ (List.mem_append_right _ h)) (by decide +kernel))
set_option maxRecDepth 20000 in
theorem gL_law_L_smallest : GoodIn wsL_law (va_wsS RL 116 yL_smallest wsL_smallest) := goodIn_app (goodIn_of _ (by decide +kernel)) ggL_law_L_smallest
