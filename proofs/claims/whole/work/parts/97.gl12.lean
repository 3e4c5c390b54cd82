set_option maxRecDepth 20000 in
theorem gd_0 : GoodIn wsL_law [Cond.code yX5_digest cX5_digest 4 (some .long)] := goodIn_r _ [821] (by decide +kernel) (by decide +kernel)
set_option maxRecDepth 20000 in
theorem gd_1 : GoodIn wsL_law wsX5_digest_r1 := goodIn_r _ [107, 822, 823, 61, 438, 63, 635, 636, 637, 5, 638, 112, 212, 213, 214, 639, 640, 641, 642, 591, 592, 593, 594, 404] (by decide +kernel) (by decide +kernel)
set_option maxRecDepth 20000 in
theorem gd_2 : GoodIn wsL_law wsX5_digest_r2 := goodIn_r _ [405, 406, 407, 160, 161, 162, 609, 610, 611, 612, 670, 671, 672, 673, 408, 409, 410, 411, 412, 413, 414, 415, 416, 417] (by decide +kernel) (by decide +kernel)
set_option maxRecDepth 20000 in
theorem gd_3 : GoodIn wsL_law wsX5_digest_r3 := goodIn_r _ [418, 419, 420, 421, 690, 691, 692, 693, 396, 397, 398, 399, 400, 401, 402, 403, 713, 714, 715, 716, 725, 726, 727, 728] (by decide +kernel) (by decide +kernel)
set_option maxRecDepth 20000 in
theorem gd_4 : GoodIn wsL_law wsX5_digest_r4 := goodIn_r _ [741, 742, 743, 744, 113, 114, 115, 116, 163, 164, 165, 166, 761, 762, 763, 764, 186, 187, 188, 189, 777, 778, 779, 780] (by decide +kernel) (by decide +kernel)
set_option maxRecDepth 20000 in
theorem gd_5 : GoodIn wsL_law wsX5_digest_r5 := goodIn_r _ [824, 825, 826, 827, 828, 829, 830, 831, 832, 833, 834, 835] (by decide +kernel) (by decide +kernel)
set_option maxRecDepth 20000 in
theorem gd_x : GoodIn wsL_law wsX50 := goodIn_r _ [843, 844, 845, 846, 847, 848, 849, 850, 851, 852] (by decide +kernel) (by decide +kernel)
theorem gd_ap {big a b : List Cond} (ha : GoodIn big a) (hb : GoodIn big b) : GoodIn big (a ++ b) := fun w h => (List.mem_append.mp h).elim (ha w) (hb w)
theorem ggL_law_X5_digest : GoodIn wsL_law wsX5_digest := fun w h => (List.mem_cons.mp h).elim (fun e => gd_0 w (List.mem_cons.mpr (Or.inl e))) (fun h => gd_ap (gd_ap gd_1 (gd_ap gd_2 (gd_ap gd_3 (gd_ap gd_4 gd_5)))) gd_x w h)
theorem gL_law_X5_digest : GoodIn wsL_law (wsV RL 176 RX5 yX5_digest wsX5_digest) := goodIn_app (goodIn_of _ (by decide +kernel)) ggL_law_X5_digest
