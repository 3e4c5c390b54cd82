theorem gd_ap {big a b : List Cond} (ha : GoodIn big a) (hb : GoodIn big b) : GoodIn big (a ++ b) := fun w h => (List.mem_append.mp h).elim (ha w) (hb w)
set_option maxRecDepth 20000 in
theorem gda_0 : GoodIn wsL_law [Cond.code yL_acts cL_acts 3 (some .int)] := goodIn_r _ [479] (by decide +kernel) (by decide +kernel)
set_option maxRecDepth 20000 in
theorem gda_r1 : GoodIn wsL_law wsL_acts_r1 := goodIn_r _ [320, 321, 58, 322, 60, 3, 323, 324, 325, 2, 326, 65, 66, 15, 327, 184, 185, 186, 187, 18, 17, 67, 68, 69] (by decide +kernel) (by decide +kernel)
set_option maxRecDepth 20000 in
theorem gda_r2 : GoodIn wsL_law wsL_acts_r2 := goodIn_r _ [14, 70, 71, 72, 36, 37, 38, 39, 40, 73, 74, 41, 75, 76, 77, 78, 79, 42, 328, 329, 330, 331, 480, 481] (by decide +kernel) (by decide +kernel)
set_option maxRecDepth 20000 in
theorem gda_r3 : GoodIn wsL_law wsL_acts_r3 := goodIn_r _ [482, 475, 5, 483, 484, 485, 486, 394, 395, 396, 397, 398, 399, 269, 201, 202, 203, 260, 197, 198, 199, 200, 261, 262] (by decide +kernel) (by decide +kernel)
set_option maxRecDepth 20000 in
theorem gda_r4 : GoodIn wsL_law wsL_acts_r4 := goodIn_r _ [263, 264, 196, 487, 488, 489, 490, 491, 492, 493, 278, 279, 280, 281, 282, 283, 284, 285, 494, 495, 496, 497, 498, 499] (by decide +kernel) (by decide +kernel)
set_option maxRecDepth 20000 in
theorem gda_r5 : GoodIn wsL_law wsL_acts_r5 := goodIn_r _ [500, 270, 271, 272, 273, 183, 88, 89, 90, 91, 92, 93, 332, 333, 334, 101, 335, 336, 337, 338, 339, 340, 341, 110] (by decide +kernel) (by decide +kernel)
set_option maxRecDepth 20000 in
theorem gda_r6 : GoodIn wsL_law wsL_acts_r6 := goodIn_r _ [111, 342, 180, 181, 182, 343, 344, 345, 346, 188, 189, 190, 191, 22, 192, 193, 194, 195, 204, 205, 206, 207, 208, 209] (by decide +kernel) (by decide +kernel)
set_option maxRecDepth 20000 in
theorem gda_r7 : GoodIn wsL_law wsL_acts_r7 := goodIn_r _ [210, 211, 179, 80, 81, 82, 21, 83, 46, 84, 85, 86, 87, 94, 95, 96, 97, 168, 169, 170, 171, 172, 173, 174] (by decide +kernel) (by decide +kernel)
set_option maxRecDepth 20000 in
theorem gda_r8 : GoodIn wsL_law wsL_acts_r8 := goodIn_r _ [175, 176, 177, 178, 501, 502, 503, 504, 505, 506, 507, 408, 409, 410, 411, 508, 509, 510, 511, 512, 513, 514, 515, 516] (by decide +kernel) (by decide +kernel)
set_option maxRecDepth 20000 in
theorem gda_r9 : GoodIn wsL_law wsL_acts_r9 := goodIn_r _ [517, 518, 121, 294, 295, 296, 297, 298, 362, 363, 364, 365, 366, 367, 368, 120, 123, 122, 369, 370, 371, 372, 359, 360] (by decide +kernel) (by decide +kernel)
set_option maxRecDepth 20000 in
theorem gda_r10 : GoodIn wsL_law wsL_acts_r10 := goodIn_r _ [361, 147, 373, 374, 375, 376, 519, 520, 521, 522, 523, 524, 525, 106, 107, 108, 109, 112, 113, 114, 115, 116, 117, 118] (by decide +kernel) (by decide +kernel)
set_option maxRecDepth 20000 in
theorem gda_r11 : GoodIn wsL_law wsL_acts_r11 := goodIn_r _ [119, 26, 124, 125, 126, 127, 25, 128, 50, 51, 129, 130, 131, 132, 133, 134, 135, 136, 137, 138, 139, 140, 141, 142] (by decide +kernel) (by decide +kernel)
set_option maxRecDepth 20000 in
theorem gda_r12 : GoodIn wsL_law wsL_acts_r12 := goodIn_r _ [143, 144, 145, 146, 148, 149, 150, 151, 526, 527, 528, 529] (by decide +kernel) (by decide +kernel)
set_option maxRecDepth 20000 in
theorem gda_wsX40 : GoodIn wsL_law wsX40 := goodIn_r _ [561, 562, 563, 564, 565, 566, 567] (by decide +kernel) (by decide +kernel)
set_option maxRecDepth 20000 in
theorem gda_wsX20 : GoodIn wsL_law wsX20 := goodIn_r _ [568, 569, 570, 571, 572, 573, 574, 575, 576, 577, 578, 579, 580, 581, 582, 583] (by decide +kernel) (by decide +kernel)
set_option maxRecDepth 20000 in
theorem gda_wsX00 : GoodIn wsL_law wsX00 := goodIn_r _ [584] (by decide +kernel) (by decide +kernel)
set_option maxRecDepth 20000 in
theorem gda_wsX30 : GoodIn wsL_law wsX30 := goodIn_r _ [585, 586] (by decide +kernel) (by decide +kernel)
theorem ggL_law_L_acts : GoodIn wsL_law wsL_acts := goodIn_ca (goodIn_ca (goodIn_ca (show GoodIn wsL_law (_ :: _) from fun w h => (List.mem_cons.mp h).elim (fun e => gda_0 w (List.mem_cons.mpr (Or.inl e))) (fun h => (gd_ap (gd_ap (gd_ap (gd_ap (gd_ap gda_r1 (gd_ap gda_r2 (gd_ap gda_r3 (gd_ap gda_r4 (gd_ap gda_r5 (gd_ap gda_r6 (gd_ap gda_r7 (gd_ap gda_r8 (gd_ap gda_r9 (gd_ap gda_r10 (gd_ap gda_r11 gda_r12))))))))))) gda_wsX40) gda_wsX20) gda_wsX00) gda_wsX30) w h)) (goodIn_sub (fun _ h => List.mem_append_left _ (List.mem_append_left _ (List.mem_append_right _ h))) (by decide +kernel))) (goodIn_sub (fun _ h => List.mem_append_right _ h) (by decide +kernel))) (goodIn_sub (fun _ h => List.mem_append_left _ (List.mem_append_right _ h)) (by decide +kernel))
set_option maxRecDepth 20000 in
theorem gL_law_L_acts : GoodIn wsL_law (va_wsS RL 150 yL_acts wsL_acts) := goodIn_app (goodIn_of _ (by decide +kernel)) ggL_law_L_acts
