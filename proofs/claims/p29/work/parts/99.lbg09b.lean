set_option maxRecDepth 20000 in
theorem gdh_m : Cond.code yL_hangs cL_hangs 16 (some .boolean) ∈ wsL_law := (List.mem_append_left _ (List.mem_append_left _ (List.mem_append_left _ (show _ ∈ wsL_law0 from (List.mem_append_left _ (List.mem_append_left _ (List.mem_append_left _ (List.mem_append_left _ (List.mem_append_left _ (List.mem_append_left _ (List.mem_append_right _ (List.mem_append_right _ (List.mem_append_right _ (List.mem_append_right _ (List.mem_append_right _ (List.mem_append_right _ (List.mem_append_right _ (List.mem_append_right _ (List.mem_append_right _ (List.mem_append_right _ (List.mem_append_right _ (List.mem_append_right _ (List.mem_append_right _ (List.mem_append_right _ (List.mem_append_right _ (List.mem_append_right _ (List.mem_append_right _ (List.mem_append_right _ (List.mem_append_right _ (List.mem_append_right _ (List.mem_append_right _ (List.mem_append_right _ (List.mem_append_left _ (show _ ∈ wsL_law0_r23 from (List.mem_cons_of_mem _ (List.mem_cons_of_mem _ (List.mem_cons_of_mem _ (List.mem_cons_of_mem _ List.mem_cons_self))))))))))))))))))))))))))))))))))))))
theorem gdh_0 : GoodIn wsL_law [Cond.code yL_hangs cL_hangs 16 (some .boolean)] := fun w hw => by
  rw [List.mem_singleton] at hw
  subst hw
  exact ⟨gdh_m, good_of_word rfl⟩
set_option maxRecDepth 20000 in
theorem gdh_r1 : GoodIn wsL_law wsL_hangs_r1 := goodIn_r _ [3, 362, 363, 58, 364, 101, 365, 366, 367, 2, 368, 110, 111, 15, 327, 121, 120, 123, 122, 369, 370, 371, 18, 342] (by decide +kernel) (by decide +kernel)
set_option maxRecDepth 20000 in
theorem gdh_r2 : GoodIn wsL_law wsL_hangs_r2 := goodIn_r _ [180, 181, 14, 182, 72, 183, 88, 89, 90, 91, 92, 93, 372, 359, 360, 361, 39, 147, 373, 374, 375, 376, 37, 472] (by decide +kernel) (by decide +kernel)
set_option maxRecDepth 20000 in
theorem gdh_r3 : GoodIn wsL_law wsL_hangs_r3 := goodIn_r _ [473, 474, 475, 5, 476, 388, 389, 390, 391, 392, 393, 394, 395, 396, 397, 398, 399, 269, 201, 202, 203, 71, 260, 197] (by decide +kernel) (by decide +kernel)
set_option maxRecDepth 20000 in
theorem gdh_r4 : GoodIn wsL_law wsL_hangs_r4 := goodIn_r _ [198, 199, 200, 400, 131, 132, 133, 533, 534, 535, 536, 402, 403, 404, 405, 406, 407, 339, 340, 341, 408, 409, 410, 411] (by decide +kernel) (by decide +kernel)
set_option maxRecDepth 20000 in
theorem gdh_r5 : GoodIn wsL_law wsL_hangs_r5 := goodIn_r _ [537, 538, 539, 540, 439, 440, 441, 26, 125, 126, 127, 25, 128, 50, 51, 129, 130, 134, 434, 435, 436, 437, 139, 140] (by decide +kernel) (by decide +kernel)
set_option maxRecDepth 20000 in
theorem gdh_r6 : GoodIn wsL_law wsL_hangs_r6 := goodIn_r _ [141, 142, 164, 165, 166, 167, 22, 124, 143, 144, 145, 146, 135, 136, 137, 138, 148, 149, 150, 21, 151, 46, 541, 542] (by decide +kernel) (by decide +kernel)
set_option maxRecDepth 20000 in
theorem gdh_r7 : GoodIn wsL_law wsL_hangs_r7 := goodIn_r _ [543, 544, 431, 432, 433, 545, 443, 444, 445, 16, 446, 447, 448, 449, 67, 68, 69, 70, 36, 38, 40, 73, 74, 41] (by decide +kernel) (by decide +kernel)
set_option maxRecDepth 20000 in
theorem gdh_r8 : GoodIn wsL_law wsL_hangs_r8 := goodIn_r _ [75, 76, 77, 78, 79, 42, 261, 262, 263, 264, 196, 98, 99, 100, 102, 103, 104, 105, 106, 107, 108, 109, 112, 113] (by decide +kernel) (by decide +kernel)
set_option maxRecDepth 20000 in
theorem gdh_r9 : GoodIn wsL_law wsL_hangs_r9 := goodIn_r _ [114, 115, 116, 117, 118, 119, 347, 348, 349, 350, 351, 352, 353, 354, 355, 356, 357, 358, 546, 547, 548, 549, 418, 419] (by decide +kernel) (by decide +kernel)
set_option maxRecDepth 20000 in
theorem gdh_r10 : GoodIn wsL_law wsL_hangs_r10 := goodIn_r _ [420, 421, 422, 423, 424, 87, 425] (by decide +kernel) (by decide +kernel)
set_option maxRecDepth 20000 in
theorem gdh_wsX40 : GoodIn wsL_law wsX40 := goodIn_r _ [561, 562, 563, 564, 565, 566, 567] (by decide +kernel) (by decide +kernel)
set_option maxRecDepth 20000 in
theorem gdh_wsX20 : GoodIn wsL_law wsX20 := goodIn_r _ [568, 569, 570, 571, 572, 573, 574, 575, 576, 577, 578, 579, 580, 581, 582, 583] (by decide +kernel) (by decide +kernel)
set_option maxRecDepth 20000 in
theorem gdh_wsX30 : GoodIn wsL_law wsX30 := goodIn_r _ [585, 586] (by decide +kernel) (by decide +kernel)
set_option maxRecDepth 20000 in
theorem gdh_wsX00 : GoodIn wsL_law wsX00 := goodIn_r _ [584] (by decide +kernel) (by decide +kernel)
theorem ggL_law_L_hangs : GoodIn wsL_law wsL_hangs := goodIn_ca (goodIn_ca (show GoodIn wsL_law (_ :: _) from fun w h => (List.mem_cons.mp h).elim (fun e => gdh_0 w (List.mem_cons.mpr (Or.inl e))) (fun h => (gd_ap (gd_ap (gd_ap (gd_ap (gd_ap gdh_r1 (gd_ap gdh_r2 (gd_ap gdh_r3 (gd_ap gdh_r4 (gd_ap gdh_r5 (gd_ap gdh_r6 (gd_ap gdh_r7 (gd_ap gdh_r8 (gd_ap gdh_r9 gdh_r10))))))))) gdh_wsX40) gdh_wsX20) gdh_wsX30) gdh_wsX00) w h)) (goodIn_sub (fun _ h => List.mem_append_left _ (List.mem_append_right _ h)) (by decide +kernel))) (goodIn_sub (fun _ h => List.mem_append_right _ h) (by decide +kernel))
set_option maxRecDepth 20000 in
theorem gL_law_L_hangs : GoodIn wsL_law (va_wsS RL 154 yL_hangs wsL_hangs) := goodIn_app (goodIn_of _ (by decide +kernel)) ggL_law_L_hangs
