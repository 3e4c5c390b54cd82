set_option maxRecDepth 20000 in
theorem ggL_law_X4_init : GoodIn wsL_law wsX4_init := goodIn_r _ [9, 10, 11, 12, 13, 14, 15, 16, 17, 18, 19, 20, 21, 22, 23, 24, 25, 26, 27, 28, 29, 30, 31, 32, 33, 34, 35, 36, 37, 38, 39, 40, 41, 42, 43, 44, 45, 46, 47, 48, 49, 50, 51, 52, 53, 54, 55, 56, 853, 854, 855, 856, 857, 858, 859, 860, 861, 862, 863, 864, 865, 866, 867, 868, 836, 837, 838, 839, 840, 841, 842, 869, 870, 871, 872, 873] (by decide +kernel) (by decide +kernel)
set_option maxRecDepth 20000 in
theorem gL_law_X4_init : GoodIn wsL_law (wsX4_init) := ggL_law_X4_init
set_option maxRecDepth 20000 in
theorem ggL_law_X5_init : GoodIn wsL_law wsX5_init := goodIn_r _ [59, 60, 11, 12, 36, 61, 62, 63, 64, 65, 843, 844, 845, 846, 847, 848, 849, 850, 851, 852] (by decide +kernel) (by decide +kernel)
set_option maxRecDepth 20000 in
theorem gL_law_X5_init : GoodIn wsL_law (wsX5_init) := ggL_law_X5_init
set_option maxRecDepth 20000 in
theorem ggL_law_L_keeper : GoodIn wsL_law wsL_keeper := goodIn_ca (goodIn_r _ [69, 70, 71, 72, 73, 2, 74, 75, 76, 16, 77, 78, 79, 80, 81, 19, 18, 82, 83, 84, 15, 85, 86, 87, 37, 38, 39, 40, 41, 88, 89, 42, 90, 91, 92, 93, 94, 43, 95, 96, 97, 98, 836, 837, 838, 839, 840, 841, 842, 853, 854, 855, 856, 857, 858, 859, 860, 861, 862, 863, 864, 865, 866, 867, 868] (by decide +kernel) (by decide +kernel)) (goodIn_sub (fun _ h => List.mem_append_left _ (List.mem_append_left _ (List.mem_append_right _ h))) (by decide +kernel))
set_option maxRecDepth 20000 in
theorem gL_law_L_keeper : GoodIn wsL_law (va_wsS RL 80 yL_keeper wsL_keeper) := goodIn_app (goodIn_of _ (by decide +kernel)) ggL_law_L_keeper
set_option maxRecDepth 20000 in
theorem ggL_law_X5_keeper : GoodIn wsL_law wsX5_keeper := goodIn_r _ [102, 61, 103, 104, 105, 5, 106, 107, 108, 109, 110, 111, 112, 113, 114, 115, 116, 843, 844, 845, 846, 847, 848, 849, 850, 851, 852] (by decide +kernel) (by decide +kernel)
set_option maxRecDepth 20000 in
theorem gL_law_X5_keeper : GoodIn wsL_law (wsV RL 85 RX5 yX5_keeper wsX5_keeper) := goodIn_app (goodIn_of _ (by decide +kernel)) ggL_law_X5_keeper
set_option maxRecDepth 20000 in
theorem ggL_law_X5_thrown : GoodIn wsL_law wsX5_thrown := goodIn_r _ [120, 107, 843, 844, 845, 846, 847, 848, 849, 850, 851, 852] (by decide +kernel) (by decide +kernel)
set_option maxRecDepth 20000 in
theorem gL_law_X5_thrown : GoodIn wsL_law (wsV RL 86 RX5 yX5_thrown wsX5_thrown) := goodIn_app (goodIn_of _ (by decide +kernel)) ggL_law_X5_thrown
set_option maxRecDepth 20000 in
theorem ggL_law_L_die : GoodIn wsL_law wsL_die := goodIn_ca (goodIn_ca (goodIn_r _ [123, 124, 70, 125, 126, 127, 2, 128, 75, 76, 16, 129, 130, 131, 132, 133, 134, 135, 136, 137, 15, 138, 86, 139, 140, 141, 142, 87, 143, 78, 79, 80, 81, 19, 18, 82, 83, 84, 85, 37, 38, 39, 40, 41, 88, 89, 42, 90, 91, 92, 93, 94, 43, 144, 145, 146, 147, 148, 836, 837, 838, 839, 840, 841, 842, 853, 854, 855, 856, 857, 858, 859, 860, 861, 862, 863, 864, 865, 866, 867, 868] (by decide +kernel) (by decide +kernel)) (goodIn_sub (fun _ h => List.mem_append_left _ (List.mem_append_left _ (List.mem_append_right _ h))) (by decide +kernel))) (goodIn_sub (fun _ h => List.mem_append_left _ (List.mem_append_right _ h)) (by decide +kernel))
set_option maxRecDepth 20000 in
theorem gL_law_L_die : GoodIn wsL_law (va_wsS RL 89 yL_die wsL_die) := goodIn_app (goodIn_of _ (by decide +kernel)) ggL_law_L_die
set_option maxRecDepth 20000 in
theorem ggL_law_X5_die : GoodIn wsL_law wsX5_die := goodIn_r _ [152, 61, 153, 154, 155, 5, 156, 157, 158, 159, 160, 161, 162, 103, 104, 105, 106, 107, 108, 109, 110, 111, 112, 113, 114, 115, 116, 163, 164, 165, 166, 843, 844, 845, 846, 847, 848, 849, 850, 851, 852] (by decide +kernel) (by decide +kernel)
set_option maxRecDepth 20000 in
theorem gL_law_X5_die : GoodIn wsL_law (wsV RL 92 RX5 yX5_die wsX5_die) := goodIn_app (goodIn_of _ (by decide +kernel)) ggL_law_X5_die
set_option maxRecDepth 20000 in
theorem ggL_law_L_heir : GoodIn wsL_law wsL_heir := goodIn_ca (goodIn_ca (goodIn_r _ [169, 124, 70, 170, 171, 172, 2, 173, 75, 76, 16, 129, 130, 131, 132, 133, 134, 135, 136, 137, 15, 138, 86, 174, 175, 176, 177, 148, 140, 141, 142, 87, 143, 78, 79, 80, 81, 19, 18, 82, 83, 84, 85, 37, 38, 39, 40, 41, 88, 89, 42, 90, 91, 92, 93, 94, 43, 178, 179, 180, 181, 836, 837, 838, 839, 840, 841, 842, 853, 854, 855, 856, 857, 858, 859, 860, 861, 862, 863, 864, 865, 866, 867, 868] (by decide +kernel) (by decide +kernel)) (goodIn_sub (fun _ h => List.mem_append_left _ (List.mem_append_left _ (List.mem_append_right _ h))) (by decide +kernel))) (goodIn_sub (fun _ h => List.mem_append_left _ (List.mem_append_right _ h)) (by decide +kernel))
set_option maxRecDepth 20000 in
theorem gL_law_L_heir : GoodIn wsL_law (va_wsS RL 93 yL_heir wsL_heir) := goodIn_app (goodIn_of _ (by decide +kernel)) ggL_law_L_heir
set_option maxRecDepth 20000 in
theorem ggL_law_X5_heir : GoodIn wsL_law wsX5_heir := goodIn_r _ [185, 61, 153, 154, 155, 5, 156, 157, 158, 159, 186, 187, 188, 189, 160, 161, 162, 103, 104, 105, 106, 107, 108, 109, 110, 111, 112, 113, 114, 115, 116, 843, 844, 845, 846, 847, 848, 849, 850, 851, 852] (by decide +kernel) (by decide +kernel)
set_option maxRecDepth 20000 in
theorem gL_law_X5_heir : GoodIn wsL_law (wsV RL 96 RX5 yX5_heir wsX5_heir) := goodIn_app (goodIn_of _ (by decide +kernel)) ggL_law_X5_heir
set_option maxRecDepth 20000 in
theorem ggL_law_L_quarrel : GoodIn wsL_law wsL_quarrel := goodIn_ca (goodIn_ca (goodIn_r _ [192, 124, 70, 193, 194, 195, 2, 196, 75, 76, 16, 129, 130, 131, 132, 133, 134, 135, 136, 137, 15, 138, 86, 78, 79, 80, 81, 19, 18, 82, 83, 84, 85, 87, 37, 38, 39, 40, 41, 88, 89, 42, 90, 91, 92, 93, 94, 43, 197, 198, 199, 200, 201, 202, 203, 204, 205, 206, 207, 836, 837, 838, 839, 840, 841, 842, 853, 854, 855, 856, 857, 858, 859, 860, 861, 862, 863, 864, 865, 866, 867, 868] (by decide +kernel) (by decide +kernel)) (goodIn_sub (fun _ h => List.mem_append_left _ (List.mem_append_left _ (List.mem_append_right _ h))) (by decide +kernel))) (goodIn_sub (fun _ h => List.mem_append_left _ (List.mem_append_right _ h)) (by decide +kernel))
set_option maxRecDepth 20000 in
theorem gL_law_L_quarrel : GoodIn wsL_law (va_wsS RL 97 yL_quarrel wsL_quarrel) := goodIn_app (goodIn_of _ (by decide +kernel)) ggL_law_L_quarrel
set_option maxRecDepth 20000 in
theorem ggL_law_X5_quarrel : GoodIn wsL_law wsX5_quarrel := goodIn_r _ [211, 61, 153, 154, 155, 5, 156, 157, 158, 159, 103, 104, 105, 106, 107, 108, 109, 110, 111, 112, 113, 114, 115, 116, 212, 213, 214, 843, 844, 845, 846, 847, 848, 849, 850, 851, 852] (by decide +kernel) (by decide +kernel)
set_option maxRecDepth 20000 in
theorem gL_law_X5_quarrel : GoodIn wsL_law (wsV RL 99 RX5 yX5_quarrel wsX5_quarrel) := goodIn_app (goodIn_of _ (by decide +kernel)) ggL_law_X5_quarrel
set_option maxRecDepth 20000 in
theorem ggL_law_L_seal : GoodIn wsL_law wsL_seal := goodIn_ca (goodIn_ca (goodIn_r _ [217, 218, 70, 219, 220, 221, 2, 222, 75, 76, 16, 223, 224, 225, 226, 227, 228, 229, 230, 15, 231, 87, 201, 202, 203, 204, 205, 206, 207, 78, 79, 80, 81, 19, 18, 82, 83, 84, 85, 86, 37, 38, 39, 40, 41, 88, 89, 42, 90, 91, 92, 93, 94, 43, 232, 233, 234, 235, 236, 237, 238, 239, 23, 240, 241, 242, 243, 148, 140, 141, 142, 143, 136, 137, 138, 244, 245, 246, 247, 248, 249, 250, 251, 252, 253, 254, 255, 22, 256, 47, 257, 258, 259, 260, 261, 262, 263, 264, 836, 837, 838, 839, 840, 841, 842, 853, 854, 855, 856, 857, 858, 859, 860, 861, 862, 863, 864, 865, 866, 867, 868, 869] (by decide +kernel) (by decide +kernel)) (goodIn_sub (fun _ h => List.mem_append_left _ (List.mem_append_left _ (List.mem_append_right _ h))) (by decide +kernel))) (goodIn_sub (fun _ h => List.mem_append_right _ h) (by decide +kernel))
set_option maxRecDepth 20000 in
theorem gL_law_L_seal : GoodIn wsL_law (va_wsS RL 100 yL_seal wsL_seal) := goodIn_app (goodIn_of _ (by decide +kernel)) ggL_law_L_seal
set_option maxRecDepth 20000 in
theorem ggL_law_X5_seal : GoodIn wsL_law wsX5_seal := goodIn_r _ [268, 61, 157, 158, 5, 159, 212, 213, 214, 103, 104, 105, 106, 107, 108, 109, 110, 111, 112, 113, 114, 115, 116, 269, 270, 271, 272, 64, 273, 274, 275, 276, 277, 160, 161, 162, 843, 844, 845, 846, 847, 848, 849, 850, 851, 852] (by decide +kernel) (by decide +kernel)
set_option maxRecDepth 20000 in
theorem gL_law_X5_seal : GoodIn wsL_law (wsV RL 103 RX5 yX5_seal wsX5_seal) := goodIn_app (goodIn_of _ (by decide +kernel)) ggL_law_X5_seal
set_option maxRecDepth 20000 in
theorem ggL_law_L_renew : GoodIn wsL_law wsL_renew := goodIn_ca (goodIn_r _ [280, 70, 281, 282, 283, 2, 284, 75, 76, 16, 285, 286, 287, 15, 288, 42, 91, 252, 229, 230, 231, 87, 201, 202, 203, 204, 205, 206, 207, 78, 79, 80, 81, 19, 18, 82, 83, 84, 85, 86, 37, 38, 39, 40, 41, 88, 89, 90, 92, 93, 94, 43, 236, 237, 238, 239, 23, 240, 241, 242, 243, 148, 140, 141, 142, 143, 136, 137, 138, 244, 245, 246, 247, 248, 249, 250, 251, 253, 254, 255, 22, 256, 47, 257, 258, 259, 260, 261, 262, 263, 264, 836, 837, 838, 839, 840, 841, 842, 853, 854, 855, 856, 857, 858, 859, 860, 861, 862, 863, 864, 865, 866, 867, 868, 869] (by decide +kernel) (by decide +kernel)) (goodIn_sub (fun _ h => List.mem_append_left _ (List.mem_append_left _ (List.mem_append_right _ h))) (by decide +kernel))
set_option maxRecDepth 20000 in
theorem gL_law_L_renew : GoodIn wsL_law (va_wsS RL 104 yL_renew wsL_renew) := goodIn_app (goodIn_of _ (by decide +kernel)) ggL_law_L_renew
set_option maxRecDepth 20000 in
theorem ggL_law_X5_renew : GoodIn wsL_law wsX5_renew := goodIn_r _ [292, 293, 294, 295, 5, 296, 61, 212, 213, 214, 103, 104, 105, 106, 107, 108, 109, 110, 111, 112, 113, 114, 115, 116, 269, 270, 271, 272, 64, 273, 274, 275, 276, 277, 160, 161, 162, 843, 844, 845, 846, 847, 848, 849, 850, 851, 852] (by decide +kernel) (by decide +kernel)
set_option maxRecDepth 20000 in
theorem gL_law_X5_renew : GoodIn wsL_law (wsV RL 106 RX5 yX5_renew wsX5_renew) := goodIn_app (goodIn_of _ (by decide +kernel)) ggL_law_X5_renew
set_option maxRecDepth 20000 in
theorem ggL_law_L_forge : GoodIn wsL_law wsL_forge := goodIn_ca (goodIn_ca (goodIn_r _ [299, 218, 70, 300, 301, 302, 2, 303, 75, 76, 16, 23, 223, 224, 225, 226, 227, 304, 305, 306, 15, 307, 40, 78, 79, 80, 81, 19, 18, 82, 83, 84, 85, 86, 87, 37, 38, 39, 41, 88, 89, 42, 90, 91, 92, 93, 94, 43, 308, 309, 310, 311, 253, 254, 255, 22, 256, 47, 257, 258, 259, 260, 202, 203, 204, 205, 206, 207, 261, 262, 263, 264, 836, 837, 838, 839, 840, 841, 842, 853, 854, 855, 856, 857, 858, 859, 860, 861, 862, 863, 864, 865, 866, 867, 868, 869] (by decide +kernel) (by decide +kernel)) (goodIn_sub (fun _ h => List.mem_append_left _ (List.mem_append_left _ (List.mem_append_right _ h))) (by decide +kernel))) (goodIn_sub (fun _ h => List.mem_append_right _ h) (by decide +kernel))
set_option maxRecDepth 20000 in
theorem gL_law_L_forge : GoodIn wsL_law (va_wsS RL 107 yL_forge wsL_forge) := goodIn_app (goodIn_of _ (by decide +kernel)) ggL_law_L_forge
set_option maxRecDepth 20000 in
theorem ggL_law_X5_forge : GoodIn wsL_law wsX5_forge := goodIn_r _ [315, 61, 157, 158, 5, 159, 103, 104, 105, 106, 107, 108, 109, 110, 111, 112, 113, 114, 115, 116, 843, 844, 845, 846, 847, 848, 849, 850, 851, 852] (by decide +kernel) (by decide +kernel)
set_option maxRecDepth 20000 in
theorem gL_law_X5_forge : GoodIn wsL_law (wsV RL 109 RX5 yX5_forge wsX5_forge) := goodIn_app (goodIn_of _ (by decide +kernel)) ggL_law_X5_forge
set_option maxRecDepth 20000 in
theorem ggL_law_L_pass : GoodIn wsL_law wsL_pass := goodIn_ca (goodIn_ca (goodIn_r _ [318, 218, 70, 319, 320, 321, 2, 322, 75, 76, 16, 323, 223, 224, 225, 226, 227, 324, 325, 326, 15, 327, 89, 328, 78, 79, 80, 81, 19, 18, 82, 83, 84, 85, 86, 87, 37, 38, 39, 40, 41, 88, 42, 90, 91, 92, 93, 94, 43, 836, 837, 838, 839, 840, 841, 842, 853, 854, 855, 856, 857, 858, 859, 860, 861, 862, 863, 864, 865, 866, 867, 868] (by decide +kernel) (by decide +kernel)) (goodIn_sub (fun _ h => List.mem_append_left _ (List.mem_append_left _ (List.mem_append_right _ h))) (by decide +kernel))) (goodIn_sub (fun _ h => List.mem_append_right _ h) (by decide +kernel))
set_option maxRecDepth 20000 in
theorem gL_law_L_pass : GoodIn wsL_law (va_wsS RL 110 yL_pass wsL_pass) := goodIn_app (goodIn_of _ (by decide +kernel)) ggL_law_L_pass
set_option maxRecDepth 20000 in
theorem ggL_law_X5_pass : GoodIn wsL_law wsX5_pass := goodIn_r _ [332, 61, 333, 157, 158, 5, 159, 103, 104, 105, 106, 107, 108, 109, 110, 111, 112, 113, 114, 115, 116, 843, 844, 845, 846, 847, 848, 849, 850, 851, 852] (by decide +kernel) (by decide +kernel)
set_option maxRecDepth 20000 in
theorem gL_law_X5_pass : GoodIn wsL_law (wsV RL 112 RX5 yX5_pass wsX5_pass) := goodIn_app (goodIn_of _ (by decide +kernel)) ggL_law_X5_pass
set_option maxRecDepth 20000 in
theorem ggL_law_L_open : GoodIn wsL_law wsL_open := goodIn_ca (goodIn_r _ [336, 218, 337, 338, 339, 2, 340, 16, 341, 342, 343, 344, 226, 227, 345, 346, 347, 15, 348, 86, 78, 79, 80, 81, 19, 18, 82, 83, 84, 85, 87, 37, 38, 39, 40, 41, 88, 89, 42, 90, 91, 92, 93, 94, 43, 349, 350, 351, 352, 27, 353, 323, 354, 355, 23, 356, 357, 358, 359, 26, 360, 51, 52, 361, 362, 363, 364, 365, 366, 202, 203, 204, 205, 206, 207, 367, 368, 369, 370, 371, 372, 373, 374, 375, 376, 377, 378, 379, 380, 381, 382, 22, 383, 47, 384, 385, 386, 387, 836, 837, 838, 839, 840, 841, 842, 853, 854, 855, 856, 857, 858, 859, 860, 861, 862, 863, 864, 865, 866, 867, 868, 870, 871, 869] (by decide +kernel) (by decide +kernel)) (goodIn_sub (fun _ h => List.mem_append_right _ h) (by decide +kernel))
set_option maxRecDepth 20000 in
theorem gL_law_L_open : GoodIn wsL_law (va_wsS RL 113 yL_open wsL_open) := goodIn_app (goodIn_of _ (by decide +kernel)) ggL_law_L_open
set_option maxRecDepth 20000 in
theorem ggL_law_X5_open : GoodIn wsL_law wsX5_open := goodIn_r _ [391, 61, 392, 393, 394, 5, 395, 157, 158, 159, 103, 104, 105, 106, 107, 108, 109, 110, 111, 112, 113, 114, 115, 116, 396, 397, 398, 399, 400, 401, 402, 403, 160, 161, 162, 404, 405, 406, 407, 212, 213, 214, 408, 409, 410, 411, 412, 413, 414, 415, 416, 417, 418, 419, 420, 421, 843, 844, 845, 846, 847, 848, 849, 850, 851, 852] (by decide +kernel) (by decide +kernel)
set_option maxRecDepth 20000 in
theorem gL_law_X5_open : GoodIn wsL_law (wsV RL 115 RX5 yX5_open wsX5_open) := goodIn_app (goodIn_of _ (by decide +kernel)) ggL_law_X5_open
set_option maxRecDepth 20000 in
theorem ggL_law_L_append : GoodIn wsL_law wsL_append := goodIn_ca (goodIn_ca (goodIn_r _ [424, 218, 70, 425, 426, 427, 2, 428, 75, 76, 31, 223, 224, 225, 226, 227, 429, 430, 431, 30, 432, 433, 56, 836, 837, 838, 839, 840, 841, 842, 872, 873] (by decide +kernel) (by decide +kernel)) (goodIn_sub (fun _ h => List.mem_append_left _ (List.mem_append_left _ (List.mem_append_right _ h))) (by decide +kernel))) (goodIn_sub (fun _ h => List.mem_append_right _ h) (by decide +kernel))
set_option maxRecDepth 20000 in
theorem gL_law_L_append : GoodIn wsL_law (va_wsS RL 116 yL_append wsL_append) := goodIn_app (goodIn_of _ (by decide +kernel)) ggL_law_L_append
set_option maxRecDepth 20000 in
theorem ggL_law_X5_append : GoodIn wsL_law wsX5_append := goodIn_r _ [437, 438, 63, 157, 158, 5, 159, 103, 104, 105, 106, 107, 843, 844, 845, 846, 847, 848, 849, 850, 851, 852] (by decide +kernel) (by decide +kernel)
set_option maxRecDepth 20000 in
theorem gL_law_X5_append : GoodIn wsL_law (wsV RL 118 RX5 yX5_append wsX5_append) := goodIn_app (goodIn_of _ (by decide +kernel)) ggL_law_X5_append
set_option maxRecDepth 20000 in
theorem ggL_law_X4_clearBuffer : GoodIn wsL_law wsX4_clearBuffer := goodIn_r _ [442, 31, 443, 444, 445, 30, 446, 433, 836, 837, 838, 839, 840, 841, 842, 872, 873] (by decide +kernel) (by decide +kernel)
set_option maxRecDepth 20000 in
theorem gL_law_X4_clearBuffer : GoodIn wsL_law (wsV RL 119 RX4 yX4_clearBuffer wsX4_clearBuffer) := goodIn_app (goodIn_of _ (by decide +kernel)) ggL_law_X4_clearBuffer
set_option maxRecDepth 20000 in
theorem ggL_law_X5_clearBuffer : GoodIn wsL_law wsX5_clearBuffer := goodIn_r _ [450, 107, 438, 843, 844, 845, 846, 847, 848, 849, 850, 851, 852] (by decide +kernel) (by decide +kernel)
set_option maxRecDepth 20000 in
theorem gL_law_X5_clearBuffer : GoodIn wsL_law (wsV RL 122 RX5 yX5_clearBuffer wsX5_clearBuffer) := goodIn_app (goodIn_of _ (by decide +kernel)) ggL_law_X5_clearBuffer
set_option maxRecDepth 20000 in
theorem ggL_law_X4_firstError : GoodIn wsL_law wsX4_firstError := goodIn_r _ [454, 31, 455, 456, 457, 30, 458, 433, 459, 460, 461, 462, 56, 463, 464, 465, 466, 467, 468, 469, 470, 471, 472, 473, 474, 475, 476, 477, 836, 837, 838, 839, 840, 841, 842, 872, 873] (by decide +kernel) (by decide +kernel)
set_option maxRecDepth 20000 in
theorem gL_law_X4_firstError : GoodIn wsL_law (wsV RL 123 RX4 yX4_firstError wsX4_firstError) := goodIn_app (goodIn_of _ (by decide +kernel)) ggL_law_X4_firstError
set_option maxRecDepth 20000 in
theorem ggL_law_X5_firstError : GoodIn wsL_law wsX5_firstError := goodIn_r _ [481, 107, 482, 483, 484, 485, 5, 486, 487, 488, 438, 489, 490, 491, 492, 63, 65, 493, 494, 495, 496, 497, 498, 499, 500, 157, 158, 159, 501, 502, 503, 504, 505, 506, 507, 508, 843, 844, 845, 846, 847, 848, 849, 850, 851, 852] (by decide +kernel) (by decide +kernel)
set_option maxRecDepth 20000 in
theorem gL_law_X5_firstError : GoodIn wsL_law (wsV RL 126 RX5 yX5_firstError wsX5_firstError) := goodIn_app (goodIn_of _ (by decide +kernel)) ggL_law_X5_firstError
set_option maxRecDepth 20000 in
theorem ggL_law_L_live : GoodIn wsL_law wsL_live := goodIn_ca (goodIn_r _ [511, 218, 512, 513, 514, 2, 515, 226, 227, 31, 516, 517, 518, 30, 519, 433, 459, 460, 461, 462, 56, 463, 464, 465, 466, 467, 468, 469, 470, 471, 472, 473, 474, 475, 476, 477, 78, 79, 80, 81, 19, 18, 16, 82, 83, 84, 15, 85, 86, 87, 37, 38, 39, 40, 41, 88, 89, 42, 90, 91, 92, 93, 94, 43, 520, 521, 522, 523, 524, 525, 526, 527, 528, 529, 530, 531, 532, 533, 534, 535, 536, 139, 140, 141, 142, 143, 136, 137, 138, 144, 145, 146, 147, 148, 537, 538, 539, 540, 135, 197, 198, 199, 200, 201, 202, 203, 204, 205, 206, 207, 541, 542, 543, 544, 174, 175, 176, 177, 178, 179, 180, 181, 545, 546, 547, 548, 549, 550, 551, 552, 323, 324, 325, 326, 327, 328, 553, 554, 555, 556, 285, 286, 287, 288, 252, 229, 230, 231, 236, 237, 238, 239, 23, 240, 241, 242, 243, 244, 245, 246, 247, 248, 249, 250, 251, 253, 254, 255, 22, 256, 47, 257, 258, 259, 260, 261, 262, 263, 264, 443, 444, 445, 446, 836, 837, 838, 839, 840, 841, 842, 872, 873, 853, 854, 855, 856, 857, 858, 859, 860, 861, 862, 863, 864, 865, 866, 867, 868, 869] (by decide +kernel) (by decide +kernel)) (goodIn_sub (fun _ h => List.mem_append_right _ h) (by decide +kernel))
set_option maxRecDepth 20000 in
theorem gL_law_L_live : GoodIn wsL_law (va_wsS RL 127 yL_live wsL_live) := goodIn_app (goodIn_of _ (by decide +kernel)) ggL_law_L_live
set_option maxRecDepth 20000 in
theorem ggL_law_X5_live : GoodIn wsL_law wsX5_live := goodIn_r _ [560, 438, 488, 483, 484, 485, 5, 486, 482, 487, 489, 490, 491, 492, 63, 65, 493, 494, 495, 496, 497, 498, 499, 500, 157, 158, 159, 501, 502, 503, 504, 505, 506, 507, 508, 103, 104, 105, 106, 107, 108, 109, 110, 111, 112, 113, 114, 115, 116, 61, 561, 562, 563, 564, 333, 293, 294, 295, 296, 212, 213, 214, 153, 154, 155, 156, 186, 187, 188, 189, 160, 161, 162, 269, 270, 271, 272, 64, 273, 274, 275, 276, 277, 163, 164, 165, 166, 843, 844, 845, 846, 847, 848, 849, 850, 851, 852] (by decide +kernel) (by decide +kernel)
set_option maxRecDepth 20000 in
theorem gL_law_X5_live : GoodIn wsL_law (wsV RL 129 RX5 yX5_live wsX5_live) := goodIn_app (goodIn_of _ (by decide +kernel)) ggL_law_X5_live
set_option maxRecDepth 20000 in
theorem ggL_law_L_undo : GoodIn wsL_law wsL_undo := goodIn_ca (goodIn_r _ [567, 70, 568, 569, 570, 2, 571, 75, 76, 19, 16, 18, 23, 82, 83, 84, 15, 85, 86, 87, 37, 38, 39, 40, 41, 88, 89, 42, 90, 91, 92, 93, 94, 43, 253, 254, 255, 22, 256, 47, 257, 258, 259, 260, 202, 203, 204, 205, 206, 207, 261, 262, 263, 264, 836, 837, 838, 839, 840, 841, 842, 853, 854, 855, 856, 857, 858, 859, 860, 861, 862, 863, 864, 865, 866, 867, 868, 869] (by decide +kernel) (by decide +kernel)) (goodIn_sub (fun _ h => List.mem_append_left _ (List.mem_append_left _ (List.mem_append_right _ h))) (by decide +kernel))
set_option maxRecDepth 20000 in
theorem gL_law_L_undo : GoodIn wsL_law (va_wsS RL 130 yL_undo wsL_undo) := goodIn_app (goodIn_of _ (by decide +kernel)) ggL_law_L_undo
set_option maxRecDepth 20000 in
theorem ggL_law_X5_undo : GoodIn wsL_law wsX5_undo := goodIn_r _ [575, 112, 103, 104, 105, 5, 106, 107, 113, 114, 115, 116, 61, 843, 844, 845, 846, 847, 848, 849, 850, 851, 852] (by decide +kernel) (by decide +kernel)
set_option maxRecDepth 20000 in
theorem gL_law_X5_undo : GoodIn wsL_law (wsV RL 132 RX5 yX5_undo wsX5_undo) := goodIn_app (goodIn_of _ (by decide +kernel)) ggL_law_X5_undo
set_option maxRecDepth 20000 in
theorem ggL_law_L_keeperOf : GoodIn wsL_law wsL_keeperOf := goodIn_ca (goodIn_ca (goodIn_r _ [578, 124, 218, 579, 580, 581, 2, 582, 226, 227, 16, 583, 584, 585, 129, 130, 131, 132, 133, 134, 135, 136, 137, 15, 138, 86, 139, 140, 141, 142, 87, 143, 586, 363, 364, 365, 40, 836, 837, 838, 839, 840, 841, 842, 853, 854, 855, 856, 857, 858, 859, 860, 861, 862, 863, 864, 865, 866, 867, 868] (by decide +kernel) (by decide +kernel)) (goodIn_sub (fun _ h => List.mem_append_right _ h) (by decide +kernel))) (goodIn_sub (fun _ h => List.mem_append_left _ (List.mem_append_right _ h)) (by decide +kernel))
set_option maxRecDepth 20000 in
theorem gL_law_L_keeperOf : GoodIn wsL_law (va_wsS RL 133 yL_keeperOf wsL_keeperOf) := goodIn_app (goodIn_of _ (by decide +kernel)) ggL_law_L_keeperOf
set_option maxRecDepth 20000 in
theorem ggL_law_X5_keeperOf : GoodIn wsL_law wsX5_keeperOf := goodIn_r _ [590, 153, 154, 155, 5, 156, 61, 157, 158, 159, 103, 104, 105, 106, 107, 591, 592, 593, 594, 404, 405, 406, 407, 160, 161, 162, 843, 844, 845, 846, 847, 848, 849, 850, 851, 852] (by decide +kernel) (by decide +kernel)
set_option maxRecDepth 20000 in
theorem gL_law_X5_keeperOf : GoodIn wsL_law (wsV RL 135 RX5 yX5_keeperOf wsX5_keeperOf) := goodIn_app (goodIn_of _ (by decide +kernel)) ggL_law_X5_keeperOf
set_option maxRecDepth 20000 in
theorem ggL_law_L_share : GoodIn wsL_law wsL_share := goodIn_ca (goodIn_r _ [597, 218, 598, 599, 600, 2, 601, 16, 602, 603, 604, 223, 224, 225, 226, 227, 304, 305, 306, 15, 307, 40, 836, 837, 838, 839, 840, 841, 842, 853, 854, 855, 856, 857, 858, 859, 860, 861, 862, 863, 864, 865, 866, 867, 868] (by decide +kernel) (by decide +kernel)) (goodIn_sub (fun _ h => List.mem_append_right _ h) (by decide +kernel))
set_option maxRecDepth 20000 in
theorem gL_law_L_share : GoodIn wsL_law (va_wsS RL 136 yL_share wsL_share) := goodIn_app (goodIn_of _ (by decide +kernel)) ggL_law_L_share
set_option maxRecDepth 20000 in
theorem ggL_law_X5_share : GoodIn wsL_law wsX5_share := goodIn_r _ [608, 157, 158, 5, 159, 103, 104, 105, 106, 107, 609, 610, 611, 612, 61, 843, 844, 845, 846, 847, 848, 849, 850, 851, 852] (by decide +kernel) (by decide +kernel)
set_option maxRecDepth 20000 in
theorem gL_law_X5_share : GoodIn wsL_law (wsV RL 138 RX5 yX5_share wsX5_share) := goodIn_app (goodIn_of _ (by decide +kernel)) ggL_law_X5_share
set_option maxRecDepth 20000 in
theorem ggL_law_L_count : GoodIn wsL_law wsL_count := goodIn_ca (goodIn_r _ [615, 218, 616, 617, 618, 2, 619, 226, 227, 16, 77, 323, 353, 355, 354, 620, 621, 622, 19, 228, 229, 230, 15, 231, 87, 201, 202, 203, 204, 205, 206, 207, 623, 624, 625, 626, 40, 379, 627, 628, 629, 630, 38, 836, 837, 838, 839, 840, 841, 842, 853, 854, 855, 856, 857, 858, 859, 860, 861, 862, 863, 864, 865, 866, 867, 868] (by decide +kernel) (by decide +kernel)) (goodIn_sub (fun _ h => List.mem_append_right _ h) (by decide +kernel))
set_option maxRecDepth 20000 in
theorem gL_law_L_count : GoodIn wsL_law (va_wsS RL 139 yL_count wsL_count) := goodIn_app (goodIn_of _ (by decide +kernel)) ggL_law_L_count
set_option maxRecDepth 20000 in
theorem ggL_law_X5_count : GoodIn wsL_law wsX5_count := goodIn_r _ [634, 157, 158, 5, 159, 103, 104, 105, 106, 107, 635, 636, 637, 638, 61, 112, 212, 213, 214, 639, 640, 641, 642, 843, 844, 845, 846, 847, 848, 849, 850, 851, 852] (by decide +kernel) (by decide +kernel)
set_option maxRecDepth 20000 in
theorem gL_law_X5_count : GoodIn wsL_law (wsV RL 141 RX5 yX5_count wsX5_count) := goodIn_app (goodIn_of _ (by decide +kernel)) ggL_law_X5_count
set_option maxRecDepth 20000 in
theorem ggL_law_L_why : GoodIn wsL_law wsL_why := goodIn_ca (goodIn_r _ [645, 218, 646, 647, 648, 2, 649, 341, 342, 343, 344, 226, 227, 16, 345, 346, 347, 15, 348, 86, 349, 350, 351, 352, 27, 353, 323, 354, 355, 23, 356, 357, 358, 359, 26, 360, 51, 52, 361, 362, 363, 364, 365, 40, 366, 202, 203, 204, 205, 206, 207, 367, 368, 369, 370, 87, 371, 372, 373, 374, 375, 376, 377, 378, 379, 380, 381, 382, 22, 383, 47, 836, 837, 838, 839, 840, 841, 842, 853, 854, 855, 856, 857, 858, 859, 860, 861, 862, 863, 864, 865, 866, 867, 868, 870, 871, 869] (by decide +kernel) (by decide +kernel)) (goodIn_sub (fun _ h => List.mem_append_right _ h) (by decide +kernel))
set_option maxRecDepth 20000 in
theorem gL_law_L_why : GoodIn wsL_law (va_wsS RL 142 yL_why wsL_why) := goodIn_app (goodIn_of _ (by decide +kernel)) ggL_law_L_why
set_option maxRecDepth 20000 in
theorem ggL_law_X5_why : GoodIn wsL_law wsX5_why := goodIn_r _ [653, 392, 393, 394, 5, 395, 61, 157, 158, 159, 103, 104, 105, 106, 107, 396, 397, 398, 399, 400, 401, 402, 403, 160, 161, 162, 404, 405, 406, 407, 212, 213, 214, 408, 409, 410, 411, 412, 413, 414, 415, 416, 417, 418, 419, 420, 421, 843, 844, 845, 846, 847, 848, 849, 850, 851, 852] (by decide +kernel) (by decide +kernel)
set_option maxRecDepth 20000 in
theorem gL_law_X5_why : GoodIn wsL_law (wsV RL 144 RX5 yX5_why wsX5_why) := goodIn_app (goodIn_of _ (by decide +kernel)) ggL_law_X5_why
set_option maxRecDepth 20000 in
theorem ggL_law_L_told : GoodIn wsL_law wsL_told := goodIn_ca (goodIn_r _ [656, 218, 657, 658, 659, 2, 660, 16, 355, 23, 223, 224, 225, 226, 227, 661, 662, 663, 15, 664, 42, 665, 624, 625, 626, 40, 379, 202, 203, 204, 205, 206, 207, 380, 381, 382, 22, 383, 47, 836, 837, 838, 839, 840, 841, 842, 853, 854, 855, 856, 857, 858, 859, 860, 861, 862, 863, 864, 865, 866, 867, 868, 869] (by decide +kernel) (by decide +kernel)) (goodIn_sub (fun _ h => List.mem_append_right _ h) (by decide +kernel))
set_option maxRecDepth 20000 in
theorem gL_law_L_told : GoodIn wsL_law (va_wsS RL 145 yL_told wsL_told) := goodIn_app (goodIn_of _ (by decide +kernel)) ggL_law_L_told
set_option maxRecDepth 20000 in
theorem ggL_law_X5_told : GoodIn wsL_law wsX5_told := goodIn_r _ [669, 157, 158, 5, 159, 103, 104, 105, 106, 107, 670, 671, 672, 673, 61, 639, 640, 641, 642, 212, 213, 214, 408, 409, 410, 411, 412, 413, 414, 160, 161, 162, 415, 416, 417, 418, 419, 420, 421, 843, 844, 845, 846, 847, 848, 849, 850, 851, 852] (by decide +kernel) (by decide +kernel)
set_option maxRecDepth 20000 in
theorem gL_law_X5_told : GoodIn wsL_law (wsV RL 147 RX5 yX5_told wsX5_told) := goodIn_app (goodIn_of _ (by decide +kernel)) ggL_law_X5_told
set_option maxRecDepth 20000 in
theorem ggL_law_L_possible : GoodIn wsL_law wsL_possible := goodIn_ca (goodIn_r _ [676, 218, 677, 678, 679, 2, 680, 16, 355, 23, 223, 224, 225, 226, 227, 661, 662, 663, 15, 664, 42, 665, 624, 625, 626, 40, 379, 202, 203, 204, 205, 206, 207, 681, 682, 683, 22, 684, 260, 685, 381, 382, 383, 47, 836, 837, 838, 839, 840, 841, 842, 853, 854, 855, 856, 857, 858, 859, 860, 861, 862, 863, 864, 865, 866, 867, 868, 869] (by decide +kernel) (by decide +kernel)) (goodIn_sub (fun _ h => List.mem_append_right _ h) (by decide +kernel))
set_option maxRecDepth 20000 in
theorem gL_law_L_possible : GoodIn wsL_law (va_wsS RL 148 yL_possible wsL_possible) := goodIn_app (goodIn_of _ (by decide +kernel)) ggL_law_L_possible
set_option maxRecDepth 20000 in
theorem ggL_law_X5_possible : GoodIn wsL_law wsX5_possible := goodIn_r _ [689, 157, 158, 5, 159, 103, 104, 105, 106, 107, 690, 691, 692, 693, 61, 639, 640, 641, 642, 212, 213, 214, 412, 413, 414, 160, 161, 162, 415, 416, 417, 418, 419, 420, 421, 843, 844, 845, 846, 847, 848, 849, 850, 851, 852] (by decide +kernel) (by decide +kernel)
set_option maxRecDepth 20000 in
theorem gL_law_X5_possible : GoodIn wsL_law (wsV RL 150 RX5 yX5_possible wsX5_possible) := goodIn_app (goodIn_of _ (by decide +kernel)) ggL_law_X5_possible
set_option maxRecDepth 20000 in
theorem ggL_law_L_smallest : GoodIn wsL_law wsL_smallest := goodIn_ca (goodIn_r _ [696, 218, 697, 698, 699, 2, 700, 27, 16, 223, 224, 225, 226, 227, 357, 358, 359, 26, 360, 51, 52, 361, 362, 363, 364, 15, 365, 40, 366, 202, 203, 204, 205, 206, 207, 701, 702, 703, 704, 371, 372, 373, 374, 705, 706, 707, 708, 353, 355, 23, 356, 375, 376, 377, 378, 367, 368, 369, 370, 87, 379, 380, 381, 382, 22, 383, 47, 836, 837, 838, 839, 840, 841, 842, 870, 871, 853, 854, 855, 856, 857, 858, 859, 860, 861, 862, 863, 864, 865, 866, 867, 868, 869] (by decide +kernel) (by decide +kernel)) (goodIn_sub (fun _ h => List.mem_append_right _ h) (by decide +kernel))
set_option maxRecDepth 20000 in
theorem gL_law_L_smallest : GoodIn wsL_law (va_wsS RL 151 yL_smallest wsL_smallest) := goodIn_app (goodIn_of _ (by decide +kernel)) ggL_law_L_smallest
set_option maxRecDepth 20000 in
theorem ggL_law_X5_smallest : GoodIn wsL_law wsX5_smallest := goodIn_r _ [712, 157, 158, 5, 159, 103, 104, 105, 106, 107, 713, 714, 715, 716, 396, 397, 398, 399, 61, 400, 401, 402, 403, 160, 161, 162, 404, 405, 406, 407, 212, 213, 214, 408, 409, 410, 411, 412, 413, 414, 415, 416, 417, 418, 419, 420, 421, 843, 844, 845, 846, 847, 848, 849, 850, 851, 852] (by decide +kernel) (by decide +kernel)
set_option maxRecDepth 20000 in
theorem gL_law_X5_smallest : GoodIn wsL_law (wsV RL 153 RX5 yX5_smallest wsX5_smallest) := goodIn_app (goodIn_of _ (by decide +kernel)) ggL_law_X5_smallest
set_option maxRecDepth 20000 in
theorem ggL_law_X4_groups : GoodIn wsL_law wsX4_groups := goodIn_r _ [720, 27, 16, 357, 358, 359, 26, 360, 51, 52, 361, 362, 363, 364, 15, 365, 40, 366, 202, 203, 204, 205, 206, 207, 701, 702, 703, 2, 704, 371, 372, 373, 374, 705, 706, 707, 708, 353, 355, 23, 356, 375, 376, 377, 378, 367, 368, 369, 370, 87, 379, 380, 381, 382, 22, 383, 47, 836, 837, 838, 839, 840, 841, 842, 870, 871, 853, 854, 855, 856, 857, 858, 859, 860, 861, 862, 863, 864, 865, 866, 867, 868, 869] (by decide +kernel) (by decide +kernel)
set_option maxRecDepth 20000 in
theorem gL_law_X4_groups : GoodIn wsL_law (wsV RL 154 RX4 yX4_groups wsX4_groups) := goodIn_app (goodIn_of _ (by decide +kernel)) ggL_law_X4_groups
set_option maxRecDepth 20000 in
theorem ggL_law_X5_groups : GoodIn wsL_law wsX5_groups := goodIn_r _ [724, 107, 725, 726, 727, 5, 728, 396, 397, 398, 399, 61, 400, 401, 402, 403, 160, 161, 162, 404, 405, 406, 407, 212, 213, 214, 408, 409, 410, 411, 412, 413, 414, 415, 416, 417, 418, 419, 420, 421, 843, 844, 845, 846, 847, 848, 849, 850, 851, 852] (by decide +kernel) (by decide +kernel)
set_option maxRecDepth 20000 in
theorem gL_law_X5_groups : GoodIn wsL_law (wsV RL 157 RX5 yX5_groups wsX5_groups) := goodIn_app (goodIn_of _ (by decide +kernel)) ggL_law_X5_groups
set_option maxRecDepth 20000 in
theorem ggL_law_X4_needed : GoodIn wsL_law wsX4_needed := goodIn_r _ [732, 16, 17, 733, 734, 735, 2, 736, 27, 357, 358, 359, 26, 360, 51, 52, 361, 362, 363, 364, 15, 365, 40, 366, 202, 203, 204, 205, 206, 207, 701, 702, 703, 704, 371, 372, 373, 374, 705, 706, 707, 708, 353, 355, 23, 356, 375, 376, 377, 378, 367, 368, 369, 370, 87, 379, 380, 381, 382, 22, 383, 47, 139, 140, 141, 142, 143, 136, 137, 138, 86, 82, 83, 84, 85, 37, 38, 39, 41, 88, 89, 42, 90, 91, 92, 93, 94, 43, 144, 145, 146, 147, 148, 836, 837, 838, 839, 840, 841, 842, 870, 871, 853, 854, 855, 856, 857, 858, 859, 860, 861, 862, 863, 864, 865, 866, 867, 868, 869] (by decide +kernel) (by decide +kernel)
set_option maxRecDepth 20000 in
theorem gL_law_X4_needed : GoodIn wsL_law (wsV RL 158 RX4 yX4_needed wsX4_needed) := goodIn_app (goodIn_of _ (by decide +kernel)) ggL_law_X4_needed
set_option maxRecDepth 20000 in
theorem ggL_law_X5_needed : GoodIn wsL_law wsX5_needed := goodIn_r _ [740, 107, 741, 742, 743, 5, 744, 61, 725, 726, 727, 728, 396, 397, 398, 399, 400, 401, 402, 403, 160, 161, 162, 404, 405, 406, 407, 212, 213, 214, 408, 409, 410, 411, 412, 413, 414, 415, 416, 417, 418, 419, 420, 421, 113, 114, 115, 116, 163, 164, 165, 166, 843, 844, 845, 846, 847, 848, 849, 850, 851, 852] (by decide +kernel) (by decide +kernel)
set_option maxRecDepth 20000 in
theorem gL_law_X5_needed : GoodIn wsL_law (wsV RL 161 RX5 yX5_needed wsX5_needed) := goodIn_app (goodIn_of _ (by decide +kernel)) ggL_law_X5_needed
set_option maxRecDepth 20000 in
theorem ggL_law_X4_peace : GoodIn wsL_law wsX4_peace := goodIn_r _ [748, 27, 16, 357, 358, 359, 26, 360, 51, 52, 361, 362, 363, 364, 15, 365, 40, 366, 202, 203, 204, 205, 206, 207, 749, 750, 751, 2, 752, 753, 754, 755, 756, 38, 371, 372, 373, 374, 705, 706, 707, 708, 353, 355, 23, 356, 375, 376, 377, 378, 367, 368, 369, 370, 87, 379, 380, 381, 382, 22, 383, 47, 836, 837, 838, 839, 840, 841, 842, 870, 871, 853, 854, 855, 856, 857, 858, 859, 860, 861, 862, 863, 864, 865, 866, 867, 868, 869] (by decide +kernel) (by decide +kernel)
set_option maxRecDepth 20000 in
theorem gL_law_X4_peace : GoodIn wsL_law (wsV RL 162 RX4 yX4_peace wsX4_peace) := goodIn_app (goodIn_of _ (by decide +kernel)) ggL_law_X4_peace
set_option maxRecDepth 20000 in
theorem ggL_law_X5_peace : GoodIn wsL_law wsX5_peace := goodIn_r _ [760, 107, 761, 762, 763, 5, 764, 61, 725, 726, 727, 728, 396, 397, 398, 399, 400, 401, 402, 403, 160, 161, 162, 404, 405, 406, 407, 212, 213, 214, 408, 409, 410, 411, 412, 413, 414, 415, 416, 417, 418, 419, 420, 421, 186, 187, 188, 189, 113, 114, 115, 116, 843, 844, 845, 846, 847, 848, 849, 850, 851, 852] (by decide +kernel) (by decide +kernel)
set_option maxRecDepth 20000 in
theorem gL_law_X5_peace : GoodIn wsL_law (wsV RL 166 RX5 yX5_peace wsX5_peace) := goodIn_app (goodIn_of _ (by decide +kernel)) ggL_law_X5_peace
set_option maxRecDepth 20000 in
theorem ggL_law_X4_firstShare : GoodIn wsL_law wsX4_firstShare := goodIn_r _ [768, 16, 623, 624, 625, 15, 626, 40, 379, 202, 203, 204, 205, 206, 207, 769, 770, 771, 772, 836, 837, 838, 839, 840, 841, 842, 853, 854, 855, 856, 857, 858, 859, 860, 861, 862, 863, 864, 865, 866, 867, 868] (by decide +kernel) (by decide +kernel)
set_option maxRecDepth 20000 in
theorem gL_law_X4_firstShare : GoodIn wsL_law (wsV RL 167 RX4 yX4_firstShare wsX4_firstShare) := goodIn_app (goodIn_of _ (by decide +kernel)) ggL_law_X4_firstShare
set_option maxRecDepth 20000 in
theorem ggL_law_X5_firstShare : GoodIn wsL_law wsX5_firstShare := goodIn_r _ [776, 107, 777, 778, 779, 5, 780, 61, 843, 844, 845, 846, 847, 848, 849, 850, 851, 852] (by decide +kernel) (by decide +kernel)
set_option maxRecDepth 20000 in
theorem gL_law_X5_firstShare : GoodIn wsL_law (wsV RL 171 RX5 yX5_firstShare wsX5_firstShare) := goodIn_app (goodIn_of _ (by decide +kernel)) ggL_law_X5_firstShare
set_option maxRecDepth 20000 in
theorem ggL_law_X4_digest : GoodIn wsL_law wsX4_digest := goodIn_ca (goodIn_ca (goodIn_r _ [784, 785, 16, 77, 31, 786, 617, 618, 2, 619, 226, 227, 323, 353, 355, 354, 620, 621, 622, 19, 228, 229, 230, 15, 231, 87, 201, 202, 203, 204, 205, 206, 207, 623, 624, 625, 626, 40, 379, 627, 628, 629, 630, 38, 787, 788, 789, 790, 791, 580, 581, 582, 583, 584, 585, 129, 130, 131, 132, 133, 134, 135, 136, 137, 138, 86, 139, 140, 141, 142, 143, 586, 363, 364, 365, 792, 599, 600, 601, 602, 603, 604, 223, 224, 225, 304, 305, 306, 307, 793, 794, 795, 796, 797, 658, 659, 660, 23, 661, 662, 663, 664, 42, 665, 380, 381, 382, 22, 383, 47, 798, 678, 679, 680, 681, 682, 683, 684, 260, 685, 799, 800, 801, 802, 345, 346, 347, 348, 349, 350, 351, 352, 27, 356, 357, 358, 359, 26, 360, 51, 52, 361, 362, 366, 367, 368, 369, 370, 371, 372, 373, 374, 375, 376, 377, 378, 803, 698, 699, 700, 701, 702, 703, 704, 705, 706, 707, 708, 804, 718, 719, 720, 805, 730, 731, 732, 17, 733, 734, 735, 736, 82, 83, 84, 85, 37, 39, 41, 88, 89, 90, 91, 92, 93, 94, 43, 144, 145, 146, 147, 148, 806, 746, 747, 748, 749, 750, 751, 752, 753, 754, 755, 756, 807, 766, 767, 768, 769, 770, 771, 772, 808, 809, 810, 811, 812, 813, 814, 815, 816, 30, 817, 433, 459, 460, 461, 462, 56, 836, 837, 838, 839, 840, 841, 842, 853, 854, 855, 856, 857, 858, 859, 860, 861, 862, 863, 864, 865, 866, 867, 868, 872, 873, 869, 870, 871] (by decide +kernel) (by decide +kernel)) (goodIn_sub (fun _ h => List.mem_append_right _ h) (by decide +kernel))) (goodIn_sub (fun _ h => List.mem_append_left _ (List.mem_append_right _ h)) (by decide +kernel))
set_option maxRecDepth 20000 in
theorem gL_law_X4_digest : GoodIn wsL_law (wsV RL 172 RX4 yX4_digest wsX4_digest) := goodIn_app (goodIn_of _ (by decide +kernel)) ggL_law_X4_digest
set_option maxRecDepth 20000 in
theorem ggL_law_X5_digest : GoodIn wsL_law wsX5_digest := goodIn_r _ [821, 107, 822, 823, 61, 438, 63, 635, 636, 637, 5, 638, 112, 212, 213, 214, 639, 640, 641, 642, 591, 592, 593, 594, 404, 405, 406, 407, 160, 161, 162, 609, 610, 611, 612, 670, 671, 672, 673, 408, 409, 410, 411, 412, 413, 414, 415, 416, 417, 418, 419, 420, 421, 690, 691, 692, 693, 396, 397, 398, 399, 400, 401, 402, 403, 713, 714, 715, 716, 725, 726, 727, 728, 741, 742, 743, 744, 113, 114, 115, 116, 163, 164, 165, 166, 761, 762, 763, 764, 186, 187, 188, 189, 777, 778, 779, 780, 824, 825, 826, 827, 828, 829, 830, 831, 832, 833, 834, 835, 843, 844, 845, 846, 847, 848, 849, 850, 851, 852] (by decide +kernel) (by decide +kernel)
set_option maxRecDepth 20000 in
theorem gL_law_X5_digest : GoodIn wsL_law (wsV RL 176 RX5 yX5_digest wsX5_digest) := goodIn_app (goodIn_of _ (by decide +kernel)) ggL_law_X5_digest
