theorem dX0_init_0 : decode cX0_init 0 = .ok (.aload_n 0, 1) := by decide +kernel
theorem dX0_init_1 : decode cX0_init 1 = .ok (.invokespecial 3, 3) := by decide +kernel
theorem dX0_init_4 : decode cX0_init 4 = .ok (.aload_n 0, 1) := by decide +kernel
theorem dX0_init_5 : decode cX0_init 5 = .ok (.sipush 256, 3) := by decide +kernel
theorem dX0_init_8 : decode cX0_init 8 = .ok (.newarray .int, 2) := by decide +kernel
theorem dX0_init_10 : decode cX0_init 10 = .ok (.putfield 9, 3) := by decide +kernel
theorem dX0_init_13 : decode cX0_init 13 = .ok (.return_, 1) := by decide +kernel
set_option maxRecDepth 20000 in
theorem ggX0_reckon_J6_bitCount_0f7a4 : GoodIn wsX0_reckon wsJ6_bitCount_0f7a4 := goodIn_r _ [8, 9, 10, 11] (by decide +kernel) (by decide +kernel)
set_option maxRecDepth 20000 in
theorem gX0_reckon_J6_bitCount_0f7a4 : GoodIn wsX0_reckon (va_wsS RX0 20 yJ6_bitCount_0f7a4 wsJ6_bitCount_0f7a4) := goodIn_app (goodIn_of _ (by decide +kernel)) ggX0_reckon_J6_bitCount_0f7a4
set_option maxRecDepth 20000 in
theorem ggX0_reckon_J9_floorMod_7cf53 : GoodIn wsX0_reckon wsJ9_floorMod_7cf53 := goodIn_r _ [15] (by decide +kernel) (by decide +kernel)
set_option maxRecDepth 20000 in
theorem gX0_reckon_J9_floorMod_7cf53 : GoodIn wsX0_reckon (va_wsS RX0 30 yJ9_floorMod_7cf53 wsJ9_floorMod_7cf53) := goodIn_app (goodIn_of _ (by decide +kernel)) ggX0_reckon_J9_floorMod_7cf53
theorem dX0_reckon_0 : decode cX0_reckon 0 = .ok (.iconst 0, 1) := by decide +kernel
theorem dX0_reckon_1 : decode cX0_reckon 1 = .ok (.istore_n 2, 1) := by decide +kernel
theorem dX0_reckon_2 : decode cX0_reckon 2 = .ok (.iload_n 2, 1) := by decide +kernel
theorem dX0_reckon_3 : decode cX0_reckon 3 = .ok (.bipush 8, 2) := by decide +kernel
theorem dX0_reckon_5 : decode cX0_reckon 5 = .ok (.if_icmp .ge 162, 3) := by decide +kernel
theorem dX0_reckon_8 : decode cX0_reckon 8 = .ok (.iconst 1, 1) := by decide +kernel
theorem dX0_reckon_9 : decode cX0_reckon 9 = .ok (.iload_n 2, 1) := by decide +kernel
theorem dX0_reckon_10 : decode cX0_reckon 10 = .ok (.ishl, 1) := by decide +kernel
theorem dX0_reckon_11 : decode cX0_reckon 11 = .ok (.istore_n 3, 1) := by decide +kernel
theorem dX0_reckon_12 : decode cX0_reckon 12 = .ok (.aload_n 0, 1) := by decide +kernel
theorem dX0_reckon_13 : decode cX0_reckon 13 = .ok (.getfield 9, 3) := by decide +kernel
theorem dX0_reckon_16 : decode cX0_reckon 16 = .ok (.iload_n 3, 1) := by decide +kernel
theorem dX0_reckon_17 : decode cX0_reckon 17 = .ok (.aload_n 1, 1) := by decide +kernel
theorem dX0_reckon_18 : decode cX0_reckon 18 = .ok (.getfield 15, 3) := by decide +kernel
theorem dX0_reckon_21 : decode cX0_reckon 21 = .ok (.iload_n 2, 1) := by decide +kernel
theorem dX0_reckon_22 : decode cX0_reckon 22 = .ok (.iaload, 1) := by decide +kernel
theorem dX0_reckon_23 : decode cX0_reckon 23 = .ok (.iastore, 1) := by decide +kernel
theorem dX0_reckon_24 : decode cX0_reckon 24 = .ok (.iconst 0, 1) := by decide +kernel
theorem dX0_reckon_25 : decode cX0_reckon 25 = .ok (.istore 4, 2) := by decide +kernel
theorem dX0_reckon_27 : decode cX0_reckon 27 = .ok (.iload 4, 2) := by decide +kernel
theorem dX0_reckon_29 : decode cX0_reckon 29 = .ok (.iload_n 2, 1) := by decide +kernel
theorem dX0_reckon_30 : decode cX0_reckon 30 = .ok (.if_icmp .ge 131, 3) := by decide +kernel
theorem dX0_reckon_33 : decode cX0_reckon 33 = .ok (.iconst 1, 1) := by decide +kernel
theorem dX0_reckon_34 : decode cX0_reckon 34 = .ok (.iload 4, 2) := by decide +kernel
theorem dX0_reckon_36 : decode cX0_reckon 36 = .ok (.ishl, 1) := by decide +kernel
theorem dX0_reckon_37 : decode cX0_reckon 37 = .ok (.istore 5, 2) := by decide +kernel
theorem dX0_reckon_39 : decode cX0_reckon 39 = .ok (.iconst 0, 1) := by decide +kernel
theorem dX0_reckon_40 : decode cX0_reckon 40 = .ok (.istore 6, 2) := by decide +kernel
theorem dX0_reckon_42 : decode cX0_reckon 42 = .ok (.iload 6, 2) := by decide +kernel
theorem dX0_reckon_44 : decode cX0_reckon 44 = .ok (.iload 5, 2) := by decide +kernel
theorem dX0_reckon_46 : decode cX0_reckon 46 = .ok (.if_icmp .ge 109, 3) := by decide +kernel
theorem dX0_reckon_49 : decode cX0_reckon 49 = .ok (.iload 6, 2) := by decide +kernel
theorem dX0_reckon_51 : decode cX0_reckon 51 = .ok (.iload 5, 2) := by decide +kernel
theorem dX0_reckon_53 : decode cX0_reckon 53 = .ok (.ior, 1) := by decide +kernel
theorem dX0_reckon_54 : decode cX0_reckon 54 = .ok (.iload_n 3, 1) := by decide +kernel
theorem dX0_reckon_55 : decode cX0_reckon 55 = .ok (.ior, 1) := by decide +kernel
theorem dX0_reckon_56 : decode cX0_reckon 56 = .ok (.istore 7, 2) := by decide +kernel
theorem dX0_reckon_58 : decode cX0_reckon 58 = .ok (.iload 7, 2) := by decide +kernel
theorem dX0_reckon_60 : decode cX0_reckon 60 = .ok (.invokestatic 20, 3) := by decide +kernel
theorem dX0_reckon_63 : decode cX0_reckon 63 = .ok (.aload_n 1, 1) := by decide +kernel
theorem dX0_reckon_64 : decode cX0_reckon 64 = .ok (.getfield 26, 3) := by decide +kernel
theorem dX0_reckon_67 : decode cX0_reckon 67 = .ok (.if_icmp .le 23, 3) := by decide +kernel
theorem dX0_reckon_70 : decode cX0_reckon 70 = .ok (.aload_n 0, 1) := by decide +kernel
theorem dX0_reckon_71 : decode cX0_reckon 71 = .ok (.getfield 9, 3) := by decide +kernel
theorem dX0_reckon_74 : decode cX0_reckon 74 = .ok (.iload 7, 2) := by decide +kernel
theorem dX0_reckon_76 : decode cX0_reckon 76 = .ok (.aload_n 0, 1) := by decide +kernel
theorem dX0_reckon_77 : decode cX0_reckon 77 = .ok (.getfield 9, 3) := by decide +kernel
theorem dX0_reckon_80 : decode cX0_reckon 80 = .ok (.iload 6, 2) := by decide +kernel
theorem dX0_reckon_82 : decode cX0_reckon 82 = .ok (.iload 5, 2) := by decide +kernel
theorem dX0_reckon_84 : decode cX0_reckon 84 = .ok (.ior, 1) := by decide +kernel
theorem dX0_reckon_85 : decode cX0_reckon 85 = .ok (.iaload, 1) := by decide +kernel
theorem dX0_reckon_86 : decode cX0_reckon 86 = .ok (.iastore, 1) := by decide +kernel
theorem dX0_reckon_87 : decode cX0_reckon 87 = .ok (.goto 62, 3) := by decide +kernel
theorem dX0_reckon_90 : decode cX0_reckon 90 = .ok (.iload_n 2, 1) := by decide +kernel
theorem dX0_reckon_91 : decode cX0_reckon 91 = .ok (.iconst 1, 1) := by decide +kernel
theorem dX0_reckon_92 : decode cX0_reckon 92 = .ok (.iadd, 1) := by decide +kernel
theorem dX0_reckon_93 : decode cX0_reckon 93 = .ok (.aload_n 0, 1) := by decide +kernel
theorem dX0_reckon_94 : decode cX0_reckon 94 = .ok (.getfield 9, 3) := by decide +kernel
theorem dX0_reckon_97 : decode cX0_reckon 97 = .ok (.iload 6, 2) := by decide +kernel
theorem dX0_reckon_99 : decode cX0_reckon 99 = .ok (.iload 5, 2) := by decide +kernel
theorem dX0_reckon_101 : decode cX0_reckon 101 = .ok (.ior, 1) := by decide +kernel
theorem dX0_reckon_102 : decode cX0_reckon 102 = .ok (.iaload, 1) := by decide +kernel
theorem dX0_reckon_103 : decode cX0_reckon 103 = .ok (.imul, 1) := by decide +kernel
theorem dX0_reckon_104 : decode cX0_reckon 104 = .ok (.iload 4, 2) := by decide +kernel
theorem dX0_reckon_106 : decode cX0_reckon 106 = .ok (.iconst 1, 1) := by decide +kernel
theorem dX0_reckon_107 : decode cX0_reckon 107 = .ok (.iadd, 1) := by decide +kernel
theorem dX0_reckon_108 : decode cX0_reckon 108 = .ok (.aload_n 0, 1) := by decide +kernel
theorem dX0_reckon_109 : decode cX0_reckon 109 = .ok (.getfield 9, 3) := by decide +kernel
theorem dX0_reckon_112 : decode cX0_reckon 112 = .ok (.iload 6, 2) := by decide +kernel
theorem dX0_reckon_114 : decode cX0_reckon 114 = .ok (.iload_n 3, 1) := by decide +kernel
theorem dX0_reckon_115 : decode cX0_reckon 115 = .ok (.ior, 1) := by decide +kernel
theorem dX0_reckon_116 : decode cX0_reckon 116 = .ok (.iaload, 1) := by decide +kernel
theorem dX0_reckon_117 : decode cX0_reckon 117 = .ok (.imul, 1) := by decide +kernel
theorem dX0_reckon_118 : decode cX0_reckon 118 = .ok (.isub, 1) := by decide +kernel
theorem dX0_reckon_119 : decode cX0_reckon 119 = .ok (.istore 8, 2) := by decide +kernel
theorem dX0_reckon_121 : decode cX0_reckon 121 = .ok (.aload_n 0, 1) := by decide +kernel
theorem dX0_reckon_122 : decode cX0_reckon 122 = .ok (.getfield 9, 3) := by decide +kernel
theorem dX0_reckon_125 : decode cX0_reckon 125 = .ok (.iload 7, 2) := by decide +kernel
theorem dX0_reckon_127 : decode cX0_reckon 127 = .ok (.iload 8, 2) := by decide +kernel
theorem dX0_reckon_129 : decode cX0_reckon 129 = .ok (.sipush 251, 3) := by decide +kernel
theorem dX0_reckon_132 : decode cX0_reckon 132 = .ok (.invokestatic 30, 3) := by decide +kernel
theorem dX0_reckon_135 : decode cX0_reckon 135 = .ok (.getstatic 36, 3) := by decide +kernel
theorem dX0_reckon_138 : decode cX0_reckon 138 = .ok (.iload_n 2, 1) := by decide +kernel
theorem dX0_reckon_139 : decode cX0_reckon 139 = .ok (.iload 4, 2) := by decide +kernel
theorem dX0_reckon_141 : decode cX0_reckon 141 = .ok (.isub, 1) := by decide +kernel
theorem dX0_reckon_142 : decode cX0_reckon 142 = .ok (.iaload, 1) := by decide +kernel
theorem dX0_reckon_143 : decode cX0_reckon 143 = .ok (.imul, 1) := by decide +kernel
theorem dX0_reckon_144 : decode cX0_reckon 144 = .ok (.sipush 251, 3) := by decide +kernel
theorem dX0_reckon_147 : decode cX0_reckon 147 = .ok (.irem, 1) := by decide +kernel
theorem dX0_reckon_148 : decode cX0_reckon 148 = .ok (.iastore, 1) := by decide +kernel
theorem dX0_reckon_149 : decode cX0_reckon 149 = .ok (.iinc 6 1, 3) := by decide +kernel
theorem dX0_reckon_152 : decode cX0_reckon 152 = .ok (.goto (-110), 3) := by decide +kernel
theorem dX0_reckon_155 : decode cX0_reckon 155 = .ok (.iinc 4 1, 3) := by decide +kernel
theorem dX0_reckon_158 : decode cX0_reckon 158 = .ok (.goto (-131), 3) := by decide +kernel
theorem dX0_reckon_161 : decode cX0_reckon 161 = .ok (.iinc 2 1, 3) := by decide +kernel
theorem dX0_reckon_164 : decode cX0_reckon 164 = .ok (.goto (-162), 3) := by decide +kernel
theorem dX0_reckon_167 : decode cX0_reckon 167 = .ok (.return_, 1) := by decide +kernel
theorem dX0_keyOf_0 : decode cX0_keyOf 0 = .ok (.iload_n 1, 1) := by decide +kernel
theorem dX0_keyOf_1 : decode cX0_keyOf 1 = .ok (.ifCond .lt 19, 3) := by decide +kernel
theorem dX0_keyOf_4 : decode cX0_keyOf 4 = .ok (.iload_n 1, 1) := by decide +kernel
theorem dX0_keyOf_5 : decode cX0_keyOf 5 = .ok (.sipush 256, 3) := by decide +kernel
theorem dX0_keyOf_8 : decode cX0_keyOf 8 = .ok (.if_icmp .ge 12, 3) := by decide +kernel
theorem dX0_keyOf_11 : decode cX0_keyOf 11 = .ok (.aload_n 0, 1) := by decide +kernel
theorem dX0_keyOf_12 : decode cX0_keyOf 12 = .ok (.getfield 9, 3) := by decide +kernel
theorem dX0_keyOf_15 : decode cX0_keyOf 15 = .ok (.iload_n 1, 1) := by decide +kernel
theorem dX0_keyOf_16 : decode cX0_keyOf 16 = .ok (.iaload, 1) := by decide +kernel
theorem dX0_keyOf_17 : decode cX0_keyOf 17 = .ok (.goto 4, 3) := by decide +kernel
theorem dX0_keyOf_20 : decode cX0_keyOf 20 = .ok (.iconst (-1), 1) := by decide +kernel
theorem dX0_keyOf_21 : decode cX0_keyOf 21 = .ok (.ireturn, 1) := by decide +kernel
set_option maxRecDepth 20000 in
theorem ggX0_isOneCurve_J6_bitCount_0f7a4 : GoodIn wsX0_isOneCurve wsJ6_bitCount_0f7a4 := goodIn_r _ [4, 5, 6, 7] (by decide +kernel) (by decide +kernel)
set_option maxRecDepth 20000 in
theorem gX0_isOneCurve_J6_bitCount_0f7a4 : GoodIn wsX0_isOneCurve (va_wsS RX0 20 yJ6_bitCount_0f7a4 wsJ6_bitCount_0f7a4) := goodIn_app (goodIn_of _ (by decide +kernel)) ggX0_isOneCurve_J6_bitCount_0f7a4
set_option maxRecDepth 20000 in
theorem ggX0_isOneCurve_X0_keyOf : GoodIn wsX0_isOneCurve wsX0_keyOf := goodIn_r _ [12, 13, 14] (by decide +kernel) (by decide +kernel)
set_option maxRecDepth 20000 in
theorem gX0_isOneCurve_X0_keyOf : GoodIn wsX0_isOneCurve (wsV RX0 39 RX0 yX0_keyOf wsX0_keyOf) := goodIn_app (goodIn_of _ (by decide +kernel)) ggX0_isOneCurve_X0_keyOf
theorem dX0_isOneCurve_0 : decode cX0_isOneCurve 0 = .ok (.iload_n 1, 1) := by decide +kernel
theorem dX0_isOneCurve_1 : decode cX0_isOneCurve 1 = .ok (.istore_n 3, 1) := by decide +kernel
theorem dX0_isOneCurve_2 : decode cX0_isOneCurve 2 = .ok (.iconst 0, 1) := by decide +kernel
theorem dX0_isOneCurve_3 : decode cX0_isOneCurve 3 = .ok (.istore 4, 2) := by decide +kernel
theorem dX0_isOneCurve_5 : decode cX0_isOneCurve 5 = .ok (.iload 4, 2) := by decide +kernel
theorem dX0_isOneCurve_7 : decode cX0_isOneCurve 7 = .ok (.bipush 8, 2) := by decide +kernel
theorem dX0_isOneCurve_9 : decode cX0_isOneCurve 9 = .ok (.if_icmp .ge 43, 3) := by decide +kernel
theorem dX0_isOneCurve_12 : decode cX0_isOneCurve 12 = .ok (.iload_n 3, 1) := by decide +kernel
theorem dX0_isOneCurve_13 : decode cX0_isOneCurve 13 = .ok (.invokestatic 20, 3) := by decide +kernel
theorem dX0_isOneCurve_16 : decode cX0_isOneCurve 16 = .ok (.iload_n 2, 1) := by decide +kernel
theorem dX0_isOneCurve_17 : decode cX0_isOneCurve 17 = .ok (.if_icmp .le 35, 3) := by decide +kernel
theorem dX0_isOneCurve_20 : decode cX0_isOneCurve 20 = .ok (.iload_n 3, 1) := by decide +kernel
theorem dX0_isOneCurve_21 : decode cX0_isOneCurve 21 = .ok (.iload_n 3, 1) := by decide +kernel
theorem dX0_isOneCurve_22 : decode cX0_isOneCurve 22 = .ok (.iconst 1, 1) := by decide +kernel
theorem dX0_isOneCurve_23 : decode cX0_isOneCurve 23 = .ok (.isub, 1) := by decide +kernel
theorem dX0_isOneCurve_24 : decode cX0_isOneCurve 24 = .ok (.iand, 1) := by decide +kernel
theorem dX0_isOneCurve_25 : decode cX0_isOneCurve 25 = .ok (.istore 5, 2) := by decide +kernel
theorem dX0_isOneCurve_27 : decode cX0_isOneCurve 27 = .ok (.aload_n 0, 1) := by decide +kernel
theorem dX0_isOneCurve_28 : decode cX0_isOneCurve 28 = .ok (.iload 5, 2) := by decide +kernel
theorem dX0_isOneCurve_30 : decode cX0_isOneCurve 30 = .ok (.invokevirtual 39, 3) := by decide +kernel
theorem dX0_isOneCurve_33 : decode cX0_isOneCurve 33 = .ok (.aload_n 0, 1) := by decide +kernel
theorem dX0_isOneCurve_34 : decode cX0_isOneCurve 34 = .ok (.iload_n 3, 1) := by decide +kernel
theorem dX0_isOneCurve_35 : decode cX0_isOneCurve 35 = .ok (.invokevirtual 39, 3) := by decide +kernel
theorem dX0_isOneCurve_38 : decode cX0_isOneCurve 38 = .ok (.if_icmp .eq 5, 3) := by decide +kernel
theorem dX0_isOneCurve_41 : decode cX0_isOneCurve 41 = .ok (.iconst 0, 1) := by decide +kernel
theorem dX0_isOneCurve_42 : decode cX0_isOneCurve 42 = .ok (.ireturn, 1) := by decide +kernel
theorem dX0_isOneCurve_43 : decode cX0_isOneCurve 43 = .ok (.iload 5, 2) := by decide +kernel
theorem dX0_isOneCurve_45 : decode cX0_isOneCurve 45 = .ok (.istore_n 3, 1) := by decide +kernel
theorem dX0_isOneCurve_46 : decode cX0_isOneCurve 46 = .ok (.iinc 4 1, 3) := by decide +kernel
theorem dX0_isOneCurve_49 : decode cX0_isOneCurve 49 = .ok (.goto (-44), 3) := by decide +kernel
theorem dX0_isOneCurve_52 : decode cX0_isOneCurve 52 = .ok (.iconst 1, 1) := by decide +kernel
theorem dX0_isOneCurve_53 : decode cX0_isOneCurve 53 = .ok (.ireturn, 1) := by decide +kernel
theorem dX1_init_0 : decode cX1_init 0 = .ok (.aload_n 0, 1) := by decide +kernel
theorem dX1_init_1 : decode cX1_init 1 = .ok (.invokespecial 3, 3) := by decide +kernel
theorem dX1_init_4 : decode cX1_init 4 = .ok (.aload_n 0, 1) := by decide +kernel
theorem dX1_init_5 : decode cX1_init 5 = .ok (.bipush 60, 2) := by decide +kernel
theorem dX1_init_7 : decode cX1_init 7 = .ok (.newarray .int, 2) := by decide +kernel
theorem dX1_init_9 : decode cX1_init 9 = .ok (.putfield 9, 3) := by decide +kernel
theorem dX1_init_12 : decode cX1_init 12 = .ok (.return_, 1) := by decide +kernel
theorem dX1_add_0 : decode cX1_add 0 = .ok (.aload_n 0, 1) := by decide +kernel
theorem dX1_add_1 : decode cX1_add 1 = .ok (.getfield 15, 3) := by decide +kernel
theorem dX1_add_4 : decode cX1_add 4 = .ok (.ifCond .lt 32, 3) := by decide +kernel
theorem dX1_add_7 : decode cX1_add 7 = .ok (.aload_n 0, 1) := by decide +kernel
theorem dX1_add_8 : decode cX1_add 8 = .ok (.getfield 15, 3) := by decide +kernel
theorem dX1_add_11 : decode cX1_add 11 = .ok (.bipush 60, 2) := by decide +kernel
theorem dX1_add_13 : decode cX1_add 13 = .ok (.if_icmp .ge 23, 3) := by decide +kernel
theorem dX1_add_16 : decode cX1_add 16 = .ok (.aload_n 0, 1) := by decide +kernel
theorem dX1_add_17 : decode cX1_add 17 = .ok (.getfield 9, 3) := by decide +kernel
theorem dX1_add_20 : decode cX1_add 20 = .ok (.aload_n 0, 1) := by decide +kernel
theorem dX1_add_21 : decode cX1_add 21 = .ok (.getfield 15, 3) := by decide +kernel
theorem dX1_add_24 : decode cX1_add 24 = .ok (.iload_n 1, 1) := by decide +kernel
theorem dX1_add_25 : decode cX1_add 25 = .ok (.iastore, 1) := by decide +kernel
theorem dX1_add_26 : decode cX1_add 26 = .ok (.aload_n 0, 1) := by decide +kernel
theorem dX1_add_27 : decode cX1_add 27 = .ok (.dup, 1) := by decide +kernel
theorem dX1_add_28 : decode cX1_add 28 = .ok (.getfield 15, 3) := by decide +kernel
theorem dX1_add_31 : decode cX1_add 31 = .ok (.iconst 1, 1) := by decide +kernel
theorem dX1_add_32 : decode cX1_add 32 = .ok (.iadd, 1) := by decide +kernel
theorem dX1_add_33 : decode cX1_add 33 = .ok (.putfield 15, 3) := by decide +kernel
theorem dX1_add_36 : decode cX1_add 36 = .ok (.aload_n 0, 1) := by decide +kernel
theorem dX1_add_37 : decode cX1_add 37 = .ok (.getfield 15, 3) := by decide +kernel
theorem dX1_add_40 : decode cX1_add 40 = .ok (.ireturn, 1) := by decide +kernel
theorem dX1_empty_0 : decode cX1_empty 0 = .ok (.aload_n 0, 1) := by decide +kernel
theorem dX1_empty_1 : decode cX1_empty 1 = .ok (.getfield 15, 3) := by decide +kernel
theorem dX1_empty_4 : decode cX1_empty 4 = .ok (.istore_n 1, 1) := by decide +kernel
theorem dX1_empty_5 : decode cX1_empty 5 = .ok (.aload_n 0, 1) := by decide +kernel
theorem dX1_empty_6 : decode cX1_empty 6 = .ok (.iconst 0, 1) := by decide +kernel
theorem dX1_empty_7 : decode cX1_empty 7 = .ok (.putfield 15, 3) := by decide +kernel
theorem dX1_empty_10 : decode cX1_empty 10 = .ok (.iload_n 1, 1) := by decide +kernel
theorem dX1_empty_11 : decode cX1_empty 11 = .ok (.ireturn, 1) := by decide +kernel
theorem dX1_code_0 : decode cX1_code 0 = .ok (.iload_n 1, 1) := by decide +kernel
theorem dX1_code_1 : decode cX1_code 1 = .ok (.ifCond .lt 26, 3) := by decide +kernel
theorem dX1_code_4 : decode cX1_code 4 = .ok (.iload_n 1, 1) := by decide +kernel
theorem dX1_code_5 : decode cX1_code 5 = .ok (.aload_n 0, 1) := by decide +kernel
theorem dX1_code_6 : decode cX1_code 6 = .ok (.getfield 15, 3) := by decide +kernel
theorem dX1_code_9 : decode cX1_code 9 = .ok (.if_icmp .ge 18, 3) := by decide +kernel
theorem dX1_code_12 : decode cX1_code 12 = .ok (.iload_n 1, 1) := by decide +kernel
theorem dX1_code_13 : decode cX1_code 13 = .ok (.bipush 60, 2) := by decide +kernel
theorem dX1_code_15 : decode cX1_code 15 = .ok (.if_icmp .ge 12, 3) := by decide +kernel
theorem dX1_code_18 : decode cX1_code 18 = .ok (.aload_n 0, 1) := by decide +kernel
theorem dX1_code_19 : decode cX1_code 19 = .ok (.getfield 9, 3) := by decide +kernel
theorem dX1_code_22 : decode cX1_code 22 = .ok (.iload_n 1, 1) := by decide +kernel
theorem dX1_code_23 : decode cX1_code 23 = .ok (.iaload, 1) := by decide +kernel
theorem dX1_code_24 : decode cX1_code 24 = .ok (.goto 4, 3) := by decide +kernel
theorem dX1_code_27 : decode cX1_code 27 = .ok (.iconst 0, 1) := by decide +kernel
theorem dX1_code_28 : decode cX1_code 28 = .ok (.ireturn, 1) := by decide +kernel
set_option maxRecDepth 20000 in
theorem ggX1_digit_X1_code : GoodIn wsX1_digit wsX1_code := goodIn_r _ [5, 6, 7, 11, 12] (by decide +kernel) (by decide +kernel)
set_option maxRecDepth 20000 in
theorem gX1_digit_X1_code : GoodIn wsX1_digit (wsV RX1 19 RX1 yX1_code wsX1_code) := goodIn_app (goodIn_of _ (by decide +kernel)) ggX1_digit_X1_code
set_option maxRecDepth 20000 in
theorem ggX1_digit_X1_isKeeperDigit : GoodIn wsX1_digit wsX1_isKeeperDigit := goodIn_r _ [10] (by decide +kernel) (by decide +kernel)
set_option maxRecDepth 20000 in
theorem gX1_digit_X1_isKeeperDigit : GoodIn wsX1_digit (va_wsS RX1 23 yX1_isKeeperDigit wsX1_isKeeperDigit) := goodIn_app (goodIn_of _ (by decide +kernel)) ggX1_digit_X1_isKeeperDigit
theorem dX1_digit_0 : decode cX1_digit 0 = .ok (.aload_n 0, 1) := by decide +kernel
theorem dX1_digit_1 : decode cX1_digit 1 = .ok (.iload_n 1, 1) := by decide +kernel
theorem dX1_digit_2 : decode cX1_digit 2 = .ok (.invokevirtual 19, 3) := by decide +kernel
theorem dX1_digit_5 : decode cX1_digit 5 = .ok (.invokestatic 23, 3) := by decide +kernel
theorem dX1_digit_8 : decode cX1_digit 8 = .ok (.ifCond .eq 14, 3) := by decide +kernel
theorem dX1_digit_11 : decode cX1_digit 11 = .ok (.aload_n 0, 1) := by decide +kernel
theorem dX1_digit_12 : decode cX1_digit 12 = .ok (.iload_n 1, 1) := by decide +kernel
theorem dX1_digit_13 : decode cX1_digit 13 = .ok (.invokevirtual 19, 3) := by decide +kernel
theorem dX1_digit_16 : decode cX1_digit 16 = .ok (.bipush 48, 2) := by decide +kernel
theorem dX1_digit_18 : decode cX1_digit 18 = .ok (.isub, 1) := by decide +kernel
theorem dX1_digit_19 : decode cX1_digit 19 = .ok (.goto 4, 3) := by decide +kernel
theorem dX1_digit_22 : decode cX1_digit 22 = .ok (.iconst (-1), 1) := by decide +kernel
theorem dX1_digit_23 : decode cX1_digit 23 = .ok (.ireturn, 1) := by decide +kernel
set_option maxRecDepth 20000 in
theorem ggX1_number_X1_code : GoodIn wsX1_number wsX1_code := goodIn_r _ [5, 6, 7, 11, 12] (by decide +kernel) (by decide +kernel)
set_option maxRecDepth 20000 in
theorem gX1_number_X1_code : GoodIn wsX1_number (wsV RX1 19 RX1 yX1_code wsX1_code) := goodIn_app (goodIn_of _ (by decide +kernel)) ggX1_number_X1_code
set_option maxRecDepth 20000 in
theorem ggX1_number_X1_isDigit : GoodIn wsX1_number wsX1_isDigit := goodIn_r _ [10] (by decide +kernel) (by decide +kernel)
set_option maxRecDepth 20000 in
theorem gX1_number_X1_isDigit : GoodIn wsX1_number (va_wsS RX1 27 yX1_isDigit wsX1_isDigit) := goodIn_app (goodIn_of _ (by decide +kernel)) ggX1_number_X1_isDigit
theorem dX1_number_0 : decode cX1_number 0 = .ok (.iconst 0, 1) := by decide +kernel
theorem dX1_number_1 : decode cX1_number 1 = .ok (.istore_n 2, 1) := by decide +kernel
theorem dX1_number_2 : decode cX1_number 2 = .ok (.iload_n 1, 1) := by decide +kernel
theorem dX1_number_3 : decode cX1_number 3 = .ok (.istore_n 3, 1) := by decide +kernel
theorem dX1_number_4 : decode cX1_number 4 = .ok (.iload_n 3, 1) := by decide +kernel
theorem dX1_number_5 : decode cX1_number 5 = .ok (.iload_n 1, 1) := by decide +kernel
theorem dX1_number_6 : decode cX1_number 6 = .ok (.iconst 3, 1) := by decide +kernel
theorem dX1_number_7 : decode cX1_number 7 = .ok (.iadd, 1) := by decide +kernel
theorem dX1_number_8 : decode cX1_number 8 = .ok (.if_icmp .ge 34, 3) := by decide +kernel
theorem dX1_number_11 : decode cX1_number 11 = .ok (.aload_n 0, 1) := by decide +kernel
theorem dX1_number_12 : decode cX1_number 12 = .ok (.iload_n 3, 1) := by decide +kernel
theorem dX1_number_13 : decode cX1_number 13 = .ok (.invokevirtual 19, 3) := by decide +kernel
theorem dX1_number_16 : decode cX1_number 16 = .ok (.invokestatic 27, 3) := by decide +kernel
theorem dX1_number_19 : decode cX1_number 19 = .ok (.ifCond .eq 23, 3) := by decide +kernel
theorem dX1_number_22 : decode cX1_number 22 = .ok (.bipush 10, 2) := by decide +kernel
theorem dX1_number_24 : decode cX1_number 24 = .ok (.iload_n 2, 1) := by decide +kernel
theorem dX1_number_25 : decode cX1_number 25 = .ok (.imul, 1) := by decide +kernel
theorem dX1_number_26 : decode cX1_number 26 = .ok (.aload_n 0, 1) := by decide +kernel
theorem dX1_number_27 : decode cX1_number 27 = .ok (.iload_n 3, 1) := by decide +kernel
theorem dX1_number_28 : decode cX1_number 28 = .ok (.invokevirtual 19, 3) := by decide +kernel
theorem dX1_number_31 : decode cX1_number 31 = .ok (.iadd, 1) := by decide +kernel
theorem dX1_number_32 : decode cX1_number 32 = .ok (.bipush 48, 2) := by decide +kernel
theorem dX1_number_34 : decode cX1_number 34 = .ok (.isub, 1) := by decide +kernel
theorem dX1_number_35 : decode cX1_number 35 = .ok (.istore_n 2, 1) := by decide +kernel
theorem dX1_number_36 : decode cX1_number 36 = .ok (.iinc 3 1, 3) := by decide +kernel
theorem dX1_number_39 : decode cX1_number 39 = .ok (.goto (-35), 3) := by decide +kernel
theorem dX1_number_42 : decode cX1_number 42 = .ok (.iload_n 2, 1) := by decide +kernel
theorem dX1_number_43 : decode cX1_number 43 = .ok (.ireturn, 1) := by decide +kernel
set_option maxRecDepth 20000 in
theorem ggX1_beginsOrder_X1_code : GoodIn wsX1_beginsOrder wsX1_code := goodIn_r _ [5, 6, 7, 8, 9] (by decide +kernel) (by decide +kernel)
set_option maxRecDepth 20000 in
theorem gX1_beginsOrder_X1_code : GoodIn wsX1_beginsOrder (wsV RX1 19 RX1 yX1_code wsX1_code) := goodIn_app (goodIn_of _ (by decide +kernel)) ggX1_beginsOrder_X1_code
theorem dX1_beginsOrder_0 : decode cX1_beginsOrder 0 = .ok (.iload_n 1, 1) := by decide +kernel
theorem dX1_beginsOrder_1 : decode cX1_beginsOrder 1 = .ok (.ifCond .eq 15, 3) := by decide +kernel
theorem dX1_beginsOrder_4 : decode cX1_beginsOrder 4 = .ok (.aload_n 0, 1) := by decide +kernel
theorem dX1_beginsOrder_5 : decode cX1_beginsOrder 5 = .ok (.iload_n 1, 1) := by decide +kernel
theorem dX1_beginsOrder_6 : decode cX1_beginsOrder 6 = .ok (.iconst 1, 1) := by decide +kernel
theorem dX1_beginsOrder_7 : decode cX1_beginsOrder 7 = .ok (.isub, 1) := by decide +kernel
theorem dX1_beginsOrder_8 : decode cX1_beginsOrder 8 = .ok (.invokevirtual 19, 3) := by decide +kernel
theorem dX1_beginsOrder_11 : decode cX1_beginsOrder 11 = .ok (.bipush 59, 2) := by decide +kernel
theorem dX1_beginsOrder_13 : decode cX1_beginsOrder 13 = .ok (.if_icmp .ne 7, 3) := by decide +kernel
theorem dX1_beginsOrder_16 : decode cX1_beginsOrder 16 = .ok (.iconst 1, 1) := by decide +kernel
theorem dX1_beginsOrder_17 : decode cX1_beginsOrder 17 = .ok (.goto 4, 3) := by decide +kernel
theorem dX1_beginsOrder_20 : decode cX1_beginsOrder 20 = .ok (.iconst 0, 1) := by decide +kernel
theorem dX1_beginsOrder_21 : decode cX1_beginsOrder 21 = .ok (.ireturn, 1) := by decide +kernel
set_option maxRecDepth 20000 in
theorem ggX1_errorIndex_X1_code : GoodIn wsX1_errorIndex wsX1_code := goodIn_r _ [6, 1, 7, 23, 24] (by decide +kernel) (by decide +kernel)
set_option maxRecDepth 20000 in
theorem gX1_errorIndex_X1_code : GoodIn wsX1_errorIndex (wsV RX1 19 RX1 yX1_code wsX1_code) := goodIn_app (goodIn_of _ (by decide +kernel)) ggX1_errorIndex_X1_code
set_option maxRecDepth 20000 in
theorem ggX1_errorIndex_X1_after : GoodIn wsX1_errorIndex wsX1_after := goodIn_r _ [10, 11, 12, 5, 13, 14, 15, 16, 17, 18, 19, 20, 21, 22] (by decide +kernel) (by decide +kernel)
set_option maxRecDepth 20000 in
theorem gX1_errorIndex_X1_after : GoodIn wsX1_errorIndex (va_wsS RX1 30 yX1_after wsX1_after) := goodIn_app (goodIn_of _ (by decide +kernel)) ggX1_errorIndex_X1_after
theorem dX1_errorIndex_0 : decode cX1_errorIndex 0 = .ok (.iconst 0, 1) := by decide +kernel
theorem dX1_errorIndex_1 : decode cX1_errorIndex 1 = .ok (.istore_n 1, 1) := by decide +kernel
theorem dX1_errorIndex_2 : decode cX1_errorIndex 2 = .ok (.iconst 0, 1) := by decide +kernel
theorem dX1_errorIndex_3 : decode cX1_errorIndex 3 = .ok (.istore_n 2, 1) := by decide +kernel
theorem dX1_errorIndex_4 : decode cX1_errorIndex 4 = .ok (.iload_n 2, 1) := by decide +kernel
theorem dX1_errorIndex_5 : decode cX1_errorIndex 5 = .ok (.aload_n 0, 1) := by decide +kernel
theorem dX1_errorIndex_6 : decode cX1_errorIndex 6 = .ok (.getfield 15, 3) := by decide +kernel
theorem dX1_errorIndex_9 : decode cX1_errorIndex 9 = .ok (.if_icmp .ge 26, 3) := by decide +kernel
theorem dX1_errorIndex_12 : decode cX1_errorIndex 12 = .ok (.iload_n 1, 1) := by decide +kernel
theorem dX1_errorIndex_13 : decode cX1_errorIndex 13 = .ok (.aload_n 0, 1) := by decide +kernel
theorem dX1_errorIndex_14 : decode cX1_errorIndex 14 = .ok (.iload_n 2, 1) := by decide +kernel
theorem dX1_errorIndex_15 : decode cX1_errorIndex 15 = .ok (.invokevirtual 19, 3) := by decide +kernel
theorem dX1_errorIndex_18 : decode cX1_errorIndex 18 = .ok (.invokestatic 30, 3) := by decide +kernel
theorem dX1_errorIndex_21 : decode cX1_errorIndex 21 = .ok (.istore_n 1, 1) := by decide +kernel
theorem dX1_errorIndex_22 : decode cX1_errorIndex 22 = .ok (.iload_n 1, 1) := by decide +kernel
theorem dX1_errorIndex_23 : decode cX1_errorIndex 23 = .ok (.iconst (-1), 1) := by decide +kernel
theorem dX1_errorIndex_24 : decode cX1_errorIndex 24 = .ok (.if_icmp .ne 5, 3) := by decide +kernel
theorem dX1_errorIndex_27 : decode cX1_errorIndex 27 = .ok (.iload_n 2, 1) := by decide +kernel
theorem dX1_errorIndex_28 : decode cX1_errorIndex 28 = .ok (.ireturn, 1) := by decide +kernel
theorem dX1_errorIndex_29 : decode cX1_errorIndex 29 = .ok (.iinc 2 1, 3) := by decide +kernel
theorem dX1_errorIndex_32 : decode cX1_errorIndex 32 = .ok (.goto (-28), 3) := by decide +kernel
theorem dX1_errorIndex_35 : decode cX1_errorIndex 35 = .ok (.aload_n 0, 1) := by decide +kernel
theorem dX1_errorIndex_36 : decode cX1_errorIndex 36 = .ok (.getfield 15, 3) := by decide +kernel
theorem dX1_errorIndex_39 : decode cX1_errorIndex 39 = .ok (.ireturn, 1) := by decide +kernel
set_option maxRecDepth 20000 in
theorem ggX1_isWhole_X1_code : GoodIn wsX1_isWhole wsX1_code := goodIn_r _ [6, 1, 7, 23, 24] (by decide +kernel) (by decide +kernel)
set_option maxRecDepth 20000 in
theorem gX1_isWhole_X1_code : GoodIn wsX1_isWhole (wsV RX1 19 RX1 yX1_code wsX1_code) := goodIn_app (goodIn_of _ (by decide +kernel)) ggX1_isWhole_X1_code
set_option maxRecDepth 20000 in
theorem ggX1_isWhole_X1_after : GoodIn wsX1_isWhole wsX1_after := goodIn_r _ [10, 11, 12, 5, 13, 14, 15, 16, 17, 18, 19, 20, 21, 22] (by decide +kernel) (by decide +kernel)
set_option maxRecDepth 20000 in
theorem gX1_isWhole_X1_after : GoodIn wsX1_isWhole (va_wsS RX1 30 yX1_after wsX1_after) := goodIn_app (goodIn_of _ (by decide +kernel)) ggX1_isWhole_X1_after
theorem dX1_isWhole_0 : decode cX1_isWhole 0 = .ok (.iconst 0, 1) := by decide +kernel
theorem dX1_isWhole_1 : decode cX1_isWhole 1 = .ok (.istore_n 1, 1) := by decide +kernel
theorem dX1_isWhole_2 : decode cX1_isWhole 2 = .ok (.iconst 0, 1) := by decide +kernel
theorem dX1_isWhole_3 : decode cX1_isWhole 3 = .ok (.istore_n 2, 1) := by decide +kernel
theorem dX1_isWhole_4 : decode cX1_isWhole 4 = .ok (.iload_n 2, 1) := by decide +kernel
theorem dX1_isWhole_5 : decode cX1_isWhole 5 = .ok (.aload_n 0, 1) := by decide +kernel
theorem dX1_isWhole_6 : decode cX1_isWhole 6 = .ok (.getfield 15, 3) := by decide +kernel
theorem dX1_isWhole_9 : decode cX1_isWhole 9 = .ok (.if_icmp .ge 19, 3) := by decide +kernel
theorem dX1_isWhole_12 : decode cX1_isWhole 12 = .ok (.iload_n 1, 1) := by decide +kernel
theorem dX1_isWhole_13 : decode cX1_isWhole 13 = .ok (.aload_n 0, 1) := by decide +kernel
theorem dX1_isWhole_14 : decode cX1_isWhole 14 = .ok (.iload_n 2, 1) := by decide +kernel
theorem dX1_isWhole_15 : decode cX1_isWhole 15 = .ok (.invokevirtual 19, 3) := by decide +kernel
theorem dX1_isWhole_18 : decode cX1_isWhole 18 = .ok (.invokestatic 30, 3) := by decide +kernel
theorem dX1_isWhole_21 : decode cX1_isWhole 21 = .ok (.istore_n 1, 1) := by decide +kernel
theorem dX1_isWhole_22 : decode cX1_isWhole 22 = .ok (.iinc 2 1, 3) := by decide +kernel
theorem dX1_isWhole_25 : decode cX1_isWhole 25 = .ok (.goto (-21), 3) := by decide +kernel
theorem dX1_isWhole_28 : decode cX1_isWhole 28 = .ok (.iload_n 1, 1) := by decide +kernel
theorem dX1_isWhole_29 : decode cX1_isWhole 29 = .ok (.bipush 7, 2) := by decide +kernel
theorem dX1_isWhole_31 : decode cX1_isWhole 31 = .ok (.if_icmp .eq 15, 3) := by decide +kernel
theorem dX1_isWhole_34 : decode cX1_isWhole 34 = .ok (.iload_n 1, 1) := by decide +kernel
theorem dX1_isWhole_35 : decode cX1_isWhole 35 = .ok (.bipush 8, 2) := by decide +kernel
theorem dX1_isWhole_37 : decode cX1_isWhole 37 = .ok (.if_icmp .eq 9, 3) := by decide +kernel
theorem dX1_isWhole_40 : decode cX1_isWhole 40 = .ok (.iload_n 1, 1) := by decide +kernel
theorem dX1_isWhole_41 : decode cX1_isWhole 41 = .ok (.bipush 9, 2) := by decide +kernel
theorem dX1_isWhole_43 : decode cX1_isWhole 43 = .ok (.if_icmp .ne 7, 3) := by decide +kernel
theorem dX1_isWhole_46 : decode cX1_isWhole 46 = .ok (.iconst 1, 1) := by decide +kernel
theorem dX1_isWhole_47 : decode cX1_isWhole 47 = .ok (.goto 4, 3) := by decide +kernel
theorem dX1_isWhole_50 : decode cX1_isWhole 50 = .ok (.iconst 0, 1) := by decide +kernel
theorem dX1_isWhole_51 : decode cX1_isWhole 51 = .ok (.ireturn, 1) := by decide +kernel
set_option maxRecDepth 20000 in
theorem ggX1_mixCodes_X1_code : GoodIn wsX1_mixCodes wsX1_code := goodIn_r _ [6, 1, 7, 12, 13] (by decide +kernel) (by decide +kernel)
set_option maxRecDepth 20000 in
theorem gX1_mixCodes_X1_code : GoodIn wsX1_mixCodes (wsV RX1 19 RX1 yX1_code wsX1_code) := goodIn_app (goodIn_of _ (by decide +kernel)) ggX1_mixCodes_X1_code
set_option maxRecDepth 20000 in
theorem ggX1_mixCodes_X4_mix : GoodIn wsX1_mixCodes wsX4_mix := goodIn_r _ [10, 11] (by decide +kernel) (by decide +kernel)
set_option maxRecDepth 20000 in
theorem gX1_mixCodes_X4_mix_n34 : GoodIn wsX1_mixCodes (wsX4_mix) := ggX1_mixCodes_X4_mix
theorem dX1_mixCodes_0 : decode cX1_mixCodes 0 = .ok (.lload_n 1, 1) := by decide +kernel
theorem dX1_mixCodes_1 : decode cX1_mixCodes 1 = .ok (.lstore_n 3, 1) := by decide +kernel
theorem dX1_mixCodes_2 : decode cX1_mixCodes 2 = .ok (.iconst 0, 1) := by decide +kernel
theorem dX1_mixCodes_3 : decode cX1_mixCodes 3 = .ok (.istore 5, 2) := by decide +kernel
theorem dX1_mixCodes_5 : decode cX1_mixCodes 5 = .ok (.iload 5, 2) := by decide +kernel
theorem dX1_mixCodes_7 : decode cX1_mixCodes 7 = .ok (.aload_n 0, 1) := by decide +kernel
theorem dX1_mixCodes_8 : decode cX1_mixCodes 8 = .ok (.getfield 15, 3) := by decide +kernel
theorem dX1_mixCodes_11 : decode cX1_mixCodes 11 = .ok (.if_icmp .ge 21, 3) := by decide +kernel
theorem dX1_mixCodes_14 : decode cX1_mixCodes 14 = .ok (.lload_n 3, 1) := by decide +kernel
theorem dX1_mixCodes_15 : decode cX1_mixCodes 15 = .ok (.aload_n 0, 1) := by decide +kernel
theorem dX1_mixCodes_16 : decode cX1_mixCodes 16 = .ok (.iload 5, 2) := by decide +kernel
theorem dX1_mixCodes_18 : decode cX1_mixCodes 18 = .ok (.invokevirtual 19, 3) := by decide +kernel
theorem dX1_mixCodes_21 : decode cX1_mixCodes 21 = .ok (.i2l, 1) := by decide +kernel
theorem dX1_mixCodes_22 : decode cX1_mixCodes 22 = .ok (.invokestatic 34, 3) := by decide +kernel
theorem dX1_mixCodes_25 : decode cX1_mixCodes 25 = .ok (.lstore_n 3, 1) := by decide +kernel
theorem dX1_mixCodes_26 : decode cX1_mixCodes 26 = .ok (.iinc 5 1, 3) := by decide +kernel
theorem dX1_mixCodes_29 : decode cX1_mixCodes 29 = .ok (.goto (-24), 3) := by decide +kernel
theorem dX1_mixCodes_32 : decode cX1_mixCodes 32 = .ok (.lload_n 3, 1) := by decide +kernel
theorem dX1_mixCodes_33 : decode cX1_mixCodes 33 = .ok (.lreturn, 1) := by decide +kernel
set_option maxRecDepth 20000 in
theorem ggX1_after_X1_afterLetter : GoodIn wsX1_after wsX1_afterLetter := goodIn_r _ [4] (by decide +kernel) (by decide +kernel)
set_option maxRecDepth 20000 in
theorem gX1_after_X1_afterLetter : GoodIn wsX1_after (va_wsS RX1 38 yX1_afterLetter wsX1_afterLetter) := goodIn_app (goodIn_of _ (by decide +kernel)) ggX1_after_X1_afterLetter
set_option maxRecDepth 20000 in
theorem ggX1_after_X1_isKeeperDigit : GoodIn wsX1_after wsX1_isKeeperDigit := goodIn_r _ [7] (by decide +kernel) (by decide +kernel)
set_option maxRecDepth 20000 in
theorem gX1_after_X1_isKeeperDigit : GoodIn wsX1_after (va_wsS RX1 23 yX1_isKeeperDigit wsX1_isKeeperDigit) := goodIn_app (goodIn_of _ (by decide +kernel)) ggX1_after_X1_isKeeperDigit
set_option maxRecDepth 20000 in
theorem ggX1_after_X1_isDigit : GoodIn wsX1_after wsX1_isDigit := goodIn_r _ [10] (by decide +kernel) (by decide +kernel)
set_option maxRecDepth 20000 in
theorem gX1_after_X1_isDigit : GoodIn wsX1_after (va_wsS RX1 27 yX1_isDigit wsX1_isDigit) := goodIn_app (goodIn_of _ (by decide +kernel)) ggX1_after_X1_isDigit
set_option maxRecDepth 20000 in
theorem ggX1_after_X1_afterOrder : GoodIn wsX1_after wsX1_afterOrder := goodIn_r _ [13] (by decide +kernel) (by decide +kernel)
set_option maxRecDepth 20000 in
theorem gX1_after_X1_afterOrder : GoodIn wsX1_after (va_wsS RX1 41 yX1_afterOrder wsX1_afterOrder) := goodIn_app (goodIn_of _ (by decide +kernel)) ggX1_after_X1_afterOrder
theorem dX1_after_0 : decode cX1_after 0 = .ok (.iload_n 0, 1) := by decide +kernel
theorem dX1_after_1 : decode cX1_after 1 = .ok (.tableswitch 183 0 9 #[55, 60, 74, 87, 99, 112, 124, 144, 161, 178], 55) := by decide +kernel
theorem dX1_after_56 : decode cX1_after 56 = .ok (.iload_n 1, 1) := by decide +kernel
theorem dX1_after_57 : decode cX1_after 57 = .ok (.invokestatic 38, 3) := by decide +kernel
theorem dX1_after_60 : decode cX1_after 60 = .ok (.ireturn, 1) := by decide +kernel
theorem dX1_after_61 : decode cX1_after 61 = .ok (.iload_n 1, 1) := by decide +kernel
theorem dX1_after_62 : decode cX1_after 62 = .ok (.invokestatic 23, 3) := by decide +kernel
theorem dX1_after_65 : decode cX1_after 65 = .ok (.ifCond .eq 8, 3) := by decide +kernel
theorem dX1_after_68 : decode cX1_after 68 = .ok (.bipush 9, 2) := by decide +kernel
theorem dX1_after_70 : decode cX1_after 70 = .ok (.goto 4, 3) := by decide +kernel
theorem dX1_after_73 : decode cX1_after 73 = .ok (.iconst (-1), 1) := by decide +kernel
theorem dX1_after_74 : decode cX1_after 74 = .ok (.ireturn, 1) := by decide +kernel
theorem dX1_after_75 : decode cX1_after 75 = .ok (.iload_n 1, 1) := by decide +kernel
theorem dX1_after_76 : decode cX1_after 76 = .ok (.invokestatic 23, 3) := by decide +kernel
theorem dX1_after_79 : decode cX1_after 79 = .ok (.ifCond .eq 7, 3) := by decide +kernel
theorem dX1_after_82 : decode cX1_after 82 = .ok (.iconst 3, 1) := by decide +kernel
theorem dX1_after_83 : decode cX1_after 83 = .ok (.goto 4, 3) := by decide +kernel
theorem dX1_after_86 : decode cX1_after 86 = .ok (.iconst (-1), 1) := by decide +kernel
theorem dX1_after_87 : decode cX1_after 87 = .ok (.ireturn, 1) := by decide +kernel
theorem dX1_after_88 : decode cX1_after 88 = .ok (.iload_n 1, 1) := by decide +kernel
theorem dX1_after_89 : decode cX1_after 89 = .ok (.bipush 45, 2) := by decide +kernel
theorem dX1_after_91 : decode cX1_after 91 = .ok (.if_icmp .ne 7, 3) := by decide +kernel
theorem dX1_after_94 : decode cX1_after 94 = .ok (.iconst 1, 1) := by decide +kernel
theorem dX1_after_95 : decode cX1_after 95 = .ok (.goto 4, 3) := by decide +kernel
theorem dX1_after_98 : decode cX1_after 98 = .ok (.iconst (-1), 1) := by decide +kernel
theorem dX1_after_99 : decode cX1_after 99 = .ok (.ireturn, 1) := by decide +kernel
theorem dX1_after_100 : decode cX1_after 100 = .ok (.iload_n 1, 1) := by decide +kernel
theorem dX1_after_101 : decode cX1_after 101 = .ok (.invokestatic 23, 3) := by decide +kernel
theorem dX1_after_104 : decode cX1_after 104 = .ok (.ifCond .eq 7, 3) := by decide +kernel
theorem dX1_after_107 : decode cX1_after 107 = .ok (.iconst 5, 1) := by decide +kernel
theorem dX1_after_108 : decode cX1_after 108 = .ok (.goto 4, 3) := by decide +kernel
theorem dX1_after_111 : decode cX1_after 111 = .ok (.iconst (-1), 1) := by decide +kernel
theorem dX1_after_112 : decode cX1_after 112 = .ok (.ireturn, 1) := by decide +kernel
theorem dX1_after_113 : decode cX1_after 113 = .ok (.iload_n 1, 1) := by decide +kernel
theorem dX1_after_114 : decode cX1_after 114 = .ok (.bipush 62, 2) := by decide +kernel
theorem dX1_after_116 : decode cX1_after 116 = .ok (.if_icmp .ne 7, 3) := by decide +kernel
theorem dX1_after_119 : decode cX1_after 119 = .ok (.iconst 1, 1) := by decide +kernel
theorem dX1_after_120 : decode cX1_after 120 = .ok (.goto 4, 3) := by decide +kernel
theorem dX1_after_123 : decode cX1_after 123 = .ok (.iconst (-1), 1) := by decide +kernel
theorem dX1_after_124 : decode cX1_after 124 = .ok (.ireturn, 1) := by decide +kernel
theorem dX1_after_125 : decode cX1_after 125 = .ok (.iload_n 1, 1) := by decide +kernel
theorem dX1_after_126 : decode cX1_after 126 = .ok (.invokestatic 27, 3) := by decide +kernel
theorem dX1_after_129 : decode cX1_after 129 = .ok (.ifCond .eq 14, 3) := by decide +kernel
theorem dX1_after_132 : decode cX1_after 132 = .ok (.iload_n 1, 1) := by decide +kernel
theorem dX1_after_133 : decode cX1_after 133 = .ok (.bipush 48, 2) := by decide +kernel
theorem dX1_after_135 : decode cX1_after 135 = .ok (.if_icmp .eq 8, 3) := by decide +kernel
theorem dX1_after_138 : decode cX1_after 138 = .ok (.bipush 7, 2) := by decide +kernel
theorem dX1_after_140 : decode cX1_after 140 = .ok (.goto 4, 3) := by decide +kernel
theorem dX1_after_143 : decode cX1_after 143 = .ok (.iconst (-1), 1) := by decide +kernel
theorem dX1_after_144 : decode cX1_after 144 = .ok (.ireturn, 1) := by decide +kernel
theorem dX1_after_145 : decode cX1_after 145 = .ok (.iload_n 1, 1) := by decide +kernel
theorem dX1_after_146 : decode cX1_after 146 = .ok (.invokestatic 27, 3) := by decide +kernel
theorem dX1_after_149 : decode cX1_after 149 = .ok (.ifCond .eq 8, 3) := by decide +kernel
theorem dX1_after_152 : decode cX1_after 152 = .ok (.bipush 8, 2) := by decide +kernel
theorem dX1_after_154 : decode cX1_after 154 = .ok (.goto 7, 3) := by decide +kernel
theorem dX1_after_157 : decode cX1_after 157 = .ok (.iload_n 1, 1) := by decide +kernel
theorem dX1_after_158 : decode cX1_after 158 = .ok (.invokestatic 41, 3) := by decide +kernel
theorem dX1_after_161 : decode cX1_after 161 = .ok (.ireturn, 1) := by decide +kernel
theorem dX1_after_162 : decode cX1_after 162 = .ok (.iload_n 1, 1) := by decide +kernel
theorem dX1_after_163 : decode cX1_after 163 = .ok (.invokestatic 27, 3) := by decide +kernel
theorem dX1_after_166 : decode cX1_after 166 = .ok (.ifCond .eq 8, 3) := by decide +kernel
theorem dX1_after_169 : decode cX1_after 169 = .ok (.bipush 9, 2) := by decide +kernel
theorem dX1_after_171 : decode cX1_after 171 = .ok (.goto 7, 3) := by decide +kernel
theorem dX1_after_174 : decode cX1_after 174 = .ok (.iload_n 1, 1) := by decide +kernel
theorem dX1_after_175 : decode cX1_after 175 = .ok (.invokestatic 41, 3) := by decide +kernel
theorem dX1_after_178 : decode cX1_after 178 = .ok (.ireturn, 1) := by decide +kernel
theorem dX1_after_179 : decode cX1_after 179 = .ok (.iload_n 1, 1) := by decide +kernel
theorem dX1_after_180 : decode cX1_after 180 = .ok (.invokestatic 41, 3) := by decide +kernel
theorem dX1_after_183 : decode cX1_after 183 = .ok (.ireturn, 1) := by decide +kernel
theorem dX1_after_184 : decode cX1_after 184 = .ok (.iconst (-1), 1) := by decide +kernel
theorem dX1_after_185 : decode cX1_after 185 = .ok (.ireturn, 1) := by decide +kernel
theorem dX1_afterLetter_0 : decode cX1_afterLetter 0 = .ok (.iload_n 0, 1) := by decide +kernel
theorem dX1_afterLetter_1 : decode cX1_afterLetter 1 = .ok (.lookupswitch 63 #[(100, 51), (104, 55), (113, 53), (114, 60), (116, 57)], 51) := by decide +kernel
theorem dX1_afterLetter_52 : decode cX1_afterLetter 52 = .ok (.iconst 1, 1) := by decide +kernel
theorem dX1_afterLetter_53 : decode cX1_afterLetter 53 = .ok (.ireturn, 1) := by decide +kernel
theorem dX1_afterLetter_54 : decode cX1_afterLetter 54 = .ok (.iconst 2, 1) := by decide +kernel
theorem dX1_afterLetter_55 : decode cX1_afterLetter 55 = .ok (.ireturn, 1) := by decide +kernel
theorem dX1_afterLetter_56 : decode cX1_afterLetter 56 = .ok (.iconst 4, 1) := by decide +kernel
theorem dX1_afterLetter_57 : decode cX1_afterLetter 57 = .ok (.ireturn, 1) := by decide +kernel
theorem dX1_afterLetter_58 : decode cX1_afterLetter 58 = .ok (.bipush 6, 2) := by decide +kernel
theorem dX1_afterLetter_60 : decode cX1_afterLetter 60 = .ok (.ireturn, 1) := by decide +kernel
theorem dX1_afterLetter_61 : decode cX1_afterLetter 61 = .ok (.bipush 9, 2) := by decide +kernel
theorem dX1_afterLetter_63 : decode cX1_afterLetter 63 = .ok (.ireturn, 1) := by decide +kernel
theorem dX1_afterLetter_64 : decode cX1_afterLetter 64 = .ok (.iconst (-1), 1) := by decide +kernel
theorem dX1_afterLetter_65 : decode cX1_afterLetter 65 = .ok (.ireturn, 1) := by decide +kernel
theorem dX1_afterOrder_0 : decode cX1_afterOrder 0 = .ok (.iload_n 0, 1) := by decide +kernel
theorem dX1_afterOrder_1 : decode cX1_afterOrder 1 = .ok (.bipush 59, 2) := by decide +kernel
theorem dX1_afterOrder_3 : decode cX1_afterOrder 3 = .ok (.if_icmp .ne 7, 3) := by decide +kernel
theorem dX1_afterOrder_6 : decode cX1_afterOrder 6 = .ok (.iconst 0, 1) := by decide +kernel
theorem dX1_afterOrder_7 : decode cX1_afterOrder 7 = .ok (.goto 4, 3) := by decide +kernel
theorem dX1_afterOrder_10 : decode cX1_afterOrder 10 = .ok (.iconst (-1), 1) := by decide +kernel
theorem dX1_afterOrder_11 : decode cX1_afterOrder 11 = .ok (.ireturn, 1) := by decide +kernel
theorem dX1_isKeeperDigit_0 : decode cX1_isKeeperDigit 0 = .ok (.iload_n 0, 1) := by decide +kernel
theorem dX1_isKeeperDigit_1 : decode cX1_isKeeperDigit 1 = .ok (.bipush 48, 2) := by decide +kernel
theorem dX1_isKeeperDigit_3 : decode cX1_isKeeperDigit 3 = .ok (.if_icmp .lt 13, 3) := by decide +kernel
theorem dX1_isKeeperDigit_6 : decode cX1_isKeeperDigit 6 = .ok (.iload_n 0, 1) := by decide +kernel
theorem dX1_isKeeperDigit_7 : decode cX1_isKeeperDigit 7 = .ok (.bipush 55, 2) := by decide +kernel
theorem dX1_isKeeperDigit_9 : decode cX1_isKeeperDigit 9 = .ok (.if_icmp .gt 7, 3) := by decide +kernel
theorem dX1_isKeeperDigit_12 : decode cX1_isKeeperDigit 12 = .ok (.iconst 1, 1) := by decide +kernel
theorem dX1_isKeeperDigit_13 : decode cX1_isKeeperDigit 13 = .ok (.goto 4, 3) := by decide +kernel
theorem dX1_isKeeperDigit_16 : decode cX1_isKeeperDigit 16 = .ok (.iconst 0, 1) := by decide +kernel
theorem dX1_isKeeperDigit_17 : decode cX1_isKeeperDigit 17 = .ok (.ireturn, 1) := by decide +kernel
theorem dX1_isDigit_0 : decode cX1_isDigit 0 = .ok (.iload_n 0, 1) := by decide +kernel
theorem dX1_isDigit_1 : decode cX1_isDigit 1 = .ok (.bipush 48, 2) := by decide +kernel
theorem dX1_isDigit_3 : decode cX1_isDigit 3 = .ok (.if_icmp .lt 13, 3) := by decide +kernel
theorem dX1_isDigit_6 : decode cX1_isDigit 6 = .ok (.iload_n 0, 1) := by decide +kernel
theorem dX1_isDigit_7 : decode cX1_isDigit 7 = .ok (.bipush 57, 2) := by decide +kernel
theorem dX1_isDigit_9 : decode cX1_isDigit 9 = .ok (.if_icmp .gt 7, 3) := by decide +kernel
theorem dX1_isDigit_12 : decode cX1_isDigit 12 = .ok (.iconst 1, 1) := by decide +kernel
theorem dX1_isDigit_13 : decode cX1_isDigit 13 = .ok (.goto 4, 3) := by decide +kernel
theorem dX1_isDigit_16 : decode cX1_isDigit 16 = .ok (.iconst 0, 1) := by decide +kernel
theorem dX1_isDigit_17 : decode cX1_isDigit 17 = .ok (.ireturn, 1) := by decide +kernel
