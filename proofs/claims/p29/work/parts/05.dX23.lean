theorem dX2_init_0 : decode cX2_init 0 = .ok (.aload_n 0, 1) := by decide +kernel
theorem dX2_init_1 : decode cX2_init 1 = .ok (.invokespecial 3, 3) := by decide +kernel
theorem dX2_init_4 : decode cX2_init 4 = .ok (.aload_n 0, 1) := by decide +kernel
theorem dX2_init_5 : decode cX2_init 5 = .ok (.bipush 8, 2) := by decide +kernel
theorem dX2_init_7 : decode cX2_init 7 = .ok (.newarray .int, 2) := by decide +kernel
theorem dX2_init_9 : decode cX2_init 9 = .ok (.putfield 9, 3) := by decide +kernel
theorem dX2_init_12 : decode cX2_init 12 = .ok (.aload_n 0, 1) := by decide +kernel
theorem dX2_init_13 : decode cX2_init 13 = .ok (.bipush 8, 2) := by decide +kernel
theorem dX2_init_15 : decode cX2_init 15 = .ok (.newarray .int, 2) := by decide +kernel
theorem dX2_init_17 : decode cX2_init 17 = .ok (.putfield 15, 3) := by decide +kernel
theorem dX2_init_20 : decode cX2_init 20 = .ok (.aload_n 0, 1) := by decide +kernel
theorem dX2_init_21 : decode cX2_init 21 = .ok (.bipush 8, 2) := by decide +kernel
theorem dX2_init_23 : decode cX2_init 23 = .ok (.newarray .int, 2) := by decide +kernel
theorem dX2_init_25 : decode cX2_init 25 = .ok (.putfield 18, 3) := by decide +kernel
theorem dX2_init_28 : decode cX2_init 28 = .ok (.aload_n 0, 1) := by decide +kernel
theorem dX2_init_29 : decode cX2_init 29 = .ok (.bipush 8, 2) := by decide +kernel
theorem dX2_init_31 : decode cX2_init 31 = .ok (.newarray .int, 2) := by decide +kernel
theorem dX2_init_33 : decode cX2_init 33 = .ok (.putfield 21, 3) := by decide +kernel
theorem dX2_init_36 : decode cX2_init 36 = .ok (.aload_n 0, 1) := by decide +kernel
theorem dX2_init_37 : decode cX2_init 37 = .ok (.bipush 8, 2) := by decide +kernel
theorem dX2_init_39 : decode cX2_init 39 = .ok (.newarray .int, 2) := by decide +kernel
theorem dX2_init_41 : decode cX2_init 41 = .ok (.putfield 24, 3) := by decide +kernel
theorem dX2_init_44 : decode cX2_init 44 = .ok (.iconst 0, 1) := by decide +kernel
theorem dX2_init_45 : decode cX2_init 45 = .ok (.istore_n 1, 1) := by decide +kernel
theorem dX2_init_46 : decode cX2_init 46 = .ok (.iload_n 1, 1) := by decide +kernel
theorem dX2_init_47 : decode cX2_init 47 = .ok (.bipush 8, 2) := by decide +kernel
theorem dX2_init_49 : decode cX2_init 49 = .ok (.if_icmp .ge 23, 3) := by decide +kernel
theorem dX2_init_52 : decode cX2_init 52 = .ok (.aload_n 0, 1) := by decide +kernel
theorem dX2_init_53 : decode cX2_init 53 = .ok (.getfield 9, 3) := by decide +kernel
theorem dX2_init_56 : decode cX2_init 56 = .ok (.iload_n 1, 1) := by decide +kernel
theorem dX2_init_57 : decode cX2_init 57 = .ok (.iconst (-1), 1) := by decide +kernel
theorem dX2_init_58 : decode cX2_init 58 = .ok (.iastore, 1) := by decide +kernel
theorem dX2_init_59 : decode cX2_init 59 = .ok (.aload_n 0, 1) := by decide +kernel
theorem dX2_init_60 : decode cX2_init 60 = .ok (.getfield 21, 3) := by decide +kernel
theorem dX2_init_63 : decode cX2_init 63 = .ok (.iload_n 1, 1) := by decide +kernel
theorem dX2_init_64 : decode cX2_init 64 = .ok (.iconst (-1), 1) := by decide +kernel
theorem dX2_init_65 : decode cX2_init 65 = .ok (.iastore, 1) := by decide +kernel
theorem dX2_init_66 : decode cX2_init 66 = .ok (.iinc 1 1, 3) := by decide +kernel
theorem dX2_init_69 : decode cX2_init 69 = .ok (.goto (-23), 3) := by decide +kernel
theorem dX2_init_72 : decode cX2_init 72 = .ok (.aload_n 0, 1) := by decide +kernel
theorem dX2_init_73 : decode cX2_init 73 = .ok (.iconst 0, 1) := by decide +kernel
theorem dX2_init_74 : decode cX2_init 74 = .ok (.putfield 27, 3) := by decide +kernel
theorem dX2_init_77 : decode cX2_init 77 = .ok (.aload_n 0, 1) := by decide +kernel
theorem dX2_init_78 : decode cX2_init 78 = .ok (.iconst 1, 1) := by decide +kernel
theorem dX2_init_79 : decode cX2_init 79 = .ok (.putfield 31, 3) := by decide +kernel
theorem dX2_init_82 : decode cX2_init 82 = .ok (.return_, 1) := by decide +kernel
theorem dX2_copyFrom_0 : decode cX2_copyFrom 0 = .ok (.aload_n 0, 1) := by decide +kernel
theorem dX2_copyFrom_1 : decode cX2_copyFrom 1 = .ok (.aload_n 1, 1) := by decide +kernel
theorem dX2_copyFrom_2 : decode cX2_copyFrom 2 = .ok (.getfield 34, 3) := by decide +kernel
theorem dX2_copyFrom_5 : decode cX2_copyFrom 5 = .ok (.putfield 34, 3) := by decide +kernel
theorem dX2_copyFrom_8 : decode cX2_copyFrom 8 = .ok (.aload_n 0, 1) := by decide +kernel
theorem dX2_copyFrom_9 : decode cX2_copyFrom 9 = .ok (.aload_n 1, 1) := by decide +kernel
theorem dX2_copyFrom_10 : decode cX2_copyFrom 10 = .ok (.getfield 37, 3) := by decide +kernel
theorem dX2_copyFrom_13 : decode cX2_copyFrom 13 = .ok (.putfield 37, 3) := by decide +kernel
theorem dX2_copyFrom_16 : decode cX2_copyFrom 16 = .ok (.iconst 0, 1) := by decide +kernel
theorem dX2_copyFrom_17 : decode cX2_copyFrom 17 = .ok (.istore_n 2, 1) := by decide +kernel
theorem dX2_copyFrom_18 : decode cX2_copyFrom 18 = .ok (.iload_n 2, 1) := by decide +kernel
theorem dX2_copyFrom_19 : decode cX2_copyFrom 19 = .ok (.bipush 8, 2) := by decide +kernel
theorem dX2_copyFrom_21 : decode cX2_copyFrom 21 = .ok (.if_icmp .ge 69, 3) := by decide +kernel
theorem dX2_copyFrom_24 : decode cX2_copyFrom 24 = .ok (.aload_n 0, 1) := by decide +kernel
theorem dX2_copyFrom_25 : decode cX2_copyFrom 25 = .ok (.getfield 9, 3) := by decide +kernel
theorem dX2_copyFrom_28 : decode cX2_copyFrom 28 = .ok (.iload_n 2, 1) := by decide +kernel
theorem dX2_copyFrom_29 : decode cX2_copyFrom 29 = .ok (.aload_n 1, 1) := by decide +kernel
theorem dX2_copyFrom_30 : decode cX2_copyFrom 30 = .ok (.getfield 9, 3) := by decide +kernel
theorem dX2_copyFrom_33 : decode cX2_copyFrom 33 = .ok (.iload_n 2, 1) := by decide +kernel
theorem dX2_copyFrom_34 : decode cX2_copyFrom 34 = .ok (.iaload, 1) := by decide +kernel
theorem dX2_copyFrom_35 : decode cX2_copyFrom 35 = .ok (.iastore, 1) := by decide +kernel
theorem dX2_copyFrom_36 : decode cX2_copyFrom 36 = .ok (.aload_n 0, 1) := by decide +kernel
theorem dX2_copyFrom_37 : decode cX2_copyFrom 37 = .ok (.getfield 15, 3) := by decide +kernel
theorem dX2_copyFrom_40 : decode cX2_copyFrom 40 = .ok (.iload_n 2, 1) := by decide +kernel
theorem dX2_copyFrom_41 : decode cX2_copyFrom 41 = .ok (.aload_n 1, 1) := by decide +kernel
theorem dX2_copyFrom_42 : decode cX2_copyFrom 42 = .ok (.getfield 15, 3) := by decide +kernel
theorem dX2_copyFrom_45 : decode cX2_copyFrom 45 = .ok (.iload_n 2, 1) := by decide +kernel
theorem dX2_copyFrom_46 : decode cX2_copyFrom 46 = .ok (.iaload, 1) := by decide +kernel
theorem dX2_copyFrom_47 : decode cX2_copyFrom 47 = .ok (.iastore, 1) := by decide +kernel
theorem dX2_copyFrom_48 : decode cX2_copyFrom 48 = .ok (.aload_n 0, 1) := by decide +kernel
theorem dX2_copyFrom_49 : decode cX2_copyFrom 49 = .ok (.getfield 18, 3) := by decide +kernel
theorem dX2_copyFrom_52 : decode cX2_copyFrom 52 = .ok (.iload_n 2, 1) := by decide +kernel
theorem dX2_copyFrom_53 : decode cX2_copyFrom 53 = .ok (.aload_n 1, 1) := by decide +kernel
theorem dX2_copyFrom_54 : decode cX2_copyFrom 54 = .ok (.getfield 18, 3) := by decide +kernel
theorem dX2_copyFrom_57 : decode cX2_copyFrom 57 = .ok (.iload_n 2, 1) := by decide +kernel
theorem dX2_copyFrom_58 : decode cX2_copyFrom 58 = .ok (.iaload, 1) := by decide +kernel
theorem dX2_copyFrom_59 : decode cX2_copyFrom 59 = .ok (.iastore, 1) := by decide +kernel
theorem dX2_copyFrom_60 : decode cX2_copyFrom 60 = .ok (.aload_n 0, 1) := by decide +kernel
theorem dX2_copyFrom_61 : decode cX2_copyFrom 61 = .ok (.getfield 21, 3) := by decide +kernel
theorem dX2_copyFrom_64 : decode cX2_copyFrom 64 = .ok (.iload_n 2, 1) := by decide +kernel
theorem dX2_copyFrom_65 : decode cX2_copyFrom 65 = .ok (.aload_n 1, 1) := by decide +kernel
theorem dX2_copyFrom_66 : decode cX2_copyFrom 66 = .ok (.getfield 21, 3) := by decide +kernel
theorem dX2_copyFrom_69 : decode cX2_copyFrom 69 = .ok (.iload_n 2, 1) := by decide +kernel
theorem dX2_copyFrom_70 : decode cX2_copyFrom 70 = .ok (.iaload, 1) := by decide +kernel
theorem dX2_copyFrom_71 : decode cX2_copyFrom 71 = .ok (.iastore, 1) := by decide +kernel
theorem dX2_copyFrom_72 : decode cX2_copyFrom 72 = .ok (.aload_n 0, 1) := by decide +kernel
theorem dX2_copyFrom_73 : decode cX2_copyFrom 73 = .ok (.getfield 24, 3) := by decide +kernel
theorem dX2_copyFrom_76 : decode cX2_copyFrom 76 = .ok (.iload_n 2, 1) := by decide +kernel
theorem dX2_copyFrom_77 : decode cX2_copyFrom 77 = .ok (.aload_n 1, 1) := by decide +kernel
theorem dX2_copyFrom_78 : decode cX2_copyFrom 78 = .ok (.getfield 24, 3) := by decide +kernel
theorem dX2_copyFrom_81 : decode cX2_copyFrom 81 = .ok (.iload_n 2, 1) := by decide +kernel
theorem dX2_copyFrom_82 : decode cX2_copyFrom 82 = .ok (.iaload, 1) := by decide +kernel
theorem dX2_copyFrom_83 : decode cX2_copyFrom 83 = .ok (.iastore, 1) := by decide +kernel
theorem dX2_copyFrom_84 : decode cX2_copyFrom 84 = .ok (.iinc 2 1, 3) := by decide +kernel
theorem dX2_copyFrom_87 : decode cX2_copyFrom 87 = .ok (.goto (-69), 3) := by decide +kernel
theorem dX2_copyFrom_90 : decode cX2_copyFrom 90 = .ok (.aload_n 0, 1) := by decide +kernel
theorem dX2_copyFrom_91 : decode cX2_copyFrom 91 = .ok (.aload_n 1, 1) := by decide +kernel
theorem dX2_copyFrom_92 : decode cX2_copyFrom 92 = .ok (.getfield 40, 3) := by decide +kernel
theorem dX2_copyFrom_95 : decode cX2_copyFrom 95 = .ok (.putfield 40, 3) := by decide +kernel
theorem dX2_copyFrom_98 : decode cX2_copyFrom 98 = .ok (.aload_n 0, 1) := by decide +kernel
theorem dX2_copyFrom_99 : decode cX2_copyFrom 99 = .ok (.aload_n 1, 1) := by decide +kernel
theorem dX2_copyFrom_100 : decode cX2_copyFrom 100 = .ok (.getfield 43, 3) := by decide +kernel
theorem dX2_copyFrom_103 : decode cX2_copyFrom 103 = .ok (.putfield 43, 3) := by decide +kernel
theorem dX2_copyFrom_106 : decode cX2_copyFrom 106 = .ok (.aload_n 0, 1) := by decide +kernel
theorem dX2_copyFrom_107 : decode cX2_copyFrom 107 = .ok (.aload_n 1, 1) := by decide +kernel
theorem dX2_copyFrom_108 : decode cX2_copyFrom 108 = .ok (.getfield 27, 3) := by decide +kernel
theorem dX2_copyFrom_111 : decode cX2_copyFrom 111 = .ok (.putfield 27, 3) := by decide +kernel
theorem dX2_copyFrom_114 : decode cX2_copyFrom 114 = .ok (.aload_n 0, 1) := by decide +kernel
theorem dX2_copyFrom_115 : decode cX2_copyFrom 115 = .ok (.aload_n 1, 1) := by decide +kernel
theorem dX2_copyFrom_116 : decode cX2_copyFrom 116 = .ok (.getfield 46, 3) := by decide +kernel
theorem dX2_copyFrom_119 : decode cX2_copyFrom 119 = .ok (.putfield 46, 3) := by decide +kernel
theorem dX2_copyFrom_122 : decode cX2_copyFrom 122 = .ok (.aload_n 0, 1) := by decide +kernel
theorem dX2_copyFrom_123 : decode cX2_copyFrom 123 = .ok (.aload_n 1, 1) := by decide +kernel
theorem dX2_copyFrom_124 : decode cX2_copyFrom 124 = .ok (.getfield 49, 3) := by decide +kernel
theorem dX2_copyFrom_127 : decode cX2_copyFrom 127 = .ok (.putfield 49, 3) := by decide +kernel
theorem dX2_copyFrom_130 : decode cX2_copyFrom 130 = .ok (.aload_n 0, 1) := by decide +kernel
theorem dX2_copyFrom_131 : decode cX2_copyFrom 131 = .ok (.aload_n 1, 1) := by decide +kernel
theorem dX2_copyFrom_132 : decode cX2_copyFrom 132 = .ok (.getfield 52, 3) := by decide +kernel
theorem dX2_copyFrom_135 : decode cX2_copyFrom 135 = .ok (.putfield 52, 3) := by decide +kernel
theorem dX2_copyFrom_138 : decode cX2_copyFrom 138 = .ok (.aload_n 0, 1) := by decide +kernel
theorem dX2_copyFrom_139 : decode cX2_copyFrom 139 = .ok (.aload_n 1, 1) := by decide +kernel
theorem dX2_copyFrom_140 : decode cX2_copyFrom 140 = .ok (.getfield 55, 3) := by decide +kernel
theorem dX2_copyFrom_143 : decode cX2_copyFrom 143 = .ok (.putfield 55, 3) := by decide +kernel
theorem dX2_copyFrom_146 : decode cX2_copyFrom 146 = .ok (.aload_n 0, 1) := by decide +kernel
theorem dX2_copyFrom_147 : decode cX2_copyFrom 147 = .ok (.aload_n 1, 1) := by decide +kernel
theorem dX2_copyFrom_148 : decode cX2_copyFrom 148 = .ok (.getfield 58, 3) := by decide +kernel
theorem dX2_copyFrom_151 : decode cX2_copyFrom 151 = .ok (.putfield 58, 3) := by decide +kernel
theorem dX2_copyFrom_154 : decode cX2_copyFrom 154 = .ok (.aload_n 0, 1) := by decide +kernel
theorem dX2_copyFrom_155 : decode cX2_copyFrom 155 = .ok (.aload_n 1, 1) := by decide +kernel
theorem dX2_copyFrom_156 : decode cX2_copyFrom 156 = .ok (.getfield 31, 3) := by decide +kernel
theorem dX2_copyFrom_159 : decode cX2_copyFrom 159 = .ok (.putfield 31, 3) := by decide +kernel
theorem dX2_copyFrom_162 : decode cX2_copyFrom 162 = .ok (.return_, 1) := by decide +kernel
theorem dX2_hasKeeper_0 : decode cX2_hasKeeper 0 = .ok (.iload_n 1, 1) := by decide +kernel
theorem dX2_hasKeeper_1 : decode cX2_hasKeeper 1 = .ok (.ifCond .lt 21, 3) := by decide +kernel
theorem dX2_hasKeeper_4 : decode cX2_hasKeeper 4 = .ok (.iload_n 1, 1) := by decide +kernel
theorem dX2_hasKeeper_5 : decode cX2_hasKeeper 5 = .ok (.aload_n 0, 1) := by decide +kernel
theorem dX2_hasKeeper_6 : decode cX2_hasKeeper 6 = .ok (.getfield 34, 3) := by decide +kernel
theorem dX2_hasKeeper_9 : decode cX2_hasKeeper 9 = .ok (.if_icmp .ge 13, 3) := by decide +kernel
theorem dX2_hasKeeper_12 : decode cX2_hasKeeper 12 = .ok (.iload_n 1, 1) := by decide +kernel
theorem dX2_hasKeeper_13 : decode cX2_hasKeeper 13 = .ok (.bipush 8, 2) := by decide +kernel
theorem dX2_hasKeeper_15 : decode cX2_hasKeeper 15 = .ok (.if_icmp .ge 7, 3) := by decide +kernel
theorem dX2_hasKeeper_18 : decode cX2_hasKeeper 18 = .ok (.iconst 1, 1) := by decide +kernel
theorem dX2_hasKeeper_19 : decode cX2_hasKeeper 19 = .ok (.goto 4, 3) := by decide +kernel
theorem dX2_hasKeeper_22 : decode cX2_hasKeeper 22 = .ok (.iconst 0, 1) := by decide +kernel
theorem dX2_hasKeeper_23 : decode cX2_hasKeeper 23 = .ok (.ireturn, 1) := by decide +kernel
set_option maxRecDepth 20000 in
theorem ggX2_lives_X2_hasKeeper : GoodIn wsX2_lives wsX2_hasKeeper := goodIn_r _ [6, 7, 8, 9, 10, 11, 12, 13, 14, 15, 16, 17, 18, 19, 20, 21, 22, 23] (by decide +kernel) (by decide +kernel)
set_option maxRecDepth 20000 in
theorem gX2_lives_X2_hasKeeper : GoodIn wsX2_lives (wsV RX2 61 RX2 yX2_hasKeeper wsX2_hasKeeper) := goodIn_app (goodIn_of _ (by decide +kernel)) ggX2_lives_X2_hasKeeper
theorem dX2_lives_0 : decode cX2_lives 0 = .ok (.aload_n 0, 1) := by decide +kernel
theorem dX2_lives_1 : decode cX2_lives 1 = .ok (.iload_n 1, 1) := by decide +kernel
theorem dX2_lives_2 : decode cX2_lives 2 = .ok (.invokevirtual 61, 3) := by decide +kernel
theorem dX2_lives_5 : decode cX2_lives 5 = .ok (.ifCond .eq 19, 3) := by decide +kernel
theorem dX2_lives_8 : decode cX2_lives 8 = .ok (.aload_n 0, 1) := by decide +kernel
theorem dX2_lives_9 : decode cX2_lives 9 = .ok (.getfield 37, 3) := by decide +kernel
theorem dX2_lives_12 : decode cX2_lives 12 = .ok (.iload_n 1, 1) := by decide +kernel
theorem dX2_lives_13 : decode cX2_lives 13 = .ok (.ishr, 1) := by decide +kernel
theorem dX2_lives_14 : decode cX2_lives 14 = .ok (.iconst 1, 1) := by decide +kernel
theorem dX2_lives_15 : decode cX2_lives 15 = .ok (.iand, 1) := by decide +kernel
theorem dX2_lives_16 : decode cX2_lives 16 = .ok (.iconst 1, 1) := by decide +kernel
theorem dX2_lives_17 : decode cX2_lives 17 = .ok (.if_icmp .ne 7, 3) := by decide +kernel
theorem dX2_lives_20 : decode cX2_lives 20 = .ok (.iconst 1, 1) := by decide +kernel
theorem dX2_lives_21 : decode cX2_lives 21 = .ok (.goto 4, 3) := by decide +kernel
theorem dX2_lives_24 : decode cX2_lives 24 = .ok (.iconst 0, 1) := by decide +kernel
theorem dX2_lives_25 : decode cX2_lives 25 = .ok (.ireturn, 1) := by decide +kernel
theorem dX2_allLive_0 : decode cX2_allLive 0 = .ok (.iload_n 1, 1) := by decide +kernel
theorem dX2_allLive_1 : decode cX2_allLive 1 = .ok (.aload_n 0, 1) := by decide +kernel
theorem dX2_allLive_2 : decode cX2_allLive 2 = .ok (.getfield 37, 3) := by decide +kernel
theorem dX2_allLive_5 : decode cX2_allLive 5 = .ok (.iconst (-1), 1) := by decide +kernel
theorem dX2_allLive_6 : decode cX2_allLive 6 = .ok (.ixor, 1) := by decide +kernel
theorem dX2_allLive_7 : decode cX2_allLive 7 = .ok (.iand, 1) := by decide +kernel
theorem dX2_allLive_8 : decode cX2_allLive 8 = .ok (.ifCond .ne 7, 3) := by decide +kernel
theorem dX2_allLive_11 : decode cX2_allLive 11 = .ok (.iconst 1, 1) := by decide +kernel
theorem dX2_allLive_12 : decode cX2_allLive 12 = .ok (.goto 4, 3) := by decide +kernel
theorem dX2_allLive_15 : decode cX2_allLive 15 = .ok (.iconst 0, 1) := by decide +kernel
theorem dX2_allLive_16 : decode cX2_allLive 16 = .ok (.ireturn, 1) := by decide +kernel
theorem dX2_everybody_0 : decode cX2_everybody 0 = .ok (.iconst 1, 1) := by decide +kernel
theorem dX2_everybody_1 : decode cX2_everybody 1 = .ok (.aload_n 0, 1) := by decide +kernel
theorem dX2_everybody_2 : decode cX2_everybody 2 = .ok (.getfield 34, 3) := by decide +kernel
theorem dX2_everybody_5 : decode cX2_everybody 5 = .ok (.ishl, 1) := by decide +kernel
theorem dX2_everybody_6 : decode cX2_everybody 6 = .ok (.iconst 1, 1) := by decide +kernel
theorem dX2_everybody_7 : decode cX2_everybody 7 = .ok (.isub, 1) := by decide +kernel
theorem dX2_everybody_8 : decode cX2_everybody 8 = .ok (.ireturn, 1) := by decide +kernel
set_option maxRecDepth 20000 in
theorem ggX2_livingCount_J6_bitCount_0f7a4 : GoodIn wsX2_livingCount wsJ6_bitCount_0f7a4 := goodIn_r _ [5, 6, 7, 8] (by decide +kernel) (by decide +kernel)
set_option maxRecDepth 20000 in
theorem gX2_livingCount_J6_bitCount_0f7a4 : GoodIn wsX2_livingCount (va_wsS RX2 65 yJ6_bitCount_0f7a4 wsJ6_bitCount_0f7a4) := goodIn_app (goodIn_of _ (by decide +kernel)) ggX2_livingCount_J6_bitCount_0f7a4
theorem dX2_livingCount_0 : decode cX2_livingCount 0 = .ok (.aload_n 0, 1) := by decide +kernel
theorem dX2_livingCount_1 : decode cX2_livingCount 1 = .ok (.getfield 37, 3) := by decide +kernel
theorem dX2_livingCount_4 : decode cX2_livingCount 4 = .ok (.invokestatic 65, 3) := by decide +kernel
theorem dX2_livingCount_7 : decode cX2_livingCount 7 = .ok (.ireturn, 1) := by decide +kernel
theorem dX2_addKeeper_0 : decode cX2_addKeeper 0 = .ok (.aload_n 0, 1) := by decide +kernel
theorem dX2_addKeeper_1 : decode cX2_addKeeper 1 = .ok (.getfield 34, 3) := by decide +kernel
theorem dX2_addKeeper_4 : decode cX2_addKeeper 4 = .ok (.istore_n 1, 1) := by decide +kernel
theorem dX2_addKeeper_5 : decode cX2_addKeeper 5 = .ok (.aload_n 0, 1) := by decide +kernel
theorem dX2_addKeeper_6 : decode cX2_addKeeper 6 = .ok (.dup, 1) := by decide +kernel
theorem dX2_addKeeper_7 : decode cX2_addKeeper 7 = .ok (.getfield 37, 3) := by decide +kernel
theorem dX2_addKeeper_10 : decode cX2_addKeeper 10 = .ok (.iconst 1, 1) := by decide +kernel
theorem dX2_addKeeper_11 : decode cX2_addKeeper 11 = .ok (.iload_n 1, 1) := by decide +kernel
theorem dX2_addKeeper_12 : decode cX2_addKeeper 12 = .ok (.ishl, 1) := by decide +kernel
theorem dX2_addKeeper_13 : decode cX2_addKeeper 13 = .ok (.ior, 1) := by decide +kernel
theorem dX2_addKeeper_14 : decode cX2_addKeeper 14 = .ok (.putfield 37, 3) := by decide +kernel
theorem dX2_addKeeper_17 : decode cX2_addKeeper 17 = .ok (.aload_n 0, 1) := by decide +kernel
theorem dX2_addKeeper_18 : decode cX2_addKeeper 18 = .ok (.dup, 1) := by decide +kernel
theorem dX2_addKeeper_19 : decode cX2_addKeeper 19 = .ok (.getfield 34, 3) := by decide +kernel
theorem dX2_addKeeper_22 : decode cX2_addKeeper 22 = .ok (.iconst 1, 1) := by decide +kernel
theorem dX2_addKeeper_23 : decode cX2_addKeeper 23 = .ok (.iadd, 1) := by decide +kernel
theorem dX2_addKeeper_24 : decode cX2_addKeeper 24 = .ok (.putfield 34, 3) := by decide +kernel
theorem dX2_addKeeper_27 : decode cX2_addKeeper 27 = .ok (.iload_n 1, 1) := by decide +kernel
theorem dX2_addKeeper_28 : decode cX2_addKeeper 28 = .ok (.ireturn, 1) := by decide +kernel
set_option maxRecDepth 20000 in
theorem ggX2_bury_X2_lives : GoodIn wsX2_bury wsX2_lives := goodIn_r _ [8, 1, 9, 10, 11, 7, 12, 13, 14, 15, 16, 17, 18, 19, 20, 21, 22, 23, 24, 25, 26, 27, 28, 29] (by decide +kernel) (by decide +kernel)
set_option maxRecDepth 20000 in
theorem gX2_bury_X2_lives : GoodIn wsX2_bury (wsV RX2 71 RX2 yX2_lives wsX2_lives) := goodIn_app (goodIn_of _ (by decide +kernel)) ggX2_bury_X2_lives
theorem dX2_bury_0 : decode cX2_bury 0 = .ok (.aload_n 0, 1) := by decide +kernel
theorem dX2_bury_1 : decode cX2_bury 1 = .ok (.dup, 1) := by decide +kernel
theorem dX2_bury_2 : decode cX2_bury 2 = .ok (.getfield 37, 3) := by decide +kernel
theorem dX2_bury_5 : decode cX2_bury 5 = .ok (.iconst 1, 1) := by decide +kernel
theorem dX2_bury_6 : decode cX2_bury 6 = .ok (.iload_n 1, 1) := by decide +kernel
theorem dX2_bury_7 : decode cX2_bury 7 = .ok (.ishl, 1) := by decide +kernel
theorem dX2_bury_8 : decode cX2_bury 8 = .ok (.iconst (-1), 1) := by decide +kernel
theorem dX2_bury_9 : decode cX2_bury 9 = .ok (.ixor, 1) := by decide +kernel
theorem dX2_bury_10 : decode cX2_bury 10 = .ok (.iand, 1) := by decide +kernel
theorem dX2_bury_11 : decode cX2_bury 11 = .ok (.putfield 37, 3) := by decide +kernel
theorem dX2_bury_14 : decode cX2_bury 14 = .ok (.aload_n 0, 1) := by decide +kernel
theorem dX2_bury_15 : decode cX2_bury 15 = .ok (.getfield 9, 3) := by decide +kernel
theorem dX2_bury_18 : decode cX2_bury 18 = .ok (.iload_n 1, 1) := by decide +kernel
theorem dX2_bury_19 : decode cX2_bury 19 = .ok (.iaload, 1) := by decide +kernel
theorem dX2_bury_20 : decode cX2_bury 20 = .ok (.istore_n 2, 1) := by decide +kernel
theorem dX2_bury_21 : decode cX2_bury 21 = .ok (.aload_n 0, 1) := by decide +kernel
theorem dX2_bury_22 : decode cX2_bury 22 = .ok (.iload_n 2, 1) := by decide +kernel
theorem dX2_bury_23 : decode cX2_bury 23 = .ok (.invokevirtual 71, 3) := by decide +kernel
theorem dX2_bury_26 : decode cX2_bury 26 = .ok (.istore_n 3, 1) := by decide +kernel
theorem dX2_bury_27 : decode cX2_bury 27 = .ok (.iconst 0, 1) := by decide +kernel
theorem dX2_bury_28 : decode cX2_bury 28 = .ok (.istore 4, 2) := by decide +kernel
theorem dX2_bury_30 : decode cX2_bury 30 = .ok (.iconst 0, 1) := by decide +kernel
theorem dX2_bury_31 : decode cX2_bury 31 = .ok (.istore 5, 2) := by decide +kernel
theorem dX2_bury_33 : decode cX2_bury 33 = .ok (.iload 5, 2) := by decide +kernel
theorem dX2_bury_35 : decode cX2_bury 35 = .ok (.bipush 8, 2) := by decide +kernel
theorem dX2_bury_37 : decode cX2_bury 37 = .ok (.if_icmp .ge 50, 3) := by decide +kernel
theorem dX2_bury_40 : decode cX2_bury 40 = .ok (.aload_n 0, 1) := by decide +kernel
theorem dX2_bury_41 : decode cX2_bury 41 = .ok (.getfield 21, 3) := by decide +kernel
theorem dX2_bury_44 : decode cX2_bury 44 = .ok (.iload 5, 2) := by decide +kernel
theorem dX2_bury_46 : decode cX2_bury 46 = .ok (.iaload, 1) := by decide +kernel
theorem dX2_bury_47 : decode cX2_bury 47 = .ok (.iload_n 1, 1) := by decide +kernel
theorem dX2_bury_48 : decode cX2_bury 48 = .ok (.if_icmp .ne 33, 3) := by decide +kernel
theorem dX2_bury_51 : decode cX2_bury 51 = .ok (.aload_n 0, 1) := by decide +kernel
theorem dX2_bury_52 : decode cX2_bury 52 = .ok (.getfield 21, 3) := by decide +kernel
theorem dX2_bury_55 : decode cX2_bury 55 = .ok (.iload 5, 2) := by decide +kernel
theorem dX2_bury_57 : decode cX2_bury 57 = .ok (.iload_n 3, 1) := by decide +kernel
theorem dX2_bury_58 : decode cX2_bury 58 = .ok (.ifCond .eq 7, 3) := by decide +kernel
theorem dX2_bury_61 : decode cX2_bury 61 = .ok (.iload_n 2, 1) := by decide +kernel
theorem dX2_bury_62 : decode cX2_bury 62 = .ok (.goto 4, 3) := by decide +kernel
theorem dX2_bury_65 : decode cX2_bury 65 = .ok (.iconst (-1), 1) := by decide +kernel
theorem dX2_bury_66 : decode cX2_bury 66 = .ok (.iastore, 1) := by decide +kernel
theorem dX2_bury_67 : decode cX2_bury 67 = .ok (.iload 4, 2) := by decide +kernel
theorem dX2_bury_69 : decode cX2_bury 69 = .ok (.iload_n 3, 1) := by decide +kernel
theorem dX2_bury_70 : decode cX2_bury 70 = .ok (.ifCond .eq 7, 3) := by decide +kernel
theorem dX2_bury_73 : decode cX2_bury 73 = .ok (.iconst 1, 1) := by decide +kernel
theorem dX2_bury_74 : decode cX2_bury 74 = .ok (.goto 4, 3) := by decide +kernel
theorem dX2_bury_77 : decode cX2_bury 77 = .ok (.iconst 0, 1) := by decide +kernel
theorem dX2_bury_78 : decode cX2_bury 78 = .ok (.iadd, 1) := by decide +kernel
theorem dX2_bury_79 : decode cX2_bury 79 = .ok (.istore 4, 2) := by decide +kernel
theorem dX2_bury_81 : decode cX2_bury 81 = .ok (.iinc 5 1, 3) := by decide +kernel
theorem dX2_bury_84 : decode cX2_bury 84 = .ok (.goto (-51), 3) := by decide +kernel
theorem dX2_bury_87 : decode cX2_bury 87 = .ok (.iload 4, 2) := by decide +kernel
theorem dX2_bury_89 : decode cX2_bury 89 = .ok (.ireturn, 1) := by decide +kernel
set_option maxRecDepth 20000 in
theorem ggX2_mayName_X2_lives : GoodIn wsX2_mayName wsX2_lives := goodIn_r _ [5, 6, 7, 8, 9, 4, 10, 11, 12, 13, 14, 15, 16, 17, 18, 19, 20, 21, 22, 23, 24, 25, 26, 27] (by decide +kernel) (by decide +kernel)
set_option maxRecDepth 20000 in
theorem gX2_mayName_X2_lives : GoodIn wsX2_mayName (wsV RX2 71 RX2 yX2_lives wsX2_lives) := goodIn_app (goodIn_of _ (by decide +kernel)) ggX2_mayName_X2_lives
theorem dX2_mayName_0 : decode cX2_mayName 0 = .ok (.iload_n 1, 1) := by decide +kernel
theorem dX2_mayName_1 : decode cX2_mayName 1 = .ok (.iload_n 2, 1) := by decide +kernel
theorem dX2_mayName_2 : decode cX2_mayName 2 = .ok (.if_icmp .eq 28, 3) := by decide +kernel
theorem dX2_mayName_5 : decode cX2_mayName 5 = .ok (.aload_n 0, 1) := by decide +kernel
theorem dX2_mayName_6 : decode cX2_mayName 6 = .ok (.iload_n 1, 1) := by decide +kernel
theorem dX2_mayName_7 : decode cX2_mayName 7 = .ok (.invokevirtual 71, 3) := by decide +kernel
theorem dX2_mayName_10 : decode cX2_mayName 10 = .ok (.ifCond .eq 20, 3) := by decide +kernel
theorem dX2_mayName_13 : decode cX2_mayName 13 = .ok (.iload_n 2, 1) := by decide +kernel
theorem dX2_mayName_14 : decode cX2_mayName 14 = .ok (.iconst (-1), 1) := by decide +kernel
theorem dX2_mayName_15 : decode cX2_mayName 15 = .ok (.if_icmp .eq 11, 3) := by decide +kernel
theorem dX2_mayName_18 : decode cX2_mayName 18 = .ok (.aload_n 0, 1) := by decide +kernel
theorem dX2_mayName_19 : decode cX2_mayName 19 = .ok (.iload_n 2, 1) := by decide +kernel
theorem dX2_mayName_20 : decode cX2_mayName 20 = .ok (.invokevirtual 71, 3) := by decide +kernel
theorem dX2_mayName_23 : decode cX2_mayName 23 = .ok (.ifCond .eq 7, 3) := by decide +kernel
theorem dX2_mayName_26 : decode cX2_mayName 26 = .ok (.iconst 1, 1) := by decide +kernel
theorem dX2_mayName_27 : decode cX2_mayName 27 = .ok (.goto 4, 3) := by decide +kernel
theorem dX2_mayName_30 : decode cX2_mayName 30 = .ok (.iconst 0, 1) := by decide +kernel
theorem dX2_mayName_31 : decode cX2_mayName 31 = .ok (.ireturn, 1) := by decide +kernel
theorem dX2_nameHeir_0 : decode cX2_nameHeir 0 = .ok (.aload_n 0, 1) := by decide +kernel
theorem dX2_nameHeir_1 : decode cX2_nameHeir 1 = .ok (.getfield 9, 3) := by decide +kernel
theorem dX2_nameHeir_4 : decode cX2_nameHeir 4 = .ok (.iload_n 1, 1) := by decide +kernel
theorem dX2_nameHeir_5 : decode cX2_nameHeir 5 = .ok (.iaload, 1) := by decide +kernel
theorem dX2_nameHeir_6 : decode cX2_nameHeir 6 = .ok (.istore_n 3, 1) := by decide +kernel
theorem dX2_nameHeir_7 : decode cX2_nameHeir 7 = .ok (.aload_n 0, 1) := by decide +kernel
theorem dX2_nameHeir_8 : decode cX2_nameHeir 8 = .ok (.getfield 9, 3) := by decide +kernel
theorem dX2_nameHeir_11 : decode cX2_nameHeir 11 = .ok (.iload_n 1, 1) := by decide +kernel
theorem dX2_nameHeir_12 : decode cX2_nameHeir 12 = .ok (.iload_n 2, 1) := by decide +kernel
theorem dX2_nameHeir_13 : decode cX2_nameHeir 13 = .ok (.iastore, 1) := by decide +kernel
theorem dX2_nameHeir_14 : decode cX2_nameHeir 14 = .ok (.iload_n 3, 1) := by decide +kernel
theorem dX2_nameHeir_15 : decode cX2_nameHeir 15 = .ok (.ireturn, 1) := by decide +kernel
theorem dX2_areAtOdds_0 : decode cX2_areAtOdds 0 = .ok (.aload_n 0, 1) := by decide +kernel
theorem dX2_areAtOdds_1 : decode cX2_areAtOdds 1 = .ok (.getfield 15, 3) := by decide +kernel
theorem dX2_areAtOdds_4 : decode cX2_areAtOdds 4 = .ok (.iload_n 1, 1) := by decide +kernel
theorem dX2_areAtOdds_5 : decode cX2_areAtOdds 5 = .ok (.iaload, 1) := by decide +kernel
theorem dX2_areAtOdds_6 : decode cX2_areAtOdds 6 = .ok (.iload_n 2, 1) := by decide +kernel
theorem dX2_areAtOdds_7 : decode cX2_areAtOdds 7 = .ok (.ishr, 1) := by decide +kernel
theorem dX2_areAtOdds_8 : decode cX2_areAtOdds 8 = .ok (.iconst 1, 1) := by decide +kernel
theorem dX2_areAtOdds_9 : decode cX2_areAtOdds 9 = .ok (.iand, 1) := by decide +kernel
theorem dX2_areAtOdds_10 : decode cX2_areAtOdds 10 = .ok (.iconst 1, 1) := by decide +kernel
theorem dX2_areAtOdds_11 : decode cX2_areAtOdds 11 = .ok (.if_icmp .ne 7, 3) := by decide +kernel
theorem dX2_areAtOdds_14 : decode cX2_areAtOdds 14 = .ok (.iconst 1, 1) := by decide +kernel
theorem dX2_areAtOdds_15 : decode cX2_areAtOdds 15 = .ok (.goto 4, 3) := by decide +kernel
theorem dX2_areAtOdds_18 : decode cX2_areAtOdds 18 = .ok (.iconst 0, 1) := by decide +kernel
theorem dX2_areAtOdds_19 : decode cX2_areAtOdds 19 = .ok (.ireturn, 1) := by decide +kernel
set_option maxRecDepth 20000 in
theorem ggX2_toggleQuarrel_J6_bitCount_0f7a4 : GoodIn wsX2_toggleQuarrel wsJ6_bitCount_0f7a4 := goodIn_r _ [5, 6, 7, 8] (by decide +kernel) (by decide +kernel)
set_option maxRecDepth 20000 in
theorem gX2_toggleQuarrel_J6_bitCount_0f7a4 : GoodIn wsX2_toggleQuarrel (va_wsS RX2 65 yJ6_bitCount_0f7a4 wsJ6_bitCount_0f7a4) := goodIn_app (goodIn_of _ (by decide +kernel)) ggX2_toggleQuarrel_J6_bitCount_0f7a4
theorem dX2_toggleQuarrel_0 : decode cX2_toggleQuarrel 0 = .ok (.aload_n 0, 1) := by decide +kernel
theorem dX2_toggleQuarrel_1 : decode cX2_toggleQuarrel 1 = .ok (.getfield 15, 3) := by decide +kernel
theorem dX2_toggleQuarrel_4 : decode cX2_toggleQuarrel 4 = .ok (.iload_n 1, 1) := by decide +kernel
theorem dX2_toggleQuarrel_5 : decode cX2_toggleQuarrel 5 = .ok (.dup2, 1) := by decide +kernel
theorem dX2_toggleQuarrel_6 : decode cX2_toggleQuarrel 6 = .ok (.iaload, 1) := by decide +kernel
theorem dX2_toggleQuarrel_7 : decode cX2_toggleQuarrel 7 = .ok (.iconst 1, 1) := by decide +kernel
theorem dX2_toggleQuarrel_8 : decode cX2_toggleQuarrel 8 = .ok (.iload_n 2, 1) := by decide +kernel
theorem dX2_toggleQuarrel_9 : decode cX2_toggleQuarrel 9 = .ok (.ishl, 1) := by decide +kernel
theorem dX2_toggleQuarrel_10 : decode cX2_toggleQuarrel 10 = .ok (.ixor, 1) := by decide +kernel
theorem dX2_toggleQuarrel_11 : decode cX2_toggleQuarrel 11 = .ok (.iastore, 1) := by decide +kernel
theorem dX2_toggleQuarrel_12 : decode cX2_toggleQuarrel 12 = .ok (.aload_n 0, 1) := by decide +kernel
theorem dX2_toggleQuarrel_13 : decode cX2_toggleQuarrel 13 = .ok (.getfield 15, 3) := by decide +kernel
theorem dX2_toggleQuarrel_16 : decode cX2_toggleQuarrel 16 = .ok (.iload_n 2, 1) := by decide +kernel
theorem dX2_toggleQuarrel_17 : decode cX2_toggleQuarrel 17 = .ok (.dup2, 1) := by decide +kernel
theorem dX2_toggleQuarrel_18 : decode cX2_toggleQuarrel 18 = .ok (.iaload, 1) := by decide +kernel
theorem dX2_toggleQuarrel_19 : decode cX2_toggleQuarrel 19 = .ok (.iconst 1, 1) := by decide +kernel
theorem dX2_toggleQuarrel_20 : decode cX2_toggleQuarrel 20 = .ok (.iload_n 1, 1) := by decide +kernel
theorem dX2_toggleQuarrel_21 : decode cX2_toggleQuarrel 21 = .ok (.ishl, 1) := by decide +kernel
theorem dX2_toggleQuarrel_22 : decode cX2_toggleQuarrel 22 = .ok (.ixor, 1) := by decide +kernel
theorem dX2_toggleQuarrel_23 : decode cX2_toggleQuarrel 23 = .ok (.iastore, 1) := by decide +kernel
theorem dX2_toggleQuarrel_24 : decode cX2_toggleQuarrel 24 = .ok (.aload_n 0, 1) := by decide +kernel
theorem dX2_toggleQuarrel_25 : decode cX2_toggleQuarrel 25 = .ok (.getfield 15, 3) := by decide +kernel
theorem dX2_toggleQuarrel_28 : decode cX2_toggleQuarrel 28 = .ok (.iload_n 1, 1) := by decide +kernel
theorem dX2_toggleQuarrel_29 : decode cX2_toggleQuarrel 29 = .ok (.iaload, 1) := by decide +kernel
theorem dX2_toggleQuarrel_30 : decode cX2_toggleQuarrel 30 = .ok (.invokestatic 65, 3) := by decide +kernel
theorem dX2_toggleQuarrel_33 : decode cX2_toggleQuarrel 33 = .ok (.ireturn, 1) := by decide +kernel
set_option maxRecDepth 20000 in
theorem ggX2_quarrellingPairs_J6_bitCount_0f7a4 : GoodIn wsX2_quarrellingPairs wsJ6_bitCount_0f7a4 := goodIn_r _ [5, 6, 7, 8] (by decide +kernel) (by decide +kernel)
set_option maxRecDepth 20000 in
theorem gX2_quarrellingPairs_J6_bitCount_0f7a4 : GoodIn wsX2_quarrellingPairs (va_wsS RX2 65 yJ6_bitCount_0f7a4 wsJ6_bitCount_0f7a4) := goodIn_app (goodIn_of _ (by decide +kernel)) ggX2_quarrellingPairs_J6_bitCount_0f7a4
theorem dX2_quarrellingPairs_0 : decode cX2_quarrellingPairs 0 = .ok (.iconst 0, 1) := by decide +kernel
theorem dX2_quarrellingPairs_1 : decode cX2_quarrellingPairs 1 = .ok (.istore_n 1, 1) := by decide +kernel
theorem dX2_quarrellingPairs_2 : decode cX2_quarrellingPairs 2 = .ok (.iconst 0, 1) := by decide +kernel
theorem dX2_quarrellingPairs_3 : decode cX2_quarrellingPairs 3 = .ok (.istore_n 2, 1) := by decide +kernel
theorem dX2_quarrellingPairs_4 : decode cX2_quarrellingPairs 4 = .ok (.iload_n 2, 1) := by decide +kernel
theorem dX2_quarrellingPairs_5 : decode cX2_quarrellingPairs 5 = .ok (.bipush 8, 2) := by decide +kernel
theorem dX2_quarrellingPairs_7 : decode cX2_quarrellingPairs 7 = .ok (.if_icmp .ge 21, 3) := by decide +kernel
theorem dX2_quarrellingPairs_10 : decode cX2_quarrellingPairs 10 = .ok (.iload_n 1, 1) := by decide +kernel
theorem dX2_quarrellingPairs_11 : decode cX2_quarrellingPairs 11 = .ok (.aload_n 0, 1) := by decide +kernel
theorem dX2_quarrellingPairs_12 : decode cX2_quarrellingPairs 12 = .ok (.getfield 15, 3) := by decide +kernel
theorem dX2_quarrellingPairs_15 : decode cX2_quarrellingPairs 15 = .ok (.iload_n 2, 1) := by decide +kernel
theorem dX2_quarrellingPairs_16 : decode cX2_quarrellingPairs 16 = .ok (.iaload, 1) := by decide +kernel
theorem dX2_quarrellingPairs_17 : decode cX2_quarrellingPairs 17 = .ok (.invokestatic 65, 3) := by decide +kernel
theorem dX2_quarrellingPairs_20 : decode cX2_quarrellingPairs 20 = .ok (.iadd, 1) := by decide +kernel
theorem dX2_quarrellingPairs_21 : decode cX2_quarrellingPairs 21 = .ok (.istore_n 1, 1) := by decide +kernel
theorem dX2_quarrellingPairs_22 : decode cX2_quarrellingPairs 22 = .ok (.iinc 2 1, 3) := by decide +kernel
theorem dX2_quarrellingPairs_25 : decode cX2_quarrellingPairs 25 = .ok (.goto (-21), 3) := by decide +kernel
theorem dX2_quarrellingPairs_28 : decode cX2_quarrellingPairs 28 = .ok (.iload_n 1, 1) := by decide +kernel
theorem dX2_quarrellingPairs_29 : decode cX2_quarrellingPairs 29 = .ok (.iconst 2, 1) := by decide +kernel
theorem dX2_quarrellingPairs_30 : decode cX2_quarrellingPairs 30 = .ok (.idiv, 1) := by decide +kernel
theorem dX2_quarrellingPairs_31 : decode cX2_quarrellingPairs 31 = .ok (.ireturn, 1) := by decide +kernel
theorem dX2_hasShare_0 : decode cX2_hasShare 0 = .ok (.iload_n 1, 1) := by decide +kernel
theorem dX2_hasShare_1 : decode cX2_hasShare 1 = .ok (.ifCond .lt 23, 3) := by decide +kernel
theorem dX2_hasShare_4 : decode cX2_hasShare 4 = .ok (.iload_n 1, 1) := by decide +kernel
theorem dX2_hasShare_5 : decode cX2_hasShare 5 = .ok (.bipush 8, 2) := by decide +kernel
theorem dX2_hasShare_7 : decode cX2_hasShare 7 = .ok (.if_icmp .ge 17, 3) := by decide +kernel
theorem dX2_hasShare_10 : decode cX2_hasShare 10 = .ok (.aload_n 0, 1) := by decide +kernel
theorem dX2_hasShare_11 : decode cX2_hasShare 11 = .ok (.getfield 21, 3) := by decide +kernel
theorem dX2_hasShare_14 : decode cX2_hasShare 14 = .ok (.iload_n 1, 1) := by decide +kernel
theorem dX2_hasShare_15 : decode cX2_hasShare 15 = .ok (.iaload, 1) := by decide +kernel
theorem dX2_hasShare_16 : decode cX2_hasShare 16 = .ok (.iconst (-1), 1) := by decide +kernel
theorem dX2_hasShare_17 : decode cX2_hasShare 17 = .ok (.if_icmp .eq 7, 3) := by decide +kernel
theorem dX2_hasShare_20 : decode cX2_hasShare 20 = .ok (.iconst 1, 1) := by decide +kernel
theorem dX2_hasShare_21 : decode cX2_hasShare 21 = .ok (.goto 4, 3) := by decide +kernel
theorem dX2_hasShare_24 : decode cX2_hasShare 24 = .ok (.iconst 0, 1) := by decide +kernel
theorem dX2_hasShare_25 : decode cX2_hasShare 25 = .ok (.ireturn, 1) := by decide +kernel
theorem dX2_sharesThere_0 : decode cX2_sharesThere 0 = .ok (.iconst 0, 1) := by decide +kernel
theorem dX2_sharesThere_1 : decode cX2_sharesThere 1 = .ok (.istore_n 1, 1) := by decide +kernel
theorem dX2_sharesThere_2 : decode cX2_sharesThere 2 = .ok (.iconst 0, 1) := by decide +kernel
theorem dX2_sharesThere_3 : decode cX2_sharesThere 3 = .ok (.istore_n 2, 1) := by decide +kernel
theorem dX2_sharesThere_4 : decode cX2_sharesThere 4 = .ok (.iload_n 2, 1) := by decide +kernel
theorem dX2_sharesThere_5 : decode cX2_sharesThere 5 = .ok (.bipush 8, 2) := by decide +kernel
theorem dX2_sharesThere_7 : decode cX2_sharesThere 7 = .ok (.if_icmp .ge 25, 3) := by decide +kernel
theorem dX2_sharesThere_10 : decode cX2_sharesThere 10 = .ok (.aload_n 0, 1) := by decide +kernel
theorem dX2_sharesThere_11 : decode cX2_sharesThere 11 = .ok (.getfield 21, 3) := by decide +kernel
theorem dX2_sharesThere_14 : decode cX2_sharesThere 14 = .ok (.iload_n 2, 1) := by decide +kernel
theorem dX2_sharesThere_15 : decode cX2_sharesThere 15 = .ok (.iaload, 1) := by decide +kernel
theorem dX2_sharesThere_16 : decode cX2_sharesThere 16 = .ok (.iconst (-1), 1) := by decide +kernel
theorem dX2_sharesThere_17 : decode cX2_sharesThere 17 = .ok (.if_icmp .eq 9, 3) := by decide +kernel
theorem dX2_sharesThere_20 : decode cX2_sharesThere 20 = .ok (.iload_n 1, 1) := by decide +kernel
theorem dX2_sharesThere_21 : decode cX2_sharesThere 21 = .ok (.iconst 1, 1) := by decide +kernel
theorem dX2_sharesThere_22 : decode cX2_sharesThere 22 = .ok (.iload_n 2, 1) := by decide +kernel
theorem dX2_sharesThere_23 : decode cX2_sharesThere 23 = .ok (.ishl, 1) := by decide +kernel
theorem dX2_sharesThere_24 : decode cX2_sharesThere 24 = .ok (.ior, 1) := by decide +kernel
theorem dX2_sharesThere_25 : decode cX2_sharesThere 25 = .ok (.istore_n 1, 1) := by decide +kernel
theorem dX2_sharesThere_26 : decode cX2_sharesThere 26 = .ok (.iinc 2 1, 3) := by decide +kernel
theorem dX2_sharesThere_29 : decode cX2_sharesThere 29 = .ok (.goto (-25), 3) := by decide +kernel
theorem dX2_sharesThere_32 : decode cX2_sharesThere 32 = .ok (.iload_n 1, 1) := by decide +kernel
theorem dX2_sharesThere_33 : decode cX2_sharesThere 33 = .ok (.ireturn, 1) := by decide +kernel
set_option maxRecDepth 20000 in
theorem ggX2_hasCapsuleWith_X2_sharesThere : GoodIn wsX2_hasCapsuleWith wsX2_sharesThere := goodIn_r _ [6, 7, 8, 9, 10, 11, 12, 13, 14, 15, 16, 17, 18, 19, 20, 21, 22, 23] (by decide +kernel) (by decide +kernel)
set_option maxRecDepth 20000 in
theorem gX2_hasCapsuleWith_X2_sharesThere : GoodIn wsX2_hasCapsuleWith (wsV RX2 74 RX2 yX2_sharesThere wsX2_sharesThere) := goodIn_app (goodIn_of _ (by decide +kernel)) ggX2_hasCapsuleWith_X2_sharesThere
theorem dX2_hasCapsuleWith_0 : decode cX2_hasCapsuleWith 0 = .ok (.aload_n 0, 1) := by decide +kernel
theorem dX2_hasCapsuleWith_1 : decode cX2_hasCapsuleWith 1 = .ok (.getfield 27, 3) := by decide +kernel
theorem dX2_hasCapsuleWith_4 : decode cX2_hasCapsuleWith 4 = .ok (.ifCond .eq 18, 3) := by decide +kernel
theorem dX2_hasCapsuleWith_7 : decode cX2_hasCapsuleWith 7 = .ok (.iload_n 1, 1) := by decide +kernel
theorem dX2_hasCapsuleWith_8 : decode cX2_hasCapsuleWith 8 = .ok (.aload_n 0, 1) := by decide +kernel
theorem dX2_hasCapsuleWith_9 : decode cX2_hasCapsuleWith 9 = .ok (.invokevirtual 74, 3) := by decide +kernel
theorem dX2_hasCapsuleWith_12 : decode cX2_hasCapsuleWith 12 = .ok (.iconst (-1), 1) := by decide +kernel
theorem dX2_hasCapsuleWith_13 : decode cX2_hasCapsuleWith 13 = .ok (.ixor, 1) := by decide +kernel
theorem dX2_hasCapsuleWith_14 : decode cX2_hasCapsuleWith 14 = .ok (.iand, 1) := by decide +kernel
theorem dX2_hasCapsuleWith_15 : decode cX2_hasCapsuleWith 15 = .ok (.ifCond .ne 7, 3) := by decide +kernel
theorem dX2_hasCapsuleWith_18 : decode cX2_hasCapsuleWith 18 = .ok (.iconst 1, 1) := by decide +kernel
theorem dX2_hasCapsuleWith_19 : decode cX2_hasCapsuleWith 19 = .ok (.goto 4, 3) := by decide +kernel
theorem dX2_hasCapsuleWith_22 : decode cX2_hasCapsuleWith 22 = .ok (.iconst 0, 1) := by decide +kernel
theorem dX2_hasCapsuleWith_23 : decode cX2_hasCapsuleWith 23 = .ok (.ireturn, 1) := by decide +kernel
theorem dX2_ownedBy_0 : decode cX2_ownedBy 0 = .ok (.iconst 0, 1) := by decide +kernel
theorem dX2_ownedBy_1 : decode cX2_ownedBy 1 = .ok (.istore_n 2, 1) := by decide +kernel
theorem dX2_ownedBy_2 : decode cX2_ownedBy 2 = .ok (.iconst 0, 1) := by decide +kernel
theorem dX2_ownedBy_3 : decode cX2_ownedBy 3 = .ok (.istore_n 3, 1) := by decide +kernel
theorem dX2_ownedBy_4 : decode cX2_ownedBy 4 = .ok (.iload_n 3, 1) := by decide +kernel
theorem dX2_ownedBy_5 : decode cX2_ownedBy 5 = .ok (.bipush 8, 2) := by decide +kernel
theorem dX2_ownedBy_7 : decode cX2_ownedBy 7 = .ok (.if_icmp .ge 25, 3) := by decide +kernel
theorem dX2_ownedBy_10 : decode cX2_ownedBy 10 = .ok (.aload_n 0, 1) := by decide +kernel
theorem dX2_ownedBy_11 : decode cX2_ownedBy 11 = .ok (.getfield 21, 3) := by decide +kernel
theorem dX2_ownedBy_14 : decode cX2_ownedBy 14 = .ok (.iload_n 3, 1) := by decide +kernel
theorem dX2_ownedBy_15 : decode cX2_ownedBy 15 = .ok (.iaload, 1) := by decide +kernel
theorem dX2_ownedBy_16 : decode cX2_ownedBy 16 = .ok (.iload_n 1, 1) := by decide +kernel
theorem dX2_ownedBy_17 : decode cX2_ownedBy 17 = .ok (.if_icmp .ne 9, 3) := by decide +kernel
theorem dX2_ownedBy_20 : decode cX2_ownedBy 20 = .ok (.iload_n 2, 1) := by decide +kernel
theorem dX2_ownedBy_21 : decode cX2_ownedBy 21 = .ok (.iconst 1, 1) := by decide +kernel
theorem dX2_ownedBy_22 : decode cX2_ownedBy 22 = .ok (.iload_n 3, 1) := by decide +kernel
theorem dX2_ownedBy_23 : decode cX2_ownedBy 23 = .ok (.ishl, 1) := by decide +kernel
theorem dX2_ownedBy_24 : decode cX2_ownedBy 24 = .ok (.ior, 1) := by decide +kernel
theorem dX2_ownedBy_25 : decode cX2_ownedBy 25 = .ok (.istore_n 2, 1) := by decide +kernel
theorem dX2_ownedBy_26 : decode cX2_ownedBy 26 = .ok (.iinc 3 1, 3) := by decide +kernel
theorem dX2_ownedBy_29 : decode cX2_ownedBy 29 = .ok (.goto (-25), 3) := by decide +kernel
theorem dX2_ownedBy_32 : decode cX2_ownedBy 32 = .ok (.iload_n 2, 1) := by decide +kernel
theorem dX2_ownedBy_33 : decode cX2_ownedBy 33 = .ok (.ireturn, 1) := by decide +kernel
theorem dX2_sharesAtHome_0 : decode cX2_sharesAtHome 0 = .ok (.iconst 0, 1) := by decide +kernel
theorem dX2_sharesAtHome_1 : decode cX2_sharesAtHome 1 = .ok (.istore_n 1, 1) := by decide +kernel
theorem dX2_sharesAtHome_2 : decode cX2_sharesAtHome 2 = .ok (.iconst 0, 1) := by decide +kernel
theorem dX2_sharesAtHome_3 : decode cX2_sharesAtHome 3 = .ok (.istore_n 2, 1) := by decide +kernel
theorem dX2_sharesAtHome_4 : decode cX2_sharesAtHome 4 = .ok (.iload_n 2, 1) := by decide +kernel
theorem dX2_sharesAtHome_5 : decode cX2_sharesAtHome 5 = .ok (.bipush 8, 2) := by decide +kernel
theorem dX2_sharesAtHome_7 : decode cX2_sharesAtHome 7 = .ok (.if_icmp .ge 22, 3) := by decide +kernel
theorem dX2_sharesAtHome_10 : decode cX2_sharesAtHome 10 = .ok (.aload_n 0, 1) := by decide +kernel
theorem dX2_sharesAtHome_11 : decode cX2_sharesAtHome 11 = .ok (.getfield 21, 3) := by decide +kernel
theorem dX2_sharesAtHome_14 : decode cX2_sharesAtHome 14 = .ok (.iload_n 2, 1) := by decide +kernel
theorem dX2_sharesAtHome_15 : decode cX2_sharesAtHome 15 = .ok (.iaload, 1) := by decide +kernel
theorem dX2_sharesAtHome_16 : decode cX2_sharesAtHome 16 = .ok (.iload_n 2, 1) := by decide +kernel
theorem dX2_sharesAtHome_17 : decode cX2_sharesAtHome 17 = .ok (.if_icmp .ne 6, 3) := by decide +kernel
theorem dX2_sharesAtHome_20 : decode cX2_sharesAtHome 20 = .ok (.iinc 1 1, 3) := by decide +kernel
theorem dX2_sharesAtHome_23 : decode cX2_sharesAtHome 23 = .ok (.iinc 2 1, 3) := by decide +kernel
theorem dX2_sharesAtHome_26 : decode cX2_sharesAtHome 26 = .ok (.goto (-22), 3) := by decide +kernel
theorem dX2_sharesAtHome_29 : decode cX2_sharesAtHome 29 = .ok (.iload_n 1, 1) := by decide +kernel
theorem dX2_sharesAtHome_30 : decode cX2_sharesAtHome 30 = .ok (.ireturn, 1) := by decide +kernel
theorem dX2_replaceShare_0 : decode cX2_replaceShare 0 = .ok (.aload_n 0, 1) := by decide +kernel
theorem dX2_replaceShare_1 : decode cX2_replaceShare 1 = .ok (.getfield 24, 3) := by decide +kernel
theorem dX2_replaceShare_4 : decode cX2_replaceShare 4 = .ok (.iload_n 1, 1) := by decide +kernel
theorem dX2_replaceShare_5 : decode cX2_replaceShare 5 = .ok (.iaload, 1) := by decide +kernel
theorem dX2_replaceShare_6 : decode cX2_replaceShare 6 = .ok (.istore_n 3, 1) := by decide +kernel
theorem dX2_replaceShare_7 : decode cX2_replaceShare 7 = .ok (.aload_n 0, 1) := by decide +kernel
theorem dX2_replaceShare_8 : decode cX2_replaceShare 8 = .ok (.getfield 24, 3) := by decide +kernel
theorem dX2_replaceShare_11 : decode cX2_replaceShare 11 = .ok (.iload_n 1, 1) := by decide +kernel
theorem dX2_replaceShare_12 : decode cX2_replaceShare 12 = .ok (.iload_n 2, 1) := by decide +kernel
theorem dX2_replaceShare_13 : decode cX2_replaceShare 13 = .ok (.iastore, 1) := by decide +kernel
theorem dX2_replaceShare_14 : decode cX2_replaceShare 14 = .ok (.aload_n 0, 1) := by decide +kernel
theorem dX2_replaceShare_15 : decode cX2_replaceShare 15 = .ok (.dup, 1) := by decide +kernel
theorem dX2_replaceShare_16 : decode cX2_replaceShare 16 = .ok (.getfield 40, 3) := by decide +kernel
theorem dX2_replaceShare_19 : decode cX2_replaceShare 19 = .ok (.iconst 1, 1) := by decide +kernel
theorem dX2_replaceShare_20 : decode cX2_replaceShare 20 = .ok (.iload_n 1, 1) := by decide +kernel
theorem dX2_replaceShare_21 : decode cX2_replaceShare 21 = .ok (.ishl, 1) := by decide +kernel
theorem dX2_replaceShare_22 : decode cX2_replaceShare 22 = .ok (.ior, 1) := by decide +kernel
theorem dX2_replaceShare_23 : decode cX2_replaceShare 23 = .ok (.putfield 40, 3) := by decide +kernel
theorem dX2_replaceShare_26 : decode cX2_replaceShare 26 = .ok (.iload_n 3, 1) := by decide +kernel
theorem dX2_replaceShare_27 : decode cX2_replaceShare 27 = .ok (.ireturn, 1) := by decide +kernel
theorem dX2_mayPass_0 : decode cX2_mayPass 0 = .ok (.aload_n 0, 1) := by decide +kernel
theorem dX2_mayPass_1 : decode cX2_mayPass 1 = .ok (.getfield 43, 3) := by decide +kernel
theorem dX2_mayPass_4 : decode cX2_mayPass 4 = .ok (.iload_n 1, 1) := by decide +kernel
theorem dX2_mayPass_5 : decode cX2_mayPass 5 = .ok (.iadd, 1) := by decide +kernel
theorem dX2_mayPass_6 : decode cX2_mayPass 6 = .ok (.ldc 78, 2) := by decide +kernel
theorem dX2_mayPass_8 : decode cX2_mayPass 8 = .ok (.if_icmp .gt 7, 3) := by decide +kernel
theorem dX2_mayPass_11 : decode cX2_mayPass 11 = .ok (.iconst 1, 1) := by decide +kernel
theorem dX2_mayPass_12 : decode cX2_mayPass 12 = .ok (.goto 4, 3) := by decide +kernel
theorem dX2_mayPass_15 : decode cX2_mayPass 15 = .ok (.iconst 0, 1) := by decide +kernel
theorem dX2_mayPass_16 : decode cX2_mayPass 16 = .ok (.ireturn, 1) := by decide +kernel
theorem dX2_shut_0 : decode cX2_shut 0 = .ok (.aload_n 0, 1) := by decide +kernel
theorem dX2_shut_1 : decode cX2_shut 1 = .ok (.iconst 1, 1) := by decide +kernel
theorem dX2_shut_2 : decode cX2_shut 2 = .ok (.putfield 27, 3) := by decide +kernel
theorem dX2_shut_5 : decode cX2_shut 5 = .ok (.aload_n 0, 1) := by decide +kernel
theorem dX2_shut_6 : decode cX2_shut 6 = .ok (.iload_n 1, 1) := by decide +kernel
theorem dX2_shut_7 : decode cX2_shut 7 = .ok (.putfield 46, 3) := by decide +kernel
theorem dX2_shut_10 : decode cX2_shut 10 = .ok (.aload_n 0, 1) := by decide +kernel
theorem dX2_shut_11 : decode cX2_shut 11 = .ok (.iload_n 2, 1) := by decide +kernel
theorem dX2_shut_12 : decode cX2_shut 12 = .ok (.putfield 49, 3) := by decide +kernel
theorem dX2_shut_15 : decode cX2_shut 15 = .ok (.aload_n 0, 1) := by decide +kernel
theorem dX2_shut_16 : decode cX2_shut 16 = .ok (.iload_n 3, 1) := by decide +kernel
theorem dX2_shut_17 : decode cX2_shut 17 = .ok (.putfield 52, 3) := by decide +kernel
theorem dX2_shut_20 : decode cX2_shut 20 = .ok (.return_, 1) := by decide +kernel
set_option maxRecDepth 20000 in
theorem ggX2_mayRenew_X2_livingCount : GoodIn wsX2_mayRenew wsX2_livingCount := goodIn_r _ [7, 8, 9, 10, 11, 12, 13, 14, 15, 16, 17, 18, 19, 20, 21, 22, 23, 24, 25, 26, 27, 28, 29, 30, 31] (by decide +kernel) (by decide +kernel)
set_option maxRecDepth 20000 in
theorem gX2_mayRenew_X2_livingCount : GoodIn wsX2_mayRenew (wsV RX2 79 RX2 yX2_livingCount wsX2_livingCount) := goodIn_app (goodIn_of _ (by decide +kernel)) ggX2_mayRenew_X2_livingCount
theorem dX2_mayRenew_0 : decode cX2_mayRenew 0 = .ok (.aload_n 0, 1) := by decide +kernel
theorem dX2_mayRenew_1 : decode cX2_mayRenew 1 = .ok (.getfield 27, 3) := by decide +kernel
theorem dX2_mayRenew_4 : decode cX2_mayRenew 4 = .ok (.iconst 1, 1) := by decide +kernel
theorem dX2_mayRenew_5 : decode cX2_mayRenew 5 = .ok (.if_icmp .ne 18, 3) := by decide +kernel
theorem dX2_mayRenew_8 : decode cX2_mayRenew 8 = .ok (.aload_n 0, 1) := by decide +kernel
theorem dX2_mayRenew_9 : decode cX2_mayRenew 9 = .ok (.invokevirtual 79, 3) := by decide +kernel
theorem dX2_mayRenew_12 : decode cX2_mayRenew 12 = .ok (.aload_n 0, 1) := by decide +kernel
theorem dX2_mayRenew_13 : decode cX2_mayRenew 13 = .ok (.getfield 49, 3) := by decide +kernel
theorem dX2_mayRenew_16 : decode cX2_mayRenew 16 = .ok (.if_icmp .lt 7, 3) := by decide +kernel
theorem dX2_mayRenew_19 : decode cX2_mayRenew 19 = .ok (.iconst 1, 1) := by decide +kernel
theorem dX2_mayRenew_20 : decode cX2_mayRenew 20 = .ok (.goto 4, 3) := by decide +kernel
theorem dX2_mayRenew_23 : decode cX2_mayRenew 23 = .ok (.iconst 0, 1) := by decide +kernel
theorem dX2_mayRenew_24 : decode cX2_mayRenew 24 = .ok (.ireturn, 1) := by decide +kernel
set_option maxRecDepth 20000 in
theorem ggX2_drawShares_X2_lives : GoodIn wsX2_drawShares wsX2_lives := goodIn_r _ [11, 12, 13, 14, 15, 10, 16, 17, 38, 39, 40, 41, 42, 43, 44, 45, 46, 47, 48, 49, 50, 51, 52, 53] (by decide +kernel) (by decide +kernel)
set_option maxRecDepth 20000 in
theorem gX2_drawShares_X2_lives : GoodIn wsX2_drawShares (wsV RX2 71 RX2 yX2_lives wsX2_lives) := goodIn_app (goodIn_of _ (by decide +kernel)) ggX2_drawShares_X2_lives
set_option maxRecDepth 20000 in
theorem ggX2_drawShares_X2_draw : GoodIn wsX2_drawShares wsX2_draw := goodIn_r _ [21, 22, 23, 38, 39, 40, 41, 42, 43, 44, 45, 46, 47, 48, 49, 50, 51, 52, 53] (by decide +kernel) (by decide +kernel)
set_option maxRecDepth 20000 in
theorem gX2_drawShares_X2_draw : GoodIn wsX2_drawShares (wsV RX2 82 RX2 yX2_draw wsX2_draw) := goodIn_app (goodIn_of _ (by decide +kernel)) ggX2_drawShares_X2_draw
set_option maxRecDepth 20000 in
theorem ggX2_drawShares_X2_powerOf : GoodIn wsX2_drawShares wsX2_powerOf := goodIn_r _ [26] (by decide +kernel) (by decide +kernel)
set_option maxRecDepth 20000 in
theorem gX2_drawShares_X2_powerOf : GoodIn wsX2_drawShares (va_wsS RX2 85 yX2_powerOf wsX2_powerOf) := goodIn_app (goodIn_of _ (by decide +kernel)) ggX2_drawShares_X2_powerOf
set_option maxRecDepth 20000 in
theorem ggX2_drawShares_X2_livingCount : GoodIn wsX2_drawShares wsX2_livingCount := goodIn_r _ [30, 12, 31, 32, 33, 34, 35, 36, 37, 38, 39, 40, 41, 42, 43, 44, 45, 46, 47, 48, 49, 50, 51, 52, 53] (by decide +kernel) (by decide +kernel)
set_option maxRecDepth 20000 in
theorem gX2_drawShares_X2_livingCount : GoodIn wsX2_drawShares (wsV RX2 79 RX2 yX2_livingCount wsX2_livingCount) := goodIn_app (goodIn_of _ (by decide +kernel)) ggX2_drawShares_X2_livingCount
theorem dX2_drawShares_0 : decode cX2_drawShares 0 = .ok (.aload_n 0, 1) := by decide +kernel
theorem dX2_drawShares_1 : decode cX2_drawShares 1 = .ok (.iconst 0, 1) := by decide +kernel
theorem dX2_drawShares_2 : decode cX2_drawShares 2 = .ok (.putfield 40, 3) := by decide +kernel
theorem dX2_drawShares_5 : decode cX2_drawShares 5 = .ok (.iconst 0, 1) := by decide +kernel
theorem dX2_drawShares_6 : decode cX2_drawShares 6 = .ok (.istore_n 1, 1) := by decide +kernel
theorem dX2_drawShares_7 : decode cX2_drawShares 7 = .ok (.iload_n 1, 1) := by decide +kernel
theorem dX2_drawShares_8 : decode cX2_drawShares 8 = .ok (.bipush 8, 2) := by decide +kernel
theorem dX2_drawShares_10 : decode cX2_drawShares 10 = .ok (.if_icmp .ge 38, 3) := by decide +kernel
theorem dX2_drawShares_13 : decode cX2_drawShares 13 = .ok (.aload_n 0, 1) := by decide +kernel
theorem dX2_drawShares_14 : decode cX2_drawShares 14 = .ok (.getfield 21, 3) := by decide +kernel
theorem dX2_drawShares_17 : decode cX2_drawShares 17 = .ok (.iload_n 1, 1) := by decide +kernel
theorem dX2_drawShares_18 : decode cX2_drawShares 18 = .ok (.aload_n 0, 1) := by decide +kernel
theorem dX2_drawShares_19 : decode cX2_drawShares 19 = .ok (.iload_n 1, 1) := by decide +kernel
theorem dX2_drawShares_20 : decode cX2_drawShares 20 = .ok (.invokevirtual 71, 3) := by decide +kernel
theorem dX2_drawShares_23 : decode cX2_drawShares 23 = .ok (.ifCond .eq 7, 3) := by decide +kernel
theorem dX2_drawShares_26 : decode cX2_drawShares 26 = .ok (.iload_n 1, 1) := by decide +kernel
theorem dX2_drawShares_27 : decode cX2_drawShares 27 = .ok (.goto 4, 3) := by decide +kernel
theorem dX2_drawShares_30 : decode cX2_drawShares 30 = .ok (.iconst (-1), 1) := by decide +kernel
theorem dX2_drawShares_31 : decode cX2_drawShares 31 = .ok (.iastore, 1) := by decide +kernel
theorem dX2_drawShares_32 : decode cX2_drawShares 32 = .ok (.aload_n 0, 1) := by decide +kernel
theorem dX2_drawShares_33 : decode cX2_drawShares 33 = .ok (.getfield 24, 3) := by decide +kernel
theorem dX2_drawShares_36 : decode cX2_drawShares 36 = .ok (.iload_n 1, 1) := by decide +kernel
theorem dX2_drawShares_37 : decode cX2_drawShares 37 = .ok (.aload_n 0, 1) := by decide +kernel
theorem dX2_drawShares_38 : decode cX2_drawShares 38 = .ok (.getfield 46, 3) := by decide +kernel
theorem dX2_drawShares_41 : decode cX2_drawShares 41 = .ok (.iastore, 1) := by decide +kernel
theorem dX2_drawShares_42 : decode cX2_drawShares 42 = .ok (.iinc 1 1, 3) := by decide +kernel
theorem dX2_drawShares_45 : decode cX2_drawShares 45 = .ok (.goto (-38), 3) := by decide +kernel
theorem dX2_drawShares_48 : decode cX2_drawShares 48 = .ok (.iconst 1, 1) := by decide +kernel
theorem dX2_drawShares_49 : decode cX2_drawShares 49 = .ok (.istore_n 1, 1) := by decide +kernel
theorem dX2_drawShares_50 : decode cX2_drawShares 50 = .ok (.iload_n 1, 1) := by decide +kernel
theorem dX2_drawShares_51 : decode cX2_drawShares 51 = .ok (.aload_n 0, 1) := by decide +kernel
theorem dX2_drawShares_52 : decode cX2_drawShares 52 = .ok (.getfield 49, 3) := by decide +kernel
theorem dX2_drawShares_55 : decode cX2_drawShares 55 = .ok (.if_icmp .ge 54, 3) := by decide +kernel
theorem dX2_drawShares_58 : decode cX2_drawShares 58 = .ok (.aload_n 0, 1) := by decide +kernel
theorem dX2_drawShares_59 : decode cX2_drawShares 59 = .ok (.invokevirtual 82, 3) := by decide +kernel
theorem dX2_drawShares_62 : decode cX2_drawShares 62 = .ok (.istore_n 2, 1) := by decide +kernel
theorem dX2_drawShares_63 : decode cX2_drawShares 63 = .ok (.iconst 0, 1) := by decide +kernel
theorem dX2_drawShares_64 : decode cX2_drawShares 64 = .ok (.istore_n 3, 1) := by decide +kernel
theorem dX2_drawShares_65 : decode cX2_drawShares 65 = .ok (.iload_n 3, 1) := by decide +kernel
theorem dX2_drawShares_66 : decode cX2_drawShares 66 = .ok (.bipush 8, 2) := by decide +kernel
theorem dX2_drawShares_68 : decode cX2_drawShares 68 = .ok (.if_icmp .ge 35, 3) := by decide +kernel
theorem dX2_drawShares_71 : decode cX2_drawShares 71 = .ok (.aload_n 0, 1) := by decide +kernel
theorem dX2_drawShares_72 : decode cX2_drawShares 72 = .ok (.getfield 24, 3) := by decide +kernel
theorem dX2_drawShares_75 : decode cX2_drawShares 75 = .ok (.iload_n 3, 1) := by decide +kernel
theorem dX2_drawShares_76 : decode cX2_drawShares 76 = .ok (.aload_n 0, 1) := by decide +kernel
theorem dX2_drawShares_77 : decode cX2_drawShares 77 = .ok (.getfield 24, 3) := by decide +kernel
theorem dX2_drawShares_80 : decode cX2_drawShares 80 = .ok (.iload_n 3, 1) := by decide +kernel
theorem dX2_drawShares_81 : decode cX2_drawShares 81 = .ok (.iaload, 1) := by decide +kernel
theorem dX2_drawShares_82 : decode cX2_drawShares 82 = .ok (.iload_n 2, 1) := by decide +kernel
theorem dX2_drawShares_83 : decode cX2_drawShares 83 = .ok (.iload_n 3, 1) := by decide +kernel
theorem dX2_drawShares_84 : decode cX2_drawShares 84 = .ok (.iconst 1, 1) := by decide +kernel
theorem dX2_drawShares_85 : decode cX2_drawShares 85 = .ok (.iadd, 1) := by decide +kernel
theorem dX2_drawShares_86 : decode cX2_drawShares 86 = .ok (.iload_n 1, 1) := by decide +kernel
theorem dX2_drawShares_87 : decode cX2_drawShares 87 = .ok (.invokestatic 85, 3) := by decide +kernel
theorem dX2_drawShares_90 : decode cX2_drawShares 90 = .ok (.imul, 1) := by decide +kernel
theorem dX2_drawShares_91 : decode cX2_drawShares 91 = .ok (.iadd, 1) := by decide +kernel
theorem dX2_drawShares_92 : decode cX2_drawShares 92 = .ok (.sipush 251, 3) := by decide +kernel
theorem dX2_drawShares_95 : decode cX2_drawShares 95 = .ok (.irem, 1) := by decide +kernel
theorem dX2_drawShares_96 : decode cX2_drawShares 96 = .ok (.iastore, 1) := by decide +kernel
theorem dX2_drawShares_97 : decode cX2_drawShares 97 = .ok (.iinc 3 1, 3) := by decide +kernel
theorem dX2_drawShares_100 : decode cX2_drawShares 100 = .ok (.goto (-35), 3) := by decide +kernel
theorem dX2_drawShares_103 : decode cX2_drawShares 103 = .ok (.iinc 1 1, 3) := by decide +kernel
theorem dX2_drawShares_106 : decode cX2_drawShares 106 = .ok (.goto (-56), 3) := by decide +kernel
theorem dX2_drawShares_109 : decode cX2_drawShares 109 = .ok (.aload_n 0, 1) := by decide +kernel
theorem dX2_drawShares_110 : decode cX2_drawShares 110 = .ok (.dup, 1) := by decide +kernel
theorem dX2_drawShares_111 : decode cX2_drawShares 111 = .ok (.getfield 55, 3) := by decide +kernel
theorem dX2_drawShares_114 : decode cX2_drawShares 114 = .ok (.iconst 1, 1) := by decide +kernel
theorem dX2_drawShares_115 : decode cX2_drawShares 115 = .ok (.iadd, 1) := by decide +kernel
theorem dX2_drawShares_116 : decode cX2_drawShares 116 = .ok (.putfield 55, 3) := by decide +kernel
theorem dX2_drawShares_119 : decode cX2_drawShares 119 = .ok (.aload_n 0, 1) := by decide +kernel
theorem dX2_drawShares_120 : decode cX2_drawShares 120 = .ok (.invokevirtual 79, 3) := by decide +kernel
theorem dX2_drawShares_123 : decode cX2_drawShares 123 = .ok (.ireturn, 1) := by decide +kernel
theorem dX2_draw_0 : decode cX2_draw 0 = .ok (.aload_n 0, 1) := by decide +kernel
theorem dX2_draw_1 : decode cX2_draw 1 = .ok (.sipush 171, 3) := by decide +kernel
theorem dX2_draw_4 : decode cX2_draw 4 = .ok (.aload_n 0, 1) := by decide +kernel
theorem dX2_draw_5 : decode cX2_draw 5 = .ok (.getfield 31, 3) := by decide +kernel
theorem dX2_draw_8 : decode cX2_draw 8 = .ok (.imul, 1) := by decide +kernel
theorem dX2_draw_9 : decode cX2_draw 9 = .ok (.sipush 11213, 3) := by decide +kernel
theorem dX2_draw_12 : decode cX2_draw 12 = .ok (.iadd, 1) := by decide +kernel
theorem dX2_draw_13 : decode cX2_draw 13 = .ok (.ldc 89, 2) := by decide +kernel
theorem dX2_draw_15 : decode cX2_draw 15 = .ok (.irem, 1) := by decide +kernel
theorem dX2_draw_16 : decode cX2_draw 16 = .ok (.putfield 31, 3) := by decide +kernel
theorem dX2_draw_19 : decode cX2_draw 19 = .ok (.aload_n 0, 1) := by decide +kernel
theorem dX2_draw_20 : decode cX2_draw 20 = .ok (.getfield 31, 3) := by decide +kernel
theorem dX2_draw_23 : decode cX2_draw 23 = .ok (.sipush 251, 3) := by decide +kernel
theorem dX2_draw_26 : decode cX2_draw 26 = .ok (.irem, 1) := by decide +kernel
theorem dX2_draw_27 : decode cX2_draw 27 = .ok (.ireturn, 1) := by decide +kernel
theorem dX2_powerOf_0 : decode cX2_powerOf 0 = .ok (.iconst 1, 1) := by decide +kernel
theorem dX2_powerOf_1 : decode cX2_powerOf 1 = .ok (.istore_n 2, 1) := by decide +kernel
theorem dX2_powerOf_2 : decode cX2_powerOf 2 = .ok (.iconst 0, 1) := by decide +kernel
theorem dX2_powerOf_3 : decode cX2_powerOf 3 = .ok (.istore_n 3, 1) := by decide +kernel
theorem dX2_powerOf_4 : decode cX2_powerOf 4 = .ok (.iload_n 3, 1) := by decide +kernel
theorem dX2_powerOf_5 : decode cX2_powerOf 5 = .ok (.iload_n 1, 1) := by decide +kernel
theorem dX2_powerOf_6 : decode cX2_powerOf 6 = .ok (.if_icmp .ge 17, 3) := by decide +kernel
theorem dX2_powerOf_9 : decode cX2_powerOf 9 = .ok (.iload_n 2, 1) := by decide +kernel
theorem dX2_powerOf_10 : decode cX2_powerOf 10 = .ok (.iload_n 0, 1) := by decide +kernel
theorem dX2_powerOf_11 : decode cX2_powerOf 11 = .ok (.imul, 1) := by decide +kernel
theorem dX2_powerOf_12 : decode cX2_powerOf 12 = .ok (.sipush 251, 3) := by decide +kernel
theorem dX2_powerOf_15 : decode cX2_powerOf 15 = .ok (.irem, 1) := by decide +kernel
theorem dX2_powerOf_16 : decode cX2_powerOf 16 = .ok (.istore_n 2, 1) := by decide +kernel
theorem dX2_powerOf_17 : decode cX2_powerOf 17 = .ok (.iinc 3 1, 3) := by decide +kernel
theorem dX2_powerOf_20 : decode cX2_powerOf 20 = .ok (.goto (-16), 3) := by decide +kernel
theorem dX2_powerOf_23 : decode cX2_powerOf 23 = .ok (.iload_n 2, 1) := by decide +kernel
theorem dX2_powerOf_24 : decode cX2_powerOf 24 = .ok (.ireturn, 1) := by decide +kernel
theorem dX2_countTry_0 : decode cX2_countTry 0 = .ok (.iconst 0, 1) := by decide +kernel
theorem dX2_countTry_1 : decode cX2_countTry 1 = .ok (.istore_n 3, 1) := by decide +kernel
theorem dX2_countTry_2 : decode cX2_countTry 2 = .ok (.iload_n 3, 1) := by decide +kernel
theorem dX2_countTry_3 : decode cX2_countTry 3 = .ok (.bipush 8, 2) := by decide +kernel
theorem dX2_countTry_5 : decode cX2_countTry 5 = .ok (.if_icmp .ge 23, 3) := by decide +kernel
theorem dX2_countTry_8 : decode cX2_countTry 8 = .ok (.aload_n 0, 1) := by decide +kernel
theorem dX2_countTry_9 : decode cX2_countTry 9 = .ok (.getfield 18, 3) := by decide +kernel
theorem dX2_countTry_12 : decode cX2_countTry 12 = .ok (.iload_n 3, 1) := by decide +kernel
theorem dX2_countTry_13 : decode cX2_countTry 13 = .ok (.dup2, 1) := by decide +kernel
theorem dX2_countTry_14 : decode cX2_countTry 14 = .ok (.iaload, 1) := by decide +kernel
theorem dX2_countTry_15 : decode cX2_countTry 15 = .ok (.iload_n 1, 1) := by decide +kernel
theorem dX2_countTry_16 : decode cX2_countTry 16 = .ok (.iload_n 3, 1) := by decide +kernel
theorem dX2_countTry_17 : decode cX2_countTry 17 = .ok (.ishr, 1) := by decide +kernel
theorem dX2_countTry_18 : decode cX2_countTry 18 = .ok (.iconst 1, 1) := by decide +kernel
theorem dX2_countTry_19 : decode cX2_countTry 19 = .ok (.iand, 1) := by decide +kernel
theorem dX2_countTry_20 : decode cX2_countTry 20 = .ok (.iadd, 1) := by decide +kernel
theorem dX2_countTry_21 : decode cX2_countTry 21 = .ok (.iastore, 1) := by decide +kernel
theorem dX2_countTry_22 : decode cX2_countTry 22 = .ok (.iinc 3 1, 3) := by decide +kernel
theorem dX2_countTry_25 : decode cX2_countTry 25 = .ok (.goto (-23), 3) := by decide +kernel
theorem dX2_countTry_28 : decode cX2_countTry 28 = .ok (.iload_n 2, 1) := by decide +kernel
theorem dX2_countTry_29 : decode cX2_countTry 29 = .ok (.ifCond .eq 11, 3) := by decide +kernel
theorem dX2_countTry_32 : decode cX2_countTry 32 = .ok (.aload_n 0, 1) := by decide +kernel
theorem dX2_countTry_33 : decode cX2_countTry 33 = .ok (.iconst 2, 1) := by decide +kernel
theorem dX2_countTry_34 : decode cX2_countTry 34 = .ok (.putfield 27, 3) := by decide +kernel
theorem dX2_countTry_37 : decode cX2_countTry 37 = .ok (.goto 13, 3) := by decide +kernel
theorem dX2_countTry_40 : decode cX2_countTry 40 = .ok (.aload_n 0, 1) := by decide +kernel
theorem dX2_countTry_41 : decode cX2_countTry 41 = .ok (.dup, 1) := by decide +kernel
theorem dX2_countTry_42 : decode cX2_countTry 42 = .ok (.getfield 58, 3) := by decide +kernel
theorem dX2_countTry_45 : decode cX2_countTry 45 = .ok (.iconst 1, 1) := by decide +kernel
theorem dX2_countTry_46 : decode cX2_countTry 46 = .ok (.iadd, 1) := by decide +kernel
theorem dX2_countTry_47 : decode cX2_countTry 47 = .ok (.putfield 58, 3) := by decide +kernel
theorem dX2_countTry_50 : decode cX2_countTry 50 = .ok (.return_, 1) := by decide +kernel
theorem dX3_init_0 : decode cX3_init 0 = .ok (.aload_n 0, 1) := by decide +kernel
theorem dX3_init_1 : decode cX3_init 1 = .ok (.invokespecial 3, 3) := by decide +kernel
theorem dX3_init_4 : decode cX3_init 4 = .ok (.aload_n 0, 1) := by decide +kernel
theorem dX3_init_5 : decode cX3_init 5 = .ok (.sipush 256, 3) := by decide +kernel
theorem dX3_init_8 : decode cX3_init 8 = .ok (.newarray .int, 2) := by decide +kernel
theorem dX3_init_10 : decode cX3_init 10 = .ok (.putfield 9, 3) := by decide +kernel
theorem dX3_init_13 : decode cX3_init 13 = .ok (.aload_n 0, 1) := by decide +kernel
theorem dX3_init_14 : decode cX3_init 14 = .ok (.sipush 256, 3) := by decide +kernel
theorem dX3_init_17 : decode cX3_init 17 = .ok (.newarray .int, 2) := by decide +kernel
theorem dX3_init_19 : decode cX3_init 19 = .ok (.putfield 15, 3) := by decide +kernel
theorem dX3_init_22 : decode cX3_init 22 = .ok (.return_, 1) := by decide +kernel
set_option maxRecDepth 20000 in
theorem ggX3_look_X2_ownedBy : GoodIn wsX3_look wsX2_ownedBy := goodIn_r _ [8, 9, 19, 20, 21, 22, 23, 24, 25, 26, 27, 28, 29, 30, 31, 32, 33, 34] (by decide +kernel) (by decide +kernel)
set_option maxRecDepth 20000 in
theorem gX3_look_X2_ownedBy : GoodIn wsX3_look (wsV RX3 18 RX2 yX2_ownedBy wsX2_ownedBy) := goodIn_app (goodIn_of _ (by decide +kernel)) ggX3_look_X2_ownedBy
set_option maxRecDepth 20000 in
theorem ggX3_look_J6_bitCount_0f7a4 : GoodIn wsX3_look wsJ6_bitCount_0f7a4 := goodIn_r _ [13, 14, 15, 16] (by decide +kernel) (by decide +kernel)
set_option maxRecDepth 20000 in
theorem gX3_look_J6_bitCount_0f7a4 : GoodIn wsX3_look (va_wsS RX3 27 yJ6_bitCount_0f7a4 wsJ6_bitCount_0f7a4) := goodIn_app (goodIn_of _ (by decide +kernel)) ggX3_look_J6_bitCount_0f7a4
theorem dX3_look_0 : decode cX3_look 0 = .ok (.iconst 0, 1) := by decide +kernel
theorem dX3_look_1 : decode cX3_look 1 = .ok (.istore_n 2, 1) := by decide +kernel
theorem dX3_look_2 : decode cX3_look 2 = .ok (.iload_n 2, 1) := by decide +kernel
theorem dX3_look_3 : decode cX3_look 3 = .ok (.bipush 8, 2) := by decide +kernel
theorem dX3_look_5 : decode cX3_look 5 = .ok (.if_icmp .ge 83, 3) := by decide +kernel
theorem dX3_look_8 : decode cX3_look 8 = .ok (.iconst 1, 1) := by decide +kernel
theorem dX3_look_9 : decode cX3_look 9 = .ok (.iload_n 2, 1) := by decide +kernel
theorem dX3_look_10 : decode cX3_look 10 = .ok (.ishl, 1) := by decide +kernel
theorem dX3_look_11 : decode cX3_look 11 = .ok (.istore_n 3, 1) := by decide +kernel
theorem dX3_look_12 : decode cX3_look 12 = .ok (.aload_n 1, 1) := by decide +kernel
theorem dX3_look_13 : decode cX3_look 13 = .ok (.iload_n 2, 1) := by decide +kernel
theorem dX3_look_14 : decode cX3_look 14 = .ok (.invokevirtual 18, 3) := by decide +kernel
theorem dX3_look_17 : decode cX3_look 17 = .ok (.istore 4, 2) := by decide +kernel
theorem dX3_look_19 : decode cX3_look 19 = .ok (.iconst 0, 1) := by decide +kernel
theorem dX3_look_20 : decode cX3_look 20 = .ok (.istore 5, 2) := by decide +kernel
theorem dX3_look_22 : decode cX3_look 22 = .ok (.iload 5, 2) := by decide +kernel
theorem dX3_look_24 : decode cX3_look 24 = .ok (.iload_n 3, 1) := by decide +kernel
theorem dX3_look_25 : decode cX3_look 25 = .ok (.if_icmp .ge 57, 3) := by decide +kernel
theorem dX3_look_28 : decode cX3_look 28 = .ok (.aload_n 0, 1) := by decide +kernel
theorem dX3_look_29 : decode cX3_look 29 = .ok (.getfield 9, 3) := by decide +kernel
theorem dX3_look_32 : decode cX3_look 32 = .ok (.iload 5, 2) := by decide +kernel
theorem dX3_look_34 : decode cX3_look 34 = .ok (.iload_n 3, 1) := by decide +kernel
theorem dX3_look_35 : decode cX3_look 35 = .ok (.ior, 1) := by decide +kernel
theorem dX3_look_36 : decode cX3_look 36 = .ok (.aload_n 0, 1) := by decide +kernel
theorem dX3_look_37 : decode cX3_look 37 = .ok (.getfield 9, 3) := by decide +kernel
theorem dX3_look_40 : decode cX3_look 40 = .ok (.iload 5, 2) := by decide +kernel
theorem dX3_look_42 : decode cX3_look 42 = .ok (.iaload, 1) := by decide +kernel
theorem dX3_look_43 : decode cX3_look 43 = .ok (.iload 4, 2) := by decide +kernel
theorem dX3_look_45 : decode cX3_look 45 = .ok (.ior, 1) := by decide +kernel
theorem dX3_look_46 : decode cX3_look 46 = .ok (.iastore, 1) := by decide +kernel
theorem dX3_look_47 : decode cX3_look 47 = .ok (.aload_n 0, 1) := by decide +kernel
theorem dX3_look_48 : decode cX3_look 48 = .ok (.getfield 15, 3) := by decide +kernel
theorem dX3_look_51 : decode cX3_look 51 = .ok (.iload 5, 2) := by decide +kernel
theorem dX3_look_53 : decode cX3_look 53 = .ok (.iload_n 3, 1) := by decide +kernel
theorem dX3_look_54 : decode cX3_look 54 = .ok (.ior, 1) := by decide +kernel
theorem dX3_look_55 : decode cX3_look 55 = .ok (.aload_n 0, 1) := by decide +kernel
theorem dX3_look_56 : decode cX3_look 56 = .ok (.getfield 15, 3) := by decide +kernel
theorem dX3_look_59 : decode cX3_look 59 = .ok (.iload 5, 2) := by decide +kernel
theorem dX3_look_61 : decode cX3_look 61 = .ok (.iaload, 1) := by decide +kernel
theorem dX3_look_62 : decode cX3_look 62 = .ok (.aload_n 1, 1) := by decide +kernel
theorem dX3_look_63 : decode cX3_look 63 = .ok (.getfield 24, 3) := by decide +kernel
theorem dX3_look_66 : decode cX3_look 66 = .ok (.iload_n 2, 1) := by decide +kernel
theorem dX3_look_67 : decode cX3_look 67 = .ok (.iaload, 1) := by decide +kernel
theorem dX3_look_68 : decode cX3_look 68 = .ok (.iload 5, 2) := by decide +kernel
theorem dX3_look_70 : decode cX3_look 70 = .ok (.iand, 1) := by decide +kernel
theorem dX3_look_71 : decode cX3_look 71 = .ok (.invokestatic 27, 3) := by decide +kernel
theorem dX3_look_74 : decode cX3_look 74 = .ok (.iadd, 1) := by decide +kernel
theorem dX3_look_75 : decode cX3_look 75 = .ok (.iastore, 1) := by decide +kernel
theorem dX3_look_76 : decode cX3_look 76 = .ok (.iinc 5 1, 3) := by decide +kernel
theorem dX3_look_79 : decode cX3_look 79 = .ok (.goto (-57), 3) := by decide +kernel
theorem dX3_look_82 : decode cX3_look 82 = .ok (.iinc 2 1, 3) := by decide +kernel
theorem dX3_look_85 : decode cX3_look 85 = .ok (.goto (-83), 3) := by decide +kernel
theorem dX3_look_88 : decode cX3_look 88 = .ok (.return_, 1) := by decide +kernel
theorem dX3_sharesOf_0 : decode cX3_sharesOf 0 = .ok (.iload_n 1, 1) := by decide +kernel
theorem dX3_sharesOf_1 : decode cX3_sharesOf 1 = .ok (.ifCond .lt 19, 3) := by decide +kernel
theorem dX3_sharesOf_4 : decode cX3_sharesOf 4 = .ok (.iload_n 1, 1) := by decide +kernel
theorem dX3_sharesOf_5 : decode cX3_sharesOf 5 = .ok (.sipush 256, 3) := by decide +kernel
theorem dX3_sharesOf_8 : decode cX3_sharesOf 8 = .ok (.if_icmp .ge 12, 3) := by decide +kernel
theorem dX3_sharesOf_11 : decode cX3_sharesOf 11 = .ok (.aload_n 0, 1) := by decide +kernel
theorem dX3_sharesOf_12 : decode cX3_sharesOf 12 = .ok (.getfield 9, 3) := by decide +kernel
theorem dX3_sharesOf_15 : decode cX3_sharesOf 15 = .ok (.iload_n 1, 1) := by decide +kernel
theorem dX3_sharesOf_16 : decode cX3_sharesOf 16 = .ok (.iaload, 1) := by decide +kernel
theorem dX3_sharesOf_17 : decode cX3_sharesOf 17 = .ok (.goto 4, 3) := by decide +kernel
theorem dX3_sharesOf_20 : decode cX3_sharesOf 20 = .ok (.iconst 0, 1) := by decide +kernel
theorem dX3_sharesOf_21 : decode cX3_sharesOf 21 = .ok (.ireturn, 1) := by decide +kernel
theorem dX3_pairsIn_0 : decode cX3_pairsIn 0 = .ok (.iload_n 1, 1) := by decide +kernel
theorem dX3_pairsIn_1 : decode cX3_pairsIn 1 = .ok (.ifCond .lt 19, 3) := by decide +kernel
theorem dX3_pairsIn_4 : decode cX3_pairsIn 4 = .ok (.iload_n 1, 1) := by decide +kernel
theorem dX3_pairsIn_5 : decode cX3_pairsIn 5 = .ok (.sipush 256, 3) := by decide +kernel
theorem dX3_pairsIn_8 : decode cX3_pairsIn 8 = .ok (.if_icmp .ge 12, 3) := by decide +kernel
theorem dX3_pairsIn_11 : decode cX3_pairsIn 11 = .ok (.aload_n 0, 1) := by decide +kernel
theorem dX3_pairsIn_12 : decode cX3_pairsIn 12 = .ok (.getfield 15, 3) := by decide +kernel
theorem dX3_pairsIn_15 : decode cX3_pairsIn 15 = .ok (.iload_n 1, 1) := by decide +kernel
theorem dX3_pairsIn_16 : decode cX3_pairsIn 16 = .ok (.iaload, 1) := by decide +kernel
theorem dX3_pairsIn_17 : decode cX3_pairsIn 17 = .ok (.goto 4, 3) := by decide +kernel
theorem dX3_pairsIn_20 : decode cX3_pairsIn 20 = .ok (.iconst 0, 1) := by decide +kernel
theorem dX3_pairsIn_21 : decode cX3_pairsIn 21 = .ok (.ireturn, 1) := by decide +kernel
