theorem dX5_init_0 : decode cX5_init 0 = .ok (.aload_n 0, 1) := by decide +kernel
theorem dX5_init_1 : decode cX5_init 1 = .ok (.invokespecial 1, 3) := by decide +kernel
theorem dX5_init_4 : decode cX5_init 4 = .ok (.aload_n 0, 1) := by decide +kernel
theorem dX5_init_5 : decode cX5_init 5 = .ok (.sipush 464, 3) := by decide +kernel
theorem dX5_init_8 : decode cX5_init 8 = .ok (.newarray .int, 2) := by decide +kernel
theorem dX5_init_10 : decode cX5_init 10 = .ok (.putfield 7, 3) := by decide +kernel
theorem dX5_init_13 : decode cX5_init 13 = .ok (.aload_n 0, 1) := by decide +kernel
theorem dX5_init_14 : decode cX5_init 14 = .ok (.bipush 60, 2) := by decide +kernel
theorem dX5_init_16 : decode cX5_init 16 = .ok (.newarray .char, 2) := by decide +kernel
theorem dX5_init_18 : decode cX5_init 18 = .ok (.putfield 13, 3) := by decide +kernel
theorem dX5_init_21 : decode cX5_init 21 = .ok (.aload_n 0, 1) := by decide +kernel
theorem dX5_init_22 : decode cX5_init 22 = .ok (.bipush 8, 2) := by decide +kernel
theorem dX5_init_24 : decode cX5_init 24 = .ok (.newarray .int, 2) := by decide +kernel
theorem dX5_init_26 : decode cX5_init 26 = .ok (.putfield 17, 3) := by decide +kernel
theorem dX5_init_29 : decode cX5_init 29 = .ok (.aload_n 0, 1) := by decide +kernel
theorem dX5_init_30 : decode cX5_init 30 = .ok (.sipush 180, 3) := by decide +kernel
theorem dX5_init_33 : decode cX5_init 33 = .ok (.newarray .int, 2) := by decide +kernel
theorem dX5_init_35 : decode cX5_init 35 = .ok (.putfield 20, 3) := by decide +kernel
theorem dX5_init_38 : decode cX5_init 38 = .ok (.aload_n 0, 1) := by decide +kernel
theorem dX5_init_39 : decode cX5_init 39 = .ok (.getfield 7, 3) := by decide +kernel
theorem dX5_init_42 : decode cX5_init 42 = .ok (.iconst 0, 1) := by decide +kernel
theorem dX5_init_43 : decode cX5_init 43 = .ok (.iconst 1, 1) := by decide +kernel
theorem dX5_init_44 : decode cX5_init 44 = .ok (.iastore, 1) := by decide +kernel
theorem dX5_init_45 : decode cX5_init 45 = .ok (.iconst 0, 1) := by decide +kernel
theorem dX5_init_46 : decode cX5_init 46 = .ok (.istore_n 1, 1) := by decide +kernel
theorem dX5_init_47 : decode cX5_init 47 = .ok (.iload_n 1, 1) := by decide +kernel
theorem dX5_init_48 : decode cX5_init 48 = .ok (.bipush 8, 2) := by decide +kernel
theorem dX5_init_50 : decode cX5_init 50 = .ok (.if_icmp .ge 28, 3) := by decide +kernel
theorem dX5_init_53 : decode cX5_init 53 = .ok (.aload_n 0, 1) := by decide +kernel
theorem dX5_init_54 : decode cX5_init 54 = .ok (.getfield 7, 3) := by decide +kernel
theorem dX5_init_57 : decode cX5_init 57 = .ok (.iconst 3, 1) := by decide +kernel
theorem dX5_init_58 : decode cX5_init 58 = .ok (.iload_n 1, 1) := by decide +kernel
theorem dX5_init_59 : decode cX5_init 59 = .ok (.iadd, 1) := by decide +kernel
theorem dX5_init_60 : decode cX5_init 60 = .ok (.iconst (-1), 1) := by decide +kernel
theorem dX5_init_61 : decode cX5_init 61 = .ok (.iastore, 1) := by decide +kernel
theorem dX5_init_62 : decode cX5_init 62 = .ok (.aload_n 0, 1) := by decide +kernel
theorem dX5_init_63 : decode cX5_init 63 = .ok (.getfield 7, 3) := by decide +kernel
theorem dX5_init_66 : decode cX5_init 66 = .ok (.bipush 40, 2) := by decide +kernel
theorem dX5_init_68 : decode cX5_init 68 = .ok (.iload_n 1, 1) := by decide +kernel
theorem dX5_init_69 : decode cX5_init 69 = .ok (.iadd, 1) := by decide +kernel
theorem dX5_init_70 : decode cX5_init 70 = .ok (.iconst (-1), 1) := by decide +kernel
theorem dX5_init_71 : decode cX5_init 71 = .ok (.iastore, 1) := by decide +kernel
theorem dX5_init_72 : decode cX5_init 72 = .ok (.iinc 1 1, 3) := by decide +kernel
theorem dX5_init_75 : decode cX5_init 75 = .ok (.goto (-28), 3) := by decide +kernel
theorem dX5_init_78 : decode cX5_init 78 = .ok (.return_, 1) := by decide +kernel
theorem dX5_thrown_0 : decode cX5_thrown 0 = .ok (.aload_n 0, 1) := by decide +kernel
theorem dX5_thrown_1 : decode cX5_thrown 1 = .ok (.getfield 23, 3) := by decide +kernel
theorem dX5_thrown_4 : decode cX5_thrown 4 = .ok (.ireturn, 1) := by decide +kernel
theorem dX5_in_0 : decode cX5_in 0 = .ok (.iload_n 0, 1) := by decide +kernel
theorem dX5_in_1 : decode cX5_in 1 = .ok (.iload_n 1, 1) := by decide +kernel
theorem dX5_in_2 : decode cX5_in 2 = .ok (.if_icmp .lt 12, 3) := by decide +kernel
theorem dX5_in_5 : decode cX5_in 5 = .ok (.iload_n 0, 1) := by decide +kernel
theorem dX5_in_6 : decode cX5_in 6 = .ok (.iload_n 2, 1) := by decide +kernel
theorem dX5_in_7 : decode cX5_in 7 = .ok (.if_icmp .gt 7, 3) := by decide +kernel
theorem dX5_in_10 : decode cX5_in 10 = .ok (.iconst 1, 1) := by decide +kernel
theorem dX5_in_11 : decode cX5_in 11 = .ok (.goto 4, 3) := by decide +kernel
theorem dX5_in_14 : decode cX5_in 14 = .ok (.iconst 0, 1) := by decide +kernel
theorem dX5_in_15 : decode cX5_in 15 = .ok (.ireturn, 1) := by decide +kernel
theorem dX5_goes_0 : decode cX5_goes 0 = .ok (.aload_n 0, 1) := by decide +kernel
theorem dX5_goes_1 : decode cX5_goes 1 = .ok (.iload_n 1, 1) := by decide +kernel
theorem dX5_goes_2 : decode cX5_goes 2 = .ok (.ifCond .ne 7, 3) := by decide +kernel
theorem dX5_goes_5 : decode cX5_goes 5 = .ok (.iconst 1, 1) := by decide +kernel
theorem dX5_goes_6 : decode cX5_goes 6 = .ok (.goto 12, 3) := by decide +kernel
theorem dX5_goes_9 : decode cX5_goes 9 = .ok (.iload_n 2, 1) := by decide +kernel
theorem dX5_goes_10 : decode cX5_goes 10 = .ok (.ifCond .ne 7, 3) := by decide +kernel
theorem dX5_goes_13 : decode cX5_goes 13 = .ok (.iconst 2, 1) := by decide +kernel
theorem dX5_goes_14 : decode cX5_goes 14 = .ok (.goto 4, 3) := by decide +kernel
theorem dX5_goes_17 : decode cX5_goes 17 = .ok (.iconst 0, 1) := by decide +kernel
theorem dX5_goes_18 : decode cX5_goes 18 = .ok (.putfield 23, 3) := by decide +kernel
theorem dX5_goes_21 : decode cX5_goes 21 = .ok (.aload_n 0, 1) := by decide +kernel
theorem dX5_goes_22 : decode cX5_goes 22 = .ok (.getfield 23, 3) := by decide +kernel
theorem dX5_goes_25 : decode cX5_goes 25 = .ok (.ifCond .ne 7, 3) := by decide +kernel
theorem dX5_goes_28 : decode cX5_goes 28 = .ok (.iconst 1, 1) := by decide +kernel
theorem dX5_goes_29 : decode cX5_goes 29 = .ok (.goto 4, 3) := by decide +kernel
theorem dX5_goes_32 : decode cX5_goes 32 = .ok (.iconst 0, 1) := by decide +kernel
theorem dX5_goes_33 : decode cX5_goes 33 = .ok (.ireturn, 1) := by decide +kernel
theorem dX5_bits_0 : decode cX5_bits 0 = .ok (.iconst 0, 1) := by decide +kernel
theorem dX5_bits_1 : decode cX5_bits 1 = .ok (.istore_n 1, 1) := by decide +kernel
theorem dX5_bits_2 : decode cX5_bits 2 = .ok (.iconst 0, 1) := by decide +kernel
theorem dX5_bits_3 : decode cX5_bits 3 = .ok (.istore_n 2, 1) := by decide +kernel
theorem dX5_bits_4 : decode cX5_bits 4 = .ok (.iload_n 2, 1) := by decide +kernel
theorem dX5_bits_5 : decode cX5_bits 5 = .ok (.bipush 8, 2) := by decide +kernel
theorem dX5_bits_7 : decode cX5_bits 7 = .ok (.if_icmp .ge 17, 3) := by decide +kernel
theorem dX5_bits_10 : decode cX5_bits 10 = .ok (.iload_n 1, 1) := by decide +kernel
theorem dX5_bits_11 : decode cX5_bits 11 = .ok (.iload_n 0, 1) := by decide +kernel
theorem dX5_bits_12 : decode cX5_bits 12 = .ok (.iload_n 2, 1) := by decide +kernel
theorem dX5_bits_13 : decode cX5_bits 13 = .ok (.ishr, 1) := by decide +kernel
theorem dX5_bits_14 : decode cX5_bits 14 = .ok (.iconst 1, 1) := by decide +kernel
theorem dX5_bits_15 : decode cX5_bits 15 = .ok (.iand, 1) := by decide +kernel
theorem dX5_bits_16 : decode cX5_bits 16 = .ok (.iadd, 1) := by decide +kernel
theorem dX5_bits_17 : decode cX5_bits 17 = .ok (.istore_n 1, 1) := by decide +kernel
theorem dX5_bits_18 : decode cX5_bits 18 = .ok (.iinc 2 1, 3) := by decide +kernel
theorem dX5_bits_21 : decode cX5_bits 21 = .ok (.goto (-17), 3) := by decide +kernel
theorem dX5_bits_24 : decode cX5_bits 24 = .ok (.iload_n 1, 1) := by decide +kernel
theorem dX5_bits_25 : decode cX5_bits 25 = .ok (.ireturn, 1) := by decide +kernel
theorem dX5_copies_0 : decode cX5_copies 0 = .ok (.iconst 0, 1) := by decide +kernel
theorem dX5_copies_1 : decode cX5_copies 1 = .ok (.istore_n 3, 1) := by decide +kernel
theorem dX5_copies_2 : decode cX5_copies 2 = .ok (.iload_n 3, 1) := by decide +kernel
theorem dX5_copies_3 : decode cX5_copies 3 = .ok (.bipush 58, 2) := by decide +kernel
theorem dX5_copies_5 : decode cX5_copies 5 = .ok (.if_icmp .ge 31, 3) := by decide +kernel
theorem dX5_copies_8 : decode cX5_copies 8 = .ok (.aload_n 0, 1) := by decide +kernel
theorem dX5_copies_9 : decode cX5_copies 9 = .ok (.getfield 7, 3) := by decide +kernel
theorem dX5_copies_12 : decode cX5_copies 12 = .ok (.bipush 58, 2) := by decide +kernel
theorem dX5_copies_14 : decode cX5_copies 14 = .ok (.iload_n 2, 1) := by decide +kernel
theorem dX5_copies_15 : decode cX5_copies 15 = .ok (.imul, 1) := by decide +kernel
theorem dX5_copies_16 : decode cX5_copies 16 = .ok (.iload_n 3, 1) := by decide +kernel
theorem dX5_copies_17 : decode cX5_copies 17 = .ok (.iadd, 1) := by decide +kernel
theorem dX5_copies_18 : decode cX5_copies 18 = .ok (.aload_n 0, 1) := by decide +kernel
theorem dX5_copies_19 : decode cX5_copies 19 = .ok (.getfield 7, 3) := by decide +kernel
theorem dX5_copies_22 : decode cX5_copies 22 = .ok (.bipush 58, 2) := by decide +kernel
theorem dX5_copies_24 : decode cX5_copies 24 = .ok (.iload_n 1, 1) := by decide +kernel
theorem dX5_copies_25 : decode cX5_copies 25 = .ok (.imul, 1) := by decide +kernel
theorem dX5_copies_26 : decode cX5_copies 26 = .ok (.iload_n 3, 1) := by decide +kernel
theorem dX5_copies_27 : decode cX5_copies 27 = .ok (.iadd, 1) := by decide +kernel
theorem dX5_copies_28 : decode cX5_copies 28 = .ok (.iaload, 1) := by decide +kernel
theorem dX5_copies_29 : decode cX5_copies 29 = .ok (.iastore, 1) := by decide +kernel
theorem dX5_copies_30 : decode cX5_copies 30 = .ok (.iinc 3 1, 3) := by decide +kernel
theorem dX5_copies_33 : decode cX5_copies 33 = .ok (.goto (-31), 3) := by decide +kernel
theorem dX5_copies_36 : decode cX5_copies 36 = .ok (.return_, 1) := by decide +kernel
set_option maxRecDepth 20000 in
theorem ggX5_saves_X5_copies : GoodIn wsX5_saves wsX5_copies := goodIn_r _ [6, 7, 8, 9, 10, 11, 12, 13, 14, 15, 16, 17] (by decide +kernel) (by decide +kernel)
set_option maxRecDepth 20000 in
theorem gX5_saves_X5_copies : GoodIn wsX5_saves (wsV RX5 30 RX5 yX5_copies wsX5_copies) := goodIn_app (goodIn_of _ (by decide +kernel)) ggX5_saves_X5_copies
theorem dX5_saves_0 : decode cX5_saves 0 = .ok (.aload_n 0, 1) := by decide +kernel
theorem dX5_saves_1 : decode cX5_saves 1 = .ok (.getfield 27, 3) := by decide +kernel
theorem dX5_saves_4 : decode cX5_saves 4 = .ok (.bipush 6, 2) := by decide +kernel
theorem dX5_saves_6 : decode cX5_saves 6 = .ok (.if_icmp .ne 35, 3) := by decide +kernel
theorem dX5_saves_9 : decode cX5_saves 9 = .ok (.iconst 1, 1) := by decide +kernel
theorem dX5_saves_10 : decode cX5_saves 10 = .ok (.istore_n 1, 1) := by decide +kernel
theorem dX5_saves_11 : decode cX5_saves 11 = .ok (.iload_n 1, 1) := by decide +kernel
theorem dX5_saves_12 : decode cX5_saves 12 = .ok (.bipush 6, 2) := by decide +kernel
theorem dX5_saves_14 : decode cX5_saves 14 = .ok (.if_icmp .ge 17, 3) := by decide +kernel
theorem dX5_saves_17 : decode cX5_saves 17 = .ok (.aload_n 0, 1) := by decide +kernel
theorem dX5_saves_18 : decode cX5_saves 18 = .ok (.iload_n 1, 1) := by decide +kernel
theorem dX5_saves_19 : decode cX5_saves 19 = .ok (.iconst 1, 1) := by decide +kernel
theorem dX5_saves_20 : decode cX5_saves 20 = .ok (.iadd, 1) := by decide +kernel
theorem dX5_saves_21 : decode cX5_saves 21 = .ok (.iload_n 1, 1) := by decide +kernel
theorem dX5_saves_22 : decode cX5_saves 22 = .ok (.invokevirtual 30, 3) := by decide +kernel
theorem dX5_saves_25 : decode cX5_saves 25 = .ok (.iinc 1 1, 3) := by decide +kernel
theorem dX5_saves_28 : decode cX5_saves 28 = .ok (.goto (-17), 3) := by decide +kernel
theorem dX5_saves_31 : decode cX5_saves 31 = .ok (.aload_n 0, 1) := by decide +kernel
theorem dX5_saves_32 : decode cX5_saves 32 = .ok (.dup, 1) := by decide +kernel
theorem dX5_saves_33 : decode cX5_saves 33 = .ok (.getfield 27, 3) := by decide +kernel
theorem dX5_saves_36 : decode cX5_saves 36 = .ok (.iconst 1, 1) := by decide +kernel
theorem dX5_saves_37 : decode cX5_saves 37 = .ok (.isub, 1) := by decide +kernel
theorem dX5_saves_38 : decode cX5_saves 38 = .ok (.putfield 27, 3) := by decide +kernel
theorem dX5_saves_41 : decode cX5_saves 41 = .ok (.aload_n 0, 1) := by decide +kernel
theorem dX5_saves_42 : decode cX5_saves 42 = .ok (.dup, 1) := by decide +kernel
theorem dX5_saves_43 : decode cX5_saves 43 = .ok (.getfield 27, 3) := by decide +kernel
theorem dX5_saves_46 : decode cX5_saves 46 = .ok (.iconst 1, 1) := by decide +kernel
theorem dX5_saves_47 : decode cX5_saves 47 = .ok (.iadd, 1) := by decide +kernel
theorem dX5_saves_48 : decode cX5_saves 48 = .ok (.putfield 27, 3) := by decide +kernel
theorem dX5_saves_51 : decode cX5_saves 51 = .ok (.aload_n 0, 1) := by decide +kernel
theorem dX5_saves_52 : decode cX5_saves 52 = .ok (.iconst 0, 1) := by decide +kernel
theorem dX5_saves_53 : decode cX5_saves 53 = .ok (.aload_n 0, 1) := by decide +kernel
theorem dX5_saves_54 : decode cX5_saves 54 = .ok (.getfield 27, 3) := by decide +kernel
theorem dX5_saves_57 : decode cX5_saves 57 = .ok (.invokevirtual 30, 3) := by decide +kernel
theorem dX5_saves_60 : decode cX5_saves 60 = .ok (.return_, 1) := by decide +kernel
set_option maxRecDepth 20000 in
theorem ggX5_isKeeper_X5_in : GoodIn wsX5_isKeeper wsX5_in := goodIn_r _ [5] (by decide +kernel) (by decide +kernel)
set_option maxRecDepth 20000 in
theorem gX5_isKeeper_X5_in : GoodIn wsX5_isKeeper (va_wsS RX5 34 yX5_in wsX5_in) := goodIn_app (goodIn_of _ (by decide +kernel)) ggX5_isKeeper_X5_in
theorem dX5_isKeeper_0 : decode cX5_isKeeper 0 = .ok (.iload_n 1, 1) := by decide +kernel
theorem dX5_isKeeper_1 : decode cX5_isKeeper 1 = .ok (.iconst 0, 1) := by decide +kernel
theorem dX5_isKeeper_2 : decode cX5_isKeeper 2 = .ok (.aload_n 0, 1) := by decide +kernel
theorem dX5_isKeeper_3 : decode cX5_isKeeper 3 = .ok (.getfield 7, 3) := by decide +kernel
theorem dX5_isKeeper_6 : decode cX5_isKeeper 6 = .ok (.iconst 1, 1) := by decide +kernel
theorem dX5_isKeeper_7 : decode cX5_isKeeper 7 = .ok (.iaload, 1) := by decide +kernel
theorem dX5_isKeeper_8 : decode cX5_isKeeper 8 = .ok (.iconst 1, 1) := by decide +kernel
theorem dX5_isKeeper_9 : decode cX5_isKeeper 9 = .ok (.isub, 1) := by decide +kernel
theorem dX5_isKeeper_10 : decode cX5_isKeeper 10 = .ok (.invokestatic 34, 3) := by decide +kernel
theorem dX5_isKeeper_13 : decode cX5_isKeeper 13 = .ok (.ireturn, 1) := by decide +kernel
theorem dX5_has_0 : decode cX5_has 0 = .ok (.iload_n 0, 1) := by decide +kernel
theorem dX5_has_1 : decode cX5_has 1 = .ok (.iload_n 1, 1) := by decide +kernel
theorem dX5_has_2 : decode cX5_has 2 = .ok (.ishr, 1) := by decide +kernel
theorem dX5_has_3 : decode cX5_has 3 = .ok (.iconst 1, 1) := by decide +kernel
theorem dX5_has_4 : decode cX5_has 4 = .ok (.iand, 1) := by decide +kernel
theorem dX5_has_5 : decode cX5_has 5 = .ok (.iconst 1, 1) := by decide +kernel
theorem dX5_has_6 : decode cX5_has 6 = .ok (.if_icmp .ne 7, 3) := by decide +kernel
theorem dX5_has_9 : decode cX5_has 9 = .ok (.iconst 1, 1) := by decide +kernel
theorem dX5_has_10 : decode cX5_has 10 = .ok (.goto 4, 3) := by decide +kernel
theorem dX5_has_13 : decode cX5_has 13 = .ok (.iconst 0, 1) := by decide +kernel
theorem dX5_has_14 : decode cX5_has 14 = .ok (.ireturn, 1) := by decide +kernel
theorem dX5_draws_0 : decode cX5_draws 0 = .ok (.aload_n 0, 1) := by decide +kernel
theorem dX5_draws_1 : decode cX5_draws 1 = .ok (.getfield 7, 3) := by decide +kernel
theorem dX5_draws_4 : decode cX5_draws 4 = .ok (.iload_n 1, 1) := by decide +kernel
theorem dX5_draws_5 : decode cX5_draws 5 = .ok (.sipush 171, 3) := by decide +kernel
theorem dX5_draws_8 : decode cX5_draws 8 = .ok (.aload_n 0, 1) := by decide +kernel
theorem dX5_draws_9 : decode cX5_draws 9 = .ok (.getfield 7, 3) := by decide +kernel
theorem dX5_draws_12 : decode cX5_draws 12 = .ok (.iload_n 1, 1) := by decide +kernel
theorem dX5_draws_13 : decode cX5_draws 13 = .ok (.iaload, 1) := by decide +kernel
theorem dX5_draws_14 : decode cX5_draws 14 = .ok (.imul, 1) := by decide +kernel
theorem dX5_draws_15 : decode cX5_draws 15 = .ok (.sipush 11213, 3) := by decide +kernel
theorem dX5_draws_18 : decode cX5_draws 18 = .ok (.iadd, 1) := by decide +kernel
theorem dX5_draws_19 : decode cX5_draws 19 = .ok (.ldc 38, 2) := by decide +kernel
theorem dX5_draws_21 : decode cX5_draws 21 = .ok (.irem, 1) := by decide +kernel
theorem dX5_draws_22 : decode cX5_draws 22 = .ok (.iastore, 1) := by decide +kernel
theorem dX5_draws_23 : decode cX5_draws 23 = .ok (.aload_n 0, 1) := by decide +kernel
theorem dX5_draws_24 : decode cX5_draws 24 = .ok (.getfield 7, 3) := by decide +kernel
theorem dX5_draws_27 : decode cX5_draws 27 = .ok (.iload_n 1, 1) := by decide +kernel
theorem dX5_draws_28 : decode cX5_draws 28 = .ok (.iaload, 1) := by decide +kernel
theorem dX5_draws_29 : decode cX5_draws 29 = .ok (.sipush 251, 3) := by decide +kernel
theorem dX5_draws_32 : decode cX5_draws 32 = .ok (.irem, 1) := by decide +kernel
theorem dX5_draws_33 : decode cX5_draws 33 = .ok (.ireturn, 1) := by decide +kernel
set_option maxRecDepth 20000 in
theorem ggX5_deals_X5_draws : GoodIn wsX5_deals wsX5_draws := goodIn_r _ [7, 2, 8, 12, 13, 14, 15, 16, 17, 18, 19, 20, 21] (by decide +kernel) (by decide +kernel)
set_option maxRecDepth 20000 in
theorem gX5_deals_X5_draws : GoodIn wsX5_deals (wsV RX5 39 RX5 yX5_draws wsX5_draws) := goodIn_app (goodIn_of _ (by decide +kernel)) ggX5_deals_X5_draws
set_option maxRecDepth 20000 in
theorem ggX5_deals_X5_has : GoodIn wsX5_deals wsX5_has := goodIn_r _ [11] (by decide +kernel) (by decide +kernel)
set_option maxRecDepth 20000 in
theorem gX5_deals_X5_has : GoodIn wsX5_deals (va_wsS RX5 43 yX5_has wsX5_has) := goodIn_app (goodIn_of _ (by decide +kernel)) ggX5_deals_X5_has
theorem dX5_deals_0 : decode cX5_deals 0 = .ok (.aload_n 0, 1) := by decide +kernel
theorem dX5_deals_1 : decode cX5_deals 1 = .ok (.getfield 17, 3) := by decide +kernel
theorem dX5_deals_4 : decode cX5_deals 4 = .ok (.iconst 0, 1) := by decide +kernel
theorem dX5_deals_5 : decode cX5_deals 5 = .ok (.aload_n 0, 1) := by decide +kernel
theorem dX5_deals_6 : decode cX5_deals 6 = .ok (.getfield 7, 3) := by decide +kernel
theorem dX5_deals_9 : decode cX5_deals 9 = .ok (.iload_n 1, 1) := by decide +kernel
theorem dX5_deals_10 : decode cX5_deals 10 = .ok (.bipush 28, 2) := by decide +kernel
theorem dX5_deals_12 : decode cX5_deals 12 = .ok (.iadd, 1) := by decide +kernel
theorem dX5_deals_13 : decode cX5_deals 13 = .ok (.iaload, 1) := by decide +kernel
theorem dX5_deals_14 : decode cX5_deals 14 = .ok (.iastore, 1) := by decide +kernel
theorem dX5_deals_15 : decode cX5_deals 15 = .ok (.iconst 1, 1) := by decide +kernel
theorem dX5_deals_16 : decode cX5_deals 16 = .ok (.istore_n 2, 1) := by decide +kernel
theorem dX5_deals_17 : decode cX5_deals 17 = .ok (.iload_n 2, 1) := by decide +kernel
theorem dX5_deals_18 : decode cX5_deals 18 = .ok (.aload_n 0, 1) := by decide +kernel
theorem dX5_deals_19 : decode cX5_deals 19 = .ok (.getfield 7, 3) := by decide +kernel
theorem dX5_deals_22 : decode cX5_deals 22 = .ok (.iload_n 1, 1) := by decide +kernel
theorem dX5_deals_23 : decode cX5_deals 23 = .ok (.bipush 29, 2) := by decide +kernel
theorem dX5_deals_25 : decode cX5_deals 25 = .ok (.iadd, 1) := by decide +kernel
theorem dX5_deals_26 : decode cX5_deals 26 = .ok (.iaload, 1) := by decide +kernel
theorem dX5_deals_27 : decode cX5_deals 27 = .ok (.if_icmp .ge 20, 3) := by decide +kernel
theorem dX5_deals_30 : decode cX5_deals 30 = .ok (.aload_n 0, 1) := by decide +kernel
theorem dX5_deals_31 : decode cX5_deals 31 = .ok (.getfield 17, 3) := by decide +kernel
theorem dX5_deals_34 : decode cX5_deals 34 = .ok (.iload_n 2, 1) := by decide +kernel
theorem dX5_deals_35 : decode cX5_deals 35 = .ok (.aload_n 0, 1) := by decide +kernel
theorem dX5_deals_36 : decode cX5_deals 36 = .ok (.iload_n 1, 1) := by decide +kernel
theorem dX5_deals_37 : decode cX5_deals 37 = .ok (.invokevirtual 39, 3) := by decide +kernel
theorem dX5_deals_40 : decode cX5_deals 40 = .ok (.iastore, 1) := by decide +kernel
theorem dX5_deals_41 : decode cX5_deals 41 = .ok (.iinc 2 1, 3) := by decide +kernel
theorem dX5_deals_44 : decode cX5_deals 44 = .ok (.goto (-27), 3) := by decide +kernel
theorem dX5_deals_47 : decode cX5_deals 47 = .ok (.iconst 0, 1) := by decide +kernel
theorem dX5_deals_48 : decode cX5_deals 48 = .ok (.istore_n 2, 1) := by decide +kernel
theorem dX5_deals_49 : decode cX5_deals 49 = .ok (.iconst 0, 1) := by decide +kernel
theorem dX5_deals_50 : decode cX5_deals 50 = .ok (.istore_n 3, 1) := by decide +kernel
theorem dX5_deals_51 : decode cX5_deals 51 = .ok (.iload_n 3, 1) := by decide +kernel
theorem dX5_deals_52 : decode cX5_deals 52 = .ok (.bipush 8, 2) := by decide +kernel
theorem dX5_deals_54 : decode cX5_deals 54 = .ok (.if_icmp .ge 138, 3) := by decide +kernel
theorem dX5_deals_57 : decode cX5_deals 57 = .ok (.aload_n 0, 1) := by decide +kernel
theorem dX5_deals_58 : decode cX5_deals 58 = .ok (.getfield 7, 3) := by decide +kernel
theorem dX5_deals_61 : decode cX5_deals 61 = .ok (.iload_n 1, 1) := by decide +kernel
theorem dX5_deals_62 : decode cX5_deals 62 = .ok (.iconst 2, 1) := by decide +kernel
theorem dX5_deals_63 : decode cX5_deals 63 = .ok (.iadd, 1) := by decide +kernel
theorem dX5_deals_64 : decode cX5_deals 64 = .ok (.iaload, 1) := by decide +kernel
theorem dX5_deals_65 : decode cX5_deals 65 = .ok (.iload_n 3, 1) := by decide +kernel
theorem dX5_deals_66 : decode cX5_deals 66 = .ok (.invokestatic 43, 3) := by decide +kernel
theorem dX5_deals_69 : decode cX5_deals 69 = .ok (.istore 4, 2) := by decide +kernel
theorem dX5_deals_71 : decode cX5_deals 71 = .ok (.iconst 0, 1) := by decide +kernel
theorem dX5_deals_72 : decode cX5_deals 72 = .ok (.istore 5, 2) := by decide +kernel
theorem dX5_deals_74 : decode cX5_deals 74 = .ok (.aload_n 0, 1) := by decide +kernel
theorem dX5_deals_75 : decode cX5_deals 75 = .ok (.getfield 7, 3) := by decide +kernel
theorem dX5_deals_78 : decode cX5_deals 78 = .ok (.iload_n 1, 1) := by decide +kernel
theorem dX5_deals_79 : decode cX5_deals 79 = .ok (.bipush 29, 2) := by decide +kernel
theorem dX5_deals_81 : decode cX5_deals 81 = .ok (.iadd, 1) := by decide +kernel
theorem dX5_deals_82 : decode cX5_deals 82 = .ok (.iaload, 1) := by decide +kernel
theorem dX5_deals_83 : decode cX5_deals 83 = .ok (.iconst 1, 1) := by decide +kernel
theorem dX5_deals_84 : decode cX5_deals 84 = .ok (.isub, 1) := by decide +kernel
theorem dX5_deals_85 : decode cX5_deals 85 = .ok (.istore 6, 2) := by decide +kernel
theorem dX5_deals_87 : decode cX5_deals 87 = .ok (.iload 6, 2) := by decide +kernel
theorem dX5_deals_89 : decode cX5_deals 89 = .ok (.ifCond .lt 29, 3) := by decide +kernel
theorem dX5_deals_92 : decode cX5_deals 92 = .ok (.iload 5, 2) := by decide +kernel
theorem dX5_deals_94 : decode cX5_deals 94 = .ok (.iload_n 3, 1) := by decide +kernel
theorem dX5_deals_95 : decode cX5_deals 95 = .ok (.iconst 1, 1) := by decide +kernel
theorem dX5_deals_96 : decode cX5_deals 96 = .ok (.iadd, 1) := by decide +kernel
theorem dX5_deals_97 : decode cX5_deals 97 = .ok (.imul, 1) := by decide +kernel
theorem dX5_deals_98 : decode cX5_deals 98 = .ok (.aload_n 0, 1) := by decide +kernel
theorem dX5_deals_99 : decode cX5_deals 99 = .ok (.getfield 17, 3) := by decide +kernel
theorem dX5_deals_102 : decode cX5_deals 102 = .ok (.iload 6, 2) := by decide +kernel
theorem dX5_deals_104 : decode cX5_deals 104 = .ok (.iaload, 1) := by decide +kernel
theorem dX5_deals_105 : decode cX5_deals 105 = .ok (.iadd, 1) := by decide +kernel
theorem dX5_deals_106 : decode cX5_deals 106 = .ok (.sipush 251, 3) := by decide +kernel
theorem dX5_deals_109 : decode cX5_deals 109 = .ok (.irem, 1) := by decide +kernel
theorem dX5_deals_110 : decode cX5_deals 110 = .ok (.istore 5, 2) := by decide +kernel
theorem dX5_deals_112 : decode cX5_deals 112 = .ok (.iinc 6 (-1), 3) := by decide +kernel
theorem dX5_deals_115 : decode cX5_deals 115 = .ok (.goto (-28), 3) := by decide +kernel
theorem dX5_deals_118 : decode cX5_deals 118 = .ok (.aload_n 0, 1) := by decide +kernel
theorem dX5_deals_119 : decode cX5_deals 119 = .ok (.getfield 7, 3) := by decide +kernel
theorem dX5_deals_122 : decode cX5_deals 122 = .ok (.iload_n 1, 1) := by decide +kernel
theorem dX5_deals_123 : decode cX5_deals 123 = .ok (.bipush 32, 2) := by decide +kernel
theorem dX5_deals_125 : decode cX5_deals 125 = .ok (.iadd, 1) := by decide +kernel
theorem dX5_deals_126 : decode cX5_deals 126 = .ok (.iload_n 3, 1) := by decide +kernel
theorem dX5_deals_127 : decode cX5_deals 127 = .ok (.iadd, 1) := by decide +kernel
theorem dX5_deals_128 : decode cX5_deals 128 = .ok (.iload 4, 2) := by decide +kernel
theorem dX5_deals_130 : decode cX5_deals 130 = .ok (.ifCond .eq 8, 3) := by decide +kernel
theorem dX5_deals_133 : decode cX5_deals 133 = .ok (.iload 5, 2) := by decide +kernel
theorem dX5_deals_135 : decode cX5_deals 135 = .ok (.goto 4, 3) := by decide +kernel
theorem dX5_deals_138 : decode cX5_deals 138 = .ok (.iconst 0, 1) := by decide +kernel
theorem dX5_deals_139 : decode cX5_deals 139 = .ok (.iastore, 1) := by decide +kernel
theorem dX5_deals_140 : decode cX5_deals 140 = .ok (.aload_n 0, 1) := by decide +kernel
theorem dX5_deals_141 : decode cX5_deals 141 = .ok (.getfield 7, 3) := by decide +kernel
theorem dX5_deals_144 : decode cX5_deals 144 = .ok (.iload_n 1, 1) := by decide +kernel
theorem dX5_deals_145 : decode cX5_deals 145 = .ok (.bipush 40, 2) := by decide +kernel
theorem dX5_deals_147 : decode cX5_deals 147 = .ok (.iadd, 1) := by decide +kernel
theorem dX5_deals_148 : decode cX5_deals 148 = .ok (.iload_n 3, 1) := by decide +kernel
theorem dX5_deals_149 : decode cX5_deals 149 = .ok (.iadd, 1) := by decide +kernel
theorem dX5_deals_150 : decode cX5_deals 150 = .ok (.iload 4, 2) := by decide +kernel
theorem dX5_deals_152 : decode cX5_deals 152 = .ok (.ifCond .eq 7, 3) := by decide +kernel
theorem dX5_deals_155 : decode cX5_deals 155 = .ok (.iload_n 3, 1) := by decide +kernel
theorem dX5_deals_156 : decode cX5_deals 156 = .ok (.goto 4, 3) := by decide +kernel
theorem dX5_deals_159 : decode cX5_deals 159 = .ok (.iconst (-1), 1) := by decide +kernel
theorem dX5_deals_160 : decode cX5_deals 160 = .ok (.iastore, 1) := by decide +kernel
theorem dX5_deals_161 : decode cX5_deals 161 = .ok (.aload_n 0, 1) := by decide +kernel
theorem dX5_deals_162 : decode cX5_deals 162 = .ok (.getfield 7, 3) := by decide +kernel
theorem dX5_deals_165 : decode cX5_deals 165 = .ok (.iload_n 1, 1) := by decide +kernel
theorem dX5_deals_166 : decode cX5_deals 166 = .ok (.bipush 48, 2) := by decide +kernel
theorem dX5_deals_168 : decode cX5_deals 168 = .ok (.iadd, 1) := by decide +kernel
theorem dX5_deals_169 : decode cX5_deals 169 = .ok (.iload_n 3, 1) := by decide +kernel
theorem dX5_deals_170 : decode cX5_deals 170 = .ok (.iadd, 1) := by decide +kernel
theorem dX5_deals_171 : decode cX5_deals 171 = .ok (.iconst 0, 1) := by decide +kernel
theorem dX5_deals_172 : decode cX5_deals 172 = .ok (.iastore, 1) := by decide +kernel
theorem dX5_deals_173 : decode cX5_deals 173 = .ok (.iload_n 2, 1) := by decide +kernel
theorem dX5_deals_174 : decode cX5_deals 174 = .ok (.iload 4, 2) := by decide +kernel
theorem dX5_deals_176 : decode cX5_deals 176 = .ok (.ifCond .eq 7, 3) := by decide +kernel
theorem dX5_deals_179 : decode cX5_deals 179 = .ok (.iconst 1, 1) := by decide +kernel
theorem dX5_deals_180 : decode cX5_deals 180 = .ok (.goto 4, 3) := by decide +kernel
theorem dX5_deals_183 : decode cX5_deals 183 = .ok (.iconst 0, 1) := by decide +kernel
theorem dX5_deals_184 : decode cX5_deals 184 = .ok (.iadd, 1) := by decide +kernel
theorem dX5_deals_185 : decode cX5_deals 185 = .ok (.istore_n 2, 1) := by decide +kernel
theorem dX5_deals_186 : decode cX5_deals 186 = .ok (.iinc 3 1, 3) := by decide +kernel
theorem dX5_deals_189 : decode cX5_deals 189 = .ok (.goto (-138), 3) := by decide +kernel
theorem dX5_deals_192 : decode cX5_deals 192 = .ok (.aload_n 0, 1) := by decide +kernel
theorem dX5_deals_193 : decode cX5_deals 193 = .ok (.getfield 7, 3) := by decide +kernel
theorem dX5_deals_196 : decode cX5_deals 196 = .ok (.iload_n 1, 1) := by decide +kernel
theorem dX5_deals_197 : decode cX5_deals 197 = .ok (.bipush 56, 2) := by decide +kernel
theorem dX5_deals_199 : decode cX5_deals 199 = .ok (.iadd, 1) := by decide +kernel
theorem dX5_deals_200 : decode cX5_deals 200 = .ok (.dup2, 1) := by decide +kernel
theorem dX5_deals_201 : decode cX5_deals 201 = .ok (.iaload, 1) := by decide +kernel
theorem dX5_deals_202 : decode cX5_deals 202 = .ok (.iconst 1, 1) := by decide +kernel
theorem dX5_deals_203 : decode cX5_deals 203 = .ok (.iadd, 1) := by decide +kernel
theorem dX5_deals_204 : decode cX5_deals 204 = .ok (.iastore, 1) := by decide +kernel
theorem dX5_deals_205 : decode cX5_deals 205 = .ok (.iload_n 2, 1) := by decide +kernel
theorem dX5_deals_206 : decode cX5_deals 206 = .ok (.ireturn, 1) := by decide +kernel
set_option maxRecDepth 20000 in
theorem ggX5_dies_X5_has : GoodIn wsX5_dies wsX5_has := goodIn_r _ [5] (by decide +kernel) (by decide +kernel)
set_option maxRecDepth 20000 in
theorem gX5_dies_X5_has : GoodIn wsX5_dies (va_wsS RX5 43 yX5_has wsX5_has) := goodIn_app (goodIn_of _ (by decide +kernel)) ggX5_dies_X5_has
theorem dX5_dies_0 : decode cX5_dies 0 = .ok (.aload_n 0, 1) := by decide +kernel
theorem dX5_dies_1 : decode cX5_dies 1 = .ok (.getfield 7, 3) := by decide +kernel
theorem dX5_dies_4 : decode cX5_dies 4 = .ok (.iload_n 1, 1) := by decide +kernel
theorem dX5_dies_5 : decode cX5_dies 5 = .ok (.iconst 3, 1) := by decide +kernel
theorem dX5_dies_6 : decode cX5_dies 6 = .ok (.iadd, 1) := by decide +kernel
theorem dX5_dies_7 : decode cX5_dies 7 = .ok (.iload_n 2, 1) := by decide +kernel
theorem dX5_dies_8 : decode cX5_dies 8 = .ok (.iadd, 1) := by decide +kernel
theorem dX5_dies_9 : decode cX5_dies 9 = .ok (.iaload, 1) := by decide +kernel
theorem dX5_dies_10 : decode cX5_dies 10 = .ok (.istore_n 3, 1) := by decide +kernel
theorem dX5_dies_11 : decode cX5_dies 11 = .ok (.iload_n 3, 1) := by decide +kernel
theorem dX5_dies_12 : decode cX5_dies 12 = .ok (.ifCond .lt 22, 3) := by decide +kernel
theorem dX5_dies_15 : decode cX5_dies 15 = .ok (.aload_n 0, 1) := by decide +kernel
theorem dX5_dies_16 : decode cX5_dies 16 = .ok (.getfield 7, 3) := by decide +kernel
theorem dX5_dies_19 : decode cX5_dies 19 = .ok (.iload_n 1, 1) := by decide +kernel
theorem dX5_dies_20 : decode cX5_dies 20 = .ok (.iconst 2, 1) := by decide +kernel
theorem dX5_dies_21 : decode cX5_dies 21 = .ok (.iadd, 1) := by decide +kernel
theorem dX5_dies_22 : decode cX5_dies 22 = .ok (.iaload, 1) := by decide +kernel
theorem dX5_dies_23 : decode cX5_dies 23 = .ok (.iload_n 3, 1) := by decide +kernel
theorem dX5_dies_24 : decode cX5_dies 24 = .ok (.invokestatic 43, 3) := by decide +kernel
theorem dX5_dies_27 : decode cX5_dies 27 = .ok (.ifCond .eq 7, 3) := by decide +kernel
theorem dX5_dies_30 : decode cX5_dies 30 = .ok (.iconst 1, 1) := by decide +kernel
theorem dX5_dies_31 : decode cX5_dies 31 = .ok (.goto 4, 3) := by decide +kernel
theorem dX5_dies_34 : decode cX5_dies 34 = .ok (.iconst 0, 1) := by decide +kernel
theorem dX5_dies_35 : decode cX5_dies 35 = .ok (.istore 4, 2) := by decide +kernel
theorem dX5_dies_37 : decode cX5_dies 37 = .ok (.iconst 0, 1) := by decide +kernel
theorem dX5_dies_38 : decode cX5_dies 38 = .ok (.istore 5, 2) := by decide +kernel
theorem dX5_dies_40 : decode cX5_dies 40 = .ok (.iconst 0, 1) := by decide +kernel
theorem dX5_dies_41 : decode cX5_dies 41 = .ok (.istore 6, 2) := by decide +kernel
theorem dX5_dies_43 : decode cX5_dies 43 = .ok (.iload 6, 2) := by decide +kernel
theorem dX5_dies_45 : decode cX5_dies 45 = .ok (.bipush 8, 2) := by decide +kernel
theorem dX5_dies_47 : decode cX5_dies 47 = .ok (.if_icmp .ge 62, 3) := by decide +kernel
theorem dX5_dies_50 : decode cX5_dies 50 = .ok (.aload_n 0, 1) := by decide +kernel
theorem dX5_dies_51 : decode cX5_dies 51 = .ok (.getfield 7, 3) := by decide +kernel
theorem dX5_dies_54 : decode cX5_dies 54 = .ok (.iload_n 1, 1) := by decide +kernel
theorem dX5_dies_55 : decode cX5_dies 55 = .ok (.bipush 40, 2) := by decide +kernel
theorem dX5_dies_57 : decode cX5_dies 57 = .ok (.iadd, 1) := by decide +kernel
theorem dX5_dies_58 : decode cX5_dies 58 = .ok (.iload 6, 2) := by decide +kernel
theorem dX5_dies_60 : decode cX5_dies 60 = .ok (.iadd, 1) := by decide +kernel
theorem dX5_dies_61 : decode cX5_dies 61 = .ok (.iaload, 1) := by decide +kernel
theorem dX5_dies_62 : decode cX5_dies 62 = .ok (.iload_n 2, 1) := by decide +kernel
theorem dX5_dies_63 : decode cX5_dies 63 = .ok (.if_icmp .ne 40, 3) := by decide +kernel
theorem dX5_dies_66 : decode cX5_dies 66 = .ok (.aload_n 0, 1) := by decide +kernel
theorem dX5_dies_67 : decode cX5_dies 67 = .ok (.getfield 7, 3) := by decide +kernel
theorem dX5_dies_70 : decode cX5_dies 70 = .ok (.iload_n 1, 1) := by decide +kernel
theorem dX5_dies_71 : decode cX5_dies 71 = .ok (.bipush 40, 2) := by decide +kernel
theorem dX5_dies_73 : decode cX5_dies 73 = .ok (.iadd, 1) := by decide +kernel
theorem dX5_dies_74 : decode cX5_dies 74 = .ok (.iload 6, 2) := by decide +kernel
theorem dX5_dies_76 : decode cX5_dies 76 = .ok (.iadd, 1) := by decide +kernel
theorem dX5_dies_77 : decode cX5_dies 77 = .ok (.iload 4, 2) := by decide +kernel
theorem dX5_dies_79 : decode cX5_dies 79 = .ok (.ifCond .eq 7, 3) := by decide +kernel
theorem dX5_dies_82 : decode cX5_dies 82 = .ok (.iload_n 3, 1) := by decide +kernel
theorem dX5_dies_83 : decode cX5_dies 83 = .ok (.goto 4, 3) := by decide +kernel
theorem dX5_dies_86 : decode cX5_dies 86 = .ok (.iconst (-1), 1) := by decide +kernel
theorem dX5_dies_87 : decode cX5_dies 87 = .ok (.iastore, 1) := by decide +kernel
theorem dX5_dies_88 : decode cX5_dies 88 = .ok (.iload 5, 2) := by decide +kernel
theorem dX5_dies_90 : decode cX5_dies 90 = .ok (.iload 4, 2) := by decide +kernel
theorem dX5_dies_92 : decode cX5_dies 92 = .ok (.ifCond .eq 7, 3) := by decide +kernel
theorem dX5_dies_95 : decode cX5_dies 95 = .ok (.iconst 1, 1) := by decide +kernel
theorem dX5_dies_96 : decode cX5_dies 96 = .ok (.goto 4, 3) := by decide +kernel
theorem dX5_dies_99 : decode cX5_dies 99 = .ok (.iconst 0, 1) := by decide +kernel
theorem dX5_dies_100 : decode cX5_dies 100 = .ok (.iadd, 1) := by decide +kernel
theorem dX5_dies_101 : decode cX5_dies 101 = .ok (.istore 5, 2) := by decide +kernel
theorem dX5_dies_103 : decode cX5_dies 103 = .ok (.iinc 6 1, 3) := by decide +kernel
theorem dX5_dies_106 : decode cX5_dies 106 = .ok (.goto (-63), 3) := by decide +kernel
theorem dX5_dies_109 : decode cX5_dies 109 = .ok (.aload_n 0, 1) := by decide +kernel
theorem dX5_dies_110 : decode cX5_dies 110 = .ok (.getfield 7, 3) := by decide +kernel
theorem dX5_dies_113 : decode cX5_dies 113 = .ok (.iload_n 1, 1) := by decide +kernel
theorem dX5_dies_114 : decode cX5_dies 114 = .ok (.iconst 2, 1) := by decide +kernel
theorem dX5_dies_115 : decode cX5_dies 115 = .ok (.iadd, 1) := by decide +kernel
theorem dX5_dies_116 : decode cX5_dies 116 = .ok (.dup2, 1) := by decide +kernel
theorem dX5_dies_117 : decode cX5_dies 117 = .ok (.iaload, 1) := by decide +kernel
theorem dX5_dies_118 : decode cX5_dies 118 = .ok (.iconst 1, 1) := by decide +kernel
theorem dX5_dies_119 : decode cX5_dies 119 = .ok (.iload_n 2, 1) := by decide +kernel
theorem dX5_dies_120 : decode cX5_dies 120 = .ok (.ishl, 1) := by decide +kernel
theorem dX5_dies_121 : decode cX5_dies 121 = .ok (.iconst (-1), 1) := by decide +kernel
theorem dX5_dies_122 : decode cX5_dies 122 = .ok (.ixor, 1) := by decide +kernel
theorem dX5_dies_123 : decode cX5_dies 123 = .ok (.iand, 1) := by decide +kernel
theorem dX5_dies_124 : decode cX5_dies 124 = .ok (.iastore, 1) := by decide +kernel
theorem dX5_dies_125 : decode cX5_dies 125 = .ok (.iload 5, 2) := by decide +kernel
theorem dX5_dies_127 : decode cX5_dies 127 = .ok (.ireturn, 1) := by decide +kernel
theorem dX5_shares_0 : decode cX5_shares 0 = .ok (.iconst 0, 1) := by decide +kernel
theorem dX5_shares_1 : decode cX5_shares 1 = .ok (.istore_n 2, 1) := by decide +kernel
theorem dX5_shares_2 : decode cX5_shares 2 = .ok (.iconst 0, 1) := by decide +kernel
theorem dX5_shares_3 : decode cX5_shares 3 = .ok (.istore_n 3, 1) := by decide +kernel
theorem dX5_shares_4 : decode cX5_shares 4 = .ok (.iload_n 3, 1) := by decide +kernel
theorem dX5_shares_5 : decode cX5_shares 5 = .ok (.bipush 8, 2) := by decide +kernel
theorem dX5_shares_7 : decode cX5_shares 7 = .ok (.if_icmp .ge 33, 3) := by decide +kernel
theorem dX5_shares_10 : decode cX5_shares 10 = .ok (.iload_n 2, 1) := by decide +kernel
theorem dX5_shares_11 : decode cX5_shares 11 = .ok (.aload_n 0, 1) := by decide +kernel
theorem dX5_shares_12 : decode cX5_shares 12 = .ok (.getfield 7, 3) := by decide +kernel
theorem dX5_shares_15 : decode cX5_shares 15 = .ok (.iload_n 1, 1) := by decide +kernel
theorem dX5_shares_16 : decode cX5_shares 16 = .ok (.bipush 40, 2) := by decide +kernel
theorem dX5_shares_18 : decode cX5_shares 18 = .ok (.iadd, 1) := by decide +kernel
theorem dX5_shares_19 : decode cX5_shares 19 = .ok (.iload_n 3, 1) := by decide +kernel
theorem dX5_shares_20 : decode cX5_shares 20 = .ok (.iadd, 1) := by decide +kernel
theorem dX5_shares_21 : decode cX5_shares 21 = .ok (.iaload, 1) := by decide +kernel
theorem dX5_shares_22 : decode cX5_shares 22 = .ok (.ifCond .lt 9, 3) := by decide +kernel
theorem dX5_shares_25 : decode cX5_shares 25 = .ok (.iconst 1, 1) := by decide +kernel
theorem dX5_shares_26 : decode cX5_shares 26 = .ok (.iload_n 3, 1) := by decide +kernel
theorem dX5_shares_27 : decode cX5_shares 27 = .ok (.ishl, 1) := by decide +kernel
theorem dX5_shares_28 : decode cX5_shares 28 = .ok (.goto 4, 3) := by decide +kernel
theorem dX5_shares_31 : decode cX5_shares 31 = .ok (.iconst 0, 1) := by decide +kernel
theorem dX5_shares_32 : decode cX5_shares 32 = .ok (.ior, 1) := by decide +kernel
theorem dX5_shares_33 : decode cX5_shares 33 = .ok (.istore_n 2, 1) := by decide +kernel
theorem dX5_shares_34 : decode cX5_shares 34 = .ok (.iinc 3 1, 3) := by decide +kernel
theorem dX5_shares_37 : decode cX5_shares 37 = .ok (.goto (-33), 3) := by decide +kernel
theorem dX5_shares_40 : decode cX5_shares 40 = .ok (.iload_n 2, 1) := by decide +kernel
theorem dX5_shares_41 : decode cX5_shares 41 = .ok (.ireturn, 1) := by decide +kernel
set_option maxRecDepth 20000 in
theorem ggX5_owned_X5_has : GoodIn wsX5_owned wsX5_has := goodIn_r _ [5] (by decide +kernel) (by decide +kernel)
set_option maxRecDepth 20000 in
theorem gX5_owned_X5_has : GoodIn wsX5_owned (va_wsS RX5 43 yX5_has wsX5_has) := goodIn_app (goodIn_of _ (by decide +kernel)) ggX5_owned_X5_has
theorem dX5_owned_0 : decode cX5_owned 0 = .ok (.iconst 0, 1) := by decide +kernel
theorem dX5_owned_1 : decode cX5_owned 1 = .ok (.istore_n 3, 1) := by decide +kernel
theorem dX5_owned_2 : decode cX5_owned 2 = .ok (.iconst 0, 1) := by decide +kernel
theorem dX5_owned_3 : decode cX5_owned 3 = .ok (.istore 4, 2) := by decide +kernel
theorem dX5_owned_5 : decode cX5_owned 5 = .ok (.iload 4, 2) := by decide +kernel
theorem dX5_owned_7 : decode cX5_owned 7 = .ok (.bipush 8, 2) := by decide +kernel
theorem dX5_owned_9 : decode cX5_owned 9 = .ok (.if_icmp .ge 54, 3) := by decide +kernel
theorem dX5_owned_12 : decode cX5_owned 12 = .ok (.iload_n 3, 1) := by decide +kernel
theorem dX5_owned_13 : decode cX5_owned 13 = .ok (.aload_n 0, 1) := by decide +kernel
theorem dX5_owned_14 : decode cX5_owned 14 = .ok (.getfield 7, 3) := by decide +kernel
theorem dX5_owned_17 : decode cX5_owned 17 = .ok (.iload_n 1, 1) := by decide +kernel
theorem dX5_owned_18 : decode cX5_owned 18 = .ok (.bipush 40, 2) := by decide +kernel
theorem dX5_owned_20 : decode cX5_owned 20 = .ok (.iadd, 1) := by decide +kernel
theorem dX5_owned_21 : decode cX5_owned 21 = .ok (.iload 4, 2) := by decide +kernel
theorem dX5_owned_23 : decode cX5_owned 23 = .ok (.iadd, 1) := by decide +kernel
theorem dX5_owned_24 : decode cX5_owned 24 = .ok (.iaload, 1) := by decide +kernel
theorem dX5_owned_25 : decode cX5_owned 25 = .ok (.ifCond .lt 29, 3) := by decide +kernel
theorem dX5_owned_28 : decode cX5_owned 28 = .ok (.iload_n 2, 1) := by decide +kernel
theorem dX5_owned_29 : decode cX5_owned 29 = .ok (.aload_n 0, 1) := by decide +kernel
theorem dX5_owned_30 : decode cX5_owned 30 = .ok (.getfield 7, 3) := by decide +kernel
theorem dX5_owned_33 : decode cX5_owned 33 = .ok (.iload_n 1, 1) := by decide +kernel
theorem dX5_owned_34 : decode cX5_owned 34 = .ok (.bipush 40, 2) := by decide +kernel
theorem dX5_owned_36 : decode cX5_owned 36 = .ok (.iadd, 1) := by decide +kernel
theorem dX5_owned_37 : decode cX5_owned 37 = .ok (.iload 4, 2) := by decide +kernel
theorem dX5_owned_39 : decode cX5_owned 39 = .ok (.iadd, 1) := by decide +kernel
theorem dX5_owned_40 : decode cX5_owned 40 = .ok (.iaload, 1) := by decide +kernel
theorem dX5_owned_41 : decode cX5_owned 41 = .ok (.invokestatic 43, 3) := by decide +kernel
theorem dX5_owned_44 : decode cX5_owned 44 = .ok (.ifCond .eq 10, 3) := by decide +kernel
theorem dX5_owned_47 : decode cX5_owned 47 = .ok (.iconst 1, 1) := by decide +kernel
theorem dX5_owned_48 : decode cX5_owned 48 = .ok (.iload 4, 2) := by decide +kernel
theorem dX5_owned_50 : decode cX5_owned 50 = .ok (.ishl, 1) := by decide +kernel
theorem dX5_owned_51 : decode cX5_owned 51 = .ok (.goto 4, 3) := by decide +kernel
theorem dX5_owned_54 : decode cX5_owned 54 = .ok (.iconst 0, 1) := by decide +kernel
theorem dX5_owned_55 : decode cX5_owned 55 = .ok (.ior, 1) := by decide +kernel
theorem dX5_owned_56 : decode cX5_owned 56 = .ok (.istore_n 3, 1) := by decide +kernel
theorem dX5_owned_57 : decode cX5_owned 57 = .ok (.iinc 4 1, 3) := by decide +kernel
theorem dX5_owned_60 : decode cX5_owned 60 = .ok (.goto (-55), 3) := by decide +kernel
theorem dX5_owned_63 : decode cX5_owned 63 = .ok (.iload_n 3, 1) := by decide +kernel
theorem dX5_owned_64 : decode cX5_owned 64 = .ok (.ireturn, 1) := by decide +kernel
theorem dX5_inverse_0 : decode cX5_inverse 0 = .ok (.sipush 249, 3) := by decide +kernel
theorem dX5_inverse_3 : decode cX5_inverse 3 = .ok (.istore_n 1, 1) := by decide +kernel
theorem dX5_inverse_4 : decode cX5_inverse 4 = .ok (.iload_n 0, 1) := by decide +kernel
theorem dX5_inverse_5 : decode cX5_inverse 5 = .ok (.sipush 251, 3) := by decide +kernel
theorem dX5_inverse_8 : decode cX5_inverse 8 = .ok (.irem, 1) := by decide +kernel
theorem dX5_inverse_9 : decode cX5_inverse 9 = .ok (.istore_n 2, 1) := by decide +kernel
theorem dX5_inverse_10 : decode cX5_inverse 10 = .ok (.iconst 1, 1) := by decide +kernel
theorem dX5_inverse_11 : decode cX5_inverse 11 = .ok (.istore_n 3, 1) := by decide +kernel
theorem dX5_inverse_12 : decode cX5_inverse 12 = .ok (.iload_n 1, 1) := by decide +kernel
theorem dX5_inverse_13 : decode cX5_inverse 13 = .ok (.ifCond .le 37, 3) := by decide +kernel
theorem dX5_inverse_16 : decode cX5_inverse 16 = .ok (.iload_n 1, 1) := by decide +kernel
theorem dX5_inverse_17 : decode cX5_inverse 17 = .ok (.iconst 2, 1) := by decide +kernel
theorem dX5_inverse_18 : decode cX5_inverse 18 = .ok (.irem, 1) := by decide +kernel
theorem dX5_inverse_19 : decode cX5_inverse 19 = .ok (.iconst 1, 1) := by decide +kernel
theorem dX5_inverse_20 : decode cX5_inverse 20 = .ok (.if_icmp .ne 13, 3) := by decide +kernel
theorem dX5_inverse_23 : decode cX5_inverse 23 = .ok (.iload_n 3, 1) := by decide +kernel
theorem dX5_inverse_24 : decode cX5_inverse 24 = .ok (.iload_n 2, 1) := by decide +kernel
theorem dX5_inverse_25 : decode cX5_inverse 25 = .ok (.imul, 1) := by decide +kernel
theorem dX5_inverse_26 : decode cX5_inverse 26 = .ok (.sipush 251, 3) := by decide +kernel
theorem dX5_inverse_29 : decode cX5_inverse 29 = .ok (.irem, 1) := by decide +kernel
theorem dX5_inverse_30 : decode cX5_inverse 30 = .ok (.goto 4, 3) := by decide +kernel
theorem dX5_inverse_33 : decode cX5_inverse 33 = .ok (.iload_n 3, 1) := by decide +kernel
theorem dX5_inverse_34 : decode cX5_inverse 34 = .ok (.istore_n 3, 1) := by decide +kernel
theorem dX5_inverse_35 : decode cX5_inverse 35 = .ok (.iload_n 2, 1) := by decide +kernel
theorem dX5_inverse_36 : decode cX5_inverse 36 = .ok (.iload_n 2, 1) := by decide +kernel
theorem dX5_inverse_37 : decode cX5_inverse 37 = .ok (.imul, 1) := by decide +kernel
theorem dX5_inverse_38 : decode cX5_inverse 38 = .ok (.sipush 251, 3) := by decide +kernel
theorem dX5_inverse_41 : decode cX5_inverse 41 = .ok (.irem, 1) := by decide +kernel
theorem dX5_inverse_42 : decode cX5_inverse 42 = .ok (.istore_n 2, 1) := by decide +kernel
theorem dX5_inverse_43 : decode cX5_inverse 43 = .ok (.iload_n 1, 1) := by decide +kernel
theorem dX5_inverse_44 : decode cX5_inverse 44 = .ok (.iconst 2, 1) := by decide +kernel
theorem dX5_inverse_45 : decode cX5_inverse 45 = .ok (.idiv, 1) := by decide +kernel
theorem dX5_inverse_46 : decode cX5_inverse 46 = .ok (.istore_n 1, 1) := by decide +kernel
theorem dX5_inverse_47 : decode cX5_inverse 47 = .ok (.goto (-35), 3) := by decide +kernel
theorem dX5_inverse_50 : decode cX5_inverse 50 = .ok (.iload_n 3, 1) := by decide +kernel
theorem dX5_inverse_51 : decode cX5_inverse 51 = .ok (.ireturn, 1) := by decide +kernel
set_option maxRecDepth 20000 in
theorem ggX5_lowest_X5_has : GoodIn wsX5_lowest wsX5_has := goodIn_r _ [4] (by decide +kernel) (by decide +kernel)
set_option maxRecDepth 20000 in
theorem gX5_lowest_X5_has : GoodIn wsX5_lowest (va_wsS RX5 43 yX5_has wsX5_has) := goodIn_app (goodIn_of _ (by decide +kernel)) ggX5_lowest_X5_has
set_option maxRecDepth 20000 in
theorem ggX5_lowest_X5_bits : GoodIn wsX5_lowest wsX5_bits := goodIn_r _ [7] (by decide +kernel) (by decide +kernel)
set_option maxRecDepth 20000 in
theorem gX5_lowest_X5_bits : GoodIn wsX5_lowest (va_wsS RX5 47 yX5_bits wsX5_bits) := goodIn_app (goodIn_of _ (by decide +kernel)) ggX5_lowest_X5_bits
theorem dX5_lowest_0 : decode cX5_lowest 0 = .ok (.iconst 0, 1) := by decide +kernel
theorem dX5_lowest_1 : decode cX5_lowest 1 = .ok (.istore_n 2, 1) := by decide +kernel
theorem dX5_lowest_2 : decode cX5_lowest 2 = .ok (.iconst 0, 1) := by decide +kernel
theorem dX5_lowest_3 : decode cX5_lowest 3 = .ok (.istore_n 3, 1) := by decide +kernel
theorem dX5_lowest_4 : decode cX5_lowest 4 = .ok (.iload_n 3, 1) := by decide +kernel
theorem dX5_lowest_5 : decode cX5_lowest 5 = .ok (.bipush 8, 2) := by decide +kernel
theorem dX5_lowest_7 : decode cX5_lowest 7 = .ok (.if_icmp .ge 35, 3) := by decide +kernel
theorem dX5_lowest_10 : decode cX5_lowest 10 = .ok (.iload_n 2, 1) := by decide +kernel
theorem dX5_lowest_11 : decode cX5_lowest 11 = .ok (.iload_n 0, 1) := by decide +kernel
theorem dX5_lowest_12 : decode cX5_lowest 12 = .ok (.iload_n 3, 1) := by decide +kernel
theorem dX5_lowest_13 : decode cX5_lowest 13 = .ok (.invokestatic 43, 3) := by decide +kernel
theorem dX5_lowest_16 : decode cX5_lowest 16 = .ok (.ifCond .eq 17, 3) := by decide +kernel
theorem dX5_lowest_19 : decode cX5_lowest 19 = .ok (.iload_n 2, 1) := by decide +kernel
theorem dX5_lowest_20 : decode cX5_lowest 20 = .ok (.invokestatic 47, 3) := by decide +kernel
theorem dX5_lowest_23 : decode cX5_lowest 23 = .ok (.iload_n 1, 1) := by decide +kernel
theorem dX5_lowest_24 : decode cX5_lowest 24 = .ok (.if_icmp .ge 9, 3) := by decide +kernel
theorem dX5_lowest_27 : decode cX5_lowest 27 = .ok (.iconst 1, 1) := by decide +kernel
theorem dX5_lowest_28 : decode cX5_lowest 28 = .ok (.iload_n 3, 1) := by decide +kernel
theorem dX5_lowest_29 : decode cX5_lowest 29 = .ok (.ishl, 1) := by decide +kernel
theorem dX5_lowest_30 : decode cX5_lowest 30 = .ok (.goto 4, 3) := by decide +kernel
theorem dX5_lowest_33 : decode cX5_lowest 33 = .ok (.iconst 0, 1) := by decide +kernel
theorem dX5_lowest_34 : decode cX5_lowest 34 = .ok (.ior, 1) := by decide +kernel
theorem dX5_lowest_35 : decode cX5_lowest 35 = .ok (.istore_n 2, 1) := by decide +kernel
theorem dX5_lowest_36 : decode cX5_lowest 36 = .ok (.iinc 3 1, 3) := by decide +kernel
theorem dX5_lowest_39 : decode cX5_lowest 39 = .ok (.goto (-35), 3) := by decide +kernel
theorem dX5_lowest_42 : decode cX5_lowest 42 = .ok (.iload_n 2, 1) := by decide +kernel
theorem dX5_lowest_43 : decode cX5_lowest 43 = .ok (.ireturn, 1) := by decide +kernel
set_option maxRecDepth 20000 in
theorem ggX5_valueAt_X5_has : GoodIn wsX5_valueAt wsX5_has := goodIn_r _ [5] (by decide +kernel) (by decide +kernel)
set_option maxRecDepth 20000 in
theorem gX5_valueAt_X5_has : GoodIn wsX5_valueAt (va_wsS RX5 43 yX5_has wsX5_has) := goodIn_app (goodIn_of _ (by decide +kernel)) ggX5_valueAt_X5_has
set_option maxRecDepth 20000 in
theorem ggX5_valueAt_X5_inverse : GoodIn wsX5_valueAt wsX5_inverse := goodIn_r _ [8] (by decide +kernel) (by decide +kernel)
set_option maxRecDepth 20000 in
theorem gX5_valueAt_X5_inverse : GoodIn wsX5_valueAt (va_wsS RX5 50 yX5_inverse wsX5_inverse) := goodIn_app (goodIn_of _ (by decide +kernel)) ggX5_valueAt_X5_inverse
theorem dX5_valueAt_0 : decode cX5_valueAt 0 = .ok (.iconst 0, 1) := by decide +kernel
theorem dX5_valueAt_1 : decode cX5_valueAt 1 = .ok (.istore 4, 2) := by decide +kernel
theorem dX5_valueAt_3 : decode cX5_valueAt 3 = .ok (.iconst 0, 1) := by decide +kernel
theorem dX5_valueAt_4 : decode cX5_valueAt 4 = .ok (.istore 5, 2) := by decide +kernel
theorem dX5_valueAt_6 : decode cX5_valueAt 6 = .ok (.iload 5, 2) := by decide +kernel
theorem dX5_valueAt_8 : decode cX5_valueAt 8 = .ok (.bipush 8, 2) := by decide +kernel
theorem dX5_valueAt_10 : decode cX5_valueAt 10 = .ok (.if_icmp .ge 129, 3) := by decide +kernel
theorem dX5_valueAt_13 : decode cX5_valueAt 13 = .ok (.iload_n 2, 1) := by decide +kernel
theorem dX5_valueAt_14 : decode cX5_valueAt 14 = .ok (.iload 5, 2) := by decide +kernel
theorem dX5_valueAt_16 : decode cX5_valueAt 16 = .ok (.invokestatic 43, 3) := by decide +kernel
theorem dX5_valueAt_19 : decode cX5_valueAt 19 = .ok (.ifCond .eq 114, 3) := by decide +kernel
theorem dX5_valueAt_22 : decode cX5_valueAt 22 = .ok (.aload_n 0, 1) := by decide +kernel
theorem dX5_valueAt_23 : decode cX5_valueAt 23 = .ok (.getfield 7, 3) := by decide +kernel
theorem dX5_valueAt_26 : decode cX5_valueAt 26 = .ok (.iload_n 1, 1) := by decide +kernel
theorem dX5_valueAt_27 : decode cX5_valueAt 27 = .ok (.bipush 32, 2) := by decide +kernel
theorem dX5_valueAt_29 : decode cX5_valueAt 29 = .ok (.iadd, 1) := by decide +kernel
theorem dX5_valueAt_30 : decode cX5_valueAt 30 = .ok (.iload 5, 2) := by decide +kernel
theorem dX5_valueAt_32 : decode cX5_valueAt 32 = .ok (.iadd, 1) := by decide +kernel
theorem dX5_valueAt_33 : decode cX5_valueAt 33 = .ok (.iaload, 1) := by decide +kernel
theorem dX5_valueAt_34 : decode cX5_valueAt 34 = .ok (.istore 6, 2) := by decide +kernel
theorem dX5_valueAt_36 : decode cX5_valueAt 36 = .ok (.iconst 1, 1) := by decide +kernel
theorem dX5_valueAt_37 : decode cX5_valueAt 37 = .ok (.istore 7, 2) := by decide +kernel
theorem dX5_valueAt_39 : decode cX5_valueAt 39 = .ok (.iconst 0, 1) := by decide +kernel
theorem dX5_valueAt_40 : decode cX5_valueAt 40 = .ok (.istore 8, 2) := by decide +kernel
theorem dX5_valueAt_42 : decode cX5_valueAt 42 = .ok (.iload 8, 2) := by decide +kernel
theorem dX5_valueAt_44 : decode cX5_valueAt 44 = .ok (.bipush 8, 2) := by decide +kernel
theorem dX5_valueAt_46 : decode cX5_valueAt 46 = .ok (.if_icmp .ge 70, 3) := by decide +kernel
theorem dX5_valueAt_49 : decode cX5_valueAt 49 = .ok (.iload 8, 2) := by decide +kernel
theorem dX5_valueAt_51 : decode cX5_valueAt 51 = .ok (.iload 5, 2) := by decide +kernel
theorem dX5_valueAt_53 : decode cX5_valueAt 53 = .ok (.if_icmp .eq 57, 3) := by decide +kernel
theorem dX5_valueAt_56 : decode cX5_valueAt 56 = .ok (.iload_n 2, 1) := by decide +kernel
theorem dX5_valueAt_57 : decode cX5_valueAt 57 = .ok (.iload 8, 2) := by decide +kernel
theorem dX5_valueAt_59 : decode cX5_valueAt 59 = .ok (.invokestatic 43, 3) := by decide +kernel
theorem dX5_valueAt_62 : decode cX5_valueAt 62 = .ok (.ifCond .eq 48, 3) := by decide +kernel
theorem dX5_valueAt_65 : decode cX5_valueAt 65 = .ok (.iload 6, 2) := by decide +kernel
theorem dX5_valueAt_67 : decode cX5_valueAt 67 = .ok (.iload_n 3, 1) := by decide +kernel
theorem dX5_valueAt_68 : decode cX5_valueAt 68 = .ok (.iload 8, 2) := by decide +kernel
theorem dX5_valueAt_70 : decode cX5_valueAt 70 = .ok (.isub, 1) := by decide +kernel
theorem dX5_valueAt_71 : decode cX5_valueAt 71 = .ok (.iconst 1, 1) := by decide +kernel
theorem dX5_valueAt_72 : decode cX5_valueAt 72 = .ok (.isub, 1) := by decide +kernel
theorem dX5_valueAt_73 : decode cX5_valueAt 73 = .ok (.sipush 251, 3) := by decide +kernel
theorem dX5_valueAt_76 : decode cX5_valueAt 76 = .ok (.iadd, 1) := by decide +kernel
theorem dX5_valueAt_77 : decode cX5_valueAt 77 = .ok (.sipush 251, 3) := by decide +kernel
theorem dX5_valueAt_80 : decode cX5_valueAt 80 = .ok (.irem, 1) := by decide +kernel
theorem dX5_valueAt_81 : decode cX5_valueAt 81 = .ok (.imul, 1) := by decide +kernel
theorem dX5_valueAt_82 : decode cX5_valueAt 82 = .ok (.sipush 251, 3) := by decide +kernel
theorem dX5_valueAt_85 : decode cX5_valueAt 85 = .ok (.irem, 1) := by decide +kernel
theorem dX5_valueAt_86 : decode cX5_valueAt 86 = .ok (.istore 6, 2) := by decide +kernel
theorem dX5_valueAt_88 : decode cX5_valueAt 88 = .ok (.iload 7, 2) := by decide +kernel
theorem dX5_valueAt_90 : decode cX5_valueAt 90 = .ok (.iload 5, 2) := by decide +kernel
theorem dX5_valueAt_92 : decode cX5_valueAt 92 = .ok (.iload 8, 2) := by decide +kernel
theorem dX5_valueAt_94 : decode cX5_valueAt 94 = .ok (.isub, 1) := by decide +kernel
theorem dX5_valueAt_95 : decode cX5_valueAt 95 = .ok (.sipush 251, 3) := by decide +kernel
theorem dX5_valueAt_98 : decode cX5_valueAt 98 = .ok (.iadd, 1) := by decide +kernel
theorem dX5_valueAt_99 : decode cX5_valueAt 99 = .ok (.sipush 251, 3) := by decide +kernel
theorem dX5_valueAt_102 : decode cX5_valueAt 102 = .ok (.irem, 1) := by decide +kernel
theorem dX5_valueAt_103 : decode cX5_valueAt 103 = .ok (.imul, 1) := by decide +kernel
theorem dX5_valueAt_104 : decode cX5_valueAt 104 = .ok (.sipush 251, 3) := by decide +kernel
theorem dX5_valueAt_107 : decode cX5_valueAt 107 = .ok (.irem, 1) := by decide +kernel
theorem dX5_valueAt_108 : decode cX5_valueAt 108 = .ok (.istore 7, 2) := by decide +kernel
theorem dX5_valueAt_110 : decode cX5_valueAt 110 = .ok (.iinc 8 1, 3) := by decide +kernel
theorem dX5_valueAt_113 : decode cX5_valueAt 113 = .ok (.goto (-71), 3) := by decide +kernel
theorem dX5_valueAt_116 : decode cX5_valueAt 116 = .ok (.iload 4, 2) := by decide +kernel
theorem dX5_valueAt_118 : decode cX5_valueAt 118 = .ok (.iload 6, 2) := by decide +kernel
theorem dX5_valueAt_120 : decode cX5_valueAt 120 = .ok (.iload 7, 2) := by decide +kernel
theorem dX5_valueAt_122 : decode cX5_valueAt 122 = .ok (.invokestatic 50, 3) := by decide +kernel
theorem dX5_valueAt_125 : decode cX5_valueAt 125 = .ok (.imul, 1) := by decide +kernel
theorem dX5_valueAt_126 : decode cX5_valueAt 126 = .ok (.iadd, 1) := by decide +kernel
theorem dX5_valueAt_127 : decode cX5_valueAt 127 = .ok (.sipush 251, 3) := by decide +kernel
theorem dX5_valueAt_130 : decode cX5_valueAt 130 = .ok (.irem, 1) := by decide +kernel
theorem dX5_valueAt_131 : decode cX5_valueAt 131 = .ok (.istore 4, 2) := by decide +kernel
theorem dX5_valueAt_133 : decode cX5_valueAt 133 = .ok (.iinc 5 1, 3) := by decide +kernel
theorem dX5_valueAt_136 : decode cX5_valueAt 136 = .ok (.goto (-130), 3) := by decide +kernel
theorem dX5_valueAt_139 : decode cX5_valueAt 139 = .ok (.iload 4, 2) := by decide +kernel
theorem dX5_valueAt_141 : decode cX5_valueAt 141 = .ok (.ireturn, 1) := by decide +kernel
set_option maxRecDepth 20000 in
theorem ggX5_keyBy_X5_lowest : GoodIn wsX5_keyBy wsX5_lowest := goodIn_r _ [5, 6, 7, 4, 8, 9, 10, 11] (by decide +kernel) (by decide +kernel)
set_option maxRecDepth 20000 in
theorem gX5_keyBy_X5_lowest : GoodIn wsX5_keyBy (va_wsS RX5 53 yX5_lowest wsX5_lowest) := goodIn_app (goodIn_of _ (by decide +kernel)) ggX5_keyBy_X5_lowest
set_option maxRecDepth 20000 in
theorem ggX5_keyBy_X5_valueAt : GoodIn wsX5_keyBy wsX5_valueAt := goodIn_r _ [15, 1, 6, 7, 4, 8, 16, 17, 18, 19, 20, 21, 22, 23, 24, 25, 26, 27, 28] (by decide +kernel) (by decide +kernel)
set_option maxRecDepth 20000 in
theorem gX5_keyBy_X5_valueAt : GoodIn wsX5_keyBy (wsV RX5 57 RX5 yX5_valueAt wsX5_valueAt) := goodIn_app (goodIn_of _ (by decide +kernel)) ggX5_keyBy_X5_valueAt
theorem dX5_keyBy_0 : decode cX5_keyBy 0 = .ok (.aload_n 0, 1) := by decide +kernel
theorem dX5_keyBy_1 : decode cX5_keyBy 1 = .ok (.iload_n 1, 1) := by decide +kernel
theorem dX5_keyBy_2 : decode cX5_keyBy 2 = .ok (.iload_n 2, 1) := by decide +kernel
theorem dX5_keyBy_3 : decode cX5_keyBy 3 = .ok (.aload_n 0, 1) := by decide +kernel
theorem dX5_keyBy_4 : decode cX5_keyBy 4 = .ok (.getfield 7, 3) := by decide +kernel
theorem dX5_keyBy_7 : decode cX5_keyBy 7 = .ok (.iload_n 1, 1) := by decide +kernel
theorem dX5_keyBy_8 : decode cX5_keyBy 8 = .ok (.bipush 29, 2) := by decide +kernel
theorem dX5_keyBy_10 : decode cX5_keyBy 10 = .ok (.iadd, 1) := by decide +kernel
theorem dX5_keyBy_11 : decode cX5_keyBy 11 = .ok (.iaload, 1) := by decide +kernel
theorem dX5_keyBy_12 : decode cX5_keyBy 12 = .ok (.invokestatic 53, 3) := by decide +kernel
theorem dX5_keyBy_15 : decode cX5_keyBy 15 = .ok (.iconst 0, 1) := by decide +kernel
theorem dX5_keyBy_16 : decode cX5_keyBy 16 = .ok (.invokevirtual 57, 3) := by decide +kernel
theorem dX5_keyBy_19 : decode cX5_keyBy 19 = .ok (.ireturn, 1) := by decide +kernel
set_option maxRecDepth 20000 in
theorem ggX5_quarrels_X5_has : GoodIn wsX5_quarrels wsX5_has := goodIn_r _ [5] (by decide +kernel) (by decide +kernel)
set_option maxRecDepth 20000 in
theorem gX5_quarrels_X5_has : GoodIn wsX5_quarrels (va_wsS RX5 43 yX5_has wsX5_has) := goodIn_app (goodIn_of _ (by decide +kernel)) ggX5_quarrels_X5_has
theorem dX5_quarrels_0 : decode cX5_quarrels 0 = .ok (.iconst 0, 1) := by decide +kernel
theorem dX5_quarrels_1 : decode cX5_quarrels 1 = .ok (.istore_n 3, 1) := by decide +kernel
theorem dX5_quarrels_2 : decode cX5_quarrels 2 = .ok (.iconst 0, 1) := by decide +kernel
theorem dX5_quarrels_3 : decode cX5_quarrels 3 = .ok (.istore 4, 2) := by decide +kernel
theorem dX5_quarrels_5 : decode cX5_quarrels 5 = .ok (.iload 4, 2) := by decide +kernel
theorem dX5_quarrels_7 : decode cX5_quarrels 7 = .ok (.bipush 8, 2) := by decide +kernel
theorem dX5_quarrels_9 : decode cX5_quarrels 9 = .ok (.if_icmp .ge 45, 3) := by decide +kernel
theorem dX5_quarrels_12 : decode cX5_quarrels 12 = .ok (.iload_n 3, 1) := by decide +kernel
theorem dX5_quarrels_13 : decode cX5_quarrels 13 = .ok (.ifCond .ne 29, 3) := by decide +kernel
theorem dX5_quarrels_16 : decode cX5_quarrels 16 = .ok (.iload_n 2, 1) := by decide +kernel
theorem dX5_quarrels_17 : decode cX5_quarrels 17 = .ok (.iload 4, 2) := by decide +kernel
theorem dX5_quarrels_19 : decode cX5_quarrels 19 = .ok (.invokestatic 43, 3) := by decide +kernel
theorem dX5_quarrels_22 : decode cX5_quarrels 22 = .ok (.ifCond .eq 24, 3) := by decide +kernel
theorem dX5_quarrels_25 : decode cX5_quarrels 25 = .ok (.aload_n 0, 1) := by decide +kernel
theorem dX5_quarrels_26 : decode cX5_quarrels 26 = .ok (.getfield 7, 3) := by decide +kernel
theorem dX5_quarrels_29 : decode cX5_quarrels 29 = .ok (.iload_n 1, 1) := by decide +kernel
theorem dX5_quarrels_30 : decode cX5_quarrels 30 = .ok (.bipush 11, 2) := by decide +kernel
theorem dX5_quarrels_32 : decode cX5_quarrels 32 = .ok (.iadd, 1) := by decide +kernel
theorem dX5_quarrels_33 : decode cX5_quarrels 33 = .ok (.iload 4, 2) := by decide +kernel
theorem dX5_quarrels_35 : decode cX5_quarrels 35 = .ok (.iadd, 1) := by decide +kernel
theorem dX5_quarrels_36 : decode cX5_quarrels 36 = .ok (.iaload, 1) := by decide +kernel
theorem dX5_quarrels_37 : decode cX5_quarrels 37 = .ok (.iload_n 2, 1) := by decide +kernel
theorem dX5_quarrels_38 : decode cX5_quarrels 38 = .ok (.iand, 1) := by decide +kernel
theorem dX5_quarrels_39 : decode cX5_quarrels 39 = .ok (.ifCond .eq 7, 3) := by decide +kernel
theorem dX5_quarrels_42 : decode cX5_quarrels 42 = .ok (.iconst 1, 1) := by decide +kernel
theorem dX5_quarrels_43 : decode cX5_quarrels 43 = .ok (.goto 4, 3) := by decide +kernel
theorem dX5_quarrels_46 : decode cX5_quarrels 46 = .ok (.iconst 0, 1) := by decide +kernel
theorem dX5_quarrels_47 : decode cX5_quarrels 47 = .ok (.istore_n 3, 1) := by decide +kernel
theorem dX5_quarrels_48 : decode cX5_quarrels 48 = .ok (.iinc 4 1, 3) := by decide +kernel
theorem dX5_quarrels_51 : decode cX5_quarrels 51 = .ok (.goto (-46), 3) := by decide +kernel
theorem dX5_quarrels_54 : decode cX5_quarrels 54 = .ok (.iload_n 3, 1) := by decide +kernel
theorem dX5_quarrels_55 : decode cX5_quarrels 55 = .ok (.ireturn, 1) := by decide +kernel
set_option maxRecDepth 20000 in
theorem ggX5_reason_X5_quarrels : GoodIn wsX5_reason wsX5_quarrels := goodIn_r _ [6, 1, 7, 8, 5, 9, 31, 32, 33, 34, 35, 36, 37, 38, 39, 40] (by decide +kernel) (by decide +kernel)
set_option maxRecDepth 20000 in
theorem gX5_reason_X5_quarrels : GoodIn wsX5_reason (wsV RX5 61 RX5 yX5_quarrels wsX5_quarrels) := goodIn_app (goodIn_of _ (by decide +kernel)) ggX5_reason_X5_quarrels
set_option maxRecDepth 20000 in
theorem ggX5_reason_X5_owned : GoodIn wsX5_reason wsX5_owned := goodIn_r _ [13, 1, 7, 8, 5, 9, 31, 32, 33, 34, 35, 36, 37, 38, 39, 40] (by decide +kernel) (by decide +kernel)
set_option maxRecDepth 20000 in
theorem gX5_reason_X5_owned : GoodIn wsX5_reason (wsV RX5 64 RX5 yX5_owned wsX5_owned) := goodIn_app (goodIn_of _ (by decide +kernel)) ggX5_reason_X5_owned
set_option maxRecDepth 20000 in
theorem ggX5_reason_X5_bits : GoodIn wsX5_reason wsX5_bits := goodIn_r _ [16] (by decide +kernel) (by decide +kernel)
set_option maxRecDepth 20000 in
theorem gX5_reason_X5_bits : GoodIn wsX5_reason (va_wsS RX5 47 yX5_bits wsX5_bits) := goodIn_app (goodIn_of _ (by decide +kernel)) ggX5_reason_X5_bits
set_option maxRecDepth 20000 in
theorem ggX5_reason_X5_keyBy : GoodIn wsX5_reason wsX5_keyBy := goodIn_r _ [20, 1, 21, 22, 5, 23, 7, 8, 9, 14, 15, 16, 24, 25, 26, 27, 28, 29, 30, 31, 32, 33, 34, 35, 36, 37, 38, 39, 40] (by decide +kernel) (by decide +kernel)
set_option maxRecDepth 20000 in
theorem gX5_reason_X5_keyBy : GoodIn wsX5_reason (wsV RX5 67 RX5 yX5_keyBy wsX5_keyBy) := goodIn_app (goodIn_of _ (by decide +kernel)) ggX5_reason_X5_keyBy
theorem dX5_reason_0 : decode cX5_reason 0 = .ok (.aload_n 0, 1) := by decide +kernel
theorem dX5_reason_1 : decode cX5_reason 1 = .ok (.getfield 7, 3) := by decide +kernel
theorem dX5_reason_4 : decode cX5_reason 4 = .ok (.iload_n 1, 1) := by decide +kernel
theorem dX5_reason_5 : decode cX5_reason 5 = .ok (.bipush 27, 2) := by decide +kernel
theorem dX5_reason_7 : decode cX5_reason 7 = .ok (.iadd, 1) := by decide +kernel
theorem dX5_reason_8 : decode cX5_reason 8 = .ok (.iaload, 1) := by decide +kernel
theorem dX5_reason_9 : decode cX5_reason 9 = .ok (.iconst 1, 1) := by decide +kernel
theorem dX5_reason_10 : decode cX5_reason 10 = .ok (.if_icmp .eq 5, 3) := by decide +kernel
theorem dX5_reason_13 : decode cX5_reason 13 = .ok (.iconst 1, 1) := by decide +kernel
theorem dX5_reason_14 : decode cX5_reason 14 = .ok (.ireturn, 1) := by decide +kernel
theorem dX5_reason_15 : decode cX5_reason 15 = .ok (.iload_n 2, 1) := by decide +kernel
theorem dX5_reason_16 : decode cX5_reason 16 = .ok (.ifCond .eq 18, 3) := by decide +kernel
theorem dX5_reason_19 : decode cX5_reason 19 = .ok (.iload_n 2, 1) := by decide +kernel
theorem dX5_reason_20 : decode cX5_reason 20 = .ok (.aload_n 0, 1) := by decide +kernel
theorem dX5_reason_21 : decode cX5_reason 21 = .ok (.getfield 7, 3) := by decide +kernel
theorem dX5_reason_24 : decode cX5_reason 24 = .ok (.iload_n 1, 1) := by decide +kernel
theorem dX5_reason_25 : decode cX5_reason 25 = .ok (.iconst 2, 1) := by decide +kernel
theorem dX5_reason_26 : decode cX5_reason 26 = .ok (.iadd, 1) := by decide +kernel
theorem dX5_reason_27 : decode cX5_reason 27 = .ok (.iaload, 1) := by decide +kernel
theorem dX5_reason_28 : decode cX5_reason 28 = .ok (.iconst (-1), 1) := by decide +kernel
theorem dX5_reason_29 : decode cX5_reason 29 = .ok (.ixor, 1) := by decide +kernel
theorem dX5_reason_30 : decode cX5_reason 30 = .ok (.iand, 1) := by decide +kernel
theorem dX5_reason_31 : decode cX5_reason 31 = .ok (.ifCond .eq 5, 3) := by decide +kernel
theorem dX5_reason_34 : decode cX5_reason 34 = .ok (.iconst 2, 1) := by decide +kernel
theorem dX5_reason_35 : decode cX5_reason 35 = .ok (.ireturn, 1) := by decide +kernel
theorem dX5_reason_36 : decode cX5_reason 36 = .ok (.aload_n 0, 1) := by decide +kernel
theorem dX5_reason_37 : decode cX5_reason 37 = .ok (.iload_n 1, 1) := by decide +kernel
theorem dX5_reason_38 : decode cX5_reason 38 = .ok (.iload_n 2, 1) := by decide +kernel
theorem dX5_reason_39 : decode cX5_reason 39 = .ok (.invokevirtual 61, 3) := by decide +kernel
theorem dX5_reason_42 : decode cX5_reason 42 = .ok (.ifCond .eq 5, 3) := by decide +kernel
theorem dX5_reason_45 : decode cX5_reason 45 = .ok (.iconst 3, 1) := by decide +kernel
theorem dX5_reason_46 : decode cX5_reason 46 = .ok (.ireturn, 1) := by decide +kernel
theorem dX5_reason_47 : decode cX5_reason 47 = .ok (.iload_n 3, 1) := by decide +kernel
theorem dX5_reason_48 : decode cX5_reason 48 = .ok (.ifCond .ne 26, 3) := by decide +kernel
theorem dX5_reason_51 : decode cX5_reason 51 = .ok (.aload_n 0, 1) := by decide +kernel
theorem dX5_reason_52 : decode cX5_reason 52 = .ok (.getfield 7, 3) := by decide +kernel
theorem dX5_reason_55 : decode cX5_reason 55 = .ok (.iload_n 1, 1) := by decide +kernel
theorem dX5_reason_56 : decode cX5_reason 56 = .ok (.bipush 31, 2) := by decide +kernel
theorem dX5_reason_58 : decode cX5_reason 58 = .ok (.iadd, 1) := by decide +kernel
theorem dX5_reason_59 : decode cX5_reason 59 = .ok (.iaload, 1) := by decide +kernel
theorem dX5_reason_60 : decode cX5_reason 60 = .ok (.aload_n 0, 1) := by decide +kernel
theorem dX5_reason_61 : decode cX5_reason 61 = .ok (.getfield 7, 3) := by decide +kernel
theorem dX5_reason_64 : decode cX5_reason 64 = .ok (.iload_n 1, 1) := by decide +kernel
theorem dX5_reason_65 : decode cX5_reason 65 = .ok (.bipush 30, 2) := by decide +kernel
theorem dX5_reason_67 : decode cX5_reason 67 = .ok (.iadd, 1) := by decide +kernel
theorem dX5_reason_68 : decode cX5_reason 68 = .ok (.iaload, 1) := by decide +kernel
theorem dX5_reason_69 : decode cX5_reason 69 = .ok (.if_icmp .ge 5, 3) := by decide +kernel
theorem dX5_reason_72 : decode cX5_reason 72 = .ok (.iconst 4, 1) := by decide +kernel
theorem dX5_reason_73 : decode cX5_reason 73 = .ok (.ireturn, 1) := by decide +kernel
theorem dX5_reason_74 : decode cX5_reason 74 = .ok (.aload_n 0, 1) := by decide +kernel
theorem dX5_reason_75 : decode cX5_reason 75 = .ok (.iload_n 1, 1) := by decide +kernel
theorem dX5_reason_76 : decode cX5_reason 76 = .ok (.iload_n 2, 1) := by decide +kernel
theorem dX5_reason_77 : decode cX5_reason 77 = .ok (.invokevirtual 64, 3) := by decide +kernel
theorem dX5_reason_80 : decode cX5_reason 80 = .ok (.istore 4, 2) := by decide +kernel
theorem dX5_reason_82 : decode cX5_reason 82 = .ok (.iload 4, 2) := by decide +kernel
theorem dX5_reason_84 : decode cX5_reason 84 = .ok (.invokestatic 47, 3) := by decide +kernel
theorem dX5_reason_87 : decode cX5_reason 87 = .ok (.aload_n 0, 1) := by decide +kernel
theorem dX5_reason_88 : decode cX5_reason 88 = .ok (.getfield 7, 3) := by decide +kernel
theorem dX5_reason_91 : decode cX5_reason 91 = .ok (.iload_n 1, 1) := by decide +kernel
theorem dX5_reason_92 : decode cX5_reason 92 = .ok (.bipush 29, 2) := by decide +kernel
theorem dX5_reason_94 : decode cX5_reason 94 = .ok (.iadd, 1) := by decide +kernel
theorem dX5_reason_95 : decode cX5_reason 95 = .ok (.iaload, 1) := by decide +kernel
theorem dX5_reason_96 : decode cX5_reason 96 = .ok (.if_icmp .ge 5, 3) := by decide +kernel
theorem dX5_reason_99 : decode cX5_reason 99 = .ok (.iconst 5, 1) := by decide +kernel
theorem dX5_reason_100 : decode cX5_reason 100 = .ok (.ireturn, 1) := by decide +kernel
theorem dX5_reason_101 : decode cX5_reason 101 = .ok (.aload_n 0, 1) := by decide +kernel
theorem dX5_reason_102 : decode cX5_reason 102 = .ok (.iload_n 1, 1) := by decide +kernel
theorem dX5_reason_103 : decode cX5_reason 103 = .ok (.iload 4, 2) := by decide +kernel
theorem dX5_reason_105 : decode cX5_reason 105 = .ok (.invokevirtual 67, 3) := by decide +kernel
theorem dX5_reason_108 : decode cX5_reason 108 = .ok (.aload_n 0, 1) := by decide +kernel
theorem dX5_reason_109 : decode cX5_reason 109 = .ok (.getfield 7, 3) := by decide +kernel
theorem dX5_reason_112 : decode cX5_reason 112 = .ok (.iload_n 1, 1) := by decide +kernel
theorem dX5_reason_113 : decode cX5_reason 113 = .ok (.bipush 28, 2) := by decide +kernel
theorem dX5_reason_115 : decode cX5_reason 115 = .ok (.iadd, 1) := by decide +kernel
theorem dX5_reason_116 : decode cX5_reason 116 = .ok (.iaload, 1) := by decide +kernel
theorem dX5_reason_117 : decode cX5_reason 117 = .ok (.if_icmp .ne 7, 3) := by decide +kernel
theorem dX5_reason_120 : decode cX5_reason 120 = .ok (.iconst 0, 1) := by decide +kernel
theorem dX5_reason_121 : decode cX5_reason 121 = .ok (.goto 5, 3) := by decide +kernel
theorem dX5_reason_124 : decode cX5_reason 124 = .ok (.bipush 6, 2) := by decide +kernel
theorem dX5_reason_126 : decode cX5_reason 126 = .ok (.ireturn, 1) := by decide +kernel
set_option maxRecDepth 20000 in
theorem ggX5_groupsOf_X5_reason : GoodIn wsX5_groupsOf wsX5_reason := goodIn_r _ [5, 6, 7, 8, 9, 4, 10, 11, 12, 13, 14, 15, 16, 17, 18, 19, 20, 21, 22, 23, 24, 25, 26, 27, 28, 29, 30, 31, 32, 33, 34, 35, 36, 37, 38, 39, 40, 41, 42, 43, 44] (by decide +kernel) (by decide +kernel)
set_option maxRecDepth 20000 in
theorem gX5_groupsOf_X5_reason : GoodIn wsX5_groupsOf (wsV RX5 70 RX5 yX5_reason wsX5_reason) := goodIn_app (goodIn_of _ (by decide +kernel)) ggX5_groupsOf_X5_reason
theorem dX5_groupsOf_0 : decode cX5_groupsOf 0 = .ok (.iconst 0, 1) := by decide +kernel
theorem dX5_groupsOf_1 : decode cX5_groupsOf 1 = .ok (.istore_n 2, 1) := by decide +kernel
theorem dX5_groupsOf_2 : decode cX5_groupsOf 2 = .ok (.iconst 1, 1) := by decide +kernel
theorem dX5_groupsOf_3 : decode cX5_groupsOf 3 = .ok (.istore_n 3, 1) := by decide +kernel
theorem dX5_groupsOf_4 : decode cX5_groupsOf 4 = .ok (.iload_n 3, 1) := by decide +kernel
theorem dX5_groupsOf_5 : decode cX5_groupsOf 5 = .ok (.sipush 256, 3) := by decide +kernel
theorem dX5_groupsOf_8 : decode cX5_groupsOf 8 = .ok (.if_icmp .ge 27, 3) := by decide +kernel
theorem dX5_groupsOf_11 : decode cX5_groupsOf 11 = .ok (.iload_n 2, 1) := by decide +kernel
theorem dX5_groupsOf_12 : decode cX5_groupsOf 12 = .ok (.aload_n 0, 1) := by decide +kernel
theorem dX5_groupsOf_13 : decode cX5_groupsOf 13 = .ok (.iload_n 1, 1) := by decide +kernel
theorem dX5_groupsOf_14 : decode cX5_groupsOf 14 = .ok (.iload_n 3, 1) := by decide +kernel
theorem dX5_groupsOf_15 : decode cX5_groupsOf 15 = .ok (.iconst 1, 1) := by decide +kernel
theorem dX5_groupsOf_16 : decode cX5_groupsOf 16 = .ok (.invokevirtual 70, 3) := by decide +kernel
theorem dX5_groupsOf_19 : decode cX5_groupsOf 19 = .ok (.ifCond .ne 7, 3) := by decide +kernel
theorem dX5_groupsOf_22 : decode cX5_groupsOf 22 = .ok (.iconst 1, 1) := by decide +kernel
theorem dX5_groupsOf_23 : decode cX5_groupsOf 23 = .ok (.goto 4, 3) := by decide +kernel
theorem dX5_groupsOf_26 : decode cX5_groupsOf 26 = .ok (.iconst 0, 1) := by decide +kernel
theorem dX5_groupsOf_27 : decode cX5_groupsOf 27 = .ok (.iadd, 1) := by decide +kernel
theorem dX5_groupsOf_28 : decode cX5_groupsOf 28 = .ok (.istore_n 2, 1) := by decide +kernel
theorem dX5_groupsOf_29 : decode cX5_groupsOf 29 = .ok (.iinc 3 1, 3) := by decide +kernel
theorem dX5_groupsOf_32 : decode cX5_groupsOf 32 = .ok (.goto (-28), 3) := by decide +kernel
theorem dX5_groupsOf_35 : decode cX5_groupsOf 35 = .ok (.iload_n 2, 1) := by decide +kernel
theorem dX5_groupsOf_36 : decode cX5_groupsOf 36 = .ok (.ireturn, 1) := by decide +kernel
set_option maxRecDepth 20000 in
theorem ggX5_keeper_X5_goes : GoodIn wsX5_keeper wsX5_goes := goodIn_r _ [6, 7, 17, 18, 19, 20, 21, 22, 23, 24, 25, 26] (by decide +kernel) (by decide +kernel)
set_option maxRecDepth 20000 in
theorem gX5_keeper_X5_goes : GoodIn wsX5_keeper (wsV RX5 74 RX5 yX5_goes wsX5_goes) := goodIn_app (goodIn_of _ (by decide +kernel)) ggX5_keeper_X5_goes
set_option maxRecDepth 20000 in
theorem ggX5_keeper_X5_saves : GoodIn wsX5_keeper wsX5_saves := goodIn_r _ [11, 12, 13, 14, 15, 5, 16, 1, 17, 18, 19, 20, 21, 22, 23, 24, 25, 26] (by decide +kernel) (by decide +kernel)
set_option maxRecDepth 20000 in
theorem gX5_keeper_X5_saves : GoodIn wsX5_keeper (wsV RX5 78 RX5 yX5_saves wsX5_saves) := goodIn_app (goodIn_of _ (by decide +kernel)) ggX5_keeper_X5_saves
theorem dX5_keeper_0 : decode cX5_keeper 0 = .ok (.aload_n 0, 1) := by decide +kernel
theorem dX5_keeper_1 : decode cX5_keeper 1 = .ok (.aload_n 0, 1) := by decide +kernel
theorem dX5_keeper_2 : decode cX5_keeper 2 = .ok (.getfield 7, 3) := by decide +kernel
theorem dX5_keeper_5 : decode cX5_keeper 5 = .ok (.iconst 1, 1) := by decide +kernel
theorem dX5_keeper_6 : decode cX5_keeper 6 = .ok (.iaload, 1) := by decide +kernel
theorem dX5_keeper_7 : decode cX5_keeper 7 = .ok (.bipush 8, 2) := by decide +kernel
theorem dX5_keeper_9 : decode cX5_keeper 9 = .ok (.if_icmp .ge 7, 3) := by decide +kernel
theorem dX5_keeper_12 : decode cX5_keeper 12 = .ok (.iconst 1, 1) := by decide +kernel
theorem dX5_keeper_13 : decode cX5_keeper 13 = .ok (.goto 4, 3) := by decide +kernel
theorem dX5_keeper_16 : decode cX5_keeper 16 = .ok (.iconst 0, 1) := by decide +kernel
theorem dX5_keeper_17 : decode cX5_keeper 17 = .ok (.iconst 1, 1) := by decide +kernel
theorem dX5_keeper_18 : decode cX5_keeper 18 = .ok (.invokevirtual 74, 3) := by decide +kernel
theorem dX5_keeper_21 : decode cX5_keeper 21 = .ok (.ifCond .ne 5, 3) := by decide +kernel
theorem dX5_keeper_24 : decode cX5_keeper 24 = .ok (.iconst 0, 1) := by decide +kernel
theorem dX5_keeper_25 : decode cX5_keeper 25 = .ok (.ireturn, 1) := by decide +kernel
theorem dX5_keeper_26 : decode cX5_keeper 26 = .ok (.aload_n 0, 1) := by decide +kernel
theorem dX5_keeper_27 : decode cX5_keeper 27 = .ok (.invokevirtual 78, 3) := by decide +kernel
theorem dX5_keeper_30 : decode cX5_keeper 30 = .ok (.aload_n 0, 1) := by decide +kernel
theorem dX5_keeper_31 : decode cX5_keeper 31 = .ok (.getfield 7, 3) := by decide +kernel
theorem dX5_keeper_34 : decode cX5_keeper 34 = .ok (.iconst 2, 1) := by decide +kernel
theorem dX5_keeper_35 : decode cX5_keeper 35 = .ok (.dup2, 1) := by decide +kernel
theorem dX5_keeper_36 : decode cX5_keeper 36 = .ok (.iaload, 1) := by decide +kernel
theorem dX5_keeper_37 : decode cX5_keeper 37 = .ok (.iconst 1, 1) := by decide +kernel
theorem dX5_keeper_38 : decode cX5_keeper 38 = .ok (.aload_n 0, 1) := by decide +kernel
theorem dX5_keeper_39 : decode cX5_keeper 39 = .ok (.getfield 7, 3) := by decide +kernel
theorem dX5_keeper_42 : decode cX5_keeper 42 = .ok (.iconst 1, 1) := by decide +kernel
theorem dX5_keeper_43 : decode cX5_keeper 43 = .ok (.iaload, 1) := by decide +kernel
theorem dX5_keeper_44 : decode cX5_keeper 44 = .ok (.ishl, 1) := by decide +kernel
theorem dX5_keeper_45 : decode cX5_keeper 45 = .ok (.ior, 1) := by decide +kernel
theorem dX5_keeper_46 : decode cX5_keeper 46 = .ok (.iastore, 1) := by decide +kernel
theorem dX5_keeper_47 : decode cX5_keeper 47 = .ok (.aload_n 0, 1) := by decide +kernel
theorem dX5_keeper_48 : decode cX5_keeper 48 = .ok (.getfield 7, 3) := by decide +kernel
theorem dX5_keeper_51 : decode cX5_keeper 51 = .ok (.iconst 1, 1) := by decide +kernel
theorem dX5_keeper_52 : decode cX5_keeper 52 = .ok (.dup2, 1) := by decide +kernel
theorem dX5_keeper_53 : decode cX5_keeper 53 = .ok (.iaload, 1) := by decide +kernel
theorem dX5_keeper_54 : decode cX5_keeper 54 = .ok (.iconst 1, 1) := by decide +kernel
theorem dX5_keeper_55 : decode cX5_keeper 55 = .ok (.iadd, 1) := by decide +kernel
theorem dX5_keeper_56 : decode cX5_keeper 56 = .ok (.iastore, 1) := by decide +kernel
theorem dX5_keeper_57 : decode cX5_keeper 57 = .ok (.aload_n 0, 1) := by decide +kernel
theorem dX5_keeper_58 : decode cX5_keeper 58 = .ok (.getfield 7, 3) := by decide +kernel
theorem dX5_keeper_61 : decode cX5_keeper 61 = .ok (.iconst 1, 1) := by decide +kernel
theorem dX5_keeper_62 : decode cX5_keeper 62 = .ok (.iaload, 1) := by decide +kernel
theorem dX5_keeper_63 : decode cX5_keeper 63 = .ok (.iconst 1, 1) := by decide +kernel
theorem dX5_keeper_64 : decode cX5_keeper 64 = .ok (.isub, 1) := by decide +kernel
theorem dX5_keeper_65 : decode cX5_keeper 65 = .ok (.ireturn, 1) := by decide +kernel
set_option maxRecDepth 20000 in
theorem ggX5_die_X5_isKeeper : GoodIn wsX5_die wsX5_isKeeper := goodIn_r _ [6, 1, 7, 8, 5, 9, 31, 32, 33, 34, 35, 36, 37, 38, 39, 40] (by decide +kernel) (by decide +kernel)
set_option maxRecDepth 20000 in
theorem gX5_die_X5_isKeeper : GoodIn wsX5_die (wsV RX5 81 RX5 yX5_isKeeper wsX5_isKeeper) := goodIn_app (goodIn_of _ (by decide +kernel)) ggX5_die_X5_isKeeper
set_option maxRecDepth 20000 in
theorem ggX5_die_X5_has : GoodIn wsX5_die wsX5_has := goodIn_r _ [12] (by decide +kernel) (by decide +kernel)
set_option maxRecDepth 20000 in
theorem gX5_die_X5_has : GoodIn wsX5_die (va_wsS RX5 43 yX5_has wsX5_has) := goodIn_app (goodIn_of _ (by decide +kernel)) ggX5_die_X5_has
set_option maxRecDepth 20000 in
theorem ggX5_die_X5_goes : GoodIn wsX5_die wsX5_goes := goodIn_r _ [16, 17, 31, 32, 33, 34, 35, 36, 37, 38, 39, 40] (by decide +kernel) (by decide +kernel)
set_option maxRecDepth 20000 in
theorem gX5_die_X5_goes : GoodIn wsX5_die (wsV RX5 74 RX5 yX5_goes wsX5_goes) := goodIn_app (goodIn_of _ (by decide +kernel)) ggX5_die_X5_goes
set_option maxRecDepth 20000 in
theorem ggX5_die_X5_saves : GoodIn wsX5_die wsX5_saves := goodIn_r _ [21, 22, 23, 24, 25, 5, 26, 1, 31, 32, 33, 34, 35, 36, 37, 38, 39, 40] (by decide +kernel) (by decide +kernel)
set_option maxRecDepth 20000 in
theorem gX5_die_X5_saves : GoodIn wsX5_die (wsV RX5 78 RX5 yX5_saves wsX5_saves) := goodIn_app (goodIn_of _ (by decide +kernel)) ggX5_die_X5_saves
set_option maxRecDepth 20000 in
theorem ggX5_die_X5_dies : GoodIn wsX5_die wsX5_dies := goodIn_r _ [30, 1, 10, 11, 5, 12, 31, 32, 33, 34, 35, 36, 37, 38, 39, 40] (by decide +kernel) (by decide +kernel)
set_option maxRecDepth 20000 in
theorem gX5_die_X5_dies : GoodIn wsX5_die (wsV RX5 85 RX5 yX5_dies wsX5_dies) := goodIn_app (goodIn_of _ (by decide +kernel)) ggX5_die_X5_dies
theorem dX5_die_0 : decode cX5_die 0 = .ok (.aload_n 0, 1) := by decide +kernel
theorem dX5_die_1 : decode cX5_die 1 = .ok (.aload_n 0, 1) := by decide +kernel
theorem dX5_die_2 : decode cX5_die 2 = .ok (.iload_n 1, 1) := by decide +kernel
theorem dX5_die_3 : decode cX5_die 3 = .ok (.invokevirtual 81, 3) := by decide +kernel
theorem dX5_die_6 : decode cX5_die 6 = .ok (.aload_n 0, 1) := by decide +kernel
theorem dX5_die_7 : decode cX5_die 7 = .ok (.iload_n 1, 1) := by decide +kernel
theorem dX5_die_8 : decode cX5_die 8 = .ok (.invokevirtual 81, 3) := by decide +kernel
theorem dX5_die_11 : decode cX5_die 11 = .ok (.ifCond .eq 20, 3) := by decide +kernel
theorem dX5_die_14 : decode cX5_die 14 = .ok (.aload_n 0, 1) := by decide +kernel
theorem dX5_die_15 : decode cX5_die 15 = .ok (.getfield 7, 3) := by decide +kernel
theorem dX5_die_18 : decode cX5_die 18 = .ok (.iconst 2, 1) := by decide +kernel
theorem dX5_die_19 : decode cX5_die 19 = .ok (.iaload, 1) := by decide +kernel
theorem dX5_die_20 : decode cX5_die 20 = .ok (.iload_n 1, 1) := by decide +kernel
theorem dX5_die_21 : decode cX5_die 21 = .ok (.invokestatic 43, 3) := by decide +kernel
theorem dX5_die_24 : decode cX5_die 24 = .ok (.ifCond .eq 7, 3) := by decide +kernel
theorem dX5_die_27 : decode cX5_die 27 = .ok (.iconst 1, 1) := by decide +kernel
theorem dX5_die_28 : decode cX5_die 28 = .ok (.goto 4, 3) := by decide +kernel
theorem dX5_die_31 : decode cX5_die 31 = .ok (.iconst 0, 1) := by decide +kernel
theorem dX5_die_32 : decode cX5_die 32 = .ok (.invokevirtual 74, 3) := by decide +kernel
theorem dX5_die_35 : decode cX5_die 35 = .ok (.ifCond .ne 5, 3) := by decide +kernel
theorem dX5_die_38 : decode cX5_die 38 = .ok (.iconst 0, 1) := by decide +kernel
theorem dX5_die_39 : decode cX5_die 39 = .ok (.ireturn, 1) := by decide +kernel
theorem dX5_die_40 : decode cX5_die 40 = .ok (.aload_n 0, 1) := by decide +kernel
theorem dX5_die_41 : decode cX5_die 41 = .ok (.invokevirtual 78, 3) := by decide +kernel
theorem dX5_die_44 : decode cX5_die 44 = .ok (.aload_n 0, 1) := by decide +kernel
theorem dX5_die_45 : decode cX5_die 45 = .ok (.iconst 0, 1) := by decide +kernel
theorem dX5_die_46 : decode cX5_die 46 = .ok (.iload_n 1, 1) := by decide +kernel
theorem dX5_die_47 : decode cX5_die 47 = .ok (.invokevirtual 85, 3) := by decide +kernel
theorem dX5_die_50 : decode cX5_die 50 = .ok (.ireturn, 1) := by decide +kernel
set_option maxRecDepth 20000 in
theorem ggX5_areAlive_X5_has : GoodIn wsX5_areAlive wsX5_has := goodIn_r _ [5] (by decide +kernel) (by decide +kernel)
set_option maxRecDepth 20000 in
theorem gX5_areAlive_X5_has : GoodIn wsX5_areAlive (va_wsS RX5 43 yX5_has wsX5_has) := goodIn_app (goodIn_of _ (by decide +kernel)) ggX5_areAlive_X5_has
theorem dX5_areAlive_0 : decode cX5_areAlive 0 = .ok (.aload_n 0, 1) := by decide +kernel
theorem dX5_areAlive_1 : decode cX5_areAlive 1 = .ok (.getfield 7, 3) := by decide +kernel
theorem dX5_areAlive_4 : decode cX5_areAlive 4 = .ok (.iload_n 1, 1) := by decide +kernel
theorem dX5_areAlive_5 : decode cX5_areAlive 5 = .ok (.iconst 2, 1) := by decide +kernel
theorem dX5_areAlive_6 : decode cX5_areAlive 6 = .ok (.iadd, 1) := by decide +kernel
theorem dX5_areAlive_7 : decode cX5_areAlive 7 = .ok (.iaload, 1) := by decide +kernel
theorem dX5_areAlive_8 : decode cX5_areAlive 8 = .ok (.iload_n 2, 1) := by decide +kernel
theorem dX5_areAlive_9 : decode cX5_areAlive 9 = .ok (.invokestatic 43, 3) := by decide +kernel
theorem dX5_areAlive_12 : decode cX5_areAlive 12 = .ok (.ifCond .eq 26, 3) := by decide +kernel
theorem dX5_areAlive_15 : decode cX5_areAlive 15 = .ok (.iload_n 3, 1) := by decide +kernel
theorem dX5_areAlive_16 : decode cX5_areAlive 16 = .ok (.ifCond .lt 18, 3) := by decide +kernel
theorem dX5_areAlive_19 : decode cX5_areAlive 19 = .ok (.aload_n 0, 1) := by decide +kernel
theorem dX5_areAlive_20 : decode cX5_areAlive 20 = .ok (.getfield 7, 3) := by decide +kernel
theorem dX5_areAlive_23 : decode cX5_areAlive 23 = .ok (.iload_n 1, 1) := by decide +kernel
theorem dX5_areAlive_24 : decode cX5_areAlive 24 = .ok (.iconst 2, 1) := by decide +kernel
theorem dX5_areAlive_25 : decode cX5_areAlive 25 = .ok (.iadd, 1) := by decide +kernel
theorem dX5_areAlive_26 : decode cX5_areAlive 26 = .ok (.iaload, 1) := by decide +kernel
theorem dX5_areAlive_27 : decode cX5_areAlive 27 = .ok (.iload_n 3, 1) := by decide +kernel
theorem dX5_areAlive_28 : decode cX5_areAlive 28 = .ok (.invokestatic 43, 3) := by decide +kernel
theorem dX5_areAlive_31 : decode cX5_areAlive 31 = .ok (.ifCond .eq 7, 3) := by decide +kernel
theorem dX5_areAlive_34 : decode cX5_areAlive 34 = .ok (.iconst 1, 1) := by decide +kernel
theorem dX5_areAlive_35 : decode cX5_areAlive 35 = .ok (.goto 4, 3) := by decide +kernel
theorem dX5_areAlive_38 : decode cX5_areAlive 38 = .ok (.iconst 0, 1) := by decide +kernel
theorem dX5_areAlive_39 : decode cX5_areAlive 39 = .ok (.ireturn, 1) := by decide +kernel
set_option maxRecDepth 20000 in
theorem ggX5_heir_X5_isKeeper : GoodIn wsX5_heir wsX5_isKeeper := goodIn_r _ [6, 1, 7, 8, 5, 9, 31, 32, 33, 34, 35, 36, 37, 38, 39, 40] (by decide +kernel) (by decide +kernel)
set_option maxRecDepth 20000 in
theorem gX5_heir_X5_isKeeper : GoodIn wsX5_heir (wsV RX5 81 RX5 yX5_isKeeper wsX5_isKeeper) := goodIn_app (goodIn_of _ (by decide +kernel)) ggX5_heir_X5_isKeeper
set_option maxRecDepth 20000 in
theorem ggX5_heir_X5_areAlive : GoodIn wsX5_heir wsX5_areAlive := goodIn_r _ [13, 1, 14, 15, 5, 16, 31, 32, 33, 34, 35, 36, 37, 38, 39, 40] (by decide +kernel) (by decide +kernel)
set_option maxRecDepth 20000 in
theorem gX5_heir_X5_areAlive : GoodIn wsX5_heir (wsV RX5 88 RX5 yX5_areAlive wsX5_areAlive) := goodIn_app (goodIn_of _ (by decide +kernel)) ggX5_heir_X5_areAlive
set_option maxRecDepth 20000 in
theorem ggX5_heir_X5_goes : GoodIn wsX5_heir wsX5_goes := goodIn_r _ [20, 21, 31, 32, 33, 34, 35, 36, 37, 38, 39, 40] (by decide +kernel) (by decide +kernel)
set_option maxRecDepth 20000 in
theorem gX5_heir_X5_goes : GoodIn wsX5_heir (wsV RX5 74 RX5 yX5_goes wsX5_goes) := goodIn_app (goodIn_of _ (by decide +kernel)) ggX5_heir_X5_goes
set_option maxRecDepth 20000 in
theorem ggX5_heir_X5_saves : GoodIn wsX5_heir wsX5_saves := goodIn_r _ [25, 26, 27, 28, 29, 5, 30, 1, 31, 32, 33, 34, 35, 36, 37, 38, 39, 40] (by decide +kernel) (by decide +kernel)
set_option maxRecDepth 20000 in
theorem gX5_heir_X5_saves : GoodIn wsX5_heir (wsV RX5 78 RX5 yX5_saves wsX5_saves) := goodIn_app (goodIn_of _ (by decide +kernel)) ggX5_heir_X5_saves
theorem dX5_heir_0 : decode cX5_heir 0 = .ok (.aload_n 0, 1) := by decide +kernel
theorem dX5_heir_1 : decode cX5_heir 1 = .ok (.iload_n 1, 1) := by decide +kernel
theorem dX5_heir_2 : decode cX5_heir 2 = .ok (.invokevirtual 81, 3) := by decide +kernel
theorem dX5_heir_5 : decode cX5_heir 5 = .ok (.ifCond .eq 20, 3) := by decide +kernel
theorem dX5_heir_8 : decode cX5_heir 8 = .ok (.iload_n 2, 1) := by decide +kernel
theorem dX5_heir_9 : decode cX5_heir 9 = .ok (.iconst (-1), 1) := by decide +kernel
theorem dX5_heir_10 : decode cX5_heir 10 = .ok (.if_icmp .eq 11, 3) := by decide +kernel
theorem dX5_heir_13 : decode cX5_heir 13 = .ok (.aload_n 0, 1) := by decide +kernel
theorem dX5_heir_14 : decode cX5_heir 14 = .ok (.iload_n 2, 1) := by decide +kernel
theorem dX5_heir_15 : decode cX5_heir 15 = .ok (.invokevirtual 81, 3) := by decide +kernel
theorem dX5_heir_18 : decode cX5_heir 18 = .ok (.ifCond .eq 7, 3) := by decide +kernel
theorem dX5_heir_21 : decode cX5_heir 21 = .ok (.iconst 1, 1) := by decide +kernel
theorem dX5_heir_22 : decode cX5_heir 22 = .ok (.goto 4, 3) := by decide +kernel
theorem dX5_heir_25 : decode cX5_heir 25 = .ok (.iconst 0, 1) := by decide +kernel
theorem dX5_heir_26 : decode cX5_heir 26 = .ok (.istore_n 3, 1) := by decide +kernel
theorem dX5_heir_27 : decode cX5_heir 27 = .ok (.aload_n 0, 1) := by decide +kernel
theorem dX5_heir_28 : decode cX5_heir 28 = .ok (.iload_n 3, 1) := by decide +kernel
theorem dX5_heir_29 : decode cX5_heir 29 = .ok (.iload_n 3, 1) := by decide +kernel
theorem dX5_heir_30 : decode cX5_heir 30 = .ok (.ifCond .eq 22, 3) := by decide +kernel
theorem dX5_heir_33 : decode cX5_heir 33 = .ok (.iload_n 1, 1) := by decide +kernel
theorem dX5_heir_34 : decode cX5_heir 34 = .ok (.iload_n 2, 1) := by decide +kernel
theorem dX5_heir_35 : decode cX5_heir 35 = .ok (.if_icmp .eq 17, 3) := by decide +kernel
theorem dX5_heir_38 : decode cX5_heir 38 = .ok (.aload_n 0, 1) := by decide +kernel
theorem dX5_heir_39 : decode cX5_heir 39 = .ok (.iconst 0, 1) := by decide +kernel
theorem dX5_heir_40 : decode cX5_heir 40 = .ok (.iload_n 1, 1) := by decide +kernel
theorem dX5_heir_41 : decode cX5_heir 41 = .ok (.iload_n 2, 1) := by decide +kernel
theorem dX5_heir_42 : decode cX5_heir 42 = .ok (.invokevirtual 88, 3) := by decide +kernel
theorem dX5_heir_45 : decode cX5_heir 45 = .ok (.ifCond .eq 7, 3) := by decide +kernel
theorem dX5_heir_48 : decode cX5_heir 48 = .ok (.iconst 1, 1) := by decide +kernel
theorem dX5_heir_49 : decode cX5_heir 49 = .ok (.goto 4, 3) := by decide +kernel
theorem dX5_heir_52 : decode cX5_heir 52 = .ok (.iconst 0, 1) := by decide +kernel
theorem dX5_heir_53 : decode cX5_heir 53 = .ok (.invokevirtual 74, 3) := by decide +kernel
theorem dX5_heir_56 : decode cX5_heir 56 = .ok (.ifCond .ne 5, 3) := by decide +kernel
theorem dX5_heir_59 : decode cX5_heir 59 = .ok (.iconst 0, 1) := by decide +kernel
theorem dX5_heir_60 : decode cX5_heir 60 = .ok (.ireturn, 1) := by decide +kernel
theorem dX5_heir_61 : decode cX5_heir 61 = .ok (.aload_n 0, 1) := by decide +kernel
theorem dX5_heir_62 : decode cX5_heir 62 = .ok (.invokevirtual 78, 3) := by decide +kernel
theorem dX5_heir_65 : decode cX5_heir 65 = .ok (.aload_n 0, 1) := by decide +kernel
theorem dX5_heir_66 : decode cX5_heir 66 = .ok (.getfield 7, 3) := by decide +kernel
theorem dX5_heir_69 : decode cX5_heir 69 = .ok (.iconst 3, 1) := by decide +kernel
theorem dX5_heir_70 : decode cX5_heir 70 = .ok (.iload_n 1, 1) := by decide +kernel
theorem dX5_heir_71 : decode cX5_heir 71 = .ok (.iadd, 1) := by decide +kernel
theorem dX5_heir_72 : decode cX5_heir 72 = .ok (.iaload, 1) := by decide +kernel
theorem dX5_heir_73 : decode cX5_heir 73 = .ok (.istore 4, 2) := by decide +kernel
theorem dX5_heir_75 : decode cX5_heir 75 = .ok (.aload_n 0, 1) := by decide +kernel
theorem dX5_heir_76 : decode cX5_heir 76 = .ok (.getfield 7, 3) := by decide +kernel
theorem dX5_heir_79 : decode cX5_heir 79 = .ok (.iconst 3, 1) := by decide +kernel
theorem dX5_heir_80 : decode cX5_heir 80 = .ok (.iload_n 1, 1) := by decide +kernel
theorem dX5_heir_81 : decode cX5_heir 81 = .ok (.iadd, 1) := by decide +kernel
theorem dX5_heir_82 : decode cX5_heir 82 = .ok (.iload_n 2, 1) := by decide +kernel
theorem dX5_heir_83 : decode cX5_heir 83 = .ok (.iastore, 1) := by decide +kernel
theorem dX5_heir_84 : decode cX5_heir 84 = .ok (.iload 4, 2) := by decide +kernel
theorem dX5_heir_86 : decode cX5_heir 86 = .ok (.ireturn, 1) := by decide +kernel
set_option maxRecDepth 20000 in
theorem ggX5_quarrel_X5_isKeeper : GoodIn wsX5_quarrel wsX5_isKeeper := goodIn_r _ [6, 1, 7, 8, 5, 9, 27, 28, 29, 30, 31, 32, 33, 34, 35, 36] (by decide +kernel) (by decide +kernel)
set_option maxRecDepth 20000 in
theorem gX5_quarrel_X5_isKeeper : GoodIn wsX5_quarrel (wsV RX5 81 RX5 yX5_isKeeper wsX5_isKeeper) := goodIn_app (goodIn_of _ (by decide +kernel)) ggX5_quarrel_X5_isKeeper
set_option maxRecDepth 20000 in
theorem ggX5_quarrel_X5_goes : GoodIn wsX5_quarrel wsX5_goes := goodIn_r _ [13, 14, 27, 28, 29, 30, 31, 32, 33, 34, 35, 36] (by decide +kernel) (by decide +kernel)
set_option maxRecDepth 20000 in
theorem gX5_quarrel_X5_goes : GoodIn wsX5_quarrel (wsV RX5 74 RX5 yX5_goes wsX5_goes) := goodIn_app (goodIn_of _ (by decide +kernel)) ggX5_quarrel_X5_goes
set_option maxRecDepth 20000 in
theorem ggX5_quarrel_X5_saves : GoodIn wsX5_quarrel wsX5_saves := goodIn_r _ [18, 19, 20, 21, 22, 5, 23, 1, 27, 28, 29, 30, 31, 32, 33, 34, 35, 36] (by decide +kernel) (by decide +kernel)
set_option maxRecDepth 20000 in
theorem gX5_quarrel_X5_saves : GoodIn wsX5_quarrel (wsV RX5 78 RX5 yX5_saves wsX5_saves) := goodIn_app (goodIn_of _ (by decide +kernel)) ggX5_quarrel_X5_saves
set_option maxRecDepth 20000 in
theorem ggX5_quarrel_X5_bits : GoodIn wsX5_quarrel wsX5_bits := goodIn_r _ [26] (by decide +kernel) (by decide +kernel)
set_option maxRecDepth 20000 in
theorem gX5_quarrel_X5_bits : GoodIn wsX5_quarrel (va_wsS RX5 47 yX5_bits wsX5_bits) := goodIn_app (goodIn_of _ (by decide +kernel)) ggX5_quarrel_X5_bits
theorem dX5_quarrel_0 : decode cX5_quarrel 0 = .ok (.aload_n 0, 1) := by decide +kernel
theorem dX5_quarrel_1 : decode cX5_quarrel 1 = .ok (.aload_n 0, 1) := by decide +kernel
theorem dX5_quarrel_2 : decode cX5_quarrel 2 = .ok (.iload_n 1, 1) := by decide +kernel
theorem dX5_quarrel_3 : decode cX5_quarrel 3 = .ok (.invokevirtual 81, 3) := by decide +kernel
theorem dX5_quarrel_6 : decode cX5_quarrel 6 = .ok (.ifCond .eq 15, 3) := by decide +kernel
theorem dX5_quarrel_9 : decode cX5_quarrel 9 = .ok (.aload_n 0, 1) := by decide +kernel
theorem dX5_quarrel_10 : decode cX5_quarrel 10 = .ok (.iload_n 2, 1) := by decide +kernel
theorem dX5_quarrel_11 : decode cX5_quarrel 11 = .ok (.invokevirtual 81, 3) := by decide +kernel
theorem dX5_quarrel_14 : decode cX5_quarrel 14 = .ok (.ifCond .eq 7, 3) := by decide +kernel
theorem dX5_quarrel_17 : decode cX5_quarrel 17 = .ok (.iconst 1, 1) := by decide +kernel
theorem dX5_quarrel_18 : decode cX5_quarrel 18 = .ok (.goto 4, 3) := by decide +kernel
theorem dX5_quarrel_21 : decode cX5_quarrel 21 = .ok (.iconst 0, 1) := by decide +kernel
theorem dX5_quarrel_22 : decode cX5_quarrel 22 = .ok (.iload_n 1, 1) := by decide +kernel
theorem dX5_quarrel_23 : decode cX5_quarrel 23 = .ok (.iload_n 2, 1) := by decide +kernel
theorem dX5_quarrel_24 : decode cX5_quarrel 24 = .ok (.if_icmp .eq 7, 3) := by decide +kernel
theorem dX5_quarrel_27 : decode cX5_quarrel 27 = .ok (.iconst 1, 1) := by decide +kernel
theorem dX5_quarrel_28 : decode cX5_quarrel 28 = .ok (.goto 4, 3) := by decide +kernel
theorem dX5_quarrel_31 : decode cX5_quarrel 31 = .ok (.iconst 0, 1) := by decide +kernel
theorem dX5_quarrel_32 : decode cX5_quarrel 32 = .ok (.invokevirtual 74, 3) := by decide +kernel
theorem dX5_quarrel_35 : decode cX5_quarrel 35 = .ok (.ifCond .ne 5, 3) := by decide +kernel
theorem dX5_quarrel_38 : decode cX5_quarrel 38 = .ok (.iconst 0, 1) := by decide +kernel
theorem dX5_quarrel_39 : decode cX5_quarrel 39 = .ok (.ireturn, 1) := by decide +kernel
theorem dX5_quarrel_40 : decode cX5_quarrel 40 = .ok (.aload_n 0, 1) := by decide +kernel
theorem dX5_quarrel_41 : decode cX5_quarrel 41 = .ok (.invokevirtual 78, 3) := by decide +kernel
theorem dX5_quarrel_44 : decode cX5_quarrel 44 = .ok (.aload_n 0, 1) := by decide +kernel
theorem dX5_quarrel_45 : decode cX5_quarrel 45 = .ok (.getfield 7, 3) := by decide +kernel
theorem dX5_quarrel_48 : decode cX5_quarrel 48 = .ok (.bipush 11, 2) := by decide +kernel
theorem dX5_quarrel_50 : decode cX5_quarrel 50 = .ok (.iload_n 1, 1) := by decide +kernel
theorem dX5_quarrel_51 : decode cX5_quarrel 51 = .ok (.iadd, 1) := by decide +kernel
theorem dX5_quarrel_52 : decode cX5_quarrel 52 = .ok (.dup2, 1) := by decide +kernel
theorem dX5_quarrel_53 : decode cX5_quarrel 53 = .ok (.iaload, 1) := by decide +kernel
theorem dX5_quarrel_54 : decode cX5_quarrel 54 = .ok (.iconst 1, 1) := by decide +kernel
theorem dX5_quarrel_55 : decode cX5_quarrel 55 = .ok (.iload_n 2, 1) := by decide +kernel
theorem dX5_quarrel_56 : decode cX5_quarrel 56 = .ok (.ishl, 1) := by decide +kernel
theorem dX5_quarrel_57 : decode cX5_quarrel 57 = .ok (.ixor, 1) := by decide +kernel
theorem dX5_quarrel_58 : decode cX5_quarrel 58 = .ok (.iastore, 1) := by decide +kernel
theorem dX5_quarrel_59 : decode cX5_quarrel 59 = .ok (.aload_n 0, 1) := by decide +kernel
theorem dX5_quarrel_60 : decode cX5_quarrel 60 = .ok (.getfield 7, 3) := by decide +kernel
theorem dX5_quarrel_63 : decode cX5_quarrel 63 = .ok (.bipush 11, 2) := by decide +kernel
theorem dX5_quarrel_65 : decode cX5_quarrel 65 = .ok (.iload_n 2, 1) := by decide +kernel
theorem dX5_quarrel_66 : decode cX5_quarrel 66 = .ok (.iadd, 1) := by decide +kernel
theorem dX5_quarrel_67 : decode cX5_quarrel 67 = .ok (.dup2, 1) := by decide +kernel
theorem dX5_quarrel_68 : decode cX5_quarrel 68 = .ok (.iaload, 1) := by decide +kernel
theorem dX5_quarrel_69 : decode cX5_quarrel 69 = .ok (.iconst 1, 1) := by decide +kernel
theorem dX5_quarrel_70 : decode cX5_quarrel 70 = .ok (.iload_n 1, 1) := by decide +kernel
theorem dX5_quarrel_71 : decode cX5_quarrel 71 = .ok (.ishl, 1) := by decide +kernel
theorem dX5_quarrel_72 : decode cX5_quarrel 72 = .ok (.ixor, 1) := by decide +kernel
theorem dX5_quarrel_73 : decode cX5_quarrel 73 = .ok (.iastore, 1) := by decide +kernel
theorem dX5_quarrel_74 : decode cX5_quarrel 74 = .ok (.aload_n 0, 1) := by decide +kernel
theorem dX5_quarrel_75 : decode cX5_quarrel 75 = .ok (.getfield 7, 3) := by decide +kernel
theorem dX5_quarrel_78 : decode cX5_quarrel 78 = .ok (.bipush 11, 2) := by decide +kernel
theorem dX5_quarrel_80 : decode cX5_quarrel 80 = .ok (.iload_n 1, 1) := by decide +kernel
theorem dX5_quarrel_81 : decode cX5_quarrel 81 = .ok (.iadd, 1) := by decide +kernel
theorem dX5_quarrel_82 : decode cX5_quarrel 82 = .ok (.iaload, 1) := by decide +kernel
theorem dX5_quarrel_83 : decode cX5_quarrel 83 = .ok (.invokestatic 47, 3) := by decide +kernel
theorem dX5_quarrel_86 : decode cX5_quarrel 86 = .ok (.ireturn, 1) := by decide +kernel
set_option maxRecDepth 20000 in
theorem ggX5_seal_X5_in : GoodIn wsX5_seal wsX5_in := goodIn_r _ [5] (by decide +kernel) (by decide +kernel)
set_option maxRecDepth 20000 in
theorem gX5_seal_X5_in : GoodIn wsX5_seal (va_wsS RX5 34 yX5_in wsX5_in) := goodIn_app (goodIn_of _ (by decide +kernel)) ggX5_seal_X5_in
set_option maxRecDepth 20000 in
theorem ggX5_seal_X5_bits : GoodIn wsX5_seal wsX5_bits := goodIn_r _ [8] (by decide +kernel) (by decide +kernel)
set_option maxRecDepth 20000 in
theorem gX5_seal_X5_bits : GoodIn wsX5_seal (va_wsS RX5 47 yX5_bits wsX5_bits) := goodIn_app (goodIn_of _ (by decide +kernel)) ggX5_seal_X5_bits
set_option maxRecDepth 20000 in
theorem ggX5_seal_X5_goes : GoodIn wsX5_seal wsX5_goes := goodIn_r _ [12, 13, 36, 37, 38, 39, 40, 41, 42, 43, 44, 45] (by decide +kernel) (by decide +kernel)
set_option maxRecDepth 20000 in
theorem gX5_seal_X5_goes : GoodIn wsX5_seal (wsV RX5 74 RX5 yX5_goes wsX5_goes) := goodIn_app (goodIn_of _ (by decide +kernel)) ggX5_seal_X5_goes
set_option maxRecDepth 20000 in
theorem ggX5_seal_X5_saves : GoodIn wsX5_seal wsX5_saves := goodIn_r _ [17, 18, 19, 20, 21, 4, 22, 1, 36, 37, 38, 39, 40, 41, 42, 43, 44, 45] (by decide +kernel) (by decide +kernel)
set_option maxRecDepth 20000 in
theorem gX5_seal_X5_saves : GoodIn wsX5_seal (wsV RX5 78 RX5 yX5_saves wsX5_saves) := goodIn_app (goodIn_of _ (by decide +kernel)) ggX5_seal_X5_saves
set_option maxRecDepth 20000 in
theorem ggX5_seal_X5_deals : GoodIn wsX5_seal wsX5_deals := goodIn_r _ [26, 27, 1, 28, 29, 30, 4, 31, 32, 33, 34, 35, 36, 37, 38, 39, 40, 41, 42, 43, 44, 45] (by decide +kernel) (by decide +kernel)
set_option maxRecDepth 20000 in
theorem gX5_seal_X5_deals : GoodIn wsX5_seal (wsV RX5 91 RX5 yX5_deals wsX5_deals) := goodIn_app (goodIn_of _ (by decide +kernel)) ggX5_seal_X5_deals
theorem dX5_seal_0 : decode cX5_seal 0 = .ok (.aload_n 0, 1) := by decide +kernel
theorem dX5_seal_1 : decode cX5_seal 1 = .ok (.iload_n 1, 1) := by decide +kernel
theorem dX5_seal_2 : decode cX5_seal 2 = .ok (.iconst 0, 1) := by decide +kernel
theorem dX5_seal_3 : decode cX5_seal 3 = .ok (.sipush 250, 3) := by decide +kernel
theorem dX5_seal_6 : decode cX5_seal 6 = .ok (.invokestatic 34, 3) := by decide +kernel
theorem dX5_seal_9 : decode cX5_seal 9 = .ok (.ifCond .eq 28, 3) := by decide +kernel
theorem dX5_seal_12 : decode cX5_seal 12 = .ok (.iload_n 2, 1) := by decide +kernel
theorem dX5_seal_13 : decode cX5_seal 13 = .ok (.iconst 1, 1) := by decide +kernel
theorem dX5_seal_14 : decode cX5_seal 14 = .ok (.bipush 8, 2) := by decide +kernel
theorem dX5_seal_16 : decode cX5_seal 16 = .ok (.invokestatic 34, 3) := by decide +kernel
theorem dX5_seal_19 : decode cX5_seal 19 = .ok (.ifCond .eq 18, 3) := by decide +kernel
theorem dX5_seal_22 : decode cX5_seal 22 = .ok (.iload_n 3, 1) := by decide +kernel
theorem dX5_seal_23 : decode cX5_seal 23 = .ok (.iconst 0, 1) := by decide +kernel
theorem dX5_seal_24 : decode cX5_seal 24 = .ok (.sipush 9999, 3) := by decide +kernel
theorem dX5_seal_27 : decode cX5_seal 27 = .ok (.invokestatic 34, 3) := by decide +kernel
theorem dX5_seal_30 : decode cX5_seal 30 = .ok (.ifCond .eq 7, 3) := by decide +kernel
theorem dX5_seal_33 : decode cX5_seal 33 = .ok (.iconst 1, 1) := by decide +kernel
theorem dX5_seal_34 : decode cX5_seal 34 = .ok (.goto 4, 3) := by decide +kernel
theorem dX5_seal_37 : decode cX5_seal 37 = .ok (.iconst 0, 1) := by decide +kernel
theorem dX5_seal_38 : decode cX5_seal 38 = .ok (.aload_n 0, 1) := by decide +kernel
theorem dX5_seal_39 : decode cX5_seal 39 = .ok (.getfield 7, 3) := by decide +kernel
theorem dX5_seal_42 : decode cX5_seal 42 = .ok (.iconst 2, 1) := by decide +kernel
theorem dX5_seal_43 : decode cX5_seal 43 = .ok (.iaload, 1) := by decide +kernel
theorem dX5_seal_44 : decode cX5_seal 44 = .ok (.invokestatic 47, 3) := by decide +kernel
theorem dX5_seal_47 : decode cX5_seal 47 = .ok (.iload_n 2, 1) := by decide +kernel
theorem dX5_seal_48 : decode cX5_seal 48 = .ok (.if_icmp .lt 7, 3) := by decide +kernel
theorem dX5_seal_51 : decode cX5_seal 51 = .ok (.iconst 1, 1) := by decide +kernel
theorem dX5_seal_52 : decode cX5_seal 52 = .ok (.goto 4, 3) := by decide +kernel
theorem dX5_seal_55 : decode cX5_seal 55 = .ok (.iconst 0, 1) := by decide +kernel
theorem dX5_seal_56 : decode cX5_seal 56 = .ok (.invokevirtual 74, 3) := by decide +kernel
theorem dX5_seal_59 : decode cX5_seal 59 = .ok (.ifCond .ne 5, 3) := by decide +kernel
theorem dX5_seal_62 : decode cX5_seal 62 = .ok (.iconst 0, 1) := by decide +kernel
theorem dX5_seal_63 : decode cX5_seal 63 = .ok (.ireturn, 1) := by decide +kernel
theorem dX5_seal_64 : decode cX5_seal 64 = .ok (.aload_n 0, 1) := by decide +kernel
theorem dX5_seal_65 : decode cX5_seal 65 = .ok (.invokevirtual 78, 3) := by decide +kernel
theorem dX5_seal_68 : decode cX5_seal 68 = .ok (.aload_n 0, 1) := by decide +kernel
theorem dX5_seal_69 : decode cX5_seal 69 = .ok (.getfield 7, 3) := by decide +kernel
theorem dX5_seal_72 : decode cX5_seal 72 = .ok (.bipush 27, 2) := by decide +kernel
theorem dX5_seal_74 : decode cX5_seal 74 = .ok (.iconst 1, 1) := by decide +kernel
theorem dX5_seal_75 : decode cX5_seal 75 = .ok (.iastore, 1) := by decide +kernel
theorem dX5_seal_76 : decode cX5_seal 76 = .ok (.aload_n 0, 1) := by decide +kernel
theorem dX5_seal_77 : decode cX5_seal 77 = .ok (.getfield 7, 3) := by decide +kernel
theorem dX5_seal_80 : decode cX5_seal 80 = .ok (.bipush 28, 2) := by decide +kernel
theorem dX5_seal_82 : decode cX5_seal 82 = .ok (.iload_n 1, 1) := by decide +kernel
theorem dX5_seal_83 : decode cX5_seal 83 = .ok (.iastore, 1) := by decide +kernel
theorem dX5_seal_84 : decode cX5_seal 84 = .ok (.aload_n 0, 1) := by decide +kernel
theorem dX5_seal_85 : decode cX5_seal 85 = .ok (.getfield 7, 3) := by decide +kernel
theorem dX5_seal_88 : decode cX5_seal 88 = .ok (.bipush 29, 2) := by decide +kernel
theorem dX5_seal_90 : decode cX5_seal 90 = .ok (.iload_n 2, 1) := by decide +kernel
theorem dX5_seal_91 : decode cX5_seal 91 = .ok (.iastore, 1) := by decide +kernel
theorem dX5_seal_92 : decode cX5_seal 92 = .ok (.aload_n 0, 1) := by decide +kernel
theorem dX5_seal_93 : decode cX5_seal 93 = .ok (.getfield 7, 3) := by decide +kernel
theorem dX5_seal_96 : decode cX5_seal 96 = .ok (.bipush 30, 2) := by decide +kernel
theorem dX5_seal_98 : decode cX5_seal 98 = .ok (.iload_n 3, 1) := by decide +kernel
theorem dX5_seal_99 : decode cX5_seal 99 = .ok (.iastore, 1) := by decide +kernel
theorem dX5_seal_100 : decode cX5_seal 100 = .ok (.aload_n 0, 1) := by decide +kernel
theorem dX5_seal_101 : decode cX5_seal 101 = .ok (.iconst 0, 1) := by decide +kernel
theorem dX5_seal_102 : decode cX5_seal 102 = .ok (.invokevirtual 91, 3) := by decide +kernel
theorem dX5_seal_105 : decode cX5_seal 105 = .ok (.ireturn, 1) := by decide +kernel
set_option maxRecDepth 20000 in
theorem ggX5_canRenew_X5_bits : GoodIn wsX5_canRenew wsX5_bits := goodIn_r _ [5] (by decide +kernel) (by decide +kernel)
set_option maxRecDepth 20000 in
theorem gX5_canRenew_X5_bits : GoodIn wsX5_canRenew (va_wsS RX5 47 yX5_bits wsX5_bits) := goodIn_app (goodIn_of _ (by decide +kernel)) ggX5_canRenew_X5_bits
theorem dX5_canRenew_0 : decode cX5_canRenew 0 = .ok (.aload_n 0, 1) := by decide +kernel
theorem dX5_canRenew_1 : decode cX5_canRenew 1 = .ok (.getfield 7, 3) := by decide +kernel
theorem dX5_canRenew_4 : decode cX5_canRenew 4 = .ok (.iload_n 1, 1) := by decide +kernel
theorem dX5_canRenew_5 : decode cX5_canRenew 5 = .ok (.bipush 27, 2) := by decide +kernel
theorem dX5_canRenew_7 : decode cX5_canRenew 7 = .ok (.iadd, 1) := by decide +kernel
theorem dX5_canRenew_8 : decode cX5_canRenew 8 = .ok (.iaload, 1) := by decide +kernel
theorem dX5_canRenew_9 : decode cX5_canRenew 9 = .ok (.iconst 1, 1) := by decide +kernel
theorem dX5_canRenew_10 : decode cX5_canRenew 10 = .ok (.if_icmp .ne 30, 3) := by decide +kernel
theorem dX5_canRenew_13 : decode cX5_canRenew 13 = .ok (.aload_n 0, 1) := by decide +kernel
theorem dX5_canRenew_14 : decode cX5_canRenew 14 = .ok (.getfield 7, 3) := by decide +kernel
theorem dX5_canRenew_17 : decode cX5_canRenew 17 = .ok (.iload_n 1, 1) := by decide +kernel
theorem dX5_canRenew_18 : decode cX5_canRenew 18 = .ok (.iconst 2, 1) := by decide +kernel
theorem dX5_canRenew_19 : decode cX5_canRenew 19 = .ok (.iadd, 1) := by decide +kernel
theorem dX5_canRenew_20 : decode cX5_canRenew 20 = .ok (.iaload, 1) := by decide +kernel
theorem dX5_canRenew_21 : decode cX5_canRenew 21 = .ok (.invokestatic 47, 3) := by decide +kernel
theorem dX5_canRenew_24 : decode cX5_canRenew 24 = .ok (.aload_n 0, 1) := by decide +kernel
theorem dX5_canRenew_25 : decode cX5_canRenew 25 = .ok (.getfield 7, 3) := by decide +kernel
theorem dX5_canRenew_28 : decode cX5_canRenew 28 = .ok (.iload_n 1, 1) := by decide +kernel
theorem dX5_canRenew_29 : decode cX5_canRenew 29 = .ok (.bipush 29, 2) := by decide +kernel
theorem dX5_canRenew_31 : decode cX5_canRenew 31 = .ok (.iadd, 1) := by decide +kernel
theorem dX5_canRenew_32 : decode cX5_canRenew 32 = .ok (.iaload, 1) := by decide +kernel
theorem dX5_canRenew_33 : decode cX5_canRenew 33 = .ok (.if_icmp .lt 7, 3) := by decide +kernel
theorem dX5_canRenew_36 : decode cX5_canRenew 36 = .ok (.iconst 1, 1) := by decide +kernel
theorem dX5_canRenew_37 : decode cX5_canRenew 37 = .ok (.goto 4, 3) := by decide +kernel
theorem dX5_canRenew_40 : decode cX5_canRenew 40 = .ok (.iconst 0, 1) := by decide +kernel
theorem dX5_canRenew_41 : decode cX5_canRenew 41 = .ok (.ireturn, 1) := by decide +kernel
set_option maxRecDepth 20000 in
theorem ggX5_renew_X5_canRenew : GoodIn wsX5_renew wsX5_canRenew := goodIn_r _ [5, 6, 7, 8, 4, 9, 37, 38, 39, 40, 41, 42, 43, 44, 45, 46] (by decide +kernel) (by decide +kernel)
set_option maxRecDepth 20000 in
theorem gX5_renew_X5_canRenew : GoodIn wsX5_renew (wsV RX5 94 RX5 yX5_canRenew wsX5_canRenew) := goodIn_app (goodIn_of _ (by decide +kernel)) ggX5_renew_X5_canRenew
set_option maxRecDepth 20000 in
theorem ggX5_renew_X5_goes : GoodIn wsX5_renew wsX5_goes := goodIn_r _ [13, 14, 37, 38, 39, 40, 41, 42, 43, 44, 45, 46] (by decide +kernel) (by decide +kernel)
set_option maxRecDepth 20000 in
theorem gX5_renew_X5_goes : GoodIn wsX5_renew (wsV RX5 74 RX5 yX5_goes wsX5_goes) := goodIn_app (goodIn_of _ (by decide +kernel)) ggX5_renew_X5_goes
set_option maxRecDepth 20000 in
theorem ggX5_renew_X5_saves : GoodIn wsX5_renew wsX5_saves := goodIn_r _ [18, 19, 20, 21, 22, 4, 23, 6, 37, 38, 39, 40, 41, 42, 43, 44, 45, 46] (by decide +kernel) (by decide +kernel)
set_option maxRecDepth 20000 in
theorem gX5_renew_X5_saves : GoodIn wsX5_renew (wsV RX5 78 RX5 yX5_saves wsX5_saves) := goodIn_app (goodIn_of _ (by decide +kernel)) ggX5_renew_X5_saves
set_option maxRecDepth 20000 in
theorem ggX5_renew_X5_deals : GoodIn wsX5_renew wsX5_deals := goodIn_r _ [27, 28, 6, 29, 30, 31, 4, 32, 33, 34, 35, 36, 37, 38, 39, 40, 41, 42, 43, 44, 45, 46] (by decide +kernel) (by decide +kernel)
set_option maxRecDepth 20000 in
theorem gX5_renew_X5_deals : GoodIn wsX5_renew (wsV RX5 91 RX5 yX5_deals wsX5_deals) := goodIn_app (goodIn_of _ (by decide +kernel)) ggX5_renew_X5_deals
theorem dX5_renew_0 : decode cX5_renew 0 = .ok (.aload_n 0, 1) := by decide +kernel
theorem dX5_renew_1 : decode cX5_renew 1 = .ok (.aload_n 0, 1) := by decide +kernel
theorem dX5_renew_2 : decode cX5_renew 2 = .ok (.iconst 0, 1) := by decide +kernel
theorem dX5_renew_3 : decode cX5_renew 3 = .ok (.invokevirtual 94, 3) := by decide +kernel
theorem dX5_renew_6 : decode cX5_renew 6 = .ok (.iconst 1, 1) := by decide +kernel
theorem dX5_renew_7 : decode cX5_renew 7 = .ok (.invokevirtual 74, 3) := by decide +kernel
theorem dX5_renew_10 : decode cX5_renew 10 = .ok (.ifCond .ne 5, 3) := by decide +kernel
theorem dX5_renew_13 : decode cX5_renew 13 = .ok (.iconst 0, 1) := by decide +kernel
theorem dX5_renew_14 : decode cX5_renew 14 = .ok (.ireturn, 1) := by decide +kernel
theorem dX5_renew_15 : decode cX5_renew 15 = .ok (.aload_n 0, 1) := by decide +kernel
theorem dX5_renew_16 : decode cX5_renew 16 = .ok (.invokevirtual 78, 3) := by decide +kernel
theorem dX5_renew_19 : decode cX5_renew 19 = .ok (.aload_n 0, 1) := by decide +kernel
theorem dX5_renew_20 : decode cX5_renew 20 = .ok (.iconst 0, 1) := by decide +kernel
theorem dX5_renew_21 : decode cX5_renew 21 = .ok (.invokevirtual 91, 3) := by decide +kernel
theorem dX5_renew_24 : decode cX5_renew 24 = .ok (.ireturn, 1) := by decide +kernel
set_option maxRecDepth 20000 in
theorem ggX5_forge_X5_in : GoodIn wsX5_forge wsX5_in := goodIn_r _ [5] (by decide +kernel) (by decide +kernel)
set_option maxRecDepth 20000 in
theorem gX5_forge_X5_in : GoodIn wsX5_forge (va_wsS RX5 34 yX5_in wsX5_in) := goodIn_app (goodIn_of _ (by decide +kernel)) ggX5_forge_X5_in
set_option maxRecDepth 20000 in
theorem ggX5_forge_X5_goes : GoodIn wsX5_forge wsX5_goes := goodIn_r _ [9, 10, 20, 21, 22, 23, 24, 25, 26, 27, 28, 29] (by decide +kernel) (by decide +kernel)
set_option maxRecDepth 20000 in
theorem gX5_forge_X5_goes : GoodIn wsX5_forge (wsV RX5 74 RX5 yX5_goes wsX5_goes) := goodIn_app (goodIn_of _ (by decide +kernel)) ggX5_forge_X5_goes
set_option maxRecDepth 20000 in
theorem ggX5_forge_X5_saves : GoodIn wsX5_forge wsX5_saves := goodIn_r _ [14, 15, 16, 17, 18, 4, 19, 1, 20, 21, 22, 23, 24, 25, 26, 27, 28, 29] (by decide +kernel) (by decide +kernel)
set_option maxRecDepth 20000 in
theorem gX5_forge_X5_saves : GoodIn wsX5_forge (wsV RX5 78 RX5 yX5_saves wsX5_saves) := goodIn_app (goodIn_of _ (by decide +kernel)) ggX5_forge_X5_saves
theorem dX5_forge_0 : decode cX5_forge 0 = .ok (.aload_n 0, 1) := by decide +kernel
theorem dX5_forge_1 : decode cX5_forge 1 = .ok (.iload_n 1, 1) := by decide +kernel
theorem dX5_forge_2 : decode cX5_forge 2 = .ok (.iconst 0, 1) := by decide +kernel
theorem dX5_forge_3 : decode cX5_forge 3 = .ok (.bipush 7, 2) := by decide +kernel
theorem dX5_forge_5 : decode cX5_forge 5 = .ok (.invokestatic 34, 3) := by decide +kernel
theorem dX5_forge_8 : decode cX5_forge 8 = .ok (.ifCond .eq 18, 3) := by decide +kernel
theorem dX5_forge_11 : decode cX5_forge 11 = .ok (.iload_n 2, 1) := by decide +kernel
theorem dX5_forge_12 : decode cX5_forge 12 = .ok (.iconst 0, 1) := by decide +kernel
theorem dX5_forge_13 : decode cX5_forge 13 = .ok (.sipush 250, 3) := by decide +kernel
theorem dX5_forge_16 : decode cX5_forge 16 = .ok (.invokestatic 34, 3) := by decide +kernel
theorem dX5_forge_19 : decode cX5_forge 19 = .ok (.ifCond .eq 7, 3) := by decide +kernel
theorem dX5_forge_22 : decode cX5_forge 22 = .ok (.iconst 1, 1) := by decide +kernel
theorem dX5_forge_23 : decode cX5_forge 23 = .ok (.goto 4, 3) := by decide +kernel
theorem dX5_forge_26 : decode cX5_forge 26 = .ok (.iconst 0, 1) := by decide +kernel
theorem dX5_forge_27 : decode cX5_forge 27 = .ok (.iload_n 1, 1) := by decide +kernel
theorem dX5_forge_28 : decode cX5_forge 28 = .ok (.iconst 0, 1) := by decide +kernel
theorem dX5_forge_29 : decode cX5_forge 29 = .ok (.bipush 7, 2) := by decide +kernel
theorem dX5_forge_31 : decode cX5_forge 31 = .ok (.invokestatic 34, 3) := by decide +kernel
theorem dX5_forge_34 : decode cX5_forge 34 = .ok (.ifCond .eq 19, 3) := by decide +kernel
theorem dX5_forge_37 : decode cX5_forge 37 = .ok (.aload_n 0, 1) := by decide +kernel
theorem dX5_forge_38 : decode cX5_forge 38 = .ok (.getfield 7, 3) := by decide +kernel
theorem dX5_forge_41 : decode cX5_forge 41 = .ok (.bipush 40, 2) := by decide +kernel
theorem dX5_forge_43 : decode cX5_forge 43 = .ok (.iload_n 1, 1) := by decide +kernel
theorem dX5_forge_44 : decode cX5_forge 44 = .ok (.iadd, 1) := by decide +kernel
theorem dX5_forge_45 : decode cX5_forge 45 = .ok (.iaload, 1) := by decide +kernel
theorem dX5_forge_46 : decode cX5_forge 46 = .ok (.ifCond .lt 7, 3) := by decide +kernel
theorem dX5_forge_49 : decode cX5_forge 49 = .ok (.iconst 1, 1) := by decide +kernel
theorem dX5_forge_50 : decode cX5_forge 50 = .ok (.goto 4, 3) := by decide +kernel
theorem dX5_forge_53 : decode cX5_forge 53 = .ok (.iconst 0, 1) := by decide +kernel
theorem dX5_forge_54 : decode cX5_forge 54 = .ok (.invokevirtual 74, 3) := by decide +kernel
theorem dX5_forge_57 : decode cX5_forge 57 = .ok (.ifCond .ne 5, 3) := by decide +kernel
theorem dX5_forge_60 : decode cX5_forge 60 = .ok (.iconst 0, 1) := by decide +kernel
theorem dX5_forge_61 : decode cX5_forge 61 = .ok (.ireturn, 1) := by decide +kernel
theorem dX5_forge_62 : decode cX5_forge 62 = .ok (.aload_n 0, 1) := by decide +kernel
theorem dX5_forge_63 : decode cX5_forge 63 = .ok (.invokevirtual 78, 3) := by decide +kernel
theorem dX5_forge_66 : decode cX5_forge 66 = .ok (.aload_n 0, 1) := by decide +kernel
theorem dX5_forge_67 : decode cX5_forge 67 = .ok (.getfield 7, 3) := by decide +kernel
theorem dX5_forge_70 : decode cX5_forge 70 = .ok (.bipush 32, 2) := by decide +kernel
theorem dX5_forge_72 : decode cX5_forge 72 = .ok (.iload_n 1, 1) := by decide +kernel
theorem dX5_forge_73 : decode cX5_forge 73 = .ok (.iadd, 1) := by decide +kernel
theorem dX5_forge_74 : decode cX5_forge 74 = .ok (.iaload, 1) := by decide +kernel
theorem dX5_forge_75 : decode cX5_forge 75 = .ok (.istore_n 3, 1) := by decide +kernel
theorem dX5_forge_76 : decode cX5_forge 76 = .ok (.aload_n 0, 1) := by decide +kernel
theorem dX5_forge_77 : decode cX5_forge 77 = .ok (.getfield 7, 3) := by decide +kernel
theorem dX5_forge_80 : decode cX5_forge 80 = .ok (.bipush 32, 2) := by decide +kernel
theorem dX5_forge_82 : decode cX5_forge 82 = .ok (.iload_n 1, 1) := by decide +kernel
theorem dX5_forge_83 : decode cX5_forge 83 = .ok (.iadd, 1) := by decide +kernel
theorem dX5_forge_84 : decode cX5_forge 84 = .ok (.iload_n 2, 1) := by decide +kernel
theorem dX5_forge_85 : decode cX5_forge 85 = .ok (.iastore, 1) := by decide +kernel
theorem dX5_forge_86 : decode cX5_forge 86 = .ok (.aload_n 0, 1) := by decide +kernel
theorem dX5_forge_87 : decode cX5_forge 87 = .ok (.getfield 7, 3) := by decide +kernel
theorem dX5_forge_90 : decode cX5_forge 90 = .ok (.bipush 48, 2) := by decide +kernel
theorem dX5_forge_92 : decode cX5_forge 92 = .ok (.iload_n 1, 1) := by decide +kernel
theorem dX5_forge_93 : decode cX5_forge 93 = .ok (.iadd, 1) := by decide +kernel
theorem dX5_forge_94 : decode cX5_forge 94 = .ok (.iconst 1, 1) := by decide +kernel
theorem dX5_forge_95 : decode cX5_forge 95 = .ok (.iastore, 1) := by decide +kernel
theorem dX5_forge_96 : decode cX5_forge 96 = .ok (.iload_n 3, 1) := by decide +kernel
theorem dX5_forge_97 : decode cX5_forge 97 = .ok (.ireturn, 1) := by decide +kernel
set_option maxRecDepth 20000 in
theorem ggX5_pass_X5_in : GoodIn wsX5_pass wsX5_in := goodIn_r _ [6] (by decide +kernel) (by decide +kernel)
set_option maxRecDepth 20000 in
theorem gX5_pass_X5_in : GoodIn wsX5_pass (va_wsS RX5 34 yX5_in wsX5_in) := goodIn_app (goodIn_of _ (by decide +kernel)) ggX5_pass_X5_in
set_option maxRecDepth 20000 in
theorem ggX5_pass_X5_goes : GoodIn wsX5_pass wsX5_goes := goodIn_r _ [10, 11, 21, 22, 23, 24, 25, 26, 27, 28, 29, 30] (by decide +kernel) (by decide +kernel)
set_option maxRecDepth 20000 in
theorem gX5_pass_X5_goes : GoodIn wsX5_pass (wsV RX5 74 RX5 yX5_goes wsX5_goes) := goodIn_app (goodIn_of _ (by decide +kernel)) ggX5_pass_X5_goes
set_option maxRecDepth 20000 in
theorem ggX5_pass_X5_saves : GoodIn wsX5_pass wsX5_saves := goodIn_r _ [15, 16, 17, 18, 19, 5, 20, 1, 21, 22, 23, 24, 25, 26, 27, 28, 29, 30] (by decide +kernel) (by decide +kernel)
set_option maxRecDepth 20000 in
theorem gX5_pass_X5_saves : GoodIn wsX5_pass (wsV RX5 78 RX5 yX5_saves wsX5_saves) := goodIn_app (goodIn_of _ (by decide +kernel)) ggX5_pass_X5_saves
theorem dX5_pass_0 : decode cX5_pass 0 = .ok (.aload_n 0, 1) := by decide +kernel
theorem dX5_pass_1 : decode cX5_pass 1 = .ok (.iload_n 1, 1) := by decide +kernel
theorem dX5_pass_2 : decode cX5_pass 2 = .ok (.iconst 1, 1) := by decide +kernel
theorem dX5_pass_3 : decode cX5_pass 3 = .ok (.sipush 999, 3) := by decide +kernel
theorem dX5_pass_6 : decode cX5_pass 6 = .ok (.invokestatic 34, 3) := by decide +kernel
theorem dX5_pass_9 : decode cX5_pass 9 = .ok (.iload_n 1, 1) := by decide +kernel
theorem dX5_pass_10 : decode cX5_pass 10 = .ok (.iconst 1, 1) := by decide +kernel
theorem dX5_pass_11 : decode cX5_pass 11 = .ok (.sipush 999, 3) := by decide +kernel
theorem dX5_pass_14 : decode cX5_pass 14 = .ok (.invokestatic 34, 3) := by decide +kernel
theorem dX5_pass_17 : decode cX5_pass 17 = .ok (.ifCond .eq 21, 3) := by decide +kernel
theorem dX5_pass_20 : decode cX5_pass 20 = .ok (.aload_n 0, 1) := by decide +kernel
theorem dX5_pass_21 : decode cX5_pass 21 = .ok (.getfield 7, 3) := by decide +kernel
theorem dX5_pass_24 : decode cX5_pass 24 = .ok (.bipush 31, 2) := by decide +kernel
theorem dX5_pass_26 : decode cX5_pass 26 = .ok (.iaload, 1) := by decide +kernel
theorem dX5_pass_27 : decode cX5_pass 27 = .ok (.ldc 97, 2) := by decide +kernel
theorem dX5_pass_29 : decode cX5_pass 29 = .ok (.iload_n 1, 1) := by decide +kernel
theorem dX5_pass_30 : decode cX5_pass 30 = .ok (.isub, 1) := by decide +kernel
theorem dX5_pass_31 : decode cX5_pass 31 = .ok (.if_icmp .gt 7, 3) := by decide +kernel
theorem dX5_pass_34 : decode cX5_pass 34 = .ok (.iconst 1, 1) := by decide +kernel
theorem dX5_pass_35 : decode cX5_pass 35 = .ok (.goto 4, 3) := by decide +kernel
theorem dX5_pass_38 : decode cX5_pass 38 = .ok (.iconst 0, 1) := by decide +kernel
theorem dX5_pass_39 : decode cX5_pass 39 = .ok (.invokevirtual 74, 3) := by decide +kernel
theorem dX5_pass_42 : decode cX5_pass 42 = .ok (.ifCond .ne 5, 3) := by decide +kernel
theorem dX5_pass_45 : decode cX5_pass 45 = .ok (.iconst 0, 1) := by decide +kernel
theorem dX5_pass_46 : decode cX5_pass 46 = .ok (.ireturn, 1) := by decide +kernel
theorem dX5_pass_47 : decode cX5_pass 47 = .ok (.aload_n 0, 1) := by decide +kernel
theorem dX5_pass_48 : decode cX5_pass 48 = .ok (.invokevirtual 78, 3) := by decide +kernel
theorem dX5_pass_51 : decode cX5_pass 51 = .ok (.aload_n 0, 1) := by decide +kernel
theorem dX5_pass_52 : decode cX5_pass 52 = .ok (.getfield 7, 3) := by decide +kernel
theorem dX5_pass_55 : decode cX5_pass 55 = .ok (.bipush 31, 2) := by decide +kernel
theorem dX5_pass_57 : decode cX5_pass 57 = .ok (.dup2, 1) := by decide +kernel
theorem dX5_pass_58 : decode cX5_pass 58 = .ok (.iaload, 1) := by decide +kernel
theorem dX5_pass_59 : decode cX5_pass 59 = .ok (.iload_n 1, 1) := by decide +kernel
theorem dX5_pass_60 : decode cX5_pass 60 = .ok (.iadd, 1) := by decide +kernel
theorem dX5_pass_61 : decode cX5_pass 61 = .ok (.iastore, 1) := by decide +kernel
theorem dX5_pass_62 : decode cX5_pass 62 = .ok (.aload_n 0, 1) := by decide +kernel
theorem dX5_pass_63 : decode cX5_pass 63 = .ok (.getfield 7, 3) := by decide +kernel
theorem dX5_pass_66 : decode cX5_pass 66 = .ok (.bipush 31, 2) := by decide +kernel
theorem dX5_pass_68 : decode cX5_pass 68 = .ok (.iaload, 1) := by decide +kernel
theorem dX5_pass_69 : decode cX5_pass 69 = .ok (.ireturn, 1) := by decide +kernel
set_option maxRecDepth 20000 in
theorem ggX5_isGroup_X5_in : GoodIn wsX5_isGroup wsX5_in := goodIn_r _ [5] (by decide +kernel) (by decide +kernel)
set_option maxRecDepth 20000 in
theorem gX5_isGroup_X5_in : GoodIn wsX5_isGroup (va_wsS RX5 34 yX5_in wsX5_in) := goodIn_app (goodIn_of _ (by decide +kernel)) ggX5_isGroup_X5_in
theorem dX5_isGroup_0 : decode cX5_isGroup 0 = .ok (.iload_n 1, 1) := by decide +kernel
theorem dX5_isGroup_1 : decode cX5_isGroup 1 = .ok (.iconst 0, 1) := by decide +kernel
theorem dX5_isGroup_2 : decode cX5_isGroup 2 = .ok (.sipush 255, 3) := by decide +kernel
theorem dX5_isGroup_5 : decode cX5_isGroup 5 = .ok (.invokestatic 34, 3) := by decide +kernel
theorem dX5_isGroup_8 : decode cX5_isGroup 8 = .ok (.ifCond .eq 18, 3) := by decide +kernel
theorem dX5_isGroup_11 : decode cX5_isGroup 11 = .ok (.iload_n 1, 1) := by decide +kernel
theorem dX5_isGroup_12 : decode cX5_isGroup 12 = .ok (.aload_n 0, 1) := by decide +kernel
theorem dX5_isGroup_13 : decode cX5_isGroup 13 = .ok (.getfield 7, 3) := by decide +kernel
theorem dX5_isGroup_16 : decode cX5_isGroup 16 = .ok (.iconst 1, 1) := by decide +kernel
theorem dX5_isGroup_17 : decode cX5_isGroup 17 = .ok (.iaload, 1) := by decide +kernel
theorem dX5_isGroup_18 : decode cX5_isGroup 18 = .ok (.ishr, 1) := by decide +kernel
theorem dX5_isGroup_19 : decode cX5_isGroup 19 = .ok (.ifCond .ne 7, 3) := by decide +kernel
theorem dX5_isGroup_22 : decode cX5_isGroup 22 = .ok (.iconst 1, 1) := by decide +kernel
theorem dX5_isGroup_23 : decode cX5_isGroup 23 = .ok (.goto 4, 3) := by decide +kernel
theorem dX5_isGroup_26 : decode cX5_isGroup 26 = .ok (.iconst 0, 1) := by decide +kernel
theorem dX5_isGroup_27 : decode cX5_isGroup 27 = .ok (.ireturn, 1) := by decide +kernel
set_option maxRecDepth 20000 in
theorem ggX5_open_X5_isGroup : GoodIn wsX5_open wsX5_isGroup := goodIn_r _ [6, 1, 7, 8, 5, 9, 56, 57, 58, 59, 60, 61, 62, 63, 64, 65] (by decide +kernel) (by decide +kernel)
set_option maxRecDepth 20000 in
theorem gX5_open_X5_isGroup : GoodIn wsX5_open (wsV RX5 98 RX5 yX5_isGroup wsX5_isGroup) := goodIn_app (goodIn_of _ (by decide +kernel)) ggX5_open_X5_isGroup
set_option maxRecDepth 20000 in
theorem ggX5_open_X5_goes : GoodIn wsX5_open wsX5_goes := goodIn_r _ [13, 14, 56, 57, 58, 59, 60, 61, 62, 63, 64, 65] (by decide +kernel) (by decide +kernel)
set_option maxRecDepth 20000 in
theorem gX5_open_X5_goes : GoodIn wsX5_open (wsV RX5 74 RX5 yX5_goes wsX5_goes) := goodIn_app (goodIn_of _ (by decide +kernel)) ggX5_open_X5_goes
set_option maxRecDepth 20000 in
theorem ggX5_open_X5_saves : GoodIn wsX5_open wsX5_saves := goodIn_r _ [18, 19, 20, 21, 22, 5, 23, 1, 56, 57, 58, 59, 60, 61, 62, 63, 64, 65] (by decide +kernel) (by decide +kernel)
set_option maxRecDepth 20000 in
theorem gX5_open_X5_saves : GoodIn wsX5_open (wsV RX5 78 RX5 yX5_saves wsX5_saves) := goodIn_app (goodIn_of _ (by decide +kernel)) ggX5_open_X5_saves
set_option maxRecDepth 20000 in
theorem ggX5_open_X5_reason : GoodIn wsX5_open wsX5_reason := goodIn_r _ [27, 1, 28, 29, 30, 5, 31, 32, 33, 34, 35, 36, 37, 38, 39, 40, 41, 42, 43, 44, 45, 46, 47, 48, 49, 50, 51, 52, 53, 54, 55, 56, 57, 58, 59, 60, 61, 62, 63, 64, 65] (by decide +kernel) (by decide +kernel)
set_option maxRecDepth 20000 in
theorem gX5_open_X5_reason : GoodIn wsX5_open (wsV RX5 70 RX5 yX5_reason wsX5_reason) := goodIn_app (goodIn_of _ (by decide +kernel)) ggX5_open_X5_reason
set_option maxRecDepth 20000 in
theorem ggX5_open_X5_has : GoodIn wsX5_open wsX5_has := goodIn_r _ [34] (by decide +kernel) (by decide +kernel)
set_option maxRecDepth 20000 in
theorem gX5_open_X5_has : GoodIn wsX5_open (va_wsS RX5 43 yX5_has wsX5_has) := goodIn_app (goodIn_of _ (by decide +kernel)) ggX5_open_X5_has
theorem dX5_open_0 : decode cX5_open 0 = .ok (.aload_n 0, 1) := by decide +kernel
theorem dX5_open_1 : decode cX5_open 1 = .ok (.aload_n 0, 1) := by decide +kernel
theorem dX5_open_2 : decode cX5_open 2 = .ok (.iload_n 1, 1) := by decide +kernel
theorem dX5_open_3 : decode cX5_open 3 = .ok (.invokevirtual 98, 3) := by decide +kernel
theorem dX5_open_6 : decode cX5_open 6 = .ok (.iconst 1, 1) := by decide +kernel
theorem dX5_open_7 : decode cX5_open 7 = .ok (.invokevirtual 74, 3) := by decide +kernel
theorem dX5_open_10 : decode cX5_open 10 = .ok (.ifCond .ne 5, 3) := by decide +kernel
theorem dX5_open_13 : decode cX5_open 13 = .ok (.iconst 0, 1) := by decide +kernel
theorem dX5_open_14 : decode cX5_open 14 = .ok (.ireturn, 1) := by decide +kernel
theorem dX5_open_15 : decode cX5_open 15 = .ok (.aload_n 0, 1) := by decide +kernel
theorem dX5_open_16 : decode cX5_open 16 = .ok (.invokevirtual 78, 3) := by decide +kernel
theorem dX5_open_19 : decode cX5_open 19 = .ok (.aload_n 0, 1) := by decide +kernel
theorem dX5_open_20 : decode cX5_open 20 = .ok (.iconst 0, 1) := by decide +kernel
theorem dX5_open_21 : decode cX5_open 21 = .ok (.iload_n 1, 1) := by decide +kernel
theorem dX5_open_22 : decode cX5_open 22 = .ok (.iconst 0, 1) := by decide +kernel
theorem dX5_open_23 : decode cX5_open 23 = .ok (.invokevirtual 70, 3) := by decide +kernel
theorem dX5_open_26 : decode cX5_open 26 = .ok (.istore_n 2, 1) := by decide +kernel
theorem dX5_open_27 : decode cX5_open 27 = .ok (.iconst 0, 1) := by decide +kernel
theorem dX5_open_28 : decode cX5_open 28 = .ok (.istore_n 3, 1) := by decide +kernel
theorem dX5_open_29 : decode cX5_open 29 = .ok (.iload_n 3, 1) := by decide +kernel
theorem dX5_open_30 : decode cX5_open 30 = .ok (.bipush 8, 2) := by decide +kernel
theorem dX5_open_32 : decode cX5_open 32 = .ok (.if_icmp .ge 34, 3) := by decide +kernel
theorem dX5_open_35 : decode cX5_open 35 = .ok (.aload_n 0, 1) := by decide +kernel
theorem dX5_open_36 : decode cX5_open 36 = .ok (.getfield 7, 3) := by decide +kernel
theorem dX5_open_39 : decode cX5_open 39 = .ok (.bipush 19, 2) := by decide +kernel
theorem dX5_open_41 : decode cX5_open 41 = .ok (.iload_n 3, 1) := by decide +kernel
theorem dX5_open_42 : decode cX5_open 42 = .ok (.iadd, 1) := by decide +kernel
theorem dX5_open_43 : decode cX5_open 43 = .ok (.dup2, 1) := by decide +kernel
theorem dX5_open_44 : decode cX5_open 44 = .ok (.iaload, 1) := by decide +kernel
theorem dX5_open_45 : decode cX5_open 45 = .ok (.iload_n 1, 1) := by decide +kernel
theorem dX5_open_46 : decode cX5_open 46 = .ok (.iload_n 3, 1) := by decide +kernel
theorem dX5_open_47 : decode cX5_open 47 = .ok (.invokestatic 43, 3) := by decide +kernel
theorem dX5_open_50 : decode cX5_open 50 = .ok (.ifCond .eq 7, 3) := by decide +kernel
theorem dX5_open_53 : decode cX5_open 53 = .ok (.iconst 1, 1) := by decide +kernel
theorem dX5_open_54 : decode cX5_open 54 = .ok (.goto 4, 3) := by decide +kernel
theorem dX5_open_57 : decode cX5_open 57 = .ok (.iconst 0, 1) := by decide +kernel
theorem dX5_open_58 : decode cX5_open 58 = .ok (.iadd, 1) := by decide +kernel
theorem dX5_open_59 : decode cX5_open 59 = .ok (.iastore, 1) := by decide +kernel
theorem dX5_open_60 : decode cX5_open 60 = .ok (.iinc 3 1, 3) := by decide +kernel
theorem dX5_open_63 : decode cX5_open 63 = .ok (.goto (-34), 3) := by decide +kernel
theorem dX5_open_66 : decode cX5_open 66 = .ok (.aload_n 0, 1) := by decide +kernel
theorem dX5_open_67 : decode cX5_open 67 = .ok (.getfield 7, 3) := by decide +kernel
theorem dX5_open_70 : decode cX5_open 70 = .ok (.bipush 27, 2) := by decide +kernel
theorem dX5_open_72 : decode cX5_open 72 = .ok (.iload_n 2, 1) := by decide +kernel
theorem dX5_open_73 : decode cX5_open 73 = .ok (.ifCond .ne 7, 3) := by decide +kernel
theorem dX5_open_76 : decode cX5_open 76 = .ok (.iconst 2, 1) := by decide +kernel
theorem dX5_open_77 : decode cX5_open 77 = .ok (.goto 10, 3) := by decide +kernel
theorem dX5_open_80 : decode cX5_open 80 = .ok (.aload_n 0, 1) := by decide +kernel
theorem dX5_open_81 : decode cX5_open 81 = .ok (.getfield 7, 3) := by decide +kernel
theorem dX5_open_84 : decode cX5_open 84 = .ok (.bipush 27, 2) := by decide +kernel
theorem dX5_open_86 : decode cX5_open 86 = .ok (.iaload, 1) := by decide +kernel
theorem dX5_open_87 : decode cX5_open 87 = .ok (.iastore, 1) := by decide +kernel
theorem dX5_open_88 : decode cX5_open 88 = .ok (.aload_n 0, 1) := by decide +kernel
theorem dX5_open_89 : decode cX5_open 89 = .ok (.getfield 7, 3) := by decide +kernel
theorem dX5_open_92 : decode cX5_open 92 = .ok (.bipush 57, 2) := by decide +kernel
theorem dX5_open_94 : decode cX5_open 94 = .ok (.dup2, 1) := by decide +kernel
theorem dX5_open_95 : decode cX5_open 95 = .ok (.iaload, 1) := by decide +kernel
theorem dX5_open_96 : decode cX5_open 96 = .ok (.iload_n 2, 1) := by decide +kernel
theorem dX5_open_97 : decode cX5_open 97 = .ok (.ifCond .ne 7, 3) := by decide +kernel
theorem dX5_open_100 : decode cX5_open 100 = .ok (.iconst 0, 1) := by decide +kernel
theorem dX5_open_101 : decode cX5_open 101 = .ok (.goto 4, 3) := by decide +kernel
theorem dX5_open_104 : decode cX5_open 104 = .ok (.iconst 1, 1) := by decide +kernel
theorem dX5_open_105 : decode cX5_open 105 = .ok (.iadd, 1) := by decide +kernel
theorem dX5_open_106 : decode cX5_open 106 = .ok (.iastore, 1) := by decide +kernel
theorem dX5_open_107 : decode cX5_open 107 = .ok (.iload_n 2, 1) := by decide +kernel
theorem dX5_open_108 : decode cX5_open 108 = .ok (.ireturn, 1) := by decide +kernel
set_option maxRecDepth 20000 in
theorem ggX5_append_X5_in : GoodIn wsX5_append wsX5_in := goodIn_r _ [6] (by decide +kernel) (by decide +kernel)
set_option maxRecDepth 20000 in
theorem gX5_append_X5_in : GoodIn wsX5_append (va_wsS RX5 34 yX5_in wsX5_in) := goodIn_app (goodIn_of _ (by decide +kernel)) ggX5_append_X5_in
set_option maxRecDepth 20000 in
theorem ggX5_append_X5_goes : GoodIn wsX5_append wsX5_goes := goodIn_r _ [10, 11, 12, 13, 14, 15, 16, 17, 18, 19, 20, 21] (by decide +kernel) (by decide +kernel)
set_option maxRecDepth 20000 in
theorem gX5_append_X5_goes : GoodIn wsX5_append (wsV RX5 74 RX5 yX5_goes wsX5_goes) := goodIn_app (goodIn_of _ (by decide +kernel)) ggX5_append_X5_goes
theorem dX5_append_0 : decode cX5_append 0 = .ok (.aload_n 0, 1) := by decide +kernel
theorem dX5_append_1 : decode cX5_append 1 = .ok (.iload_n 1, 1) := by decide +kernel
theorem dX5_append_2 : decode cX5_append 2 = .ok (.bipush 33, 2) := by decide +kernel
theorem dX5_append_4 : decode cX5_append 4 = .ok (.bipush 126, 2) := by decide +kernel
theorem dX5_append_6 : decode cX5_append 6 = .ok (.invokestatic 34, 3) := by decide +kernel
theorem dX5_append_9 : decode cX5_append 9 = .ok (.aload_n 0, 1) := by decide +kernel
theorem dX5_append_10 : decode cX5_append 10 = .ok (.getfield 101, 3) := by decide +kernel
theorem dX5_append_13 : decode cX5_append 13 = .ok (.bipush 60, 2) := by decide +kernel
theorem dX5_append_15 : decode cX5_append 15 = .ok (.if_icmp .ge 7, 3) := by decide +kernel
theorem dX5_append_18 : decode cX5_append 18 = .ok (.iconst 1, 1) := by decide +kernel
theorem dX5_append_19 : decode cX5_append 19 = .ok (.goto 4, 3) := by decide +kernel
theorem dX5_append_22 : decode cX5_append 22 = .ok (.iconst 0, 1) := by decide +kernel
theorem dX5_append_23 : decode cX5_append 23 = .ok (.invokevirtual 74, 3) := by decide +kernel
theorem dX5_append_26 : decode cX5_append 26 = .ok (.ifCond .ne 5, 3) := by decide +kernel
theorem dX5_append_29 : decode cX5_append 29 = .ok (.iconst 0, 1) := by decide +kernel
theorem dX5_append_30 : decode cX5_append 30 = .ok (.ireturn, 1) := by decide +kernel
theorem dX5_append_31 : decode cX5_append 31 = .ok (.aload_n 0, 1) := by decide +kernel
theorem dX5_append_32 : decode cX5_append 32 = .ok (.getfield 13, 3) := by decide +kernel
theorem dX5_append_35 : decode cX5_append 35 = .ok (.aload_n 0, 1) := by decide +kernel
theorem dX5_append_36 : decode cX5_append 36 = .ok (.getfield 101, 3) := by decide +kernel
theorem dX5_append_39 : decode cX5_append 39 = .ok (.iload_n 1, 1) := by decide +kernel
theorem dX5_append_40 : decode cX5_append 40 = .ok (.i2c, 1) := by decide +kernel
theorem dX5_append_41 : decode cX5_append 41 = .ok (.castore, 1) := by decide +kernel
theorem dX5_append_42 : decode cX5_append 42 = .ok (.aload_n 0, 1) := by decide +kernel
theorem dX5_append_43 : decode cX5_append 43 = .ok (.dup, 1) := by decide +kernel
theorem dX5_append_44 : decode cX5_append 44 = .ok (.getfield 101, 3) := by decide +kernel
theorem dX5_append_47 : decode cX5_append 47 = .ok (.iconst 1, 1) := by decide +kernel
theorem dX5_append_48 : decode cX5_append 48 = .ok (.iadd, 1) := by decide +kernel
theorem dX5_append_49 : decode cX5_append 49 = .ok (.putfield 101, 3) := by decide +kernel
theorem dX5_append_52 : decode cX5_append 52 = .ok (.aload_n 0, 1) := by decide +kernel
theorem dX5_append_53 : decode cX5_append 53 = .ok (.getfield 101, 3) := by decide +kernel
theorem dX5_append_56 : decode cX5_append 56 = .ok (.ireturn, 1) := by decide +kernel
theorem dX5_clearBuffer_0 : decode cX5_clearBuffer 0 = .ok (.aload_n 0, 1) := by decide +kernel
theorem dX5_clearBuffer_1 : decode cX5_clearBuffer 1 = .ok (.iconst 0, 1) := by decide +kernel
theorem dX5_clearBuffer_2 : decode cX5_clearBuffer 2 = .ok (.putfield 23, 3) := by decide +kernel
theorem dX5_clearBuffer_5 : decode cX5_clearBuffer 5 = .ok (.aload_n 0, 1) := by decide +kernel
theorem dX5_clearBuffer_6 : decode cX5_clearBuffer 6 = .ok (.getfield 101, 3) := by decide +kernel
theorem dX5_clearBuffer_9 : decode cX5_clearBuffer 9 = .ok (.istore_n 1, 1) := by decide +kernel
theorem dX5_clearBuffer_10 : decode cX5_clearBuffer 10 = .ok (.aload_n 0, 1) := by decide +kernel
theorem dX5_clearBuffer_11 : decode cX5_clearBuffer 11 = .ok (.iconst 0, 1) := by decide +kernel
theorem dX5_clearBuffer_12 : decode cX5_clearBuffer 12 = .ok (.putfield 101, 3) := by decide +kernel
theorem dX5_clearBuffer_15 : decode cX5_clearBuffer 15 = .ok (.iload_n 1, 1) := by decide +kernel
theorem dX5_clearBuffer_16 : decode cX5_clearBuffer 16 = .ok (.ireturn, 1) := by decide +kernel
set_option maxRecDepth 20000 in
theorem ggX5_isNext_X5_in : GoodIn wsX5_isNext wsX5_in := goodIn_r _ [8] (by decide +kernel) (by decide +kernel)
set_option maxRecDepth 20000 in
theorem gX5_isNext_X5_in : GoodIn wsX5_isNext (va_wsS RX5 34 yX5_in wsX5_in) := goodIn_app (goodIn_of _ (by decide +kernel)) ggX5_isNext_X5_in
theorem dX5_isNext_0 : decode cX5_isNext 0 = .ok (.aload_n 0, 1) := by decide +kernel
theorem dX5_isNext_1 : decode cX5_isNext 1 = .ok (.getfield 104, 3) := by decide +kernel
theorem dX5_isNext_4 : decode cX5_isNext 4 = .ok (.ifCond .eq 35, 3) := by decide +kernel
theorem dX5_isNext_7 : decode cX5_isNext 7 = .ok (.aload_n 0, 1) := by decide +kernel
theorem dX5_isNext_8 : decode cX5_isNext 8 = .ok (.getfield 108, 3) := by decide +kernel
theorem dX5_isNext_11 : decode cX5_isNext 11 = .ok (.aload_n 0, 1) := by decide +kernel
theorem dX5_isNext_12 : decode cX5_isNext 12 = .ok (.getfield 101, 3) := by decide +kernel
theorem dX5_isNext_15 : decode cX5_isNext 15 = .ok (.if_icmp .ge 24, 3) := by decide +kernel
theorem dX5_isNext_18 : decode cX5_isNext 18 = .ok (.aload_n 0, 1) := by decide +kernel
theorem dX5_isNext_19 : decode cX5_isNext 19 = .ok (.getfield 13, 3) := by decide +kernel
theorem dX5_isNext_22 : decode cX5_isNext 22 = .ok (.aload_n 0, 1) := by decide +kernel
theorem dX5_isNext_23 : decode cX5_isNext 23 = .ok (.getfield 108, 3) := by decide +kernel
theorem dX5_isNext_26 : decode cX5_isNext 26 = .ok (.caload, 1) := by decide +kernel
theorem dX5_isNext_27 : decode cX5_isNext 27 = .ok (.iload_n 1, 1) := by decide +kernel
theorem dX5_isNext_28 : decode cX5_isNext 28 = .ok (.iload_n 2, 1) := by decide +kernel
theorem dX5_isNext_29 : decode cX5_isNext 29 = .ok (.invokestatic 34, 3) := by decide +kernel
theorem dX5_isNext_32 : decode cX5_isNext 32 = .ok (.ifCond .eq 7, 3) := by decide +kernel
theorem dX5_isNext_35 : decode cX5_isNext 35 = .ok (.iconst 1, 1) := by decide +kernel
theorem dX5_isNext_36 : decode cX5_isNext 36 = .ok (.goto 4, 3) := by decide +kernel
theorem dX5_isNext_39 : decode cX5_isNext 39 = .ok (.iconst 0, 1) := by decide +kernel
theorem dX5_isNext_40 : decode cX5_isNext 40 = .ok (.ireturn, 1) := by decide +kernel
set_option maxRecDepth 20000 in
theorem ggX5_digit_X5_isNext : GoodIn wsX5_digit wsX5_isNext := goodIn_r _ [8, 1, 2, 9, 3, 10, 11, 7, 12, 13, 14, 15, 16, 17, 18, 19, 20, 21, 22] (by decide +kernel) (by decide +kernel)
set_option maxRecDepth 20000 in
theorem gX5_digit_X5_isNext : GoodIn wsX5_digit (wsV RX5 111 RX5 yX5_isNext wsX5_isNext) := goodIn_app (goodIn_of _ (by decide +kernel)) ggX5_digit_X5_isNext
theorem dX5_digit_0 : decode cX5_digit 0 = .ok (.aload_n 0, 1) := by decide +kernel
theorem dX5_digit_1 : decode cX5_digit 1 = .ok (.aload_n 0, 1) := by decide +kernel
theorem dX5_digit_2 : decode cX5_digit 2 = .ok (.bipush 48, 2) := by decide +kernel
theorem dX5_digit_4 : decode cX5_digit 4 = .ok (.bipush 55, 2) := by decide +kernel
theorem dX5_digit_6 : decode cX5_digit 6 = .ok (.invokevirtual 111, 3) := by decide +kernel
theorem dX5_digit_9 : decode cX5_digit 9 = .ok (.putfield 104, 3) := by decide +kernel
theorem dX5_digit_12 : decode cX5_digit 12 = .ok (.aload_n 0, 1) := by decide +kernel
theorem dX5_digit_13 : decode cX5_digit 13 = .ok (.dup, 1) := by decide +kernel
theorem dX5_digit_14 : decode cX5_digit 14 = .ok (.getfield 108, 3) := by decide +kernel
theorem dX5_digit_17 : decode cX5_digit 17 = .ok (.aload_n 0, 1) := by decide +kernel
theorem dX5_digit_18 : decode cX5_digit 18 = .ok (.getfield 104, 3) := by decide +kernel
theorem dX5_digit_21 : decode cX5_digit 21 = .ok (.ifCond .eq 7, 3) := by decide +kernel
theorem dX5_digit_24 : decode cX5_digit 24 = .ok (.iconst 1, 1) := by decide +kernel
theorem dX5_digit_25 : decode cX5_digit 25 = .ok (.goto 4, 3) := by decide +kernel
theorem dX5_digit_28 : decode cX5_digit 28 = .ok (.iconst 0, 1) := by decide +kernel
theorem dX5_digit_29 : decode cX5_digit 29 = .ok (.iadd, 1) := by decide +kernel
theorem dX5_digit_30 : decode cX5_digit 30 = .ok (.putfield 108, 3) := by decide +kernel
theorem dX5_digit_33 : decode cX5_digit 33 = .ok (.aload_n 0, 1) := by decide +kernel
theorem dX5_digit_34 : decode cX5_digit 34 = .ok (.getfield 104, 3) := by decide +kernel
theorem dX5_digit_37 : decode cX5_digit 37 = .ok (.ifCond .eq 20, 3) := by decide +kernel
theorem dX5_digit_40 : decode cX5_digit 40 = .ok (.aload_n 0, 1) := by decide +kernel
theorem dX5_digit_41 : decode cX5_digit 41 = .ok (.getfield 13, 3) := by decide +kernel
theorem dX5_digit_44 : decode cX5_digit 44 = .ok (.aload_n 0, 1) := by decide +kernel
theorem dX5_digit_45 : decode cX5_digit 45 = .ok (.getfield 108, 3) := by decide +kernel
theorem dX5_digit_48 : decode cX5_digit 48 = .ok (.iconst 1, 1) := by decide +kernel
theorem dX5_digit_49 : decode cX5_digit 49 = .ok (.isub, 1) := by decide +kernel
theorem dX5_digit_50 : decode cX5_digit 50 = .ok (.caload, 1) := by decide +kernel
theorem dX5_digit_51 : decode cX5_digit 51 = .ok (.bipush 48, 2) := by decide +kernel
theorem dX5_digit_53 : decode cX5_digit 53 = .ok (.isub, 1) := by decide +kernel
theorem dX5_digit_54 : decode cX5_digit 54 = .ok (.goto 4, 3) := by decide +kernel
theorem dX5_digit_57 : decode cX5_digit 57 = .ok (.iconst 0, 1) := by decide +kernel
theorem dX5_digit_58 : decode cX5_digit 58 = .ok (.ireturn, 1) := by decide +kernel
set_option maxRecDepth 20000 in
theorem ggX5_takes_X5_isNext : GoodIn wsX5_takes wsX5_isNext := goodIn_r _ [7, 1, 2, 8, 9, 10, 11, 6, 12, 13, 14, 15, 16, 17, 18, 19, 20, 21, 22] (by decide +kernel) (by decide +kernel)
set_option maxRecDepth 20000 in
theorem gX5_takes_X5_isNext : GoodIn wsX5_takes (wsV RX5 111 RX5 yX5_isNext wsX5_isNext) := goodIn_app (goodIn_of _ (by decide +kernel)) ggX5_takes_X5_isNext
theorem dX5_takes_0 : decode cX5_takes 0 = .ok (.aload_n 0, 1) := by decide +kernel
theorem dX5_takes_1 : decode cX5_takes 1 = .ok (.aload_n 0, 1) := by decide +kernel
theorem dX5_takes_2 : decode cX5_takes 2 = .ok (.iload_n 1, 1) := by decide +kernel
theorem dX5_takes_3 : decode cX5_takes 3 = .ok (.iload_n 1, 1) := by decide +kernel
theorem dX5_takes_4 : decode cX5_takes 4 = .ok (.invokevirtual 111, 3) := by decide +kernel
theorem dX5_takes_7 : decode cX5_takes 7 = .ok (.putfield 104, 3) := by decide +kernel
theorem dX5_takes_10 : decode cX5_takes 10 = .ok (.aload_n 0, 1) := by decide +kernel
theorem dX5_takes_11 : decode cX5_takes 11 = .ok (.dup, 1) := by decide +kernel
theorem dX5_takes_12 : decode cX5_takes 12 = .ok (.getfield 108, 3) := by decide +kernel
theorem dX5_takes_15 : decode cX5_takes 15 = .ok (.aload_n 0, 1) := by decide +kernel
theorem dX5_takes_16 : decode cX5_takes 16 = .ok (.getfield 104, 3) := by decide +kernel
theorem dX5_takes_19 : decode cX5_takes 19 = .ok (.ifCond .eq 7, 3) := by decide +kernel
theorem dX5_takes_22 : decode cX5_takes 22 = .ok (.iconst 1, 1) := by decide +kernel
theorem dX5_takes_23 : decode cX5_takes 23 = .ok (.goto 4, 3) := by decide +kernel
theorem dX5_takes_26 : decode cX5_takes 26 = .ok (.iconst 0, 1) := by decide +kernel
theorem dX5_takes_27 : decode cX5_takes 27 = .ok (.iadd, 1) := by decide +kernel
theorem dX5_takes_28 : decode cX5_takes 28 = .ok (.putfield 108, 3) := by decide +kernel
theorem dX5_takes_31 : decode cX5_takes 31 = .ok (.return_, 1) := by decide +kernel
set_option maxRecDepth 20000 in
theorem ggX5_days_X5_isNext : GoodIn wsX5_days wsX5_isNext := goodIn_r _ [8, 1, 3, 9, 2, 10, 11, 7, 12, 13, 14, 15, 16, 17, 18, 19, 20, 21, 22] (by decide +kernel) (by decide +kernel)
set_option maxRecDepth 20000 in
theorem gX5_days_X5_isNext : GoodIn wsX5_days (wsV RX5 111 RX5 yX5_isNext wsX5_isNext) := goodIn_app (goodIn_of _ (by decide +kernel)) ggX5_days_X5_isNext
theorem dX5_days_0 : decode cX5_days 0 = .ok (.aload_n 0, 1) := by decide +kernel
theorem dX5_days_1 : decode cX5_days 1 = .ok (.aload_n 0, 1) := by decide +kernel
theorem dX5_days_2 : decode cX5_days 2 = .ok (.bipush 49, 2) := by decide +kernel
theorem dX5_days_4 : decode cX5_days 4 = .ok (.bipush 57, 2) := by decide +kernel
theorem dX5_days_6 : decode cX5_days 6 = .ok (.invokevirtual 111, 3) := by decide +kernel
theorem dX5_days_9 : decode cX5_days 9 = .ok (.putfield 104, 3) := by decide +kernel
theorem dX5_days_12 : decode cX5_days 12 = .ok (.iconst 0, 1) := by decide +kernel
theorem dX5_days_13 : decode cX5_days 13 = .ok (.istore_n 1, 1) := by decide +kernel
theorem dX5_days_14 : decode cX5_days 14 = .ok (.iconst 0, 1) := by decide +kernel
theorem dX5_days_15 : decode cX5_days 15 = .ok (.istore_n 2, 1) := by decide +kernel
theorem dX5_days_16 : decode cX5_days 16 = .ok (.iload_n 2, 1) := by decide +kernel
theorem dX5_days_17 : decode cX5_days 17 = .ok (.iconst 3, 1) := by decide +kernel
theorem dX5_days_18 : decode cX5_days 18 = .ok (.if_icmp .ge 48, 3) := by decide +kernel
theorem dX5_days_21 : decode cX5_days 21 = .ok (.aload_n 0, 1) := by decide +kernel
theorem dX5_days_22 : decode cX5_days 22 = .ok (.bipush 48, 2) := by decide +kernel
theorem dX5_days_24 : decode cX5_days 24 = .ok (.bipush 57, 2) := by decide +kernel
theorem dX5_days_26 : decode cX5_days 26 = .ok (.invokevirtual 111, 3) := by decide +kernel
theorem dX5_days_29 : decode cX5_days 29 = .ok (.ifCond .eq 37, 3) := by decide +kernel
theorem dX5_days_32 : decode cX5_days 32 = .ok (.bipush 10, 2) := by decide +kernel
theorem dX5_days_34 : decode cX5_days 34 = .ok (.iload_n 1, 1) := by decide +kernel
theorem dX5_days_35 : decode cX5_days 35 = .ok (.imul, 1) := by decide +kernel
theorem dX5_days_36 : decode cX5_days 36 = .ok (.aload_n 0, 1) := by decide +kernel
theorem dX5_days_37 : decode cX5_days 37 = .ok (.getfield 13, 3) := by decide +kernel
theorem dX5_days_40 : decode cX5_days 40 = .ok (.aload_n 0, 1) := by decide +kernel
theorem dX5_days_41 : decode cX5_days 41 = .ok (.getfield 108, 3) := by decide +kernel
theorem dX5_days_44 : decode cX5_days 44 = .ok (.caload, 1) := by decide +kernel
theorem dX5_days_45 : decode cX5_days 45 = .ok (.iadd, 1) := by decide +kernel
theorem dX5_days_46 : decode cX5_days 46 = .ok (.bipush 48, 2) := by decide +kernel
theorem dX5_days_48 : decode cX5_days 48 = .ok (.isub, 1) := by decide +kernel
theorem dX5_days_49 : decode cX5_days 49 = .ok (.istore_n 1, 1) := by decide +kernel
theorem dX5_days_50 : decode cX5_days 50 = .ok (.aload_n 0, 1) := by decide +kernel
theorem dX5_days_51 : decode cX5_days 51 = .ok (.dup, 1) := by decide +kernel
theorem dX5_days_52 : decode cX5_days 52 = .ok (.getfield 108, 3) := by decide +kernel
theorem dX5_days_55 : decode cX5_days 55 = .ok (.iconst 1, 1) := by decide +kernel
theorem dX5_days_56 : decode cX5_days 56 = .ok (.iadd, 1) := by decide +kernel
theorem dX5_days_57 : decode cX5_days 57 = .ok (.putfield 108, 3) := by decide +kernel
theorem dX5_days_60 : decode cX5_days 60 = .ok (.iinc 2 1, 3) := by decide +kernel
theorem dX5_days_63 : decode cX5_days 63 = .ok (.goto (-47), 3) := by decide +kernel
theorem dX5_days_66 : decode cX5_days 66 = .ok (.iload_n 1, 1) := by decide +kernel
theorem dX5_days_67 : decode cX5_days 67 = .ok (.ireturn, 1) := by decide +kernel
set_option maxRecDepth 20000 in
theorem ggX5_reads_X5_days : GoodIn wsX5_reads wsX5_days := goodIn_r _ [11, 1, 4, 2, 12, 13, 14, 10, 15, 3, 16, 17, 18, 27, 28, 29, 30, 31, 32, 33, 34, 35, 36] (by decide +kernel) (by decide +kernel)
set_option maxRecDepth 20000 in
theorem gX5_reads_X5_days : GoodIn wsX5_reads (wsV RX5 114 RX5 yX5_days wsX5_days) := goodIn_app (goodIn_of _ (by decide +kernel)) ggX5_reads_X5_days
set_option maxRecDepth 20000 in
theorem ggX5_reads_X5_digit : GoodIn wsX5_reads wsX5_digit := goodIn_r _ [22, 1, 2, 4, 12, 13, 14, 10, 15, 3, 16, 17, 18, 27, 28, 29, 30, 31, 32, 33, 34, 35, 36] (by decide +kernel) (by decide +kernel)
set_option maxRecDepth 20000 in
theorem gX5_reads_X5_digit : GoodIn wsX5_reads (wsV RX5 118 RX5 yX5_digit wsX5_digit) := goodIn_app (goodIn_of _ (by decide +kernel)) ggX5_reads_X5_digit
set_option maxRecDepth 20000 in
theorem ggX5_reads_X5_takes : GoodIn wsX5_reads wsX5_takes := goodIn_r _ [26, 1, 2, 12, 13, 14, 10, 15, 3, 4, 16, 17, 18, 27, 28, 29, 30, 31, 32, 33, 34, 35, 36] (by decide +kernel) (by decide +kernel)
set_option maxRecDepth 20000 in
theorem gX5_reads_X5_takes : GoodIn wsX5_reads (wsV RX5 121 RX5 yX5_takes wsX5_takes) := goodIn_app (goodIn_of _ (by decide +kernel)) ggX5_reads_X5_takes
theorem dX5_reads_0 : decode cX5_reads 0 = .ok (.aload_n 0, 1) := by decide +kernel
theorem dX5_reads_1 : decode cX5_reads 1 = .ok (.getfield 104, 3) := by decide +kernel
theorem dX5_reads_4 : decode cX5_reads 4 = .ok (.ifCond .eq 26, 3) := by decide +kernel
theorem dX5_reads_7 : decode cX5_reads 7 = .ok (.aload_n 0, 1) := by decide +kernel
theorem dX5_reads_8 : decode cX5_reads 8 = .ok (.getfield 108, 3) := by decide +kernel
theorem dX5_reads_11 : decode cX5_reads 11 = .ok (.aload_n 0, 1) := by decide +kernel
theorem dX5_reads_12 : decode cX5_reads 12 = .ok (.getfield 101, 3) := by decide +kernel
theorem dX5_reads_15 : decode cX5_reads 15 = .ok (.if_icmp .ge 15, 3) := by decide +kernel
theorem dX5_reads_18 : decode cX5_reads 18 = .ok (.aload_n 0, 1) := by decide +kernel
theorem dX5_reads_19 : decode cX5_reads 19 = .ok (.getfield 13, 3) := by decide +kernel
theorem dX5_reads_22 : decode cX5_reads 22 = .ok (.aload_n 0, 1) := by decide +kernel
theorem dX5_reads_23 : decode cX5_reads 23 = .ok (.getfield 108, 3) := by decide +kernel
theorem dX5_reads_26 : decode cX5_reads 26 = .ok (.caload, 1) := by decide +kernel
theorem dX5_reads_27 : decode cX5_reads 27 = .ok (.goto 4, 3) := by decide +kernel
theorem dX5_reads_30 : decode cX5_reads 30 = .ok (.iconst 0, 1) := by decide +kernel
theorem dX5_reads_31 : decode cX5_reads 31 = .ok (.istore_n 1, 1) := by decide +kernel
theorem dX5_reads_32 : decode cX5_reads 32 = .ok (.aload_n 0, 1) := by decide +kernel
theorem dX5_reads_33 : decode cX5_reads 33 = .ok (.aload_n 0, 1) := by decide +kernel
theorem dX5_reads_34 : decode cX5_reads 34 = .ok (.getfield 104, 3) := by decide +kernel
theorem dX5_reads_37 : decode cX5_reads 37 = .ok (.ifCond .eq 37, 3) := by decide +kernel
theorem dX5_reads_40 : decode cX5_reads 40 = .ok (.iload_n 1, 1) := by decide +kernel
theorem dX5_reads_41 : decode cX5_reads 41 = .ok (.bipush 100, 2) := by decide +kernel
theorem dX5_reads_43 : decode cX5_reads 43 = .ok (.if_icmp .eq 27, 3) := by decide +kernel
theorem dX5_reads_46 : decode cX5_reads 46 = .ok (.iload_n 1, 1) := by decide +kernel
theorem dX5_reads_47 : decode cX5_reads 47 = .ok (.bipush 113, 2) := by decide +kernel
theorem dX5_reads_49 : decode cX5_reads 49 = .ok (.if_icmp .eq 21, 3) := by decide +kernel
theorem dX5_reads_52 : decode cX5_reads 52 = .ok (.iload_n 1, 1) := by decide +kernel
theorem dX5_reads_53 : decode cX5_reads 53 = .ok (.bipush 104, 2) := by decide +kernel
theorem dX5_reads_55 : decode cX5_reads 55 = .ok (.if_icmp .eq 15, 3) := by decide +kernel
theorem dX5_reads_58 : decode cX5_reads 58 = .ok (.iload_n 1, 1) := by decide +kernel
theorem dX5_reads_59 : decode cX5_reads 59 = .ok (.bipush 116, 2) := by decide +kernel
theorem dX5_reads_61 : decode cX5_reads 61 = .ok (.if_icmp .eq 9, 3) := by decide +kernel
theorem dX5_reads_64 : decode cX5_reads 64 = .ok (.iload_n 1, 1) := by decide +kernel
theorem dX5_reads_65 : decode cX5_reads 65 = .ok (.bipush 114, 2) := by decide +kernel
theorem dX5_reads_67 : decode cX5_reads 67 = .ok (.if_icmp .ne 7, 3) := by decide +kernel
theorem dX5_reads_70 : decode cX5_reads 70 = .ok (.iconst 1, 1) := by decide +kernel
theorem dX5_reads_71 : decode cX5_reads 71 = .ok (.goto 4, 3) := by decide +kernel
theorem dX5_reads_74 : decode cX5_reads 74 = .ok (.iconst 0, 1) := by decide +kernel
theorem dX5_reads_75 : decode cX5_reads 75 = .ok (.putfield 104, 3) := by decide +kernel
theorem dX5_reads_78 : decode cX5_reads 78 = .ok (.aload_n 0, 1) := by decide +kernel
theorem dX5_reads_79 : decode cX5_reads 79 = .ok (.dup, 1) := by decide +kernel
theorem dX5_reads_80 : decode cX5_reads 80 = .ok (.getfield 108, 3) := by decide +kernel
theorem dX5_reads_83 : decode cX5_reads 83 = .ok (.aload_n 0, 1) := by decide +kernel
theorem dX5_reads_84 : decode cX5_reads 84 = .ok (.getfield 104, 3) := by decide +kernel
theorem dX5_reads_87 : decode cX5_reads 87 = .ok (.ifCond .eq 7, 3) := by decide +kernel
theorem dX5_reads_90 : decode cX5_reads 90 = .ok (.iconst 1, 1) := by decide +kernel
theorem dX5_reads_91 : decode cX5_reads 91 = .ok (.goto 4, 3) := by decide +kernel
theorem dX5_reads_94 : decode cX5_reads 94 = .ok (.iconst 0, 1) := by decide +kernel
theorem dX5_reads_95 : decode cX5_reads 95 = .ok (.iadd, 1) := by decide +kernel
theorem dX5_reads_96 : decode cX5_reads 96 = .ok (.putfield 108, 3) := by decide +kernel
theorem dX5_reads_99 : decode cX5_reads 99 = .ok (.iconst 0, 1) := by decide +kernel
theorem dX5_reads_100 : decode cX5_reads 100 = .ok (.istore_n 2, 1) := by decide +kernel
theorem dX5_reads_101 : decode cX5_reads 101 = .ok (.iconst 0, 1) := by decide +kernel
theorem dX5_reads_102 : decode cX5_reads 102 = .ok (.istore_n 3, 1) := by decide +kernel
theorem dX5_reads_103 : decode cX5_reads 103 = .ok (.iload_n 1, 1) := by decide +kernel
theorem dX5_reads_104 : decode cX5_reads 104 = .ok (.bipush 116, 2) := by decide +kernel
theorem dX5_reads_106 : decode cX5_reads 106 = .ok (.if_icmp .ne 11, 3) := by decide +kernel
theorem dX5_reads_109 : decode cX5_reads 109 = .ok (.aload_n 0, 1) := by decide +kernel
theorem dX5_reads_110 : decode cX5_reads 110 = .ok (.invokevirtual 114, 3) := by decide +kernel
theorem dX5_reads_113 : decode cX5_reads 113 = .ok (.istore_n 2, 1) := by decide +kernel
theorem dX5_reads_114 : decode cX5_reads 114 = .ok (.goto 42, 3) := by decide +kernel
theorem dX5_reads_117 : decode cX5_reads 117 = .ok (.iload_n 1, 1) := by decide +kernel
theorem dX5_reads_118 : decode cX5_reads 118 = .ok (.bipush 114, 2) := by decide +kernel
theorem dX5_reads_120 : decode cX5_reads 120 = .ok (.if_icmp .eq 36, 3) := by decide +kernel
theorem dX5_reads_123 : decode cX5_reads 123 = .ok (.aload_n 0, 1) := by decide +kernel
theorem dX5_reads_124 : decode cX5_reads 124 = .ok (.invokevirtual 118, 3) := by decide +kernel
theorem dX5_reads_127 : decode cX5_reads 127 = .ok (.istore_n 2, 1) := by decide +kernel
theorem dX5_reads_128 : decode cX5_reads 128 = .ok (.iload_n 1, 1) := by decide +kernel
theorem dX5_reads_129 : decode cX5_reads 129 = .ok (.bipush 100, 2) := by decide +kernel
theorem dX5_reads_131 : decode cX5_reads 131 = .ok (.if_icmp .eq 25, 3) := by decide +kernel
theorem dX5_reads_134 : decode cX5_reads 134 = .ok (.aload_n 0, 1) := by decide +kernel
theorem dX5_reads_135 : decode cX5_reads 135 = .ok (.iload_n 1, 1) := by decide +kernel
theorem dX5_reads_136 : decode cX5_reads 136 = .ok (.bipush 113, 2) := by decide +kernel
theorem dX5_reads_138 : decode cX5_reads 138 = .ok (.if_icmp .ne 8, 3) := by decide +kernel
theorem dX5_reads_141 : decode cX5_reads 141 = .ok (.bipush 45, 2) := by decide +kernel
theorem dX5_reads_143 : decode cX5_reads 143 = .ok (.goto 5, 3) := by decide +kernel
theorem dX5_reads_146 : decode cX5_reads 146 = .ok (.bipush 62, 2) := by decide +kernel
theorem dX5_reads_148 : decode cX5_reads 148 = .ok (.invokevirtual 121, 3) := by decide +kernel
theorem dX5_reads_151 : decode cX5_reads 151 = .ok (.aload_n 0, 1) := by decide +kernel
theorem dX5_reads_152 : decode cX5_reads 152 = .ok (.invokevirtual 118, 3) := by decide +kernel
theorem dX5_reads_155 : decode cX5_reads 155 = .ok (.istore_n 3, 1) := by decide +kernel
theorem dX5_reads_156 : decode cX5_reads 156 = .ok (.aload_n 0, 1) := by decide +kernel
theorem dX5_reads_157 : decode cX5_reads 157 = .ok (.getfield 104, 3) := by decide +kernel
theorem dX5_reads_160 : decode cX5_reads 160 = .ok (.ifCond .eq 53, 3) := by decide +kernel
theorem dX5_reads_163 : decode cX5_reads 163 = .ok (.aload_n 0, 1) := by decide +kernel
theorem dX5_reads_164 : decode cX5_reads 164 = .ok (.getfield 20, 3) := by decide +kernel
theorem dX5_reads_167 : decode cX5_reads 167 = .ok (.iconst 3, 1) := by decide +kernel
theorem dX5_reads_168 : decode cX5_reads 168 = .ok (.aload_n 0, 1) := by decide +kernel
theorem dX5_reads_169 : decode cX5_reads 169 = .ok (.getfield 125, 3) := by decide +kernel
theorem dX5_reads_172 : decode cX5_reads 172 = .ok (.imul, 1) := by decide +kernel
theorem dX5_reads_173 : decode cX5_reads 173 = .ok (.iload_n 1, 1) := by decide +kernel
theorem dX5_reads_174 : decode cX5_reads 174 = .ok (.iastore, 1) := by decide +kernel
theorem dX5_reads_175 : decode cX5_reads 175 = .ok (.aload_n 0, 1) := by decide +kernel
theorem dX5_reads_176 : decode cX5_reads 176 = .ok (.getfield 20, 3) := by decide +kernel
theorem dX5_reads_179 : decode cX5_reads 179 = .ok (.iconst 3, 1) := by decide +kernel
theorem dX5_reads_180 : decode cX5_reads 180 = .ok (.aload_n 0, 1) := by decide +kernel
theorem dX5_reads_181 : decode cX5_reads 181 = .ok (.getfield 125, 3) := by decide +kernel
theorem dX5_reads_184 : decode cX5_reads 184 = .ok (.imul, 1) := by decide +kernel
theorem dX5_reads_185 : decode cX5_reads 185 = .ok (.iconst 1, 1) := by decide +kernel
theorem dX5_reads_186 : decode cX5_reads 186 = .ok (.iadd, 1) := by decide +kernel
theorem dX5_reads_187 : decode cX5_reads 187 = .ok (.iload_n 2, 1) := by decide +kernel
theorem dX5_reads_188 : decode cX5_reads 188 = .ok (.iastore, 1) := by decide +kernel
theorem dX5_reads_189 : decode cX5_reads 189 = .ok (.aload_n 0, 1) := by decide +kernel
theorem dX5_reads_190 : decode cX5_reads 190 = .ok (.getfield 20, 3) := by decide +kernel
theorem dX5_reads_193 : decode cX5_reads 193 = .ok (.iconst 3, 1) := by decide +kernel
theorem dX5_reads_194 : decode cX5_reads 194 = .ok (.aload_n 0, 1) := by decide +kernel
theorem dX5_reads_195 : decode cX5_reads 195 = .ok (.getfield 125, 3) := by decide +kernel
theorem dX5_reads_198 : decode cX5_reads 198 = .ok (.imul, 1) := by decide +kernel
theorem dX5_reads_199 : decode cX5_reads 199 = .ok (.iconst 2, 1) := by decide +kernel
theorem dX5_reads_200 : decode cX5_reads 200 = .ok (.iadd, 1) := by decide +kernel
theorem dX5_reads_201 : decode cX5_reads 201 = .ok (.iload_n 3, 1) := by decide +kernel
theorem dX5_reads_202 : decode cX5_reads 202 = .ok (.iastore, 1) := by decide +kernel
theorem dX5_reads_203 : decode cX5_reads 203 = .ok (.aload_n 0, 1) := by decide +kernel
theorem dX5_reads_204 : decode cX5_reads 204 = .ok (.dup, 1) := by decide +kernel
theorem dX5_reads_205 : decode cX5_reads 205 = .ok (.getfield 125, 3) := by decide +kernel
theorem dX5_reads_208 : decode cX5_reads 208 = .ok (.iconst 1, 1) := by decide +kernel
theorem dX5_reads_209 : decode cX5_reads 209 = .ok (.iadd, 1) := by decide +kernel
theorem dX5_reads_210 : decode cX5_reads 210 = .ok (.putfield 125, 3) := by decide +kernel
theorem dX5_reads_213 : decode cX5_reads 213 = .ok (.return_, 1) := by decide +kernel
set_option maxRecDepth 20000 in
theorem ggX5_areDays_X5_reads : GoodIn wsX5_areDays wsX5_reads := goodIn_r _ [9, 2, 1, 4, 10, 11, 3, 12, 13, 14, 8, 15, 16, 17, 18, 19, 20, 21, 22, 23, 24, 25, 26, 27, 28, 29, 30, 31, 32, 33, 34, 35, 36, 37, 38, 39, 40] (by decide +kernel) (by decide +kernel)
set_option maxRecDepth 20000 in
theorem gX5_areDays_X5_reads : GoodIn wsX5_areDays (wsV RX5 128 RX5 yX5_reads wsX5_reads) := goodIn_app (goodIn_of _ (by decide +kernel)) ggX5_areDays_X5_reads
set_option maxRecDepth 20000 in
theorem ggX5_areDays_X5_takes : GoodIn wsX5_areDays wsX5_takes := goodIn_r _ [30, 2, 1, 16, 17, 18, 8, 19, 4, 10, 20, 21, 22, 31, 32, 33, 34, 35, 36, 37, 38, 39, 40] (by decide +kernel) (by decide +kernel)
set_option maxRecDepth 20000 in
theorem gX5_areDays_X5_takes : GoodIn wsX5_areDays (wsV RX5 121 RX5 yX5_takes wsX5_takes) := goodIn_app (goodIn_of _ (by decide +kernel)) ggX5_areDays_X5_takes
theorem dX5_areDays_0 : decode cX5_areDays 0 = .ok (.aload_n 0, 1) := by decide +kernel
theorem dX5_areDays_1 : decode cX5_areDays 1 = .ok (.iconst 0, 1) := by decide +kernel
theorem dX5_areDays_2 : decode cX5_areDays 2 = .ok (.putfield 108, 3) := by decide +kernel
theorem dX5_areDays_5 : decode cX5_areDays 5 = .ok (.aload_n 0, 1) := by decide +kernel
theorem dX5_areDays_6 : decode cX5_areDays 6 = .ok (.iconst 1, 1) := by decide +kernel
theorem dX5_areDays_7 : decode cX5_areDays 7 = .ok (.putfield 104, 3) := by decide +kernel
theorem dX5_areDays_10 : decode cX5_areDays 10 = .ok (.aload_n 0, 1) := by decide +kernel
theorem dX5_areDays_11 : decode cX5_areDays 11 = .ok (.iconst 0, 1) := by decide +kernel
theorem dX5_areDays_12 : decode cX5_areDays 12 = .ok (.putfield 125, 3) := by decide +kernel
theorem dX5_areDays_15 : decode cX5_areDays 15 = .ok (.aload_n 0, 1) := by decide +kernel
theorem dX5_areDays_16 : decode cX5_areDays 16 = .ok (.invokevirtual 128, 3) := by decide +kernel
theorem dX5_areDays_19 : decode cX5_areDays 19 = .ok (.aload_n 0, 1) := by decide +kernel
theorem dX5_areDays_20 : decode cX5_areDays 20 = .ok (.getfield 104, 3) := by decide +kernel
theorem dX5_areDays_23 : decode cX5_areDays 23 = .ok (.ifCond .eq 27, 3) := by decide +kernel
theorem dX5_areDays_26 : decode cX5_areDays 26 = .ok (.aload_n 0, 1) := by decide +kernel
theorem dX5_areDays_27 : decode cX5_areDays 27 = .ok (.getfield 108, 3) := by decide +kernel
theorem dX5_areDays_30 : decode cX5_areDays 30 = .ok (.aload_n 0, 1) := by decide +kernel
theorem dX5_areDays_31 : decode cX5_areDays 31 = .ok (.getfield 101, 3) := by decide +kernel
theorem dX5_areDays_34 : decode cX5_areDays 34 = .ok (.if_icmp .ge 16, 3) := by decide +kernel
theorem dX5_areDays_37 : decode cX5_areDays 37 = .ok (.aload_n 0, 1) := by decide +kernel
theorem dX5_areDays_38 : decode cX5_areDays 38 = .ok (.bipush 59, 2) := by decide +kernel
theorem dX5_areDays_40 : decode cX5_areDays 40 = .ok (.invokevirtual 121, 3) := by decide +kernel
theorem dX5_areDays_43 : decode cX5_areDays 43 = .ok (.aload_n 0, 1) := by decide +kernel
theorem dX5_areDays_44 : decode cX5_areDays 44 = .ok (.invokevirtual 128, 3) := by decide +kernel
theorem dX5_areDays_47 : decode cX5_areDays 47 = .ok (.goto (-28), 3) := by decide +kernel
theorem dX5_areDays_50 : decode cX5_areDays 50 = .ok (.aload_n 0, 1) := by decide +kernel
theorem dX5_areDays_51 : decode cX5_areDays 51 = .ok (.getfield 104, 3) := by decide +kernel
theorem dX5_areDays_54 : decode cX5_areDays 54 = .ok (.ireturn, 1) := by decide +kernel
set_option maxRecDepth 20000 in
theorem ggX5_firstError_X5_areDays : GoodIn wsX5_firstError wsX5_areDays := goodIn_r _ [7, 2, 8, 9, 10, 11, 12, 13, 6, 14, 15, 16, 17, 18, 19, 20, 21, 22, 23, 24, 25, 26, 27, 28, 29, 30, 31, 32, 33, 34, 35, 36, 37, 38, 39, 40, 41, 42, 43, 44, 45] (by decide +kernel) (by decide +kernel)
set_option maxRecDepth 20000 in
theorem gX5_firstError_X5_areDays : GoodIn wsX5_firstError (wsV RX5 131 RX5 yX5_areDays wsX5_areDays) := goodIn_app (goodIn_of _ (by decide +kernel)) ggX5_firstError_X5_areDays
theorem dX5_firstError_0 : decode cX5_firstError 0 = .ok (.aload_n 0, 1) := by decide +kernel
theorem dX5_firstError_1 : decode cX5_firstError 1 = .ok (.iconst 0, 1) := by decide +kernel
theorem dX5_firstError_2 : decode cX5_firstError 2 = .ok (.putfield 23, 3) := by decide +kernel
theorem dX5_firstError_5 : decode cX5_firstError 5 = .ok (.aload_n 0, 1) := by decide +kernel
theorem dX5_firstError_6 : decode cX5_firstError 6 = .ok (.invokevirtual 131, 3) := by decide +kernel
theorem dX5_firstError_9 : decode cX5_firstError 9 = .ok (.pop, 1) := by decide +kernel
theorem dX5_firstError_10 : decode cX5_firstError 10 = .ok (.aload_n 0, 1) := by decide +kernel
theorem dX5_firstError_11 : decode cX5_firstError 11 = .ok (.getfield 108, 3) := by decide +kernel
theorem dX5_firstError_14 : decode cX5_firstError 14 = .ok (.ireturn, 1) := by decide +kernel
set_option maxRecDepth 20000 in
theorem ggX5_does_X5_canRenew : GoodIn wsX5_does wsX5_canRenew := goodIn_r _ [8, 2, 9, 10, 7, 11, 40, 41, 42, 43, 44, 45, 46, 47, 48, 49] (by decide +kernel) (by decide +kernel)
set_option maxRecDepth 20000 in
theorem gX5_does_X5_canRenew : GoodIn wsX5_does (wsV RX5 94 RX5 yX5_canRenew wsX5_canRenew) := goodIn_app (goodIn_of _ (by decide +kernel)) ggX5_does_X5_canRenew
set_option maxRecDepth 20000 in
theorem ggX5_does_X5_isKeeper : GoodIn wsX5_does wsX5_isKeeper := goodIn_r _ [15, 2, 16, 17, 7, 18, 40, 41, 42, 43, 44, 45, 46, 47, 48, 49] (by decide +kernel) (by decide +kernel)
set_option maxRecDepth 20000 in
theorem gX5_does_X5_isKeeper : GoodIn wsX5_does (wsV RX5 81 RX5 yX5_isKeeper wsX5_isKeeper) := goodIn_app (goodIn_of _ (by decide +kernel)) ggX5_does_X5_isKeeper
set_option maxRecDepth 20000 in
theorem ggX5_does_X5_areAlive : GoodIn wsX5_does wsX5_areAlive := goodIn_r _ [22, 2, 23, 24, 7, 25, 40, 41, 42, 43, 44, 45, 46, 47, 48, 49] (by decide +kernel) (by decide +kernel)
set_option maxRecDepth 20000 in
theorem gX5_does_X5_areAlive : GoodIn wsX5_does (wsV RX5 88 RX5 yX5_areAlive wsX5_areAlive) := goodIn_app (goodIn_of _ (by decide +kernel)) ggX5_does_X5_areAlive
set_option maxRecDepth 20000 in
theorem ggX5_does_X5_deals : GoodIn wsX5_does wsX5_deals := goodIn_r _ [29, 30, 2, 31, 32, 33, 7, 34, 35, 23, 24, 25, 40, 41, 42, 43, 44, 45, 46, 47, 48, 49] (by decide +kernel) (by decide +kernel)
set_option maxRecDepth 20000 in
theorem gX5_does_X5_deals : GoodIn wsX5_does (wsV RX5 91 RX5 yX5_deals wsX5_deals) := goodIn_app (goodIn_of _ (by decide +kernel)) ggX5_does_X5_deals
set_option maxRecDepth 20000 in
theorem ggX5_does_X5_dies : GoodIn wsX5_does wsX5_dies := goodIn_r _ [39, 2, 23, 24, 7, 25, 40, 41, 42, 43, 44, 45, 46, 47, 48, 49] (by decide +kernel) (by decide +kernel)
set_option maxRecDepth 20000 in
theorem gX5_does_X5_dies : GoodIn wsX5_does (wsV RX5 85 RX5 yX5_dies wsX5_dies) := goodIn_app (goodIn_of _ (by decide +kernel)) ggX5_does_X5_dies
theorem dX5_does_0 : decode cX5_does 0 = .ok (.aload_n 0, 1) := by decide +kernel
theorem dX5_does_1 : decode cX5_does 1 = .ok (.getfield 20, 3) := by decide +kernel
theorem dX5_does_4 : decode cX5_does 4 = .ok (.iconst 3, 1) := by decide +kernel
theorem dX5_does_5 : decode cX5_does 5 = .ok (.iload_n 1, 1) := by decide +kernel
theorem dX5_does_6 : decode cX5_does 6 = .ok (.imul, 1) := by decide +kernel
theorem dX5_does_7 : decode cX5_does 7 = .ok (.iaload, 1) := by decide +kernel
theorem dX5_does_8 : decode cX5_does 8 = .ok (.istore_n 2, 1) := by decide +kernel
theorem dX5_does_9 : decode cX5_does 9 = .ok (.aload_n 0, 1) := by decide +kernel
theorem dX5_does_10 : decode cX5_does 10 = .ok (.getfield 20, 3) := by decide +kernel
theorem dX5_does_13 : decode cX5_does 13 = .ok (.iconst 3, 1) := by decide +kernel
theorem dX5_does_14 : decode cX5_does 14 = .ok (.iload_n 1, 1) := by decide +kernel
theorem dX5_does_15 : decode cX5_does 15 = .ok (.imul, 1) := by decide +kernel
theorem dX5_does_16 : decode cX5_does 16 = .ok (.iconst 1, 1) := by decide +kernel
theorem dX5_does_17 : decode cX5_does 17 = .ok (.iadd, 1) := by decide +kernel
theorem dX5_does_18 : decode cX5_does 18 = .ok (.iaload, 1) := by decide +kernel
theorem dX5_does_19 : decode cX5_does 19 = .ok (.istore_n 3, 1) := by decide +kernel
theorem dX5_does_20 : decode cX5_does 20 = .ok (.aload_n 0, 1) := by decide +kernel
theorem dX5_does_21 : decode cX5_does 21 = .ok (.getfield 20, 3) := by decide +kernel
theorem dX5_does_24 : decode cX5_does 24 = .ok (.iconst 3, 1) := by decide +kernel
theorem dX5_does_25 : decode cX5_does 25 = .ok (.iload_n 1, 1) := by decide +kernel
theorem dX5_does_26 : decode cX5_does 26 = .ok (.imul, 1) := by decide +kernel
theorem dX5_does_27 : decode cX5_does 27 = .ok (.iconst 2, 1) := by decide +kernel
theorem dX5_does_28 : decode cX5_does 28 = .ok (.iadd, 1) := by decide +kernel
theorem dX5_does_29 : decode cX5_does 29 = .ok (.iaload, 1) := by decide +kernel
theorem dX5_does_30 : decode cX5_does 30 = .ok (.istore 4, 2) := by decide +kernel
theorem dX5_does_32 : decode cX5_does 32 = .ok (.iload_n 2, 1) := by decide +kernel
theorem dX5_does_33 : decode cX5_does 33 = .ok (.bipush 116, 2) := by decide +kernel
theorem dX5_does_35 : decode cX5_does 35 = .ok (.if_icmp .ne 25, 3) := by decide +kernel
theorem dX5_does_38 : decode cX5_does 38 = .ok (.aload_n 0, 1) := by decide +kernel
theorem dX5_does_39 : decode cX5_does 39 = .ok (.getfield 7, 3) := by decide +kernel
theorem dX5_does_42 : decode cX5_does 42 = .ok (.bipush 31, 2) := by decide +kernel
theorem dX5_does_44 : decode cX5_does 44 = .ok (.iaload, 1) := by decide +kernel
theorem dX5_does_45 : decode cX5_does 45 = .ok (.ldc 97, 2) := by decide +kernel
theorem dX5_does_47 : decode cX5_does 47 = .ok (.iload_n 3, 1) := by decide +kernel
theorem dX5_does_48 : decode cX5_does 48 = .ok (.isub, 1) := by decide +kernel
theorem dX5_does_49 : decode cX5_does 49 = .ok (.if_icmp .gt 7, 3) := by decide +kernel
theorem dX5_does_52 : decode cX5_does 52 = .ok (.iconst 1, 1) := by decide +kernel
theorem dX5_does_53 : decode cX5_does 53 = .ok (.goto 55, 3) := by decide +kernel
theorem dX5_does_56 : decode cX5_does 56 = .ok (.iconst 0, 1) := by decide +kernel
theorem dX5_does_57 : decode cX5_does 57 = .ok (.goto 51, 3) := by decide +kernel
theorem dX5_does_60 : decode cX5_does 60 = .ok (.iload_n 2, 1) := by decide +kernel
theorem dX5_does_61 : decode cX5_does 61 = .ok (.bipush 114, 2) := by decide +kernel
theorem dX5_does_63 : decode cX5_does 63 = .ok (.if_icmp .ne 11, 3) := by decide +kernel
theorem dX5_does_66 : decode cX5_does 66 = .ok (.aload_n 0, 1) := by decide +kernel
theorem dX5_does_67 : decode cX5_does 67 = .ok (.iconst 0, 1) := by decide +kernel
theorem dX5_does_68 : decode cX5_does 68 = .ok (.invokevirtual 94, 3) := by decide +kernel
theorem dX5_does_71 : decode cX5_does 71 = .ok (.goto 37, 3) := by decide +kernel
theorem dX5_does_74 : decode cX5_does 74 = .ok (.aload_n 0, 1) := by decide +kernel
theorem dX5_does_75 : decode cX5_does 75 = .ok (.iload_n 3, 1) := by decide +kernel
theorem dX5_does_76 : decode cX5_does 76 = .ok (.invokevirtual 81, 3) := by decide +kernel
theorem dX5_does_79 : decode cX5_does 79 = .ok (.ifCond .eq 28, 3) := by decide +kernel
theorem dX5_does_82 : decode cX5_does 82 = .ok (.iload_n 2, 1) := by decide +kernel
theorem dX5_does_83 : decode cX5_does 83 = .ok (.bipush 100, 2) := by decide +kernel
theorem dX5_does_85 : decode cX5_does 85 = .ok (.if_icmp .eq 18, 3) := by decide +kernel
theorem dX5_does_88 : decode cX5_does 88 = .ok (.aload_n 0, 1) := by decide +kernel
theorem dX5_does_89 : decode cX5_does 89 = .ok (.iload 4, 2) := by decide +kernel
theorem dX5_does_91 : decode cX5_does 91 = .ok (.invokevirtual 81, 3) := by decide +kernel
theorem dX5_does_94 : decode cX5_does 94 = .ok (.ifCond .eq 13, 3) := by decide +kernel
theorem dX5_does_97 : decode cX5_does 97 = .ok (.iload_n 3, 1) := by decide +kernel
theorem dX5_does_98 : decode cX5_does 98 = .ok (.iload 4, 2) := by decide +kernel
theorem dX5_does_100 : decode cX5_does 100 = .ok (.if_icmp .eq 7, 3) := by decide +kernel
theorem dX5_does_103 : decode cX5_does 103 = .ok (.iconst 1, 1) := by decide +kernel
theorem dX5_does_104 : decode cX5_does 104 = .ok (.goto 4, 3) := by decide +kernel
theorem dX5_does_107 : decode cX5_does 107 = .ok (.iconst 0, 1) := by decide +kernel
theorem dX5_does_108 : decode cX5_does 108 = .ok (.istore 5, 2) := by decide +kernel
theorem dX5_does_110 : decode cX5_does 110 = .ok (.iload 5, 2) := by decide +kernel
theorem dX5_does_112 : decode cX5_does 112 = .ok (.ifCond .eq 40, 3) := by decide +kernel
theorem dX5_does_115 : decode cX5_does 115 = .ok (.iload_n 2, 1) := by decide +kernel
theorem dX5_does_116 : decode cX5_does 116 = .ok (.bipush 100, 2) := by decide +kernel
theorem dX5_does_118 : decode cX5_does 118 = .ok (.if_icmp .eq 9, 3) := by decide +kernel
theorem dX5_does_121 : decode cX5_does 121 = .ok (.iload_n 2, 1) := by decide +kernel
theorem dX5_does_122 : decode cX5_does 122 = .ok (.bipush 104, 2) := by decide +kernel
theorem dX5_does_124 : decode cX5_does 124 = .ok (.if_icmp .ne 24, 3) := by decide +kernel
theorem dX5_does_127 : decode cX5_does 127 = .ok (.aload_n 0, 1) := by decide +kernel
theorem dX5_does_128 : decode cX5_does 128 = .ok (.iconst 0, 1) := by decide +kernel
theorem dX5_does_129 : decode cX5_does 129 = .ok (.iload_n 3, 1) := by decide +kernel
theorem dX5_does_130 : decode cX5_does 130 = .ok (.iload_n 2, 1) := by decide +kernel
theorem dX5_does_131 : decode cX5_does 131 = .ok (.bipush 100, 2) := by decide +kernel
theorem dX5_does_133 : decode cX5_does 133 = .ok (.if_icmp .ne 7, 3) := by decide +kernel
theorem dX5_does_136 : decode cX5_does 136 = .ok (.iconst (-1), 1) := by decide +kernel
theorem dX5_does_137 : decode cX5_does 137 = .ok (.goto 5, 3) := by decide +kernel
theorem dX5_does_140 : decode cX5_does 140 = .ok (.iload 4, 2) := by decide +kernel
theorem dX5_does_142 : decode cX5_does 142 = .ok (.invokevirtual 88, 3) := by decide +kernel
theorem dX5_does_145 : decode cX5_does 145 = .ok (.ifCond .eq 7, 3) := by decide +kernel
theorem dX5_does_148 : decode cX5_does 148 = .ok (.iconst 1, 1) := by decide +kernel
theorem dX5_does_149 : decode cX5_does 149 = .ok (.goto 4, 3) := by decide +kernel
theorem dX5_does_152 : decode cX5_does 152 = .ok (.iconst 0, 1) := by decide +kernel
theorem dX5_does_153 : decode cX5_does 153 = .ok (.istore 5, 2) := by decide +kernel
theorem dX5_does_155 : decode cX5_does 155 = .ok (.iload 5, 2) := by decide +kernel
theorem dX5_does_157 : decode cX5_does 157 = .ok (.ifCond .ne 5, 3) := by decide +kernel
theorem dX5_does_160 : decode cX5_does 160 = .ok (.iconst 0, 1) := by decide +kernel
theorem dX5_does_161 : decode cX5_does 161 = .ok (.ireturn, 1) := by decide +kernel
theorem dX5_does_162 : decode cX5_does 162 = .ok (.iload_n 2, 1) := by decide +kernel
theorem dX5_does_163 : decode cX5_does 163 = .ok (.bipush 116, 2) := by decide +kernel
theorem dX5_does_165 : decode cX5_does 165 = .ok (.if_icmp .ne 17, 3) := by decide +kernel
theorem dX5_does_168 : decode cX5_does 168 = .ok (.aload_n 0, 1) := by decide +kernel
theorem dX5_does_169 : decode cX5_does 169 = .ok (.getfield 7, 3) := by decide +kernel
theorem dX5_does_172 : decode cX5_does 172 = .ok (.bipush 31, 2) := by decide +kernel
theorem dX5_does_174 : decode cX5_does 174 = .ok (.dup2, 1) := by decide +kernel
theorem dX5_does_175 : decode cX5_does 175 = .ok (.iaload, 1) := by decide +kernel
theorem dX5_does_176 : decode cX5_does 176 = .ok (.iload_n 3, 1) := by decide +kernel
theorem dX5_does_177 : decode cX5_does 177 = .ok (.iadd, 1) := by decide +kernel
theorem dX5_does_178 : decode cX5_does 178 = .ok (.iastore, 1) := by decide +kernel
theorem dX5_does_179 : decode cX5_does 179 = .ok (.goto 85, 3) := by decide +kernel
theorem dX5_does_182 : decode cX5_does 182 = .ok (.iload_n 2, 1) := by decide +kernel
theorem dX5_does_183 : decode cX5_does 183 = .ok (.bipush 114, 2) := by decide +kernel
theorem dX5_does_185 : decode cX5_does 185 = .ok (.if_icmp .ne 12, 3) := by decide +kernel
theorem dX5_does_188 : decode cX5_does 188 = .ok (.aload_n 0, 1) := by decide +kernel
theorem dX5_does_189 : decode cX5_does 189 = .ok (.iconst 0, 1) := by decide +kernel
theorem dX5_does_190 : decode cX5_does 190 = .ok (.invokevirtual 91, 3) := by decide +kernel
theorem dX5_does_193 : decode cX5_does 193 = .ok (.pop, 1) := by decide +kernel
theorem dX5_does_194 : decode cX5_does 194 = .ok (.goto 70, 3) := by decide +kernel
theorem dX5_does_197 : decode cX5_does 197 = .ok (.iload_n 2, 1) := by decide +kernel
theorem dX5_does_198 : decode cX5_does 198 = .ok (.bipush 100, 2) := by decide +kernel
theorem dX5_does_200 : decode cX5_does 200 = .ok (.if_icmp .ne 13, 3) := by decide +kernel
theorem dX5_does_203 : decode cX5_does 203 = .ok (.aload_n 0, 1) := by decide +kernel
theorem dX5_does_204 : decode cX5_does 204 = .ok (.iconst 0, 1) := by decide +kernel
theorem dX5_does_205 : decode cX5_does 205 = .ok (.iload_n 3, 1) := by decide +kernel
theorem dX5_does_206 : decode cX5_does 206 = .ok (.invokevirtual 85, 3) := by decide +kernel
theorem dX5_does_209 : decode cX5_does 209 = .ok (.pop, 1) := by decide +kernel
theorem dX5_does_210 : decode cX5_does 210 = .ok (.goto 54, 3) := by decide +kernel
theorem dX5_does_213 : decode cX5_does 213 = .ok (.iload_n 2, 1) := by decide +kernel
theorem dX5_does_214 : decode cX5_does 214 = .ok (.bipush 104, 2) := by decide +kernel
theorem dX5_does_216 : decode cX5_does 216 = .ok (.if_icmp .ne 16, 3) := by decide +kernel
theorem dX5_does_219 : decode cX5_does 219 = .ok (.aload_n 0, 1) := by decide +kernel
theorem dX5_does_220 : decode cX5_does 220 = .ok (.getfield 7, 3) := by decide +kernel
theorem dX5_does_223 : decode cX5_does 223 = .ok (.iconst 3, 1) := by decide +kernel
theorem dX5_does_224 : decode cX5_does 224 = .ok (.iload_n 3, 1) := by decide +kernel
theorem dX5_does_225 : decode cX5_does 225 = .ok (.iadd, 1) := by decide +kernel
theorem dX5_does_226 : decode cX5_does 226 = .ok (.iload 4, 2) := by decide +kernel
theorem dX5_does_228 : decode cX5_does 228 = .ok (.iastore, 1) := by decide +kernel
theorem dX5_does_229 : decode cX5_does 229 = .ok (.goto 35, 3) := by decide +kernel
theorem dX5_does_232 : decode cX5_does 232 = .ok (.aload_n 0, 1) := by decide +kernel
theorem dX5_does_233 : decode cX5_does 233 = .ok (.getfield 7, 3) := by decide +kernel
theorem dX5_does_236 : decode cX5_does 236 = .ok (.bipush 11, 2) := by decide +kernel
theorem dX5_does_238 : decode cX5_does 238 = .ok (.iload_n 3, 1) := by decide +kernel
theorem dX5_does_239 : decode cX5_does 239 = .ok (.iadd, 1) := by decide +kernel
theorem dX5_does_240 : decode cX5_does 240 = .ok (.dup2, 1) := by decide +kernel
theorem dX5_does_241 : decode cX5_does 241 = .ok (.iaload, 1) := by decide +kernel
theorem dX5_does_242 : decode cX5_does 242 = .ok (.iconst 1, 1) := by decide +kernel
theorem dX5_does_243 : decode cX5_does 243 = .ok (.iload 4, 2) := by decide +kernel
theorem dX5_does_245 : decode cX5_does 245 = .ok (.ishl, 1) := by decide +kernel
theorem dX5_does_246 : decode cX5_does 246 = .ok (.ixor, 1) := by decide +kernel
theorem dX5_does_247 : decode cX5_does 247 = .ok (.iastore, 1) := by decide +kernel
theorem dX5_does_248 : decode cX5_does 248 = .ok (.aload_n 0, 1) := by decide +kernel
theorem dX5_does_249 : decode cX5_does 249 = .ok (.getfield 7, 3) := by decide +kernel
theorem dX5_does_252 : decode cX5_does 252 = .ok (.bipush 11, 2) := by decide +kernel
theorem dX5_does_254 : decode cX5_does 254 = .ok (.iload 4, 2) := by decide +kernel
theorem dX5_does_256 : decode cX5_does 256 = .ok (.iadd, 1) := by decide +kernel
theorem dX5_does_257 : decode cX5_does 257 = .ok (.dup2, 1) := by decide +kernel
theorem dX5_does_258 : decode cX5_does 258 = .ok (.iaload, 1) := by decide +kernel
theorem dX5_does_259 : decode cX5_does 259 = .ok (.iconst 1, 1) := by decide +kernel
theorem dX5_does_260 : decode cX5_does 260 = .ok (.iload_n 3, 1) := by decide +kernel
theorem dX5_does_261 : decode cX5_does 261 = .ok (.ishl, 1) := by decide +kernel
theorem dX5_does_262 : decode cX5_does 262 = .ok (.ixor, 1) := by decide +kernel
theorem dX5_does_263 : decode cX5_does 263 = .ok (.iastore, 1) := by decide +kernel
theorem dX5_does_264 : decode cX5_does 264 = .ok (.iconst 1, 1) := by decide +kernel
theorem dX5_does_265 : decode cX5_does 265 = .ok (.ireturn, 1) := by decide +kernel
set_option maxRecDepth 20000 in
theorem ggX5_live_X5_areDays : GoodIn wsX5_live wsX5_areDays := goodIn_r _ [7, 8, 9, 2, 1, 10, 11, 12, 6, 13, 14, 15, 16, 17, 18, 19, 20, 21, 22, 23, 24, 25, 26, 27, 28, 29, 30, 31, 32, 33, 34, 87, 88, 89, 90, 91, 92, 93, 94, 95, 96] (by decide +kernel) (by decide +kernel)
set_option maxRecDepth 20000 in
theorem gX5_live_X5_areDays : GoodIn wsX5_live (wsV RX5 131 RX5 yX5_areDays wsX5_areDays) := goodIn_app (goodIn_of _ (by decide +kernel)) ggX5_live_X5_areDays
set_option maxRecDepth 20000 in
theorem ggX5_live_X5_goes : GoodIn wsX5_live wsX5_goes := goodIn_r _ [38, 39, 87, 88, 89, 90, 91, 92, 93, 94, 95, 96] (by decide +kernel) (by decide +kernel)
set_option maxRecDepth 20000 in
theorem gX5_live_X5_goes : GoodIn wsX5_live (wsV RX5 74 RX5 yX5_goes wsX5_goes) := goodIn_app (goodIn_of _ (by decide +kernel)) ggX5_live_X5_goes
set_option maxRecDepth 20000 in
theorem ggX5_live_X5_saves : GoodIn wsX5_live wsX5_saves := goodIn_r _ [43, 44, 45, 46, 47, 6, 48, 49, 87, 88, 89, 90, 91, 92, 93, 94, 95, 96] (by decide +kernel) (by decide +kernel)
set_option maxRecDepth 20000 in
theorem gX5_live_X5_saves : GoodIn wsX5_live (wsV RX5 78 RX5 yX5_saves wsX5_saves) := goodIn_app (goodIn_of _ (by decide +kernel)) ggX5_live_X5_saves
set_option maxRecDepth 20000 in
theorem ggX5_live_X5_does : GoodIn wsX5_live wsX5_does := goodIn_r _ [53, 15, 49, 54, 55, 56, 57, 6, 58, 59, 60, 61, 62, 63, 64, 65, 24, 25, 26, 66, 67, 68, 69, 70, 71, 72, 73, 74, 75, 76, 77, 78, 79, 80, 81, 82, 83, 84, 85, 86, 87, 88, 89, 90, 91, 92, 93, 94, 95, 96] (by decide +kernel) (by decide +kernel)
set_option maxRecDepth 20000 in
theorem gX5_live_X5_does : GoodIn wsX5_live (wsV RX5 135 RX5 yX5_does wsX5_does) := goodIn_app (goodIn_of _ (by decide +kernel)) ggX5_live_X5_does
theorem dX5_live_0 : decode cX5_live 0 = .ok (.aload_n 0, 1) := by decide +kernel
theorem dX5_live_1 : decode cX5_live 1 = .ok (.aload_n 0, 1) := by decide +kernel
theorem dX5_live_2 : decode cX5_live 2 = .ok (.invokevirtual 131, 3) := by decide +kernel
theorem dX5_live_5 : decode cX5_live 5 = .ok (.iconst 1, 1) := by decide +kernel
theorem dX5_live_6 : decode cX5_live 6 = .ok (.invokevirtual 74, 3) := by decide +kernel
theorem dX5_live_9 : decode cX5_live 9 = .ok (.ifCond .ne 5, 3) := by decide +kernel
theorem dX5_live_12 : decode cX5_live 12 = .ok (.iconst 0, 1) := by decide +kernel
theorem dX5_live_13 : decode cX5_live 13 = .ok (.ireturn, 1) := by decide +kernel
theorem dX5_live_14 : decode cX5_live 14 = .ok (.aload_n 0, 1) := by decide +kernel
theorem dX5_live_15 : decode cX5_live 15 = .ok (.invokevirtual 78, 3) := by decide +kernel
theorem dX5_live_18 : decode cX5_live 18 = .ok (.aload_n 0, 1) := by decide +kernel
theorem dX5_live_19 : decode cX5_live 19 = .ok (.iconst 0, 1) := by decide +kernel
theorem dX5_live_20 : decode cX5_live 20 = .ok (.putfield 101, 3) := by decide +kernel
theorem dX5_live_23 : decode cX5_live 23 = .ok (.iconst 0, 1) := by decide +kernel
theorem dX5_live_24 : decode cX5_live 24 = .ok (.istore_n 1, 1) := by decide +kernel
theorem dX5_live_25 : decode cX5_live 25 = .ok (.iload_n 1, 1) := by decide +kernel
theorem dX5_live_26 : decode cX5_live 26 = .ok (.aload_n 0, 1) := by decide +kernel
theorem dX5_live_27 : decode cX5_live 27 = .ok (.getfield 125, 3) := by decide +kernel
theorem dX5_live_30 : decode cX5_live 30 = .ok (.if_icmp .ge 17, 3) := by decide +kernel
theorem dX5_live_33 : decode cX5_live 33 = .ok (.aload_n 0, 1) := by decide +kernel
theorem dX5_live_34 : decode cX5_live 34 = .ok (.iload_n 1, 1) := by decide +kernel
theorem dX5_live_35 : decode cX5_live 35 = .ok (.invokevirtual 135, 3) := by decide +kernel
theorem dX5_live_38 : decode cX5_live 38 = .ok (.ifCond .eq 9, 3) := by decide +kernel
theorem dX5_live_41 : decode cX5_live 41 = .ok (.iinc 1 1, 3) := by decide +kernel
theorem dX5_live_44 : decode cX5_live 44 = .ok (.goto (-19), 3) := by decide +kernel
theorem dX5_live_47 : decode cX5_live 47 = .ok (.iload_n 1, 1) := by decide +kernel
theorem dX5_live_48 : decode cX5_live 48 = .ok (.ireturn, 1) := by decide +kernel
set_option maxRecDepth 20000 in
theorem ggX5_undo_X5_goes : GoodIn wsX5_undo wsX5_goes := goodIn_r _ [6, 7, 13, 14, 15, 16, 17, 18, 19, 20, 21, 22] (by decide +kernel) (by decide +kernel)
set_option maxRecDepth 20000 in
theorem gX5_undo_X5_goes : GoodIn wsX5_undo (wsV RX5 74 RX5 yX5_goes wsX5_goes) := goodIn_app (goodIn_of _ (by decide +kernel)) ggX5_undo_X5_goes
set_option maxRecDepth 20000 in
theorem ggX5_undo_X5_copies : GoodIn wsX5_undo wsX5_copies := goodIn_r _ [11, 12, 13, 14, 15, 16, 17, 18, 19, 20, 21, 22] (by decide +kernel) (by decide +kernel)
set_option maxRecDepth 20000 in
theorem gX5_undo_X5_copies : GoodIn wsX5_undo (wsV RX5 30 RX5 yX5_copies wsX5_copies) := goodIn_app (goodIn_of _ (by decide +kernel)) ggX5_undo_X5_copies
theorem dX5_undo_0 : decode cX5_undo 0 = .ok (.aload_n 0, 1) := by decide +kernel
theorem dX5_undo_1 : decode cX5_undo 1 = .ok (.aload_n 0, 1) := by decide +kernel
theorem dX5_undo_2 : decode cX5_undo 2 = .ok (.getfield 27, 3) := by decide +kernel
theorem dX5_undo_5 : decode cX5_undo 5 = .ok (.ifCond .le 7, 3) := by decide +kernel
theorem dX5_undo_8 : decode cX5_undo 8 = .ok (.iconst 1, 1) := by decide +kernel
theorem dX5_undo_9 : decode cX5_undo 9 = .ok (.goto 4, 3) := by decide +kernel
theorem dX5_undo_12 : decode cX5_undo 12 = .ok (.iconst 0, 1) := by decide +kernel
theorem dX5_undo_13 : decode cX5_undo 13 = .ok (.iconst 1, 1) := by decide +kernel
theorem dX5_undo_14 : decode cX5_undo 14 = .ok (.invokevirtual 74, 3) := by decide +kernel
theorem dX5_undo_17 : decode cX5_undo 17 = .ok (.ifCond .ne 5, 3) := by decide +kernel
theorem dX5_undo_20 : decode cX5_undo 20 = .ok (.iconst 0, 1) := by decide +kernel
theorem dX5_undo_21 : decode cX5_undo 21 = .ok (.ireturn, 1) := by decide +kernel
theorem dX5_undo_22 : decode cX5_undo 22 = .ok (.aload_n 0, 1) := by decide +kernel
theorem dX5_undo_23 : decode cX5_undo 23 = .ok (.aload_n 0, 1) := by decide +kernel
theorem dX5_undo_24 : decode cX5_undo 24 = .ok (.getfield 27, 3) := by decide +kernel
theorem dX5_undo_27 : decode cX5_undo 27 = .ok (.iconst 0, 1) := by decide +kernel
theorem dX5_undo_28 : decode cX5_undo 28 = .ok (.invokevirtual 30, 3) := by decide +kernel
theorem dX5_undo_31 : decode cX5_undo 31 = .ok (.aload_n 0, 1) := by decide +kernel
theorem dX5_undo_32 : decode cX5_undo 32 = .ok (.dup, 1) := by decide +kernel
theorem dX5_undo_33 : decode cX5_undo 33 = .ok (.getfield 27, 3) := by decide +kernel
theorem dX5_undo_36 : decode cX5_undo 36 = .ok (.iconst 1, 1) := by decide +kernel
theorem dX5_undo_37 : decode cX5_undo 37 = .ok (.isub, 1) := by decide +kernel
theorem dX5_undo_38 : decode cX5_undo 38 = .ok (.putfield 27, 3) := by decide +kernel
theorem dX5_undo_41 : decode cX5_undo 41 = .ok (.aload_n 0, 1) := by decide +kernel
theorem dX5_undo_42 : decode cX5_undo 42 = .ok (.getfield 27, 3) := by decide +kernel
theorem dX5_undo_45 : decode cX5_undo 45 = .ok (.ireturn, 1) := by decide +kernel
set_option maxRecDepth 20000 in
theorem ggX5_keepers_X5_owned : GoodIn wsX5_keepers wsX5_owned := goodIn_r _ [6, 1, 7, 8, 5, 9, 10, 11, 12, 13, 14, 15, 16, 17, 18, 19] (by decide +kernel) (by decide +kernel)
set_option maxRecDepth 20000 in
theorem gX5_keepers_X5_owned : GoodIn wsX5_keepers (wsV RX5 64 RX5 yX5_owned wsX5_owned) := goodIn_app (goodIn_of _ (by decide +kernel)) ggX5_keepers_X5_owned
theorem dX5_keepers_0 : decode cX5_keepers 0 = .ok (.iload_n 2, 1) := by decide +kernel
theorem dX5_keepers_1 : decode cX5_keepers 1 = .ok (.tableswitch 70 0 3 #[31, 42, 51, 60], 31) := by decide +kernel
theorem dX5_keepers_32 : decode cX5_keepers 32 = .ok (.aload_n 0, 1) := by decide +kernel
theorem dX5_keepers_33 : decode cX5_keepers 33 = .ok (.getfield 7, 3) := by decide +kernel
theorem dX5_keepers_36 : decode cX5_keepers 36 = .ok (.iconst 2, 1) := by decide +kernel
theorem dX5_keepers_37 : decode cX5_keepers 37 = .ok (.iaload, 1) := by decide +kernel
theorem dX5_keepers_38 : decode cX5_keepers 38 = .ok (.iload_n 1, 1) := by decide +kernel
theorem dX5_keepers_39 : decode cX5_keepers 39 = .ok (.ishr, 1) := by decide +kernel
theorem dX5_keepers_40 : decode cX5_keepers 40 = .ok (.iconst 1, 1) := by decide +kernel
theorem dX5_keepers_41 : decode cX5_keepers 41 = .ok (.iand, 1) := by decide +kernel
theorem dX5_keepers_42 : decode cX5_keepers 42 = .ok (.ireturn, 1) := by decide +kernel
theorem dX5_keepers_43 : decode cX5_keepers 43 = .ok (.aload_n 0, 1) := by decide +kernel
theorem dX5_keepers_44 : decode cX5_keepers 44 = .ok (.getfield 7, 3) := by decide +kernel
theorem dX5_keepers_47 : decode cX5_keepers 47 = .ok (.iconst 3, 1) := by decide +kernel
theorem dX5_keepers_48 : decode cX5_keepers 48 = .ok (.iload_n 1, 1) := by decide +kernel
theorem dX5_keepers_49 : decode cX5_keepers 49 = .ok (.iadd, 1) := by decide +kernel
theorem dX5_keepers_50 : decode cX5_keepers 50 = .ok (.iaload, 1) := by decide +kernel
theorem dX5_keepers_51 : decode cX5_keepers 51 = .ok (.ireturn, 1) := by decide +kernel
theorem dX5_keepers_52 : decode cX5_keepers 52 = .ok (.aload_n 0, 1) := by decide +kernel
theorem dX5_keepers_53 : decode cX5_keepers 53 = .ok (.iconst 0, 1) := by decide +kernel
theorem dX5_keepers_54 : decode cX5_keepers 54 = .ok (.iconst 1, 1) := by decide +kernel
theorem dX5_keepers_55 : decode cX5_keepers 55 = .ok (.iload_n 1, 1) := by decide +kernel
theorem dX5_keepers_56 : decode cX5_keepers 56 = .ok (.ishl, 1) := by decide +kernel
theorem dX5_keepers_57 : decode cX5_keepers 57 = .ok (.invokevirtual 64, 3) := by decide +kernel
theorem dX5_keepers_60 : decode cX5_keepers 60 = .ok (.ireturn, 1) := by decide +kernel
theorem dX5_keepers_61 : decode cX5_keepers 61 = .ok (.aload_n 0, 1) := by decide +kernel
theorem dX5_keepers_62 : decode cX5_keepers 62 = .ok (.getfield 7, 3) := by decide +kernel
theorem dX5_keepers_65 : decode cX5_keepers 65 = .ok (.bipush 11, 2) := by decide +kernel
theorem dX5_keepers_67 : decode cX5_keepers 67 = .ok (.iload_n 1, 1) := by decide +kernel
theorem dX5_keepers_68 : decode cX5_keepers 68 = .ok (.iadd, 1) := by decide +kernel
theorem dX5_keepers_69 : decode cX5_keepers 69 = .ok (.iaload, 1) := by decide +kernel
theorem dX5_keepers_70 : decode cX5_keepers 70 = .ok (.ireturn, 1) := by decide +kernel
theorem dX5_keepers_71 : decode cX5_keepers 71 = .ok (.aload_n 0, 1) := by decide +kernel
theorem dX5_keepers_72 : decode cX5_keepers 72 = .ok (.getfield 7, 3) := by decide +kernel
theorem dX5_keepers_75 : decode cX5_keepers 75 = .ok (.bipush 19, 2) := by decide +kernel
theorem dX5_keepers_77 : decode cX5_keepers 77 = .ok (.iload_n 1, 1) := by decide +kernel
theorem dX5_keepers_78 : decode cX5_keepers 78 = .ok (.iadd, 1) := by decide +kernel
theorem dX5_keepers_79 : decode cX5_keepers 79 = .ok (.iaload, 1) := by decide +kernel
theorem dX5_keepers_80 : decode cX5_keepers 80 = .ok (.ireturn, 1) := by decide +kernel
set_option maxRecDepth 20000 in
theorem ggX5_keeperOf_X5_isKeeper : GoodIn wsX5_keeperOf wsX5_isKeeper := goodIn_r _ [5, 6, 7, 8, 4, 9, 26, 27, 28, 29, 30, 31, 32, 33, 34, 35] (by decide +kernel) (by decide +kernel)
set_option maxRecDepth 20000 in
theorem gX5_keeperOf_X5_isKeeper : GoodIn wsX5_keeperOf (wsV RX5 81 RX5 yX5_isKeeper wsX5_isKeeper) := goodIn_app (goodIn_of _ (by decide +kernel)) ggX5_keeperOf_X5_isKeeper
set_option maxRecDepth 20000 in
theorem ggX5_keeperOf_X5_in : GoodIn wsX5_keeperOf wsX5_in := goodIn_r _ [9] (by decide +kernel) (by decide +kernel)
set_option maxRecDepth 20000 in
theorem gX5_keeperOf_X5_in : GoodIn wsX5_keeperOf (va_wsS RX5 34 yX5_in wsX5_in) := goodIn_app (goodIn_of _ (by decide +kernel)) ggX5_keeperOf_X5_in
set_option maxRecDepth 20000 in
theorem ggX5_keeperOf_X5_goes : GoodIn wsX5_keeperOf wsX5_goes := goodIn_r _ [13, 14, 26, 27, 28, 29, 30, 31, 32, 33, 34, 35] (by decide +kernel) (by decide +kernel)
set_option maxRecDepth 20000 in
theorem gX5_keeperOf_X5_goes : GoodIn wsX5_keeperOf (wsV RX5 74 RX5 yX5_goes wsX5_goes) := goodIn_app (goodIn_of _ (by decide +kernel)) ggX5_keeperOf_X5_goes
set_option maxRecDepth 20000 in
theorem ggX5_keeperOf_X5_keepers : GoodIn wsX5_keeperOf wsX5_keepers := goodIn_r _ [18, 6, 19, 20, 21, 4, 22, 23, 24, 25, 26, 27, 28, 29, 30, 31, 32, 33, 34, 35] (by decide +kernel) (by decide +kernel)
set_option maxRecDepth 20000 in
theorem gX5_keeperOf_X5_keepers : GoodIn wsX5_keeperOf (wsV RX5 138 RX5 yX5_keepers wsX5_keepers) := goodIn_app (goodIn_of _ (by decide +kernel)) ggX5_keeperOf_X5_keepers
theorem dX5_keeperOf_0 : decode cX5_keeperOf 0 = .ok (.aload_n 0, 1) := by decide +kernel
theorem dX5_keeperOf_1 : decode cX5_keeperOf 1 = .ok (.aload_n 0, 1) := by decide +kernel
theorem dX5_keeperOf_2 : decode cX5_keeperOf 2 = .ok (.iload_n 1, 1) := by decide +kernel
theorem dX5_keeperOf_3 : decode cX5_keeperOf 3 = .ok (.invokevirtual 81, 3) := by decide +kernel
theorem dX5_keeperOf_6 : decode cX5_keeperOf 6 = .ok (.iload_n 2, 1) := by decide +kernel
theorem dX5_keeperOf_7 : decode cX5_keeperOf 7 = .ok (.iconst 0, 1) := by decide +kernel
theorem dX5_keeperOf_8 : decode cX5_keeperOf 8 = .ok (.iconst 4, 1) := by decide +kernel
theorem dX5_keeperOf_9 : decode cX5_keeperOf 9 = .ok (.invokestatic 34, 3) := by decide +kernel
theorem dX5_keeperOf_12 : decode cX5_keeperOf 12 = .ok (.invokevirtual 74, 3) := by decide +kernel
theorem dX5_keeperOf_15 : decode cX5_keeperOf 15 = .ok (.ifCond .eq 12, 3) := by decide +kernel
theorem dX5_keeperOf_18 : decode cX5_keeperOf 18 = .ok (.aload_n 0, 1) := by decide +kernel
theorem dX5_keeperOf_19 : decode cX5_keeperOf 19 = .ok (.iload_n 1, 1) := by decide +kernel
theorem dX5_keeperOf_20 : decode cX5_keeperOf 20 = .ok (.iload_n 2, 1) := by decide +kernel
theorem dX5_keeperOf_21 : decode cX5_keeperOf 21 = .ok (.invokevirtual 138, 3) := by decide +kernel
theorem dX5_keeperOf_24 : decode cX5_keeperOf 24 = .ok (.goto 4, 3) := by decide +kernel
theorem dX5_keeperOf_27 : decode cX5_keeperOf 27 = .ok (.iconst 0, 1) := by decide +kernel
theorem dX5_keeperOf_28 : decode cX5_keeperOf 28 = .ok (.ireturn, 1) := by decide +kernel
theorem dX5_shareOf_0 : decode cX5_shareOf 0 = .ok (.aload_n 0, 1) := by decide +kernel
theorem dX5_shareOf_1 : decode cX5_shareOf 1 = .ok (.getfield 7, 3) := by decide +kernel
theorem dX5_shareOf_4 : decode cX5_shareOf 4 = .ok (.bipush 40, 2) := by decide +kernel
theorem dX5_shareOf_6 : decode cX5_shareOf 6 = .ok (.iload_n 1, 1) := by decide +kernel
theorem dX5_shareOf_7 : decode cX5_shareOf 7 = .ok (.iadd, 1) := by decide +kernel
theorem dX5_shareOf_8 : decode cX5_shareOf 8 = .ok (.iaload, 1) := by decide +kernel
theorem dX5_shareOf_9 : decode cX5_shareOf 9 = .ok (.ifCond .ge 5, 3) := by decide +kernel
theorem dX5_shareOf_12 : decode cX5_shareOf 12 = .ok (.iconst (-1), 1) := by decide +kernel
theorem dX5_shareOf_13 : decode cX5_shareOf 13 = .ok (.ireturn, 1) := by decide +kernel
theorem dX5_shareOf_14 : decode cX5_shareOf 14 = .ok (.iload_n 2, 1) := by decide +kernel
theorem dX5_shareOf_15 : decode cX5_shareOf 15 = .ok (.ifCond .ne 15, 3) := by decide +kernel
theorem dX5_shareOf_18 : decode cX5_shareOf 18 = .ok (.aload_n 0, 1) := by decide +kernel
theorem dX5_shareOf_19 : decode cX5_shareOf 19 = .ok (.getfield 7, 3) := by decide +kernel
theorem dX5_shareOf_22 : decode cX5_shareOf 22 = .ok (.bipush 32, 2) := by decide +kernel
theorem dX5_shareOf_24 : decode cX5_shareOf 24 = .ok (.iload_n 1, 1) := by decide +kernel
theorem dX5_shareOf_25 : decode cX5_shareOf 25 = .ok (.iadd, 1) := by decide +kernel
theorem dX5_shareOf_26 : decode cX5_shareOf 26 = .ok (.iaload, 1) := by decide +kernel
theorem dX5_shareOf_27 : decode cX5_shareOf 27 = .ok (.goto 29, 3) := by decide +kernel
theorem dX5_shareOf_30 : decode cX5_shareOf 30 = .ok (.iload_n 2, 1) := by decide +kernel
theorem dX5_shareOf_31 : decode cX5_shareOf 31 = .ok (.iconst 1, 1) := by decide +kernel
theorem dX5_shareOf_32 : decode cX5_shareOf 32 = .ok (.if_icmp .ne 15, 3) := by decide +kernel
theorem dX5_shareOf_35 : decode cX5_shareOf 35 = .ok (.aload_n 0, 1) := by decide +kernel
theorem dX5_shareOf_36 : decode cX5_shareOf 36 = .ok (.getfield 7, 3) := by decide +kernel
theorem dX5_shareOf_39 : decode cX5_shareOf 39 = .ok (.bipush 40, 2) := by decide +kernel
theorem dX5_shareOf_41 : decode cX5_shareOf 41 = .ok (.iload_n 1, 1) := by decide +kernel
theorem dX5_shareOf_42 : decode cX5_shareOf 42 = .ok (.iadd, 1) := by decide +kernel
theorem dX5_shareOf_43 : decode cX5_shareOf 43 = .ok (.iaload, 1) := by decide +kernel
theorem dX5_shareOf_44 : decode cX5_shareOf 44 = .ok (.goto 12, 3) := by decide +kernel
theorem dX5_shareOf_47 : decode cX5_shareOf 47 = .ok (.aload_n 0, 1) := by decide +kernel
theorem dX5_shareOf_48 : decode cX5_shareOf 48 = .ok (.getfield 7, 3) := by decide +kernel
theorem dX5_shareOf_51 : decode cX5_shareOf 51 = .ok (.bipush 48, 2) := by decide +kernel
theorem dX5_shareOf_53 : decode cX5_shareOf 53 = .ok (.iload_n 1, 1) := by decide +kernel
theorem dX5_shareOf_54 : decode cX5_shareOf 54 = .ok (.iadd, 1) := by decide +kernel
theorem dX5_shareOf_55 : decode cX5_shareOf 55 = .ok (.iaload, 1) := by decide +kernel
theorem dX5_shareOf_56 : decode cX5_shareOf 56 = .ok (.ireturn, 1) := by decide +kernel
set_option maxRecDepth 20000 in
theorem ggX5_share_X5_in : GoodIn wsX5_share wsX5_in := goodIn_r _ [4] (by decide +kernel) (by decide +kernel)
set_option maxRecDepth 20000 in
theorem gX5_share_X5_in : GoodIn wsX5_share (va_wsS RX5 34 yX5_in wsX5_in) := goodIn_app (goodIn_of _ (by decide +kernel)) ggX5_share_X5_in
set_option maxRecDepth 20000 in
theorem ggX5_share_X5_goes : GoodIn wsX5_share wsX5_goes := goodIn_r _ [8, 9, 15, 16, 17, 18, 19, 20, 21, 22, 23, 24] (by decide +kernel) (by decide +kernel)
set_option maxRecDepth 20000 in
theorem gX5_share_X5_goes : GoodIn wsX5_share (wsV RX5 74 RX5 yX5_goes wsX5_goes) := goodIn_app (goodIn_of _ (by decide +kernel)) ggX5_share_X5_goes
set_option maxRecDepth 20000 in
theorem ggX5_share_X5_shareOf : GoodIn wsX5_share wsX5_shareOf := goodIn_r _ [13, 14, 15, 16, 17, 18, 19, 20, 21, 22, 23, 24] (by decide +kernel) (by decide +kernel)
set_option maxRecDepth 20000 in
theorem gX5_share_X5_shareOf : GoodIn wsX5_share (wsV RX5 141 RX5 yX5_shareOf wsX5_shareOf) := goodIn_app (goodIn_of _ (by decide +kernel)) ggX5_share_X5_shareOf
theorem dX5_share_0 : decode cX5_share 0 = .ok (.aload_n 0, 1) := by decide +kernel
theorem dX5_share_1 : decode cX5_share 1 = .ok (.iload_n 1, 1) := by decide +kernel
theorem dX5_share_2 : decode cX5_share 2 = .ok (.iconst 0, 1) := by decide +kernel
theorem dX5_share_3 : decode cX5_share 3 = .ok (.bipush 7, 2) := by decide +kernel
theorem dX5_share_5 : decode cX5_share 5 = .ok (.invokestatic 34, 3) := by decide +kernel
theorem dX5_share_8 : decode cX5_share 8 = .ok (.ifCond .eq 16, 3) := by decide +kernel
theorem dX5_share_11 : decode cX5_share 11 = .ok (.iload_n 2, 1) := by decide +kernel
theorem dX5_share_12 : decode cX5_share 12 = .ok (.iconst 0, 1) := by decide +kernel
theorem dX5_share_13 : decode cX5_share 13 = .ok (.iconst 2, 1) := by decide +kernel
theorem dX5_share_14 : decode cX5_share 14 = .ok (.invokestatic 34, 3) := by decide +kernel
theorem dX5_share_17 : decode cX5_share 17 = .ok (.ifCond .eq 7, 3) := by decide +kernel
theorem dX5_share_20 : decode cX5_share 20 = .ok (.iconst 1, 1) := by decide +kernel
theorem dX5_share_21 : decode cX5_share 21 = .ok (.goto 4, 3) := by decide +kernel
theorem dX5_share_24 : decode cX5_share 24 = .ok (.iconst 0, 1) := by decide +kernel
theorem dX5_share_25 : decode cX5_share 25 = .ok (.iconst 1, 1) := by decide +kernel
theorem dX5_share_26 : decode cX5_share 26 = .ok (.invokevirtual 74, 3) := by decide +kernel
theorem dX5_share_29 : decode cX5_share 29 = .ok (.ifCond .eq 12, 3) := by decide +kernel
theorem dX5_share_32 : decode cX5_share 32 = .ok (.aload_n 0, 1) := by decide +kernel
theorem dX5_share_33 : decode cX5_share 33 = .ok (.iload_n 1, 1) := by decide +kernel
theorem dX5_share_34 : decode cX5_share 34 = .ok (.iload_n 2, 1) := by decide +kernel
theorem dX5_share_35 : decode cX5_share 35 = .ok (.invokevirtual 141, 3) := by decide +kernel
theorem dX5_share_38 : decode cX5_share 38 = .ok (.goto 4, 3) := by decide +kernel
theorem dX5_share_41 : decode cX5_share 41 = .ok (.iconst 0, 1) := by decide +kernel
theorem dX5_share_42 : decode cX5_share 42 = .ok (.ireturn, 1) := by decide +kernel
set_option maxRecDepth 20000 in
theorem ggX5_counted_X5_bits : GoodIn wsX5_counted wsX5_bits := goodIn_r _ [6] (by decide +kernel) (by decide +kernel)
set_option maxRecDepth 20000 in
theorem gX5_counted_X5_bits : GoodIn wsX5_counted (va_wsS RX5 47 yX5_bits wsX5_bits) := goodIn_app (goodIn_of _ (by decide +kernel)) ggX5_counted_X5_bits
set_option maxRecDepth 20000 in
theorem ggX5_counted_X5_shares : GoodIn wsX5_counted wsX5_shares := goodIn_r _ [10, 1, 11, 12, 13, 14, 15, 16, 17, 18, 19, 20] (by decide +kernel) (by decide +kernel)
set_option maxRecDepth 20000 in
theorem gX5_counted_X5_shares : GoodIn wsX5_counted (wsV RX5 144 RX5 yX5_shares wsX5_shares) := goodIn_app (goodIn_of _ (by decide +kernel)) ggX5_counted_X5_shares
theorem dX5_counted_0 : decode cX5_counted 0 = .ok (.iconst 0, 1) := by decide +kernel
theorem dX5_counted_1 : decode cX5_counted 1 = .ok (.istore_n 2, 1) := by decide +kernel
theorem dX5_counted_2 : decode cX5_counted 2 = .ok (.iload_n 1, 1) := by decide +kernel
theorem dX5_counted_3 : decode cX5_counted 3 = .ok (.tableswitch 199 0 10 #[57, 64, 74, 82, 90, 112, 134, 143, 176, 184, 192], 57) := by decide +kernel
theorem dX5_counted_60 : decode cX5_counted 60 = .ok (.aload_n 0, 1) := by decide +kernel
theorem dX5_counted_61 : decode cX5_counted 61 = .ok (.getfield 7, 3) := by decide +kernel
theorem dX5_counted_64 : decode cX5_counted 64 = .ok (.iconst 1, 1) := by decide +kernel
theorem dX5_counted_65 : decode cX5_counted 65 = .ok (.iaload, 1) := by decide +kernel
theorem dX5_counted_66 : decode cX5_counted 66 = .ok (.ireturn, 1) := by decide +kernel
theorem dX5_counted_67 : decode cX5_counted 67 = .ok (.aload_n 0, 1) := by decide +kernel
theorem dX5_counted_68 : decode cX5_counted 68 = .ok (.getfield 7, 3) := by decide +kernel
theorem dX5_counted_71 : decode cX5_counted 71 = .ok (.iconst 2, 1) := by decide +kernel
theorem dX5_counted_72 : decode cX5_counted 72 = .ok (.iaload, 1) := by decide +kernel
theorem dX5_counted_73 : decode cX5_counted 73 = .ok (.invokestatic 47, 3) := by decide +kernel
theorem dX5_counted_76 : decode cX5_counted 76 = .ok (.ireturn, 1) := by decide +kernel
theorem dX5_counted_77 : decode cX5_counted 77 = .ok (.aload_n 0, 1) := by decide +kernel
theorem dX5_counted_78 : decode cX5_counted 78 = .ok (.getfield 7, 3) := by decide +kernel
theorem dX5_counted_81 : decode cX5_counted 81 = .ok (.bipush 31, 2) := by decide +kernel
theorem dX5_counted_83 : decode cX5_counted 83 = .ok (.iaload, 1) := by decide +kernel
theorem dX5_counted_84 : decode cX5_counted 84 = .ok (.ireturn, 1) := by decide +kernel
theorem dX5_counted_85 : decode cX5_counted 85 = .ok (.aload_n 0, 1) := by decide +kernel
theorem dX5_counted_86 : decode cX5_counted 86 = .ok (.getfield 7, 3) := by decide +kernel
theorem dX5_counted_89 : decode cX5_counted 89 = .ok (.bipush 27, 2) := by decide +kernel
theorem dX5_counted_91 : decode cX5_counted 91 = .ok (.iaload, 1) := by decide +kernel
theorem dX5_counted_92 : decode cX5_counted 92 = .ok (.ireturn, 1) := by decide +kernel
theorem dX5_counted_93 : decode cX5_counted 93 = .ok (.aload_n 0, 1) := by decide +kernel
theorem dX5_counted_94 : decode cX5_counted 94 = .ok (.getfield 7, 3) := by decide +kernel
theorem dX5_counted_97 : decode cX5_counted 97 = .ok (.bipush 27, 2) := by decide +kernel
theorem dX5_counted_99 : decode cX5_counted 99 = .ok (.iaload, 1) := by decide +kernel
theorem dX5_counted_100 : decode cX5_counted 100 = .ok (.ifCond .ne 7, 3) := by decide +kernel
theorem dX5_counted_103 : decode cX5_counted 103 = .ok (.iconst (-1), 1) := by decide +kernel
theorem dX5_counted_104 : decode cX5_counted 104 = .ok (.goto 10, 3) := by decide +kernel
theorem dX5_counted_107 : decode cX5_counted 107 = .ok (.aload_n 0, 1) := by decide +kernel
theorem dX5_counted_108 : decode cX5_counted 108 = .ok (.getfield 7, 3) := by decide +kernel
theorem dX5_counted_111 : decode cX5_counted 111 = .ok (.bipush 29, 2) := by decide +kernel
theorem dX5_counted_113 : decode cX5_counted 113 = .ok (.iaload, 1) := by decide +kernel
theorem dX5_counted_114 : decode cX5_counted 114 = .ok (.ireturn, 1) := by decide +kernel
theorem dX5_counted_115 : decode cX5_counted 115 = .ok (.aload_n 0, 1) := by decide +kernel
theorem dX5_counted_116 : decode cX5_counted 116 = .ok (.getfield 7, 3) := by decide +kernel
theorem dX5_counted_119 : decode cX5_counted 119 = .ok (.bipush 27, 2) := by decide +kernel
theorem dX5_counted_121 : decode cX5_counted 121 = .ok (.iaload, 1) := by decide +kernel
theorem dX5_counted_122 : decode cX5_counted 122 = .ok (.ifCond .ne 7, 3) := by decide +kernel
theorem dX5_counted_125 : decode cX5_counted 125 = .ok (.iconst (-1), 1) := by decide +kernel
theorem dX5_counted_126 : decode cX5_counted 126 = .ok (.goto 10, 3) := by decide +kernel
theorem dX5_counted_129 : decode cX5_counted 129 = .ok (.aload_n 0, 1) := by decide +kernel
theorem dX5_counted_130 : decode cX5_counted 130 = .ok (.getfield 7, 3) := by decide +kernel
theorem dX5_counted_133 : decode cX5_counted 133 = .ok (.bipush 30, 2) := by decide +kernel
theorem dX5_counted_135 : decode cX5_counted 135 = .ok (.iaload, 1) := by decide +kernel
theorem dX5_counted_136 : decode cX5_counted 136 = .ok (.ireturn, 1) := by decide +kernel
theorem dX5_counted_137 : decode cX5_counted 137 = .ok (.aload_n 0, 1) := by decide +kernel
theorem dX5_counted_138 : decode cX5_counted 138 = .ok (.iconst 0, 1) := by decide +kernel
theorem dX5_counted_139 : decode cX5_counted 139 = .ok (.invokevirtual 144, 3) := by decide +kernel
theorem dX5_counted_142 : decode cX5_counted 142 = .ok (.invokestatic 47, 3) := by decide +kernel
theorem dX5_counted_145 : decode cX5_counted 145 = .ok (.ireturn, 1) := by decide +kernel
theorem dX5_counted_146 : decode cX5_counted 146 = .ok (.iconst 0, 1) := by decide +kernel
theorem dX5_counted_147 : decode cX5_counted 147 = .ok (.istore_n 3, 1) := by decide +kernel
theorem dX5_counted_148 : decode cX5_counted 148 = .ok (.iload_n 3, 1) := by decide +kernel
theorem dX5_counted_149 : decode cX5_counted 149 = .ok (.bipush 8, 2) := by decide +kernel
theorem dX5_counted_151 : decode cX5_counted 151 = .ok (.if_icmp .ge 24, 3) := by decide +kernel
theorem dX5_counted_154 : decode cX5_counted 154 = .ok (.iload_n 2, 1) := by decide +kernel
theorem dX5_counted_155 : decode cX5_counted 155 = .ok (.aload_n 0, 1) := by decide +kernel
theorem dX5_counted_156 : decode cX5_counted 156 = .ok (.getfield 7, 3) := by decide +kernel
theorem dX5_counted_159 : decode cX5_counted 159 = .ok (.bipush 11, 2) := by decide +kernel
theorem dX5_counted_161 : decode cX5_counted 161 = .ok (.iload_n 3, 1) := by decide +kernel
theorem dX5_counted_162 : decode cX5_counted 162 = .ok (.iadd, 1) := by decide +kernel
theorem dX5_counted_163 : decode cX5_counted 163 = .ok (.iaload, 1) := by decide +kernel
theorem dX5_counted_164 : decode cX5_counted 164 = .ok (.invokestatic 47, 3) := by decide +kernel
theorem dX5_counted_167 : decode cX5_counted 167 = .ok (.iadd, 1) := by decide +kernel
theorem dX5_counted_168 : decode cX5_counted 168 = .ok (.istore_n 2, 1) := by decide +kernel
theorem dX5_counted_169 : decode cX5_counted 169 = .ok (.iinc 3 1, 3) := by decide +kernel
theorem dX5_counted_172 : decode cX5_counted 172 = .ok (.goto (-24), 3) := by decide +kernel
theorem dX5_counted_175 : decode cX5_counted 175 = .ok (.iload_n 2, 1) := by decide +kernel
theorem dX5_counted_176 : decode cX5_counted 176 = .ok (.iconst 2, 1) := by decide +kernel
theorem dX5_counted_177 : decode cX5_counted 177 = .ok (.idiv, 1) := by decide +kernel
theorem dX5_counted_178 : decode cX5_counted 178 = .ok (.ireturn, 1) := by decide +kernel
theorem dX5_counted_179 : decode cX5_counted 179 = .ok (.aload_n 0, 1) := by decide +kernel
theorem dX5_counted_180 : decode cX5_counted 180 = .ok (.getfield 7, 3) := by decide +kernel
theorem dX5_counted_183 : decode cX5_counted 183 = .ok (.bipush 56, 2) := by decide +kernel
theorem dX5_counted_185 : decode cX5_counted 185 = .ok (.iaload, 1) := by decide +kernel
theorem dX5_counted_186 : decode cX5_counted 186 = .ok (.ireturn, 1) := by decide +kernel
theorem dX5_counted_187 : decode cX5_counted 187 = .ok (.aload_n 0, 1) := by decide +kernel
theorem dX5_counted_188 : decode cX5_counted 188 = .ok (.getfield 7, 3) := by decide +kernel
theorem dX5_counted_191 : decode cX5_counted 191 = .ok (.bipush 57, 2) := by decide +kernel
theorem dX5_counted_193 : decode cX5_counted 193 = .ok (.iaload, 1) := by decide +kernel
theorem dX5_counted_194 : decode cX5_counted 194 = .ok (.ireturn, 1) := by decide +kernel
theorem dX5_counted_195 : decode cX5_counted 195 = .ok (.aload_n 0, 1) := by decide +kernel
theorem dX5_counted_196 : decode cX5_counted 196 = .ok (.getfield 7, 3) := by decide +kernel
theorem dX5_counted_199 : decode cX5_counted 199 = .ok (.iconst 0, 1) := by decide +kernel
theorem dX5_counted_200 : decode cX5_counted 200 = .ok (.iaload, 1) := by decide +kernel
theorem dX5_counted_201 : decode cX5_counted 201 = .ok (.ireturn, 1) := by decide +kernel
theorem dX5_counted_202 : decode cX5_counted 202 = .ok (.aload_n 0, 1) := by decide +kernel
theorem dX5_counted_203 : decode cX5_counted 203 = .ok (.getfield 27, 3) := by decide +kernel
theorem dX5_counted_206 : decode cX5_counted 206 = .ok (.ireturn, 1) := by decide +kernel
set_option maxRecDepth 20000 in
theorem ggX5_count_X5_in : GoodIn wsX5_count wsX5_in := goodIn_r _ [4] (by decide +kernel) (by decide +kernel)
set_option maxRecDepth 20000 in
theorem gX5_count_X5_in : GoodIn wsX5_count (va_wsS RX5 34 yX5_in wsX5_in) := goodIn_app (goodIn_of _ (by decide +kernel)) ggX5_count_X5_in
set_option maxRecDepth 20000 in
theorem ggX5_count_X5_goes : GoodIn wsX5_count wsX5_goes := goodIn_r _ [8, 9, 23, 24, 25, 26, 27, 28, 29, 30, 31, 32] (by decide +kernel) (by decide +kernel)
set_option maxRecDepth 20000 in
theorem gX5_count_X5_goes : GoodIn wsX5_count (wsV RX5 74 RX5 yX5_goes wsX5_goes) := goodIn_app (goodIn_of _ (by decide +kernel)) ggX5_count_X5_goes
set_option maxRecDepth 20000 in
theorem ggX5_count_X5_counted : GoodIn wsX5_count wsX5_counted := goodIn_r _ [13, 14, 15, 16, 17, 3, 18, 19, 20, 21, 22, 23, 24, 25, 26, 27, 28, 29, 30, 31, 32] (by decide +kernel) (by decide +kernel)
set_option maxRecDepth 20000 in
theorem gX5_count_X5_counted : GoodIn wsX5_count (wsV RX5 147 RX5 yX5_counted wsX5_counted) := goodIn_app (goodIn_of _ (by decide +kernel)) ggX5_count_X5_counted
theorem dX5_count_0 : decode cX5_count 0 = .ok (.aload_n 0, 1) := by decide +kernel
theorem dX5_count_1 : decode cX5_count 1 = .ok (.iload_n 1, 1) := by decide +kernel
theorem dX5_count_2 : decode cX5_count 2 = .ok (.iconst 0, 1) := by decide +kernel
theorem dX5_count_3 : decode cX5_count 3 = .ok (.bipush 11, 2) := by decide +kernel
theorem dX5_count_5 : decode cX5_count 5 = .ok (.invokestatic 34, 3) := by decide +kernel
theorem dX5_count_8 : decode cX5_count 8 = .ok (.iconst 1, 1) := by decide +kernel
theorem dX5_count_9 : decode cX5_count 9 = .ok (.invokevirtual 74, 3) := by decide +kernel
theorem dX5_count_12 : decode cX5_count 12 = .ok (.ifCond .eq 11, 3) := by decide +kernel
theorem dX5_count_15 : decode cX5_count 15 = .ok (.aload_n 0, 1) := by decide +kernel
theorem dX5_count_16 : decode cX5_count 16 = .ok (.iload_n 1, 1) := by decide +kernel
theorem dX5_count_17 : decode cX5_count 17 = .ok (.invokevirtual 147, 3) := by decide +kernel
theorem dX5_count_20 : decode cX5_count 20 = .ok (.goto 4, 3) := by decide +kernel
theorem dX5_count_23 : decode cX5_count 23 = .ok (.iconst 0, 1) := by decide +kernel
theorem dX5_count_24 : decode cX5_count 24 = .ok (.ireturn, 1) := by decide +kernel
set_option maxRecDepth 20000 in
theorem ggX5_why_X5_isGroup : GoodIn wsX5_why wsX5_isGroup := goodIn_r _ [5, 6, 7, 8, 4, 9, 47, 48, 49, 50, 51, 52, 53, 54, 55, 56] (by decide +kernel) (by decide +kernel)
set_option maxRecDepth 20000 in
theorem gX5_why_X5_isGroup : GoodIn wsX5_why (wsV RX5 98 RX5 yX5_isGroup wsX5_isGroup) := goodIn_app (goodIn_of _ (by decide +kernel)) ggX5_why_X5_isGroup
set_option maxRecDepth 20000 in
theorem ggX5_why_X5_goes : GoodIn wsX5_why wsX5_goes := goodIn_r _ [13, 14, 47, 48, 49, 50, 51, 52, 53, 54, 55, 56] (by decide +kernel) (by decide +kernel)
set_option maxRecDepth 20000 in
theorem gX5_why_X5_goes : GoodIn wsX5_why (wsV RX5 74 RX5 yX5_goes wsX5_goes) := goodIn_app (goodIn_of _ (by decide +kernel)) ggX5_why_X5_goes
set_option maxRecDepth 20000 in
theorem ggX5_why_X5_reason : GoodIn wsX5_why wsX5_reason := goodIn_r _ [18, 6, 19, 20, 21, 4, 22, 23, 24, 25, 26, 27, 28, 29, 30, 31, 32, 33, 34, 35, 36, 37, 38, 39, 40, 41, 42, 43, 44, 45, 46, 47, 48, 49, 50, 51, 52, 53, 54, 55, 56] (by decide +kernel) (by decide +kernel)
set_option maxRecDepth 20000 in
theorem gX5_why_X5_reason : GoodIn wsX5_why (wsV RX5 70 RX5 yX5_reason wsX5_reason) := goodIn_app (goodIn_of _ (by decide +kernel)) ggX5_why_X5_reason
theorem dX5_why_0 : decode cX5_why 0 = .ok (.aload_n 0, 1) := by decide +kernel
theorem dX5_why_1 : decode cX5_why 1 = .ok (.aload_n 0, 1) := by decide +kernel
theorem dX5_why_2 : decode cX5_why 2 = .ok (.iload_n 1, 1) := by decide +kernel
theorem dX5_why_3 : decode cX5_why 3 = .ok (.invokevirtual 98, 3) := by decide +kernel
theorem dX5_why_6 : decode cX5_why 6 = .ok (.iconst 1, 1) := by decide +kernel
theorem dX5_why_7 : decode cX5_why 7 = .ok (.invokevirtual 74, 3) := by decide +kernel
theorem dX5_why_10 : decode cX5_why 10 = .ok (.ifCond .eq 13, 3) := by decide +kernel
theorem dX5_why_13 : decode cX5_why 13 = .ok (.aload_n 0, 1) := by decide +kernel
theorem dX5_why_14 : decode cX5_why 14 = .ok (.iconst 0, 1) := by decide +kernel
theorem dX5_why_15 : decode cX5_why 15 = .ok (.iload_n 1, 1) := by decide +kernel
theorem dX5_why_16 : decode cX5_why 16 = .ok (.iconst 0, 1) := by decide +kernel
theorem dX5_why_17 : decode cX5_why 17 = .ok (.invokevirtual 70, 3) := by decide +kernel
theorem dX5_why_20 : decode cX5_why 20 = .ok (.goto 4, 3) := by decide +kernel
theorem dX5_why_23 : decode cX5_why 23 = .ok (.iconst 0, 1) := by decide +kernel
theorem dX5_why_24 : decode cX5_why 24 = .ok (.ireturn, 1) := by decide +kernel
set_option maxRecDepth 20000 in
theorem ggX5_tells_X5_shares : GoodIn wsX5_tells wsX5_shares := goodIn_r _ [6, 1, 27, 28, 29, 30, 31, 32, 33, 34, 35, 36] (by decide +kernel) (by decide +kernel)
set_option maxRecDepth 20000 in
theorem gX5_tells_X5_shares : GoodIn wsX5_tells (wsV RX5 144 RX5 yX5_shares wsX5_shares) := goodIn_app (goodIn_of _ (by decide +kernel)) ggX5_tells_X5_shares
set_option maxRecDepth 20000 in
theorem ggX5_tells_X5_bits : GoodIn wsX5_tells wsX5_bits := goodIn_r _ [9] (by decide +kernel) (by decide +kernel)
set_option maxRecDepth 20000 in
theorem gX5_tells_X5_bits : GoodIn wsX5_tells (va_wsS RX5 47 yX5_bits wsX5_bits) := goodIn_app (goodIn_of _ (by decide +kernel)) ggX5_tells_X5_bits
set_option maxRecDepth 20000 in
theorem ggX5_tells_X5_keyBy : GoodIn wsX5_tells wsX5_keyBy := goodIn_r _ [13, 1, 14, 15, 5, 16, 17, 18, 19, 7, 8, 9, 20, 21, 22, 23, 24, 25, 26, 27, 28, 29, 30, 31, 32, 33, 34, 35, 36] (by decide +kernel) (by decide +kernel)
set_option maxRecDepth 20000 in
theorem gX5_tells_X5_keyBy : GoodIn wsX5_tells (wsV RX5 67 RX5 yX5_keyBy wsX5_keyBy) := goodIn_app (goodIn_of _ (by decide +kernel)) ggX5_tells_X5_keyBy
theorem dX5_tells_0 : decode cX5_tells 0 = .ok (.aload_n 0, 1) := by decide +kernel
theorem dX5_tells_1 : decode cX5_tells 1 = .ok (.getfield 7, 3) := by decide +kernel
theorem dX5_tells_4 : decode cX5_tells 4 = .ok (.bipush 27, 2) := by decide +kernel
theorem dX5_tells_6 : decode cX5_tells 6 = .ok (.iaload, 1) := by decide +kernel
theorem dX5_tells_7 : decode cX5_tells 7 = .ok (.ifCond .le 33, 3) := by decide +kernel
theorem dX5_tells_10 : decode cX5_tells 10 = .ok (.iload_n 1, 1) := by decide +kernel
theorem dX5_tells_11 : decode cX5_tells 11 = .ok (.aload_n 0, 1) := by decide +kernel
theorem dX5_tells_12 : decode cX5_tells 12 = .ok (.iconst 0, 1) := by decide +kernel
theorem dX5_tells_13 : decode cX5_tells 13 = .ok (.invokevirtual 144, 3) := by decide +kernel
theorem dX5_tells_16 : decode cX5_tells 16 = .ok (.iconst (-1), 1) := by decide +kernel
theorem dX5_tells_17 : decode cX5_tells 17 = .ok (.ixor, 1) := by decide +kernel
theorem dX5_tells_18 : decode cX5_tells 18 = .ok (.iand, 1) := by decide +kernel
theorem dX5_tells_19 : decode cX5_tells 19 = .ok (.ifCond .ne 21, 3) := by decide +kernel
theorem dX5_tells_22 : decode cX5_tells 22 = .ok (.iload_n 1, 1) := by decide +kernel
theorem dX5_tells_23 : decode cX5_tells 23 = .ok (.invokestatic 47, 3) := by decide +kernel
theorem dX5_tells_26 : decode cX5_tells 26 = .ok (.aload_n 0, 1) := by decide +kernel
theorem dX5_tells_27 : decode cX5_tells 27 = .ok (.getfield 7, 3) := by decide +kernel
theorem dX5_tells_30 : decode cX5_tells 30 = .ok (.bipush 29, 2) := by decide +kernel
theorem dX5_tells_32 : decode cX5_tells 32 = .ok (.iaload, 1) := by decide +kernel
theorem dX5_tells_33 : decode cX5_tells 33 = .ok (.if_icmp .lt 7, 3) := by decide +kernel
theorem dX5_tells_36 : decode cX5_tells 36 = .ok (.iconst 1, 1) := by decide +kernel
theorem dX5_tells_37 : decode cX5_tells 37 = .ok (.goto 4, 3) := by decide +kernel
theorem dX5_tells_40 : decode cX5_tells 40 = .ok (.iconst 0, 1) := by decide +kernel
theorem dX5_tells_41 : decode cX5_tells 41 = .ok (.istore_n 2, 1) := by decide +kernel
theorem dX5_tells_42 : decode cX5_tells 42 = .ok (.iload_n 2, 1) := by decide +kernel
theorem dX5_tells_43 : decode cX5_tells 43 = .ok (.ifCond .eq 12, 3) := by decide +kernel
theorem dX5_tells_46 : decode cX5_tells 46 = .ok (.aload_n 0, 1) := by decide +kernel
theorem dX5_tells_47 : decode cX5_tells 47 = .ok (.iconst 0, 1) := by decide +kernel
theorem dX5_tells_48 : decode cX5_tells 48 = .ok (.iload_n 1, 1) := by decide +kernel
theorem dX5_tells_49 : decode cX5_tells 49 = .ok (.invokevirtual 67, 3) := by decide +kernel
theorem dX5_tells_52 : decode cX5_tells 52 = .ok (.goto 4, 3) := by decide +kernel
theorem dX5_tells_55 : decode cX5_tells 55 = .ok (.iconst (-1), 1) := by decide +kernel
theorem dX5_tells_56 : decode cX5_tells 56 = .ok (.ireturn, 1) := by decide +kernel
set_option maxRecDepth 20000 in
theorem ggX5_told_X5_in : GoodIn wsX5_told wsX5_in := goodIn_r _ [4] (by decide +kernel) (by decide +kernel)
set_option maxRecDepth 20000 in
theorem gX5_told_X5_in : GoodIn wsX5_told (va_wsS RX5 34 yX5_in wsX5_in) := goodIn_app (goodIn_of _ (by decide +kernel)) ggX5_told_X5_in
set_option maxRecDepth 20000 in
theorem ggX5_told_X5_goes : GoodIn wsX5_told wsX5_goes := goodIn_r _ [8, 9, 39, 40, 41, 42, 43, 44, 45, 46, 47, 48] (by decide +kernel) (by decide +kernel)
set_option maxRecDepth 20000 in
theorem gX5_told_X5_goes : GoodIn wsX5_told (wsV RX5 74 RX5 yX5_goes wsX5_goes) := goodIn_app (goodIn_of _ (by decide +kernel)) ggX5_told_X5_goes
set_option maxRecDepth 20000 in
theorem ggX5_told_X5_tells : GoodIn wsX5_told wsX5_tells := goodIn_r _ [13, 14, 15, 16, 17, 3, 18, 19, 20, 21, 22, 23, 24, 25, 26, 27, 28, 29, 30, 31, 32, 33, 34, 35, 36, 37, 38, 39, 40, 41, 42, 43, 44, 45, 46, 47, 48] (by decide +kernel) (by decide +kernel)
set_option maxRecDepth 20000 in
theorem gX5_told_X5_tells : GoodIn wsX5_told (wsV RX5 150 RX5 yX5_tells wsX5_tells) := goodIn_app (goodIn_of _ (by decide +kernel)) ggX5_told_X5_tells
theorem dX5_told_0 : decode cX5_told 0 = .ok (.aload_n 0, 1) := by decide +kernel
theorem dX5_told_1 : decode cX5_told 1 = .ok (.iload_n 1, 1) := by decide +kernel
theorem dX5_told_2 : decode cX5_told 2 = .ok (.iconst 0, 1) := by decide +kernel
theorem dX5_told_3 : decode cX5_told 3 = .ok (.sipush 255, 3) := by decide +kernel
theorem dX5_told_6 : decode cX5_told 6 = .ok (.invokestatic 34, 3) := by decide +kernel
theorem dX5_told_9 : decode cX5_told 9 = .ok (.iconst 1, 1) := by decide +kernel
theorem dX5_told_10 : decode cX5_told 10 = .ok (.invokevirtual 74, 3) := by decide +kernel
theorem dX5_told_13 : decode cX5_told 13 = .ok (.ifCond .eq 11, 3) := by decide +kernel
theorem dX5_told_16 : decode cX5_told 16 = .ok (.aload_n 0, 1) := by decide +kernel
theorem dX5_told_17 : decode cX5_told 17 = .ok (.iload_n 1, 1) := by decide +kernel
theorem dX5_told_18 : decode cX5_told 18 = .ok (.invokevirtual 150, 3) := by decide +kernel
theorem dX5_told_21 : decode cX5_told 21 = .ok (.goto 4, 3) := by decide +kernel
theorem dX5_told_24 : decode cX5_told 24 = .ok (.iconst 0, 1) := by decide +kernel
theorem dX5_told_25 : decode cX5_told 25 = .ok (.ireturn, 1) := by decide +kernel
set_option maxRecDepth 20000 in
theorem ggX5_keys_X5_shares : GoodIn wsX5_keys wsX5_shares := goodIn_r _ [6, 1, 23, 24, 25, 26, 27, 28, 29, 30, 31, 32] (by decide +kernel) (by decide +kernel)
set_option maxRecDepth 20000 in
theorem gX5_keys_X5_shares : GoodIn wsX5_keys (wsV RX5 144 RX5 yX5_shares wsX5_shares) := goodIn_app (goodIn_of _ (by decide +kernel)) ggX5_keys_X5_shares
set_option maxRecDepth 20000 in
theorem ggX5_keys_X5_bits : GoodIn wsX5_keys wsX5_bits := goodIn_r _ [9] (by decide +kernel) (by decide +kernel)
set_option maxRecDepth 20000 in
theorem gX5_keys_X5_bits : GoodIn wsX5_keys (va_wsS RX5 47 yX5_bits wsX5_bits) := goodIn_app (goodIn_of _ (by decide +kernel)) ggX5_keys_X5_bits
set_option maxRecDepth 20000 in
theorem ggX5_keys_X5_lowest : GoodIn wsX5_keys wsX5_lowest := goodIn_r _ [12, 13, 14, 5, 15, 7, 8, 9] (by decide +kernel) (by decide +kernel)
set_option maxRecDepth 20000 in
theorem gX5_keys_X5_lowest : GoodIn wsX5_keys (va_wsS RX5 53 yX5_lowest wsX5_lowest) := goodIn_app (goodIn_of _ (by decide +kernel)) ggX5_keys_X5_lowest
set_option maxRecDepth 20000 in
theorem ggX5_keys_X5_has : GoodIn wsX5_keys wsX5_has := goodIn_r _ [15] (by decide +kernel) (by decide +kernel)
set_option maxRecDepth 20000 in
theorem gX5_keys_X5_has : GoodIn wsX5_keys (va_wsS RX5 43 yX5_has wsX5_has) := goodIn_app (goodIn_of _ (by decide +kernel)) ggX5_keys_X5_has
set_option maxRecDepth 20000 in
theorem ggX5_keys_X5_valueAt : GoodIn wsX5_keys wsX5_valueAt := goodIn_r _ [19, 1, 13, 14, 5, 15, 20, 21, 22, 23, 24, 25, 26, 27, 28, 29, 30, 31, 32] (by decide +kernel) (by decide +kernel)
set_option maxRecDepth 20000 in
theorem gX5_keys_X5_valueAt : GoodIn wsX5_keys (wsV RX5 57 RX5 yX5_valueAt wsX5_valueAt) := goodIn_app (goodIn_of _ (by decide +kernel)) ggX5_keys_X5_valueAt
theorem dX5_keys_0 : decode cX5_keys 0 = .ok (.aload_n 0, 1) := by decide +kernel
theorem dX5_keys_1 : decode cX5_keys 1 = .ok (.getfield 7, 3) := by decide +kernel
theorem dX5_keys_4 : decode cX5_keys 4 = .ok (.bipush 27, 2) := by decide +kernel
theorem dX5_keys_6 : decode cX5_keys 6 = .ok (.iaload, 1) := by decide +kernel
theorem dX5_keys_7 : decode cX5_keys 7 = .ok (.ifCond .eq 15, 3) := by decide +kernel
theorem dX5_keys_10 : decode cX5_keys 10 = .ok (.iload_n 1, 1) := by decide +kernel
theorem dX5_keys_11 : decode cX5_keys 11 = .ok (.aload_n 0, 1) := by decide +kernel
theorem dX5_keys_12 : decode cX5_keys 12 = .ok (.iconst 0, 1) := by decide +kernel
theorem dX5_keys_13 : decode cX5_keys 13 = .ok (.invokevirtual 144, 3) := by decide +kernel
theorem dX5_keys_16 : decode cX5_keys 16 = .ok (.iconst (-1), 1) := by decide +kernel
theorem dX5_keys_17 : decode cX5_keys 17 = .ok (.ixor, 1) := by decide +kernel
theorem dX5_keys_18 : decode cX5_keys 18 = .ok (.iand, 1) := by decide +kernel
theorem dX5_keys_19 : decode cX5_keys 19 = .ok (.ifCond .eq 5, 3) := by decide +kernel
theorem dX5_keys_22 : decode cX5_keys 22 = .ok (.iconst (-1), 1) := by decide +kernel
theorem dX5_keys_23 : decode cX5_keys 23 = .ok (.ireturn, 1) := by decide +kernel
theorem dX5_keys_24 : decode cX5_keys 24 = .ok (.iload_n 1, 1) := by decide +kernel
theorem dX5_keys_25 : decode cX5_keys 25 = .ok (.invokestatic 47, 3) := by decide +kernel
theorem dX5_keys_28 : decode cX5_keys 28 = .ok (.aload_n 0, 1) := by decide +kernel
theorem dX5_keys_29 : decode cX5_keys 29 = .ok (.getfield 7, 3) := by decide +kernel
theorem dX5_keys_32 : decode cX5_keys 32 = .ok (.bipush 29, 2) := by decide +kernel
theorem dX5_keys_34 : decode cX5_keys 34 = .ok (.iaload, 1) := by decide +kernel
theorem dX5_keys_35 : decode cX5_keys 35 = .ok (.if_icmp .ge 7, 3) := by decide +kernel
theorem dX5_keys_38 : decode cX5_keys 38 = .ok (.sipush 251, 3) := by decide +kernel
theorem dX5_keys_41 : decode cX5_keys 41 = .ok (.ireturn, 1) := by decide +kernel
theorem dX5_keys_42 : decode cX5_keys 42 = .ok (.iload_n 1, 1) := by decide +kernel
theorem dX5_keys_43 : decode cX5_keys 43 = .ok (.aload_n 0, 1) := by decide +kernel
theorem dX5_keys_44 : decode cX5_keys 44 = .ok (.getfield 7, 3) := by decide +kernel
theorem dX5_keys_47 : decode cX5_keys 47 = .ok (.bipush 29, 2) := by decide +kernel
theorem dX5_keys_49 : decode cX5_keys 49 = .ok (.iaload, 1) := by decide +kernel
theorem dX5_keys_50 : decode cX5_keys 50 = .ok (.invokestatic 53, 3) := by decide +kernel
theorem dX5_keys_53 : decode cX5_keys 53 = .ok (.istore_n 2, 1) := by decide +kernel
theorem dX5_keys_54 : decode cX5_keys 54 = .ok (.iconst 1, 1) := by decide +kernel
theorem dX5_keys_55 : decode cX5_keys 55 = .ok (.istore_n 3, 1) := by decide +kernel
theorem dX5_keys_56 : decode cX5_keys 56 = .ok (.iconst 0, 1) := by decide +kernel
theorem dX5_keys_57 : decode cX5_keys 57 = .ok (.istore 4, 2) := by decide +kernel
theorem dX5_keys_59 : decode cX5_keys 59 = .ok (.iload 4, 2) := by decide +kernel
theorem dX5_keys_61 : decode cX5_keys 61 = .ok (.bipush 8, 2) := by decide +kernel
theorem dX5_keys_63 : decode cX5_keys 63 = .ok (.if_icmp .ge 51, 3) := by decide +kernel
theorem dX5_keys_66 : decode cX5_keys 66 = .ok (.iload_n 3, 1) := by decide +kernel
theorem dX5_keys_67 : decode cX5_keys 67 = .ok (.ifCond .eq 39, 3) := by decide +kernel
theorem dX5_keys_70 : decode cX5_keys 70 = .ok (.iload_n 1, 1) := by decide +kernel
theorem dX5_keys_71 : decode cX5_keys 71 = .ok (.iload 4, 2) := by decide +kernel
theorem dX5_keys_73 : decode cX5_keys 73 = .ok (.invokestatic 43, 3) := by decide +kernel
theorem dX5_keys_76 : decode cX5_keys 76 = .ok (.ifCond .eq 26, 3) := by decide +kernel
theorem dX5_keys_79 : decode cX5_keys 79 = .ok (.aload_n 0, 1) := by decide +kernel
theorem dX5_keys_80 : decode cX5_keys 80 = .ok (.iconst 0, 1) := by decide +kernel
theorem dX5_keys_81 : decode cX5_keys 81 = .ok (.iload_n 2, 1) := by decide +kernel
theorem dX5_keys_82 : decode cX5_keys 82 = .ok (.iload 4, 2) := by decide +kernel
theorem dX5_keys_84 : decode cX5_keys 84 = .ok (.iconst 1, 1) := by decide +kernel
theorem dX5_keys_85 : decode cX5_keys 85 = .ok (.iadd, 1) := by decide +kernel
theorem dX5_keys_86 : decode cX5_keys 86 = .ok (.invokevirtual 57, 3) := by decide +kernel
theorem dX5_keys_89 : decode cX5_keys 89 = .ok (.aload_n 0, 1) := by decide +kernel
theorem dX5_keys_90 : decode cX5_keys 90 = .ok (.getfield 7, 3) := by decide +kernel
theorem dX5_keys_93 : decode cX5_keys 93 = .ok (.bipush 32, 2) := by decide +kernel
theorem dX5_keys_95 : decode cX5_keys 95 = .ok (.iload 4, 2) := by decide +kernel
theorem dX5_keys_97 : decode cX5_keys 97 = .ok (.iadd, 1) := by decide +kernel
theorem dX5_keys_98 : decode cX5_keys 98 = .ok (.iaload, 1) := by decide +kernel
theorem dX5_keys_99 : decode cX5_keys 99 = .ok (.if_icmp .ne 7, 3) := by decide +kernel
theorem dX5_keys_102 : decode cX5_keys 102 = .ok (.iconst 1, 1) := by decide +kernel
theorem dX5_keys_103 : decode cX5_keys 103 = .ok (.goto 4, 3) := by decide +kernel
theorem dX5_keys_106 : decode cX5_keys 106 = .ok (.iconst 0, 1) := by decide +kernel
theorem dX5_keys_107 : decode cX5_keys 107 = .ok (.istore_n 3, 1) := by decide +kernel
theorem dX5_keys_108 : decode cX5_keys 108 = .ok (.iinc 4 1, 3) := by decide +kernel
theorem dX5_keys_111 : decode cX5_keys 111 = .ok (.goto (-52), 3) := by decide +kernel
theorem dX5_keys_114 : decode cX5_keys 114 = .ok (.iload_n 3, 1) := by decide +kernel
theorem dX5_keys_115 : decode cX5_keys 115 = .ok (.ifCond .eq 7, 3) := by decide +kernel
theorem dX5_keys_118 : decode cX5_keys 118 = .ok (.iconst 1, 1) := by decide +kernel
theorem dX5_keys_119 : decode cX5_keys 119 = .ok (.goto 4, 3) := by decide +kernel
theorem dX5_keys_122 : decode cX5_keys 122 = .ok (.iconst 0, 1) := by decide +kernel
theorem dX5_keys_123 : decode cX5_keys 123 = .ok (.ireturn, 1) := by decide +kernel
set_option maxRecDepth 20000 in
theorem ggX5_possible_X5_in : GoodIn wsX5_possible wsX5_in := goodIn_r _ [4] (by decide +kernel) (by decide +kernel)
set_option maxRecDepth 20000 in
theorem gX5_possible_X5_in : GoodIn wsX5_possible (va_wsS RX5 34 yX5_in wsX5_in) := goodIn_app (goodIn_of _ (by decide +kernel)) ggX5_possible_X5_in
set_option maxRecDepth 20000 in
theorem ggX5_possible_X5_goes : GoodIn wsX5_possible wsX5_goes := goodIn_r _ [8, 9, 35, 36, 37, 38, 39, 40, 41, 42, 43, 44] (by decide +kernel) (by decide +kernel)
set_option maxRecDepth 20000 in
theorem gX5_possible_X5_goes : GoodIn wsX5_possible (wsV RX5 74 RX5 yX5_goes wsX5_goes) := goodIn_app (goodIn_of _ (by decide +kernel)) ggX5_possible_X5_goes
set_option maxRecDepth 20000 in
theorem ggX5_possible_X5_keys : GoodIn wsX5_possible wsX5_keys := goodIn_r _ [13, 14, 15, 16, 17, 3, 18, 19, 20, 21, 22, 23, 24, 25, 26, 27, 28, 29, 30, 31, 32, 33, 34, 35, 36, 37, 38, 39, 40, 41, 42, 43, 44] (by decide +kernel) (by decide +kernel)
set_option maxRecDepth 20000 in
theorem gX5_possible_X5_keys : GoodIn wsX5_possible (wsV RX5 153 RX5 yX5_keys wsX5_keys) := goodIn_app (goodIn_of _ (by decide +kernel)) ggX5_possible_X5_keys
theorem dX5_possible_0 : decode cX5_possible 0 = .ok (.aload_n 0, 1) := by decide +kernel
theorem dX5_possible_1 : decode cX5_possible 1 = .ok (.iload_n 1, 1) := by decide +kernel
theorem dX5_possible_2 : decode cX5_possible 2 = .ok (.iconst 0, 1) := by decide +kernel
theorem dX5_possible_3 : decode cX5_possible 3 = .ok (.sipush 255, 3) := by decide +kernel
theorem dX5_possible_6 : decode cX5_possible 6 = .ok (.invokestatic 34, 3) := by decide +kernel
theorem dX5_possible_9 : decode cX5_possible 9 = .ok (.iconst 1, 1) := by decide +kernel
theorem dX5_possible_10 : decode cX5_possible 10 = .ok (.invokevirtual 74, 3) := by decide +kernel
theorem dX5_possible_13 : decode cX5_possible 13 = .ok (.ifCond .eq 11, 3) := by decide +kernel
theorem dX5_possible_16 : decode cX5_possible 16 = .ok (.aload_n 0, 1) := by decide +kernel
theorem dX5_possible_17 : decode cX5_possible 17 = .ok (.iload_n 1, 1) := by decide +kernel
theorem dX5_possible_18 : decode cX5_possible 18 = .ok (.invokevirtual 153, 3) := by decide +kernel
theorem dX5_possible_21 : decode cX5_possible 21 = .ok (.goto 4, 3) := by decide +kernel
theorem dX5_possible_24 : decode cX5_possible 24 = .ok (.iconst 0, 1) := by decide +kernel
theorem dX5_possible_25 : decode cX5_possible 25 = .ok (.ireturn, 1) := by decide +kernel
set_option maxRecDepth 20000 in
theorem ggX5_least_X5_reason : GoodIn wsX5_least wsX5_reason := goodIn_r _ [5, 6, 7, 8, 9, 4, 10, 11, 12, 13, 14, 15, 16, 17, 18, 19, 20, 21, 22, 23, 24, 25, 26, 27, 28, 29, 30, 31, 32, 33, 34, 35, 36, 37, 38, 39, 40, 41, 42, 43, 44] (by decide +kernel) (by decide +kernel)
set_option maxRecDepth 20000 in
theorem gX5_least_X5_reason : GoodIn wsX5_least (wsV RX5 70 RX5 yX5_reason wsX5_reason) := goodIn_app (goodIn_of _ (by decide +kernel)) ggX5_least_X5_reason
set_option maxRecDepth 20000 in
theorem ggX5_least_X5_bits : GoodIn wsX5_least wsX5_bits := goodIn_r _ [20] (by decide +kernel) (by decide +kernel)
set_option maxRecDepth 20000 in
theorem gX5_least_X5_bits : GoodIn wsX5_least (va_wsS RX5 47 yX5_bits wsX5_bits) := goodIn_app (goodIn_of _ (by decide +kernel)) ggX5_least_X5_bits
theorem dX5_least_0 : decode cX5_least 0 = .ok (.iconst (-1), 1) := by decide +kernel
theorem dX5_least_1 : decode cX5_least 1 = .ok (.istore_n 2, 1) := by decide +kernel
theorem dX5_least_2 : decode cX5_least 2 = .ok (.sipush 255, 3) := by decide +kernel
theorem dX5_least_5 : decode cX5_least 5 = .ok (.istore_n 3, 1) := by decide +kernel
theorem dX5_least_6 : decode cX5_least 6 = .ok (.iload_n 3, 1) := by decide +kernel
theorem dX5_least_7 : decode cX5_least 7 = .ok (.ifCond .le 52, 3) := by decide +kernel
theorem dX5_least_10 : decode cX5_least 10 = .ok (.aload_n 0, 1) := by decide +kernel
theorem dX5_least_11 : decode cX5_least 11 = .ok (.iconst 0, 1) := by decide +kernel
theorem dX5_least_12 : decode cX5_least 12 = .ok (.iload_n 3, 1) := by decide +kernel
theorem dX5_least_13 : decode cX5_least 13 = .ok (.iconst 1, 1) := by decide +kernel
theorem dX5_least_14 : decode cX5_least 14 = .ok (.invokevirtual 70, 3) := by decide +kernel
theorem dX5_least_17 : decode cX5_least 17 = .ok (.ifCond .ne 22, 3) := by decide +kernel
theorem dX5_least_20 : decode cX5_least 20 = .ok (.iload_n 2, 1) := by decide +kernel
theorem dX5_least_21 : decode cX5_least 21 = .ok (.ifCond .lt 14, 3) := by decide +kernel
theorem dX5_least_24 : decode cX5_least 24 = .ok (.iload_n 3, 1) := by decide +kernel
theorem dX5_least_25 : decode cX5_least 25 = .ok (.invokestatic 47, 3) := by decide +kernel
theorem dX5_least_28 : decode cX5_least 28 = .ok (.iload_n 2, 1) := by decide +kernel
theorem dX5_least_29 : decode cX5_least 29 = .ok (.invokestatic 47, 3) := by decide +kernel
theorem dX5_least_32 : decode cX5_least 32 = .ok (.if_icmp .gt 7, 3) := by decide +kernel
theorem dX5_least_35 : decode cX5_least 35 = .ok (.iconst 1, 1) := by decide +kernel
theorem dX5_least_36 : decode cX5_least 36 = .ok (.goto 4, 3) := by decide +kernel
theorem dX5_least_39 : decode cX5_least 39 = .ok (.iconst 0, 1) := by decide +kernel
theorem dX5_least_40 : decode cX5_least 40 = .ok (.istore 4, 2) := by decide +kernel
theorem dX5_least_42 : decode cX5_least 42 = .ok (.iload 4, 2) := by decide +kernel
theorem dX5_least_44 : decode cX5_least 44 = .ok (.ifCond .eq 7, 3) := by decide +kernel
theorem dX5_least_47 : decode cX5_least 47 = .ok (.iload_n 3, 1) := by decide +kernel
theorem dX5_least_48 : decode cX5_least 48 = .ok (.goto 4, 3) := by decide +kernel
theorem dX5_least_51 : decode cX5_least 51 = .ok (.iload_n 2, 1) := by decide +kernel
theorem dX5_least_52 : decode cX5_least 52 = .ok (.istore_n 2, 1) := by decide +kernel
theorem dX5_least_53 : decode cX5_least 53 = .ok (.iinc 3 (-1), 3) := by decide +kernel
theorem dX5_least_56 : decode cX5_least 56 = .ok (.goto (-50), 3) := by decide +kernel
theorem dX5_least_59 : decode cX5_least 59 = .ok (.iload_n 2, 1) := by decide +kernel
theorem dX5_least_60 : decode cX5_least 60 = .ok (.ifCond .ge 7, 3) := by decide +kernel
theorem dX5_least_63 : decode cX5_least 63 = .ok (.iconst (-1), 1) := by decide +kernel
theorem dX5_least_64 : decode cX5_least 64 = .ok (.goto 15, 3) := by decide +kernel
theorem dX5_least_67 : decode cX5_least 67 = .ok (.iload_n 1, 1) := by decide +kernel
theorem dX5_least_68 : decode cX5_least 68 = .ok (.ifCond .ne 10, 3) := by decide +kernel
theorem dX5_least_71 : decode cX5_least 71 = .ok (.iload_n 2, 1) := by decide +kernel
theorem dX5_least_72 : decode cX5_least 72 = .ok (.invokestatic 47, 3) := by decide +kernel
theorem dX5_least_75 : decode cX5_least 75 = .ok (.goto 4, 3) := by decide +kernel
theorem dX5_least_78 : decode cX5_least 78 = .ok (.iload_n 2, 1) := by decide +kernel
theorem dX5_least_79 : decode cX5_least 79 = .ok (.ireturn, 1) := by decide +kernel
set_option maxRecDepth 20000 in
theorem ggX5_smallest_X5_in : GoodIn wsX5_smallest wsX5_in := goodIn_r _ [4] (by decide +kernel) (by decide +kernel)
set_option maxRecDepth 20000 in
theorem gX5_smallest_X5_in : GoodIn wsX5_smallest (va_wsS RX5 34 yX5_in wsX5_in) := goodIn_app (goodIn_of _ (by decide +kernel)) ggX5_smallest_X5_in
set_option maxRecDepth 20000 in
theorem ggX5_smallest_X5_goes : GoodIn wsX5_smallest wsX5_goes := goodIn_r _ [8, 9, 47, 48, 49, 50, 51, 52, 53, 54, 55, 56] (by decide +kernel) (by decide +kernel)
set_option maxRecDepth 20000 in
theorem gX5_smallest_X5_goes : GoodIn wsX5_smallest (wsV RX5 74 RX5 yX5_goes wsX5_goes) := goodIn_app (goodIn_of _ (by decide +kernel)) ggX5_smallest_X5_goes
set_option maxRecDepth 20000 in
theorem ggX5_smallest_X5_least : GoodIn wsX5_smallest wsX5_least := goodIn_r _ [13, 14, 15, 16, 3, 17, 18, 19, 20, 21, 22, 23, 24, 25, 26, 27, 28, 29, 30, 31, 32, 33, 34, 35, 36, 37, 38, 39, 40, 41, 42, 43, 44, 45, 46, 47, 48, 49, 50, 51, 52, 53, 54, 55, 56] (by decide +kernel) (by decide +kernel)
set_option maxRecDepth 20000 in
theorem gX5_smallest_X5_least : GoodIn wsX5_smallest (wsV RX5 156 RX5 yX5_least wsX5_least) := goodIn_app (goodIn_of _ (by decide +kernel)) ggX5_smallest_X5_least
theorem dX5_smallest_0 : decode cX5_smallest 0 = .ok (.aload_n 0, 1) := by decide +kernel
theorem dX5_smallest_1 : decode cX5_smallest 1 = .ok (.iload_n 1, 1) := by decide +kernel
theorem dX5_smallest_2 : decode cX5_smallest 2 = .ok (.iconst 0, 1) := by decide +kernel
theorem dX5_smallest_3 : decode cX5_smallest 3 = .ok (.iconst 1, 1) := by decide +kernel
theorem dX5_smallest_4 : decode cX5_smallest 4 = .ok (.invokestatic 34, 3) := by decide +kernel
theorem dX5_smallest_7 : decode cX5_smallest 7 = .ok (.iconst 1, 1) := by decide +kernel
theorem dX5_smallest_8 : decode cX5_smallest 8 = .ok (.invokevirtual 74, 3) := by decide +kernel
theorem dX5_smallest_11 : decode cX5_smallest 11 = .ok (.ifCond .eq 11, 3) := by decide +kernel
theorem dX5_smallest_14 : decode cX5_smallest 14 = .ok (.aload_n 0, 1) := by decide +kernel
theorem dX5_smallest_15 : decode cX5_smallest 15 = .ok (.iload_n 1, 1) := by decide +kernel
theorem dX5_smallest_16 : decode cX5_smallest 16 = .ok (.invokevirtual 156, 3) := by decide +kernel
theorem dX5_smallest_19 : decode cX5_smallest 19 = .ok (.goto 4, 3) := by decide +kernel
theorem dX5_smallest_22 : decode cX5_smallest 22 = .ok (.iconst 0, 1) := by decide +kernel
theorem dX5_smallest_23 : decode cX5_smallest 23 = .ok (.ireturn, 1) := by decide +kernel
set_option maxRecDepth 20000 in
theorem ggX5_groups_X5_groupsOf : GoodIn wsX5_groups wsX5_groupsOf := goodIn_r _ [6, 7, 8, 9, 5, 10, 11, 12, 13, 14, 15, 16, 17, 18, 19, 20, 21, 22, 23, 24, 25, 26, 27, 28, 29, 30, 31, 32, 33, 34, 35, 36, 37, 38, 39, 40, 41, 42, 43, 44, 45, 46, 47, 48, 49] (by decide +kernel) (by decide +kernel)
set_option maxRecDepth 20000 in
theorem gX5_groups_X5_groupsOf : GoodIn wsX5_groups (wsV RX5 159 RX5 yX5_groupsOf wsX5_groupsOf) := goodIn_app (goodIn_of _ (by decide +kernel)) ggX5_groups_X5_groupsOf
theorem dX5_groups_0 : decode cX5_groups 0 = .ok (.aload_n 0, 1) := by decide +kernel
theorem dX5_groups_1 : decode cX5_groups 1 = .ok (.iconst 0, 1) := by decide +kernel
theorem dX5_groups_2 : decode cX5_groups 2 = .ok (.putfield 23, 3) := by decide +kernel
theorem dX5_groups_5 : decode cX5_groups 5 = .ok (.aload_n 0, 1) := by decide +kernel
theorem dX5_groups_6 : decode cX5_groups 6 = .ok (.iconst 0, 1) := by decide +kernel
theorem dX5_groups_7 : decode cX5_groups 7 = .ok (.invokevirtual 159, 3) := by decide +kernel
theorem dX5_groups_10 : decode cX5_groups 10 = .ok (.ireturn, 1) := by decide +kernel
set_option maxRecDepth 20000 in
theorem ggX5_needs_X5_groupsOf : GoodIn wsX5_needs wsX5_groupsOf := goodIn_r _ [6, 7, 8, 9, 5, 10, 1, 11, 12, 13, 14, 15, 16, 17, 18, 19, 20, 21, 22, 23, 24, 25, 26, 27, 28, 29, 30, 31, 32, 33, 34, 35, 36, 37, 38, 47, 48, 49, 50, 51, 52, 53, 54, 55, 56] (by decide +kernel) (by decide +kernel)
set_option maxRecDepth 20000 in
theorem gX5_needs_X5_groupsOf : GoodIn wsX5_needs (wsV RX5 159 RX5 yX5_groupsOf wsX5_groupsOf) := goodIn_app (goodIn_of _ (by decide +kernel)) ggX5_needs_X5_groupsOf
set_option maxRecDepth 20000 in
theorem ggX5_needs_X5_has : GoodIn wsX5_needs wsX5_has := goodIn_r _ [17] (by decide +kernel) (by decide +kernel)
set_option maxRecDepth 20000 in
theorem gX5_needs_X5_has : GoodIn wsX5_needs (va_wsS RX5 43 yX5_has wsX5_has) := goodIn_app (goodIn_of _ (by decide +kernel)) ggX5_needs_X5_has
set_option maxRecDepth 20000 in
theorem ggX5_needs_X5_copies : GoodIn wsX5_needs wsX5_copies := goodIn_r _ [42, 1, 47, 48, 49, 50, 51, 52, 53, 54, 55, 56] (by decide +kernel) (by decide +kernel)
set_option maxRecDepth 20000 in
theorem gX5_needs_X5_copies : GoodIn wsX5_needs (wsV RX5 30 RX5 yX5_copies wsX5_copies) := goodIn_app (goodIn_of _ (by decide +kernel)) ggX5_needs_X5_copies
set_option maxRecDepth 20000 in
theorem ggX5_needs_X5_dies : GoodIn wsX5_needs wsX5_dies := goodIn_r _ [46, 1, 15, 16, 5, 17, 47, 48, 49, 50, 51, 52, 53, 54, 55, 56] (by decide +kernel) (by decide +kernel)
set_option maxRecDepth 20000 in
theorem gX5_needs_X5_dies : GoodIn wsX5_needs (wsV RX5 85 RX5 yX5_dies wsX5_dies) := goodIn_app (goodIn_of _ (by decide +kernel)) ggX5_needs_X5_dies
theorem dX5_needs_0 : decode cX5_needs 0 = .ok (.iconst 0, 1) := by decide +kernel
theorem dX5_needs_1 : decode cX5_needs 1 = .ok (.istore_n 1, 1) := by decide +kernel
theorem dX5_needs_2 : decode cX5_needs 2 = .ok (.aload_n 0, 1) := by decide +kernel
theorem dX5_needs_3 : decode cX5_needs 3 = .ok (.iconst 0, 1) := by decide +kernel
theorem dX5_needs_4 : decode cX5_needs 4 = .ok (.invokevirtual 159, 3) := by decide +kernel
theorem dX5_needs_7 : decode cX5_needs 7 = .ok (.ifCond .le 70, 3) := by decide +kernel
theorem dX5_needs_10 : decode cX5_needs 10 = .ok (.iconst 0, 1) := by decide +kernel
theorem dX5_needs_11 : decode cX5_needs 11 = .ok (.istore_n 2, 1) := by decide +kernel
theorem dX5_needs_12 : decode cX5_needs 12 = .ok (.iload_n 2, 1) := by decide +kernel
theorem dX5_needs_13 : decode cX5_needs 13 = .ok (.aload_n 0, 1) := by decide +kernel
theorem dX5_needs_14 : decode cX5_needs 14 = .ok (.getfield 7, 3) := by decide +kernel
theorem dX5_needs_17 : decode cX5_needs 17 = .ok (.iconst 1, 1) := by decide +kernel
theorem dX5_needs_18 : decode cX5_needs 18 = .ok (.iaload, 1) := by decide +kernel
theorem dX5_needs_19 : decode cX5_needs 19 = .ok (.if_icmp .ge 58, 3) := by decide +kernel
theorem dX5_needs_22 : decode cX5_needs 22 = .ok (.aload_n 0, 1) := by decide +kernel
theorem dX5_needs_23 : decode cX5_needs 23 = .ok (.getfield 7, 3) := by decide +kernel
theorem dX5_needs_26 : decode cX5_needs 26 = .ok (.iconst 2, 1) := by decide +kernel
theorem dX5_needs_27 : decode cX5_needs 27 = .ok (.iaload, 1) := by decide +kernel
theorem dX5_needs_28 : decode cX5_needs 28 = .ok (.iload_n 2, 1) := by decide +kernel
theorem dX5_needs_29 : decode cX5_needs 29 = .ok (.invokestatic 43, 3) := by decide +kernel
theorem dX5_needs_32 : decode cX5_needs 32 = .ok (.ifCond .eq 39, 3) := by decide +kernel
theorem dX5_needs_35 : decode cX5_needs 35 = .ok (.aload_n 0, 1) := by decide +kernel
theorem dX5_needs_36 : decode cX5_needs 36 = .ok (.iconst 0, 1) := by decide +kernel
theorem dX5_needs_37 : decode cX5_needs 37 = .ok (.bipush 7, 2) := by decide +kernel
theorem dX5_needs_39 : decode cX5_needs 39 = .ok (.invokevirtual 30, 3) := by decide +kernel
theorem dX5_needs_42 : decode cX5_needs 42 = .ok (.aload_n 0, 1) := by decide +kernel
theorem dX5_needs_43 : decode cX5_needs 43 = .ok (.sipush 406, 3) := by decide +kernel
theorem dX5_needs_46 : decode cX5_needs 46 = .ok (.iload_n 2, 1) := by decide +kernel
theorem dX5_needs_47 : decode cX5_needs 47 = .ok (.invokevirtual 85, 3) := by decide +kernel
theorem dX5_needs_50 : decode cX5_needs 50 = .ok (.pop, 1) := by decide +kernel
theorem dX5_needs_51 : decode cX5_needs 51 = .ok (.iload_n 1, 1) := by decide +kernel
theorem dX5_needs_52 : decode cX5_needs 52 = .ok (.aload_n 0, 1) := by decide +kernel
theorem dX5_needs_53 : decode cX5_needs 53 = .ok (.sipush 406, 3) := by decide +kernel
theorem dX5_needs_56 : decode cX5_needs 56 = .ok (.invokevirtual 159, 3) := by decide +kernel
theorem dX5_needs_59 : decode cX5_needs 59 = .ok (.ifCond .ne 9, 3) := by decide +kernel
theorem dX5_needs_62 : decode cX5_needs 62 = .ok (.iconst 1, 1) := by decide +kernel
theorem dX5_needs_63 : decode cX5_needs 63 = .ok (.iload_n 2, 1) := by decide +kernel
theorem dX5_needs_64 : decode cX5_needs 64 = .ok (.ishl, 1) := by decide +kernel
theorem dX5_needs_65 : decode cX5_needs 65 = .ok (.goto 4, 3) := by decide +kernel
theorem dX5_needs_68 : decode cX5_needs 68 = .ok (.iconst 0, 1) := by decide +kernel
theorem dX5_needs_69 : decode cX5_needs 69 = .ok (.ior, 1) := by decide +kernel
theorem dX5_needs_70 : decode cX5_needs 70 = .ok (.istore_n 1, 1) := by decide +kernel
theorem dX5_needs_71 : decode cX5_needs 71 = .ok (.iinc 2 1, 3) := by decide +kernel
theorem dX5_needs_74 : decode cX5_needs 74 = .ok (.goto (-62), 3) := by decide +kernel
theorem dX5_needs_77 : decode cX5_needs 77 = .ok (.iload_n 1, 1) := by decide +kernel
theorem dX5_needs_78 : decode cX5_needs 78 = .ok (.ireturn, 1) := by decide +kernel
set_option maxRecDepth 20000 in
theorem ggX5_needed_X5_needs : GoodIn wsX5_needed wsX5_needs := goodIn_r _ [6, 7, 8, 9, 10, 5, 11, 12, 13, 14, 15, 16, 17, 18, 19, 20, 21, 22, 23, 24, 25, 26, 27, 28, 29, 30, 31, 32, 33, 34, 35, 36, 37, 38, 39, 40, 41, 42, 43, 44, 45, 46, 47, 48, 49, 50, 51, 52, 53, 54, 55, 56, 57, 58, 59, 60, 61] (by decide +kernel) (by decide +kernel)
set_option maxRecDepth 20000 in
theorem gX5_needed_X5_needs : GoodIn wsX5_needed (wsV RX5 162 RX5 yX5_needs wsX5_needs) := goodIn_app (goodIn_of _ (by decide +kernel)) ggX5_needed_X5_needs
theorem dX5_needed_0 : decode cX5_needed 0 = .ok (.aload_n 0, 1) := by decide +kernel
theorem dX5_needed_1 : decode cX5_needed 1 = .ok (.iconst 0, 1) := by decide +kernel
theorem dX5_needed_2 : decode cX5_needed 2 = .ok (.putfield 23, 3) := by decide +kernel
theorem dX5_needed_5 : decode cX5_needed 5 = .ok (.aload_n 0, 1) := by decide +kernel
theorem dX5_needed_6 : decode cX5_needed 6 = .ok (.invokevirtual 162, 3) := by decide +kernel
theorem dX5_needed_9 : decode cX5_needed 9 = .ok (.ireturn, 1) := by decide +kernel
set_option maxRecDepth 20000 in
theorem ggX5_makesPeace_X5_groupsOf : GoodIn wsX5_makesPeace wsX5_groupsOf := goodIn_r _ [6, 7, 8, 9, 5, 10, 1, 11, 12, 13, 14, 15, 16, 17, 18, 19, 20, 21, 22, 23, 24, 25, 26, 27, 28, 29, 30, 31, 32, 33, 34, 35, 36, 37, 38, 47, 48, 49, 50, 51, 52, 53, 54, 55, 56] (by decide +kernel) (by decide +kernel)
set_option maxRecDepth 20000 in
theorem gX5_makesPeace_X5_groupsOf : GoodIn wsX5_makesPeace (wsV RX5 159 RX5 yX5_groupsOf wsX5_groupsOf) := goodIn_app (goodIn_of _ (by decide +kernel)) ggX5_makesPeace_X5_groupsOf
set_option maxRecDepth 20000 in
theorem ggX5_makesPeace_X5_has : GoodIn wsX5_makesPeace wsX5_has := goodIn_r _ [17] (by decide +kernel) (by decide +kernel)
set_option maxRecDepth 20000 in
theorem gX5_makesPeace_X5_has : GoodIn wsX5_makesPeace (va_wsS RX5 43 yX5_has wsX5_has) := goodIn_app (goodIn_of _ (by decide +kernel)) ggX5_makesPeace_X5_has
set_option maxRecDepth 20000 in
theorem ggX5_makesPeace_X5_areAlive : GoodIn wsX5_makesPeace wsX5_areAlive := goodIn_r _ [42, 1, 15, 16, 5, 17, 47, 48, 49, 50, 51, 52, 53, 54, 55, 56] (by decide +kernel) (by decide +kernel)
set_option maxRecDepth 20000 in
theorem gX5_makesPeace_X5_areAlive : GoodIn wsX5_makesPeace (wsV RX5 88 RX5 yX5_areAlive wsX5_areAlive) := goodIn_app (goodIn_of _ (by decide +kernel)) ggX5_makesPeace_X5_areAlive
set_option maxRecDepth 20000 in
theorem ggX5_makesPeace_X5_copies : GoodIn wsX5_makesPeace wsX5_copies := goodIn_r _ [46, 1, 47, 48, 49, 50, 51, 52, 53, 54, 55, 56] (by decide +kernel) (by decide +kernel)
set_option maxRecDepth 20000 in
theorem gX5_makesPeace_X5_copies : GoodIn wsX5_makesPeace (wsV RX5 30 RX5 yX5_copies wsX5_copies) := goodIn_app (goodIn_of _ (by decide +kernel)) ggX5_makesPeace_X5_copies
theorem dX5_makesPeace_0 : decode cX5_makesPeace 0 = .ok (.iconst (-1), 1) := by decide +kernel
theorem dX5_makesPeace_1 : decode cX5_makesPeace 1 = .ok (.istore_n 2, 1) := by decide +kernel
theorem dX5_makesPeace_2 : decode cX5_makesPeace 2 = .ok (.aload_n 0, 1) := by decide +kernel
theorem dX5_makesPeace_3 : decode cX5_makesPeace 3 = .ok (.iconst 0, 1) := by decide +kernel
theorem dX5_makesPeace_4 : decode cX5_makesPeace 4 = .ok (.invokevirtual 159, 3) := by decide +kernel
theorem dX5_makesPeace_7 : decode cX5_makesPeace 7 = .ok (.istore_n 3, 1) := by decide +kernel
theorem dX5_makesPeace_8 : decode cX5_makesPeace 8 = .ok (.iconst 0, 1) := by decide +kernel
theorem dX5_makesPeace_9 : decode cX5_makesPeace 9 = .ok (.istore 4, 2) := by decide +kernel
theorem dX5_makesPeace_11 : decode cX5_makesPeace 11 = .ok (.iload 4, 2) := by decide +kernel
theorem dX5_makesPeace_13 : decode cX5_makesPeace 13 = .ok (.aload_n 0, 1) := by decide +kernel
theorem dX5_makesPeace_14 : decode cX5_makesPeace 14 = .ok (.getfield 7, 3) := by decide +kernel
theorem dX5_makesPeace_17 : decode cX5_makesPeace 17 = .ok (.iconst 1, 1) := by decide +kernel
theorem dX5_makesPeace_18 : decode cX5_makesPeace 18 = .ok (.iaload, 1) := by decide +kernel
theorem dX5_makesPeace_19 : decode cX5_makesPeace 19 = .ok (.if_icmp .ge 157, 3) := by decide +kernel
theorem dX5_makesPeace_22 : decode cX5_makesPeace 22 = .ok (.iload 4, 2) := by decide +kernel
theorem dX5_makesPeace_24 : decode cX5_makesPeace 24 = .ok (.iconst 1, 1) := by decide +kernel
theorem dX5_makesPeace_25 : decode cX5_makesPeace 25 = .ok (.iadd, 1) := by decide +kernel
theorem dX5_makesPeace_26 : decode cX5_makesPeace 26 = .ok (.istore 5, 2) := by decide +kernel
theorem dX5_makesPeace_28 : decode cX5_makesPeace 28 = .ok (.iload 5, 2) := by decide +kernel
theorem dX5_makesPeace_30 : decode cX5_makesPeace 30 = .ok (.aload_n 0, 1) := by decide +kernel
theorem dX5_makesPeace_31 : decode cX5_makesPeace 31 = .ok (.getfield 7, 3) := by decide +kernel
theorem dX5_makesPeace_34 : decode cX5_makesPeace 34 = .ok (.iconst 1, 1) := by decide +kernel
theorem dX5_makesPeace_35 : decode cX5_makesPeace 35 = .ok (.iaload, 1) := by decide +kernel
theorem dX5_makesPeace_36 : decode cX5_makesPeace 36 = .ok (.if_icmp .ge 134, 3) := by decide +kernel
theorem dX5_makesPeace_39 : decode cX5_makesPeace 39 = .ok (.aload_n 0, 1) := by decide +kernel
theorem dX5_makesPeace_40 : decode cX5_makesPeace 40 = .ok (.getfield 7, 3) := by decide +kernel
theorem dX5_makesPeace_43 : decode cX5_makesPeace 43 = .ok (.bipush 11, 2) := by decide +kernel
theorem dX5_makesPeace_45 : decode cX5_makesPeace 45 = .ok (.iload 4, 2) := by decide +kernel
theorem dX5_makesPeace_47 : decode cX5_makesPeace 47 = .ok (.iadd, 1) := by decide +kernel
theorem dX5_makesPeace_48 : decode cX5_makesPeace 48 = .ok (.iaload, 1) := by decide +kernel
theorem dX5_makesPeace_49 : decode cX5_makesPeace 49 = .ok (.iload 5, 2) := by decide +kernel
theorem dX5_makesPeace_51 : decode cX5_makesPeace 51 = .ok (.invokestatic 43, 3) := by decide +kernel
theorem dX5_makesPeace_54 : decode cX5_makesPeace 54 = .ok (.ifCond .eq 110, 3) := by decide +kernel
theorem dX5_makesPeace_57 : decode cX5_makesPeace 57 = .ok (.aload_n 0, 1) := by decide +kernel
theorem dX5_makesPeace_58 : decode cX5_makesPeace 58 = .ok (.iconst 0, 1) := by decide +kernel
theorem dX5_makesPeace_59 : decode cX5_makesPeace 59 = .ok (.iload 4, 2) := by decide +kernel
theorem dX5_makesPeace_61 : decode cX5_makesPeace 61 = .ok (.iload 5, 2) := by decide +kernel
theorem dX5_makesPeace_63 : decode cX5_makesPeace 63 = .ok (.invokevirtual 88, 3) := by decide +kernel
theorem dX5_makesPeace_66 : decode cX5_makesPeace 66 = .ok (.ifCond .eq 98, 3) := by decide +kernel
theorem dX5_makesPeace_69 : decode cX5_makesPeace 69 = .ok (.aload_n 0, 1) := by decide +kernel
theorem dX5_makesPeace_70 : decode cX5_makesPeace 70 = .ok (.iconst 0, 1) := by decide +kernel
theorem dX5_makesPeace_71 : decode cX5_makesPeace 71 = .ok (.bipush 7, 2) := by decide +kernel
theorem dX5_makesPeace_73 : decode cX5_makesPeace 73 = .ok (.invokevirtual 30, 3) := by decide +kernel
theorem dX5_makesPeace_76 : decode cX5_makesPeace 76 = .ok (.sipush 406, 3) := by decide +kernel
theorem dX5_makesPeace_79 : decode cX5_makesPeace 79 = .ok (.istore 6, 2) := by decide +kernel
theorem dX5_makesPeace_81 : decode cX5_makesPeace 81 = .ok (.aload_n 0, 1) := by decide +kernel
theorem dX5_makesPeace_82 : decode cX5_makesPeace 82 = .ok (.getfield 7, 3) := by decide +kernel
theorem dX5_makesPeace_85 : decode cX5_makesPeace 85 = .ok (.iload 6, 2) := by decide +kernel
theorem dX5_makesPeace_87 : decode cX5_makesPeace 87 = .ok (.bipush 11, 2) := by decide +kernel
theorem dX5_makesPeace_89 : decode cX5_makesPeace 89 = .ok (.iadd, 1) := by decide +kernel
theorem dX5_makesPeace_90 : decode cX5_makesPeace 90 = .ok (.iload 4, 2) := by decide +kernel
theorem dX5_makesPeace_92 : decode cX5_makesPeace 92 = .ok (.iadd, 1) := by decide +kernel
theorem dX5_makesPeace_93 : decode cX5_makesPeace 93 = .ok (.dup2, 1) := by decide +kernel
theorem dX5_makesPeace_94 : decode cX5_makesPeace 94 = .ok (.iaload, 1) := by decide +kernel
theorem dX5_makesPeace_95 : decode cX5_makesPeace 95 = .ok (.iconst 1, 1) := by decide +kernel
theorem dX5_makesPeace_96 : decode cX5_makesPeace 96 = .ok (.iload 5, 2) := by decide +kernel
theorem dX5_makesPeace_98 : decode cX5_makesPeace 98 = .ok (.ishl, 1) := by decide +kernel
theorem dX5_makesPeace_99 : decode cX5_makesPeace 99 = .ok (.ixor, 1) := by decide +kernel
theorem dX5_makesPeace_100 : decode cX5_makesPeace 100 = .ok (.iastore, 1) := by decide +kernel
theorem dX5_makesPeace_101 : decode cX5_makesPeace 101 = .ok (.aload_n 0, 1) := by decide +kernel
theorem dX5_makesPeace_102 : decode cX5_makesPeace 102 = .ok (.getfield 7, 3) := by decide +kernel
theorem dX5_makesPeace_105 : decode cX5_makesPeace 105 = .ok (.iload 6, 2) := by decide +kernel
theorem dX5_makesPeace_107 : decode cX5_makesPeace 107 = .ok (.bipush 11, 2) := by decide +kernel
theorem dX5_makesPeace_109 : decode cX5_makesPeace 109 = .ok (.iadd, 1) := by decide +kernel
theorem dX5_makesPeace_110 : decode cX5_makesPeace 110 = .ok (.iload 5, 2) := by decide +kernel
theorem dX5_makesPeace_112 : decode cX5_makesPeace 112 = .ok (.iadd, 1) := by decide +kernel
theorem dX5_makesPeace_113 : decode cX5_makesPeace 113 = .ok (.dup2, 1) := by decide +kernel
theorem dX5_makesPeace_114 : decode cX5_makesPeace 114 = .ok (.iaload, 1) := by decide +kernel
theorem dX5_makesPeace_115 : decode cX5_makesPeace 115 = .ok (.iconst 1, 1) := by decide +kernel
theorem dX5_makesPeace_116 : decode cX5_makesPeace 116 = .ok (.iload 4, 2) := by decide +kernel
theorem dX5_makesPeace_118 : decode cX5_makesPeace 118 = .ok (.ishl, 1) := by decide +kernel
theorem dX5_makesPeace_119 : decode cX5_makesPeace 119 = .ok (.ixor, 1) := by decide +kernel
theorem dX5_makesPeace_120 : decode cX5_makesPeace 120 = .ok (.iastore, 1) := by decide +kernel
theorem dX5_makesPeace_121 : decode cX5_makesPeace 121 = .ok (.aload_n 0, 1) := by decide +kernel
theorem dX5_makesPeace_122 : decode cX5_makesPeace 122 = .ok (.iload 6, 2) := by decide +kernel
theorem dX5_makesPeace_124 : decode cX5_makesPeace 124 = .ok (.invokevirtual 159, 3) := by decide +kernel
theorem dX5_makesPeace_127 : decode cX5_makesPeace 127 = .ok (.istore 7, 2) := by decide +kernel
theorem dX5_makesPeace_129 : decode cX5_makesPeace 129 = .ok (.iload 7, 2) := by decide +kernel
theorem dX5_makesPeace_131 : decode cX5_makesPeace 131 = .ok (.iload_n 3, 1) := by decide +kernel
theorem dX5_makesPeace_132 : decode cX5_makesPeace 132 = .ok (.if_icmp .le 17, 3) := by decide +kernel
theorem dX5_makesPeace_135 : decode cX5_makesPeace 135 = .ok (.iload_n 1, 1) := by decide +kernel
theorem dX5_makesPeace_136 : decode cX5_makesPeace 136 = .ok (.ifCond .eq 8, 3) := by decide +kernel
theorem dX5_makesPeace_139 : decode cX5_makesPeace 139 = .ok (.iload 5, 2) := by decide +kernel
theorem dX5_makesPeace_141 : decode cX5_makesPeace 141 = .ok (.goto 9, 3) := by decide +kernel
theorem dX5_makesPeace_144 : decode cX5_makesPeace 144 = .ok (.iload 4, 2) := by decide +kernel
theorem dX5_makesPeace_146 : decode cX5_makesPeace 146 = .ok (.goto 4, 3) := by decide +kernel
theorem dX5_makesPeace_149 : decode cX5_makesPeace 149 = .ok (.iload_n 2, 1) := by decide +kernel
theorem dX5_makesPeace_150 : decode cX5_makesPeace 150 = .ok (.istore_n 2, 1) := by decide +kernel
theorem dX5_makesPeace_151 : decode cX5_makesPeace 151 = .ok (.iload 7, 2) := by decide +kernel
theorem dX5_makesPeace_153 : decode cX5_makesPeace 153 = .ok (.iload_n 3, 1) := by decide +kernel
theorem dX5_makesPeace_154 : decode cX5_makesPeace 154 = .ok (.if_icmp .le 8, 3) := by decide +kernel
theorem dX5_makesPeace_157 : decode cX5_makesPeace 157 = .ok (.iload 7, 2) := by decide +kernel
theorem dX5_makesPeace_159 : decode cX5_makesPeace 159 = .ok (.goto 4, 3) := by decide +kernel
theorem dX5_makesPeace_162 : decode cX5_makesPeace 162 = .ok (.iload_n 3, 1) := by decide +kernel
theorem dX5_makesPeace_163 : decode cX5_makesPeace 163 = .ok (.istore_n 3, 1) := by decide +kernel
theorem dX5_makesPeace_164 : decode cX5_makesPeace 164 = .ok (.iinc 5 1, 3) := by decide +kernel
theorem dX5_makesPeace_167 : decode cX5_makesPeace 167 = .ok (.goto (-139), 3) := by decide +kernel
theorem dX5_makesPeace_170 : decode cX5_makesPeace 170 = .ok (.iinc 4 1, 3) := by decide +kernel
theorem dX5_makesPeace_173 : decode cX5_makesPeace 173 = .ok (.goto (-162), 3) := by decide +kernel
theorem dX5_makesPeace_176 : decode cX5_makesPeace 176 = .ok (.iload_n 2, 1) := by decide +kernel
theorem dX5_makesPeace_177 : decode cX5_makesPeace 177 = .ok (.ireturn, 1) := by decide +kernel
set_option maxRecDepth 20000 in
theorem ggX5_peace_X5_makesPeace : GoodIn wsX5_peace wsX5_makesPeace := goodIn_r _ [6, 7, 8, 9, 10, 5, 11, 12, 13, 14, 15, 16, 17, 18, 19, 20, 21, 22, 23, 24, 25, 26, 27, 28, 29, 30, 31, 32, 33, 34, 35, 36, 37, 38, 39, 40, 41, 42, 43, 44, 45, 46, 47, 48, 49, 50, 51, 52, 53, 54, 55, 56, 57, 58, 59, 60, 61] (by decide +kernel) (by decide +kernel)
set_option maxRecDepth 20000 in
theorem gX5_peace_X5_makesPeace : GoodIn wsX5_peace (wsV RX5 165 RX5 yX5_makesPeace wsX5_makesPeace) := goodIn_app (goodIn_of _ (by decide +kernel)) ggX5_peace_X5_makesPeace
theorem dX5_peace_0 : decode cX5_peace 0 = .ok (.aload_n 0, 1) := by decide +kernel
theorem dX5_peace_1 : decode cX5_peace 1 = .ok (.iconst 0, 1) := by decide +kernel
theorem dX5_peace_2 : decode cX5_peace 2 = .ok (.putfield 23, 3) := by decide +kernel
theorem dX5_peace_5 : decode cX5_peace 5 = .ok (.aload_n 0, 1) := by decide +kernel
theorem dX5_peace_6 : decode cX5_peace 6 = .ok (.iload_n 1, 1) := by decide +kernel
theorem dX5_peace_7 : decode cX5_peace 7 = .ok (.invokevirtual 165, 3) := by decide +kernel
theorem dX5_peace_10 : decode cX5_peace 10 = .ok (.ireturn, 1) := by decide +kernel
theorem dX5_firsts_0 : decode cX5_firsts 0 = .ok (.iconst 0, 1) := by decide +kernel
theorem dX5_firsts_1 : decode cX5_firsts 1 = .ok (.istore_n 1, 1) := by decide +kernel
theorem dX5_firsts_2 : decode cX5_firsts 2 = .ok (.iconst 0, 1) := by decide +kernel
theorem dX5_firsts_3 : decode cX5_firsts 3 = .ok (.istore_n 2, 1) := by decide +kernel
theorem dX5_firsts_4 : decode cX5_firsts 4 = .ok (.iconst 0, 1) := by decide +kernel
theorem dX5_firsts_5 : decode cX5_firsts 5 = .ok (.istore_n 3, 1) := by decide +kernel
theorem dX5_firsts_6 : decode cX5_firsts 6 = .ok (.iload_n 3, 1) := by decide +kernel
theorem dX5_firsts_7 : decode cX5_firsts 7 = .ok (.bipush 8, 2) := by decide +kernel
theorem dX5_firsts_9 : decode cX5_firsts 9 = .ok (.if_icmp .ge 50, 3) := by decide +kernel
theorem dX5_firsts_12 : decode cX5_firsts 12 = .ok (.iload_n 1, 1) := by decide +kernel
theorem dX5_firsts_13 : decode cX5_firsts 13 = .ok (.aload_n 0, 1) := by decide +kernel
theorem dX5_firsts_14 : decode cX5_firsts 14 = .ok (.getfield 7, 3) := by decide +kernel
theorem dX5_firsts_17 : decode cX5_firsts 17 = .ok (.bipush 40, 2) := by decide +kernel
theorem dX5_firsts_19 : decode cX5_firsts 19 = .ok (.iload_n 3, 1) := by decide +kernel
theorem dX5_firsts_20 : decode cX5_firsts 20 = .ok (.iadd, 1) := by decide +kernel
theorem dX5_firsts_21 : decode cX5_firsts 21 = .ok (.iaload, 1) := by decide +kernel
theorem dX5_firsts_22 : decode cX5_firsts 22 = .ok (.ifCond .lt 7, 3) := by decide +kernel
theorem dX5_firsts_25 : decode cX5_firsts 25 = .ok (.iconst 1, 1) := by decide +kernel
theorem dX5_firsts_26 : decode cX5_firsts 26 = .ok (.goto 4, 3) := by decide +kernel
theorem dX5_firsts_29 : decode cX5_firsts 29 = .ok (.iconst 0, 1) := by decide +kernel
theorem dX5_firsts_30 : decode cX5_firsts 30 = .ok (.iadd, 1) := by decide +kernel
theorem dX5_firsts_31 : decode cX5_firsts 31 = .ok (.istore_n 1, 1) := by decide +kernel
theorem dX5_firsts_32 : decode cX5_firsts 32 = .ok (.iload_n 2, 1) := by decide +kernel
theorem dX5_firsts_33 : decode cX5_firsts 33 = .ok (.aload_n 0, 1) := by decide +kernel
theorem dX5_firsts_34 : decode cX5_firsts 34 = .ok (.getfield 7, 3) := by decide +kernel
theorem dX5_firsts_37 : decode cX5_firsts 37 = .ok (.bipush 40, 2) := by decide +kernel
theorem dX5_firsts_39 : decode cX5_firsts 39 = .ok (.iload_n 3, 1) := by decide +kernel
theorem dX5_firsts_40 : decode cX5_firsts 40 = .ok (.iadd, 1) := by decide +kernel
theorem dX5_firsts_41 : decode cX5_firsts 41 = .ok (.iaload, 1) := by decide +kernel
theorem dX5_firsts_42 : decode cX5_firsts 42 = .ok (.iload_n 3, 1) := by decide +kernel
theorem dX5_firsts_43 : decode cX5_firsts 43 = .ok (.if_icmp .ne 7, 3) := by decide +kernel
theorem dX5_firsts_46 : decode cX5_firsts 46 = .ok (.iconst 1, 1) := by decide +kernel
theorem dX5_firsts_47 : decode cX5_firsts 47 = .ok (.goto 4, 3) := by decide +kernel
theorem dX5_firsts_50 : decode cX5_firsts 50 = .ok (.iconst 0, 1) := by decide +kernel
theorem dX5_firsts_51 : decode cX5_firsts 51 = .ok (.iadd, 1) := by decide +kernel
theorem dX5_firsts_52 : decode cX5_firsts 52 = .ok (.istore_n 2, 1) := by decide +kernel
theorem dX5_firsts_53 : decode cX5_firsts 53 = .ok (.iinc 3 1, 3) := by decide +kernel
theorem dX5_firsts_56 : decode cX5_firsts 56 = .ok (.goto (-50), 3) := by decide +kernel
theorem dX5_firsts_59 : decode cX5_firsts 59 = .ok (.iload_n 1, 1) := by decide +kernel
theorem dX5_firsts_60 : decode cX5_firsts 60 = .ok (.ifCond .ne 7, 3) := by decide +kernel
theorem dX5_firsts_63 : decode cX5_firsts 63 = .ok (.dconst 1, 1) := by decide +kernel
theorem dX5_firsts_64 : decode cX5_firsts 64 = .ok (.goto 8, 3) := by decide +kernel
theorem dX5_firsts_67 : decode cX5_firsts 67 = .ok (.iload_n 2, 1) := by decide +kernel
theorem dX5_firsts_68 : decode cX5_firsts 68 = .ok (.i2d, 1) := by decide +kernel
theorem dX5_firsts_69 : decode cX5_firsts 69 = .ok (.iload_n 1, 1) := by decide +kernel
theorem dX5_firsts_70 : decode cX5_firsts 70 = .ok (.i2d, 1) := by decide +kernel
theorem dX5_firsts_71 : decode cX5_firsts 71 = .ok (.ddiv, 1) := by decide +kernel
theorem dX5_firsts_72 : decode cX5_firsts 72 = .ok (.dreturn, 1) := by decide +kernel
set_option maxRecDepth 20000 in
theorem ggX5_firstShare_X5_firsts : GoodIn wsX5_firstShare wsX5_firsts := goodIn_r _ [6, 7, 8, 9, 10, 11, 12, 13, 14, 15, 16, 17] (by decide +kernel) (by decide +kernel)
set_option maxRecDepth 20000 in
theorem gX5_firstShare_X5_firsts : GoodIn wsX5_firstShare (wsV RX5 169 RX5 yX5_firsts wsX5_firsts) := goodIn_app (goodIn_of _ (by decide +kernel)) ggX5_firstShare_X5_firsts
theorem dX5_firstShare_0 : decode cX5_firstShare 0 = .ok (.aload_n 0, 1) := by decide +kernel
theorem dX5_firstShare_1 : decode cX5_firstShare 1 = .ok (.iconst 0, 1) := by decide +kernel
theorem dX5_firstShare_2 : decode cX5_firstShare 2 = .ok (.putfield 23, 3) := by decide +kernel
theorem dX5_firstShare_5 : decode cX5_firstShare 5 = .ok (.aload_n 0, 1) := by decide +kernel
theorem dX5_firstShare_6 : decode cX5_firstShare 6 = .ok (.invokevirtual 169, 3) := by decide +kernel
theorem dX5_firstShare_9 : decode cX5_firstShare 9 = .ok (.dreturn, 1) := by decide +kernel
set_option maxRecDepth 20000 in
theorem ggX5_digest_X5_counted : GoodIn wsX5_digest wsX5_counted := goodIn_r _ [11, 4, 12, 13, 14, 10, 15, 16, 17, 18, 19, 109, 110, 111, 112, 113, 114, 115, 116, 117, 118] (by decide +kernel) (by decide +kernel)
set_option maxRecDepth 20000 in
theorem gX5_digest_X5_counted : GoodIn wsX5_digest (wsV RX5 147 RX5 yX5_counted wsX5_counted) := goodIn_app (goodIn_of _ (by decide +kernel)) ggX5_digest_X5_counted
set_option maxRecDepth 20000 in
theorem ggX5_digest_X5_keepers : GoodIn wsX5_digest wsX5_keepers := goodIn_r _ [23, 4, 24, 25, 26, 10, 27, 28, 29, 30, 109, 110, 111, 112, 113, 114, 115, 116, 117, 118] (by decide +kernel) (by decide +kernel)
set_option maxRecDepth 20000 in
theorem gX5_digest_X5_keepers : GoodIn wsX5_digest (wsV RX5 138 RX5 yX5_keepers wsX5_keepers) := goodIn_app (goodIn_of _ (by decide +kernel)) ggX5_digest_X5_keepers
set_option maxRecDepth 20000 in
theorem ggX5_digest_X5_shareOf : GoodIn wsX5_digest wsX5_shareOf := goodIn_r _ [34, 4, 109, 110, 111, 112, 113, 114, 115, 116, 117, 118] (by decide +kernel) (by decide +kernel)
set_option maxRecDepth 20000 in
theorem gX5_digest_X5_shareOf : GoodIn wsX5_digest (wsV RX5 141 RX5 yX5_shareOf wsX5_shareOf) := goodIn_app (goodIn_of _ (by decide +kernel)) ggX5_digest_X5_shareOf
set_option maxRecDepth 20000 in
theorem ggX5_digest_X5_tells : GoodIn wsX5_digest wsX5_tells := goodIn_r _ [38, 4, 16, 17, 18, 10, 19, 13, 14, 15, 39, 40, 41, 42, 43, 44, 45, 28, 29, 30, 46, 47, 48, 49, 50, 51, 52, 109, 110, 111, 112, 113, 114, 115, 116, 117, 118] (by decide +kernel) (by decide +kernel)
set_option maxRecDepth 20000 in
theorem gX5_digest_X5_tells : GoodIn wsX5_digest (wsV RX5 150 RX5 yX5_tells wsX5_tells) := goodIn_app (goodIn_of _ (by decide +kernel)) ggX5_digest_X5_tells
set_option maxRecDepth 20000 in
theorem ggX5_digest_X5_keys : GoodIn wsX5_digest wsX5_keys := goodIn_r _ [56, 4, 16, 17, 18, 10, 19, 13, 14, 15, 43, 44, 45, 28, 29, 30, 46, 47, 48, 49, 50, 51, 52, 109, 110, 111, 112, 113, 114, 115, 116, 117, 118] (by decide +kernel) (by decide +kernel)
set_option maxRecDepth 20000 in
theorem gX5_digest_X5_keys : GoodIn wsX5_digest (wsV RX5 153 RX5 yX5_keys wsX5_keys) := goodIn_app (goodIn_of _ (by decide +kernel)) ggX5_digest_X5_keys
set_option maxRecDepth 20000 in
theorem ggX5_digest_X5_reason : GoodIn wsX5_digest wsX5_reason := goodIn_r _ [60, 4, 61, 62, 63, 10, 64, 28, 29, 30, 24, 25, 26, 27, 13, 14, 15, 39, 40, 41, 42, 43, 44, 45, 46, 47, 48, 49, 50, 51, 52, 109, 110, 111, 112, 113, 114, 115, 116, 117, 118] (by decide +kernel) (by decide +kernel)
set_option maxRecDepth 20000 in
theorem gX5_digest_X5_reason : GoodIn wsX5_digest (wsV RX5 70 RX5 yX5_reason wsX5_reason) := goodIn_app (goodIn_of _ (by decide +kernel)) ggX5_digest_X5_reason
set_option maxRecDepth 20000 in
theorem ggX5_digest_X5_least : GoodIn wsX5_digest wsX5_least := goodIn_r _ [68, 57, 58, 59, 10, 60, 4, 61, 62, 63, 64, 28, 29, 30, 24, 25, 26, 27, 13, 14, 15, 39, 40, 41, 42, 43, 44, 45, 46, 47, 48, 49, 50, 51, 52, 109, 110, 111, 112, 113, 114, 115, 116, 117, 118] (by decide +kernel) (by decide +kernel)
set_option maxRecDepth 20000 in
theorem gX5_digest_X5_least : GoodIn wsX5_digest (wsV RX5 156 RX5 yX5_least wsX5_least) := goodIn_app (goodIn_of _ (by decide +kernel)) ggX5_digest_X5_least
set_option maxRecDepth 20000 in
theorem ggX5_digest_X5_groupsOf : GoodIn wsX5_digest wsX5_groupsOf := goodIn_r _ [72, 57, 58, 59, 10, 60, 4, 61, 62, 63, 64, 28, 29, 30, 24, 25, 26, 27, 13, 14, 15, 39, 40, 41, 42, 43, 44, 45, 46, 47, 48, 49, 50, 51, 52, 109, 110, 111, 112, 113, 114, 115, 116, 117, 118] (by decide +kernel) (by decide +kernel)
set_option maxRecDepth 20000 in
theorem gX5_digest_X5_groupsOf : GoodIn wsX5_digest (wsV RX5 159 RX5 yX5_groupsOf wsX5_groupsOf) := goodIn_app (goodIn_of _ (by decide +kernel)) ggX5_digest_X5_groupsOf
set_option maxRecDepth 20000 in
theorem ggX5_digest_X5_needs : GoodIn wsX5_digest wsX5_needs := goodIn_r _ [76, 4, 69, 70, 71, 10, 72, 57, 58, 59, 60, 61, 62, 63, 64, 28, 29, 30, 24, 25, 26, 27, 13, 14, 15, 39, 40, 41, 42, 43, 44, 45, 46, 47, 48, 49, 50, 51, 52, 77, 78, 79, 80, 81, 82, 83, 84, 109, 110, 111, 112, 113, 114, 115, 116, 117, 118] (by decide +kernel) (by decide +kernel)
set_option maxRecDepth 20000 in
theorem gX5_digest_X5_needs : GoodIn wsX5_digest (wsV RX5 162 RX5 yX5_needs wsX5_needs) := goodIn_app (goodIn_of _ (by decide +kernel)) ggX5_digest_X5_needs
set_option maxRecDepth 20000 in
theorem ggX5_digest_X5_makesPeace : GoodIn wsX5_digest wsX5_makesPeace := goodIn_r _ [88, 4, 69, 70, 71, 10, 72, 57, 58, 59, 60, 61, 62, 63, 64, 28, 29, 30, 24, 25, 26, 27, 13, 14, 15, 39, 40, 41, 42, 43, 44, 45, 46, 47, 48, 49, 50, 51, 52, 89, 90, 91, 92, 77, 78, 79, 80, 109, 110, 111, 112, 113, 114, 115, 116, 117, 118] (by decide +kernel) (by decide +kernel)
set_option maxRecDepth 20000 in
theorem gX5_digest_X5_makesPeace : GoodIn wsX5_digest (wsV RX5 165 RX5 yX5_makesPeace wsX5_makesPeace) := goodIn_app (goodIn_of _ (by decide +kernel)) ggX5_digest_X5_makesPeace
set_option maxRecDepth 20000 in
theorem ggX5_digest_X5_firsts : GoodIn wsX5_digest wsX5_firsts := goodIn_r _ [96, 4, 109, 110, 111, 112, 113, 114, 115, 116, 117, 118] (by decide +kernel) (by decide +kernel)
set_option maxRecDepth 20000 in
theorem gX5_digest_X5_firsts : GoodIn wsX5_digest (wsV RX5 169 RX5 yX5_firsts wsX5_firsts) := goodIn_app (goodIn_of _ (by decide +kernel)) ggX5_digest_X5_firsts
set_option maxRecDepth 20000 in
theorem ggX5_digest_Jxe99ae_doubleToLongBits_ccdee : GoodIn wsX5_digest wsJxe99ae_doubleToLongBits_ccdee := goodIn_r _ [100, 101, 102, 103, 104, 105, 106, 107, 99, 108] (by decide +kernel) (by decide +kernel)
set_option maxRecDepth 20000 in
theorem gX5_digest_Jxe99ae_doubleToLongBits_ccdee : GoodIn wsX5_digest (va_wsS RX5 177 yJxe99ae_doubleToLongBits_ccdee wsJxe99ae_doubleToLongBits_ccdee) := goodIn_app (goodIn_of _ (by decide +kernel)) ggX5_digest_Jxe99ae_doubleToLongBits_ccdee
theorem dX5_digest_0 : decode cX5_digest 0 = .ok (.aload_n 0, 1) := by decide +kernel
theorem dX5_digest_1 : decode cX5_digest 1 = .ok (.iconst 0, 1) := by decide +kernel
theorem dX5_digest_2 : decode cX5_digest 2 = .ok (.putfield 23, 3) := by decide +kernel
theorem dX5_digest_5 : decode cX5_digest 5 = .ok (.ldc2_w 173, 3) := by decide +kernel
theorem dX5_digest_8 : decode cX5_digest 8 = .ok (.lstore_n 1, 1) := by decide +kernel
theorem dX5_digest_9 : decode cX5_digest 9 = .ok (.iconst 0, 1) := by decide +kernel
theorem dX5_digest_10 : decode cX5_digest 10 = .ok (.istore_n 3, 1) := by decide +kernel
theorem dX5_digest_11 : decode cX5_digest 11 = .ok (.iload_n 3, 1) := by decide +kernel
theorem dX5_digest_12 : decode cX5_digest 12 = .ok (.bipush 12, 2) := by decide +kernel
theorem dX5_digest_14 : decode cX5_digest 14 = .ok (.if_icmp .ge 22, 3) := by decide +kernel
theorem dX5_digest_17 : decode cX5_digest 17 = .ok (.ldc2_w 175, 3) := by decide +kernel
theorem dX5_digest_20 : decode cX5_digest 20 = .ok (.lload_n 1, 1) := by decide +kernel
theorem dX5_digest_21 : decode cX5_digest 21 = .ok (.lmul, 1) := by decide +kernel
theorem dX5_digest_22 : decode cX5_digest 22 = .ok (.aload_n 0, 1) := by decide +kernel
theorem dX5_digest_23 : decode cX5_digest 23 = .ok (.iload_n 3, 1) := by decide +kernel
theorem dX5_digest_24 : decode cX5_digest 24 = .ok (.invokevirtual 147, 3) := by decide +kernel
theorem dX5_digest_27 : decode cX5_digest 27 = .ok (.i2l, 1) := by decide +kernel
theorem dX5_digest_28 : decode cX5_digest 28 = .ok (.ladd, 1) := by decide +kernel
theorem dX5_digest_29 : decode cX5_digest 29 = .ok (.lstore_n 1, 1) := by decide +kernel
theorem dX5_digest_30 : decode cX5_digest 30 = .ok (.iinc 3 1, 3) := by decide +kernel
theorem dX5_digest_33 : decode cX5_digest 33 = .ok (.goto (-22), 3) := by decide +kernel
theorem dX5_digest_36 : decode cX5_digest 36 = .ok (.iconst 0, 1) := by decide +kernel
theorem dX5_digest_37 : decode cX5_digest 37 = .ok (.istore_n 3, 1) := by decide +kernel
theorem dX5_digest_38 : decode cX5_digest 38 = .ok (.iload_n 3, 1) := by decide +kernel
theorem dX5_digest_39 : decode cX5_digest 39 = .ok (.iconst 5, 1) := by decide +kernel
theorem dX5_digest_40 : decode cX5_digest 40 = .ok (.aload_n 0, 1) := by decide +kernel
theorem dX5_digest_41 : decode cX5_digest 41 = .ok (.getfield 7, 3) := by decide +kernel
theorem dX5_digest_44 : decode cX5_digest 44 = .ok (.iconst 1, 1) := by decide +kernel
theorem dX5_digest_45 : decode cX5_digest 45 = .ok (.iaload, 1) := by decide +kernel
theorem dX5_digest_46 : decode cX5_digest 46 = .ok (.imul, 1) := by decide +kernel
theorem dX5_digest_47 : decode cX5_digest 47 = .ok (.if_icmp .ge 27, 3) := by decide +kernel
theorem dX5_digest_50 : decode cX5_digest 50 = .ok (.ldc2_w 175, 3) := by decide +kernel
theorem dX5_digest_53 : decode cX5_digest 53 = .ok (.lload_n 1, 1) := by decide +kernel
theorem dX5_digest_54 : decode cX5_digest 54 = .ok (.lmul, 1) := by decide +kernel
theorem dX5_digest_55 : decode cX5_digest 55 = .ok (.aload_n 0, 1) := by decide +kernel
theorem dX5_digest_56 : decode cX5_digest 56 = .ok (.iload_n 3, 1) := by decide +kernel
theorem dX5_digest_57 : decode cX5_digest 57 = .ok (.iconst 5, 1) := by decide +kernel
theorem dX5_digest_58 : decode cX5_digest 58 = .ok (.idiv, 1) := by decide +kernel
theorem dX5_digest_59 : decode cX5_digest 59 = .ok (.iload_n 3, 1) := by decide +kernel
theorem dX5_digest_60 : decode cX5_digest 60 = .ok (.iconst 5, 1) := by decide +kernel
theorem dX5_digest_61 : decode cX5_digest 61 = .ok (.irem, 1) := by decide +kernel
theorem dX5_digest_62 : decode cX5_digest 62 = .ok (.invokevirtual 138, 3) := by decide +kernel
theorem dX5_digest_65 : decode cX5_digest 65 = .ok (.i2l, 1) := by decide +kernel
theorem dX5_digest_66 : decode cX5_digest 66 = .ok (.ladd, 1) := by decide +kernel
theorem dX5_digest_67 : decode cX5_digest 67 = .ok (.lstore_n 1, 1) := by decide +kernel
theorem dX5_digest_68 : decode cX5_digest 68 = .ok (.iinc 3 1, 3) := by decide +kernel
theorem dX5_digest_71 : decode cX5_digest 71 = .ok (.goto (-33), 3) := by decide +kernel
theorem dX5_digest_74 : decode cX5_digest 74 = .ok (.iconst 0, 1) := by decide +kernel
theorem dX5_digest_75 : decode cX5_digest 75 = .ok (.istore_n 3, 1) := by decide +kernel
theorem dX5_digest_76 : decode cX5_digest 76 = .ok (.iload_n 3, 1) := by decide +kernel
theorem dX5_digest_77 : decode cX5_digest 77 = .ok (.bipush 24, 2) := by decide +kernel
theorem dX5_digest_79 : decode cX5_digest 79 = .ok (.if_icmp .ge 27, 3) := by decide +kernel
theorem dX5_digest_82 : decode cX5_digest 82 = .ok (.ldc2_w 175, 3) := by decide +kernel
theorem dX5_digest_85 : decode cX5_digest 85 = .ok (.lload_n 1, 1) := by decide +kernel
theorem dX5_digest_86 : decode cX5_digest 86 = .ok (.lmul, 1) := by decide +kernel
theorem dX5_digest_87 : decode cX5_digest 87 = .ok (.aload_n 0, 1) := by decide +kernel
theorem dX5_digest_88 : decode cX5_digest 88 = .ok (.iload_n 3, 1) := by decide +kernel
theorem dX5_digest_89 : decode cX5_digest 89 = .ok (.iconst 3, 1) := by decide +kernel
theorem dX5_digest_90 : decode cX5_digest 90 = .ok (.idiv, 1) := by decide +kernel
theorem dX5_digest_91 : decode cX5_digest 91 = .ok (.iload_n 3, 1) := by decide +kernel
theorem dX5_digest_92 : decode cX5_digest 92 = .ok (.iconst 3, 1) := by decide +kernel
theorem dX5_digest_93 : decode cX5_digest 93 = .ok (.irem, 1) := by decide +kernel
theorem dX5_digest_94 : decode cX5_digest 94 = .ok (.invokevirtual 141, 3) := by decide +kernel
theorem dX5_digest_97 : decode cX5_digest 97 = .ok (.i2l, 1) := by decide +kernel
theorem dX5_digest_98 : decode cX5_digest 98 = .ok (.ladd, 1) := by decide +kernel
theorem dX5_digest_99 : decode cX5_digest 99 = .ok (.lstore_n 1, 1) := by decide +kernel
theorem dX5_digest_100 : decode cX5_digest 100 = .ok (.iinc 3 1, 3) := by decide +kernel
theorem dX5_digest_103 : decode cX5_digest 103 = .ok (.goto (-27), 3) := by decide +kernel
theorem dX5_digest_106 : decode cX5_digest 106 = .ok (.ldc2_w 175, 3) := by decide +kernel
theorem dX5_digest_109 : decode cX5_digest 109 = .ok (.lload_n 1, 1) := by decide +kernel
theorem dX5_digest_110 : decode cX5_digest 110 = .ok (.lmul, 1) := by decide +kernel
theorem dX5_digest_111 : decode cX5_digest 111 = .ok (.aload_n 0, 1) := by decide +kernel
theorem dX5_digest_112 : decode cX5_digest 112 = .ok (.bipush 7, 2) := by decide +kernel
theorem dX5_digest_114 : decode cX5_digest 114 = .ok (.invokevirtual 150, 3) := by decide +kernel
theorem dX5_digest_117 : decode cX5_digest 117 = .ok (.i2l, 1) := by decide +kernel
theorem dX5_digest_118 : decode cX5_digest 118 = .ok (.ladd, 1) := by decide +kernel
theorem dX5_digest_119 : decode cX5_digest 119 = .ok (.lstore_n 1, 1) := by decide +kernel
theorem dX5_digest_120 : decode cX5_digest 120 = .ok (.ldc2_w 175, 3) := by decide +kernel
theorem dX5_digest_123 : decode cX5_digest 123 = .ok (.lload_n 1, 1) := by decide +kernel
theorem dX5_digest_124 : decode cX5_digest 124 = .ok (.lmul, 1) := by decide +kernel
theorem dX5_digest_125 : decode cX5_digest 125 = .ok (.aload_n 0, 1) := by decide +kernel
theorem dX5_digest_126 : decode cX5_digest 126 = .ok (.bipush 14, 2) := by decide +kernel
theorem dX5_digest_128 : decode cX5_digest 128 = .ok (.invokevirtual 150, 3) := by decide +kernel
theorem dX5_digest_131 : decode cX5_digest 131 = .ok (.i2l, 1) := by decide +kernel
theorem dX5_digest_132 : decode cX5_digest 132 = .ok (.ladd, 1) := by decide +kernel
theorem dX5_digest_133 : decode cX5_digest 133 = .ok (.lstore_n 1, 1) := by decide +kernel
theorem dX5_digest_134 : decode cX5_digest 134 = .ok (.ldc2_w 175, 3) := by decide +kernel
theorem dX5_digest_137 : decode cX5_digest 137 = .ok (.lload_n 1, 1) := by decide +kernel
theorem dX5_digest_138 : decode cX5_digest 138 = .ok (.lmul, 1) := by decide +kernel
theorem dX5_digest_139 : decode cX5_digest 139 = .ok (.aload_n 0, 1) := by decide +kernel
theorem dX5_digest_140 : decode cX5_digest 140 = .ok (.bipush 56, 2) := by decide +kernel
theorem dX5_digest_142 : decode cX5_digest 142 = .ok (.invokevirtual 150, 3) := by decide +kernel
theorem dX5_digest_145 : decode cX5_digest 145 = .ok (.i2l, 1) := by decide +kernel
theorem dX5_digest_146 : decode cX5_digest 146 = .ok (.ladd, 1) := by decide +kernel
theorem dX5_digest_147 : decode cX5_digest 147 = .ok (.lstore_n 1, 1) := by decide +kernel
theorem dX5_digest_148 : decode cX5_digest 148 = .ok (.ldc2_w 175, 3) := by decide +kernel
theorem dX5_digest_151 : decode cX5_digest 151 = .ok (.lload_n 1, 1) := by decide +kernel
theorem dX5_digest_152 : decode cX5_digest 152 = .ok (.lmul, 1) := by decide +kernel
theorem dX5_digest_153 : decode cX5_digest 153 = .ok (.aload_n 0, 1) := by decide +kernel
theorem dX5_digest_154 : decode cX5_digest 154 = .ok (.sipush 255, 3) := by decide +kernel
theorem dX5_digest_157 : decode cX5_digest 157 = .ok (.invokevirtual 150, 3) := by decide +kernel
theorem dX5_digest_160 : decode cX5_digest 160 = .ok (.i2l, 1) := by decide +kernel
theorem dX5_digest_161 : decode cX5_digest 161 = .ok (.ladd, 1) := by decide +kernel
theorem dX5_digest_162 : decode cX5_digest 162 = .ok (.lstore_n 1, 1) := by decide +kernel
theorem dX5_digest_163 : decode cX5_digest 163 = .ok (.ldc2_w 175, 3) := by decide +kernel
theorem dX5_digest_166 : decode cX5_digest 166 = .ok (.lload_n 1, 1) := by decide +kernel
theorem dX5_digest_167 : decode cX5_digest 167 = .ok (.lmul, 1) := by decide +kernel
theorem dX5_digest_168 : decode cX5_digest 168 = .ok (.aload_n 0, 1) := by decide +kernel
theorem dX5_digest_169 : decode cX5_digest 169 = .ok (.iconst 0, 1) := by decide +kernel
theorem dX5_digest_170 : decode cX5_digest 170 = .ok (.invokevirtual 153, 3) := by decide +kernel
theorem dX5_digest_173 : decode cX5_digest 173 = .ok (.i2l, 1) := by decide +kernel
theorem dX5_digest_174 : decode cX5_digest 174 = .ok (.ladd, 1) := by decide +kernel
theorem dX5_digest_175 : decode cX5_digest 175 = .ok (.lstore_n 1, 1) := by decide +kernel
theorem dX5_digest_176 : decode cX5_digest 176 = .ok (.ldc2_w 175, 3) := by decide +kernel
theorem dX5_digest_179 : decode cX5_digest 179 = .ok (.lload_n 1, 1) := by decide +kernel
theorem dX5_digest_180 : decode cX5_digest 180 = .ok (.lmul, 1) := by decide +kernel
theorem dX5_digest_181 : decode cX5_digest 181 = .ok (.aload_n 0, 1) := by decide +kernel
theorem dX5_digest_182 : decode cX5_digest 182 = .ok (.iconst 3, 1) := by decide +kernel
theorem dX5_digest_183 : decode cX5_digest 183 = .ok (.invokevirtual 153, 3) := by decide +kernel
theorem dX5_digest_186 : decode cX5_digest 186 = .ok (.i2l, 1) := by decide +kernel
theorem dX5_digest_187 : decode cX5_digest 187 = .ok (.ladd, 1) := by decide +kernel
theorem dX5_digest_188 : decode cX5_digest 188 = .ok (.lstore_n 1, 1) := by decide +kernel
theorem dX5_digest_189 : decode cX5_digest 189 = .ok (.ldc2_w 175, 3) := by decide +kernel
theorem dX5_digest_192 : decode cX5_digest 192 = .ok (.lload_n 1, 1) := by decide +kernel
theorem dX5_digest_193 : decode cX5_digest 193 = .ok (.lmul, 1) := by decide +kernel
theorem dX5_digest_194 : decode cX5_digest 194 = .ok (.aload_n 0, 1) := by decide +kernel
theorem dX5_digest_195 : decode cX5_digest 195 = .ok (.bipush 7, 2) := by decide +kernel
theorem dX5_digest_197 : decode cX5_digest 197 = .ok (.invokevirtual 153, 3) := by decide +kernel
theorem dX5_digest_200 : decode cX5_digest 200 = .ok (.i2l, 1) := by decide +kernel
theorem dX5_digest_201 : decode cX5_digest 201 = .ok (.ladd, 1) := by decide +kernel
theorem dX5_digest_202 : decode cX5_digest 202 = .ok (.lstore_n 1, 1) := by decide +kernel
theorem dX5_digest_203 : decode cX5_digest 203 = .ok (.ldc2_w 175, 3) := by decide +kernel
theorem dX5_digest_206 : decode cX5_digest 206 = .ok (.lload_n 1, 1) := by decide +kernel
theorem dX5_digest_207 : decode cX5_digest 207 = .ok (.lmul, 1) := by decide +kernel
theorem dX5_digest_208 : decode cX5_digest 208 = .ok (.aload_n 0, 1) := by decide +kernel
theorem dX5_digest_209 : decode cX5_digest 209 = .ok (.bipush 24, 2) := by decide +kernel
theorem dX5_digest_211 : decode cX5_digest 211 = .ok (.invokevirtual 153, 3) := by decide +kernel
theorem dX5_digest_214 : decode cX5_digest 214 = .ok (.i2l, 1) := by decide +kernel
theorem dX5_digest_215 : decode cX5_digest 215 = .ok (.ladd, 1) := by decide +kernel
theorem dX5_digest_216 : decode cX5_digest 216 = .ok (.lstore_n 1, 1) := by decide +kernel
theorem dX5_digest_217 : decode cX5_digest 217 = .ok (.ldc2_w 175, 3) := by decide +kernel
theorem dX5_digest_220 : decode cX5_digest 220 = .ok (.lload_n 1, 1) := by decide +kernel
theorem dX5_digest_221 : decode cX5_digest 221 = .ok (.lmul, 1) := by decide +kernel
theorem dX5_digest_222 : decode cX5_digest 222 = .ok (.aload_n 0, 1) := by decide +kernel
theorem dX5_digest_223 : decode cX5_digest 223 = .ok (.sipush 255, 3) := by decide +kernel
theorem dX5_digest_226 : decode cX5_digest 226 = .ok (.invokevirtual 153, 3) := by decide +kernel
theorem dX5_digest_229 : decode cX5_digest 229 = .ok (.i2l, 1) := by decide +kernel
theorem dX5_digest_230 : decode cX5_digest 230 = .ok (.ladd, 1) := by decide +kernel
theorem dX5_digest_231 : decode cX5_digest 231 = .ok (.lstore_n 1, 1) := by decide +kernel
theorem dX5_digest_232 : decode cX5_digest 232 = .ok (.ldc2_w 175, 3) := by decide +kernel
theorem dX5_digest_235 : decode cX5_digest 235 = .ok (.lload_n 1, 1) := by decide +kernel
theorem dX5_digest_236 : decode cX5_digest 236 = .ok (.lmul, 1) := by decide +kernel
theorem dX5_digest_237 : decode cX5_digest 237 = .ok (.aload_n 0, 1) := by decide +kernel
theorem dX5_digest_238 : decode cX5_digest 238 = .ok (.iconst 0, 1) := by decide +kernel
theorem dX5_digest_239 : decode cX5_digest 239 = .ok (.iconst 1, 1) := by decide +kernel
theorem dX5_digest_240 : decode cX5_digest 240 = .ok (.aload_n 0, 1) := by decide +kernel
theorem dX5_digest_241 : decode cX5_digest 241 = .ok (.getfield 7, 3) := by decide +kernel
theorem dX5_digest_244 : decode cX5_digest 244 = .ok (.iconst 1, 1) := by decide +kernel
theorem dX5_digest_245 : decode cX5_digest 245 = .ok (.iaload, 1) := by decide +kernel
theorem dX5_digest_246 : decode cX5_digest 246 = .ok (.ishl, 1) := by decide +kernel
theorem dX5_digest_247 : decode cX5_digest 247 = .ok (.iconst 1, 1) := by decide +kernel
theorem dX5_digest_248 : decode cX5_digest 248 = .ok (.isub, 1) := by decide +kernel
theorem dX5_digest_249 : decode cX5_digest 249 = .ok (.iconst 0, 1) := by decide +kernel
theorem dX5_digest_250 : decode cX5_digest 250 = .ok (.invokevirtual 70, 3) := by decide +kernel
theorem dX5_digest_253 : decode cX5_digest 253 = .ok (.i2l, 1) := by decide +kernel
theorem dX5_digest_254 : decode cX5_digest 254 = .ok (.ladd, 1) := by decide +kernel
theorem dX5_digest_255 : decode cX5_digest 255 = .ok (.lstore_n 1, 1) := by decide +kernel
theorem dX5_digest_256 : decode cX5_digest 256 = .ok (.ldc2_w 175, 3) := by decide +kernel
theorem dX5_digest_259 : decode cX5_digest 259 = .ok (.lload_n 1, 1) := by decide +kernel
theorem dX5_digest_260 : decode cX5_digest 260 = .ok (.lmul, 1) := by decide +kernel
theorem dX5_digest_261 : decode cX5_digest 261 = .ok (.aload_n 0, 1) := by decide +kernel
theorem dX5_digest_262 : decode cX5_digest 262 = .ok (.iconst 0, 1) := by decide +kernel
theorem dX5_digest_263 : decode cX5_digest 263 = .ok (.invokevirtual 156, 3) := by decide +kernel
theorem dX5_digest_266 : decode cX5_digest 266 = .ok (.i2l, 1) := by decide +kernel
theorem dX5_digest_267 : decode cX5_digest 267 = .ok (.ladd, 1) := by decide +kernel
theorem dX5_digest_268 : decode cX5_digest 268 = .ok (.lstore_n 1, 1) := by decide +kernel
theorem dX5_digest_269 : decode cX5_digest 269 = .ok (.ldc2_w 175, 3) := by decide +kernel
theorem dX5_digest_272 : decode cX5_digest 272 = .ok (.lload_n 1, 1) := by decide +kernel
theorem dX5_digest_273 : decode cX5_digest 273 = .ok (.lmul, 1) := by decide +kernel
theorem dX5_digest_274 : decode cX5_digest 274 = .ok (.aload_n 0, 1) := by decide +kernel
theorem dX5_digest_275 : decode cX5_digest 275 = .ok (.iconst 1, 1) := by decide +kernel
theorem dX5_digest_276 : decode cX5_digest 276 = .ok (.invokevirtual 156, 3) := by decide +kernel
theorem dX5_digest_279 : decode cX5_digest 279 = .ok (.i2l, 1) := by decide +kernel
theorem dX5_digest_280 : decode cX5_digest 280 = .ok (.ladd, 1) := by decide +kernel
theorem dX5_digest_281 : decode cX5_digest 281 = .ok (.lstore_n 1, 1) := by decide +kernel
theorem dX5_digest_282 : decode cX5_digest 282 = .ok (.ldc2_w 175, 3) := by decide +kernel
theorem dX5_digest_285 : decode cX5_digest 285 = .ok (.lload_n 1, 1) := by decide +kernel
theorem dX5_digest_286 : decode cX5_digest 286 = .ok (.lmul, 1) := by decide +kernel
theorem dX5_digest_287 : decode cX5_digest 287 = .ok (.aload_n 0, 1) := by decide +kernel
theorem dX5_digest_288 : decode cX5_digest 288 = .ok (.iconst 0, 1) := by decide +kernel
theorem dX5_digest_289 : decode cX5_digest 289 = .ok (.invokevirtual 159, 3) := by decide +kernel
theorem dX5_digest_292 : decode cX5_digest 292 = .ok (.i2l, 1) := by decide +kernel
theorem dX5_digest_293 : decode cX5_digest 293 = .ok (.ladd, 1) := by decide +kernel
theorem dX5_digest_294 : decode cX5_digest 294 = .ok (.lstore_n 1, 1) := by decide +kernel
theorem dX5_digest_295 : decode cX5_digest 295 = .ok (.ldc2_w 175, 3) := by decide +kernel
theorem dX5_digest_298 : decode cX5_digest 298 = .ok (.lload_n 1, 1) := by decide +kernel
theorem dX5_digest_299 : decode cX5_digest 299 = .ok (.lmul, 1) := by decide +kernel
theorem dX5_digest_300 : decode cX5_digest 300 = .ok (.aload_n 0, 1) := by decide +kernel
theorem dX5_digest_301 : decode cX5_digest 301 = .ok (.invokevirtual 162, 3) := by decide +kernel
theorem dX5_digest_304 : decode cX5_digest 304 = .ok (.i2l, 1) := by decide +kernel
theorem dX5_digest_305 : decode cX5_digest 305 = .ok (.ladd, 1) := by decide +kernel
theorem dX5_digest_306 : decode cX5_digest 306 = .ok (.lstore_n 1, 1) := by decide +kernel
theorem dX5_digest_307 : decode cX5_digest 307 = .ok (.ldc2_w 175, 3) := by decide +kernel
theorem dX5_digest_310 : decode cX5_digest 310 = .ok (.lload_n 1, 1) := by decide +kernel
theorem dX5_digest_311 : decode cX5_digest 311 = .ok (.lmul, 1) := by decide +kernel
theorem dX5_digest_312 : decode cX5_digest 312 = .ok (.aload_n 0, 1) := by decide +kernel
theorem dX5_digest_313 : decode cX5_digest 313 = .ok (.iconst 0, 1) := by decide +kernel
theorem dX5_digest_314 : decode cX5_digest 314 = .ok (.invokevirtual 165, 3) := by decide +kernel
theorem dX5_digest_317 : decode cX5_digest 317 = .ok (.i2l, 1) := by decide +kernel
theorem dX5_digest_318 : decode cX5_digest 318 = .ok (.ladd, 1) := by decide +kernel
theorem dX5_digest_319 : decode cX5_digest 319 = .ok (.lstore_n 1, 1) := by decide +kernel
theorem dX5_digest_320 : decode cX5_digest 320 = .ok (.ldc2_w 175, 3) := by decide +kernel
theorem dX5_digest_323 : decode cX5_digest 323 = .ok (.lload_n 1, 1) := by decide +kernel
theorem dX5_digest_324 : decode cX5_digest 324 = .ok (.lmul, 1) := by decide +kernel
theorem dX5_digest_325 : decode cX5_digest 325 = .ok (.aload_n 0, 1) := by decide +kernel
theorem dX5_digest_326 : decode cX5_digest 326 = .ok (.iconst 1, 1) := by decide +kernel
theorem dX5_digest_327 : decode cX5_digest 327 = .ok (.invokevirtual 165, 3) := by decide +kernel
theorem dX5_digest_330 : decode cX5_digest 330 = .ok (.i2l, 1) := by decide +kernel
theorem dX5_digest_331 : decode cX5_digest 331 = .ok (.ladd, 1) := by decide +kernel
theorem dX5_digest_332 : decode cX5_digest 332 = .ok (.lstore_n 1, 1) := by decide +kernel
theorem dX5_digest_333 : decode cX5_digest 333 = .ok (.ldc2_w 175, 3) := by decide +kernel
theorem dX5_digest_336 : decode cX5_digest 336 = .ok (.lload_n 1, 1) := by decide +kernel
theorem dX5_digest_337 : decode cX5_digest 337 = .ok (.lmul, 1) := by decide +kernel
theorem dX5_digest_338 : decode cX5_digest 338 = .ok (.aload_n 0, 1) := by decide +kernel
theorem dX5_digest_339 : decode cX5_digest 339 = .ok (.invokevirtual 169, 3) := by decide +kernel
theorem dX5_digest_342 : decode cX5_digest 342 = .ok (.invokestatic 177, 3) := by decide +kernel
theorem dX5_digest_345 : decode cX5_digest 345 = .ok (.ladd, 1) := by decide +kernel
theorem dX5_digest_346 : decode cX5_digest 346 = .ok (.lstore_n 1, 1) := by decide +kernel
theorem dX5_digest_347 : decode cX5_digest 347 = .ok (.ldc2_w 175, 3) := by decide +kernel
theorem dX5_digest_350 : decode cX5_digest 350 = .ok (.lload_n 1, 1) := by decide +kernel
theorem dX5_digest_351 : decode cX5_digest 351 = .ok (.lmul, 1) := by decide +kernel
theorem dX5_digest_352 : decode cX5_digest 352 = .ok (.aload_n 0, 1) := by decide +kernel
theorem dX5_digest_353 : decode cX5_digest 353 = .ok (.getfield 101, 3) := by decide +kernel
theorem dX5_digest_356 : decode cX5_digest 356 = .ok (.i2l, 1) := by decide +kernel
theorem dX5_digest_357 : decode cX5_digest 357 = .ok (.ladd, 1) := by decide +kernel
theorem dX5_digest_358 : decode cX5_digest 358 = .ok (.lstore_n 1, 1) := by decide +kernel
theorem dX5_digest_359 : decode cX5_digest 359 = .ok (.iconst 0, 1) := by decide +kernel
theorem dX5_digest_360 : decode cX5_digest 360 = .ok (.istore_n 3, 1) := by decide +kernel
theorem dX5_digest_361 : decode cX5_digest 361 = .ok (.iload_n 3, 1) := by decide +kernel
theorem dX5_digest_362 : decode cX5_digest 362 = .ok (.aload_n 0, 1) := by decide +kernel
theorem dX5_digest_363 : decode cX5_digest 363 = .ok (.getfield 101, 3) := by decide +kernel
theorem dX5_digest_366 : decode cX5_digest 366 = .ok (.if_icmp .ge 23, 3) := by decide +kernel
theorem dX5_digest_369 : decode cX5_digest 369 = .ok (.ldc2_w 175, 3) := by decide +kernel
theorem dX5_digest_372 : decode cX5_digest 372 = .ok (.lload_n 1, 1) := by decide +kernel
theorem dX5_digest_373 : decode cX5_digest 373 = .ok (.lmul, 1) := by decide +kernel
theorem dX5_digest_374 : decode cX5_digest 374 = .ok (.aload_n 0, 1) := by decide +kernel
theorem dX5_digest_375 : decode cX5_digest 375 = .ok (.getfield 13, 3) := by decide +kernel
theorem dX5_digest_378 : decode cX5_digest 378 = .ok (.iload_n 3, 1) := by decide +kernel
theorem dX5_digest_379 : decode cX5_digest 379 = .ok (.caload, 1) := by decide +kernel
theorem dX5_digest_380 : decode cX5_digest 380 = .ok (.i2l, 1) := by decide +kernel
theorem dX5_digest_381 : decode cX5_digest 381 = .ok (.ladd, 1) := by decide +kernel
theorem dX5_digest_382 : decode cX5_digest 382 = .ok (.lstore_n 1, 1) := by decide +kernel
theorem dX5_digest_383 : decode cX5_digest 383 = .ok (.iinc 3 1, 3) := by decide +kernel
theorem dX5_digest_386 : decode cX5_digest 386 = .ok (.goto (-25), 3) := by decide +kernel
theorem dX5_digest_389 : decode cX5_digest 389 = .ok (.lload_n 1, 1) := by decide +kernel
theorem dX5_digest_390 : decode cX5_digest 390 = .ok (.lreturn, 1) := by decide +kernel
