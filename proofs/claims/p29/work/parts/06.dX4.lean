set_option maxRecDepth 20000 in
theorem ggX4_init_X2_init : GoodIn wsX4_init wsX2_init := goodIn_r _ [25, 26, 2, 3, 27, 28, 29, 30, 31, 32, 33, 34, 48, 49, 50, 51, 52, 53, 54, 55, 56, 57, 58, 59, 60, 61, 62, 63] (by decide +kernel) (by decide +kernel)
set_option maxRecDepth 20000 in
theorem gX4_init_X2_init : GoodIn wsX4_init (wsX2_init) := ggX4_init_X2_init
set_option maxRecDepth 20000 in
theorem ggX4_init_X0_init : GoodIn wsX4_init wsX0_init := goodIn_r _ [36, 37, 2, 3, 27, 38, 71] (by decide +kernel) (by decide +kernel)
set_option maxRecDepth 20000 in
theorem gX4_init_X0_init_n29 : GoodIn wsX4_init (wsX0_init) := ggX4_init_X0_init
set_option maxRecDepth 20000 in
theorem ggX4_init_X3_init : GoodIn wsX4_init wsX3_init := goodIn_r _ [40, 41, 2, 3, 27, 42, 43, 72, 73] (by decide +kernel) (by decide +kernel)
set_option maxRecDepth 20000 in
theorem gX4_init_X3_init_n36 : GoodIn wsX4_init (wsX3_init) := ggX4_init_X3_init
set_option maxRecDepth 20000 in
theorem ggX4_init_X1_init : GoodIn wsX4_init wsX1_init := goodIn_r _ [45, 46, 2, 3, 27, 47, 74, 75] (by decide +kernel) (by decide +kernel)
set_option maxRecDepth 20000 in
theorem gX4_init_X1_init_n43 : GoodIn wsX4_init (wsX1_init) := ggX4_init_X1_init
theorem dX4_init_0 : decode cX4_init 0 = .ok (.aload_n 0, 1) := by decide +kernel
theorem dX4_init_1 : decode cX4_init 1 = .ok (.invokespecial 1, 3) := by decide +kernel
theorem dX4_init_4 : decode cX4_init 4 = .ok (.aload_n 0, 1) := by decide +kernel
theorem dX4_init_5 : decode cX4_init 5 = .ok (.new 7, 3) := by decide +kernel
theorem dX4_init_8 : decode cX4_init 8 = .ok (.dup, 1) := by decide +kernel
theorem dX4_init_9 : decode cX4_init 9 = .ok (.invokespecial 9, 3) := by decide +kernel
theorem dX4_init_12 : decode cX4_init 12 = .ok (.putfield 10, 3) := by decide +kernel
theorem dX4_init_15 : decode cX4_init 15 = .ok (.aload_n 0, 1) := by decide +kernel
theorem dX4_init_16 : decode cX4_init 16 = .ok (.new 7, 3) := by decide +kernel
theorem dX4_init_19 : decode cX4_init 19 = .ok (.dup, 1) := by decide +kernel
theorem dX4_init_20 : decode cX4_init 20 = .ok (.invokespecial 9, 3) := by decide +kernel
theorem dX4_init_23 : decode cX4_init 23 = .ok (.putfield 16, 3) := by decide +kernel
theorem dX4_init_26 : decode cX4_init 26 = .ok (.aload_n 0, 1) := by decide +kernel
theorem dX4_init_27 : decode cX4_init 27 = .ok (.bipush 6, 2) := by decide +kernel
theorem dX4_init_29 : decode cX4_init 29 = .ok (.anewarray 7, 3) := by decide +kernel
theorem dX4_init_32 : decode cX4_init 32 = .ok (.putfield 19, 3) := by decide +kernel
theorem dX4_init_35 : decode cX4_init 35 = .ok (.iconst 0, 1) := by decide +kernel
theorem dX4_init_36 : decode cX4_init 36 = .ok (.istore_n 1, 1) := by decide +kernel
theorem dX4_init_37 : decode cX4_init 37 = .ok (.iload_n 1, 1) := by decide +kernel
theorem dX4_init_38 : decode cX4_init 38 = .ok (.bipush 6, 2) := by decide +kernel
theorem dX4_init_40 : decode cX4_init 40 = .ok (.if_icmp .ge 22, 3) := by decide +kernel
theorem dX4_init_43 : decode cX4_init 43 = .ok (.aload_n 0, 1) := by decide +kernel
theorem dX4_init_44 : decode cX4_init 44 = .ok (.getfield 19, 3) := by decide +kernel
theorem dX4_init_47 : decode cX4_init 47 = .ok (.iload_n 1, 1) := by decide +kernel
theorem dX4_init_48 : decode cX4_init 48 = .ok (.new 7, 3) := by decide +kernel
theorem dX4_init_51 : decode cX4_init 51 = .ok (.dup, 1) := by decide +kernel
theorem dX4_init_52 : decode cX4_init 52 = .ok (.invokespecial 9, 3) := by decide +kernel
theorem dX4_init_55 : decode cX4_init 55 = .ok (.aastore, 1) := by decide +kernel
theorem dX4_init_56 : decode cX4_init 56 = .ok (.iinc 1 1, 3) := by decide +kernel
theorem dX4_init_59 : decode cX4_init 59 = .ok (.goto (-22), 3) := by decide +kernel
theorem dX4_init_62 : decode cX4_init 62 = .ok (.aload_n 0, 1) := by decide +kernel
theorem dX4_init_63 : decode cX4_init 63 = .ok (.iconst 0, 1) := by decide +kernel
theorem dX4_init_64 : decode cX4_init 64 = .ok (.putfield 23, 3) := by decide +kernel
theorem dX4_init_67 : decode cX4_init 67 = .ok (.aload_n 0, 1) := by decide +kernel
theorem dX4_init_68 : decode cX4_init 68 = .ok (.new 27, 3) := by decide +kernel
theorem dX4_init_71 : decode cX4_init 71 = .ok (.dup, 1) := by decide +kernel
theorem dX4_init_72 : decode cX4_init 72 = .ok (.invokespecial 29, 3) := by decide +kernel
theorem dX4_init_75 : decode cX4_init 75 = .ok (.putfield 30, 3) := by decide +kernel
theorem dX4_init_78 : decode cX4_init 78 = .ok (.aload_n 0, 1) := by decide +kernel
theorem dX4_init_79 : decode cX4_init 79 = .ok (.new 34, 3) := by decide +kernel
theorem dX4_init_82 : decode cX4_init 82 = .ok (.dup, 1) := by decide +kernel
theorem dX4_init_83 : decode cX4_init 83 = .ok (.invokespecial 36, 3) := by decide +kernel
theorem dX4_init_86 : decode cX4_init 86 = .ok (.putfield 37, 3) := by decide +kernel
theorem dX4_init_89 : decode cX4_init 89 = .ok (.aload_n 0, 1) := by decide +kernel
theorem dX4_init_90 : decode cX4_init 90 = .ok (.new 41, 3) := by decide +kernel
theorem dX4_init_93 : decode cX4_init 93 = .ok (.dup, 1) := by decide +kernel
theorem dX4_init_94 : decode cX4_init 94 = .ok (.invokespecial 43, 3) := by decide +kernel
theorem dX4_init_97 : decode cX4_init 97 = .ok (.putfield 44, 3) := by decide +kernel
theorem dX4_init_100 : decode cX4_init 100 = .ok (.return_, 1) := by decide +kernel
set_option maxRecDepth 20000 in
theorem ggX4_keeper_X4_save : GoodIn wsX4_keeper wsX4_save := goodIn_r _ [9, 10, 11, 3, 12, 13, 14, 15, 16, 17, 18, 19, 20, 21, 22, 23, 24, 25, 26, 27, 28, 29, 30, 31, 32, 37, 38, 39, 40, 41, 42, 43, 44, 45, 46, 47, 48, 49, 50, 51, 52, 53, 54, 55, 56, 57, 58, 59] (by decide +kernel) (by decide +kernel)
set_option maxRecDepth 20000 in
theorem gX4_keeper_X4_save : GoodIn wsX4_keeper (wsV RX4 58 RX4 yX4_save wsX4_save) := goodIn_app (goodIn_of _ (by decide +kernel)) ggX4_keeper_X4_save
set_option maxRecDepth 20000 in
theorem ggX4_keeper_X2_addKeeper : GoodIn wsX4_keeper wsX2_addKeeper := goodIn_r _ [36, 17, 18, 44, 45, 46, 47, 48, 49, 50, 51, 52, 53, 54, 55, 56, 57, 58, 59] (by decide +kernel) (by decide +kernel)
set_option maxRecDepth 20000 in
theorem gX4_keeper_X2_addKeeper : GoodIn wsX4_keeper (wsV RX4 61 RX2 yX2_addKeeper wsX2_addKeeper) := goodIn_app (goodIn_of _ (by decide +kernel)) ggX4_keeper_X2_addKeeper
theorem dX4_keeper_0 : decode cX4_keeper 0 = .ok (.aload_n 0, 1) := by decide +kernel
theorem dX4_keeper_1 : decode cX4_keeper 1 = .ok (.getfield 10, 3) := by decide +kernel
theorem dX4_keeper_4 : decode cX4_keeper 4 = .ok (.getfield 48, 3) := by decide +kernel
theorem dX4_keeper_7 : decode cX4_keeper 7 = .ok (.bipush 8, 2) := by decide +kernel
theorem dX4_keeper_9 : decode cX4_keeper 9 = .ok (.if_icmp .lt 13, 3) := by decide +kernel
theorem dX4_keeper_12 : decode cX4_keeper 12 = .ok (.new 51, 3) := by decide +kernel
theorem dX4_keeper_15 : decode cX4_keeper 15 = .ok (.dup, 1) := by decide +kernel
theorem dX4_keeper_16 : decode cX4_keeper 16 = .ok (.ldc 53, 2) := by decide +kernel
theorem dX4_keeper_18 : decode cX4_keeper 18 = .ok (.invokespecial 55, 3) := by decide +kernel
theorem dX4_keeper_21 : decode cX4_keeper 21 = .ok (.athrow, 1) := by decide +kernel
theorem dX4_keeper_22 : decode cX4_keeper 22 = .ok (.aload_n 0, 1) := by decide +kernel
theorem dX4_keeper_23 : decode cX4_keeper 23 = .ok (.invokevirtual 58, 3) := by decide +kernel
theorem dX4_keeper_26 : decode cX4_keeper 26 = .ok (.aload_n 0, 1) := by decide +kernel
theorem dX4_keeper_27 : decode cX4_keeper 27 = .ok (.getfield 10, 3) := by decide +kernel
theorem dX4_keeper_30 : decode cX4_keeper 30 = .ok (.invokevirtual 61, 3) := by decide +kernel
theorem dX4_keeper_33 : decode cX4_keeper 33 = .ok (.ireturn, 1) := by decide +kernel
set_option maxRecDepth 20000 in
theorem ggX4_die_X4_checkKeeper : GoodIn wsX4_die wsX4_checkKeeper := goodIn_ca (goodIn_r _ [8, 9, 10, 3, 11, 12, 13, 14, 15, 16, 52, 53, 54, 55, 56, 57, 58, 59, 60, 61, 62, 63, 64, 65, 66, 67, 68, 69, 70, 71, 72, 73, 74] (by decide +kernel) (by decide +kernel)) (goodIn_sub (fun _ h => List.mem_cons_of_mem _ (List.mem_append_right _ h)) (by decide +kernel))
set_option maxRecDepth 20000 in
theorem gX4_die_X4_checkKeeper : GoodIn wsX4_die (wsV RX4 65 RX4 yX4_checkKeeper wsX4_checkKeeper) := goodIn_app (goodIn_of _ (by decide +kernel)) ggX4_die_X4_checkKeeper
set_option maxRecDepth 20000 in
theorem ggX4_die_X2_lives : GoodIn wsX4_die wsX2_lives := goodIn_r _ [20, 21, 22, 12, 13, 14, 15, 16, 59, 60, 61, 62, 63, 64, 65, 66, 67, 68, 69, 70, 71, 72, 73, 74] (by decide +kernel) (by decide +kernel)
set_option maxRecDepth 20000 in
theorem gX4_die_X2_lives : GoodIn wsX4_die (wsV RX4 69 RX2 yX2_lives wsX2_lives) := goodIn_app (goodIn_of _ (by decide +kernel)) ggX4_die_X2_lives
set_option maxRecDepth 20000 in
theorem ggX4_die_X4_save : GoodIn wsX4_die wsX4_save := goodIn_r _ [26, 27, 28, 3, 29, 30, 31, 14, 32, 16, 21, 33, 34, 35, 36, 37, 38, 39, 40, 41, 42, 43, 44, 45, 46, 52, 53, 54, 55, 56, 57, 58, 59, 60, 61, 62, 63, 64, 65, 66, 67, 68, 69, 70, 71, 72, 73, 74] (by decide +kernel) (by decide +kernel)
set_option maxRecDepth 20000 in
theorem gX4_die_X4_save : GoodIn wsX4_die (wsV RX4 58 RX4 yX4_save wsX4_save) := goodIn_app (goodIn_of _ (by decide +kernel)) ggX4_die_X4_save
set_option maxRecDepth 20000 in
theorem ggX4_die_X2_bury : GoodIn wsX4_die wsX2_bury := goodIn_r _ [50, 21, 33, 36, 51, 18, 19, 14, 20, 22, 12, 13, 15, 16, 59, 60, 61, 62, 63, 64, 65, 66, 67, 68, 69, 70, 71, 72, 73, 74] (by decide +kernel) (by decide +kernel)
set_option maxRecDepth 20000 in
theorem gX4_die_X2_bury : GoodIn wsX4_die (wsV RX4 75 RX2 yX2_bury wsX2_bury) := goodIn_app (goodIn_of _ (by decide +kernel)) ggX4_die_X2_bury
theorem dX4_die_0 : decode cX4_die 0 = .ok (.aload_n 0, 1) := by decide +kernel
theorem dX4_die_1 : decode cX4_die 1 = .ok (.iload_n 1, 1) := by decide +kernel
theorem dX4_die_2 : decode cX4_die 2 = .ok (.invokevirtual 65, 3) := by decide +kernel
theorem dX4_die_5 : decode cX4_die 5 = .ok (.aload_n 0, 1) := by decide +kernel
theorem dX4_die_6 : decode cX4_die 6 = .ok (.getfield 10, 3) := by decide +kernel
theorem dX4_die_9 : decode cX4_die 9 = .ok (.iload_n 1, 1) := by decide +kernel
theorem dX4_die_10 : decode cX4_die 10 = .ok (.invokevirtual 69, 3) := by decide +kernel
theorem dX4_die_13 : decode cX4_die 13 = .ok (.ifCond .ne 13, 3) := by decide +kernel
theorem dX4_die_16 : decode cX4_die 16 = .ok (.new 51, 3) := by decide +kernel
theorem dX4_die_19 : decode cX4_die 19 = .ok (.dup, 1) := by decide +kernel
theorem dX4_die_20 : decode cX4_die 20 = .ok (.ldc 73, 2) := by decide +kernel
theorem dX4_die_22 : decode cX4_die 22 = .ok (.invokespecial 55, 3) := by decide +kernel
theorem dX4_die_25 : decode cX4_die 25 = .ok (.athrow, 1) := by decide +kernel
theorem dX4_die_26 : decode cX4_die 26 = .ok (.aload_n 0, 1) := by decide +kernel
theorem dX4_die_27 : decode cX4_die 27 = .ok (.invokevirtual 58, 3) := by decide +kernel
theorem dX4_die_30 : decode cX4_die 30 = .ok (.aload_n 0, 1) := by decide +kernel
theorem dX4_die_31 : decode cX4_die 31 = .ok (.getfield 10, 3) := by decide +kernel
theorem dX4_die_34 : decode cX4_die 34 = .ok (.iload_n 1, 1) := by decide +kernel
theorem dX4_die_35 : decode cX4_die 35 = .ok (.invokevirtual 75, 3) := by decide +kernel
theorem dX4_die_38 : decode cX4_die 38 = .ok (.ireturn, 1) := by decide +kernel
set_option maxRecDepth 20000 in
theorem ggX4_heir_X4_checkKeeper : GoodIn wsX4_heir wsX4_checkKeeper := goodIn_ca (goodIn_r _ [8, 9, 10, 3, 11, 12, 13, 14, 15, 16, 55, 56, 57, 58, 59, 60, 61, 62, 63, 64, 65, 66, 67, 68, 69, 70, 71, 72, 73, 74, 75, 76, 77] (by decide +kernel) (by decide +kernel)) (goodIn_sub (fun _ h => List.mem_cons_of_mem _ (List.mem_append_right _ h)) (by decide +kernel))
set_option maxRecDepth 20000 in
theorem gX4_heir_X4_checkKeeper : GoodIn wsX4_heir (wsV RX4 65 RX4 yX4_checkKeeper wsX4_checkKeeper) := goodIn_app (goodIn_of _ (by decide +kernel)) ggX4_heir_X4_checkKeeper
set_option maxRecDepth 20000 in
theorem ggX4_heir_X2_mayName : GoodIn wsX4_heir wsX2_mayName := goodIn_r _ [20, 21, 22, 23, 14, 24, 25, 26, 12, 13, 15, 16, 62, 63, 64, 65, 66, 67, 68, 69, 70, 71, 72, 73, 74, 75, 76, 77] (by decide +kernel) (by decide +kernel)
set_option maxRecDepth 20000 in
theorem gX4_heir_X2_mayName : GoodIn wsX4_heir (wsV RX4 79 RX2 yX2_mayName wsX2_mayName) := goodIn_app (goodIn_of _ (by decide +kernel)) ggX4_heir_X2_mayName
set_option maxRecDepth 20000 in
theorem ggX4_heir_X4_save : GoodIn wsX4_heir wsX4_save := goodIn_r _ [30, 31, 32, 3, 33, 34, 35, 14, 36, 16, 25, 37, 38, 39, 40, 41, 42, 43, 44, 45, 46, 47, 48, 49, 50, 55, 56, 57, 58, 59, 60, 61, 62, 63, 64, 65, 66, 67, 68, 69, 70, 71, 72, 73, 74, 75, 76, 77] (by decide +kernel) (by decide +kernel)
set_option maxRecDepth 20000 in
theorem gX4_heir_X4_save : GoodIn wsX4_heir (wsV RX4 58 RX4 yX4_save wsX4_save) := goodIn_app (goodIn_of _ (by decide +kernel)) ggX4_heir_X4_save
set_option maxRecDepth 20000 in
theorem ggX4_heir_X2_nameHeir : GoodIn wsX4_heir wsX2_nameHeir := goodIn_r _ [54, 37, 62, 63, 64, 65, 66, 67, 68, 69, 70, 71, 72, 73, 74, 75, 76, 77] (by decide +kernel) (by decide +kernel)
set_option maxRecDepth 20000 in
theorem gX4_heir_X2_nameHeir : GoodIn wsX4_heir (wsV RX4 85 RX2 yX2_nameHeir wsX2_nameHeir) := goodIn_app (goodIn_of _ (by decide +kernel)) ggX4_heir_X2_nameHeir
theorem dX4_heir_0 : decode cX4_heir 0 = .ok (.aload_n 0, 1) := by decide +kernel
theorem dX4_heir_1 : decode cX4_heir 1 = .ok (.iload_n 1, 1) := by decide +kernel
theorem dX4_heir_2 : decode cX4_heir 2 = .ok (.invokevirtual 65, 3) := by decide +kernel
theorem dX4_heir_5 : decode cX4_heir 5 = .ok (.iload_n 2, 1) := by decide +kernel
theorem dX4_heir_6 : decode cX4_heir 6 = .ok (.iconst (-1), 1) := by decide +kernel
theorem dX4_heir_7 : decode cX4_heir 7 = .ok (.if_icmp .eq 8, 3) := by decide +kernel
theorem dX4_heir_10 : decode cX4_heir 10 = .ok (.aload_n 0, 1) := by decide +kernel
theorem dX4_heir_11 : decode cX4_heir 11 = .ok (.iload_n 2, 1) := by decide +kernel
theorem dX4_heir_12 : decode cX4_heir 12 = .ok (.invokevirtual 65, 3) := by decide +kernel
theorem dX4_heir_15 : decode cX4_heir 15 = .ok (.aload_n 0, 1) := by decide +kernel
theorem dX4_heir_16 : decode cX4_heir 16 = .ok (.getfield 10, 3) := by decide +kernel
theorem dX4_heir_19 : decode cX4_heir 19 = .ok (.iload_n 1, 1) := by decide +kernel
theorem dX4_heir_20 : decode cX4_heir 20 = .ok (.iload_n 2, 1) := by decide +kernel
theorem dX4_heir_21 : decode cX4_heir 21 = .ok (.invokevirtual 79, 3) := by decide +kernel
theorem dX4_heir_24 : decode cX4_heir 24 = .ok (.ifCond .ne 13, 3) := by decide +kernel
theorem dX4_heir_27 : decode cX4_heir 27 = .ok (.new 51, 3) := by decide +kernel
theorem dX4_heir_30 : decode cX4_heir 30 = .ok (.dup, 1) := by decide +kernel
theorem dX4_heir_31 : decode cX4_heir 31 = .ok (.ldc 83, 2) := by decide +kernel
theorem dX4_heir_33 : decode cX4_heir 33 = .ok (.invokespecial 55, 3) := by decide +kernel
theorem dX4_heir_36 : decode cX4_heir 36 = .ok (.athrow, 1) := by decide +kernel
theorem dX4_heir_37 : decode cX4_heir 37 = .ok (.aload_n 0, 1) := by decide +kernel
theorem dX4_heir_38 : decode cX4_heir 38 = .ok (.invokevirtual 58, 3) := by decide +kernel
theorem dX4_heir_41 : decode cX4_heir 41 = .ok (.aload_n 0, 1) := by decide +kernel
theorem dX4_heir_42 : decode cX4_heir 42 = .ok (.getfield 10, 3) := by decide +kernel
theorem dX4_heir_45 : decode cX4_heir 45 = .ok (.iload_n 1, 1) := by decide +kernel
theorem dX4_heir_46 : decode cX4_heir 46 = .ok (.iload_n 2, 1) := by decide +kernel
theorem dX4_heir_47 : decode cX4_heir 47 = .ok (.invokevirtual 85, 3) := by decide +kernel
theorem dX4_heir_50 : decode cX4_heir 50 = .ok (.ireturn, 1) := by decide +kernel
set_option maxRecDepth 20000 in
theorem ggX4_quarrel_X4_checkKeeper : GoodIn wsX4_quarrel wsX4_checkKeeper := goodIn_ca (goodIn_r _ [8, 9, 10, 3, 11, 12, 13, 14, 15, 16, 53, 54, 55, 56, 57, 58, 59, 60, 61, 62, 63, 64, 65, 66, 67, 68, 69, 70, 71, 72, 73, 74, 75] (by decide +kernel) (by decide +kernel)) (goodIn_sub (fun _ h => List.mem_cons_of_mem _ (List.mem_append_right _ h)) (by decide +kernel))
set_option maxRecDepth 20000 in
theorem gX4_quarrel_X4_checkKeeper : GoodIn wsX4_quarrel (wsV RX4 65 RX4 yX4_checkKeeper wsX4_checkKeeper) := goodIn_app (goodIn_of _ (by decide +kernel)) ggX4_quarrel_X4_checkKeeper
set_option maxRecDepth 20000 in
theorem ggX4_quarrel_X4_save : GoodIn wsX4_quarrel wsX4_save := goodIn_r _ [20, 21, 22, 3, 23, 24, 25, 14, 26, 16, 27, 28, 29, 30, 31, 32, 33, 34, 35, 36, 37, 38, 39, 40, 41, 53, 54, 55, 56, 57, 58, 59, 60, 61, 62, 63, 64, 65, 66, 67, 68, 69, 70, 71, 72, 73, 74, 75] (by decide +kernel) (by decide +kernel)
set_option maxRecDepth 20000 in
theorem gX4_quarrel_X4_save : GoodIn wsX4_quarrel (wsV RX4 58 RX4 yX4_save wsX4_save) := goodIn_app (goodIn_of _ (by decide +kernel)) ggX4_quarrel_X4_save
set_option maxRecDepth 20000 in
theorem ggX4_quarrel_X2_toggleQuarrel : GoodIn wsX4_quarrel wsX2_toggleQuarrel := goodIn_r _ [45, 29, 46, 47, 48, 49, 50, 51, 52, 60, 61, 62, 63, 64, 65, 66, 67, 68, 69, 70, 71, 72, 73, 74, 75] (by decide +kernel) (by decide +kernel)
set_option maxRecDepth 20000 in
theorem gX4_quarrel_X2_toggleQuarrel : GoodIn wsX4_quarrel (wsV RX4 91 RX2 yX2_toggleQuarrel wsX2_toggleQuarrel) := goodIn_app (goodIn_of _ (by decide +kernel)) ggX4_quarrel_X2_toggleQuarrel
theorem dX4_quarrel_0 : decode cX4_quarrel 0 = .ok (.aload_n 0, 1) := by decide +kernel
theorem dX4_quarrel_1 : decode cX4_quarrel 1 = .ok (.iload_n 1, 1) := by decide +kernel
theorem dX4_quarrel_2 : decode cX4_quarrel 2 = .ok (.invokevirtual 65, 3) := by decide +kernel
theorem dX4_quarrel_5 : decode cX4_quarrel 5 = .ok (.aload_n 0, 1) := by decide +kernel
theorem dX4_quarrel_6 : decode cX4_quarrel 6 = .ok (.iload_n 2, 1) := by decide +kernel
theorem dX4_quarrel_7 : decode cX4_quarrel 7 = .ok (.invokevirtual 65, 3) := by decide +kernel
theorem dX4_quarrel_10 : decode cX4_quarrel 10 = .ok (.iload_n 1, 1) := by decide +kernel
theorem dX4_quarrel_11 : decode cX4_quarrel 11 = .ok (.iload_n 2, 1) := by decide +kernel
theorem dX4_quarrel_12 : decode cX4_quarrel 12 = .ok (.if_icmp .ne 13, 3) := by decide +kernel
theorem dX4_quarrel_15 : decode cX4_quarrel 15 = .ok (.new 51, 3) := by decide +kernel
theorem dX4_quarrel_18 : decode cX4_quarrel 18 = .ok (.dup, 1) := by decide +kernel
theorem dX4_quarrel_19 : decode cX4_quarrel 19 = .ok (.ldc 89, 2) := by decide +kernel
theorem dX4_quarrel_21 : decode cX4_quarrel 21 = .ok (.invokespecial 55, 3) := by decide +kernel
theorem dX4_quarrel_24 : decode cX4_quarrel 24 = .ok (.athrow, 1) := by decide +kernel
theorem dX4_quarrel_25 : decode cX4_quarrel 25 = .ok (.aload_n 0, 1) := by decide +kernel
theorem dX4_quarrel_26 : decode cX4_quarrel 26 = .ok (.invokevirtual 58, 3) := by decide +kernel
theorem dX4_quarrel_29 : decode cX4_quarrel 29 = .ok (.aload_n 0, 1) := by decide +kernel
theorem dX4_quarrel_30 : decode cX4_quarrel 30 = .ok (.getfield 10, 3) := by decide +kernel
theorem dX4_quarrel_33 : decode cX4_quarrel 33 = .ok (.iload_n 1, 1) := by decide +kernel
theorem dX4_quarrel_34 : decode cX4_quarrel 34 = .ok (.iload_n 2, 1) := by decide +kernel
theorem dX4_quarrel_35 : decode cX4_quarrel 35 = .ok (.invokevirtual 91, 3) := by decide +kernel
theorem dX4_quarrel_38 : decode cX4_quarrel 38 = .ok (.ireturn, 1) := by decide +kernel
set_option maxRecDepth 20000 in
theorem ggX4_seal_X4_checkRange : GoodIn wsX4_seal wsX4_checkRange := goodIn_ca (goodIn_r _ [7, 8, 9] (by decide +kernel) (by decide +kernel)) (goodIn_sub (fun _ h => List.mem_cons_of_mem _ (List.mem_append_right _ h)) (by decide +kernel))
set_option maxRecDepth 20000 in
theorem gX4_seal_X4_checkRange : GoodIn wsX4_seal (va_wsS RX4 94 yX4_checkRange wsX4_checkRange) := goodIn_app (goodIn_of _ (by decide +kernel)) ggX4_seal_X4_checkRange
set_option maxRecDepth 20000 in
theorem ggX4_seal_X2_livingCount : GoodIn wsX4_seal wsX2_livingCount := goodIn_r _ [14, 15, 16, 17, 18, 19, 20, 21, 22, 99, 100, 101, 102, 103, 104, 105, 106, 107, 108, 109, 110, 111, 112, 113, 114] (by decide +kernel) (by decide +kernel)
set_option maxRecDepth 20000 in
theorem gX4_seal_X2_livingCount : GoodIn wsX4_seal (wsV RX4 98 RX2 yX2_livingCount wsX2_livingCount) := goodIn_app (goodIn_of _ (by decide +kernel)) ggX4_seal_X2_livingCount
set_option maxRecDepth 20000 in
theorem ggX4_seal_X4_save : GoodIn wsX4_seal wsX4_save := goodIn_r _ [26, 27, 28, 3, 29, 30, 31, 13, 32, 33, 15, 34, 35, 36, 37, 38, 39, 40, 41, 42, 43, 44, 45, 46, 47, 92, 93, 94, 95, 96, 97, 98, 99, 100, 101, 102, 103, 104, 105, 106, 107, 108, 109, 110, 111, 112, 113, 114] (by decide +kernel) (by decide +kernel)
set_option maxRecDepth 20000 in
theorem gX4_seal_X4_save : GoodIn wsX4_seal (wsV RX4 58 RX4 yX4_save wsX4_save) := goodIn_app (goodIn_of _ (by decide +kernel)) ggX4_seal_X4_save
set_option maxRecDepth 20000 in
theorem ggX4_seal_X2_shut : GoodIn wsX4_seal wsX2_shut := goodIn_r _ [51, 41, 42, 43, 44, 99, 100, 101, 102, 103, 104, 105, 106, 107, 108, 109, 110, 111, 112, 113, 114] (by decide +kernel) (by decide +kernel)
set_option maxRecDepth 20000 in
theorem gX4_seal_X2_shut : GoodIn wsX4_seal (wsV RX4 103 RX2 yX2_shut wsX2_shut) := goodIn_app (goodIn_of _ (by decide +kernel)) ggX4_seal_X2_shut
set_option maxRecDepth 20000 in
theorem ggX4_seal_X4_dealShares : GoodIn wsX4_seal wsX4_dealShares := goodIn_r _ [55, 3, 56, 57, 58, 59, 13, 60, 39, 37, 38, 42, 43, 45, 61, 62, 63, 64, 15, 65, 66, 67, 68, 33, 69, 70, 71, 72, 47, 73, 74, 75, 76, 77, 11, 12, 14, 16, 17, 18, 19, 20, 21, 22, 78, 79, 80, 81, 82, 83, 84, 85, 86, 87, 88, 89, 90, 91, 92, 93, 94, 95, 96, 97, 98, 99, 100, 101, 102, 103, 104, 105, 106, 107, 108, 109, 110, 111, 112, 113, 114, 115] (by decide +kernel) (by decide +kernel)
set_option maxRecDepth 20000 in
theorem gX4_seal_X4_dealShares : GoodIn wsX4_seal (wsV RX4 106 RX4 yX4_dealShares wsX4_dealShares) := goodIn_app (goodIn_of _ (by decide +kernel)) ggX4_seal_X4_dealShares
theorem dX4_seal_0 : decode cX4_seal 0 = .ok (.iload_n 1, 1) := by decide +kernel
theorem dX4_seal_1 : decode cX4_seal 1 = .ok (.iconst 0, 1) := by decide +kernel
theorem dX4_seal_2 : decode cX4_seal 2 = .ok (.sipush 250, 3) := by decide +kernel
theorem dX4_seal_5 : decode cX4_seal 5 = .ok (.invokestatic 94, 3) := by decide +kernel
theorem dX4_seal_8 : decode cX4_seal 8 = .ok (.iload_n 2, 1) := by decide +kernel
theorem dX4_seal_9 : decode cX4_seal 9 = .ok (.iconst 1, 1) := by decide +kernel
theorem dX4_seal_10 : decode cX4_seal 10 = .ok (.bipush 8, 2) := by decide +kernel
theorem dX4_seal_12 : decode cX4_seal 12 = .ok (.invokestatic 94, 3) := by decide +kernel
theorem dX4_seal_15 : decode cX4_seal 15 = .ok (.iload_n 3, 1) := by decide +kernel
theorem dX4_seal_16 : decode cX4_seal 16 = .ok (.iconst 0, 1) := by decide +kernel
theorem dX4_seal_17 : decode cX4_seal 17 = .ok (.sipush 9999, 3) := by decide +kernel
theorem dX4_seal_20 : decode cX4_seal 20 = .ok (.invokestatic 94, 3) := by decide +kernel
theorem dX4_seal_23 : decode cX4_seal 23 = .ok (.aload_n 0, 1) := by decide +kernel
theorem dX4_seal_24 : decode cX4_seal 24 = .ok (.getfield 10, 3) := by decide +kernel
theorem dX4_seal_27 : decode cX4_seal 27 = .ok (.invokevirtual 98, 3) := by decide +kernel
theorem dX4_seal_30 : decode cX4_seal 30 = .ok (.iload_n 2, 1) := by decide +kernel
theorem dX4_seal_31 : decode cX4_seal 31 = .ok (.if_icmp .ge 13, 3) := by decide +kernel
theorem dX4_seal_34 : decode cX4_seal 34 = .ok (.new 51, 3) := by decide +kernel
theorem dX4_seal_37 : decode cX4_seal 37 = .ok (.dup, 1) := by decide +kernel
theorem dX4_seal_38 : decode cX4_seal 38 = .ok (.ldc 101, 2) := by decide +kernel
theorem dX4_seal_40 : decode cX4_seal 40 = .ok (.invokespecial 55, 3) := by decide +kernel
theorem dX4_seal_43 : decode cX4_seal 43 = .ok (.athrow, 1) := by decide +kernel
theorem dX4_seal_44 : decode cX4_seal 44 = .ok (.aload_n 0, 1) := by decide +kernel
theorem dX4_seal_45 : decode cX4_seal 45 = .ok (.invokevirtual 58, 3) := by decide +kernel
theorem dX4_seal_48 : decode cX4_seal 48 = .ok (.aload_n 0, 1) := by decide +kernel
theorem dX4_seal_49 : decode cX4_seal 49 = .ok (.getfield 10, 3) := by decide +kernel
theorem dX4_seal_52 : decode cX4_seal 52 = .ok (.iload_n 1, 1) := by decide +kernel
theorem dX4_seal_53 : decode cX4_seal 53 = .ok (.iload_n 2, 1) := by decide +kernel
theorem dX4_seal_54 : decode cX4_seal 54 = .ok (.iload_n 3, 1) := by decide +kernel
theorem dX4_seal_55 : decode cX4_seal 55 = .ok (.invokevirtual 103, 3) := by decide +kernel
theorem dX4_seal_58 : decode cX4_seal 58 = .ok (.aload_n 0, 1) := by decide +kernel
theorem dX4_seal_59 : decode cX4_seal 59 = .ok (.invokevirtual 106, 3) := by decide +kernel
theorem dX4_seal_62 : decode cX4_seal 62 = .ok (.ireturn, 1) := by decide +kernel
set_option maxRecDepth 20000 in
theorem ggX4_renew_X2_mayRenew : GoodIn wsX4_renew wsX2_mayRenew := goodIn_r _ [8, 9, 10, 11, 12, 13, 7, 14, 15, 16, 17, 18, 19, 20, 21, 22, 93, 94, 95, 96, 97, 98, 99, 100, 101, 102, 103, 104, 105, 106, 107, 108] (by decide +kernel) (by decide +kernel)
set_option maxRecDepth 20000 in
theorem gX4_renew_X2_mayRenew : GoodIn wsX4_renew (wsV RX4 109 RX2 yX2_mayRenew wsX2_mayRenew) := goodIn_app (goodIn_of _ (by decide +kernel)) ggX4_renew_X2_mayRenew
set_option maxRecDepth 20000 in
theorem ggX4_renew_X4_save : GoodIn wsX4_renew wsX4_save := goodIn_r _ [27, 28, 29, 3, 30, 31, 32, 7, 33, 34, 15, 35, 36, 37, 38, 39, 40, 41, 9, 42, 10, 43, 44, 45, 46, 86, 87, 88, 89, 90, 91, 92, 93, 94, 95, 96, 97, 98, 99, 100, 101, 102, 103, 104, 105, 106, 107, 108] (by decide +kernel) (by decide +kernel)
set_option maxRecDepth 20000 in
theorem gX4_renew_X4_save : GoodIn wsX4_renew (wsV RX4 58 RX4 yX4_save wsX4_save) := goodIn_app (goodIn_of _ (by decide +kernel)) ggX4_renew_X4_save
set_option maxRecDepth 20000 in
theorem ggX4_renew_X4_dealShares : GoodIn wsX4_renew wsX4_dealShares := goodIn_r _ [50, 3, 51, 52, 53, 54, 7, 55, 40, 38, 39, 42, 10, 44, 56, 57, 58, 59, 15, 60, 61, 62, 63, 34, 64, 65, 66, 67, 46, 68, 69, 70, 71, 11, 12, 13, 14, 16, 17, 18, 19, 20, 21, 22, 72, 73, 74, 75, 76, 77, 78, 79, 80, 81, 82, 83, 84, 85, 86, 87, 88, 89, 90, 91, 92, 93, 94, 95, 96, 97, 98, 99, 100, 101, 102, 103, 104, 105, 106, 107, 108, 109] (by decide +kernel) (by decide +kernel)
set_option maxRecDepth 20000 in
theorem gX4_renew_X4_dealShares : GoodIn wsX4_renew (wsV RX4 106 RX4 yX4_dealShares wsX4_dealShares) := goodIn_app (goodIn_of _ (by decide +kernel)) ggX4_renew_X4_dealShares
theorem dX4_renew_0 : decode cX4_renew 0 = .ok (.aload_n 0, 1) := by decide +kernel
theorem dX4_renew_1 : decode cX4_renew 1 = .ok (.getfield 10, 3) := by decide +kernel
theorem dX4_renew_4 : decode cX4_renew 4 = .ok (.invokevirtual 109, 3) := by decide +kernel
theorem dX4_renew_7 : decode cX4_renew 7 = .ok (.ifCond .ne 13, 3) := by decide +kernel
theorem dX4_renew_10 : decode cX4_renew 10 = .ok (.new 51, 3) := by decide +kernel
theorem dX4_renew_13 : decode cX4_renew 13 = .ok (.dup, 1) := by decide +kernel
theorem dX4_renew_14 : decode cX4_renew 14 = .ok (.ldc 113, 2) := by decide +kernel
theorem dX4_renew_16 : decode cX4_renew 16 = .ok (.invokespecial 55, 3) := by decide +kernel
theorem dX4_renew_19 : decode cX4_renew 19 = .ok (.athrow, 1) := by decide +kernel
theorem dX4_renew_20 : decode cX4_renew 20 = .ok (.aload_n 0, 1) := by decide +kernel
theorem dX4_renew_21 : decode cX4_renew 21 = .ok (.invokevirtual 58, 3) := by decide +kernel
theorem dX4_renew_24 : decode cX4_renew 24 = .ok (.aload_n 0, 1) := by decide +kernel
theorem dX4_renew_25 : decode cX4_renew 25 = .ok (.invokevirtual 106, 3) := by decide +kernel
theorem dX4_renew_28 : decode cX4_renew 28 = .ok (.ireturn, 1) := by decide +kernel
set_option maxRecDepth 20000 in
theorem ggX4_forge_X4_checkRange : GoodIn wsX4_forge wsX4_checkRange := goodIn_ca (goodIn_r _ [8, 9, 10] (by decide +kernel) (by decide +kernel)) (goodIn_sub (fun _ h => List.mem_cons_of_mem _ (List.mem_append_right _ h)) (by decide +kernel))
set_option maxRecDepth 20000 in
theorem gX4_forge_X4_checkRange : GoodIn wsX4_forge (va_wsS RX4 94 yX4_checkRange wsX4_checkRange) := goodIn_app (goodIn_of _ (by decide +kernel)) ggX4_forge_X4_checkRange
set_option maxRecDepth 20000 in
theorem ggX4_forge_X2_hasShare : GoodIn wsX4_forge wsX2_hasShare := goodIn_r _ [15, 16, 73, 74, 75, 76, 77, 78, 79, 80, 81, 82, 83, 84, 85, 86, 87, 88] (by decide +kernel) (by decide +kernel)
set_option maxRecDepth 20000 in
theorem gX4_forge_X2_hasShare : GoodIn wsX4_forge (wsV RX4 115 RX2 yX2_hasShare wsX2_hasShare) := goodIn_app (goodIn_of _ (by decide +kernel)) ggX4_forge_X2_hasShare
set_option maxRecDepth 20000 in
theorem ggX4_forge_X4_save : GoodIn wsX4_forge wsX4_save := goodIn_r _ [20, 21, 22, 3, 23, 24, 25, 14, 26, 27, 28, 29, 30, 31, 16, 32, 33, 34, 35, 36, 37, 38, 39, 40, 41, 66, 67, 68, 69, 70, 71, 72, 73, 74, 75, 76, 77, 78, 79, 80, 81, 82, 83, 84, 85, 86, 87, 88] (by decide +kernel) (by decide +kernel)
set_option maxRecDepth 20000 in
theorem gX4_forge_X4_save : GoodIn wsX4_forge (wsV RX4 58 RX4 yX4_save wsX4_save) := goodIn_app (goodIn_of _ (by decide +kernel)) ggX4_forge_X4_save
set_option maxRecDepth 20000 in
theorem ggX4_forge_X2_replaceShare : GoodIn wsX4_forge wsX2_replaceShare := goodIn_r _ [45, 32, 33, 73, 74, 75, 76, 77, 78, 79, 80, 81, 82, 83, 84, 85, 86, 87, 88] (by decide +kernel) (by decide +kernel)
set_option maxRecDepth 20000 in
theorem gX4_forge_X2_replaceShare : GoodIn wsX4_forge (wsV RX4 120 RX2 yX2_replaceShare wsX2_replaceShare) := goodIn_app (goodIn_of _ (by decide +kernel)) ggX4_forge_X2_replaceShare
set_option maxRecDepth 20000 in
theorem ggX4_forge_X0_reckon : GoodIn wsX4_forge wsX0_reckon := goodIn_r _ [50, 51, 52, 53, 54, 55, 56, 57, 58, 59, 60, 61, 62, 63, 64, 65, 89, 73, 74, 75, 76, 77, 78, 79, 80, 81, 82, 83, 84, 85, 86, 87, 88] (by decide +kernel) (by decide +kernel)
set_option maxRecDepth 20000 in
theorem gX4_forge_X0_reckon : GoodIn wsX4_forge (wsV RX4 123 RX0 yX0_reckon wsX0_reckon) := goodIn_app (goodIn_of _ (by decide +kernel)) ggX4_forge_X0_reckon
theorem dX4_forge_0 : decode cX4_forge 0 = .ok (.iload_n 1, 1) := by decide +kernel
theorem dX4_forge_1 : decode cX4_forge 1 = .ok (.iconst 0, 1) := by decide +kernel
theorem dX4_forge_2 : decode cX4_forge 2 = .ok (.bipush 7, 2) := by decide +kernel
theorem dX4_forge_4 : decode cX4_forge 4 = .ok (.invokestatic 94, 3) := by decide +kernel
theorem dX4_forge_7 : decode cX4_forge 7 = .ok (.iload_n 2, 1) := by decide +kernel
theorem dX4_forge_8 : decode cX4_forge 8 = .ok (.iconst 0, 1) := by decide +kernel
theorem dX4_forge_9 : decode cX4_forge 9 = .ok (.sipush 250, 3) := by decide +kernel
theorem dX4_forge_12 : decode cX4_forge 12 = .ok (.invokestatic 94, 3) := by decide +kernel
theorem dX4_forge_15 : decode cX4_forge 15 = .ok (.aload_n 0, 1) := by decide +kernel
theorem dX4_forge_16 : decode cX4_forge 16 = .ok (.getfield 10, 3) := by decide +kernel
theorem dX4_forge_19 : decode cX4_forge 19 = .ok (.iload_n 1, 1) := by decide +kernel
theorem dX4_forge_20 : decode cX4_forge 20 = .ok (.invokevirtual 115, 3) := by decide +kernel
theorem dX4_forge_23 : decode cX4_forge 23 = .ok (.ifCond .ne 13, 3) := by decide +kernel
theorem dX4_forge_26 : decode cX4_forge 26 = .ok (.new 51, 3) := by decide +kernel
theorem dX4_forge_29 : decode cX4_forge 29 = .ok (.dup, 1) := by decide +kernel
theorem dX4_forge_30 : decode cX4_forge 30 = .ok (.ldc 118, 2) := by decide +kernel
theorem dX4_forge_32 : decode cX4_forge 32 = .ok (.invokespecial 55, 3) := by decide +kernel
theorem dX4_forge_35 : decode cX4_forge 35 = .ok (.athrow, 1) := by decide +kernel
theorem dX4_forge_36 : decode cX4_forge 36 = .ok (.aload_n 0, 1) := by decide +kernel
theorem dX4_forge_37 : decode cX4_forge 37 = .ok (.invokevirtual 58, 3) := by decide +kernel
theorem dX4_forge_40 : decode cX4_forge 40 = .ok (.aload_n 0, 1) := by decide +kernel
theorem dX4_forge_41 : decode cX4_forge 41 = .ok (.getfield 10, 3) := by decide +kernel
theorem dX4_forge_44 : decode cX4_forge 44 = .ok (.iload_n 1, 1) := by decide +kernel
theorem dX4_forge_45 : decode cX4_forge 45 = .ok (.iload_n 2, 1) := by decide +kernel
theorem dX4_forge_46 : decode cX4_forge 46 = .ok (.invokevirtual 120, 3) := by decide +kernel
theorem dX4_forge_49 : decode cX4_forge 49 = .ok (.istore_n 3, 1) := by decide +kernel
theorem dX4_forge_50 : decode cX4_forge 50 = .ok (.aload_n 0, 1) := by decide +kernel
theorem dX4_forge_51 : decode cX4_forge 51 = .ok (.getfield 30, 3) := by decide +kernel
theorem dX4_forge_54 : decode cX4_forge 54 = .ok (.aload_n 0, 1) := by decide +kernel
theorem dX4_forge_55 : decode cX4_forge 55 = .ok (.getfield 10, 3) := by decide +kernel
theorem dX4_forge_58 : decode cX4_forge 58 = .ok (.invokevirtual 123, 3) := by decide +kernel
theorem dX4_forge_61 : decode cX4_forge 61 = .ok (.iload_n 3, 1) := by decide +kernel
theorem dX4_forge_62 : decode cX4_forge 62 = .ok (.ireturn, 1) := by decide +kernel
set_option maxRecDepth 20000 in
theorem ggX4_pass_X4_checkRange : GoodIn wsX4_pass wsX4_checkRange := goodIn_ca (goodIn_r _ [8, 9, 10] (by decide +kernel) (by decide +kernel)) (goodIn_sub (fun _ h => List.mem_cons_of_mem _ (List.mem_append_right _ h)) (by decide +kernel))
set_option maxRecDepth 20000 in
theorem gX4_pass_X4_checkRange : GoodIn wsX4_pass (va_wsS RX4 94 yX4_checkRange wsX4_checkRange) := goodIn_app (goodIn_of _ (by decide +kernel)) ggX4_pass_X4_checkRange
set_option maxRecDepth 20000 in
theorem ggX4_pass_X2_mayPass : GoodIn wsX4_pass wsX2_mayPass := goodIn_r _ [15, 16, 17, 50, 51, 52, 53, 54, 55, 56, 57, 58, 59, 60, 61, 62, 63, 64, 65] (by decide +kernel) (by decide +kernel)
set_option maxRecDepth 20000 in
theorem gX4_pass_X2_mayPass : GoodIn wsX4_pass (wsV RX4 127 RX2 yX2_mayPass wsX2_mayPass) := goodIn_app (goodIn_of _ (by decide +kernel)) ggX4_pass_X2_mayPass
set_option maxRecDepth 20000 in
theorem ggX4_pass_X4_save : GoodIn wsX4_pass wsX4_save := goodIn_r _ [21, 22, 23, 3, 24, 25, 26, 14, 27, 28, 29, 30, 31, 32, 33, 34, 35, 16, 36, 37, 38, 39, 40, 41, 42, 43, 44, 45, 46, 47, 48, 49, 50, 51, 52, 53, 54, 55, 56, 57, 58, 59, 60, 61, 62, 63, 64, 65] (by decide +kernel) (by decide +kernel)
set_option maxRecDepth 20000 in
theorem gX4_pass_X4_save : GoodIn wsX4_pass (wsV RX4 58 RX4 yX4_save wsX4_save) := goodIn_app (goodIn_of _ (by decide +kernel)) ggX4_pass_X4_save
theorem dX4_pass_0 : decode cX4_pass 0 = .ok (.iload_n 1, 1) := by decide +kernel
theorem dX4_pass_1 : decode cX4_pass 1 = .ok (.iconst 1, 1) := by decide +kernel
theorem dX4_pass_2 : decode cX4_pass 2 = .ok (.sipush 999, 3) := by decide +kernel
theorem dX4_pass_5 : decode cX4_pass 5 = .ok (.invokestatic 94, 3) := by decide +kernel
theorem dX4_pass_8 : decode cX4_pass 8 = .ok (.aload_n 0, 1) := by decide +kernel
theorem dX4_pass_9 : decode cX4_pass 9 = .ok (.getfield 10, 3) := by decide +kernel
theorem dX4_pass_12 : decode cX4_pass 12 = .ok (.iload_n 1, 1) := by decide +kernel
theorem dX4_pass_13 : decode cX4_pass 13 = .ok (.invokevirtual 127, 3) := by decide +kernel
theorem dX4_pass_16 : decode cX4_pass 16 = .ok (.ifCond .ne 13, 3) := by decide +kernel
theorem dX4_pass_19 : decode cX4_pass 19 = .ok (.new 51, 3) := by decide +kernel
theorem dX4_pass_22 : decode cX4_pass 22 = .ok (.dup, 1) := by decide +kernel
theorem dX4_pass_23 : decode cX4_pass 23 = .ok (.ldc 130, 2) := by decide +kernel
theorem dX4_pass_25 : decode cX4_pass 25 = .ok (.invokespecial 55, 3) := by decide +kernel
theorem dX4_pass_28 : decode cX4_pass 28 = .ok (.athrow, 1) := by decide +kernel
theorem dX4_pass_29 : decode cX4_pass 29 = .ok (.aload_n 0, 1) := by decide +kernel
theorem dX4_pass_30 : decode cX4_pass 30 = .ok (.invokevirtual 58, 3) := by decide +kernel
theorem dX4_pass_33 : decode cX4_pass 33 = .ok (.aload_n 0, 1) := by decide +kernel
theorem dX4_pass_34 : decode cX4_pass 34 = .ok (.getfield 10, 3) := by decide +kernel
theorem dX4_pass_37 : decode cX4_pass 37 = .ok (.dup, 1) := by decide +kernel
theorem dX4_pass_38 : decode cX4_pass 38 = .ok (.getfield 132, 3) := by decide +kernel
theorem dX4_pass_41 : decode cX4_pass 41 = .ok (.iload_n 1, 1) := by decide +kernel
theorem dX4_pass_42 : decode cX4_pass 42 = .ok (.iadd, 1) := by decide +kernel
theorem dX4_pass_43 : decode cX4_pass 43 = .ok (.putfield 132, 3) := by decide +kernel
theorem dX4_pass_46 : decode cX4_pass 46 = .ok (.aload_n 0, 1) := by decide +kernel
theorem dX4_pass_47 : decode cX4_pass 47 = .ok (.getfield 10, 3) := by decide +kernel
theorem dX4_pass_50 : decode cX4_pass 50 = .ok (.getfield 132, 3) := by decide +kernel
theorem dX4_pass_53 : decode cX4_pass 53 = .ok (.ireturn, 1) := by decide +kernel
set_option maxRecDepth 20000 in
theorem ggX4_open_X4_checkGroup : GoodIn wsX4_open wsX4_checkGroup := goodIn_ca (goodIn_r _ [6, 7, 8, 1, 9, 10, 11, 12, 13, 14, 93, 94, 95, 96, 97, 98, 99, 100, 101, 102, 103, 104, 105, 106, 107, 108, 109, 110, 111, 112, 113, 114, 115] (by decide +kernel) (by decide +kernel)) (goodIn_sub (fun _ h => List.mem_cons_of_mem _ (List.mem_append_right _ h)) (by decide +kernel))
set_option maxRecDepth 20000 in
theorem gX4_open_X4_checkGroup : GoodIn wsX4_open (wsV RX4 135 RX4 yX4_checkGroup wsX4_checkGroup) := goodIn_app (goodIn_of _ (by decide +kernel)) ggX4_open_X4_checkGroup
set_option maxRecDepth 20000 in
theorem ggX4_open_X4_save : GoodIn wsX4_open wsX4_save := goodIn_r _ [18, 19, 20, 1, 21, 22, 23, 12, 24, 14, 25, 26, 27, 28, 29, 30, 31, 32, 33, 34, 35, 36, 37, 38, 39, 93, 94, 95, 96, 97, 98, 99, 100, 101, 102, 103, 104, 105, 106, 107, 108, 109, 110, 111, 112, 113, 114, 115] (by decide +kernel) (by decide +kernel)
set_option maxRecDepth 20000 in
theorem gX4_open_X4_save : GoodIn wsX4_open (wsV RX4 58 RX4 yX4_save wsX4_save) := goodIn_app (goodIn_of _ (by decide +kernel)) ggX4_open_X4_save
set_option maxRecDepth 20000 in
theorem ggX4_open_X4_refusal : GoodIn wsX4_open wsX4_refusal := goodIn_r _ [43, 44, 1, 45, 46, 47, 48, 49, 50, 51, 52, 53, 54, 55, 56, 57, 58, 59, 60, 61, 12, 62, 29, 63, 64, 65, 66, 67, 68, 69, 70, 71, 72, 73, 25, 74, 75, 76, 77, 78, 79, 80, 81, 82, 83, 84, 85, 86, 87, 88, 93, 94, 95, 96, 97, 98, 99, 100, 101, 102, 103, 104, 105, 106, 107, 108, 109, 110, 111, 112, 113, 114, 115, 116, 117, 118] (by decide +kernel) (by decide +kernel)
set_option maxRecDepth 20000 in
theorem gX4_open_X4_refusal : GoodIn wsX4_open (wsV RX4 138 RX4 yX4_refusal wsX4_refusal) := goodIn_app (goodIn_of _ (by decide +kernel)) ggX4_open_X4_refusal
set_option maxRecDepth 20000 in
theorem ggX4_open_X2_countTry : GoodIn wsX4_open wsX2_countTry := goodIn_r _ [92, 28, 33, 38, 100, 101, 102, 103, 104, 105, 106, 107, 108, 109, 110, 111, 112, 113, 114, 115] (by decide +kernel) (by decide +kernel)
set_option maxRecDepth 20000 in
theorem gX4_open_X2_countTry : GoodIn wsX4_open (wsV RX4 141 RX2 yX2_countTry wsX2_countTry) := goodIn_app (goodIn_of _ (by decide +kernel)) ggX4_open_X2_countTry
theorem dX4_open_0 : decode cX4_open 0 = .ok (.aload_n 0, 1) := by decide +kernel
theorem dX4_open_1 : decode cX4_open 1 = .ok (.iload_n 1, 1) := by decide +kernel
theorem dX4_open_2 : decode cX4_open 2 = .ok (.invokevirtual 135, 3) := by decide +kernel
theorem dX4_open_5 : decode cX4_open 5 = .ok (.aload_n 0, 1) := by decide +kernel
theorem dX4_open_6 : decode cX4_open 6 = .ok (.invokevirtual 58, 3) := by decide +kernel
theorem dX4_open_9 : decode cX4_open 9 = .ok (.aload_n 0, 1) := by decide +kernel
theorem dX4_open_10 : decode cX4_open 10 = .ok (.iload_n 1, 1) := by decide +kernel
theorem dX4_open_11 : decode cX4_open 11 = .ok (.invokevirtual 138, 3) := by decide +kernel
theorem dX4_open_14 : decode cX4_open 14 = .ok (.istore_n 2, 1) := by decide +kernel
theorem dX4_open_15 : decode cX4_open 15 = .ok (.aload_n 0, 1) := by decide +kernel
theorem dX4_open_16 : decode cX4_open 16 = .ok (.getfield 10, 3) := by decide +kernel
theorem dX4_open_19 : decode cX4_open 19 = .ok (.iload_n 1, 1) := by decide +kernel
theorem dX4_open_20 : decode cX4_open 20 = .ok (.iload_n 2, 1) := by decide +kernel
theorem dX4_open_21 : decode cX4_open 21 = .ok (.ifCond .ne 7, 3) := by decide +kernel
theorem dX4_open_24 : decode cX4_open 24 = .ok (.iconst 1, 1) := by decide +kernel
theorem dX4_open_25 : decode cX4_open 25 = .ok (.goto 4, 3) := by decide +kernel
theorem dX4_open_28 : decode cX4_open 28 = .ok (.iconst 0, 1) := by decide +kernel
theorem dX4_open_29 : decode cX4_open 29 = .ok (.invokevirtual 141, 3) := by decide +kernel
theorem dX4_open_32 : decode cX4_open 32 = .ok (.iload_n 2, 1) := by decide +kernel
theorem dX4_open_33 : decode cX4_open 33 = .ok (.ireturn, 1) := by decide +kernel
set_option maxRecDepth 20000 in
theorem ggX4_append_X4_checkRange : GoodIn wsX4_append wsX4_checkRange := goodIn_ca (goodIn_r _ [7, 8, 9] (by decide +kernel) (by decide +kernel)) (goodIn_sub (fun _ h => List.mem_cons_of_mem _ (List.mem_append_right _ h)) (by decide +kernel))
set_option maxRecDepth 20000 in
theorem gX4_append_X4_checkRange : GoodIn wsX4_append (va_wsS RX4 94 yX4_checkRange wsX4_checkRange) := goodIn_app (goodIn_of _ (by decide +kernel)) ggX4_append_X4_checkRange
set_option maxRecDepth 20000 in
theorem ggX4_append_X1_add : GoodIn wsX4_append wsX1_add := goodIn_r _ [14, 15, 16, 24, 25] (by decide +kernel) (by decide +kernel)
set_option maxRecDepth 20000 in
theorem gX4_append_X1_add : GoodIn wsX4_append (wsV RX4 150 RX1 yX1_add wsX1_add) := goodIn_app (goodIn_of _ (by decide +kernel)) ggX4_append_X1_add
theorem dX4_append_0 : decode cX4_append 0 = .ok (.iload_n 1, 1) := by decide +kernel
theorem dX4_append_1 : decode cX4_append 1 = .ok (.bipush 33, 2) := by decide +kernel
theorem dX4_append_3 : decode cX4_append 3 = .ok (.bipush 126, 2) := by decide +kernel
theorem dX4_append_5 : decode cX4_append 5 = .ok (.invokestatic 94, 3) := by decide +kernel
theorem dX4_append_8 : decode cX4_append 8 = .ok (.aload_n 0, 1) := by decide +kernel
theorem dX4_append_9 : decode cX4_append 9 = .ok (.getfield 44, 3) := by decide +kernel
theorem dX4_append_12 : decode cX4_append 12 = .ok (.getfield 145, 3) := by decide +kernel
theorem dX4_append_15 : decode cX4_append 15 = .ok (.bipush 60, 2) := by decide +kernel
theorem dX4_append_17 : decode cX4_append 17 = .ok (.if_icmp .lt 13, 3) := by decide +kernel
theorem dX4_append_20 : decode cX4_append 20 = .ok (.new 51, 3) := by decide +kernel
theorem dX4_append_23 : decode cX4_append 23 = .ok (.dup, 1) := by decide +kernel
theorem dX4_append_24 : decode cX4_append 24 = .ok (.ldc 148, 2) := by decide +kernel
theorem dX4_append_26 : decode cX4_append 26 = .ok (.invokespecial 55, 3) := by decide +kernel
theorem dX4_append_29 : decode cX4_append 29 = .ok (.athrow, 1) := by decide +kernel
theorem dX4_append_30 : decode cX4_append 30 = .ok (.aload_n 0, 1) := by decide +kernel
theorem dX4_append_31 : decode cX4_append 31 = .ok (.getfield 44, 3) := by decide +kernel
theorem dX4_append_34 : decode cX4_append 34 = .ok (.iload_n 1, 1) := by decide +kernel
theorem dX4_append_35 : decode cX4_append 35 = .ok (.invokevirtual 150, 3) := by decide +kernel
theorem dX4_append_38 : decode cX4_append 38 = .ok (.ireturn, 1) := by decide +kernel
set_option maxRecDepth 20000 in
theorem ggX4_firstError_X1_errorIndex : GoodIn wsX4_firstError wsX1_errorIndex := goodIn_r _ [6, 7, 8, 9, 10, 5, 11, 12, 13, 14, 15, 16, 17, 18, 19, 20, 21, 22, 23, 24, 25, 26, 27, 35, 36] (by decide +kernel) (by decide +kernel)
set_option maxRecDepth 20000 in
theorem gX4_firstError_X1_errorIndex : GoodIn wsX4_firstError (wsV RX4 156 RX1 yX1_errorIndex wsX1_errorIndex) := goodIn_app (goodIn_of _ (by decide +kernel)) ggX4_firstError_X1_errorIndex
theorem dX4_firstError_0 : decode cX4_firstError 0 = .ok (.aload_n 0, 1) := by decide +kernel
theorem dX4_firstError_1 : decode cX4_firstError 1 = .ok (.getfield 44, 3) := by decide +kernel
theorem dX4_firstError_4 : decode cX4_firstError 4 = .ok (.invokevirtual 156, 3) := by decide +kernel
theorem dX4_firstError_7 : decode cX4_firstError 7 = .ok (.ireturn, 1) := by decide +kernel
set_option maxRecDepth 20000 in
theorem ggX4_live_X1_isWhole : GoodIn wsX4_live wsX1_isWhole := goodIn_r _ [8, 9, 10, 11, 12, 7, 13, 14, 15, 16, 17, 18, 19, 20, 21, 22, 23, 24, 25, 26, 27, 28, 29, 185, 186] (by decide +kernel) (by decide +kernel)
set_option maxRecDepth 20000 in
theorem gX4_live_X1_isWhole : GoodIn wsX4_live (wsV RX4 159 RX1 yX1_isWhole wsX1_isWhole) := goodIn_app (goodIn_of _ (by decide +kernel)) ggX4_live_X1_isWhole
set_option maxRecDepth 20000 in
theorem ggX4_live_X4_save : GoodIn wsX4_live wsX4_save := goodIn_r _ [34, 35, 36, 37, 38, 39, 40, 41, 42, 43, 44, 45, 46, 47, 48, 49, 50, 51, 52, 53, 54, 55, 56, 57, 58, 178, 179, 180, 181, 182, 183, 184, 187, 188, 189, 190, 191, 192, 193, 194, 195, 196, 197, 198, 199, 200, 201, 202] (by decide +kernel) (by decide +kernel)
set_option maxRecDepth 20000 in
theorem gX4_live_X4_save : GoodIn wsX4_live (wsV RX4 58 RX4 yX4_save wsX4_save) := goodIn_app (goodIn_of _ (by decide +kernel)) ggX4_live_X4_save
set_option maxRecDepth 20000 in
theorem ggX4_live_X1_beginsOrder : GoodIn wsX4_live wsX1_beginsOrder := goodIn_r _ [62, 10, 11, 12, 7, 13, 9, 14, 185, 186] (by decide +kernel) (by decide +kernel)
set_option maxRecDepth 20000 in
theorem gX4_live_X1_beginsOrder : GoodIn wsX4_live (wsV RX4 167 RX1 yX1_beginsOrder wsX1_beginsOrder) := goodIn_app (goodIn_of _ (by decide +kernel)) ggX4_live_X1_beginsOrder
set_option maxRecDepth 20000 in
theorem ggX4_live_X4_carryOut : GoodIn wsX4_live wsX4_carryOut := goodIn_r _ [66, 3, 67, 68, 69, 7, 70, 10, 11, 12, 13, 9, 14, 21, 22, 23, 71, 72, 73, 74, 33, 75, 37, 76, 77, 78, 41, 79, 44, 80, 81, 82, 83, 43, 84, 85, 86, 87, 45, 48, 88, 89, 90, 91, 92, 93, 94, 95, 96, 97, 46, 98, 99, 100, 101, 102, 103, 104, 105, 106, 107, 108, 109, 110, 111, 112, 113, 114, 115, 116, 117, 118, 119, 120, 24, 25, 26, 121, 122, 123, 124, 125, 126, 127, 128, 129, 51, 130, 131, 132, 133, 134, 135, 136, 137, 138, 52, 54, 139, 140, 141, 142, 143, 144, 145, 146, 147, 148, 149, 150, 151, 50, 49, 53, 56, 152, 153, 154, 155, 58, 156, 157, 158, 159, 160, 161, 162, 163, 164, 165, 166, 167, 168, 169, 170, 171, 172, 173, 178, 179, 180, 181, 182, 183, 184, 185, 186, 187, 188, 189, 190, 191, 192, 193, 194, 195, 196, 197, 198, 199, 200, 201, 202, 203] (by decide +kernel) (by decide +kernel)
set_option maxRecDepth 20000 in
theorem gX4_live_X4_carryOut : GoodIn wsX4_live (wsV RX4 170 RX4 yX4_carryOut wsX4_carryOut) := goodIn_app (goodIn_of _ (by decide +kernel)) ggX4_live_X4_carryOut
set_option maxRecDepth 20000 in
theorem ggX4_live_X1_empty : GoodIn wsX4_live wsX1_empty := goodIn_r _ [177, 9, 185, 186] (by decide +kernel) (by decide +kernel)
set_option maxRecDepth 20000 in
theorem gX4_live_X1_empty : GoodIn wsX4_live (wsV RX4 153 RX1 yX1_empty wsX1_empty) := goodIn_app (goodIn_of _ (by decide +kernel)) ggX4_live_X1_empty
theorem dX4_live_0 : decode cX4_live 0 = .ok (.aload_n 0, 1) := by decide +kernel
theorem dX4_live_1 : decode cX4_live 1 = .ok (.getfield 44, 3) := by decide +kernel
theorem dX4_live_4 : decode cX4_live 4 = .ok (.invokevirtual 159, 3) := by decide +kernel
theorem dX4_live_7 : decode cX4_live 7 = .ok (.ifCond .ne 13, 3) := by decide +kernel
theorem dX4_live_10 : decode cX4_live 10 = .ok (.new 162, 3) := by decide +kernel
theorem dX4_live_13 : decode cX4_live 13 = .ok (.dup, 1) := by decide +kernel
theorem dX4_live_14 : decode cX4_live 14 = .ok (.ldc 164, 2) := by decide +kernel
theorem dX4_live_16 : decode cX4_live 16 = .ok (.invokespecial 166, 3) := by decide +kernel
theorem dX4_live_19 : decode cX4_live 19 = .ok (.athrow, 1) := by decide +kernel
theorem dX4_live_20 : decode cX4_live 20 = .ok (.aload_n 0, 1) := by decide +kernel
theorem dX4_live_21 : decode cX4_live 21 = .ok (.invokevirtual 58, 3) := by decide +kernel
theorem dX4_live_24 : decode cX4_live 24 = .ok (.iconst 0, 1) := by decide +kernel
theorem dX4_live_25 : decode cX4_live 25 = .ok (.istore_n 1, 1) := by decide +kernel
theorem dX4_live_26 : decode cX4_live 26 = .ok (.iconst 0, 1) := by decide +kernel
theorem dX4_live_27 : decode cX4_live 27 = .ok (.istore_n 2, 1) := by decide +kernel
theorem dX4_live_28 : decode cX4_live 28 = .ok (.iload_n 2, 1) := by decide +kernel
theorem dX4_live_29 : decode cX4_live 29 = .ok (.aload_n 0, 1) := by decide +kernel
theorem dX4_live_30 : decode cX4_live 30 = .ok (.getfield 44, 3) := by decide +kernel
theorem dX4_live_33 : decode cX4_live 33 = .ok (.getfield 145, 3) := by decide +kernel
theorem dX4_live_36 : decode cX4_live 36 = .ok (.if_icmp .ge 34, 3) := by decide +kernel
theorem dX4_live_39 : decode cX4_live 39 = .ok (.aload_n 0, 1) := by decide +kernel
theorem dX4_live_40 : decode cX4_live 40 = .ok (.getfield 44, 3) := by decide +kernel
theorem dX4_live_43 : decode cX4_live 43 = .ok (.iload_n 2, 1) := by decide +kernel
theorem dX4_live_44 : decode cX4_live 44 = .ok (.invokevirtual 167, 3) := by decide +kernel
theorem dX4_live_47 : decode cX4_live 47 = .ok (.ifCond .eq 17, 3) := by decide +kernel
theorem dX4_live_50 : decode cX4_live 50 = .ok (.aload_n 0, 1) := by decide +kernel
theorem dX4_live_51 : decode cX4_live 51 = .ok (.iload_n 2, 1) := by decide +kernel
theorem dX4_live_52 : decode cX4_live 52 = .ok (.invokevirtual 170, 3) := by decide +kernel
theorem dX4_live_55 : decode cX4_live 55 = .ok (.ifCond .ne 6, 3) := by decide +kernel
theorem dX4_live_58 : decode cX4_live 58 = .ok (.goto 12, 3) := by decide +kernel
theorem dX4_live_61 : decode cX4_live 61 = .ok (.iinc 1 1, 3) := by decide +kernel
theorem dX4_live_64 : decode cX4_live 64 = .ok (.iinc 2 1, 3) := by decide +kernel
theorem dX4_live_67 : decode cX4_live 67 = .ok (.goto (-39), 3) := by decide +kernel
theorem dX4_live_70 : decode cX4_live 70 = .ok (.aload_n 0, 1) := by decide +kernel
theorem dX4_live_71 : decode cX4_live 71 = .ok (.getfield 44, 3) := by decide +kernel
theorem dX4_live_74 : decode cX4_live 74 = .ok (.invokevirtual 153, 3) := by decide +kernel
theorem dX4_live_77 : decode cX4_live 77 = .ok (.pop, 1) := by decide +kernel
theorem dX4_live_78 : decode cX4_live 78 = .ok (.iload_n 1, 1) := by decide +kernel
theorem dX4_live_79 : decode cX4_live 79 = .ok (.ireturn, 1) := by decide +kernel
set_option maxRecDepth 20000 in
theorem ggX4_undo_X2_copyFrom : GoodIn wsX4_undo wsX2_copyFrom := goodIn_r _ [11, 12, 13, 14, 15, 16, 17, 18, 19, 20, 21, 22, 23, 24, 25, 26, 27, 55, 56, 57, 58, 59, 60, 61, 62, 63, 64, 65, 66, 67, 68, 69, 70] (by decide +kernel) (by decide +kernel)
set_option maxRecDepth 20000 in
theorem gX4_undo_X2_copyFrom : GoodIn wsX4_undo (wsV RX4 175 RX2 yX2_copyFrom wsX2_copyFrom) := goodIn_app (goodIn_of _ (by decide +kernel)) ggX4_undo_X2_copyFrom
set_option maxRecDepth 20000 in
theorem ggX4_undo_X0_reckon : GoodIn wsX4_undo wsX0_reckon := goodIn_r _ [32, 33, 34, 35, 36, 37, 38, 39, 40, 41, 42, 43, 44, 45, 46, 47, 71, 55, 56, 57, 58, 59, 60, 61, 62, 63, 64, 65, 66, 67, 68, 69, 70] (by decide +kernel) (by decide +kernel)
set_option maxRecDepth 20000 in
theorem gX4_undo_X0_reckon : GoodIn wsX4_undo (wsV RX4 123 RX0 yX0_reckon wsX0_reckon) := goodIn_app (goodIn_of _ (by decide +kernel)) ggX4_undo_X0_reckon
theorem dX4_undo_0 : decode cX4_undo 0 = .ok (.aload_n 0, 1) := by decide +kernel
theorem dX4_undo_1 : decode cX4_undo 1 = .ok (.getfield 23, 3) := by decide +kernel
theorem dX4_undo_4 : decode cX4_undo 4 = .ok (.iconst 1, 1) := by decide +kernel
theorem dX4_undo_5 : decode cX4_undo 5 = .ok (.if_icmp .lt 12, 3) := by decide +kernel
theorem dX4_undo_8 : decode cX4_undo 8 = .ok (.aload_n 0, 1) := by decide +kernel
theorem dX4_undo_9 : decode cX4_undo 9 = .ok (.getfield 23, 3) := by decide +kernel
theorem dX4_undo_12 : decode cX4_undo 12 = .ok (.bipush 6, 2) := by decide +kernel
theorem dX4_undo_14 : decode cX4_undo 14 = .ok (.if_icmp .le 13, 3) := by decide +kernel
theorem dX4_undo_17 : decode cX4_undo 17 = .ok (.new 51, 3) := by decide +kernel
theorem dX4_undo_20 : decode cX4_undo 20 = .ok (.dup, 1) := by decide +kernel
theorem dX4_undo_21 : decode cX4_undo 21 = .ok (.ldc 173, 2) := by decide +kernel
theorem dX4_undo_23 : decode cX4_undo 23 = .ok (.invokespecial 55, 3) := by decide +kernel
theorem dX4_undo_26 : decode cX4_undo 26 = .ok (.athrow, 1) := by decide +kernel
theorem dX4_undo_27 : decode cX4_undo 27 = .ok (.aload_n 0, 1) := by decide +kernel
theorem dX4_undo_28 : decode cX4_undo 28 = .ok (.dup, 1) := by decide +kernel
theorem dX4_undo_29 : decode cX4_undo 29 = .ok (.getfield 23, 3) := by decide +kernel
theorem dX4_undo_32 : decode cX4_undo 32 = .ok (.iconst 1, 1) := by decide +kernel
theorem dX4_undo_33 : decode cX4_undo 33 = .ok (.isub, 1) := by decide +kernel
theorem dX4_undo_34 : decode cX4_undo 34 = .ok (.putfield 23, 3) := by decide +kernel
theorem dX4_undo_37 : decode cX4_undo 37 = .ok (.aload_n 0, 1) := by decide +kernel
theorem dX4_undo_38 : decode cX4_undo 38 = .ok (.getfield 10, 3) := by decide +kernel
theorem dX4_undo_41 : decode cX4_undo 41 = .ok (.aload_n 0, 1) := by decide +kernel
theorem dX4_undo_42 : decode cX4_undo 42 = .ok (.getfield 19, 3) := by decide +kernel
theorem dX4_undo_45 : decode cX4_undo 45 = .ok (.aload_n 0, 1) := by decide +kernel
theorem dX4_undo_46 : decode cX4_undo 46 = .ok (.getfield 23, 3) := by decide +kernel
theorem dX4_undo_49 : decode cX4_undo 49 = .ok (.aaload, 1) := by decide +kernel
theorem dX4_undo_50 : decode cX4_undo 50 = .ok (.invokevirtual 175, 3) := by decide +kernel
theorem dX4_undo_53 : decode cX4_undo 53 = .ok (.aload_n 0, 1) := by decide +kernel
theorem dX4_undo_54 : decode cX4_undo 54 = .ok (.getfield 30, 3) := by decide +kernel
theorem dX4_undo_57 : decode cX4_undo 57 = .ok (.aload_n 0, 1) := by decide +kernel
theorem dX4_undo_58 : decode cX4_undo 58 = .ok (.getfield 10, 3) := by decide +kernel
theorem dX4_undo_61 : decode cX4_undo 61 = .ok (.invokevirtual 123, 3) := by decide +kernel
theorem dX4_undo_64 : decode cX4_undo 64 = .ok (.aload_n 0, 1) := by decide +kernel
theorem dX4_undo_65 : decode cX4_undo 65 = .ok (.getfield 23, 3) := by decide +kernel
theorem dX4_undo_68 : decode cX4_undo 68 = .ok (.ireturn, 1) := by decide +kernel
set_option maxRecDepth 20000 in
theorem ggX4_keeperOf_X4_checkKeeper : GoodIn wsX4_keeperOf wsX4_checkKeeper := goodIn_ca (goodIn_r _ [11, 12, 13, 3, 14, 15, 16, 17, 18, 19, 31, 32, 33, 34, 35, 36, 37, 38, 39, 40, 41, 42, 43, 44, 45, 46, 47, 48, 49, 50, 51, 52, 53] (by decide +kernel) (by decide +kernel)) (goodIn_sub (fun _ h => List.mem_cons_of_mem _ (List.mem_append_right _ h)) (by decide +kernel))
set_option maxRecDepth 20000 in
theorem gX4_keeperOf_X4_checkKeeper : GoodIn wsX4_keeperOf (wsV RX4 65 RX4 yX4_checkKeeper wsX4_checkKeeper) := goodIn_app (goodIn_of _ (by decide +kernel)) ggX4_keeperOf_X4_checkKeeper
set_option maxRecDepth 20000 in
theorem ggX4_keeperOf_X2_lives : GoodIn wsX4_keeperOf wsX2_lives := goodIn_r _ [23, 24, 25, 15, 16, 17, 18, 19, 38, 39, 40, 41, 42, 43, 44, 45, 46, 47, 48, 49, 50, 51, 52, 53] (by decide +kernel) (by decide +kernel)
set_option maxRecDepth 20000 in
theorem gX4_keeperOf_X2_lives : GoodIn wsX4_keeperOf (wsV RX4 69 RX2 yX2_lives wsX2_lives) := goodIn_app (goodIn_of _ (by decide +kernel)) ggX4_keeperOf_X2_lives
set_option maxRecDepth 20000 in
theorem ggX4_keeperOf_X2_ownedBy : GoodIn wsX4_keeperOf wsX2_ownedBy := goodIn_r _ [29, 30, 38, 39, 40, 41, 42, 43, 44, 45, 46, 47, 48, 49, 50, 51, 52, 53] (by decide +kernel) (by decide +kernel)
set_option maxRecDepth 20000 in
theorem gX4_keeperOf_X2_ownedBy : GoodIn wsX4_keeperOf (wsV RX4 182 RX2 yX2_ownedBy wsX2_ownedBy) := goodIn_app (goodIn_of _ (by decide +kernel)) ggX4_keeperOf_X2_ownedBy
theorem dX4_keeperOf_0 : decode cX4_keeperOf 0 = .ok (.aload_n 0, 1) := by decide +kernel
theorem dX4_keeperOf_1 : decode cX4_keeperOf 1 = .ok (.iload_n 1, 1) := by decide +kernel
theorem dX4_keeperOf_2 : decode cX4_keeperOf 2 = .ok (.invokevirtual 65, 3) := by decide +kernel
theorem dX4_keeperOf_5 : decode cX4_keeperOf 5 = .ok (.iload_n 2, 1) := by decide +kernel
theorem dX4_keeperOf_6 : decode cX4_keeperOf 6 = .ok (.tableswitch 90 0 4 #[34, 51, 61, 70, 80], 34) := by decide +kernel
theorem dX4_keeperOf_40 : decode cX4_keeperOf 40 = .ok (.aload_n 0, 1) := by decide +kernel
theorem dX4_keeperOf_41 : decode cX4_keeperOf 41 = .ok (.getfield 10, 3) := by decide +kernel
theorem dX4_keeperOf_44 : decode cX4_keeperOf 44 = .ok (.iload_n 1, 1) := by decide +kernel
theorem dX4_keeperOf_45 : decode cX4_keeperOf 45 = .ok (.invokevirtual 69, 3) := by decide +kernel
theorem dX4_keeperOf_48 : decode cX4_keeperOf 48 = .ok (.ifCond .eq 7, 3) := by decide +kernel
theorem dX4_keeperOf_51 : decode cX4_keeperOf 51 = .ok (.iconst 1, 1) := by decide +kernel
theorem dX4_keeperOf_52 : decode cX4_keeperOf 52 = .ok (.goto 4, 3) := by decide +kernel
theorem dX4_keeperOf_55 : decode cX4_keeperOf 55 = .ok (.iconst 0, 1) := by decide +kernel
theorem dX4_keeperOf_56 : decode cX4_keeperOf 56 = .ok (.ireturn, 1) := by decide +kernel
theorem dX4_keeperOf_57 : decode cX4_keeperOf 57 = .ok (.aload_n 0, 1) := by decide +kernel
theorem dX4_keeperOf_58 : decode cX4_keeperOf 58 = .ok (.getfield 10, 3) := by decide +kernel
theorem dX4_keeperOf_61 : decode cX4_keeperOf 61 = .ok (.getfield 178, 3) := by decide +kernel
theorem dX4_keeperOf_64 : decode cX4_keeperOf 64 = .ok (.iload_n 1, 1) := by decide +kernel
theorem dX4_keeperOf_65 : decode cX4_keeperOf 65 = .ok (.iaload, 1) := by decide +kernel
theorem dX4_keeperOf_66 : decode cX4_keeperOf 66 = .ok (.ireturn, 1) := by decide +kernel
theorem dX4_keeperOf_67 : decode cX4_keeperOf 67 = .ok (.aload_n 0, 1) := by decide +kernel
theorem dX4_keeperOf_68 : decode cX4_keeperOf 68 = .ok (.getfield 10, 3) := by decide +kernel
theorem dX4_keeperOf_71 : decode cX4_keeperOf 71 = .ok (.iload_n 1, 1) := by decide +kernel
theorem dX4_keeperOf_72 : decode cX4_keeperOf 72 = .ok (.invokevirtual 182, 3) := by decide +kernel
theorem dX4_keeperOf_75 : decode cX4_keeperOf 75 = .ok (.ireturn, 1) := by decide +kernel
theorem dX4_keeperOf_76 : decode cX4_keeperOf 76 = .ok (.aload_n 0, 1) := by decide +kernel
theorem dX4_keeperOf_77 : decode cX4_keeperOf 77 = .ok (.getfield 10, 3) := by decide +kernel
theorem dX4_keeperOf_80 : decode cX4_keeperOf 80 = .ok (.getfield 185, 3) := by decide +kernel
theorem dX4_keeperOf_83 : decode cX4_keeperOf 83 = .ok (.iload_n 1, 1) := by decide +kernel
theorem dX4_keeperOf_84 : decode cX4_keeperOf 84 = .ok (.iaload, 1) := by decide +kernel
theorem dX4_keeperOf_85 : decode cX4_keeperOf 85 = .ok (.ireturn, 1) := by decide +kernel
theorem dX4_keeperOf_86 : decode cX4_keeperOf 86 = .ok (.aload_n 0, 1) := by decide +kernel
theorem dX4_keeperOf_87 : decode cX4_keeperOf 87 = .ok (.getfield 10, 3) := by decide +kernel
theorem dX4_keeperOf_90 : decode cX4_keeperOf 90 = .ok (.getfield 188, 3) := by decide +kernel
theorem dX4_keeperOf_93 : decode cX4_keeperOf 93 = .ok (.iload_n 1, 1) := by decide +kernel
theorem dX4_keeperOf_94 : decode cX4_keeperOf 94 = .ok (.iaload, 1) := by decide +kernel
theorem dX4_keeperOf_95 : decode cX4_keeperOf 95 = .ok (.ireturn, 1) := by decide +kernel
theorem dX4_keeperOf_96 : decode cX4_keeperOf 96 = .ok (.new 162, 3) := by decide +kernel
theorem dX4_keeperOf_99 : decode cX4_keeperOf 99 = .ok (.dup, 1) := by decide +kernel
theorem dX4_keeperOf_100 : decode cX4_keeperOf 100 = .ok (.ldc 191, 2) := by decide +kernel
theorem dX4_keeperOf_102 : decode cX4_keeperOf 102 = .ok (.invokespecial 166, 3) := by decide +kernel
theorem dX4_keeperOf_105 : decode cX4_keeperOf 105 = .ok (.athrow, 1) := by decide +kernel
set_option maxRecDepth 20000 in
theorem ggX4_share_X4_checkRange : GoodIn wsX4_share wsX4_checkRange := goodIn_ca (goodIn_r _ [8, 9, 10] (by decide +kernel) (by decide +kernel)) (goodIn_sub (fun _ h => List.mem_cons_of_mem _ (List.mem_append_right _ h)) (by decide +kernel))
set_option maxRecDepth 20000 in
theorem gX4_share_X4_checkRange : GoodIn wsX4_share (va_wsS RX4 94 yX4_checkRange wsX4_checkRange) := goodIn_app (goodIn_of _ (by decide +kernel)) ggX4_share_X4_checkRange
set_option maxRecDepth 20000 in
theorem ggX4_share_X2_hasShare : GoodIn wsX4_share wsX2_hasShare := goodIn_r _ [15, 16, 24, 25, 26, 27, 28, 29, 30, 31, 32, 33, 34, 35, 36, 37, 38, 39] (by decide +kernel) (by decide +kernel)
set_option maxRecDepth 20000 in
theorem gX4_share_X2_hasShare : GoodIn wsX4_share (wsV RX4 115 RX2 yX2_hasShare wsX2_hasShare) := goodIn_app (goodIn_of _ (by decide +kernel)) ggX4_share_X2_hasShare
theorem dX4_share_0 : decode cX4_share 0 = .ok (.iload_n 1, 1) := by decide +kernel
theorem dX4_share_1 : decode cX4_share 1 = .ok (.iconst 0, 1) := by decide +kernel
theorem dX4_share_2 : decode cX4_share 2 = .ok (.bipush 7, 2) := by decide +kernel
theorem dX4_share_4 : decode cX4_share 4 = .ok (.invokestatic 94, 3) := by decide +kernel
theorem dX4_share_7 : decode cX4_share 7 = .ok (.iload_n 2, 1) := by decide +kernel
theorem dX4_share_8 : decode cX4_share 8 = .ok (.iconst 0, 1) := by decide +kernel
theorem dX4_share_9 : decode cX4_share 9 = .ok (.iconst 2, 1) := by decide +kernel
theorem dX4_share_10 : decode cX4_share 10 = .ok (.invokestatic 94, 3) := by decide +kernel
theorem dX4_share_13 : decode cX4_share 13 = .ok (.aload_n 0, 1) := by decide +kernel
theorem dX4_share_14 : decode cX4_share 14 = .ok (.getfield 10, 3) := by decide +kernel
theorem dX4_share_17 : decode cX4_share 17 = .ok (.iload_n 1, 1) := by decide +kernel
theorem dX4_share_18 : decode cX4_share 18 = .ok (.invokevirtual 115, 3) := by decide +kernel
theorem dX4_share_21 : decode cX4_share 21 = .ok (.ifCond .ne 5, 3) := by decide +kernel
theorem dX4_share_24 : decode cX4_share 24 = .ok (.iconst (-1), 1) := by decide +kernel
theorem dX4_share_25 : decode cX4_share 25 = .ok (.ireturn, 1) := by decide +kernel
theorem dX4_share_26 : decode cX4_share 26 = .ok (.iload_n 2, 1) := by decide +kernel
theorem dX4_share_27 : decode cX4_share 27 = .ok (.ifCond .ne 13, 3) := by decide +kernel
theorem dX4_share_30 : decode cX4_share 30 = .ok (.aload_n 0, 1) := by decide +kernel
theorem dX4_share_31 : decode cX4_share 31 = .ok (.getfield 10, 3) := by decide +kernel
theorem dX4_share_34 : decode cX4_share 34 = .ok (.getfield 193, 3) := by decide +kernel
theorem dX4_share_37 : decode cX4_share 37 = .ok (.iload_n 1, 1) := by decide +kernel
theorem dX4_share_38 : decode cX4_share 38 = .ok (.iaload, 1) := by decide +kernel
theorem dX4_share_39 : decode cX4_share 39 = .ok (.ireturn, 1) := by decide +kernel
theorem dX4_share_40 : decode cX4_share 40 = .ok (.iload_n 2, 1) := by decide +kernel
theorem dX4_share_41 : decode cX4_share 41 = .ok (.iconst 1, 1) := by decide +kernel
theorem dX4_share_42 : decode cX4_share 42 = .ok (.if_icmp .ne 15, 3) := by decide +kernel
theorem dX4_share_45 : decode cX4_share 45 = .ok (.aload_n 0, 1) := by decide +kernel
theorem dX4_share_46 : decode cX4_share 46 = .ok (.getfield 10, 3) := by decide +kernel
theorem dX4_share_49 : decode cX4_share 49 = .ok (.getfield 196, 3) := by decide +kernel
theorem dX4_share_52 : decode cX4_share 52 = .ok (.iload_n 1, 1) := by decide +kernel
theorem dX4_share_53 : decode cX4_share 53 = .ok (.iaload, 1) := by decide +kernel
theorem dX4_share_54 : decode cX4_share 54 = .ok (.goto 14, 3) := by decide +kernel
theorem dX4_share_57 : decode cX4_share 57 = .ok (.aload_n 0, 1) := by decide +kernel
theorem dX4_share_58 : decode cX4_share 58 = .ok (.getfield 10, 3) := by decide +kernel
theorem dX4_share_61 : decode cX4_share 61 = .ok (.getfield 199, 3) := by decide +kernel
theorem dX4_share_64 : decode cX4_share 64 = .ok (.iload_n 1, 1) := by decide +kernel
theorem dX4_share_65 : decode cX4_share 65 = .ok (.ishr, 1) := by decide +kernel
theorem dX4_share_66 : decode cX4_share 66 = .ok (.iconst 1, 1) := by decide +kernel
theorem dX4_share_67 : decode cX4_share 67 = .ok (.iand, 1) := by decide +kernel
theorem dX4_share_68 : decode cX4_share 68 = .ok (.ireturn, 1) := by decide +kernel
set_option maxRecDepth 20000 in
theorem ggX4_count_X2_livingCount : GoodIn wsX4_count wsX2_livingCount := goodIn_r _ [17, 18, 19, 20, 21, 22, 23, 24, 25, 44, 45, 46, 47, 48, 49, 50, 51, 52, 53, 54, 55, 56, 57, 58, 59] (by decide +kernel) (by decide +kernel)
set_option maxRecDepth 20000 in
theorem gX4_count_X2_livingCount : GoodIn wsX4_count (wsV RX4 98 RX2 yX2_livingCount wsX2_livingCount) := goodIn_app (goodIn_of _ (by decide +kernel)) ggX4_count_X2_livingCount
set_option maxRecDepth 20000 in
theorem ggX4_count_X2_sharesThere : GoodIn wsX4_count wsX2_sharesThere := goodIn_r _ [29, 30, 44, 45, 46, 47, 48, 49, 50, 51, 52, 53, 54, 55, 56, 57, 58, 59] (by decide +kernel) (by decide +kernel)
set_option maxRecDepth 20000 in
theorem gX4_count_X2_sharesThere : GoodIn wsX4_count (wsV RX4 211 RX2 yX2_sharesThere wsX2_sharesThere) := goodIn_app (goodIn_of _ (by decide +kernel)) ggX4_count_X2_sharesThere
set_option maxRecDepth 20000 in
theorem ggX4_count_J6_bitCount_0f7a4 : GoodIn wsX4_count wsJ6_bitCount_0f7a4 := goodIn_r _ [22, 23, 24, 25] (by decide +kernel) (by decide +kernel)
set_option maxRecDepth 20000 in
theorem gX4_count_J6_bitCount_0f7a4 : GoodIn wsX4_count (va_wsS RX4 214 yJ6_bitCount_0f7a4 wsJ6_bitCount_0f7a4) := goodIn_app (goodIn_of _ (by decide +kernel)) ggX4_count_J6_bitCount_0f7a4
set_option maxRecDepth 20000 in
theorem ggX4_count_X2_quarrellingPairs : GoodIn wsX4_count wsX2_quarrellingPairs := goodIn_r _ [35, 36, 19, 20, 21, 22, 23, 24, 25, 44, 45, 46, 47, 48, 49, 50, 51, 52, 53, 54, 55, 56, 57, 58, 59] (by decide +kernel) (by decide +kernel)
set_option maxRecDepth 20000 in
theorem gX4_count_X2_quarrellingPairs : GoodIn wsX4_count (wsV RX4 219 RX2 yX2_quarrellingPairs wsX2_quarrellingPairs) := goodIn_app (goodIn_of _ (by decide +kernel)) ggX4_count_X2_quarrellingPairs
theorem dX4_count_0 : decode cX4_count 0 = .ok (.iload_n 1, 1) := by decide +kernel
theorem dX4_count_1 : decode cX4_count 1 = .ok (.tableswitch 187 0 11 #[63, 71, 79, 87, 95, 117, 139, 150, 158, 166, 174, 182], 63) := by decide +kernel
theorem dX4_count_64 : decode cX4_count 64 = .ok (.aload_n 0, 1) := by decide +kernel
theorem dX4_count_65 : decode cX4_count 65 = .ok (.getfield 10, 3) := by decide +kernel
theorem dX4_count_68 : decode cX4_count 68 = .ok (.getfield 48, 3) := by decide +kernel
theorem dX4_count_71 : decode cX4_count 71 = .ok (.ireturn, 1) := by decide +kernel
theorem dX4_count_72 : decode cX4_count 72 = .ok (.aload_n 0, 1) := by decide +kernel
theorem dX4_count_73 : decode cX4_count 73 = .ok (.getfield 10, 3) := by decide +kernel
theorem dX4_count_76 : decode cX4_count 76 = .ok (.invokevirtual 98, 3) := by decide +kernel
theorem dX4_count_79 : decode cX4_count 79 = .ok (.ireturn, 1) := by decide +kernel
theorem dX4_count_80 : decode cX4_count 80 = .ok (.aload_n 0, 1) := by decide +kernel
theorem dX4_count_81 : decode cX4_count 81 = .ok (.getfield 10, 3) := by decide +kernel
theorem dX4_count_84 : decode cX4_count 84 = .ok (.getfield 132, 3) := by decide +kernel
theorem dX4_count_87 : decode cX4_count 87 = .ok (.ireturn, 1) := by decide +kernel
theorem dX4_count_88 : decode cX4_count 88 = .ok (.aload_n 0, 1) := by decide +kernel
theorem dX4_count_89 : decode cX4_count 89 = .ok (.getfield 10, 3) := by decide +kernel
theorem dX4_count_92 : decode cX4_count 92 = .ok (.getfield 202, 3) := by decide +kernel
theorem dX4_count_95 : decode cX4_count 95 = .ok (.ireturn, 1) := by decide +kernel
theorem dX4_count_96 : decode cX4_count 96 = .ok (.aload_n 0, 1) := by decide +kernel
theorem dX4_count_97 : decode cX4_count 97 = .ok (.getfield 10, 3) := by decide +kernel
theorem dX4_count_100 : decode cX4_count 100 = .ok (.getfield 202, 3) := by decide +kernel
theorem dX4_count_103 : decode cX4_count 103 = .ok (.ifCond .ne 7, 3) := by decide +kernel
theorem dX4_count_106 : decode cX4_count 106 = .ok (.iconst (-1), 1) := by decide +kernel
theorem dX4_count_107 : decode cX4_count 107 = .ok (.goto 10, 3) := by decide +kernel
theorem dX4_count_110 : decode cX4_count 110 = .ok (.aload_n 0, 1) := by decide +kernel
theorem dX4_count_111 : decode cX4_count 111 = .ok (.getfield 10, 3) := by decide +kernel
theorem dX4_count_114 : decode cX4_count 114 = .ok (.getfield 205, 3) := by decide +kernel
theorem dX4_count_117 : decode cX4_count 117 = .ok (.ireturn, 1) := by decide +kernel
theorem dX4_count_118 : decode cX4_count 118 = .ok (.aload_n 0, 1) := by decide +kernel
theorem dX4_count_119 : decode cX4_count 119 = .ok (.getfield 10, 3) := by decide +kernel
theorem dX4_count_122 : decode cX4_count 122 = .ok (.getfield 202, 3) := by decide +kernel
theorem dX4_count_125 : decode cX4_count 125 = .ok (.ifCond .ne 7, 3) := by decide +kernel
theorem dX4_count_128 : decode cX4_count 128 = .ok (.iconst (-1), 1) := by decide +kernel
theorem dX4_count_129 : decode cX4_count 129 = .ok (.goto 10, 3) := by decide +kernel
theorem dX4_count_132 : decode cX4_count 132 = .ok (.aload_n 0, 1) := by decide +kernel
theorem dX4_count_133 : decode cX4_count 133 = .ok (.getfield 10, 3) := by decide +kernel
theorem dX4_count_136 : decode cX4_count 136 = .ok (.getfield 208, 3) := by decide +kernel
theorem dX4_count_139 : decode cX4_count 139 = .ok (.ireturn, 1) := by decide +kernel
theorem dX4_count_140 : decode cX4_count 140 = .ok (.aload_n 0, 1) := by decide +kernel
theorem dX4_count_141 : decode cX4_count 141 = .ok (.getfield 10, 3) := by decide +kernel
theorem dX4_count_144 : decode cX4_count 144 = .ok (.invokevirtual 211, 3) := by decide +kernel
theorem dX4_count_147 : decode cX4_count 147 = .ok (.invokestatic 214, 3) := by decide +kernel
theorem dX4_count_150 : decode cX4_count 150 = .ok (.ireturn, 1) := by decide +kernel
theorem dX4_count_151 : decode cX4_count 151 = .ok (.aload_n 0, 1) := by decide +kernel
theorem dX4_count_152 : decode cX4_count 152 = .ok (.getfield 10, 3) := by decide +kernel
theorem dX4_count_155 : decode cX4_count 155 = .ok (.invokevirtual 219, 3) := by decide +kernel
theorem dX4_count_158 : decode cX4_count 158 = .ok (.ireturn, 1) := by decide +kernel
theorem dX4_count_159 : decode cX4_count 159 = .ok (.aload_n 0, 1) := by decide +kernel
theorem dX4_count_160 : decode cX4_count 160 = .ok (.getfield 10, 3) := by decide +kernel
theorem dX4_count_163 : decode cX4_count 163 = .ok (.getfield 222, 3) := by decide +kernel
theorem dX4_count_166 : decode cX4_count 166 = .ok (.ireturn, 1) := by decide +kernel
theorem dX4_count_167 : decode cX4_count 167 = .ok (.aload_n 0, 1) := by decide +kernel
theorem dX4_count_168 : decode cX4_count 168 = .ok (.getfield 10, 3) := by decide +kernel
theorem dX4_count_171 : decode cX4_count 171 = .ok (.getfield 225, 3) := by decide +kernel
theorem dX4_count_174 : decode cX4_count 174 = .ok (.ireturn, 1) := by decide +kernel
theorem dX4_count_175 : decode cX4_count 175 = .ok (.aload_n 0, 1) := by decide +kernel
theorem dX4_count_176 : decode cX4_count 176 = .ok (.getfield 10, 3) := by decide +kernel
theorem dX4_count_179 : decode cX4_count 179 = .ok (.getfield 228, 3) := by decide +kernel
theorem dX4_count_182 : decode cX4_count 182 = .ok (.ireturn, 1) := by decide +kernel
theorem dX4_count_183 : decode cX4_count 183 = .ok (.aload_n 0, 1) := by decide +kernel
theorem dX4_count_184 : decode cX4_count 184 = .ok (.getfield 23, 3) := by decide +kernel
theorem dX4_count_187 : decode cX4_count 187 = .ok (.ireturn, 1) := by decide +kernel
theorem dX4_count_188 : decode cX4_count 188 = .ok (.new 162, 3) := by decide +kernel
theorem dX4_count_191 : decode cX4_count 191 = .ok (.dup, 1) := by decide +kernel
theorem dX4_count_192 : decode cX4_count 192 = .ok (.ldc 231, 2) := by decide +kernel
theorem dX4_count_194 : decode cX4_count 194 = .ok (.invokespecial 166, 3) := by decide +kernel
theorem dX4_count_197 : decode cX4_count 197 = .ok (.athrow, 1) := by decide +kernel
set_option maxRecDepth 20000 in
theorem ggX4_why_X4_checkGroup : GoodIn wsX4_why wsX4_checkGroup := goodIn_ca (goodIn_r _ [5, 6, 7, 8, 9, 10, 11, 12, 13, 14, 66, 67, 68, 69, 70, 71, 72, 73, 74, 75, 76, 77, 78, 79, 80, 81, 82, 83, 84, 85, 86, 87, 88] (by decide +kernel) (by decide +kernel)) (goodIn_sub (fun _ h => List.mem_cons_of_mem _ (List.mem_append_right _ h)) (by decide +kernel))
set_option maxRecDepth 20000 in
theorem gX4_why_X4_checkGroup : GoodIn wsX4_why (wsV RX4 135 RX4 yX4_checkGroup wsX4_checkGroup) := goodIn_app (goodIn_of _ (by decide +kernel)) ggX4_why_X4_checkGroup
set_option maxRecDepth 20000 in
theorem ggX4_why_X4_refusal : GoodIn wsX4_why wsX4_refusal := goodIn_r _ [18, 19, 8, 20, 21, 22, 23, 24, 25, 26, 27, 28, 29, 30, 31, 32, 33, 34, 35, 36, 12, 37, 38, 39, 40, 41, 42, 43, 44, 45, 46, 47, 48, 49, 50, 51, 52, 53, 54, 55, 56, 57, 58, 59, 60, 61, 62, 63, 64, 65, 66, 67, 68, 69, 70, 71, 72, 73, 74, 75, 76, 77, 78, 79, 80, 81, 82, 83, 84, 85, 86, 87, 88, 89, 90, 91] (by decide +kernel) (by decide +kernel)
set_option maxRecDepth 20000 in
theorem gX4_why_X4_refusal : GoodIn wsX4_why (wsV RX4 138 RX4 yX4_refusal wsX4_refusal) := goodIn_app (goodIn_of _ (by decide +kernel)) ggX4_why_X4_refusal
theorem dX4_why_0 : decode cX4_why 0 = .ok (.aload_n 0, 1) := by decide +kernel
theorem dX4_why_1 : decode cX4_why 1 = .ok (.iload_n 1, 1) := by decide +kernel
theorem dX4_why_2 : decode cX4_why 2 = .ok (.invokevirtual 135, 3) := by decide +kernel
theorem dX4_why_5 : decode cX4_why 5 = .ok (.aload_n 0, 1) := by decide +kernel
theorem dX4_why_6 : decode cX4_why 6 = .ok (.iload_n 1, 1) := by decide +kernel
theorem dX4_why_7 : decode cX4_why 7 = .ok (.invokevirtual 138, 3) := by decide +kernel
theorem dX4_why_10 : decode cX4_why 10 = .ok (.ireturn, 1) := by decide +kernel
set_option maxRecDepth 20000 in
theorem ggX4_told_X4_checkRange : GoodIn wsX4_told wsX4_checkRange := goodIn_ca (goodIn_r _ [7, 8, 9] (by decide +kernel) (by decide +kernel)) (goodIn_sub (fun _ h => List.mem_cons_of_mem _ (List.mem_append_right _ h)) (by decide +kernel))
set_option maxRecDepth 20000 in
theorem gX4_told_X4_checkRange : GoodIn wsX4_told (va_wsS RX4 94 yX4_checkRange wsX4_checkRange) := goodIn_app (goodIn_of _ (by decide +kernel)) ggX4_told_X4_checkRange
set_option maxRecDepth 20000 in
theorem ggX4_told_X2_hasCapsuleWith : GoodIn wsX4_told wsX2_hasCapsuleWith := goodIn_r _ [14, 15, 16, 17, 18, 13, 19, 20, 41, 42, 43, 44, 45, 46, 47, 48, 49, 50, 51, 52, 53, 54, 55, 56] (by decide +kernel) (by decide +kernel)
set_option maxRecDepth 20000 in
theorem gX4_told_X2_hasCapsuleWith : GoodIn wsX4_told (wsV RX4 233 RX2 yX2_hasCapsuleWith wsX2_hasCapsuleWith) := goodIn_app (goodIn_of _ (by decide +kernel)) ggX4_told_X2_hasCapsuleWith
set_option maxRecDepth 20000 in
theorem ggX4_told_J6_bitCount_0f7a4 : GoodIn wsX4_told wsJ6_bitCount_0f7a4 := goodIn_r _ [24, 25, 26, 27] (by decide +kernel) (by decide +kernel)
set_option maxRecDepth 20000 in
theorem gX4_told_J6_bitCount_0f7a4 : GoodIn wsX4_told (va_wsS RX4 214 yJ6_bitCount_0f7a4 wsJ6_bitCount_0f7a4) := goodIn_app (goodIn_of _ (by decide +kernel)) ggX4_told_J6_bitCount_0f7a4
set_option maxRecDepth 20000 in
theorem ggX4_told_X0_keyOf : GoodIn wsX4_told wsX0_keyOf := goodIn_r _ [32, 33, 57] (by decide +kernel) (by decide +kernel)
set_option maxRecDepth 20000 in
theorem gX4_told_X0_keyOf : GoodIn wsX4_told (wsV RX4 236 RX0 yX0_keyOf wsX0_keyOf) := goodIn_app (goodIn_of _ (by decide +kernel)) ggX4_told_X0_keyOf
theorem dX4_told_0 : decode cX4_told 0 = .ok (.iload_n 1, 1) := by decide +kernel
theorem dX4_told_1 : decode cX4_told 1 = .ok (.iconst 0, 1) := by decide +kernel
theorem dX4_told_2 : decode cX4_told 2 = .ok (.sipush 255, 3) := by decide +kernel
theorem dX4_told_5 : decode cX4_told 5 = .ok (.invokestatic 94, 3) := by decide +kernel
theorem dX4_told_8 : decode cX4_told 8 = .ok (.aload_n 0, 1) := by decide +kernel
theorem dX4_told_9 : decode cX4_told 9 = .ok (.getfield 10, 3) := by decide +kernel
theorem dX4_told_12 : decode cX4_told 12 = .ok (.iload_n 1, 1) := by decide +kernel
theorem dX4_told_13 : decode cX4_told 13 = .ok (.invokevirtual 233, 3) := by decide +kernel
theorem dX4_told_16 : decode cX4_told 16 = .ok (.ifCond .eq 17, 3) := by decide +kernel
theorem dX4_told_19 : decode cX4_told 19 = .ok (.iload_n 1, 1) := by decide +kernel
theorem dX4_told_20 : decode cX4_told 20 = .ok (.invokestatic 214, 3) := by decide +kernel
theorem dX4_told_23 : decode cX4_told 23 = .ok (.aload_n 0, 1) := by decide +kernel
theorem dX4_told_24 : decode cX4_told 24 = .ok (.getfield 10, 3) := by decide +kernel
theorem dX4_told_27 : decode cX4_told 27 = .ok (.getfield 205, 3) := by decide +kernel
theorem dX4_told_30 : decode cX4_told 30 = .ok (.if_icmp .ge 5, 3) := by decide +kernel
theorem dX4_told_33 : decode cX4_told 33 = .ok (.iconst (-1), 1) := by decide +kernel
theorem dX4_told_34 : decode cX4_told 34 = .ok (.ireturn, 1) := by decide +kernel
theorem dX4_told_35 : decode cX4_told 35 = .ok (.aload_n 0, 1) := by decide +kernel
theorem dX4_told_36 : decode cX4_told 36 = .ok (.getfield 30, 3) := by decide +kernel
theorem dX4_told_39 : decode cX4_told 39 = .ok (.iload_n 1, 1) := by decide +kernel
theorem dX4_told_40 : decode cX4_told 40 = .ok (.invokevirtual 236, 3) := by decide +kernel
theorem dX4_told_43 : decode cX4_told 43 = .ok (.ireturn, 1) := by decide +kernel
set_option maxRecDepth 20000 in
theorem ggX4_possible_X4_checkRange : GoodIn wsX4_possible wsX4_checkRange := goodIn_ca (goodIn_r _ [7, 8, 9] (by decide +kernel) (by decide +kernel)) (goodIn_sub (fun _ h => List.mem_cons_of_mem _ (List.mem_append_right _ h)) (by decide +kernel))
set_option maxRecDepth 20000 in
theorem gX4_possible_X4_checkRange : GoodIn wsX4_possible (va_wsS RX4 94 yX4_checkRange wsX4_checkRange) := goodIn_app (goodIn_of _ (by decide +kernel)) ggX4_possible_X4_checkRange
set_option maxRecDepth 20000 in
theorem ggX4_possible_X2_hasCapsuleWith : GoodIn wsX4_possible wsX2_hasCapsuleWith := goodIn_r _ [14, 15, 16, 17, 18, 13, 19, 20, 46, 47, 48, 49, 50, 51, 52, 53, 54, 55, 56, 57, 58, 59, 60, 61] (by decide +kernel) (by decide +kernel)
set_option maxRecDepth 20000 in
theorem gX4_possible_X2_hasCapsuleWith : GoodIn wsX4_possible (wsV RX4 233 RX2 yX2_hasCapsuleWith wsX2_hasCapsuleWith) := goodIn_app (goodIn_of _ (by decide +kernel)) ggX4_possible_X2_hasCapsuleWith
set_option maxRecDepth 20000 in
theorem ggX4_possible_J6_bitCount_0f7a4 : GoodIn wsX4_possible wsJ6_bitCount_0f7a4 := goodIn_r _ [24, 25, 26, 27] (by decide +kernel) (by decide +kernel)
set_option maxRecDepth 20000 in
theorem gX4_possible_J6_bitCount_0f7a4 : GoodIn wsX4_possible (va_wsS RX4 214 yJ6_bitCount_0f7a4 wsJ6_bitCount_0f7a4) := goodIn_app (goodIn_of _ (by decide +kernel)) ggX4_possible_J6_bitCount_0f7a4
set_option maxRecDepth 20000 in
theorem ggX4_possible_X0_isOneCurve : GoodIn wsX4_possible wsX0_isOneCurve := goodIn_r _ [32, 33, 22, 23, 24, 25, 26, 27, 34, 35, 36, 31, 37, 38, 62] (by decide +kernel) (by decide +kernel)
set_option maxRecDepth 20000 in
theorem gX4_possible_X0_isOneCurve : GoodIn wsX4_possible (wsV RX4 239 RX0 yX0_isOneCurve wsX0_isOneCurve) := goodIn_app (goodIn_of _ (by decide +kernel)) ggX4_possible_X0_isOneCurve
theorem dX4_possible_0 : decode cX4_possible 0 = .ok (.iload_n 1, 1) := by decide +kernel
theorem dX4_possible_1 : decode cX4_possible 1 = .ok (.iconst 0, 1) := by decide +kernel
theorem dX4_possible_2 : decode cX4_possible 2 = .ok (.sipush 255, 3) := by decide +kernel
theorem dX4_possible_5 : decode cX4_possible 5 = .ok (.invokestatic 94, 3) := by decide +kernel
theorem dX4_possible_8 : decode cX4_possible 8 = .ok (.aload_n 0, 1) := by decide +kernel
theorem dX4_possible_9 : decode cX4_possible 9 = .ok (.getfield 10, 3) := by decide +kernel
theorem dX4_possible_12 : decode cX4_possible 12 = .ok (.iload_n 1, 1) := by decide +kernel
theorem dX4_possible_13 : decode cX4_possible 13 = .ok (.invokevirtual 233, 3) := by decide +kernel
theorem dX4_possible_16 : decode cX4_possible 16 = .ok (.ifCond .ne 5, 3) := by decide +kernel
theorem dX4_possible_19 : decode cX4_possible 19 = .ok (.iconst (-1), 1) := by decide +kernel
theorem dX4_possible_20 : decode cX4_possible 20 = .ok (.ireturn, 1) := by decide +kernel
theorem dX4_possible_21 : decode cX4_possible 21 = .ok (.iload_n 1, 1) := by decide +kernel
theorem dX4_possible_22 : decode cX4_possible 22 = .ok (.invokestatic 214, 3) := by decide +kernel
theorem dX4_possible_25 : decode cX4_possible 25 = .ok (.aload_n 0, 1) := by decide +kernel
theorem dX4_possible_26 : decode cX4_possible 26 = .ok (.getfield 10, 3) := by decide +kernel
theorem dX4_possible_29 : decode cX4_possible 29 = .ok (.getfield 205, 3) := by decide +kernel
theorem dX4_possible_32 : decode cX4_possible 32 = .ok (.if_icmp .ge 7, 3) := by decide +kernel
theorem dX4_possible_35 : decode cX4_possible 35 = .ok (.sipush 251, 3) := by decide +kernel
theorem dX4_possible_38 : decode cX4_possible 38 = .ok (.ireturn, 1) := by decide +kernel
theorem dX4_possible_39 : decode cX4_possible 39 = .ok (.aload_n 0, 1) := by decide +kernel
theorem dX4_possible_40 : decode cX4_possible 40 = .ok (.getfield 30, 3) := by decide +kernel
theorem dX4_possible_43 : decode cX4_possible 43 = .ok (.iload_n 1, 1) := by decide +kernel
theorem dX4_possible_44 : decode cX4_possible 44 = .ok (.aload_n 0, 1) := by decide +kernel
theorem dX4_possible_45 : decode cX4_possible 45 = .ok (.getfield 10, 3) := by decide +kernel
theorem dX4_possible_48 : decode cX4_possible 48 = .ok (.getfield 205, 3) := by decide +kernel
theorem dX4_possible_51 : decode cX4_possible 51 = .ok (.invokevirtual 239, 3) := by decide +kernel
theorem dX4_possible_54 : decode cX4_possible 54 = .ok (.ifCond .eq 7, 3) := by decide +kernel
theorem dX4_possible_57 : decode cX4_possible 57 = .ok (.iconst 1, 1) := by decide +kernel
theorem dX4_possible_58 : decode cX4_possible 58 = .ok (.goto 4, 3) := by decide +kernel
theorem dX4_possible_61 : decode cX4_possible 61 = .ok (.iconst 0, 1) := by decide +kernel
theorem dX4_possible_62 : decode cX4_possible 62 = .ok (.ireturn, 1) := by decide +kernel
set_option maxRecDepth 20000 in
theorem ggX4_smallest_X4_checkRange : GoodIn wsX4_smallest wsX4_checkRange := goodIn_ca (goodIn_r _ [6, 7, 8] (by decide +kernel) (by decide +kernel)) (goodIn_sub (fun _ h => List.mem_cons_of_mem _ (List.mem_append_right _ h)) (by decide +kernel))
set_option maxRecDepth 20000 in
theorem gX4_smallest_X4_checkRange : GoodIn wsX4_smallest (va_wsS RX4 94 yX4_checkRange wsX4_checkRange) := goodIn_app (goodIn_of _ (by decide +kernel)) ggX4_smallest_X4_checkRange
set_option maxRecDepth 20000 in
theorem ggX4_smallest_X3_look : GoodIn wsX4_smallest wsX3_look := goodIn_r _ [13, 14, 15, 16, 17, 18, 19, 20, 21, 22, 23, 24, 25, 26, 27, 28, 29, 69, 70, 71, 72, 73, 74, 75, 76, 77, 78, 79, 80, 81, 82, 83, 84, 85, 86] (by decide +kernel) (by decide +kernel)
set_option maxRecDepth 20000 in
theorem gX4_smallest_X3_look : GoodIn wsX4_smallest (wsV RX4 242 RX3 yX3_look wsX3_look) := goodIn_app (goodIn_of _ (by decide +kernel)) ggX4_smallest_X3_look
set_option maxRecDepth 20000 in
theorem ggX4_smallest_X4_couldOpen : GoodIn wsX4_smallest wsX4_couldOpen := goodIn_r _ [33, 1, 34, 35, 36, 12, 37, 15, 38, 39, 40, 5, 41, 42, 43, 44, 45, 46, 47, 48, 49, 14, 50, 51, 52, 20, 53, 54, 55, 24, 25, 26, 27, 28, 29, 56, 57, 58, 59, 60, 61, 62, 63, 64, 65, 66, 67, 68, 69, 70, 71, 72, 73, 74, 75, 76, 77, 78, 79, 80, 81, 82, 83, 84, 85, 86, 87] (by decide +kernel) (by decide +kernel)
set_option maxRecDepth 20000 in
theorem gX4_smallest_X4_couldOpen : GoodIn wsX4_smallest (wsV RX4 245 RX4 yX4_couldOpen wsX4_couldOpen) := goodIn_app (goodIn_of _ (by decide +kernel)) ggX4_smallest_X4_couldOpen
set_option maxRecDepth 20000 in
theorem ggX4_smallest_J6_bitCount_0f7a4 : GoodIn wsX4_smallest wsJ6_bitCount_0f7a4 := goodIn_r _ [26, 27, 28, 29] (by decide +kernel) (by decide +kernel)
set_option maxRecDepth 20000 in
theorem gX4_smallest_J6_bitCount_0f7a4 : GoodIn wsX4_smallest (va_wsS RX4 214 yJ6_bitCount_0f7a4 wsJ6_bitCount_0f7a4) := goodIn_app (goodIn_of _ (by decide +kernel)) ggX4_smallest_J6_bitCount_0f7a4
theorem dX4_smallest_0 : decode cX4_smallest 0 = .ok (.iload_n 1, 1) := by decide +kernel
theorem dX4_smallest_1 : decode cX4_smallest 1 = .ok (.iconst 0, 1) := by decide +kernel
theorem dX4_smallest_2 : decode cX4_smallest 2 = .ok (.iconst 1, 1) := by decide +kernel
theorem dX4_smallest_3 : decode cX4_smallest 3 = .ok (.invokestatic 94, 3) := by decide +kernel
theorem dX4_smallest_6 : decode cX4_smallest 6 = .ok (.aload_n 0, 1) := by decide +kernel
theorem dX4_smallest_7 : decode cX4_smallest 7 = .ok (.getfield 37, 3) := by decide +kernel
theorem dX4_smallest_10 : decode cX4_smallest 10 = .ok (.aload_n 0, 1) := by decide +kernel
theorem dX4_smallest_11 : decode cX4_smallest 11 = .ok (.getfield 10, 3) := by decide +kernel
theorem dX4_smallest_14 : decode cX4_smallest 14 = .ok (.invokevirtual 242, 3) := by decide +kernel
theorem dX4_smallest_17 : decode cX4_smallest 17 = .ok (.iconst (-1), 1) := by decide +kernel
theorem dX4_smallest_18 : decode cX4_smallest 18 = .ok (.istore_n 2, 1) := by decide +kernel
theorem dX4_smallest_19 : decode cX4_smallest 19 = .ok (.iconst 1, 1) := by decide +kernel
theorem dX4_smallest_20 : decode cX4_smallest 20 = .ok (.istore_n 3, 1) := by decide +kernel
theorem dX4_smallest_21 : decode cX4_smallest 21 = .ok (.iload_n 3, 1) := by decide +kernel
theorem dX4_smallest_22 : decode cX4_smallest 22 = .ok (.sipush 256, 3) := by decide +kernel
theorem dX4_smallest_25 : decode cX4_smallest 25 = .ok (.if_icmp .ge 39, 3) := by decide +kernel
theorem dX4_smallest_28 : decode cX4_smallest 28 = .ok (.aload_n 0, 1) := by decide +kernel
theorem dX4_smallest_29 : decode cX4_smallest 29 = .ok (.aload_n 0, 1) := by decide +kernel
theorem dX4_smallest_30 : decode cX4_smallest 30 = .ok (.getfield 10, 3) := by decide +kernel
theorem dX4_smallest_33 : decode cX4_smallest 33 = .ok (.iload_n 3, 1) := by decide +kernel
theorem dX4_smallest_34 : decode cX4_smallest 34 = .ok (.invokevirtual 245, 3) := by decide +kernel
theorem dX4_smallest_37 : decode cX4_smallest 37 = .ok (.ifCond .eq 21, 3) := by decide +kernel
theorem dX4_smallest_40 : decode cX4_smallest 40 = .ok (.iload_n 2, 1) := by decide +kernel
theorem dX4_smallest_41 : decode cX4_smallest 41 = .ok (.iconst (-1), 1) := by decide +kernel
theorem dX4_smallest_42 : decode cX4_smallest 42 = .ok (.if_icmp .eq 14, 3) := by decide +kernel
theorem dX4_smallest_45 : decode cX4_smallest 45 = .ok (.iload_n 3, 1) := by decide +kernel
theorem dX4_smallest_46 : decode cX4_smallest 46 = .ok (.invokestatic 214, 3) := by decide +kernel
theorem dX4_smallest_49 : decode cX4_smallest 49 = .ok (.iload_n 2, 1) := by decide +kernel
theorem dX4_smallest_50 : decode cX4_smallest 50 = .ok (.invokestatic 214, 3) := by decide +kernel
theorem dX4_smallest_53 : decode cX4_smallest 53 = .ok (.if_icmp .ge 5, 3) := by decide +kernel
theorem dX4_smallest_56 : decode cX4_smallest 56 = .ok (.iload_n 3, 1) := by decide +kernel
theorem dX4_smallest_57 : decode cX4_smallest 57 = .ok (.istore_n 2, 1) := by decide +kernel
theorem dX4_smallest_58 : decode cX4_smallest 58 = .ok (.iinc 3 1, 3) := by decide +kernel
theorem dX4_smallest_61 : decode cX4_smallest 61 = .ok (.goto (-40), 3) := by decide +kernel
theorem dX4_smallest_64 : decode cX4_smallest 64 = .ok (.iload_n 1, 1) := by decide +kernel
theorem dX4_smallest_65 : decode cX4_smallest 65 = .ok (.iconst 1, 1) := by decide +kernel
theorem dX4_smallest_66 : decode cX4_smallest 66 = .ok (.if_icmp .eq 8, 3) := by decide +kernel
theorem dX4_smallest_69 : decode cX4_smallest 69 = .ok (.iload_n 2, 1) := by decide +kernel
theorem dX4_smallest_70 : decode cX4_smallest 70 = .ok (.iconst (-1), 1) := by decide +kernel
theorem dX4_smallest_71 : decode cX4_smallest 71 = .ok (.if_icmp .ne 7, 3) := by decide +kernel
theorem dX4_smallest_74 : decode cX4_smallest 74 = .ok (.iload_n 2, 1) := by decide +kernel
theorem dX4_smallest_75 : decode cX4_smallest 75 = .ok (.goto 7, 3) := by decide +kernel
theorem dX4_smallest_78 : decode cX4_smallest 78 = .ok (.iload_n 2, 1) := by decide +kernel
theorem dX4_smallest_79 : decode cX4_smallest 79 = .ok (.invokestatic 214, 3) := by decide +kernel
theorem dX4_smallest_82 : decode cX4_smallest 82 = .ok (.ireturn, 1) := by decide +kernel
set_option maxRecDepth 20000 in
theorem ggX4_groups_X3_look : GoodIn wsX4_groups wsX3_look := goodIn_r _ [7, 8, 9, 10, 11, 12, 13, 14, 15, 16, 17, 18, 19, 20, 21, 22, 23, 64, 65, 66, 67, 68, 69, 70, 71, 72, 73, 74, 75, 76, 77, 78, 79, 80, 81] (by decide +kernel) (by decide +kernel)
set_option maxRecDepth 20000 in
theorem gX4_groups_X3_look : GoodIn wsX4_groups (wsV RX4 242 RX3 yX3_look wsX3_look) := goodIn_app (goodIn_of _ (by decide +kernel)) ggX4_groups_X3_look
set_option maxRecDepth 20000 in
theorem ggX4_groups_X4_couldOpen : GoodIn wsX4_groups wsX4_couldOpen := goodIn_r _ [28, 1, 29, 30, 31, 6, 32, 9, 33, 34, 35, 27, 36, 37, 38, 39, 40, 41, 42, 43, 44, 8, 45, 46, 47, 14, 48, 49, 50, 18, 19, 20, 21, 22, 23, 51, 52, 53, 54, 55, 56, 57, 58, 59, 60, 61, 62, 63, 64, 65, 66, 67, 68, 69, 70, 71, 72, 73, 74, 75, 76, 77, 78, 79, 80, 81, 82] (by decide +kernel) (by decide +kernel)
set_option maxRecDepth 20000 in
theorem gX4_groups_X4_couldOpen : GoodIn wsX4_groups (wsV RX4 245 RX4 yX4_couldOpen wsX4_couldOpen) := goodIn_app (goodIn_of _ (by decide +kernel)) ggX4_groups_X4_couldOpen
theorem dX4_groups_0 : decode cX4_groups 0 = .ok (.aload_n 0, 1) := by decide +kernel
theorem dX4_groups_1 : decode cX4_groups 1 = .ok (.getfield 37, 3) := by decide +kernel
theorem dX4_groups_4 : decode cX4_groups 4 = .ok (.aload_n 0, 1) := by decide +kernel
theorem dX4_groups_5 : decode cX4_groups 5 = .ok (.getfield 10, 3) := by decide +kernel
theorem dX4_groups_8 : decode cX4_groups 8 = .ok (.invokevirtual 242, 3) := by decide +kernel
theorem dX4_groups_11 : decode cX4_groups 11 = .ok (.iconst 0, 1) := by decide +kernel
theorem dX4_groups_12 : decode cX4_groups 12 = .ok (.istore_n 1, 1) := by decide +kernel
theorem dX4_groups_13 : decode cX4_groups 13 = .ok (.iconst 1, 1) := by decide +kernel
theorem dX4_groups_14 : decode cX4_groups 14 = .ok (.istore_n 2, 1) := by decide +kernel
theorem dX4_groups_15 : decode cX4_groups 15 = .ok (.iload_n 2, 1) := by decide +kernel
theorem dX4_groups_16 : decode cX4_groups 16 = .ok (.sipush 256, 3) := by decide +kernel
theorem dX4_groups_19 : decode cX4_groups 19 = .ok (.if_icmp .ge 24, 3) := by decide +kernel
theorem dX4_groups_22 : decode cX4_groups 22 = .ok (.aload_n 0, 1) := by decide +kernel
theorem dX4_groups_23 : decode cX4_groups 23 = .ok (.aload_n 0, 1) := by decide +kernel
theorem dX4_groups_24 : decode cX4_groups 24 = .ok (.getfield 10, 3) := by decide +kernel
theorem dX4_groups_27 : decode cX4_groups 27 = .ok (.iload_n 2, 1) := by decide +kernel
theorem dX4_groups_28 : decode cX4_groups 28 = .ok (.invokevirtual 245, 3) := by decide +kernel
theorem dX4_groups_31 : decode cX4_groups 31 = .ok (.ifCond .eq 6, 3) := by decide +kernel
theorem dX4_groups_34 : decode cX4_groups 34 = .ok (.iinc 1 1, 3) := by decide +kernel
theorem dX4_groups_37 : decode cX4_groups 37 = .ok (.iinc 2 1, 3) := by decide +kernel
theorem dX4_groups_40 : decode cX4_groups 40 = .ok (.goto (-25), 3) := by decide +kernel
theorem dX4_groups_43 : decode cX4_groups 43 = .ok (.iload_n 1, 1) := by decide +kernel
theorem dX4_groups_44 : decode cX4_groups 44 = .ok (.ireturn, 1) := by decide +kernel
set_option maxRecDepth 20000 in
theorem ggX4_needed_X4_anyCouldOpen : GoodIn wsX4_needed wsX4_anyCouldOpen := goodIn_r _ [7, 8, 9, 10, 11, 12, 13, 14, 15, 16, 17, 18, 19, 20, 21, 22, 23, 24, 25, 26, 27, 28, 29, 30, 31, 32, 6, 33, 34, 35, 36, 37, 38, 39, 40, 41, 42, 43, 44, 45, 46, 47, 48, 49, 50, 51, 52, 53, 54, 55, 56, 57, 58, 59, 60, 61, 93, 94, 95, 96, 97, 98, 99, 100, 101, 102, 103, 104, 105, 106, 107, 108, 109, 110, 111, 112, 113, 114, 115, 116, 117, 118] (by decide +kernel) (by decide +kernel)
set_option maxRecDepth 20000 in
theorem gX4_needed_X4_anyCouldOpen : GoodIn wsX4_needed (wsV RX4 249 RX4 yX4_anyCouldOpen wsX4_anyCouldOpen) := goodIn_app (goodIn_of _ (by decide +kernel)) ggX4_needed_X4_anyCouldOpen
set_option maxRecDepth 20000 in
theorem ggX4_needed_X2_lives : GoodIn wsX4_needed wsX2_lives := goodIn_r _ [65, 54, 66, 67, 68, 20, 69, 70, 102, 103, 104, 105, 106, 107, 108, 109, 110, 111, 112, 113, 114, 115, 116, 117] (by decide +kernel) (by decide +kernel)
set_option maxRecDepth 20000 in
theorem gX4_needed_X2_lives : GoodIn wsX4_needed (wsV RX4 69 RX2 yX2_lives wsX2_lives) := goodIn_app (goodIn_of _ (by decide +kernel)) ggX4_needed_X2_lives
set_option maxRecDepth 20000 in
theorem ggX4_needed_X2_copyFrom : GoodIn wsX4_needed wsX2_copyFrom := goodIn_r _ [74, 70, 54, 75, 76, 77, 22, 78, 79, 80, 81, 82, 83, 84, 85, 86, 87, 102, 103, 104, 105, 106, 107, 108, 109, 110, 111, 112, 113, 114, 115, 116, 117] (by decide +kernel) (by decide +kernel)
set_option maxRecDepth 20000 in
theorem gX4_needed_X2_copyFrom : GoodIn wsX4_needed (wsV RX4 175 RX2 yX2_copyFrom wsX2_copyFrom) := goodIn_app (goodIn_of _ (by decide +kernel)) ggX4_needed_X2_copyFrom
set_option maxRecDepth 20000 in
theorem ggX4_needed_X2_bury : GoodIn wsX4_needed wsX2_bury := goodIn_r _ [91, 54, 75, 22, 92, 63, 64, 20, 65, 66, 67, 68, 69, 70, 102, 103, 104, 105, 106, 107, 108, 109, 110, 111, 112, 113, 114, 115, 116, 117] (by decide +kernel) (by decide +kernel)
set_option maxRecDepth 20000 in
theorem gX4_needed_X2_bury : GoodIn wsX4_needed (wsV RX4 75 RX2 yX2_bury wsX2_bury) := goodIn_app (goodIn_of _ (by decide +kernel)) ggX4_needed_X2_bury
theorem dX4_needed_0 : decode cX4_needed 0 = .ok (.aload_n 0, 1) := by decide +kernel
theorem dX4_needed_1 : decode cX4_needed 1 = .ok (.aload_n 0, 1) := by decide +kernel
theorem dX4_needed_2 : decode cX4_needed 2 = .ok (.getfield 10, 3) := by decide +kernel
theorem dX4_needed_5 : decode cX4_needed 5 = .ok (.invokevirtual 249, 3) := by decide +kernel
theorem dX4_needed_8 : decode cX4_needed 8 = .ok (.ifCond .ne 5, 3) := by decide +kernel
theorem dX4_needed_11 : decode cX4_needed 11 = .ok (.iconst 0, 1) := by decide +kernel
theorem dX4_needed_12 : decode cX4_needed 12 = .ok (.ireturn, 1) := by decide +kernel
theorem dX4_needed_13 : decode cX4_needed 13 = .ok (.iconst 0, 1) := by decide +kernel
theorem dX4_needed_14 : decode cX4_needed 14 = .ok (.istore_n 1, 1) := by decide +kernel
theorem dX4_needed_15 : decode cX4_needed 15 = .ok (.iconst 0, 1) := by decide +kernel
theorem dX4_needed_16 : decode cX4_needed 16 = .ok (.istore_n 2, 1) := by decide +kernel
theorem dX4_needed_17 : decode cX4_needed 17 = .ok (.iload_n 2, 1) := by decide +kernel
theorem dX4_needed_18 : decode cX4_needed 18 = .ok (.bipush 8, 2) := by decide +kernel
theorem dX4_needed_20 : decode cX4_needed 20 = .ok (.if_icmp .ge 57, 3) := by decide +kernel
theorem dX4_needed_23 : decode cX4_needed 23 = .ok (.aload_n 0, 1) := by decide +kernel
theorem dX4_needed_24 : decode cX4_needed 24 = .ok (.getfield 10, 3) := by decide +kernel
theorem dX4_needed_27 : decode cX4_needed 27 = .ok (.iload_n 2, 1) := by decide +kernel
theorem dX4_needed_28 : decode cX4_needed 28 = .ok (.invokevirtual 69, 3) := by decide +kernel
theorem dX4_needed_31 : decode cX4_needed 31 = .ok (.ifCond .eq 40, 3) := by decide +kernel
theorem dX4_needed_34 : decode cX4_needed 34 = .ok (.aload_n 0, 1) := by decide +kernel
theorem dX4_needed_35 : decode cX4_needed 35 = .ok (.getfield 16, 3) := by decide +kernel
theorem dX4_needed_38 : decode cX4_needed 38 = .ok (.aload_n 0, 1) := by decide +kernel
theorem dX4_needed_39 : decode cX4_needed 39 = .ok (.getfield 10, 3) := by decide +kernel
theorem dX4_needed_42 : decode cX4_needed 42 = .ok (.invokevirtual 175, 3) := by decide +kernel
theorem dX4_needed_45 : decode cX4_needed 45 = .ok (.aload_n 0, 1) := by decide +kernel
theorem dX4_needed_46 : decode cX4_needed 46 = .ok (.getfield 16, 3) := by decide +kernel
theorem dX4_needed_49 : decode cX4_needed 49 = .ok (.iload_n 2, 1) := by decide +kernel
theorem dX4_needed_50 : decode cX4_needed 50 = .ok (.invokevirtual 75, 3) := by decide +kernel
theorem dX4_needed_53 : decode cX4_needed 53 = .ok (.pop, 1) := by decide +kernel
theorem dX4_needed_54 : decode cX4_needed 54 = .ok (.aload_n 0, 1) := by decide +kernel
theorem dX4_needed_55 : decode cX4_needed 55 = .ok (.aload_n 0, 1) := by decide +kernel
theorem dX4_needed_56 : decode cX4_needed 56 = .ok (.getfield 16, 3) := by decide +kernel
theorem dX4_needed_59 : decode cX4_needed 59 = .ok (.invokevirtual 249, 3) := by decide +kernel
theorem dX4_needed_62 : decode cX4_needed 62 = .ok (.ifCond .ne 9, 3) := by decide +kernel
theorem dX4_needed_65 : decode cX4_needed 65 = .ok (.iload_n 1, 1) := by decide +kernel
theorem dX4_needed_66 : decode cX4_needed 66 = .ok (.iconst 1, 1) := by decide +kernel
theorem dX4_needed_67 : decode cX4_needed 67 = .ok (.iload_n 2, 1) := by decide +kernel
theorem dX4_needed_68 : decode cX4_needed 68 = .ok (.ishl, 1) := by decide +kernel
theorem dX4_needed_69 : decode cX4_needed 69 = .ok (.ior, 1) := by decide +kernel
theorem dX4_needed_70 : decode cX4_needed 70 = .ok (.istore_n 1, 1) := by decide +kernel
theorem dX4_needed_71 : decode cX4_needed 71 = .ok (.iinc 2 1, 3) := by decide +kernel
theorem dX4_needed_74 : decode cX4_needed 74 = .ok (.goto (-57), 3) := by decide +kernel
theorem dX4_needed_77 : decode cX4_needed 77 = .ok (.iload_n 1, 1) := by decide +kernel
theorem dX4_needed_78 : decode cX4_needed 78 = .ok (.ireturn, 1) := by decide +kernel
set_option maxRecDepth 20000 in
theorem ggX4_peace_X3_look : GoodIn wsX4_peace wsX3_look := goodIn_r _ [7, 8, 9, 10, 11, 12, 13, 14, 15, 16, 17, 18, 19, 20, 21, 22, 23, 69, 70, 71, 72, 73, 74, 75, 76, 77, 78, 79, 80, 81, 82, 83, 84, 85, 86] (by decide +kernel) (by decide +kernel)
set_option maxRecDepth 20000 in
theorem gX4_peace_X3_look : GoodIn wsX4_peace (wsV RX4 242 RX3 yX3_look wsX3_look) := goodIn_app (goodIn_of _ (by decide +kernel)) ggX4_peace_X3_look
set_option maxRecDepth 20000 in
theorem ggX4_peace_X4_gainOfPeace : GoodIn wsX4_peace wsX4_gainOfPeace := goodIn_r _ [28, 2, 1, 29, 30, 31, 14, 32, 33, 34, 35, 36, 6, 37, 9, 38, 39, 40, 27, 41, 42, 43, 44, 45, 46, 47, 48, 49, 8, 50, 51, 52, 53, 54, 55, 18, 19, 20, 21, 22, 23, 56, 57, 58, 59, 60, 61, 62, 63, 64, 65, 66, 67, 68, 71, 72, 73, 74, 75, 76, 77, 78, 79, 80, 81, 82, 83, 84, 85, 86, 69, 70, 87] (by decide +kernel) (by decide +kernel)
set_option maxRecDepth 20000 in
theorem gX4_peace_X4_gainOfPeace : GoodIn wsX4_peace (wsV RX4 253 RX4 yX4_gainOfPeace wsX4_gainOfPeace) := goodIn_app (goodIn_of _ (by decide +kernel)) ggX4_peace_X4_gainOfPeace
theorem dX4_peace_0 : decode cX4_peace 0 = .ok (.aload_n 0, 1) := by decide +kernel
theorem dX4_peace_1 : decode cX4_peace 1 = .ok (.getfield 37, 3) := by decide +kernel
theorem dX4_peace_4 : decode cX4_peace 4 = .ok (.aload_n 0, 1) := by decide +kernel
theorem dX4_peace_5 : decode cX4_peace 5 = .ok (.getfield 10, 3) := by decide +kernel
theorem dX4_peace_8 : decode cX4_peace 8 = .ok (.invokevirtual 242, 3) := by decide +kernel
theorem dX4_peace_11 : decode cX4_peace 11 = .ok (.iconst (-1), 1) := by decide +kernel
theorem dX4_peace_12 : decode cX4_peace 12 = .ok (.istore_n 2, 1) := by decide +kernel
theorem dX4_peace_13 : decode cX4_peace 13 = .ok (.iconst 0, 1) := by decide +kernel
theorem dX4_peace_14 : decode cX4_peace 14 = .ok (.istore_n 3, 1) := by decide +kernel
theorem dX4_peace_15 : decode cX4_peace 15 = .ok (.iconst 0, 1) := by decide +kernel
theorem dX4_peace_16 : decode cX4_peace 16 = .ok (.istore 4, 2) := by decide +kernel
theorem dX4_peace_18 : decode cX4_peace 18 = .ok (.iload 4, 2) := by decide +kernel
theorem dX4_peace_20 : decode cX4_peace 20 = .ok (.bipush 8, 2) := by decide +kernel
theorem dX4_peace_22 : decode cX4_peace 22 = .ok (.if_icmp .ge 59, 3) := by decide +kernel
theorem dX4_peace_25 : decode cX4_peace 25 = .ok (.iload 4, 2) := by decide +kernel
theorem dX4_peace_27 : decode cX4_peace 27 = .ok (.iconst 1, 1) := by decide +kernel
theorem dX4_peace_28 : decode cX4_peace 28 = .ok (.iadd, 1) := by decide +kernel
theorem dX4_peace_29 : decode cX4_peace 29 = .ok (.istore 5, 2) := by decide +kernel
theorem dX4_peace_31 : decode cX4_peace 31 = .ok (.iload 5, 2) := by decide +kernel
theorem dX4_peace_33 : decode cX4_peace 33 = .ok (.bipush 8, 2) := by decide +kernel
theorem dX4_peace_35 : decode cX4_peace 35 = .ok (.if_icmp .ge 40, 3) := by decide +kernel
theorem dX4_peace_38 : decode cX4_peace 38 = .ok (.aload_n 0, 1) := by decide +kernel
theorem dX4_peace_39 : decode cX4_peace 39 = .ok (.iload 4, 2) := by decide +kernel
theorem dX4_peace_41 : decode cX4_peace 41 = .ok (.iload 5, 2) := by decide +kernel
theorem dX4_peace_43 : decode cX4_peace 43 = .ok (.invokevirtual 253, 3) := by decide +kernel
theorem dX4_peace_46 : decode cX4_peace 46 = .ok (.istore 6, 2) := by decide +kernel
theorem dX4_peace_48 : decode cX4_peace 48 = .ok (.iload 6, 2) := by decide +kernel
theorem dX4_peace_50 : decode cX4_peace 50 = .ok (.iload_n 3, 1) := by decide +kernel
theorem dX4_peace_51 : decode cX4_peace 51 = .ok (.if_icmp .le 18, 3) := by decide +kernel
theorem dX4_peace_54 : decode cX4_peace 54 = .ok (.iload 6, 2) := by decide +kernel
theorem dX4_peace_56 : decode cX4_peace 56 = .ok (.istore_n 3, 1) := by decide +kernel
theorem dX4_peace_57 : decode cX4_peace 57 = .ok (.iload_n 1, 1) := by decide +kernel
theorem dX4_peace_58 : decode cX4_peace 58 = .ok (.ifCond .eq 8, 3) := by decide +kernel
theorem dX4_peace_61 : decode cX4_peace 61 = .ok (.iload 5, 2) := by decide +kernel
theorem dX4_peace_63 : decode cX4_peace 63 = .ok (.goto 5, 3) := by decide +kernel
theorem dX4_peace_66 : decode cX4_peace 66 = .ok (.iload 4, 2) := by decide +kernel
theorem dX4_peace_68 : decode cX4_peace 68 = .ok (.istore_n 2, 1) := by decide +kernel
theorem dX4_peace_69 : decode cX4_peace 69 = .ok (.iinc 5 1, 3) := by decide +kernel
theorem dX4_peace_72 : decode cX4_peace 72 = .ok (.goto (-41), 3) := by decide +kernel
theorem dX4_peace_75 : decode cX4_peace 75 = .ok (.iinc 4 1, 3) := by decide +kernel
theorem dX4_peace_78 : decode cX4_peace 78 = .ok (.goto (-60), 3) := by decide +kernel
theorem dX4_peace_81 : decode cX4_peace 81 = .ok (.iload_n 2, 1) := by decide +kernel
theorem dX4_peace_82 : decode cX4_peace 82 = .ok (.ireturn, 1) := by decide +kernel
set_option maxRecDepth 20000 in
theorem ggX4_firstShare_X2_sharesThere : GoodIn wsX4_firstShare wsX2_sharesThere := goodIn_r _ [6, 7, 26, 27, 28, 29, 30, 31, 32, 33, 34, 35, 36, 37, 38, 39, 40, 41] (by decide +kernel) (by decide +kernel)
set_option maxRecDepth 20000 in
theorem gX4_firstShare_X2_sharesThere : GoodIn wsX4_firstShare (wsV RX4 211 RX2 yX2_sharesThere wsX2_sharesThere) := goodIn_app (goodIn_of _ (by decide +kernel)) ggX4_firstShare_X2_sharesThere
set_option maxRecDepth 20000 in
theorem ggX4_firstShare_J6_bitCount_0f7a4 : GoodIn wsX4_firstShare wsJ6_bitCount_0f7a4 := goodIn_r _ [11, 12, 13, 14] (by decide +kernel) (by decide +kernel)
set_option maxRecDepth 20000 in
theorem gX4_firstShare_J6_bitCount_0f7a4 : GoodIn wsX4_firstShare (va_wsS RX4 214 yJ6_bitCount_0f7a4 wsJ6_bitCount_0f7a4) := goodIn_app (goodIn_of _ (by decide +kernel)) ggX4_firstShare_J6_bitCount_0f7a4
set_option maxRecDepth 20000 in
theorem ggX4_firstShare_X2_sharesAtHome : GoodIn wsX4_firstShare wsX2_sharesAtHome := goodIn_r _ [18, 7, 26, 27, 28, 29, 30, 31, 32, 33, 34, 35, 36, 37, 38, 39, 40, 41] (by decide +kernel) (by decide +kernel)
set_option maxRecDepth 20000 in
theorem gX4_firstShare_X2_sharesAtHome : GoodIn wsX4_firstShare (wsV RX4 256 RX2 yX2_sharesAtHome wsX2_sharesAtHome) := goodIn_app (goodIn_of _ (by decide +kernel)) ggX4_firstShare_X2_sharesAtHome
theorem dX4_firstShare_0 : decode cX4_firstShare 0 = .ok (.aload_n 0, 1) := by decide +kernel
theorem dX4_firstShare_1 : decode cX4_firstShare 1 = .ok (.getfield 10, 3) := by decide +kernel
theorem dX4_firstShare_4 : decode cX4_firstShare 4 = .ok (.invokevirtual 211, 3) := by decide +kernel
theorem dX4_firstShare_7 : decode cX4_firstShare 7 = .ok (.invokestatic 214, 3) := by decide +kernel
theorem dX4_firstShare_10 : decode cX4_firstShare 10 = .ok (.istore_n 1, 1) := by decide +kernel
theorem dX4_firstShare_11 : decode cX4_firstShare 11 = .ok (.iload_n 1, 1) := by decide +kernel
theorem dX4_firstShare_12 : decode cX4_firstShare 12 = .ok (.ifCond .ne 7, 3) := by decide +kernel
theorem dX4_firstShare_15 : decode cX4_firstShare 15 = .ok (.dconst 1, 1) := by decide +kernel
theorem dX4_firstShare_16 : decode cX4_firstShare 16 = .ok (.goto 14, 3) := by decide +kernel
theorem dX4_firstShare_19 : decode cX4_firstShare 19 = .ok (.aload_n 0, 1) := by decide +kernel
theorem dX4_firstShare_20 : decode cX4_firstShare 20 = .ok (.getfield 10, 3) := by decide +kernel
theorem dX4_firstShare_23 : decode cX4_firstShare 23 = .ok (.invokevirtual 256, 3) := by decide +kernel
theorem dX4_firstShare_26 : decode cX4_firstShare 26 = .ok (.i2d, 1) := by decide +kernel
theorem dX4_firstShare_27 : decode cX4_firstShare 27 = .ok (.iload_n 1, 1) := by decide +kernel
theorem dX4_firstShare_28 : decode cX4_firstShare 28 = .ok (.i2d, 1) := by decide +kernel
theorem dX4_firstShare_29 : decode cX4_firstShare 29 = .ok (.ddiv, 1) := by decide +kernel
theorem dX4_firstShare_30 : decode cX4_firstShare 30 = .ok (.dreturn, 1) := by decide +kernel
set_option maxRecDepth 20000 in
theorem ggX4_digest_X4_count : GoodIn wsX4_digest wsX4_count := goodIn_ca (goodIn_r _ [9, 10, 11, 2, 3, 12, 13, 14, 15, 16, 17, 18, 19, 20, 21, 22, 23, 24, 25, 26, 27, 28, 29, 30, 31, 32, 33, 34, 35, 36, 37, 38, 39, 40, 41, 42, 43, 238, 239, 240, 241, 242, 243, 244, 245, 246, 247, 248, 249, 250, 251, 252, 253, 254, 255, 256, 257, 258, 259, 260] (by decide +kernel) (by decide +kernel)) (goodIn_sub (fun _ h => List.mem_cons_of_mem _ (List.mem_append_left _ (List.mem_append_right _ h))) (by decide +kernel))
set_option maxRecDepth 20000 in
theorem gX4_digest_X4_count : GoodIn wsX4_digest (wsV RX4 261 RX4 yX4_count wsX4_count) := goodIn_app (goodIn_of _ (by decide +kernel)) ggX4_digest_X4_count
set_option maxRecDepth 20000 in
theorem ggX4_digest_X4_mix : GoodIn wsX4_digest wsX4_mix := goodIn_r _ [46, 47] (by decide +kernel) (by decide +kernel)
set_option maxRecDepth 20000 in
theorem gX4_digest_X4_mix : GoodIn wsX4_digest (va_wsS RX4 264 yX4_mix wsX4_mix) := goodIn_app (goodIn_of _ (by decide +kernel)) ggX4_digest_X4_mix
set_option maxRecDepth 20000 in
theorem ggX4_digest_X4_keeperOf : GoodIn wsX4_digest wsX4_keeperOf := goodIn_ca (goodIn_ca (goodIn_r _ [51, 10, 11, 2, 52, 53, 54, 55, 56, 57, 8, 58, 59, 60, 61, 62, 63, 23, 64, 65, 66, 67, 68, 69, 25, 70, 71, 72, 73, 74, 37, 238, 239, 240, 241, 242, 243, 244, 245, 246, 247, 248, 249, 250, 251, 252, 253, 254, 255, 256, 257, 258, 259, 260] (by decide +kernel) (by decide +kernel)) (goodIn_sub (fun _ h => List.mem_cons_of_mem _ (List.mem_append_left _ (List.mem_append_right _ h))) (by decide +kernel))) (goodIn_sub (fun _ h => List.mem_cons_of_mem _ (List.mem_append_right _ h)) (by decide +kernel))
set_option maxRecDepth 20000 in
theorem gX4_digest_X4_keeperOf : GoodIn wsX4_digest (wsV RX4 268 RX4 yX4_keeperOf wsX4_keeperOf) := goodIn_app (goodIn_of _ (by decide +kernel)) ggX4_digest_X4_keeperOf
set_option maxRecDepth 20000 in
theorem ggX4_digest_X4_share : GoodIn wsX4_digest wsX4_share := goodIn_ca (goodIn_r _ [78, 2, 79, 80, 81, 82, 83, 8, 84, 10, 11, 85, 86, 87, 23, 88, 37, 238, 239, 240, 241, 242, 243, 244, 245, 246, 247, 248, 249, 250, 251, 252, 253, 254, 255, 256, 257, 258, 259, 260] (by decide +kernel) (by decide +kernel)) (goodIn_sub (fun _ h => List.mem_cons_of_mem _ (List.mem_append_left _ (List.mem_append_right _ h))) (by decide +kernel))
set_option maxRecDepth 20000 in
theorem gX4_digest_X4_share : GoodIn wsX4_digest (wsV RX4 271 RX4 yX4_share wsX4_share) := goodIn_app (goodIn_of _ (by decide +kernel)) ggX4_digest_X4_share
set_option maxRecDepth 20000 in
theorem ggX4_digest_X4_mixTold : GoodIn wsX4_digest wsX4_mixTold := goodIn_ca (goodIn_r _ [92, 93, 94, 95, 8, 96, 2, 14, 97, 82, 83, 84, 10, 11, 98, 99, 100, 23, 101, 102, 103, 34, 35, 36, 37, 38, 27, 28, 29, 30, 31, 32, 104, 105, 106, 107, 108, 109, 44, 45, 46, 47, 110, 111, 112, 113, 114, 115, 116, 117, 118, 119, 238, 239, 240, 241, 242, 243, 244, 245, 246, 247, 248, 249, 250, 251, 252, 253, 254, 255, 256, 257, 258, 259, 260, 263] (by decide +kernel) (by decide +kernel)) (goodIn_sub (fun _ h => List.mem_cons_of_mem _ (List.mem_append_left _ (List.mem_append_right _ h))) (by decide +kernel))
set_option maxRecDepth 20000 in
theorem gX4_digest_X4_mixTold : GoodIn wsX4_digest (wsV RX4 274 RX4 yX4_mixTold wsX4_mixTold) := goodIn_app (goodIn_of _ (by decide +kernel)) ggX4_digest_X4_mixTold
set_option maxRecDepth 20000 in
theorem ggX4_digest_X4_mixOpening : GoodIn wsX4_digest wsX4_mixOpening := goodIn_ca (goodIn_r _ [123, 2, 124, 125, 126, 23, 127, 65, 128, 129, 130, 8, 131, 132, 13, 12, 15, 14, 97, 133, 134, 135, 136, 137, 138, 139, 140, 141, 142, 72, 73, 74, 37, 143, 27, 28, 29, 30, 31, 32, 144, 145, 146, 147, 25, 148, 149, 150, 151, 152, 153, 154, 155, 38, 104, 105, 106, 107, 108, 109, 44, 45, 46, 47, 156, 157, 158, 159, 82, 83, 84, 10, 11, 160, 161, 162, 163, 164, 165, 166, 167, 168, 169, 170, 171, 172, 173, 174, 175, 176, 177, 178, 179, 180, 66, 67, 68, 69, 70, 62, 63, 64, 181, 182, 183, 184, 185, 43, 186, 187, 188, 189, 102, 190, 191, 192, 193, 194, 195, 196, 197, 198, 199, 200, 201, 202, 203, 204, 205, 206, 207, 208, 209, 210, 211, 212, 238, 239, 240, 241, 242, 243, 244, 245, 246, 247, 248, 249, 250, 251, 252, 253, 254, 255, 256, 257, 258, 259, 260, 264, 265, 263] (by decide +kernel) (by decide +kernel)) (goodIn_sub (fun _ h => List.mem_cons_of_mem _ (List.mem_append_left _ (List.mem_append_right _ h))) (by decide +kernel))
set_option maxRecDepth 20000 in
theorem gX4_digest_X4_mixOpening : GoodIn wsX4_digest (wsV RX4 278 RX4 yX4_mixOpening wsX4_mixOpening) := goodIn_app (goodIn_of _ (by decide +kernel)) ggX4_digest_X4_mixOpening
set_option maxRecDepth 20000 in
theorem ggX4_digest_X4_firstShare : GoodIn wsX4_digest wsX4_firstShare := goodIn_r _ [216, 2, 33, 34, 35, 23, 36, 37, 38, 27, 28, 29, 30, 31, 32, 217, 218, 219, 220, 238, 239, 240, 241, 242, 243, 244, 245, 246, 247, 248, 249, 250, 251, 252, 253, 254, 255, 256, 257, 258, 259, 260] (by decide +kernel) (by decide +kernel)
set_option maxRecDepth 20000 in
theorem gX4_digest_X4_firstShare : GoodIn wsX4_digest (wsV RX4 281 RX4 yX4_firstShare wsX4_firstShare) := goodIn_app (goodIn_of _ (by decide +kernel)) ggX4_digest_X4_firstShare
set_option maxRecDepth 20000 in
theorem ggX4_digest_X4_bitsOf : GoodIn wsX4_digest wsX4_bitsOf := goodIn_r _ [223, 224, 225, 226] (by decide +kernel) (by decide +kernel)
set_option maxRecDepth 20000 in
theorem gX4_digest_X4_bitsOf : GoodIn wsX4_digest (va_wsS RX4 285 yX4_bitsOf wsX4_bitsOf) := goodIn_app (goodIn_of _ (by decide +kernel)) ggX4_digest_X4_bitsOf
set_option maxRecDepth 20000 in
theorem ggX4_digest_X1_mixCodes : GoodIn wsX4_digest wsX1_mixCodes := goodIn_r _ [231, 232, 233, 234, 235, 230, 236, 237, 45, 8, 46, 47, 261, 262] (by decide +kernel) (by decide +kernel)
set_option maxRecDepth 20000 in
theorem gX4_digest_X1_mixCodes : GoodIn wsX4_digest (wsV RX4 289 RX1 yX1_mixCodes wsX1_mixCodes) := goodIn_app (goodIn_of _ (by decide +kernel)) ggX4_digest_X1_mixCodes
theorem dX4_digest_0 : decode cX4_digest 0 = .ok (.ldc2_w 259, 3) := by decide +kernel
theorem dX4_digest_3 : decode cX4_digest 3 = .ok (.lstore_n 1, 1) := by decide +kernel
theorem dX4_digest_4 : decode cX4_digest 4 = .ok (.iconst 0, 1) := by decide +kernel
theorem dX4_digest_5 : decode cX4_digest 5 = .ok (.istore_n 3, 1) := by decide +kernel
theorem dX4_digest_6 : decode cX4_digest 6 = .ok (.iload_n 3, 1) := by decide +kernel
theorem dX4_digest_7 : decode cX4_digest 7 = .ok (.bipush 11, 2) := by decide +kernel
theorem dX4_digest_9 : decode cX4_digest 9 = .ok (.if_icmp .gt 20, 3) := by decide +kernel
theorem dX4_digest_12 : decode cX4_digest 12 = .ok (.lload_n 1, 1) := by decide +kernel
theorem dX4_digest_13 : decode cX4_digest 13 = .ok (.aload_n 0, 1) := by decide +kernel
theorem dX4_digest_14 : decode cX4_digest 14 = .ok (.iload_n 3, 1) := by decide +kernel
theorem dX4_digest_15 : decode cX4_digest 15 = .ok (.invokevirtual 261, 3) := by decide +kernel
theorem dX4_digest_18 : decode cX4_digest 18 = .ok (.i2l, 1) := by decide +kernel
theorem dX4_digest_19 : decode cX4_digest 19 = .ok (.invokestatic 264, 3) := by decide +kernel
theorem dX4_digest_22 : decode cX4_digest 22 = .ok (.lstore_n 1, 1) := by decide +kernel
theorem dX4_digest_23 : decode cX4_digest 23 = .ok (.iinc 3 1, 3) := by decide +kernel
theorem dX4_digest_26 : decode cX4_digest 26 = .ok (.goto (-20), 3) := by decide +kernel
theorem dX4_digest_29 : decode cX4_digest 29 = .ok (.iconst 0, 1) := by decide +kernel
theorem dX4_digest_30 : decode cX4_digest 30 = .ok (.istore_n 3, 1) := by decide +kernel
theorem dX4_digest_31 : decode cX4_digest 31 = .ok (.iload_n 3, 1) := by decide +kernel
theorem dX4_digest_32 : decode cX4_digest 32 = .ok (.aload_n 0, 1) := by decide +kernel
theorem dX4_digest_33 : decode cX4_digest 33 = .ok (.getfield 10, 3) := by decide +kernel
theorem dX4_digest_36 : decode cX4_digest 36 = .ok (.getfield 48, 3) := by decide +kernel
theorem dX4_digest_39 : decode cX4_digest 39 = .ok (.if_icmp .ge 37, 3) := by decide +kernel
theorem dX4_digest_42 : decode cX4_digest 42 = .ok (.iconst 0, 1) := by decide +kernel
theorem dX4_digest_43 : decode cX4_digest 43 = .ok (.istore 4, 2) := by decide +kernel
theorem dX4_digest_45 : decode cX4_digest 45 = .ok (.iload 4, 2) := by decide +kernel
theorem dX4_digest_47 : decode cX4_digest 47 = .ok (.iconst 4, 1) := by decide +kernel
theorem dX4_digest_48 : decode cX4_digest 48 = .ok (.if_icmp .gt 22, 3) := by decide +kernel
theorem dX4_digest_51 : decode cX4_digest 51 = .ok (.lload_n 1, 1) := by decide +kernel
theorem dX4_digest_52 : decode cX4_digest 52 = .ok (.aload_n 0, 1) := by decide +kernel
theorem dX4_digest_53 : decode cX4_digest 53 = .ok (.iload_n 3, 1) := by decide +kernel
theorem dX4_digest_54 : decode cX4_digest 54 = .ok (.iload 4, 2) := by decide +kernel
theorem dX4_digest_56 : decode cX4_digest 56 = .ok (.invokevirtual 268, 3) := by decide +kernel
theorem dX4_digest_59 : decode cX4_digest 59 = .ok (.i2l, 1) := by decide +kernel
theorem dX4_digest_60 : decode cX4_digest 60 = .ok (.invokestatic 264, 3) := by decide +kernel
theorem dX4_digest_63 : decode cX4_digest 63 = .ok (.lstore_n 1, 1) := by decide +kernel
theorem dX4_digest_64 : decode cX4_digest 64 = .ok (.iinc 4 1, 3) := by decide +kernel
theorem dX4_digest_67 : decode cX4_digest 67 = .ok (.goto (-22), 3) := by decide +kernel
theorem dX4_digest_70 : decode cX4_digest 70 = .ok (.iinc 3 1, 3) := by decide +kernel
theorem dX4_digest_73 : decode cX4_digest 73 = .ok (.goto (-42), 3) := by decide +kernel
theorem dX4_digest_76 : decode cX4_digest 76 = .ok (.iconst 0, 1) := by decide +kernel
theorem dX4_digest_77 : decode cX4_digest 77 = .ok (.istore_n 3, 1) := by decide +kernel
theorem dX4_digest_78 : decode cX4_digest 78 = .ok (.iload_n 3, 1) := by decide +kernel
theorem dX4_digest_79 : decode cX4_digest 79 = .ok (.bipush 8, 2) := by decide +kernel
theorem dX4_digest_81 : decode cX4_digest 81 = .ok (.if_icmp .ge 37, 3) := by decide +kernel
theorem dX4_digest_84 : decode cX4_digest 84 = .ok (.iconst 0, 1) := by decide +kernel
theorem dX4_digest_85 : decode cX4_digest 85 = .ok (.istore 4, 2) := by decide +kernel
theorem dX4_digest_87 : decode cX4_digest 87 = .ok (.iload 4, 2) := by decide +kernel
theorem dX4_digest_89 : decode cX4_digest 89 = .ok (.iconst 2, 1) := by decide +kernel
theorem dX4_digest_90 : decode cX4_digest 90 = .ok (.if_icmp .gt 22, 3) := by decide +kernel
theorem dX4_digest_93 : decode cX4_digest 93 = .ok (.lload_n 1, 1) := by decide +kernel
theorem dX4_digest_94 : decode cX4_digest 94 = .ok (.aload_n 0, 1) := by decide +kernel
theorem dX4_digest_95 : decode cX4_digest 95 = .ok (.iload_n 3, 1) := by decide +kernel
theorem dX4_digest_96 : decode cX4_digest 96 = .ok (.iload 4, 2) := by decide +kernel
theorem dX4_digest_98 : decode cX4_digest 98 = .ok (.invokevirtual 271, 3) := by decide +kernel
theorem dX4_digest_101 : decode cX4_digest 101 = .ok (.i2l, 1) := by decide +kernel
theorem dX4_digest_102 : decode cX4_digest 102 = .ok (.invokestatic 264, 3) := by decide +kernel
theorem dX4_digest_105 : decode cX4_digest 105 = .ok (.lstore_n 1, 1) := by decide +kernel
theorem dX4_digest_106 : decode cX4_digest 106 = .ok (.iinc 4 1, 3) := by decide +kernel
theorem dX4_digest_109 : decode cX4_digest 109 = .ok (.goto (-22), 3) := by decide +kernel
theorem dX4_digest_112 : decode cX4_digest 112 = .ok (.iinc 3 1, 3) := by decide +kernel
theorem dX4_digest_115 : decode cX4_digest 115 = .ok (.goto (-37), 3) := by decide +kernel
theorem dX4_digest_118 : decode cX4_digest 118 = .ok (.aload_n 0, 1) := by decide +kernel
theorem dX4_digest_119 : decode cX4_digest 119 = .ok (.lload_n 1, 1) := by decide +kernel
theorem dX4_digest_120 : decode cX4_digest 120 = .ok (.invokevirtual 274, 3) := by decide +kernel
theorem dX4_digest_123 : decode cX4_digest 123 = .ok (.lstore_n 1, 1) := by decide +kernel
theorem dX4_digest_124 : decode cX4_digest 124 = .ok (.aload_n 0, 1) := by decide +kernel
theorem dX4_digest_125 : decode cX4_digest 125 = .ok (.lload_n 1, 1) := by decide +kernel
theorem dX4_digest_126 : decode cX4_digest 126 = .ok (.invokevirtual 278, 3) := by decide +kernel
theorem dX4_digest_129 : decode cX4_digest 129 = .ok (.lstore_n 1, 1) := by decide +kernel
theorem dX4_digest_130 : decode cX4_digest 130 = .ok (.lload_n 1, 1) := by decide +kernel
theorem dX4_digest_131 : decode cX4_digest 131 = .ok (.aload_n 0, 1) := by decide +kernel
theorem dX4_digest_132 : decode cX4_digest 132 = .ok (.invokevirtual 281, 3) := by decide +kernel
theorem dX4_digest_135 : decode cX4_digest 135 = .ok (.invokestatic 285, 3) := by decide +kernel
theorem dX4_digest_138 : decode cX4_digest 138 = .ok (.invokestatic 264, 3) := by decide +kernel
theorem dX4_digest_141 : decode cX4_digest 141 = .ok (.lstore_n 1, 1) := by decide +kernel
theorem dX4_digest_142 : decode cX4_digest 142 = .ok (.aload_n 0, 1) := by decide +kernel
theorem dX4_digest_143 : decode cX4_digest 143 = .ok (.getfield 44, 3) := by decide +kernel
theorem dX4_digest_146 : decode cX4_digest 146 = .ok (.lload_n 1, 1) := by decide +kernel
theorem dX4_digest_147 : decode cX4_digest 147 = .ok (.aload_n 0, 1) := by decide +kernel
theorem dX4_digest_148 : decode cX4_digest 148 = .ok (.getfield 44, 3) := by decide +kernel
theorem dX4_digest_151 : decode cX4_digest 151 = .ok (.getfield 145, 3) := by decide +kernel
theorem dX4_digest_154 : decode cX4_digest 154 = .ok (.i2l, 1) := by decide +kernel
theorem dX4_digest_155 : decode cX4_digest 155 = .ok (.invokestatic 264, 3) := by decide +kernel
theorem dX4_digest_158 : decode cX4_digest 158 = .ok (.invokevirtual 289, 3) := by decide +kernel
theorem dX4_digest_161 : decode cX4_digest 161 = .ok (.lreturn, 1) := by decide +kernel
set_option maxRecDepth 20000 in
theorem ggX4_checkKeeper_X2_hasKeeper : GoodIn wsX4_checkKeeper wsX2_hasKeeper := goodIn_r _ [8, 9, 17, 18, 19, 20, 21, 22, 23, 24, 25, 26, 27, 28, 29, 30, 31, 32] (by decide +kernel) (by decide +kernel)
set_option maxRecDepth 20000 in
theorem gX4_checkKeeper_X2_hasKeeper : GoodIn wsX4_checkKeeper (wsV RX4 292 RX2 yX2_hasKeeper wsX2_hasKeeper) := goodIn_app (goodIn_of _ (by decide +kernel)) ggX4_checkKeeper_X2_hasKeeper
theorem dX4_checkKeeper_0 : decode cX4_checkKeeper 0 = .ok (.aload_n 0, 1) := by decide +kernel
theorem dX4_checkKeeper_1 : decode cX4_checkKeeper 1 = .ok (.getfield 10, 3) := by decide +kernel
theorem dX4_checkKeeper_4 : decode cX4_checkKeeper 4 = .ok (.iload_n 1, 1) := by decide +kernel
theorem dX4_checkKeeper_5 : decode cX4_checkKeeper 5 = .ok (.invokevirtual 292, 3) := by decide +kernel
theorem dX4_checkKeeper_8 : decode cX4_checkKeeper 8 = .ok (.ifCond .ne 14, 3) := by decide +kernel
theorem dX4_checkKeeper_11 : decode cX4_checkKeeper 11 = .ok (.new 295, 3) := by decide +kernel
theorem dX4_checkKeeper_14 : decode cX4_checkKeeper 14 = .ok (.dup, 1) := by decide +kernel
theorem dX4_checkKeeper_15 : decode cX4_checkKeeper 15 = .ok (.ldc_w 297, 3) := by decide +kernel
theorem dX4_checkKeeper_18 : decode cX4_checkKeeper 18 = .ok (.invokespecial 299, 3) := by decide +kernel
theorem dX4_checkKeeper_21 : decode cX4_checkKeeper 21 = .ok (.athrow, 1) := by decide +kernel
theorem dX4_checkKeeper_22 : decode cX4_checkKeeper 22 = .ok (.return_, 1) := by decide +kernel
set_option maxRecDepth 20000 in
theorem ggX4_checkGroup_X2_everybody : GoodIn wsX4_checkGroup wsX2_everybody := goodIn_r _ [8, 9, 17, 18, 19, 20, 21, 22, 23, 24, 25, 26, 27, 28, 29, 30, 31, 32] (by decide +kernel) (by decide +kernel)
set_option maxRecDepth 20000 in
theorem gX4_checkGroup_X2_everybody : GoodIn wsX4_checkGroup (wsV RX4 300 RX2 yX2_everybody wsX2_everybody) := goodIn_app (goodIn_of _ (by decide +kernel)) ggX4_checkGroup_X2_everybody
theorem dX4_checkGroup_0 : decode cX4_checkGroup 0 = .ok (.iload_n 1, 1) := by decide +kernel
theorem dX4_checkGroup_1 : decode cX4_checkGroup 1 = .ok (.ifCond .lt 14, 3) := by decide +kernel
theorem dX4_checkGroup_4 : decode cX4_checkGroup 4 = .ok (.iload_n 1, 1) := by decide +kernel
theorem dX4_checkGroup_5 : decode cX4_checkGroup 5 = .ok (.aload_n 0, 1) := by decide +kernel
theorem dX4_checkGroup_6 : decode cX4_checkGroup 6 = .ok (.getfield 10, 3) := by decide +kernel
theorem dX4_checkGroup_9 : decode cX4_checkGroup 9 = .ok (.invokevirtual 300, 3) := by decide +kernel
theorem dX4_checkGroup_12 : decode cX4_checkGroup 12 = .ok (.if_icmp .le 14, 3) := by decide +kernel
theorem dX4_checkGroup_15 : decode cX4_checkGroup 15 = .ok (.new 162, 3) := by decide +kernel
theorem dX4_checkGroup_18 : decode cX4_checkGroup 18 = .ok (.dup, 1) := by decide +kernel
theorem dX4_checkGroup_19 : decode cX4_checkGroup 19 = .ok (.ldc_w 303, 3) := by decide +kernel
theorem dX4_checkGroup_22 : decode cX4_checkGroup 22 = .ok (.invokespecial 166, 3) := by decide +kernel
theorem dX4_checkGroup_25 : decode cX4_checkGroup 25 = .ok (.athrow, 1) := by decide +kernel
theorem dX4_checkGroup_26 : decode cX4_checkGroup 26 = .ok (.return_, 1) := by decide +kernel
theorem dX4_checkRange_0 : decode cX4_checkRange 0 = .ok (.iload_n 0, 1) := by decide +kernel
theorem dX4_checkRange_1 : decode cX4_checkRange 1 = .ok (.iload_n 1, 1) := by decide +kernel
theorem dX4_checkRange_2 : decode cX4_checkRange 2 = .ok (.if_icmp .lt 8, 3) := by decide +kernel
theorem dX4_checkRange_5 : decode cX4_checkRange 5 = .ok (.iload_n 0, 1) := by decide +kernel
theorem dX4_checkRange_6 : decode cX4_checkRange 6 = .ok (.iload_n 2, 1) := by decide +kernel
theorem dX4_checkRange_7 : decode cX4_checkRange 7 = .ok (.if_icmp .le 14, 3) := by decide +kernel
theorem dX4_checkRange_10 : decode cX4_checkRange 10 = .ok (.new 162, 3) := by decide +kernel
theorem dX4_checkRange_13 : decode cX4_checkRange 13 = .ok (.dup, 1) := by decide +kernel
theorem dX4_checkRange_14 : decode cX4_checkRange 14 = .ok (.ldc_w 305, 3) := by decide +kernel
theorem dX4_checkRange_17 : decode cX4_checkRange 17 = .ok (.invokespecial 166, 3) := by decide +kernel
theorem dX4_checkRange_20 : decode cX4_checkRange 20 = .ok (.athrow, 1) := by decide +kernel
theorem dX4_checkRange_21 : decode cX4_checkRange 21 = .ok (.return_, 1) := by decide +kernel
set_option maxRecDepth 20000 in
theorem ggX4_save_X2_copyFrom : GoodIn wsX4_save wsX2_copyFrom := goodIn_r _ [8, 9, 10, 11, 12, 13, 14, 15, 16, 17, 18, 19, 20, 21, 22, 23, 24, 32, 33, 34, 35, 36, 37, 38, 39, 40, 41, 42, 43, 44, 45, 46, 47] (by decide +kernel) (by decide +kernel)
set_option maxRecDepth 20000 in
theorem gX4_save_X2_copyFrom : GoodIn wsX4_save (wsV RX4 175 RX2 yX2_copyFrom wsX2_copyFrom) := goodIn_app (goodIn_of _ (by decide +kernel)) ggX4_save_X2_copyFrom
theorem dX4_save_0 : decode cX4_save 0 = .ok (.aload_n 0, 1) := by decide +kernel
theorem dX4_save_1 : decode cX4_save 1 = .ok (.getfield 23, 3) := by decide +kernel
theorem dX4_save_4 : decode cX4_save 4 = .ok (.bipush 6, 2) := by decide +kernel
theorem dX4_save_6 : decode cX4_save 6 = .ok (.if_icmp .lt 50, 3) := by decide +kernel
theorem dX4_save_9 : decode cX4_save 9 = .ok (.aload_n 0, 1) := by decide +kernel
theorem dX4_save_10 : decode cX4_save 10 = .ok (.getfield 19, 3) := by decide +kernel
theorem dX4_save_13 : decode cX4_save 13 = .ok (.iconst 0, 1) := by decide +kernel
theorem dX4_save_14 : decode cX4_save 14 = .ok (.aaload, 1) := by decide +kernel
theorem dX4_save_15 : decode cX4_save 15 = .ok (.astore_n 1, 1) := by decide +kernel
theorem dX4_save_16 : decode cX4_save 16 = .ok (.iconst 1, 1) := by decide +kernel
theorem dX4_save_17 : decode cX4_save 17 = .ok (.istore_n 2, 1) := by decide +kernel
theorem dX4_save_18 : decode cX4_save 18 = .ok (.iload_n 2, 1) := by decide +kernel
theorem dX4_save_19 : decode cX4_save 19 = .ok (.bipush 6, 2) := by decide +kernel
theorem dX4_save_21 : decode cX4_save 21 = .ok (.if_icmp .ge 23, 3) := by decide +kernel
theorem dX4_save_24 : decode cX4_save 24 = .ok (.aload_n 0, 1) := by decide +kernel
theorem dX4_save_25 : decode cX4_save 25 = .ok (.getfield 19, 3) := by decide +kernel
theorem dX4_save_28 : decode cX4_save 28 = .ok (.iload_n 2, 1) := by decide +kernel
theorem dX4_save_29 : decode cX4_save 29 = .ok (.iconst 1, 1) := by decide +kernel
theorem dX4_save_30 : decode cX4_save 30 = .ok (.isub, 1) := by decide +kernel
theorem dX4_save_31 : decode cX4_save 31 = .ok (.aload_n 0, 1) := by decide +kernel
theorem dX4_save_32 : decode cX4_save 32 = .ok (.getfield 19, 3) := by decide +kernel
theorem dX4_save_35 : decode cX4_save 35 = .ok (.iload_n 2, 1) := by decide +kernel
theorem dX4_save_36 : decode cX4_save 36 = .ok (.aaload, 1) := by decide +kernel
theorem dX4_save_37 : decode cX4_save 37 = .ok (.aastore, 1) := by decide +kernel
theorem dX4_save_38 : decode cX4_save 38 = .ok (.iinc 2 1, 3) := by decide +kernel
theorem dX4_save_41 : decode cX4_save 41 = .ok (.goto (-23), 3) := by decide +kernel
theorem dX4_save_44 : decode cX4_save 44 = .ok (.aload_n 0, 1) := by decide +kernel
theorem dX4_save_45 : decode cX4_save 45 = .ok (.getfield 19, 3) := by decide +kernel
theorem dX4_save_48 : decode cX4_save 48 = .ok (.iconst 5, 1) := by decide +kernel
theorem dX4_save_49 : decode cX4_save 49 = .ok (.aload_n 1, 1) := by decide +kernel
theorem dX4_save_50 : decode cX4_save 50 = .ok (.aastore, 1) := by decide +kernel
theorem dX4_save_51 : decode cX4_save 51 = .ok (.aload_n 0, 1) := by decide +kernel
theorem dX4_save_52 : decode cX4_save 52 = .ok (.iconst 5, 1) := by decide +kernel
theorem dX4_save_53 : decode cX4_save 53 = .ok (.putfield 23, 3) := by decide +kernel
theorem dX4_save_56 : decode cX4_save 56 = .ok (.aload_n 0, 1) := by decide +kernel
theorem dX4_save_57 : decode cX4_save 57 = .ok (.getfield 19, 3) := by decide +kernel
theorem dX4_save_60 : decode cX4_save 60 = .ok (.aload_n 0, 1) := by decide +kernel
theorem dX4_save_61 : decode cX4_save 61 = .ok (.getfield 23, 3) := by decide +kernel
theorem dX4_save_64 : decode cX4_save 64 = .ok (.aaload, 1) := by decide +kernel
theorem dX4_save_65 : decode cX4_save 65 = .ok (.aload_n 0, 1) := by decide +kernel
theorem dX4_save_66 : decode cX4_save 66 = .ok (.getfield 10, 3) := by decide +kernel
theorem dX4_save_69 : decode cX4_save 69 = .ok (.invokevirtual 175, 3) := by decide +kernel
theorem dX4_save_72 : decode cX4_save 72 = .ok (.aload_n 0, 1) := by decide +kernel
theorem dX4_save_73 : decode cX4_save 73 = .ok (.dup, 1) := by decide +kernel
theorem dX4_save_74 : decode cX4_save 74 = .ok (.getfield 23, 3) := by decide +kernel
theorem dX4_save_77 : decode cX4_save 77 = .ok (.iconst 1, 1) := by decide +kernel
theorem dX4_save_78 : decode cX4_save 78 = .ok (.iadd, 1) := by decide +kernel
theorem dX4_save_79 : decode cX4_save 79 = .ok (.putfield 23, 3) := by decide +kernel
theorem dX4_save_82 : decode cX4_save 82 = .ok (.return_, 1) := by decide +kernel
set_option maxRecDepth 20000 in
theorem ggX4_dealShares_X2_drawShares : GoodIn wsX4_dealShares wsX2_drawShares := goodIn_r _ [7, 8, 9, 10, 11, 12, 13, 14, 15, 16, 6, 17, 18, 19, 20, 21, 22, 23, 24, 25, 26, 27, 28, 29, 30, 31, 32, 33, 34, 35, 36, 37, 38, 39, 40, 41, 42, 43, 65, 66, 67, 68, 69, 70, 71, 72, 73, 74, 75, 76, 77, 78, 79, 80] (by decide +kernel) (by decide +kernel)
set_option maxRecDepth 20000 in
theorem gX4_dealShares_X2_drawShares : GoodIn wsX4_dealShares (wsV RX4 307 RX2 yX2_drawShares wsX2_drawShares) := goodIn_app (goodIn_of _ (by decide +kernel)) ggX4_dealShares_X2_drawShares
set_option maxRecDepth 20000 in
theorem ggX4_dealShares_X0_reckon : GoodIn wsX4_dealShares wsX0_reckon := goodIn_r _ [48, 49, 50, 51, 52, 53, 38, 39, 40, 41, 42, 43, 54, 55, 56, 57, 81, 65, 66, 67, 68, 69, 70, 71, 72, 73, 74, 75, 76, 77, 78, 79, 80] (by decide +kernel) (by decide +kernel)
set_option maxRecDepth 20000 in
theorem gX4_dealShares_X0_reckon : GoodIn wsX4_dealShares (wsV RX4 123 RX0 yX0_reckon wsX0_reckon) := goodIn_app (goodIn_of _ (by decide +kernel)) ggX4_dealShares_X0_reckon
theorem dX4_dealShares_0 : decode cX4_dealShares 0 = .ok (.aload_n 0, 1) := by decide +kernel
theorem dX4_dealShares_1 : decode cX4_dealShares 1 = .ok (.getfield 10, 3) := by decide +kernel
theorem dX4_dealShares_4 : decode cX4_dealShares 4 = .ok (.invokevirtual 307, 3) := by decide +kernel
theorem dX4_dealShares_7 : decode cX4_dealShares 7 = .ok (.istore_n 1, 1) := by decide +kernel
theorem dX4_dealShares_8 : decode cX4_dealShares 8 = .ok (.aload_n 0, 1) := by decide +kernel
theorem dX4_dealShares_9 : decode cX4_dealShares 9 = .ok (.getfield 30, 3) := by decide +kernel
theorem dX4_dealShares_12 : decode cX4_dealShares 12 = .ok (.aload_n 0, 1) := by decide +kernel
theorem dX4_dealShares_13 : decode cX4_dealShares 13 = .ok (.getfield 10, 3) := by decide +kernel
theorem dX4_dealShares_16 : decode cX4_dealShares 16 = .ok (.invokevirtual 123, 3) := by decide +kernel
theorem dX4_dealShares_19 : decode cX4_dealShares 19 = .ok (.iload_n 1, 1) := by decide +kernel
theorem dX4_dealShares_20 : decode cX4_dealShares 20 = .ok (.ireturn, 1) := by decide +kernel
set_option maxRecDepth 20000 in
theorem ggX4_refusal_X3_look : GoodIn wsX4_refusal wsX3_look := goodIn_r _ [13, 14, 15, 16, 17, 18, 19, 20, 21, 22, 23, 24, 25, 26, 27, 28, 29, 73, 74, 57, 58, 59, 60, 61, 62, 63, 64, 65, 66, 67, 68, 69, 70, 71, 72] (by decide +kernel) (by decide +kernel)
set_option maxRecDepth 20000 in
theorem gX4_refusal_X3_look : GoodIn wsX4_refusal (wsV RX4 242 RX3 yX3_look wsX3_look) := goodIn_app (goodIn_of _ (by decide +kernel)) ggX4_refusal_X3_look
set_option maxRecDepth 20000 in
theorem ggX4_refusal_X2_allLive : GoodIn wsX4_refusal wsX2_allLive := goodIn_r _ [33, 34, 57, 58, 59, 60, 61, 62, 63, 64, 65, 66, 67, 68, 69, 70, 71, 72] (by decide +kernel) (by decide +kernel)
set_option maxRecDepth 20000 in
theorem gX4_refusal_X2_allLive : GoodIn wsX4_refusal (wsV RX4 310 RX2 yX2_allLive wsX2_allLive) := goodIn_app (goodIn_of _ (by decide +kernel)) ggX4_refusal_X2_allLive
set_option maxRecDepth 20000 in
theorem ggX4_refusal_X3_pairsIn : GoodIn wsX4_refusal wsX3_pairsIn := goodIn_r _ [38, 15, 73, 74] (by decide +kernel) (by decide +kernel)
set_option maxRecDepth 20000 in
theorem gX4_refusal_X3_pairsIn : GoodIn wsX4_refusal (wsV RX4 313 RX3 yX3_pairsIn wsX3_pairsIn) := goodIn_app (goodIn_of _ (by decide +kernel)) ggX4_refusal_X3_pairsIn
set_option maxRecDepth 20000 in
theorem ggX4_refusal_X3_sharesOf : GoodIn wsX4_refusal wsX3_sharesOf := goodIn_r _ [42, 14, 73, 74] (by decide +kernel) (by decide +kernel)
set_option maxRecDepth 20000 in
theorem gX4_refusal_X3_sharesOf : GoodIn wsX4_refusal (wsV RX4 316 RX3 yX3_sharesOf wsX3_sharesOf) := goodIn_app (goodIn_of _ (by decide +kernel)) ggX4_refusal_X3_sharesOf
set_option maxRecDepth 20000 in
theorem ggX4_refusal_J6_bitCount_0f7a4 : GoodIn wsX4_refusal wsJ6_bitCount_0f7a4 := goodIn_r _ [26, 27, 28, 29] (by decide +kernel) (by decide +kernel)
set_option maxRecDepth 20000 in
theorem gX4_refusal_J6_bitCount_0f7a4 : GoodIn wsX4_refusal (va_wsS RX4 214 yJ6_bitCount_0f7a4 wsJ6_bitCount_0f7a4) := goodIn_app (goodIn_of _ (by decide +kernel)) ggX4_refusal_J6_bitCount_0f7a4
set_option maxRecDepth 20000 in
theorem ggX4_refusal_X0_keyOf : GoodIn wsX4_refusal wsX0_keyOf := goodIn_r _ [48, 49, 75] (by decide +kernel) (by decide +kernel)
set_option maxRecDepth 20000 in
theorem gX4_refusal_X0_keyOf : GoodIn wsX4_refusal (wsV RX4 236 RX0 yX0_keyOf wsX0_keyOf) := goodIn_app (goodIn_of _ (by decide +kernel)) ggX4_refusal_X0_keyOf
theorem dX4_refusal_0 : decode cX4_refusal 0 = .ok (.aload_n 0, 1) := by decide +kernel
theorem dX4_refusal_1 : decode cX4_refusal 1 = .ok (.getfield 37, 3) := by decide +kernel
theorem dX4_refusal_4 : decode cX4_refusal 4 = .ok (.aload_n 0, 1) := by decide +kernel
theorem dX4_refusal_5 : decode cX4_refusal 5 = .ok (.getfield 10, 3) := by decide +kernel
theorem dX4_refusal_8 : decode cX4_refusal 8 = .ok (.invokevirtual 242, 3) := by decide +kernel
theorem dX4_refusal_11 : decode cX4_refusal 11 = .ok (.aload_n 0, 1) := by decide +kernel
theorem dX4_refusal_12 : decode cX4_refusal 12 = .ok (.getfield 10, 3) := by decide +kernel
theorem dX4_refusal_15 : decode cX4_refusal 15 = .ok (.getfield 202, 3) := by decide +kernel
theorem dX4_refusal_18 : decode cX4_refusal 18 = .ok (.iconst 1, 1) := by decide +kernel
theorem dX4_refusal_19 : decode cX4_refusal 19 = .ok (.if_icmp .eq 5, 3) := by decide +kernel
theorem dX4_refusal_22 : decode cX4_refusal 22 = .ok (.iconst 1, 1) := by decide +kernel
theorem dX4_refusal_23 : decode cX4_refusal 23 = .ok (.ireturn, 1) := by decide +kernel
theorem dX4_refusal_24 : decode cX4_refusal 24 = .ok (.iload_n 1, 1) := by decide +kernel
theorem dX4_refusal_25 : decode cX4_refusal 25 = .ok (.ifCond .eq 14, 3) := by decide +kernel
theorem dX4_refusal_28 : decode cX4_refusal 28 = .ok (.aload_n 0, 1) := by decide +kernel
theorem dX4_refusal_29 : decode cX4_refusal 29 = .ok (.getfield 10, 3) := by decide +kernel
theorem dX4_refusal_32 : decode cX4_refusal 32 = .ok (.iload_n 1, 1) := by decide +kernel
theorem dX4_refusal_33 : decode cX4_refusal 33 = .ok (.invokevirtual 310, 3) := by decide +kernel
theorem dX4_refusal_36 : decode cX4_refusal 36 = .ok (.ifCond .ne 5, 3) := by decide +kernel
theorem dX4_refusal_39 : decode cX4_refusal 39 = .ok (.iconst 2, 1) := by decide +kernel
theorem dX4_refusal_40 : decode cX4_refusal 40 = .ok (.ireturn, 1) := by decide +kernel
theorem dX4_refusal_41 : decode cX4_refusal 41 = .ok (.aload_n 0, 1) := by decide +kernel
theorem dX4_refusal_42 : decode cX4_refusal 42 = .ok (.getfield 37, 3) := by decide +kernel
theorem dX4_refusal_45 : decode cX4_refusal 45 = .ok (.iload_n 1, 1) := by decide +kernel
theorem dX4_refusal_46 : decode cX4_refusal 46 = .ok (.invokevirtual 313, 3) := by decide +kernel
theorem dX4_refusal_49 : decode cX4_refusal 49 = .ok (.ifCond .le 5, 3) := by decide +kernel
theorem dX4_refusal_52 : decode cX4_refusal 52 = .ok (.iconst 3, 1) := by decide +kernel
theorem dX4_refusal_53 : decode cX4_refusal 53 = .ok (.ireturn, 1) := by decide +kernel
theorem dX4_refusal_54 : decode cX4_refusal 54 = .ok (.aload_n 0, 1) := by decide +kernel
theorem dX4_refusal_55 : decode cX4_refusal 55 = .ok (.getfield 10, 3) := by decide +kernel
theorem dX4_refusal_58 : decode cX4_refusal 58 = .ok (.getfield 132, 3) := by decide +kernel
theorem dX4_refusal_61 : decode cX4_refusal 61 = .ok (.aload_n 0, 1) := by decide +kernel
theorem dX4_refusal_62 : decode cX4_refusal 62 = .ok (.getfield 10, 3) := by decide +kernel
theorem dX4_refusal_65 : decode cX4_refusal 65 = .ok (.getfield 208, 3) := by decide +kernel
theorem dX4_refusal_68 : decode cX4_refusal 68 = .ok (.if_icmp .ge 5, 3) := by decide +kernel
theorem dX4_refusal_71 : decode cX4_refusal 71 = .ok (.iconst 4, 1) := by decide +kernel
theorem dX4_refusal_72 : decode cX4_refusal 72 = .ok (.ireturn, 1) := by decide +kernel
theorem dX4_refusal_73 : decode cX4_refusal 73 = .ok (.aload_n 0, 1) := by decide +kernel
theorem dX4_refusal_74 : decode cX4_refusal 74 = .ok (.getfield 37, 3) := by decide +kernel
theorem dX4_refusal_77 : decode cX4_refusal 77 = .ok (.iload_n 1, 1) := by decide +kernel
theorem dX4_refusal_78 : decode cX4_refusal 78 = .ok (.invokevirtual 316, 3) := by decide +kernel
theorem dX4_refusal_81 : decode cX4_refusal 81 = .ok (.invokestatic 214, 3) := by decide +kernel
theorem dX4_refusal_84 : decode cX4_refusal 84 = .ok (.aload_n 0, 1) := by decide +kernel
theorem dX4_refusal_85 : decode cX4_refusal 85 = .ok (.getfield 10, 3) := by decide +kernel
theorem dX4_refusal_88 : decode cX4_refusal 88 = .ok (.getfield 205, 3) := by decide +kernel
theorem dX4_refusal_91 : decode cX4_refusal 91 = .ok (.if_icmp .ge 5, 3) := by decide +kernel
theorem dX4_refusal_94 : decode cX4_refusal 94 = .ok (.iconst 5, 1) := by decide +kernel
theorem dX4_refusal_95 : decode cX4_refusal 95 = .ok (.ireturn, 1) := by decide +kernel
theorem dX4_refusal_96 : decode cX4_refusal 96 = .ok (.aload_n 0, 1) := by decide +kernel
theorem dX4_refusal_97 : decode cX4_refusal 97 = .ok (.getfield 30, 3) := by decide +kernel
theorem dX4_refusal_100 : decode cX4_refusal 100 = .ok (.aload_n 0, 1) := by decide +kernel
theorem dX4_refusal_101 : decode cX4_refusal 101 = .ok (.getfield 37, 3) := by decide +kernel
theorem dX4_refusal_104 : decode cX4_refusal 104 = .ok (.iload_n 1, 1) := by decide +kernel
theorem dX4_refusal_105 : decode cX4_refusal 105 = .ok (.invokevirtual 316, 3) := by decide +kernel
theorem dX4_refusal_108 : decode cX4_refusal 108 = .ok (.invokevirtual 236, 3) := by decide +kernel
theorem dX4_refusal_111 : decode cX4_refusal 111 = .ok (.aload_n 0, 1) := by decide +kernel
theorem dX4_refusal_112 : decode cX4_refusal 112 = .ok (.getfield 10, 3) := by decide +kernel
theorem dX4_refusal_115 : decode cX4_refusal 115 = .ok (.getfield 319, 3) := by decide +kernel
theorem dX4_refusal_118 : decode cX4_refusal 118 = .ok (.if_icmp .ne 7, 3) := by decide +kernel
theorem dX4_refusal_121 : decode cX4_refusal 121 = .ok (.iconst 0, 1) := by decide +kernel
theorem dX4_refusal_122 : decode cX4_refusal 122 = .ok (.goto 5, 3) := by decide +kernel
theorem dX4_refusal_125 : decode cX4_refusal 125 = .ok (.bipush 6, 2) := by decide +kernel
theorem dX4_refusal_127 : decode cX4_refusal 127 = .ok (.ireturn, 1) := by decide +kernel
set_option maxRecDepth 20000 in
theorem ggX4_findsKey_X3_sharesOf : GoodIn wsX4_findsKey wsX3_sharesOf := goodIn_r _ [10, 11, 54, 55] (by decide +kernel) (by decide +kernel)
set_option maxRecDepth 20000 in
theorem gX4_findsKey_X3_sharesOf : GoodIn wsX4_findsKey (wsV RX4 316 RX3 yX3_sharesOf wsX3_sharesOf) := goodIn_app (goodIn_of _ (by decide +kernel)) ggX4_findsKey_X3_sharesOf
set_option maxRecDepth 20000 in
theorem ggX4_findsKey_X2_allLive : GoodIn wsX4_findsKey wsX2_allLive := goodIn_r _ [16, 17, 38, 39, 40, 41, 42, 43, 44, 45, 46, 47, 48, 49, 50, 51, 52, 53] (by decide +kernel) (by decide +kernel)
set_option maxRecDepth 20000 in
theorem gX4_findsKey_X2_allLive : GoodIn wsX4_findsKey (wsV RX4 310 RX2 yX2_allLive wsX2_allLive) := goodIn_app (goodIn_of _ (by decide +kernel)) ggX4_findsKey_X2_allLive
set_option maxRecDepth 20000 in
theorem ggX4_findsKey_J6_bitCount_0f7a4 : GoodIn wsX4_findsKey wsJ6_bitCount_0f7a4 := goodIn_r _ [21, 22, 23, 24] (by decide +kernel) (by decide +kernel)
set_option maxRecDepth 20000 in
theorem gX4_findsKey_J6_bitCount_0f7a4 : GoodIn wsX4_findsKey (va_wsS RX4 214 yJ6_bitCount_0f7a4 wsJ6_bitCount_0f7a4) := goodIn_app (goodIn_of _ (by decide +kernel)) ggX4_findsKey_J6_bitCount_0f7a4
set_option maxRecDepth 20000 in
theorem ggX4_findsKey_X0_keyOf : GoodIn wsX4_findsKey wsX0_keyOf := goodIn_r _ [29, 30, 56] (by decide +kernel) (by decide +kernel)
set_option maxRecDepth 20000 in
theorem gX4_findsKey_X0_keyOf : GoodIn wsX4_findsKey (wsV RX4 236 RX0 yX0_keyOf wsX0_keyOf) := goodIn_app (goodIn_of _ (by decide +kernel)) ggX4_findsKey_X0_keyOf
theorem dX4_findsKey_0 : decode cX4_findsKey 0 = .ok (.aload_n 0, 1) := by decide +kernel
theorem dX4_findsKey_1 : decode cX4_findsKey 1 = .ok (.getfield 37, 3) := by decide +kernel
theorem dX4_findsKey_4 : decode cX4_findsKey 4 = .ok (.iload_n 2, 1) := by decide +kernel
theorem dX4_findsKey_5 : decode cX4_findsKey 5 = .ok (.invokevirtual 316, 3) := by decide +kernel
theorem dX4_findsKey_8 : decode cX4_findsKey 8 = .ok (.istore_n 3, 1) := by decide +kernel
theorem dX4_findsKey_9 : decode cX4_findsKey 9 = .ok (.aload_n 1, 1) := by decide +kernel
theorem dX4_findsKey_10 : decode cX4_findsKey 10 = .ok (.getfield 202, 3) := by decide +kernel
theorem dX4_findsKey_13 : decode cX4_findsKey 13 = .ok (.iconst 1, 1) := by decide +kernel
theorem dX4_findsKey_14 : decode cX4_findsKey 14 = .ok (.if_icmp .ne 41, 3) := by decide +kernel
theorem dX4_findsKey_17 : decode cX4_findsKey 17 = .ok (.aload_n 1, 1) := by decide +kernel
theorem dX4_findsKey_18 : decode cX4_findsKey 18 = .ok (.iload_n 2, 1) := by decide +kernel
theorem dX4_findsKey_19 : decode cX4_findsKey 19 = .ok (.invokevirtual 310, 3) := by decide +kernel
theorem dX4_findsKey_22 : decode cX4_findsKey 22 = .ok (.ifCond .eq 33, 3) := by decide +kernel
theorem dX4_findsKey_25 : decode cX4_findsKey 25 = .ok (.iload_n 3, 1) := by decide +kernel
theorem dX4_findsKey_26 : decode cX4_findsKey 26 = .ok (.invokestatic 214, 3) := by decide +kernel
theorem dX4_findsKey_29 : decode cX4_findsKey 29 = .ok (.aload_n 1, 1) := by decide +kernel
theorem dX4_findsKey_30 : decode cX4_findsKey 30 = .ok (.getfield 205, 3) := by decide +kernel
theorem dX4_findsKey_33 : decode cX4_findsKey 33 = .ok (.if_icmp .lt 22, 3) := by decide +kernel
theorem dX4_findsKey_36 : decode cX4_findsKey 36 = .ok (.aload_n 0, 1) := by decide +kernel
theorem dX4_findsKey_37 : decode cX4_findsKey 37 = .ok (.getfield 30, 3) := by decide +kernel
theorem dX4_findsKey_40 : decode cX4_findsKey 40 = .ok (.iload_n 3, 1) := by decide +kernel
theorem dX4_findsKey_41 : decode cX4_findsKey 41 = .ok (.invokevirtual 236, 3) := by decide +kernel
theorem dX4_findsKey_44 : decode cX4_findsKey 44 = .ok (.aload_n 1, 1) := by decide +kernel
theorem dX4_findsKey_45 : decode cX4_findsKey 45 = .ok (.getfield 319, 3) := by decide +kernel
theorem dX4_findsKey_48 : decode cX4_findsKey 48 = .ok (.if_icmp .ne 7, 3) := by decide +kernel
theorem dX4_findsKey_51 : decode cX4_findsKey 51 = .ok (.iconst 1, 1) := by decide +kernel
theorem dX4_findsKey_52 : decode cX4_findsKey 52 = .ok (.goto 4, 3) := by decide +kernel
theorem dX4_findsKey_55 : decode cX4_findsKey 55 = .ok (.iconst 0, 1) := by decide +kernel
theorem dX4_findsKey_56 : decode cX4_findsKey 56 = .ok (.ireturn, 1) := by decide +kernel
set_option maxRecDepth 20000 in
theorem ggX4_couldOpen_X3_pairsIn : GoodIn wsX4_couldOpen wsX3_pairsIn := goodIn_r _ [6, 7, 48, 49] (by decide +kernel) (by decide +kernel)
set_option maxRecDepth 20000 in
theorem gX4_couldOpen_X3_pairsIn : GoodIn wsX4_couldOpen (wsV RX4 313 RX3 yX3_pairsIn wsX3_pairsIn) := goodIn_app (goodIn_of _ (by decide +kernel)) ggX4_couldOpen_X3_pairsIn
set_option maxRecDepth 20000 in
theorem ggX4_couldOpen_X4_findsKey : GoodIn wsX4_couldOpen wsX4_findsKey := goodIn_r _ [12, 1, 13, 14, 15, 16, 17, 18, 19, 5, 20, 21, 22, 23, 24, 25, 26, 27, 28, 29, 30, 31, 32, 33, 34, 35, 36, 37, 38, 39, 40, 41, 42, 43, 44, 45, 46, 47, 50, 51, 52, 53, 54, 55, 56, 57, 58, 59, 60, 61, 62, 63, 64, 65, 48, 49, 66] (by decide +kernel) (by decide +kernel)
set_option maxRecDepth 20000 in
theorem gX4_couldOpen_X4_findsKey : GoodIn wsX4_couldOpen (wsV RX4 322 RX4 yX4_findsKey wsX4_findsKey) := goodIn_app (goodIn_of _ (by decide +kernel)) ggX4_couldOpen_X4_findsKey
theorem dX4_couldOpen_0 : decode cX4_couldOpen 0 = .ok (.aload_n 0, 1) := by decide +kernel
theorem dX4_couldOpen_1 : decode cX4_couldOpen 1 = .ok (.getfield 37, 3) := by decide +kernel
theorem dX4_couldOpen_4 : decode cX4_couldOpen 4 = .ok (.iload_n 2, 1) := by decide +kernel
theorem dX4_couldOpen_5 : decode cX4_couldOpen 5 = .ok (.invokevirtual 313, 3) := by decide +kernel
theorem dX4_couldOpen_8 : decode cX4_couldOpen 8 = .ok (.ifCond .ne 16, 3) := by decide +kernel
theorem dX4_couldOpen_11 : decode cX4_couldOpen 11 = .ok (.aload_n 0, 1) := by decide +kernel
theorem dX4_couldOpen_12 : decode cX4_couldOpen 12 = .ok (.aload_n 1, 1) := by decide +kernel
theorem dX4_couldOpen_13 : decode cX4_couldOpen 13 = .ok (.iload_n 2, 1) := by decide +kernel
theorem dX4_couldOpen_14 : decode cX4_couldOpen 14 = .ok (.invokevirtual 322, 3) := by decide +kernel
theorem dX4_couldOpen_17 : decode cX4_couldOpen 17 = .ok (.ifCond .eq 7, 3) := by decide +kernel
theorem dX4_couldOpen_20 : decode cX4_couldOpen 20 = .ok (.iconst 1, 1) := by decide +kernel
theorem dX4_couldOpen_21 : decode cX4_couldOpen 21 = .ok (.goto 4, 3) := by decide +kernel
theorem dX4_couldOpen_24 : decode cX4_couldOpen 24 = .ok (.iconst 0, 1) := by decide +kernel
theorem dX4_couldOpen_25 : decode cX4_couldOpen 25 = .ok (.ireturn, 1) := by decide +kernel
set_option maxRecDepth 20000 in
theorem ggX4_anyCouldOpen_X3_look : GoodIn wsX4_anyCouldOpen wsX3_look := goodIn_r _ [6, 7, 8, 9, 10, 11, 12, 13, 14, 15, 16, 17, 18, 19, 20, 21, 22, 63, 64, 65, 66, 67, 68, 69, 70, 71, 72, 73, 74, 75, 76, 77, 78, 79, 80] (by decide +kernel) (by decide +kernel)
set_option maxRecDepth 20000 in
theorem gX4_anyCouldOpen_X3_look : GoodIn wsX4_anyCouldOpen (wsV RX4 242 RX3 yX3_look wsX3_look) := goodIn_app (goodIn_of _ (by decide +kernel)) ggX4_anyCouldOpen_X3_look
set_option maxRecDepth 20000 in
theorem ggX4_anyCouldOpen_X4_couldOpen : GoodIn wsX4_anyCouldOpen wsX4_couldOpen := goodIn_r _ [27, 1, 28, 29, 30, 5, 31, 8, 32, 33, 34, 26, 35, 36, 37, 38, 39, 40, 41, 42, 43, 7, 44, 45, 46, 13, 47, 48, 49, 17, 18, 19, 20, 21, 22, 50, 51, 52, 53, 54, 55, 56, 57, 58, 59, 60, 61, 62, 63, 64, 65, 66, 67, 68, 69, 70, 71, 72, 73, 74, 75, 76, 77, 78, 79, 80, 81] (by decide +kernel) (by decide +kernel)
set_option maxRecDepth 20000 in
theorem gX4_anyCouldOpen_X4_couldOpen : GoodIn wsX4_anyCouldOpen (wsV RX4 245 RX4 yX4_couldOpen wsX4_couldOpen) := goodIn_app (goodIn_of _ (by decide +kernel)) ggX4_anyCouldOpen_X4_couldOpen
theorem dX4_anyCouldOpen_0 : decode cX4_anyCouldOpen 0 = .ok (.aload_n 0, 1) := by decide +kernel
theorem dX4_anyCouldOpen_1 : decode cX4_anyCouldOpen 1 = .ok (.getfield 37, 3) := by decide +kernel
theorem dX4_anyCouldOpen_4 : decode cX4_anyCouldOpen 4 = .ok (.aload_n 1, 1) := by decide +kernel
theorem dX4_anyCouldOpen_5 : decode cX4_anyCouldOpen 5 = .ok (.invokevirtual 242, 3) := by decide +kernel
theorem dX4_anyCouldOpen_8 : decode cX4_anyCouldOpen 8 = .ok (.iconst 1, 1) := by decide +kernel
theorem dX4_anyCouldOpen_9 : decode cX4_anyCouldOpen 9 = .ok (.istore_n 2, 1) := by decide +kernel
theorem dX4_anyCouldOpen_10 : decode cX4_anyCouldOpen 10 = .ok (.iload_n 2, 1) := by decide +kernel
theorem dX4_anyCouldOpen_11 : decode cX4_anyCouldOpen 11 = .ok (.sipush 256, 3) := by decide +kernel
theorem dX4_anyCouldOpen_14 : decode cX4_anyCouldOpen 14 = .ok (.if_icmp .ge 20, 3) := by decide +kernel
theorem dX4_anyCouldOpen_17 : decode cX4_anyCouldOpen 17 = .ok (.aload_n 0, 1) := by decide +kernel
theorem dX4_anyCouldOpen_18 : decode cX4_anyCouldOpen 18 = .ok (.aload_n 1, 1) := by decide +kernel
theorem dX4_anyCouldOpen_19 : decode cX4_anyCouldOpen 19 = .ok (.iload_n 2, 1) := by decide +kernel
theorem dX4_anyCouldOpen_20 : decode cX4_anyCouldOpen 20 = .ok (.invokevirtual 245, 3) := by decide +kernel
theorem dX4_anyCouldOpen_23 : decode cX4_anyCouldOpen 23 = .ok (.ifCond .eq 5, 3) := by decide +kernel
theorem dX4_anyCouldOpen_26 : decode cX4_anyCouldOpen 26 = .ok (.iconst 1, 1) := by decide +kernel
theorem dX4_anyCouldOpen_27 : decode cX4_anyCouldOpen 27 = .ok (.ireturn, 1) := by decide +kernel
theorem dX4_anyCouldOpen_28 : decode cX4_anyCouldOpen 28 = .ok (.iinc 2 1, 3) := by decide +kernel
theorem dX4_anyCouldOpen_31 : decode cX4_anyCouldOpen 31 = .ok (.goto (-21), 3) := by decide +kernel
theorem dX4_anyCouldOpen_34 : decode cX4_anyCouldOpen 34 = .ok (.iconst 0, 1) := by decide +kernel
theorem dX4_anyCouldOpen_35 : decode cX4_anyCouldOpen 35 = .ok (.ireturn, 1) := by decide +kernel
set_option maxRecDepth 20000 in
theorem ggX4_gainOfPeace_X2_areAtOdds : GoodIn wsX4_gainOfPeace wsX2_areAtOdds := goodIn_r _ [7, 8, 54, 55, 56, 57, 58, 59, 60, 61, 62, 63, 64, 65, 66, 67, 68, 69] (by decide +kernel) (by decide +kernel)
set_option maxRecDepth 20000 in
theorem gX4_gainOfPeace_X2_areAtOdds : GoodIn wsX4_gainOfPeace (wsV RX4 325 RX2 yX2_areAtOdds wsX2_areAtOdds) := goodIn_app (goodIn_of _ (by decide +kernel)) ggX4_gainOfPeace_X2_areAtOdds
set_option maxRecDepth 20000 in
theorem ggX4_gainOfPeace_X3_pairsIn : GoodIn wsX4_gainOfPeace wsX3_pairsIn := goodIn_r _ [13, 14, 70, 71] (by decide +kernel) (by decide +kernel)
set_option maxRecDepth 20000 in
theorem gX4_gainOfPeace_X3_pairsIn : GoodIn wsX4_gainOfPeace (wsV RX4 313 RX3 yX3_pairsIn wsX3_pairsIn) := goodIn_app (goodIn_of _ (by decide +kernel)) ggX4_gainOfPeace_X3_pairsIn
set_option maxRecDepth 20000 in
theorem ggX4_gainOfPeace_X4_findsKey : GoodIn wsX4_gainOfPeace wsX4_findsKey := goodIn_r _ [19, 2, 20, 21, 22, 23, 24, 25, 26, 12, 27, 28, 29, 30, 31, 6, 32, 33, 34, 35, 36, 37, 38, 39, 40, 41, 42, 43, 44, 45, 46, 47, 48, 49, 50, 51, 52, 53, 54, 55, 56, 57, 58, 59, 60, 61, 62, 63, 64, 65, 66, 67, 68, 69, 70, 71, 72] (by decide +kernel) (by decide +kernel)
set_option maxRecDepth 20000 in
theorem gX4_gainOfPeace_X4_findsKey : GoodIn wsX4_gainOfPeace (wsV RX4 322 RX4 yX4_findsKey wsX4_findsKey) := goodIn_app (goodIn_of _ (by decide +kernel)) ggX4_gainOfPeace_X4_findsKey
theorem dX4_gainOfPeace_0 : decode cX4_gainOfPeace 0 = .ok (.aload_n 0, 1) := by decide +kernel
theorem dX4_gainOfPeace_1 : decode cX4_gainOfPeace 1 = .ok (.getfield 10, 3) := by decide +kernel
theorem dX4_gainOfPeace_4 : decode cX4_gainOfPeace 4 = .ok (.iload_n 1, 1) := by decide +kernel
theorem dX4_gainOfPeace_5 : decode cX4_gainOfPeace 5 = .ok (.iload_n 2, 1) := by decide +kernel
theorem dX4_gainOfPeace_6 : decode cX4_gainOfPeace 6 = .ok (.invokevirtual 325, 3) := by decide +kernel
theorem dX4_gainOfPeace_9 : decode cX4_gainOfPeace 9 = .ok (.ifCond .ne 5, 3) := by decide +kernel
theorem dX4_gainOfPeace_12 : decode cX4_gainOfPeace 12 = .ok (.iconst 0, 1) := by decide +kernel
theorem dX4_gainOfPeace_13 : decode cX4_gainOfPeace 13 = .ok (.ireturn, 1) := by decide +kernel
theorem dX4_gainOfPeace_14 : decode cX4_gainOfPeace 14 = .ok (.iconst 1, 1) := by decide +kernel
theorem dX4_gainOfPeace_15 : decode cX4_gainOfPeace 15 = .ok (.iload_n 1, 1) := by decide +kernel
theorem dX4_gainOfPeace_16 : decode cX4_gainOfPeace 16 = .ok (.ishl, 1) := by decide +kernel
theorem dX4_gainOfPeace_17 : decode cX4_gainOfPeace 17 = .ok (.iconst 1, 1) := by decide +kernel
theorem dX4_gainOfPeace_18 : decode cX4_gainOfPeace 18 = .ok (.iload_n 2, 1) := by decide +kernel
theorem dX4_gainOfPeace_19 : decode cX4_gainOfPeace 19 = .ok (.ishl, 1) := by decide +kernel
theorem dX4_gainOfPeace_20 : decode cX4_gainOfPeace 20 = .ok (.ior, 1) := by decide +kernel
theorem dX4_gainOfPeace_21 : decode cX4_gainOfPeace 21 = .ok (.istore_n 3, 1) := by decide +kernel
theorem dX4_gainOfPeace_22 : decode cX4_gainOfPeace 22 = .ok (.iconst 0, 1) := by decide +kernel
theorem dX4_gainOfPeace_23 : decode cX4_gainOfPeace 23 = .ok (.istore 4, 2) := by decide +kernel
theorem dX4_gainOfPeace_25 : decode cX4_gainOfPeace 25 = .ok (.iload_n 3, 1) := by decide +kernel
theorem dX4_gainOfPeace_26 : decode cX4_gainOfPeace 26 = .ok (.istore 5, 2) := by decide +kernel
theorem dX4_gainOfPeace_28 : decode cX4_gainOfPeace 28 = .ok (.iload 5, 2) := by decide +kernel
theorem dX4_gainOfPeace_30 : decode cX4_gainOfPeace 30 = .ok (.sipush 256, 3) := by decide +kernel
theorem dX4_gainOfPeace_33 : decode cX4_gainOfPeace 33 = .ok (.if_icmp .ge 46, 3) := by decide +kernel
theorem dX4_gainOfPeace_36 : decode cX4_gainOfPeace 36 = .ok (.iload 5, 2) := by decide +kernel
theorem dX4_gainOfPeace_38 : decode cX4_gainOfPeace 38 = .ok (.iload_n 3, 1) := by decide +kernel
theorem dX4_gainOfPeace_39 : decode cX4_gainOfPeace 39 = .ok (.iand, 1) := by decide +kernel
theorem dX4_gainOfPeace_40 : decode cX4_gainOfPeace 40 = .ok (.iload_n 3, 1) := by decide +kernel
theorem dX4_gainOfPeace_41 : decode cX4_gainOfPeace 41 = .ok (.if_icmp .ne 32, 3) := by decide +kernel
theorem dX4_gainOfPeace_44 : decode cX4_gainOfPeace 44 = .ok (.aload_n 0, 1) := by decide +kernel
theorem dX4_gainOfPeace_45 : decode cX4_gainOfPeace 45 = .ok (.getfield 37, 3) := by decide +kernel
theorem dX4_gainOfPeace_48 : decode cX4_gainOfPeace 48 = .ok (.iload 5, 2) := by decide +kernel
theorem dX4_gainOfPeace_50 : decode cX4_gainOfPeace 50 = .ok (.invokevirtual 313, 3) := by decide +kernel
theorem dX4_gainOfPeace_53 : decode cX4_gainOfPeace 53 = .ok (.iconst 1, 1) := by decide +kernel
theorem dX4_gainOfPeace_54 : decode cX4_gainOfPeace 54 = .ok (.if_icmp .ne 19, 3) := by decide +kernel
theorem dX4_gainOfPeace_57 : decode cX4_gainOfPeace 57 = .ok (.aload_n 0, 1) := by decide +kernel
theorem dX4_gainOfPeace_58 : decode cX4_gainOfPeace 58 = .ok (.aload_n 0, 1) := by decide +kernel
theorem dX4_gainOfPeace_59 : decode cX4_gainOfPeace 59 = .ok (.getfield 10, 3) := by decide +kernel
theorem dX4_gainOfPeace_62 : decode cX4_gainOfPeace 62 = .ok (.iload 5, 2) := by decide +kernel
theorem dX4_gainOfPeace_64 : decode cX4_gainOfPeace 64 = .ok (.invokevirtual 322, 3) := by decide +kernel
theorem dX4_gainOfPeace_67 : decode cX4_gainOfPeace 67 = .ok (.ifCond .eq 6, 3) := by decide +kernel
theorem dX4_gainOfPeace_70 : decode cX4_gainOfPeace 70 = .ok (.iinc 4 1, 3) := by decide +kernel
theorem dX4_gainOfPeace_73 : decode cX4_gainOfPeace 73 = .ok (.iinc 5 1, 3) := by decide +kernel
theorem dX4_gainOfPeace_76 : decode cX4_gainOfPeace 76 = .ok (.goto (-48), 3) := by decide +kernel
theorem dX4_gainOfPeace_79 : decode cX4_gainOfPeace 79 = .ok (.iload 4, 2) := by decide +kernel
theorem dX4_gainOfPeace_81 : decode cX4_gainOfPeace 81 = .ok (.ireturn, 1) := by decide +kernel
set_option maxRecDepth 20000 in
theorem ggX4_carryOut_X1_digit : GoodIn wsX4_carryOut wsX1_digit := goodIn_r _ [6, 7, 8, 9, 5, 10, 11, 12, 13, 14, 15, 145, 146] (by decide +kernel) (by decide +kernel)
set_option maxRecDepth 20000 in
theorem gX4_carryOut_X1_digit : GoodIn wsX4_carryOut (wsV RX4 328 RX1 yX1_digit wsX1_digit) := goodIn_app (goodIn_of _ (by decide +kernel)) ggX4_carryOut_X1_digit
set_option maxRecDepth 20000 in
theorem ggX4_carryOut_X1_code : GoodIn wsX4_carryOut wsX1_code := goodIn_r _ [10, 11, 12, 145, 146] (by decide +kernel) (by decide +kernel)
set_option maxRecDepth 20000 in
theorem gX4_carryOut_X1_code : GoodIn wsX4_carryOut (wsV RX4 331 RX1 yX1_code wsX1_code) := goodIn_app (goodIn_of _ (by decide +kernel)) ggX4_carryOut_X1_code
set_option maxRecDepth 20000 in
theorem ggX4_carryOut_X4_buryIfAlive : GoodIn wsX4_carryOut wsX4_buryIfAlive := goodIn_r _ [21, 22, 23, 24, 25, 26, 27, 28, 29, 30, 31, 32, 33, 34, 35, 36, 37, 38, 39, 40, 138, 139, 140, 141, 142, 143, 144, 147, 148, 149, 150, 151, 152, 153, 154, 155, 156, 157, 158, 159, 160, 161, 162] (by decide +kernel) (by decide +kernel)
set_option maxRecDepth 20000 in
theorem gX4_carryOut_X4_buryIfAlive : GoodIn wsX4_carryOut (wsV RX4 334 RX4 yX4_buryIfAlive wsX4_buryIfAlive) := goodIn_app (goodIn_of _ (by decide +kernel)) ggX4_carryOut_X4_buryIfAlive
set_option maxRecDepth 20000 in
theorem ggX4_carryOut_X4_toggleIfThere : GoodIn wsX4_carryOut wsX4_toggleIfThere := goodIn_r _ [44, 22, 45, 30, 31, 26, 32, 33, 46, 47, 48, 49, 50, 51, 52, 53, 54, 55, 56, 57, 138, 139, 140, 141, 142, 143, 144, 147, 148, 149, 150, 151, 152, 153, 154, 155, 156, 157, 158, 159, 160, 161, 162] (by decide +kernel) (by decide +kernel)
set_option maxRecDepth 20000 in
theorem gX4_carryOut_X4_toggleIfThere : GoodIn wsX4_carryOut (wsV RX4 337 RX4 yX4_toggleIfThere wsX4_toggleIfThere) := goodIn_app (goodIn_of _ (by decide +kernel)) ggX4_carryOut_X4_toggleIfThere
set_option maxRecDepth 20000 in
theorem ggX4_carryOut_X4_nameIfFree : GoodIn wsX4_carryOut wsX4_nameIfFree := goodIn_r _ [61, 22, 62, 63, 64, 26, 65, 40, 24, 25, 27, 28, 29, 30, 31, 32, 33, 66, 67, 68, 69, 38, 138, 139, 140, 141, 142, 143, 144, 147, 148, 149, 150, 151, 152, 153, 154, 155, 156, 157, 158, 159, 160, 161, 162] (by decide +kernel) (by decide +kernel)
set_option maxRecDepth 20000 in
theorem gX4_carryOut_X4_nameIfFree : GoodIn wsX4_carryOut (wsV RX4 340 RX4 yX4_nameIfFree wsX4_nameIfFree) := goodIn_app (goodIn_of _ (by decide +kernel)) ggX4_carryOut_X4_nameIfFree
set_option maxRecDepth 20000 in
theorem ggX4_carryOut_X1_number : GoodIn wsX4_carryOut wsX1_number := goodIn_r _ [73, 7, 8, 9, 5, 10, 11, 12, 74, 75, 76, 145, 146] (by decide +kernel) (by decide +kernel)
set_option maxRecDepth 20000 in
theorem gX4_carryOut_X1_number : GoodIn wsX4_carryOut (wsV RX4 343 RX1 yX1_number wsX1_number) := goodIn_app (goodIn_of _ (by decide +kernel)) ggX4_carryOut_X1_number
set_option maxRecDepth 20000 in
theorem ggX4_carryOut_X4_passIfInTime : GoodIn wsX4_carryOut wsX4_passIfInTime := goodIn_r _ [80, 22, 81, 82, 83, 84, 26, 85, 86, 87, 138, 139, 140, 141, 142, 143, 144, 147, 148, 149, 150, 151, 152, 153, 154, 155, 156, 157, 158, 159, 160, 161, 162] (by decide +kernel) (by decide +kernel)
set_option maxRecDepth 20000 in
theorem gX4_carryOut_X4_passIfInTime : GoodIn wsX4_carryOut (wsV RX4 346 RX4 yX4_passIfInTime wsX4_passIfInTime) := goodIn_app (goodIn_of _ (by decide +kernel)) ggX4_carryOut_X4_passIfInTime
set_option maxRecDepth 20000 in
theorem ggX4_carryOut_X4_renewIfShut : GoodIn wsX4_carryOut wsX4_renewIfShut := goodIn_r _ [91, 22, 92, 93, 94, 26, 95, 96, 97, 98, 99, 100, 101, 28, 51, 52, 53, 54, 55, 56, 57, 102, 103, 104, 20, 105, 106, 107, 108, 109, 110, 111, 39, 112, 113, 114, 40, 24, 25, 27, 29, 30, 31, 32, 33, 115, 116, 117, 118, 119, 120, 121, 122, 123, 124, 125, 126, 127, 128, 129, 130, 131, 132, 133, 134, 135, 136, 137, 138, 139, 140, 141, 142, 143, 144, 147, 148, 149, 150, 151, 152, 153, 154, 155, 156, 157, 158, 159, 160, 161, 162, 163] (by decide +kernel) (by decide +kernel)
set_option maxRecDepth 20000 in
theorem gX4_carryOut_X4_renewIfShut : GoodIn wsX4_carryOut (wsV RX4 349 RX4 yX4_renewIfShut wsX4_renewIfShut) := goodIn_app (goodIn_of _ (by decide +kernel)) ggX4_carryOut_X4_renewIfShut
theorem dX4_carryOut_0 : decode cX4_carryOut 0 = .ok (.aload_n 0, 1) := by decide +kernel
theorem dX4_carryOut_1 : decode cX4_carryOut 1 = .ok (.getfield 44, 3) := by decide +kernel
theorem dX4_carryOut_4 : decode cX4_carryOut 4 = .ok (.iload_n 1, 1) := by decide +kernel
theorem dX4_carryOut_5 : decode cX4_carryOut 5 = .ok (.iconst 1, 1) := by decide +kernel
theorem dX4_carryOut_6 : decode cX4_carryOut 6 = .ok (.iadd, 1) := by decide +kernel
theorem dX4_carryOut_7 : decode cX4_carryOut 7 = .ok (.invokevirtual 328, 3) := by decide +kernel
theorem dX4_carryOut_10 : decode cX4_carryOut 10 = .ok (.istore_n 2, 1) := by decide +kernel
theorem dX4_carryOut_11 : decode cX4_carryOut 11 = .ok (.aload_n 0, 1) := by decide +kernel
theorem dX4_carryOut_12 : decode cX4_carryOut 12 = .ok (.getfield 44, 3) := by decide +kernel
theorem dX4_carryOut_15 : decode cX4_carryOut 15 = .ok (.iload_n 1, 1) := by decide +kernel
theorem dX4_carryOut_16 : decode cX4_carryOut 16 = .ok (.iconst 3, 1) := by decide +kernel
theorem dX4_carryOut_17 : decode cX4_carryOut 17 = .ok (.iadd, 1) := by decide +kernel
theorem dX4_carryOut_18 : decode cX4_carryOut 18 = .ok (.invokevirtual 328, 3) := by decide +kernel
theorem dX4_carryOut_21 : decode cX4_carryOut 21 = .ok (.istore_n 3, 1) := by decide +kernel
theorem dX4_carryOut_22 : decode cX4_carryOut 22 = .ok (.aload_n 0, 1) := by decide +kernel
theorem dX4_carryOut_23 : decode cX4_carryOut 23 = .ok (.getfield 44, 3) := by decide +kernel
theorem dX4_carryOut_26 : decode cX4_carryOut 26 = .ok (.iload_n 1, 1) := by decide +kernel
theorem dX4_carryOut_27 : decode cX4_carryOut 27 = .ok (.invokevirtual 331, 3) := by decide +kernel
theorem dX4_carryOut_30 : decode cX4_carryOut 30 = .ok (.lookupswitch 77 #[(100, 42), (104, 55), (113, 48), (116, 62)], 42) := by decide +kernel
theorem dX4_carryOut_72 : decode cX4_carryOut 72 = .ok (.aload_n 0, 1) := by decide +kernel
theorem dX4_carryOut_73 : decode cX4_carryOut 73 = .ok (.iload_n 2, 1) := by decide +kernel
theorem dX4_carryOut_74 : decode cX4_carryOut 74 = .ok (.invokevirtual 334, 3) := by decide +kernel
theorem dX4_carryOut_77 : decode cX4_carryOut 77 = .ok (.ireturn, 1) := by decide +kernel
theorem dX4_carryOut_78 : decode cX4_carryOut 78 = .ok (.aload_n 0, 1) := by decide +kernel
theorem dX4_carryOut_79 : decode cX4_carryOut 79 = .ok (.iload_n 2, 1) := by decide +kernel
theorem dX4_carryOut_80 : decode cX4_carryOut 80 = .ok (.iload_n 3, 1) := by decide +kernel
theorem dX4_carryOut_81 : decode cX4_carryOut 81 = .ok (.invokevirtual 337, 3) := by decide +kernel
theorem dX4_carryOut_84 : decode cX4_carryOut 84 = .ok (.ireturn, 1) := by decide +kernel
theorem dX4_carryOut_85 : decode cX4_carryOut 85 = .ok (.aload_n 0, 1) := by decide +kernel
theorem dX4_carryOut_86 : decode cX4_carryOut 86 = .ok (.iload_n 2, 1) := by decide +kernel
theorem dX4_carryOut_87 : decode cX4_carryOut 87 = .ok (.iload_n 3, 1) := by decide +kernel
theorem dX4_carryOut_88 : decode cX4_carryOut 88 = .ok (.invokevirtual 340, 3) := by decide +kernel
theorem dX4_carryOut_91 : decode cX4_carryOut 91 = .ok (.ireturn, 1) := by decide +kernel
theorem dX4_carryOut_92 : decode cX4_carryOut 92 = .ok (.aload_n 0, 1) := by decide +kernel
theorem dX4_carryOut_93 : decode cX4_carryOut 93 = .ok (.aload_n 0, 1) := by decide +kernel
theorem dX4_carryOut_94 : decode cX4_carryOut 94 = .ok (.getfield 44, 3) := by decide +kernel
theorem dX4_carryOut_97 : decode cX4_carryOut 97 = .ok (.iload_n 1, 1) := by decide +kernel
theorem dX4_carryOut_98 : decode cX4_carryOut 98 = .ok (.iconst 1, 1) := by decide +kernel
theorem dX4_carryOut_99 : decode cX4_carryOut 99 = .ok (.iadd, 1) := by decide +kernel
theorem dX4_carryOut_100 : decode cX4_carryOut 100 = .ok (.invokevirtual 343, 3) := by decide +kernel
theorem dX4_carryOut_103 : decode cX4_carryOut 103 = .ok (.invokevirtual 346, 3) := by decide +kernel
theorem dX4_carryOut_106 : decode cX4_carryOut 106 = .ok (.ireturn, 1) := by decide +kernel
theorem dX4_carryOut_107 : decode cX4_carryOut 107 = .ok (.aload_n 0, 1) := by decide +kernel
theorem dX4_carryOut_108 : decode cX4_carryOut 108 = .ok (.invokevirtual 349, 3) := by decide +kernel
theorem dX4_carryOut_111 : decode cX4_carryOut 111 = .ok (.ireturn, 1) := by decide +kernel
set_option maxRecDepth 20000 in
theorem ggX4_buryIfAlive_X2_lives : GoodIn wsX4_buryIfAlive wsX2_lives := goodIn_r _ [6, 7, 8, 9, 10, 5, 11, 12, 27, 28, 29, 30, 31, 32, 33, 34, 35, 36, 37, 38, 39, 40, 41, 42] (by decide +kernel) (by decide +kernel)
set_option maxRecDepth 20000 in
theorem gX4_buryIfAlive_X2_lives : GoodIn wsX4_buryIfAlive (wsV RX4 69 RX2 yX2_lives wsX2_lives) := goodIn_app (goodIn_of _ (by decide +kernel)) ggX4_buryIfAlive_X2_lives
set_option maxRecDepth 20000 in
theorem ggX4_buryIfAlive_X2_bury : GoodIn wsX4_buryIfAlive wsX2_bury := goodIn_r _ [16, 7, 17, 18, 19, 3, 4, 5, 6, 8, 9, 10, 11, 12, 27, 28, 29, 30, 31, 32, 33, 34, 35, 36, 37, 38, 39, 40, 41, 42] (by decide +kernel) (by decide +kernel)
set_option maxRecDepth 20000 in
theorem gX4_buryIfAlive_X2_bury : GoodIn wsX4_buryIfAlive (wsV RX4 75 RX2 yX2_bury wsX2_bury) := goodIn_app (goodIn_of _ (by decide +kernel)) ggX4_buryIfAlive_X2_bury
theorem dX4_buryIfAlive_0 : decode cX4_buryIfAlive 0 = .ok (.aload_n 0, 1) := by decide +kernel
theorem dX4_buryIfAlive_1 : decode cX4_buryIfAlive 1 = .ok (.getfield 10, 3) := by decide +kernel
theorem dX4_buryIfAlive_4 : decode cX4_buryIfAlive 4 = .ok (.iload_n 1, 1) := by decide +kernel
theorem dX4_buryIfAlive_5 : decode cX4_buryIfAlive 5 = .ok (.invokevirtual 69, 3) := by decide +kernel
theorem dX4_buryIfAlive_8 : decode cX4_buryIfAlive 8 = .ok (.ifCond .ne 5, 3) := by decide +kernel
theorem dX4_buryIfAlive_11 : decode cX4_buryIfAlive 11 = .ok (.iconst 0, 1) := by decide +kernel
theorem dX4_buryIfAlive_12 : decode cX4_buryIfAlive 12 = .ok (.ireturn, 1) := by decide +kernel
theorem dX4_buryIfAlive_13 : decode cX4_buryIfAlive 13 = .ok (.aload_n 0, 1) := by decide +kernel
theorem dX4_buryIfAlive_14 : decode cX4_buryIfAlive 14 = .ok (.getfield 10, 3) := by decide +kernel
theorem dX4_buryIfAlive_17 : decode cX4_buryIfAlive 17 = .ok (.iload_n 1, 1) := by decide +kernel
theorem dX4_buryIfAlive_18 : decode cX4_buryIfAlive 18 = .ok (.invokevirtual 75, 3) := by decide +kernel
theorem dX4_buryIfAlive_21 : decode cX4_buryIfAlive 21 = .ok (.pop, 1) := by decide +kernel
theorem dX4_buryIfAlive_22 : decode cX4_buryIfAlive 22 = .ok (.iconst 1, 1) := by decide +kernel
theorem dX4_buryIfAlive_23 : decode cX4_buryIfAlive 23 = .ok (.ireturn, 1) := by decide +kernel
set_option maxRecDepth 20000 in
theorem ggX4_toggleIfThere_X2_hasKeeper : GoodIn wsX4_toggleIfThere wsX2_hasKeeper := goodIn_r _ [6, 7, 27, 28, 29, 30, 31, 32, 33, 34, 35, 36, 37, 38, 39, 40, 41, 42] (by decide +kernel) (by decide +kernel)
set_option maxRecDepth 20000 in
theorem gX4_toggleIfThere_X2_hasKeeper : GoodIn wsX4_toggleIfThere (wsV RX4 292 RX2 yX2_hasKeeper wsX2_hasKeeper) := goodIn_app (goodIn_of _ (by decide +kernel)) ggX4_toggleIfThere_X2_hasKeeper
set_option maxRecDepth 20000 in
theorem ggX4_toggleIfThere_X2_toggleQuarrel : GoodIn wsX4_toggleIfThere wsX2_toggleQuarrel := goodIn_r _ [11, 12, 13, 14, 15, 16, 17, 18, 19, 27, 28, 29, 30, 31, 32, 33, 34, 35, 36, 37, 38, 39, 40, 41, 42] (by decide +kernel) (by decide +kernel)
set_option maxRecDepth 20000 in
theorem gX4_toggleIfThere_X2_toggleQuarrel : GoodIn wsX4_toggleIfThere (wsV RX4 91 RX2 yX2_toggleQuarrel wsX2_toggleQuarrel) := goodIn_app (goodIn_of _ (by decide +kernel)) ggX4_toggleIfThere_X2_toggleQuarrel
theorem dX4_toggleIfThere_0 : decode cX4_toggleIfThere 0 = .ok (.iload_n 1, 1) := by decide +kernel
theorem dX4_toggleIfThere_1 : decode cX4_toggleIfThere 1 = .ok (.iload_n 2, 1) := by decide +kernel
theorem dX4_toggleIfThere_2 : decode cX4_toggleIfThere 2 = .ok (.if_icmp .eq 25, 3) := by decide +kernel
theorem dX4_toggleIfThere_5 : decode cX4_toggleIfThere 5 = .ok (.aload_n 0, 1) := by decide +kernel
theorem dX4_toggleIfThere_6 : decode cX4_toggleIfThere 6 = .ok (.getfield 10, 3) := by decide +kernel
theorem dX4_toggleIfThere_9 : decode cX4_toggleIfThere 9 = .ok (.iload_n 1, 1) := by decide +kernel
theorem dX4_toggleIfThere_10 : decode cX4_toggleIfThere 10 = .ok (.invokevirtual 292, 3) := by decide +kernel
theorem dX4_toggleIfThere_13 : decode cX4_toggleIfThere 13 = .ok (.ifCond .eq 14, 3) := by decide +kernel
theorem dX4_toggleIfThere_16 : decode cX4_toggleIfThere 16 = .ok (.aload_n 0, 1) := by decide +kernel
theorem dX4_toggleIfThere_17 : decode cX4_toggleIfThere 17 = .ok (.getfield 10, 3) := by decide +kernel
theorem dX4_toggleIfThere_20 : decode cX4_toggleIfThere 20 = .ok (.iload_n 2, 1) := by decide +kernel
theorem dX4_toggleIfThere_21 : decode cX4_toggleIfThere 21 = .ok (.invokevirtual 292, 3) := by decide +kernel
theorem dX4_toggleIfThere_24 : decode cX4_toggleIfThere 24 = .ok (.ifCond .ne 5, 3) := by decide +kernel
theorem dX4_toggleIfThere_27 : decode cX4_toggleIfThere 27 = .ok (.iconst 0, 1) := by decide +kernel
theorem dX4_toggleIfThere_28 : decode cX4_toggleIfThere 28 = .ok (.ireturn, 1) := by decide +kernel
theorem dX4_toggleIfThere_29 : decode cX4_toggleIfThere 29 = .ok (.aload_n 0, 1) := by decide +kernel
theorem dX4_toggleIfThere_30 : decode cX4_toggleIfThere 30 = .ok (.getfield 10, 3) := by decide +kernel
theorem dX4_toggleIfThere_33 : decode cX4_toggleIfThere 33 = .ok (.iload_n 1, 1) := by decide +kernel
theorem dX4_toggleIfThere_34 : decode cX4_toggleIfThere 34 = .ok (.iload_n 2, 1) := by decide +kernel
theorem dX4_toggleIfThere_35 : decode cX4_toggleIfThere 35 = .ok (.invokevirtual 91, 3) := by decide +kernel
theorem dX4_toggleIfThere_38 : decode cX4_toggleIfThere 38 = .ok (.pop, 1) := by decide +kernel
theorem dX4_toggleIfThere_39 : decode cX4_toggleIfThere 39 = .ok (.iconst 1, 1) := by decide +kernel
theorem dX4_toggleIfThere_40 : decode cX4_toggleIfThere 40 = .ok (.ireturn, 1) := by decide +kernel
set_option maxRecDepth 20000 in
theorem ggX4_nameIfFree_X2_mayName : GoodIn wsX4_nameIfFree wsX2_mayName := goodIn_r _ [6, 7, 8, 9, 5, 10, 11, 12, 13, 14, 15, 16, 29, 30, 31, 32, 33, 34, 35, 36, 37, 38, 39, 40, 41, 42, 43, 44] (by decide +kernel) (by decide +kernel)
set_option maxRecDepth 20000 in
theorem gX4_nameIfFree_X2_mayName : GoodIn wsX4_nameIfFree (wsV RX4 79 RX2 yX2_mayName wsX2_mayName) := goodIn_app (goodIn_of _ (by decide +kernel)) ggX4_nameIfFree_X2_mayName
set_option maxRecDepth 20000 in
theorem ggX4_nameIfFree_X2_nameHeir : GoodIn wsX4_nameIfFree wsX2_nameHeir := goodIn_r _ [20, 21, 29, 30, 31, 32, 33, 34, 35, 36, 37, 38, 39, 40, 41, 42, 43, 44] (by decide +kernel) (by decide +kernel)
set_option maxRecDepth 20000 in
theorem gX4_nameIfFree_X2_nameHeir : GoodIn wsX4_nameIfFree (wsV RX4 85 RX2 yX2_nameHeir wsX2_nameHeir) := goodIn_app (goodIn_of _ (by decide +kernel)) ggX4_nameIfFree_X2_nameHeir
theorem dX4_nameIfFree_0 : decode cX4_nameIfFree 0 = .ok (.aload_n 0, 1) := by decide +kernel
theorem dX4_nameIfFree_1 : decode cX4_nameIfFree 1 = .ok (.getfield 10, 3) := by decide +kernel
theorem dX4_nameIfFree_4 : decode cX4_nameIfFree 4 = .ok (.iload_n 1, 1) := by decide +kernel
theorem dX4_nameIfFree_5 : decode cX4_nameIfFree 5 = .ok (.iload_n 2, 1) := by decide +kernel
theorem dX4_nameIfFree_6 : decode cX4_nameIfFree 6 = .ok (.invokevirtual 79, 3) := by decide +kernel
theorem dX4_nameIfFree_9 : decode cX4_nameIfFree 9 = .ok (.ifCond .ne 5, 3) := by decide +kernel
theorem dX4_nameIfFree_12 : decode cX4_nameIfFree 12 = .ok (.iconst 0, 1) := by decide +kernel
theorem dX4_nameIfFree_13 : decode cX4_nameIfFree 13 = .ok (.ireturn, 1) := by decide +kernel
theorem dX4_nameIfFree_14 : decode cX4_nameIfFree 14 = .ok (.aload_n 0, 1) := by decide +kernel
theorem dX4_nameIfFree_15 : decode cX4_nameIfFree 15 = .ok (.getfield 10, 3) := by decide +kernel
theorem dX4_nameIfFree_18 : decode cX4_nameIfFree 18 = .ok (.iload_n 1, 1) := by decide +kernel
theorem dX4_nameIfFree_19 : decode cX4_nameIfFree 19 = .ok (.iload_n 2, 1) := by decide +kernel
theorem dX4_nameIfFree_20 : decode cX4_nameIfFree 20 = .ok (.invokevirtual 85, 3) := by decide +kernel
theorem dX4_nameIfFree_23 : decode cX4_nameIfFree 23 = .ok (.pop, 1) := by decide +kernel
theorem dX4_nameIfFree_24 : decode cX4_nameIfFree 24 = .ok (.iconst 1, 1) := by decide +kernel
theorem dX4_nameIfFree_25 : decode cX4_nameIfFree 25 = .ok (.ireturn, 1) := by decide +kernel
set_option maxRecDepth 20000 in
theorem ggX4_passIfInTime_X2_mayPass : GoodIn wsX4_passIfInTime wsX2_mayPass := goodIn_r _ [7, 8, 9, 17, 18, 19, 20, 21, 22, 23, 24, 25, 26, 27, 28, 29, 30, 31, 32] (by decide +kernel) (by decide +kernel)
set_option maxRecDepth 20000 in
theorem gX4_passIfInTime_X2_mayPass : GoodIn wsX4_passIfInTime (wsV RX4 127 RX2 yX2_mayPass wsX2_mayPass) := goodIn_app (goodIn_of _ (by decide +kernel)) ggX4_passIfInTime_X2_mayPass
theorem dX4_passIfInTime_0 : decode cX4_passIfInTime 0 = .ok (.aload_n 0, 1) := by decide +kernel
theorem dX4_passIfInTime_1 : decode cX4_passIfInTime 1 = .ok (.getfield 10, 3) := by decide +kernel
theorem dX4_passIfInTime_4 : decode cX4_passIfInTime 4 = .ok (.iload_n 1, 1) := by decide +kernel
theorem dX4_passIfInTime_5 : decode cX4_passIfInTime 5 = .ok (.invokevirtual 127, 3) := by decide +kernel
theorem dX4_passIfInTime_8 : decode cX4_passIfInTime 8 = .ok (.ifCond .ne 5, 3) := by decide +kernel
theorem dX4_passIfInTime_11 : decode cX4_passIfInTime 11 = .ok (.iconst 0, 1) := by decide +kernel
theorem dX4_passIfInTime_12 : decode cX4_passIfInTime 12 = .ok (.ireturn, 1) := by decide +kernel
theorem dX4_passIfInTime_13 : decode cX4_passIfInTime 13 = .ok (.aload_n 0, 1) := by decide +kernel
theorem dX4_passIfInTime_14 : decode cX4_passIfInTime 14 = .ok (.getfield 10, 3) := by decide +kernel
theorem dX4_passIfInTime_17 : decode cX4_passIfInTime 17 = .ok (.dup, 1) := by decide +kernel
theorem dX4_passIfInTime_18 : decode cX4_passIfInTime 18 = .ok (.getfield 132, 3) := by decide +kernel
theorem dX4_passIfInTime_21 : decode cX4_passIfInTime 21 = .ok (.iload_n 1, 1) := by decide +kernel
theorem dX4_passIfInTime_22 : decode cX4_passIfInTime 22 = .ok (.iadd, 1) := by decide +kernel
theorem dX4_passIfInTime_23 : decode cX4_passIfInTime 23 = .ok (.putfield 132, 3) := by decide +kernel
theorem dX4_passIfInTime_26 : decode cX4_passIfInTime 26 = .ok (.iconst 1, 1) := by decide +kernel
theorem dX4_passIfInTime_27 : decode cX4_passIfInTime 27 = .ok (.ireturn, 1) := by decide +kernel
set_option maxRecDepth 20000 in
theorem ggX4_renewIfShut_X2_mayRenew : GoodIn wsX4_renewIfShut wsX2_mayRenew := goodIn_r _ [6, 7, 8, 9, 10, 11, 5, 12, 13, 14, 15, 16, 17, 18, 19, 20, 75, 76, 77, 78, 79, 80, 81, 82, 83, 84, 85, 86, 87, 88, 89, 90] (by decide +kernel) (by decide +kernel)
set_option maxRecDepth 20000 in
theorem gX4_renewIfShut_X2_mayRenew : GoodIn wsX4_renewIfShut (wsV RX4 109 RX2 yX2_mayRenew wsX2_mayRenew) := goodIn_app (goodIn_of _ (by decide +kernel)) ggX4_renewIfShut_X2_mayRenew
set_option maxRecDepth 20000 in
theorem ggX4_renewIfShut_X4_dealShares : GoodIn wsX4_renewIfShut wsX4_dealShares := goodIn_r _ [25, 1, 26, 27, 28, 29, 5, 30, 31, 32, 33, 34, 8, 35, 36, 37, 38, 39, 13, 40, 41, 42, 43, 44, 45, 46, 47, 48, 49, 50, 51, 52, 53, 9, 10, 11, 12, 14, 15, 16, 17, 18, 19, 20, 54, 55, 56, 57, 58, 59, 60, 61, 62, 63, 64, 65, 66, 67, 68, 69, 70, 71, 72, 73, 74, 75, 76, 77, 78, 79, 80, 81, 82, 83, 84, 85, 86, 87, 88, 89, 90, 91] (by decide +kernel) (by decide +kernel)
set_option maxRecDepth 20000 in
theorem gX4_renewIfShut_X4_dealShares : GoodIn wsX4_renewIfShut (wsV RX4 106 RX4 yX4_dealShares wsX4_dealShares) := goodIn_app (goodIn_of _ (by decide +kernel)) ggX4_renewIfShut_X4_dealShares
theorem dX4_renewIfShut_0 : decode cX4_renewIfShut 0 = .ok (.aload_n 0, 1) := by decide +kernel
theorem dX4_renewIfShut_1 : decode cX4_renewIfShut 1 = .ok (.getfield 10, 3) := by decide +kernel
theorem dX4_renewIfShut_4 : decode cX4_renewIfShut 4 = .ok (.invokevirtual 109, 3) := by decide +kernel
theorem dX4_renewIfShut_7 : decode cX4_renewIfShut 7 = .ok (.ifCond .ne 5, 3) := by decide +kernel
theorem dX4_renewIfShut_10 : decode cX4_renewIfShut 10 = .ok (.iconst 0, 1) := by decide +kernel
theorem dX4_renewIfShut_11 : decode cX4_renewIfShut 11 = .ok (.ireturn, 1) := by decide +kernel
theorem dX4_renewIfShut_12 : decode cX4_renewIfShut 12 = .ok (.aload_n 0, 1) := by decide +kernel
theorem dX4_renewIfShut_13 : decode cX4_renewIfShut 13 = .ok (.invokevirtual 106, 3) := by decide +kernel
theorem dX4_renewIfShut_16 : decode cX4_renewIfShut 16 = .ok (.pop, 1) := by decide +kernel
theorem dX4_renewIfShut_17 : decode cX4_renewIfShut 17 = .ok (.iconst 1, 1) := by decide +kernel
theorem dX4_renewIfShut_18 : decode cX4_renewIfShut 18 = .ok (.ireturn, 1) := by decide +kernel
set_option maxRecDepth 20000 in
theorem ggX4_mixTold_X4_told : GoodIn wsX4_mixTold wsX4_told := goodIn_ca (goodIn_r _ [5, 6, 7, 8, 9, 10, 4, 11, 12, 13, 14, 15, 16, 17, 18, 19, 20, 21, 22, 23, 24, 25, 26, 27, 28, 29, 30, 31, 32, 33, 34, 35, 36, 37, 52, 53, 54, 55, 56, 57, 58, 59, 60, 61, 62, 63, 64, 65, 66, 67, 68, 69, 70, 71, 72, 73, 74, 75] (by decide +kernel) (by decide +kernel)) (goodIn_sub (fun _ h => List.mem_cons_of_mem _ (List.mem_append_right _ h)) (by decide +kernel))
set_option maxRecDepth 20000 in
theorem gX4_mixTold_X4_told : GoodIn wsX4_mixTold (wsV RX4 352 RX4 yX4_told wsX4_told) := goodIn_app (goodIn_of _ (by decide +kernel)) ggX4_mixTold_X4_told
set_option maxRecDepth 20000 in
theorem ggX4_mixTold_X4_mix : GoodIn wsX4_mixTold wsX4_mix := goodIn_r _ [40, 41] (by decide +kernel) (by decide +kernel)
set_option maxRecDepth 20000 in
theorem gX4_mixTold_X4_mix : GoodIn wsX4_mixTold (va_wsS RX4 264 yX4_mix wsX4_mix) := goodIn_app (goodIn_of _ (by decide +kernel)) ggX4_mixTold_X4_mix
set_option maxRecDepth 20000 in
theorem ggX4_mixTold_X4_possible : GoodIn wsX4_mixTold wsX4_possible := goodIn_ca (goodIn_r _ [45, 6, 7, 8, 9, 10, 4, 11, 12, 13, 14, 15, 16, 17, 18, 19, 20, 21, 22, 23, 24, 25, 26, 27, 28, 29, 30, 31, 46, 47, 48, 35, 49, 50, 51, 33, 34, 36, 37, 52, 53, 54, 55, 56, 57, 58, 59, 60, 61, 62, 63, 64, 65, 66, 67, 68, 69, 70, 71, 72, 73, 74, 75] (by decide +kernel) (by decide +kernel)) (goodIn_sub (fun _ h => List.mem_cons_of_mem _ (List.mem_append_right _ h)) (by decide +kernel))
set_option maxRecDepth 20000 in
theorem gX4_mixTold_X4_possible : GoodIn wsX4_mixTold (wsV RX4 355 RX4 yX4_possible wsX4_possible) := goodIn_app (goodIn_of _ (by decide +kernel)) ggX4_mixTold_X4_possible
theorem dX4_mixTold_0 : decode cX4_mixTold 0 = .ok (.lload_n 1, 1) := by decide +kernel
theorem dX4_mixTold_1 : decode cX4_mixTold 1 = .ok (.lstore_n 3, 1) := by decide +kernel
theorem dX4_mixTold_2 : decode cX4_mixTold 2 = .ok (.lload_n 3, 1) := by decide +kernel
theorem dX4_mixTold_3 : decode cX4_mixTold 3 = .ok (.aload_n 0, 1) := by decide +kernel
theorem dX4_mixTold_4 : decode cX4_mixTold 4 = .ok (.bipush 7, 2) := by decide +kernel
theorem dX4_mixTold_6 : decode cX4_mixTold 6 = .ok (.invokevirtual 352, 3) := by decide +kernel
theorem dX4_mixTold_9 : decode cX4_mixTold 9 = .ok (.i2l, 1) := by decide +kernel
theorem dX4_mixTold_10 : decode cX4_mixTold 10 = .ok (.invokestatic 264, 3) := by decide +kernel
theorem dX4_mixTold_13 : decode cX4_mixTold 13 = .ok (.lstore_n 3, 1) := by decide +kernel
theorem dX4_mixTold_14 : decode cX4_mixTold 14 = .ok (.lload_n 3, 1) := by decide +kernel
theorem dX4_mixTold_15 : decode cX4_mixTold 15 = .ok (.aload_n 0, 1) := by decide +kernel
theorem dX4_mixTold_16 : decode cX4_mixTold 16 = .ok (.bipush 14, 2) := by decide +kernel
theorem dX4_mixTold_18 : decode cX4_mixTold 18 = .ok (.invokevirtual 352, 3) := by decide +kernel
theorem dX4_mixTold_21 : decode cX4_mixTold 21 = .ok (.i2l, 1) := by decide +kernel
theorem dX4_mixTold_22 : decode cX4_mixTold 22 = .ok (.invokestatic 264, 3) := by decide +kernel
theorem dX4_mixTold_25 : decode cX4_mixTold 25 = .ok (.lstore_n 3, 1) := by decide +kernel
theorem dX4_mixTold_26 : decode cX4_mixTold 26 = .ok (.lload_n 3, 1) := by decide +kernel
theorem dX4_mixTold_27 : decode cX4_mixTold 27 = .ok (.aload_n 0, 1) := by decide +kernel
theorem dX4_mixTold_28 : decode cX4_mixTold 28 = .ok (.bipush 56, 2) := by decide +kernel
theorem dX4_mixTold_30 : decode cX4_mixTold 30 = .ok (.invokevirtual 352, 3) := by decide +kernel
theorem dX4_mixTold_33 : decode cX4_mixTold 33 = .ok (.i2l, 1) := by decide +kernel
theorem dX4_mixTold_34 : decode cX4_mixTold 34 = .ok (.invokestatic 264, 3) := by decide +kernel
theorem dX4_mixTold_37 : decode cX4_mixTold 37 = .ok (.lstore_n 3, 1) := by decide +kernel
theorem dX4_mixTold_38 : decode cX4_mixTold 38 = .ok (.lload_n 3, 1) := by decide +kernel
theorem dX4_mixTold_39 : decode cX4_mixTold 39 = .ok (.aload_n 0, 1) := by decide +kernel
theorem dX4_mixTold_40 : decode cX4_mixTold 40 = .ok (.sipush 255, 3) := by decide +kernel
theorem dX4_mixTold_43 : decode cX4_mixTold 43 = .ok (.invokevirtual 352, 3) := by decide +kernel
theorem dX4_mixTold_46 : decode cX4_mixTold 46 = .ok (.i2l, 1) := by decide +kernel
theorem dX4_mixTold_47 : decode cX4_mixTold 47 = .ok (.invokestatic 264, 3) := by decide +kernel
theorem dX4_mixTold_50 : decode cX4_mixTold 50 = .ok (.lstore_n 3, 1) := by decide +kernel
theorem dX4_mixTold_51 : decode cX4_mixTold 51 = .ok (.lload_n 3, 1) := by decide +kernel
theorem dX4_mixTold_52 : decode cX4_mixTold 52 = .ok (.aload_n 0, 1) := by decide +kernel
theorem dX4_mixTold_53 : decode cX4_mixTold 53 = .ok (.iconst 0, 1) := by decide +kernel
theorem dX4_mixTold_54 : decode cX4_mixTold 54 = .ok (.invokevirtual 355, 3) := by decide +kernel
theorem dX4_mixTold_57 : decode cX4_mixTold 57 = .ok (.i2l, 1) := by decide +kernel
theorem dX4_mixTold_58 : decode cX4_mixTold 58 = .ok (.invokestatic 264, 3) := by decide +kernel
theorem dX4_mixTold_61 : decode cX4_mixTold 61 = .ok (.lstore_n 3, 1) := by decide +kernel
theorem dX4_mixTold_62 : decode cX4_mixTold 62 = .ok (.lload_n 3, 1) := by decide +kernel
theorem dX4_mixTold_63 : decode cX4_mixTold 63 = .ok (.aload_n 0, 1) := by decide +kernel
theorem dX4_mixTold_64 : decode cX4_mixTold 64 = .ok (.iconst 3, 1) := by decide +kernel
theorem dX4_mixTold_65 : decode cX4_mixTold 65 = .ok (.invokevirtual 355, 3) := by decide +kernel
theorem dX4_mixTold_68 : decode cX4_mixTold 68 = .ok (.i2l, 1) := by decide +kernel
theorem dX4_mixTold_69 : decode cX4_mixTold 69 = .ok (.invokestatic 264, 3) := by decide +kernel
theorem dX4_mixTold_72 : decode cX4_mixTold 72 = .ok (.lstore_n 3, 1) := by decide +kernel
theorem dX4_mixTold_73 : decode cX4_mixTold 73 = .ok (.lload_n 3, 1) := by decide +kernel
theorem dX4_mixTold_74 : decode cX4_mixTold 74 = .ok (.aload_n 0, 1) := by decide +kernel
theorem dX4_mixTold_75 : decode cX4_mixTold 75 = .ok (.bipush 7, 2) := by decide +kernel
theorem dX4_mixTold_77 : decode cX4_mixTold 77 = .ok (.invokevirtual 355, 3) := by decide +kernel
theorem dX4_mixTold_80 : decode cX4_mixTold 80 = .ok (.i2l, 1) := by decide +kernel
theorem dX4_mixTold_81 : decode cX4_mixTold 81 = .ok (.invokestatic 264, 3) := by decide +kernel
theorem dX4_mixTold_84 : decode cX4_mixTold 84 = .ok (.lstore_n 3, 1) := by decide +kernel
theorem dX4_mixTold_85 : decode cX4_mixTold 85 = .ok (.lload_n 3, 1) := by decide +kernel
theorem dX4_mixTold_86 : decode cX4_mixTold 86 = .ok (.aload_n 0, 1) := by decide +kernel
theorem dX4_mixTold_87 : decode cX4_mixTold 87 = .ok (.bipush 24, 2) := by decide +kernel
theorem dX4_mixTold_89 : decode cX4_mixTold 89 = .ok (.invokevirtual 355, 3) := by decide +kernel
theorem dX4_mixTold_92 : decode cX4_mixTold 92 = .ok (.i2l, 1) := by decide +kernel
theorem dX4_mixTold_93 : decode cX4_mixTold 93 = .ok (.invokestatic 264, 3) := by decide +kernel
theorem dX4_mixTold_96 : decode cX4_mixTold 96 = .ok (.lstore_n 3, 1) := by decide +kernel
theorem dX4_mixTold_97 : decode cX4_mixTold 97 = .ok (.lload_n 3, 1) := by decide +kernel
theorem dX4_mixTold_98 : decode cX4_mixTold 98 = .ok (.aload_n 0, 1) := by decide +kernel
theorem dX4_mixTold_99 : decode cX4_mixTold 99 = .ok (.sipush 255, 3) := by decide +kernel
theorem dX4_mixTold_102 : decode cX4_mixTold 102 = .ok (.invokevirtual 355, 3) := by decide +kernel
theorem dX4_mixTold_105 : decode cX4_mixTold 105 = .ok (.i2l, 1) := by decide +kernel
theorem dX4_mixTold_106 : decode cX4_mixTold 106 = .ok (.invokestatic 264, 3) := by decide +kernel
theorem dX4_mixTold_109 : decode cX4_mixTold 109 = .ok (.lreturn, 1) := by decide +kernel
set_option maxRecDepth 20000 in
theorem ggX4_mixOpening_X2_everybody : GoodIn wsX4_mixOpening wsX2_everybody := goodIn_r _ [6, 7, 143, 144, 145, 146, 147, 148, 149, 150, 151, 152, 153, 154, 155, 156, 157, 158] (by decide +kernel) (by decide +kernel)
set_option maxRecDepth 20000 in
theorem gX4_mixOpening_X2_everybody : GoodIn wsX4_mixOpening (wsV RX4 300 RX2 yX2_everybody wsX2_everybody) := goodIn_app (goodIn_of _ (by decide +kernel)) ggX4_mixOpening_X2_everybody
set_option maxRecDepth 20000 in
theorem ggX4_mixOpening_X4_refusal : GoodIn wsX4_mixOpening wsX4_refusal := goodIn_r _ [12, 13, 1, 14, 15, 16, 17, 18, 19, 20, 21, 22, 23, 24, 25, 26, 27, 28, 29, 30, 5, 31, 32, 33, 34, 35, 36, 37, 38, 39, 40, 41, 42, 43, 44, 45, 46, 47, 48, 49, 50, 51, 52, 53, 54, 55, 56, 57, 58, 59, 136, 137, 138, 139, 140, 141, 142, 143, 144, 145, 146, 147, 148, 149, 150, 151, 152, 153, 154, 155, 156, 157, 158, 159, 160, 161] (by decide +kernel) (by decide +kernel)
set_option maxRecDepth 20000 in
theorem gX4_mixOpening_X4_refusal : GoodIn wsX4_mixOpening (wsV RX4 138 RX4 yX4_refusal wsX4_refusal) := goodIn_app (goodIn_of _ (by decide +kernel)) ggX4_mixOpening_X4_refusal
set_option maxRecDepth 20000 in
theorem ggX4_mixOpening_X4_mix : GoodIn wsX4_mixOpening wsX4_mix := goodIn_r _ [62, 63] (by decide +kernel) (by decide +kernel)
set_option maxRecDepth 20000 in
theorem gX4_mixOpening_X4_mix : GoodIn wsX4_mixOpening (va_wsS RX4 264 yX4_mix wsX4_mix) := goodIn_app (goodIn_of _ (by decide +kernel)) ggX4_mixOpening_X4_mix
set_option maxRecDepth 20000 in
theorem ggX4_mixOpening_X4_smallest : GoodIn wsX4_mixOpening wsX4_smallest := goodIn_ca (goodIn_r _ [67, 13, 1, 68, 69, 11, 70, 71, 72, 20, 21, 22, 23, 24, 25, 26, 27, 28, 29, 30, 5, 31, 32, 33, 34, 35, 36, 37, 38, 39, 73, 74, 75, 76, 45, 46, 47, 48, 77, 78, 79, 80, 14, 17, 18, 19, 49, 50, 51, 52, 40, 41, 42, 43, 44, 53, 54, 55, 56, 57, 58, 59, 136, 137, 138, 139, 140, 141, 142, 159, 160, 143, 144, 145, 146, 147, 148, 149, 150, 151, 152, 153, 154, 155, 156, 157, 158, 161] (by decide +kernel) (by decide +kernel)) (goodIn_sub (fun _ h => List.mem_cons_of_mem _ (List.mem_append_right _ h)) (by decide +kernel))
set_option maxRecDepth 20000 in
theorem gX4_mixOpening_X4_smallest : GoodIn wsX4_mixOpening (wsV RX4 358 RX4 yX4_smallest wsX4_smallest) := goodIn_app (goodIn_of _ (by decide +kernel)) ggX4_mixOpening_X4_smallest
set_option maxRecDepth 20000 in
theorem ggX4_mixOpening_X4_groups : GoodIn wsX4_mixOpening wsX4_groups := goodIn_r _ [84, 13, 1, 20, 21, 22, 23, 24, 25, 26, 27, 28, 29, 30, 5, 31, 32, 33, 34, 35, 36, 37, 38, 39, 73, 74, 75, 11, 76, 45, 46, 47, 48, 77, 78, 79, 80, 14, 17, 18, 19, 49, 50, 51, 52, 40, 41, 42, 43, 44, 53, 54, 55, 56, 57, 58, 59, 136, 137, 138, 139, 140, 141, 142, 159, 160, 143, 144, 145, 146, 147, 148, 149, 150, 151, 152, 153, 154, 155, 156, 157, 158, 161] (by decide +kernel) (by decide +kernel)
set_option maxRecDepth 20000 in
theorem gX4_mixOpening_X4_groups : GoodIn wsX4_mixOpening (wsV RX4 361 RX4 yX4_groups wsX4_groups) := goodIn_app (goodIn_of _ (by decide +kernel)) ggX4_mixOpening_X4_groups
set_option maxRecDepth 20000 in
theorem ggX4_mixOpening_X4_needed : GoodIn wsX4_mixOpening wsX4_needed := goodIn_r _ [88, 1, 89, 90, 91, 92, 11, 93, 13, 20, 21, 22, 23, 24, 25, 26, 27, 28, 29, 30, 5, 31, 32, 33, 34, 35, 36, 37, 38, 39, 73, 74, 75, 76, 45, 46, 47, 48, 77, 78, 79, 80, 14, 17, 18, 19, 49, 50, 51, 52, 40, 41, 42, 43, 44, 53, 54, 55, 56, 57, 58, 59, 94, 95, 96, 97, 98, 99, 100, 101, 7, 102, 103, 104, 105, 106, 107, 108, 109, 110, 111, 112, 113, 114, 115, 116, 117, 118, 119, 120, 121, 122, 123, 136, 137, 138, 139, 140, 141, 142, 159, 160, 143, 144, 145, 146, 147, 148, 149, 150, 151, 152, 153, 154, 155, 156, 157, 158, 161] (by decide +kernel) (by decide +kernel)
set_option maxRecDepth 20000 in
theorem gX4_mixOpening_X4_needed : GoodIn wsX4_mixOpening (wsV RX4 364 RX4 yX4_needed wsX4_needed) := goodIn_app (goodIn_of _ (by decide +kernel)) ggX4_mixOpening_X4_needed
set_option maxRecDepth 20000 in
theorem ggX4_mixOpening_X4_peace : GoodIn wsX4_mixOpening wsX4_peace := goodIn_r _ [127, 13, 1, 20, 21, 22, 23, 24, 25, 26, 27, 28, 29, 30, 5, 31, 32, 33, 34, 35, 36, 37, 38, 39, 128, 129, 130, 11, 131, 132, 133, 134, 135, 107, 45, 46, 47, 48, 77, 78, 79, 80, 14, 17, 18, 19, 49, 50, 51, 52, 40, 41, 42, 43, 44, 53, 54, 55, 56, 57, 58, 59, 136, 137, 138, 139, 140, 141, 142, 159, 160, 143, 144, 145, 146, 147, 148, 149, 150, 151, 152, 153, 154, 155, 156, 157, 158, 161] (by decide +kernel) (by decide +kernel)
set_option maxRecDepth 20000 in
theorem gX4_mixOpening_X4_peace : GoodIn wsX4_mixOpening (wsV RX4 367 RX4 yX4_peace wsX4_peace) := goodIn_app (goodIn_of _ (by decide +kernel)) ggX4_mixOpening_X4_peace
theorem dX4_mixOpening_0 : decode cX4_mixOpening 0 = .ok (.lload_n 1, 1) := by decide +kernel
theorem dX4_mixOpening_1 : decode cX4_mixOpening 1 = .ok (.aload_n 0, 1) := by decide +kernel
theorem dX4_mixOpening_2 : decode cX4_mixOpening 2 = .ok (.aload_n 0, 1) := by decide +kernel
theorem dX4_mixOpening_3 : decode cX4_mixOpening 3 = .ok (.getfield 10, 3) := by decide +kernel
theorem dX4_mixOpening_6 : decode cX4_mixOpening 6 = .ok (.invokevirtual 300, 3) := by decide +kernel
theorem dX4_mixOpening_9 : decode cX4_mixOpening 9 = .ok (.invokevirtual 138, 3) := by decide +kernel
theorem dX4_mixOpening_12 : decode cX4_mixOpening 12 = .ok (.i2l, 1) := by decide +kernel
theorem dX4_mixOpening_13 : decode cX4_mixOpening 13 = .ok (.invokestatic 264, 3) := by decide +kernel
theorem dX4_mixOpening_16 : decode cX4_mixOpening 16 = .ok (.lstore_n 3, 1) := by decide +kernel
theorem dX4_mixOpening_17 : decode cX4_mixOpening 17 = .ok (.lload_n 3, 1) := by decide +kernel
theorem dX4_mixOpening_18 : decode cX4_mixOpening 18 = .ok (.aload_n 0, 1) := by decide +kernel
theorem dX4_mixOpening_19 : decode cX4_mixOpening 19 = .ok (.iconst 0, 1) := by decide +kernel
theorem dX4_mixOpening_20 : decode cX4_mixOpening 20 = .ok (.invokevirtual 358, 3) := by decide +kernel
theorem dX4_mixOpening_23 : decode cX4_mixOpening 23 = .ok (.i2l, 1) := by decide +kernel
theorem dX4_mixOpening_24 : decode cX4_mixOpening 24 = .ok (.invokestatic 264, 3) := by decide +kernel
theorem dX4_mixOpening_27 : decode cX4_mixOpening 27 = .ok (.lstore_n 3, 1) := by decide +kernel
theorem dX4_mixOpening_28 : decode cX4_mixOpening 28 = .ok (.lload_n 3, 1) := by decide +kernel
theorem dX4_mixOpening_29 : decode cX4_mixOpening 29 = .ok (.aload_n 0, 1) := by decide +kernel
theorem dX4_mixOpening_30 : decode cX4_mixOpening 30 = .ok (.iconst 1, 1) := by decide +kernel
theorem dX4_mixOpening_31 : decode cX4_mixOpening 31 = .ok (.invokevirtual 358, 3) := by decide +kernel
theorem dX4_mixOpening_34 : decode cX4_mixOpening 34 = .ok (.i2l, 1) := by decide +kernel
theorem dX4_mixOpening_35 : decode cX4_mixOpening 35 = .ok (.invokestatic 264, 3) := by decide +kernel
theorem dX4_mixOpening_38 : decode cX4_mixOpening 38 = .ok (.lstore_n 3, 1) := by decide +kernel
theorem dX4_mixOpening_39 : decode cX4_mixOpening 39 = .ok (.lload_n 3, 1) := by decide +kernel
theorem dX4_mixOpening_40 : decode cX4_mixOpening 40 = .ok (.aload_n 0, 1) := by decide +kernel
theorem dX4_mixOpening_41 : decode cX4_mixOpening 41 = .ok (.invokevirtual 361, 3) := by decide +kernel
theorem dX4_mixOpening_44 : decode cX4_mixOpening 44 = .ok (.i2l, 1) := by decide +kernel
theorem dX4_mixOpening_45 : decode cX4_mixOpening 45 = .ok (.invokestatic 264, 3) := by decide +kernel
theorem dX4_mixOpening_48 : decode cX4_mixOpening 48 = .ok (.lstore_n 3, 1) := by decide +kernel
theorem dX4_mixOpening_49 : decode cX4_mixOpening 49 = .ok (.lload_n 3, 1) := by decide +kernel
theorem dX4_mixOpening_50 : decode cX4_mixOpening 50 = .ok (.aload_n 0, 1) := by decide +kernel
theorem dX4_mixOpening_51 : decode cX4_mixOpening 51 = .ok (.invokevirtual 364, 3) := by decide +kernel
theorem dX4_mixOpening_54 : decode cX4_mixOpening 54 = .ok (.i2l, 1) := by decide +kernel
theorem dX4_mixOpening_55 : decode cX4_mixOpening 55 = .ok (.invokestatic 264, 3) := by decide +kernel
theorem dX4_mixOpening_58 : decode cX4_mixOpening 58 = .ok (.lstore_n 3, 1) := by decide +kernel
theorem dX4_mixOpening_59 : decode cX4_mixOpening 59 = .ok (.lload_n 3, 1) := by decide +kernel
theorem dX4_mixOpening_60 : decode cX4_mixOpening 60 = .ok (.aload_n 0, 1) := by decide +kernel
theorem dX4_mixOpening_61 : decode cX4_mixOpening 61 = .ok (.iconst 0, 1) := by decide +kernel
theorem dX4_mixOpening_62 : decode cX4_mixOpening 62 = .ok (.invokevirtual 367, 3) := by decide +kernel
theorem dX4_mixOpening_65 : decode cX4_mixOpening 65 = .ok (.i2l, 1) := by decide +kernel
theorem dX4_mixOpening_66 : decode cX4_mixOpening 66 = .ok (.invokestatic 264, 3) := by decide +kernel
theorem dX4_mixOpening_69 : decode cX4_mixOpening 69 = .ok (.lstore_n 3, 1) := by decide +kernel
theorem dX4_mixOpening_70 : decode cX4_mixOpening 70 = .ok (.lload_n 3, 1) := by decide +kernel
theorem dX4_mixOpening_71 : decode cX4_mixOpening 71 = .ok (.aload_n 0, 1) := by decide +kernel
theorem dX4_mixOpening_72 : decode cX4_mixOpening 72 = .ok (.iconst 1, 1) := by decide +kernel
theorem dX4_mixOpening_73 : decode cX4_mixOpening 73 = .ok (.invokevirtual 367, 3) := by decide +kernel
theorem dX4_mixOpening_76 : decode cX4_mixOpening 76 = .ok (.i2l, 1) := by decide +kernel
theorem dX4_mixOpening_77 : decode cX4_mixOpening 77 = .ok (.invokestatic 264, 3) := by decide +kernel
theorem dX4_mixOpening_80 : decode cX4_mixOpening 80 = .ok (.lreturn, 1) := by decide +kernel
theorem dX4_mix_0 : decode cX4_mix 0 = .ok (.ldc2_w 371, 3) := by decide +kernel
theorem dX4_mix_3 : decode cX4_mix 3 = .ok (.lload_n 0, 1) := by decide +kernel
theorem dX4_mix_4 : decode cX4_mix 4 = .ok (.lmul, 1) := by decide +kernel
theorem dX4_mix_5 : decode cX4_mix 5 = .ok (.lload_n 2, 1) := by decide +kernel
theorem dX4_mix_6 : decode cX4_mix 6 = .ok (.ladd, 1) := by decide +kernel
theorem dX4_mix_7 : decode cX4_mix 7 = .ok (.lreturn, 1) := by decide +kernel
theorem dX4_bitsOf_0 : decode cX4_bitsOf 0 = .ok (.dload_n 0, 1) := by decide +kernel
theorem dX4_bitsOf_1 : decode cX4_bitsOf 1 = .ok (.dconst 0, 1) := by decide +kernel
theorem dX4_bitsOf_2 : decode cX4_bitsOf 2 = .ok (.dcmp .g, 1) := by decide +kernel
theorem dX4_bitsOf_3 : decode cX4_bitsOf 3 = .ok (.ifCond .gt 5, 3) := by decide +kernel
theorem dX4_bitsOf_6 : decode cX4_bitsOf 6 = .ok (.lconst 0, 1) := by decide +kernel
theorem dX4_bitsOf_7 : decode cX4_bitsOf 7 = .ok (.lreturn, 1) := by decide +kernel
theorem dX4_bitsOf_8 : decode cX4_bitsOf 8 = .ok (.dload_n 0, 1) := by decide +kernel
theorem dX4_bitsOf_9 : decode cX4_bitsOf 9 = .ok (.dstore_n 2, 1) := by decide +kernel
theorem dX4_bitsOf_10 : decode cX4_bitsOf 10 = .ok (.ldc2_w 373, 3) := by decide +kernel
theorem dX4_bitsOf_13 : decode cX4_bitsOf 13 = .ok (.lstore 4, 2) := by decide +kernel
theorem dX4_bitsOf_15 : decode cX4_bitsOf 15 = .ok (.iconst 0, 1) := by decide +kernel
theorem dX4_bitsOf_16 : decode cX4_bitsOf 16 = .ok (.istore 6, 2) := by decide +kernel
theorem dX4_bitsOf_18 : decode cX4_bitsOf 18 = .ok (.iload 6, 2) := by decide +kernel
theorem dX4_bitsOf_20 : decode cX4_bitsOf 20 = .ok (.sipush 1000, 3) := by decide +kernel
theorem dX4_bitsOf_23 : decode cX4_bitsOf 23 = .ok (.if_icmp .ge 27, 3) := by decide +kernel
theorem dX4_bitsOf_26 : decode cX4_bitsOf 26 = .ok (.dload_n 2, 1) := by decide +kernel
theorem dX4_bitsOf_27 : decode cX4_bitsOf 27 = .ok (.dconst 1, 1) := by decide +kernel
theorem dX4_bitsOf_28 : decode cX4_bitsOf 28 = .ok (.dcmp .g, 1) := by decide +kernel
theorem dX4_bitsOf_29 : decode cX4_bitsOf 29 = .ok (.ifCond .ge 21, 3) := by decide +kernel
theorem dX4_bitsOf_32 : decode cX4_bitsOf 32 = .ok (.dload_n 2, 1) := by decide +kernel
theorem dX4_bitsOf_33 : decode cX4_bitsOf 33 = .ok (.ldc2_w 375, 3) := by decide +kernel
theorem dX4_bitsOf_36 : decode cX4_bitsOf 36 = .ok (.dmul, 1) := by decide +kernel
theorem dX4_bitsOf_37 : decode cX4_bitsOf 37 = .ok (.dstore_n 2, 1) := by decide +kernel
theorem dX4_bitsOf_38 : decode cX4_bitsOf 38 = .ok (.lload 4, 2) := by decide +kernel
theorem dX4_bitsOf_40 : decode cX4_bitsOf 40 = .ok (.lconst 1, 1) := by decide +kernel
theorem dX4_bitsOf_41 : decode cX4_bitsOf 41 = .ok (.lsub, 1) := by decide +kernel
theorem dX4_bitsOf_42 : decode cX4_bitsOf 42 = .ok (.lstore 4, 2) := by decide +kernel
theorem dX4_bitsOf_44 : decode cX4_bitsOf 44 = .ok (.iinc 6 1, 3) := by decide +kernel
theorem dX4_bitsOf_47 : decode cX4_bitsOf 47 = .ok (.goto (-29), 3) := by decide +kernel
theorem dX4_bitsOf_50 : decode cX4_bitsOf 50 = .ok (.dload_n 2, 1) := by decide +kernel
theorem dX4_bitsOf_51 : decode cX4_bitsOf 51 = .ok (.dconst 1, 1) := by decide +kernel
theorem dX4_bitsOf_52 : decode cX4_bitsOf 52 = .ok (.dsub, 1) := by decide +kernel
theorem dX4_bitsOf_53 : decode cX4_bitsOf 53 = .ok (.ldc2_w 377, 3) := by decide +kernel
theorem dX4_bitsOf_56 : decode cX4_bitsOf 56 = .ok (.dmul, 1) := by decide +kernel
theorem dX4_bitsOf_57 : decode cX4_bitsOf 57 = .ok (.d2l, 1) := by decide +kernel
theorem dX4_bitsOf_58 : decode cX4_bitsOf 58 = .ok (.lstore 6, 2) := by decide +kernel
theorem dX4_bitsOf_60 : decode cX4_bitsOf 60 = .ok (.lload 4, 2) := by decide +kernel
theorem dX4_bitsOf_62 : decode cX4_bitsOf 62 = .ok (.bipush 52, 2) := by decide +kernel
theorem dX4_bitsOf_64 : decode cX4_bitsOf 64 = .ok (.lshl, 1) := by decide +kernel
theorem dX4_bitsOf_65 : decode cX4_bitsOf 65 = .ok (.lload 6, 2) := by decide +kernel
theorem dX4_bitsOf_67 : decode cX4_bitsOf 67 = .ok (.ladd, 1) := by decide +kernel
theorem dX4_bitsOf_68 : decode cX4_bitsOf 68 = .ok (.lreturn, 1) := by decide +kernel
