theorem dX2_clear_16 : decode cX2_clear 16 = .ok (.iinc 3 1, 3) := by decide +kernel
theorem dX2_clear_19 : decode cX2_clear 19 = .ok (.goto (-17), 3) := by decide +kernel
theorem dX2_clear_22 : decode cX2_clear 22 = .ok (.return_, 1) := by decide +kernel
theorem dX3_init_0 : decode cX3_init 0 = .ok (.aload_n 0, 1) := by decide +kernel
theorem dX3_init_1 : decode cX3_init 1 = .ok (.invokespecial 3, 3) := by decide +kernel
theorem dX3_init_4 : decode cX3_init 4 = .ok (.aload_n 0, 1) := by decide +kernel
theorem dX3_init_5 : decode cX3_init 5 = .ok (.iconst 0, 1) := by decide +kernel
theorem dX3_init_6 : decode cX3_init 6 = .ok (.putfield 9, 3) := by decide +kernel
theorem dX3_init_9 : decode cX3_init 9 = .ok (.aload_n 0, 1) := by decide +kernel
theorem dX3_init_10 : decode cX3_init 10 = .ok (.iconst 0, 1) := by decide +kernel
theorem dX3_init_11 : decode cX3_init 11 = .ok (.putfield 15, 3) := by decide +kernel
theorem dX3_init_14 : decode cX3_init 14 = .ok (.aload_n 0, 1) := by decide +kernel
theorem dX3_init_15 : decode cX3_init 15 = .ok (.iconst 0, 1) := by decide +kernel
theorem dX3_init_16 : decode cX3_init 16 = .ok (.putfield 18, 3) := by decide +kernel
theorem dX3_init_19 : decode cX3_init 19 = .ok (.aload_n 0, 1) := by decide +kernel
theorem dX3_init_20 : decode cX3_init 20 = .ok (.iconst 0, 1) := by decide +kernel
theorem dX3_init_21 : decode cX3_init 21 = .ok (.putfield 22, 3) := by decide +kernel
theorem dX3_init_24 : decode cX3_init 24 = .ok (.aload_n 0, 1) := by decide +kernel
theorem dX3_init_25 : decode cX3_init 25 = .ok (.iconst 0, 1) := by decide +kernel
theorem dX3_init_26 : decode cX3_init 26 = .ok (.putfield 25, 3) := by decide +kernel
theorem dX3_init_29 : decode cX3_init 29 = .ok (.aload_n 0, 1) := by decide +kernel
theorem dX3_init_30 : decode cX3_init 30 = .ok (.iconst 0, 1) := by decide +kernel
theorem dX3_init_31 : decode cX3_init 31 = .ok (.putfield 28, 3) := by decide +kernel
theorem dX3_init_34 : decode cX3_init 34 = .ok (.aload_n 0, 1) := by decide +kernel
theorem dX3_init_35 : decode cX3_init 35 = .ok (.ldc2_w 31, 3) := by decide +kernel
theorem dX3_init_38 : decode cX3_init 38 = .ok (.putfield 33, 3) := by decide +kernel
theorem dX3_init_41 : decode cX3_init 41 = .ok (.aload_n 0, 1) := by decide +kernel
theorem dX3_init_42 : decode cX3_init 42 = .ok (.iconst (-1), 1) := by decide +kernel
theorem dX3_init_43 : decode cX3_init 43 = .ok (.putfield 37, 3) := by decide +kernel
theorem dX3_init_46 : decode cX3_init 46 = .ok (.return_, 1) := by decide +kernel
theorem dX3_isOpen_0 : decode cX3_isOpen 0 = .ok (.aload_n 0, 1) := by decide +kernel
theorem dX3_isOpen_1 : decode cX3_isOpen 1 = .ok (.getfield 9, 3) := by decide +kernel
theorem dX3_isOpen_4 : decode cX3_isOpen 4 = .ok (.ireturn, 1) := by decide +kernel
theorem dX3_isVoid_0 : decode cX3_isVoid 0 = .ok (.aload_n 0, 1) := by decide +kernel
theorem dX3_isVoid_1 : decode cX3_isVoid 1 = .ok (.getfield 15, 3) := by decide +kernel
theorem dX3_isVoid_4 : decode cX3_isVoid 4 = .ok (.ireturn, 1) := by decide +kernel
theorem dX3_start_0 : decode cX3_start 0 = .ok (.aload_n 0, 1) := by decide +kernel
theorem dX3_start_1 : decode cX3_start 1 = .ok (.iconst 1, 1) := by decide +kernel
theorem dX3_start_2 : decode cX3_start 2 = .ok (.putfield 9, 3) := by decide +kernel
theorem dX3_start_5 : decode cX3_start 5 = .ok (.aload_n 0, 1) := by decide +kernel
theorem dX3_start_6 : decode cX3_start 6 = .ok (.iconst 0, 1) := by decide +kernel
theorem dX3_start_7 : decode cX3_start 7 = .ok (.putfield 15, 3) := by decide +kernel
theorem dX3_start_10 : decode cX3_start 10 = .ok (.aload_n 0, 1) := by decide +kernel
theorem dX3_start_11 : decode cX3_start 11 = .ok (.iload_n 1, 1) := by decide +kernel
theorem dX3_start_12 : decode cX3_start 12 = .ok (.putfield 18, 3) := by decide +kernel
theorem dX3_start_15 : decode cX3_start 15 = .ok (.aload_n 0, 1) := by decide +kernel
theorem dX3_start_16 : decode cX3_start 16 = .ok (.iload_n 2, 1) := by decide +kernel
theorem dX3_start_17 : decode cX3_start 17 = .ok (.putfield 22, 3) := by decide +kernel
theorem dX3_start_20 : decode cX3_start 20 = .ok (.aload_n 0, 1) := by decide +kernel
theorem dX3_start_21 : decode cX3_start 21 = .ok (.iload_n 3, 1) := by decide +kernel
theorem dX3_start_22 : decode cX3_start 22 = .ok (.putfield 25, 3) := by decide +kernel
theorem dX3_start_25 : decode cX3_start 25 = .ok (.aload_n 0, 1) := by decide +kernel
theorem dX3_start_26 : decode cX3_start 26 = .ok (.iload 4, 2) := by decide +kernel
theorem dX3_start_28 : decode cX3_start 28 = .ok (.putfield 28, 3) := by decide +kernel
theorem dX3_start_31 : decode cX3_start 31 = .ok (.aload_n 0, 1) := by decide +kernel
theorem dX3_start_32 : decode cX3_start 32 = .ok (.ldc2_w 31, 3) := by decide +kernel
theorem dX3_start_35 : decode cX3_start 35 = .ok (.putfield 33, 3) := by decide +kernel
theorem dX3_start_38 : decode cX3_start 38 = .ok (.aload_n 0, 1) := by decide +kernel
theorem dX3_start_39 : decode cX3_start 39 = .ok (.iconst (-1), 1) := by decide +kernel
theorem dX3_start_40 : decode cX3_start 40 = .ok (.putfield 37, 3) := by decide +kernel
theorem dX3_start_43 : decode cX3_start 43 = .ok (.return_, 1) := by decide +kernel
theorem dX3_end_0 : decode cX3_end 0 = .ok (.aload_n 0, 1) := by decide +kernel
theorem dX3_end_1 : decode cX3_end 1 = .ok (.iconst 0, 1) := by decide +kernel
theorem dX3_end_2 : decode cX3_end 2 = .ok (.putfield 9, 3) := by decide +kernel
theorem dX3_end_5 : decode cX3_end 5 = .ok (.return_, 1) := by decide +kernel
theorem dX3_tableChanged_0 : decode cX3_tableChanged 0 = .ok (.iload_n 1, 1) := by decide +kernel
theorem dX3_tableChanged_1 : decode cX3_tableChanged 1 = .ok (.aload_n 0, 1) := by decide +kernel
theorem dX3_tableChanged_2 : decode cX3_tableChanged 2 = .ok (.getfield 18, 3) := by decide +kernel
theorem dX3_tableChanged_5 : decode cX3_tableChanged 5 = .ok (.if_icmp .ne 8, 3) := by decide +kernel
theorem dX3_tableChanged_8 : decode cX3_tableChanged 8 = .ok (.aload_n 0, 1) := by decide +kernel
theorem dX3_tableChanged_9 : decode cX3_tableChanged 9 = .ok (.iconst 1, 1) := by decide +kernel
theorem dX3_tableChanged_10 : decode cX3_tableChanged 10 = .ok (.putfield 15, 3) := by decide +kernel
theorem dX3_tableChanged_13 : decode cX3_tableChanged 13 = .ok (.return_, 1) := by decide +kernel
set_option maxRecDepth 20000 in
theorem ggX3_move_X2_leastRow : GoodIn wsX3_move wsX2_leastRow := goodIn_r _ [11, 12, 13, 14, 15, 10, 16, 17, 18, 19, 20, 21, 22, 23, 24, 25, 26, 27, 28, 29, 30, 31, 32, 33, 34, 35, 36, 49] (by decide +kernel) (by decide +kernel)
set_option maxRecDepth 20000 in
theorem gX3_move_X2_leastRow : GoodIn wsX3_move (wsV RX3 40 RX2 yX2_leastRow wsX2_leastRow) := goodIn_app (goodIn_of _ (by decide +kernel)) ggX3_move_X2_leastRow
set_option maxRecDepth 20000 in
theorem ggX3_move_X2_word : GoodIn wsX3_move wsX2_word := goodIn_r _ [40, 12, 49] (by decide +kernel) (by decide +kernel)
set_option maxRecDepth 20000 in
theorem gX3_move_X2_word : GoodIn wsX3_move (wsV RX3 46 RX2 yX2_word wsX2_word) := goodIn_app (goodIn_of _ (by decide +kernel)) ggX3_move_X2_word
theorem dX3_move_0 : decode cX3_move 0 = .ok (.aload_n 0, 1) := by decide +kernel
theorem dX3_move_1 : decode cX3_move 1 = .ok (.aload_n 1, 1) := by decide +kernel
theorem dX3_move_2 : decode cX3_move 2 = .ok (.aload_n 0, 1) := by decide +kernel
theorem dX3_move_3 : decode cX3_move 3 = .ok (.getfield 18, 3) := by decide +kernel
theorem dX3_move_6 : decode cX3_move 6 = .ok (.aload_n 0, 1) := by decide +kernel
theorem dX3_move_7 : decode cX3_move 7 = .ok (.getfield 22, 3) := by decide +kernel
theorem dX3_move_10 : decode cX3_move 10 = .ok (.aload_n 0, 1) := by decide +kernel
theorem dX3_move_11 : decode cX3_move 11 = .ok (.getfield 25, 3) := by decide +kernel
theorem dX3_move_14 : decode cX3_move 14 = .ok (.aload_n 0, 1) := by decide +kernel
theorem dX3_move_15 : decode cX3_move 15 = .ok (.getfield 28, 3) := by decide +kernel
theorem dX3_move_18 : decode cX3_move 18 = .ok (.aload_n 0, 1) := by decide +kernel
theorem dX3_move_19 : decode cX3_move 19 = .ok (.getfield 33, 3) := by decide +kernel
theorem dX3_move_22 : decode cX3_move 22 = .ok (.invokevirtual 40, 3) := by decide +kernel
theorem dX3_move_25 : decode cX3_move 25 = .ok (.putfield 37, 3) := by decide +kernel
theorem dX3_move_28 : decode cX3_move 28 = .ok (.aload_n 0, 1) := by decide +kernel
theorem dX3_move_29 : decode cX3_move 29 = .ok (.getfield 37, 3) := by decide +kernel
theorem dX3_move_32 : decode cX3_move 32 = .ok (.iconst (-1), 1) := by decide +kernel
theorem dX3_move_33 : decode cX3_move 33 = .ok (.if_icmp .ne 5, 3) := by decide +kernel
theorem dX3_move_36 : decode cX3_move 36 = .ok (.iconst 0, 1) := by decide +kernel
theorem dX3_move_37 : decode cX3_move 37 = .ok (.ireturn, 1) := by decide +kernel
theorem dX3_move_38 : decode cX3_move 38 = .ok (.aload_n 0, 1) := by decide +kernel
theorem dX3_move_39 : decode cX3_move 39 = .ok (.aload_n 1, 1) := by decide +kernel
theorem dX3_move_40 : decode cX3_move 40 = .ok (.aload_n 0, 1) := by decide +kernel
theorem dX3_move_41 : decode cX3_move 41 = .ok (.getfield 37, 3) := by decide +kernel
theorem dX3_move_44 : decode cX3_move 44 = .ok (.invokevirtual 46, 3) := by decide +kernel
theorem dX3_move_47 : decode cX3_move 47 = .ok (.i2l, 1) := by decide +kernel
theorem dX3_move_48 : decode cX3_move 48 = .ok (.putfield 33, 3) := by decide +kernel
theorem dX3_move_51 : decode cX3_move 51 = .ok (.iconst 1, 1) := by decide +kernel
theorem dX3_move_52 : decode cX3_move 52 = .ok (.ireturn, 1) := by decide +kernel
set_option maxRecDepth 20000 in
theorem ggX3_wordAt_X2_hasCol : GoodIn wsX3_wordAt wsX2_hasCol := goodIn_r _ [7, 8, 9, 10, 6, 11, 12, 13, 14, 15, 16, 29] (by decide +kernel) (by decide +kernel)
set_option maxRecDepth 20000 in
theorem gX3_wordAt_X2_hasCol : GoodIn wsX3_wordAt (wsV RX3 50 RX2 yX2_hasCol wsX2_hasCol) := goodIn_app (goodIn_of _ (by decide +kernel)) ggX3_wordAt_X2_hasCol
set_option maxRecDepth 20000 in
theorem ggX3_wordAt_X2_word : GoodIn wsX3_wordAt wsX2_word := goodIn_r _ [20, 12, 29] (by decide +kernel) (by decide +kernel)
set_option maxRecDepth 20000 in
theorem gX3_wordAt_X2_word : GoodIn wsX3_wordAt (wsV RX3 46 RX2 yX2_word wsX2_word) := goodIn_app (goodIn_of _ (by decide +kernel)) ggX3_wordAt_X2_word
theorem dX3_wordAt_0 : decode cX3_wordAt 0 = .ok (.aload_n 0, 1) := by decide +kernel
theorem dX3_wordAt_1 : decode cX3_wordAt 1 = .ok (.getfield 37, 3) := by decide +kernel
theorem dX3_wordAt_4 : decode cX3_wordAt 4 = .ok (.iconst (-1), 1) := by decide +kernel
theorem dX3_wordAt_5 : decode cX3_wordAt 5 = .ok (.if_icmp .eq 15, 3) := by decide +kernel
theorem dX3_wordAt_8 : decode cX3_wordAt 8 = .ok (.aload_n 1, 1) := by decide +kernel
theorem dX3_wordAt_9 : decode cX3_wordAt 9 = .ok (.aload_n 0, 1) := by decide +kernel
theorem dX3_wordAt_10 : decode cX3_wordAt 10 = .ok (.getfield 18, 3) := by decide +kernel
theorem dX3_wordAt_13 : decode cX3_wordAt 13 = .ok (.iload_n 2, 1) := by decide +kernel
theorem dX3_wordAt_14 : decode cX3_wordAt 14 = .ok (.invokevirtual 50, 3) := by decide +kernel
theorem dX3_wordAt_17 : decode cX3_wordAt 17 = .ok (.ifCond .ne 5, 3) := by decide +kernel
theorem dX3_wordAt_20 : decode cX3_wordAt 20 = .ok (.iconst 0, 1) := by decide +kernel
theorem dX3_wordAt_21 : decode cX3_wordAt 21 = .ok (.ireturn, 1) := by decide +kernel
theorem dX3_wordAt_22 : decode cX3_wordAt 22 = .ok (.aload_n 1, 1) := by decide +kernel
theorem dX3_wordAt_23 : decode cX3_wordAt 23 = .ok (.aload_n 0, 1) := by decide +kernel
theorem dX3_wordAt_24 : decode cX3_wordAt 24 = .ok (.getfield 37, 3) := by decide +kernel
theorem dX3_wordAt_27 : decode cX3_wordAt 27 = .ok (.iload_n 2, 1) := by decide +kernel
theorem dX3_wordAt_28 : decode cX3_wordAt 28 = .ok (.iadd, 1) := by decide +kernel
theorem dX3_wordAt_29 : decode cX3_wordAt 29 = .ok (.invokevirtual 46, 3) := by decide +kernel
theorem dX3_wordAt_32 : decode cX3_wordAt 32 = .ok (.ireturn, 1) := by decide +kernel
set_option maxRecDepth 20000 in
theorem ggX4_init_X0_init : GoodIn wsX4_init wsX0_init := goodIn_r _ [24, 25, 2, 3, 20, 26, 27, 28, 29, 53, 54, 55, 56] (by decide +kernel) (by decide +kernel)
set_option maxRecDepth 20000 in
theorem gX4_init_X0_init_n9 : GoodIn wsX4_init (wsX0_init) := ggX4_init_X0_init
set_option maxRecDepth 20000 in
theorem ggX4_init_X2_init : GoodIn wsX4_init wsX2_init := goodIn_r _ [31, 32, 2, 3, 20, 33, 63] (by decide +kernel) (by decide +kernel)
set_option maxRecDepth 20000 in
theorem gX4_init_X2_init_n18 : GoodIn wsX4_init (wsX2_init) := ggX4_init_X2_init
set_option maxRecDepth 20000 in
theorem ggX4_init_X1_init : GoodIn wsX4_init wsX1_init := goodIn_r _ [36, 37, 2, 3, 20, 38, 39, 40, 64, 65, 66] (by decide +kernel) (by decide +kernel)
set_option maxRecDepth 20000 in
theorem gX4_init_X1_init : GoodIn wsX4_init (wsX1_init) := ggX4_init_X1_init
set_option maxRecDepth 20000 in
theorem ggX4_init_X3_init : GoodIn wsX4_init wsX3_init := goodIn_r _ [42, 43, 2, 3, 44, 45, 46, 47, 48, 49, 50, 51, 52, 67, 68, 69, 70, 71, 72, 73, 74] (by decide +kernel) (by decide +kernel)
set_option maxRecDepth 20000 in
theorem gX4_init_X3_init_n38 : GoodIn wsX4_init (wsX3_init) := ggX4_init_X3_init
theorem dX4_init_0 : decode cX4_init 0 = .ok (.aload_n 0, 1) := by decide +kernel
theorem dX4_init_1 : decode cX4_init 1 = .ok (.invokespecial 1, 3) := by decide +kernel
theorem dX4_init_4 : decode cX4_init 4 = .ok (.aload_n 0, 1) := by decide +kernel
theorem dX4_init_5 : decode cX4_init 5 = .ok (.new 7, 3) := by decide +kernel
theorem dX4_init_8 : decode cX4_init 8 = .ok (.dup, 1) := by decide +kernel
theorem dX4_init_9 : decode cX4_init 9 = .ok (.invokespecial 9, 3) := by decide +kernel
theorem dX4_init_12 : decode cX4_init 12 = .ok (.putfield 10, 3) := by decide +kernel
theorem dX4_init_15 : decode cX4_init 15 = .ok (.aload_n 0, 1) := by decide +kernel
theorem dX4_init_16 : decode cX4_init 16 = .ok (.new 16, 3) := by decide +kernel
theorem dX4_init_19 : decode cX4_init 19 = .ok (.dup, 1) := by decide +kernel
theorem dX4_init_20 : decode cX4_init 20 = .ok (.invokespecial 18, 3) := by decide +kernel
theorem dX4_init_23 : decode cX4_init 23 = .ok (.putfield 19, 3) := by decide +kernel
theorem dX4_init_26 : decode cX4_init 26 = .ok (.aload_n 0, 1) := by decide +kernel
theorem dX4_init_27 : decode cX4_init 27 = .ok (.new 23, 3) := by decide +kernel
theorem dX4_init_30 : decode cX4_init 30 = .ok (.dup, 1) := by decide +kernel
theorem dX4_init_31 : decode cX4_init 31 = .ok (.aload_n 0, 1) := by decide +kernel
theorem dX4_init_32 : decode cX4_init 32 = .ok (.getfield 10, 3) := by decide +kernel
theorem dX4_init_35 : decode cX4_init 35 = .ok (.aload_n 0, 1) := by decide +kernel
theorem dX4_init_36 : decode cX4_init 36 = .ok (.getfield 19, 3) := by decide +kernel
theorem dX4_init_39 : decode cX4_init 39 = .ok (.invokespecial 25, 3) := by decide +kernel
theorem dX4_init_42 : decode cX4_init 42 = .ok (.putfield 28, 3) := by decide +kernel
theorem dX4_init_45 : decode cX4_init 45 = .ok (.aload_n 0, 1) := by decide +kernel
theorem dX4_init_46 : decode cX4_init 46 = .ok (.iconst 4, 1) := by decide +kernel
theorem dX4_init_47 : decode cX4_init 47 = .ok (.anewarray 32, 3) := by decide +kernel
theorem dX4_init_50 : decode cX4_init 50 = .ok (.putfield 34, 3) := by decide +kernel
theorem dX4_init_53 : decode cX4_init 53 = .ok (.iconst 0, 1) := by decide +kernel
theorem dX4_init_54 : decode cX4_init 54 = .ok (.istore_n 1, 1) := by decide +kernel
theorem dX4_init_55 : decode cX4_init 55 = .ok (.iload_n 1, 1) := by decide +kernel
theorem dX4_init_56 : decode cX4_init 56 = .ok (.iconst 4, 1) := by decide +kernel
theorem dX4_init_57 : decode cX4_init 57 = .ok (.if_icmp .ge 22, 3) := by decide +kernel
theorem dX4_init_60 : decode cX4_init 60 = .ok (.aload_n 0, 1) := by decide +kernel
theorem dX4_init_61 : decode cX4_init 61 = .ok (.getfield 34, 3) := by decide +kernel
theorem dX4_init_64 : decode cX4_init 64 = .ok (.iload_n 1, 1) := by decide +kernel
theorem dX4_init_65 : decode cX4_init 65 = .ok (.new 32, 3) := by decide +kernel
theorem dX4_init_68 : decode cX4_init 68 = .ok (.dup, 1) := by decide +kernel
theorem dX4_init_69 : decode cX4_init 69 = .ok (.invokespecial 38, 3) := by decide +kernel
theorem dX4_init_72 : decode cX4_init 72 = .ok (.aastore, 1) := by decide +kernel
theorem dX4_init_73 : decode cX4_init 73 = .ok (.iinc 1 1, 3) := by decide +kernel
theorem dX4_init_76 : decode cX4_init 76 = .ok (.goto (-21), 3) := by decide +kernel
theorem dX4_init_79 : decode cX4_init 79 = .ok (.aload_n 0, 1) := by decide +kernel
theorem dX4_init_80 : decode cX4_init 80 = .ok (.bipush 6, 2) := by decide +kernel
theorem dX4_init_82 : decode cX4_init 82 = .ok (.newarray .int, 2) := by decide +kernel
theorem dX4_init_84 : decode cX4_init 84 = .ok (.putfield 39, 3) := by decide +kernel
theorem dX4_init_87 : decode cX4_init 87 = .ok (.aload_n 0, 1) := by decide +kernel
theorem dX4_init_88 : decode cX4_init 88 = .ok (.iconst 0, 1) := by decide +kernel
theorem dX4_init_89 : decode cX4_init 89 = .ok (.putfield 43, 3) := by decide +kernel
theorem dX4_init_92 : decode cX4_init 92 = .ok (.return_, 1) := by decide +kernel
set_option maxRecDepth 20000 in
theorem ggX4_format_X0_wipe : GoodIn wsX4_format wsX0_wipe := goodIn_r _ [6, 7, 8, 9, 40, 41, 42, 43] (by decide +kernel) (by decide +kernel)
set_option maxRecDepth 20000 in
theorem gX4_format_X0_wipe : GoodIn wsX4_format (wsV RX4 47 RX0 yX0_wipe wsX0_wipe) := goodIn_app (goodIn_of _ (by decide +kernel)) ggX4_format_X0_wipe
set_option maxRecDepth 20000 in
theorem ggX4_format_X4_startAnew : GoodIn wsX4_format wsX4_startAnew := goodIn_r _ [14, 15, 1, 16, 17, 18, 19, 20, 21, 22, 23, 24, 25, 26, 27, 28, 29, 30, 31, 32, 33, 34, 35, 36, 37, 38, 39, 40, 41, 42, 43, 44, 45, 46, 47, 48, 49, 50, 51, 52] (by decide +kernel) (by decide +kernel)
set_option maxRecDepth 20000 in
theorem gX4_format_X4_startAnew : GoodIn wsX4_format (wsV RX4 50 RX4 yX4_startAnew wsX4_startAnew) := goodIn_app (goodIn_of _ (by decide +kernel)) ggX4_format_X4_startAnew
theorem dX4_format_0 : decode cX4_format 0 = .ok (.aload_n 0, 1) := by decide +kernel
theorem dX4_format_1 : decode cX4_format 1 = .ok (.getfield 10, 3) := by decide +kernel
theorem dX4_format_4 : decode cX4_format 4 = .ok (.invokevirtual 47, 3) := by decide +kernel
theorem dX4_format_7 : decode cX4_format 7 = .ok (.aload_n 0, 1) := by decide +kernel
theorem dX4_format_8 : decode cX4_format 8 = .ok (.invokevirtual 50, 3) := by decide +kernel
theorem dX4_format_11 : decode cX4_format 11 = .ok (.iconst 0, 1) := by decide +kernel
theorem dX4_format_12 : decode cX4_format 12 = .ok (.ireturn, 1) := by decide +kernel
set_option maxRecDepth 20000 in
theorem ggX4_createTable_X0_powered : GoodIn wsX4_createTable wsX0_powered := goodIn_r _ [8, 9, 26, 27, 28, 29] (by decide +kernel) (by decide +kernel)
set_option maxRecDepth 20000 in
theorem gX4_createTable_X0_powered : GoodIn wsX4_createTable (wsV RX4 53 RX0 yX0_powered wsX0_powered) := goodIn_app (goodIn_of _ (by decide +kernel)) ggX4_createTable_X0_powered
set_option maxRecDepth 20000 in
theorem ggX4_createTable_X2_freeTable : GoodIn wsX4_createTable wsX2_freeTable := goodIn_r _ [14, 15, 30] (by decide +kernel) (by decide +kernel)
set_option maxRecDepth 20000 in
theorem gX4_createTable_X2_freeTable : GoodIn wsX4_createTable (wsV RX4 57 RX2 yX2_freeTable wsX2_freeTable) := goodIn_app (goodIn_of _ (by decide +kernel)) ggX4_createTable_X2_freeTable
set_option maxRecDepth 20000 in
theorem ggX4_createTable_X2_addTable : GoodIn wsX4_createTable wsX2_addTable := goodIn_r _ [19, 15, 30] (by decide +kernel) (by decide +kernel)
set_option maxRecDepth 20000 in
theorem gX4_createTable_X2_addTable : GoodIn wsX4_createTable (wsV RX4 61 RX2 yX2_addTable wsX2_addTable) := goodIn_app (goodIn_of _ (by decide +kernel)) ggX4_createTable_X2_addTable
theorem dX4_createTable_0 : decode cX4_createTable 0 = .ok (.aload_n 0, 1) := by decide +kernel
theorem dX4_createTable_1 : decode cX4_createTable 1 = .ok (.getfield 10, 3) := by decide +kernel
theorem dX4_createTable_4 : decode cX4_createTable 4 = .ok (.invokevirtual 53, 3) := by decide +kernel
theorem dX4_createTable_7 : decode cX4_createTable 7 = .ok (.ifCond .ne 5, 3) := by decide +kernel
theorem dX4_createTable_10 : decode cX4_createTable 10 = .ok (.iconst (-1), 1) := by decide +kernel
theorem dX4_createTable_11 : decode cX4_createTable 11 = .ok (.ireturn, 1) := by decide +kernel
theorem dX4_createTable_12 : decode cX4_createTable 12 = .ok (.iload_n 1, 1) := by decide +kernel
theorem dX4_createTable_13 : decode cX4_createTable 13 = .ok (.iconst 2, 1) := by decide +kernel
theorem dX4_createTable_14 : decode cX4_createTable 14 = .ok (.if_icmp .lt 9, 3) := by decide +kernel
theorem dX4_createTable_17 : decode cX4_createTable 17 = .ok (.iload_n 1, 1) := by decide +kernel
theorem dX4_createTable_18 : decode cX4_createTable 18 = .ok (.bipush 6, 2) := by decide +kernel
theorem dX4_createTable_20 : decode cX4_createTable 20 = .ok (.if_icmp .le 6, 3) := by decide +kernel
theorem dX4_createTable_23 : decode cX4_createTable 23 = .ok (.bipush (-4), 2) := by decide +kernel
theorem dX4_createTable_25 : decode cX4_createTable 25 = .ok (.ireturn, 1) := by decide +kernel
theorem dX4_createTable_26 : decode cX4_createTable 26 = .ok (.aload_n 0, 1) := by decide +kernel
theorem dX4_createTable_27 : decode cX4_createTable 27 = .ok (.getfield 43, 3) := by decide +kernel
theorem dX4_createTable_30 : decode cX4_createTable 30 = .ok (.ifCond .ne 6, 3) := by decide +kernel
theorem dX4_createTable_33 : decode cX4_createTable 33 = .ok (.bipush (-2), 2) := by decide +kernel
theorem dX4_createTable_35 : decode cX4_createTable 35 = .ok (.ireturn, 1) := by decide +kernel
theorem dX4_createTable_36 : decode cX4_createTable 36 = .ok (.aload_n 0, 1) := by decide +kernel
theorem dX4_createTable_37 : decode cX4_createTable 37 = .ok (.getfield 19, 3) := by decide +kernel
theorem dX4_createTable_40 : decode cX4_createTable 40 = .ok (.invokevirtual 57, 3) := by decide +kernel
theorem dX4_createTable_43 : decode cX4_createTable 43 = .ok (.istore_n 2, 1) := by decide +kernel
theorem dX4_createTable_44 : decode cX4_createTable 44 = .ok (.iload_n 2, 1) := by decide +kernel
theorem dX4_createTable_45 : decode cX4_createTable 45 = .ok (.iconst (-1), 1) := by decide +kernel
theorem dX4_createTable_46 : decode cX4_createTable 46 = .ok (.if_icmp .ne 6, 3) := by decide +kernel
theorem dX4_createTable_49 : decode cX4_createTable 49 = .ok (.bipush (-8), 2) := by decide +kernel
theorem dX4_createTable_51 : decode cX4_createTable 51 = .ok (.ireturn, 1) := by decide +kernel
theorem dX4_createTable_52 : decode cX4_createTable 52 = .ok (.aload_n 0, 1) := by decide +kernel
theorem dX4_createTable_53 : decode cX4_createTable 53 = .ok (.getfield 19, 3) := by decide +kernel
theorem dX4_createTable_56 : decode cX4_createTable 56 = .ok (.iload_n 2, 1) := by decide +kernel
theorem dX4_createTable_57 : decode cX4_createTable 57 = .ok (.iload_n 1, 1) := by decide +kernel
theorem dX4_createTable_58 : decode cX4_createTable 58 = .ok (.invokevirtual 61, 3) := by decide +kernel
theorem dX4_createTable_61 : decode cX4_createTable 61 = .ok (.iload_n 2, 1) := by decide +kernel
theorem dX4_createTable_62 : decode cX4_createTable 62 = .ok (.ireturn, 1) := by decide +kernel
set_option maxRecDepth 20000 in
theorem ggX4_dropTable_X4_refusalOfChange : GoodIn wsX4_dropTable wsX4_refusalOfChange := goodIn_r _ [6, 1, 7, 8, 9, 5, 10, 11, 12, 13, 14, 15, 16, 17, 18, 19, 20, 21, 22, 23, 24, 49, 50, 51, 52, 53, 54, 55, 56, 57, 58, 59] (by decide +kernel) (by decide +kernel)
set_option maxRecDepth 20000 in
theorem gX4_dropTable_X4_refusalOfChange : GoodIn wsX4_dropTable (wsV RX4 65 RX4 yX4_refusalOfChange wsX4_refusalOfChange) := goodIn_app (goodIn_of _ (by decide +kernel)) ggX4_dropTable_X4_refusalOfChange
set_option maxRecDepth 20000 in
theorem ggX4_dropTable_X2_removeTable : GoodIn wsX4_dropTable wsX2_removeTable := goodIn_r _ [28, 24, 29, 30, 31, 22, 32, 33, 34, 35, 36, 59] (by decide +kernel) (by decide +kernel)
set_option maxRecDepth 20000 in
theorem gX4_dropTable_X2_removeTable : GoodIn wsX4_dropTable (wsV RX4 69 RX2 yX2_removeTable wsX2_removeTable) := goodIn_app (goodIn_of _ (by decide +kernel)) ggX4_dropTable_X2_removeTable
set_option maxRecDepth 20000 in
theorem ggX4_dropTable_X4_voidScansOf : GoodIn wsX4_dropTable wsX4_voidScansOf := goodIn_r _ [40, 41, 42, 43, 44, 45, 46, 47, 48, 49, 50, 51, 52, 53, 54, 60, 61, 62, 63, 64, 65, 66, 67] (by decide +kernel) (by decide +kernel)
set_option maxRecDepth 20000 in
theorem gX4_dropTable_X4_voidScansOf : GoodIn wsX4_dropTable (wsV RX4 73 RX4 yX4_voidScansOf wsX4_voidScansOf) := goodIn_app (goodIn_of _ (by decide +kernel)) ggX4_dropTable_X4_voidScansOf
theorem dX4_dropTable_0 : decode cX4_dropTable 0 = .ok (.aload_n 0, 1) := by decide +kernel
theorem dX4_dropTable_1 : decode cX4_dropTable 1 = .ok (.iload_n 1, 1) := by decide +kernel
theorem dX4_dropTable_2 : decode cX4_dropTable 2 = .ok (.invokevirtual 65, 3) := by decide +kernel
theorem dX4_dropTable_5 : decode cX4_dropTable 5 = .ok (.istore_n 2, 1) := by decide +kernel
theorem dX4_dropTable_6 : decode cX4_dropTable 6 = .ok (.iload_n 2, 1) := by decide +kernel
theorem dX4_dropTable_7 : decode cX4_dropTable 7 = .ok (.ifCond .eq 5, 3) := by decide +kernel
theorem dX4_dropTable_10 : decode cX4_dropTable 10 = .ok (.iload_n 2, 1) := by decide +kernel
theorem dX4_dropTable_11 : decode cX4_dropTable 11 = .ok (.ireturn, 1) := by decide +kernel
theorem dX4_dropTable_12 : decode cX4_dropTable 12 = .ok (.aload_n 0, 1) := by decide +kernel
theorem dX4_dropTable_13 : decode cX4_dropTable 13 = .ok (.getfield 19, 3) := by decide +kernel
theorem dX4_dropTable_16 : decode cX4_dropTable 16 = .ok (.iload_n 1, 1) := by decide +kernel
theorem dX4_dropTable_17 : decode cX4_dropTable 17 = .ok (.invokevirtual 69, 3) := by decide +kernel
theorem dX4_dropTable_20 : decode cX4_dropTable 20 = .ok (.aload_n 0, 1) := by decide +kernel
theorem dX4_dropTable_21 : decode cX4_dropTable 21 = .ok (.iload_n 1, 1) := by decide +kernel
theorem dX4_dropTable_22 : decode cX4_dropTable 22 = .ok (.invokevirtual 73, 3) := by decide +kernel
theorem dX4_dropTable_25 : decode cX4_dropTable 25 = .ok (.iconst 0, 1) := by decide +kernel
theorem dX4_dropTable_26 : decode cX4_dropTable 26 = .ok (.ireturn, 1) := by decide +kernel
set_option maxRecDepth 20000 in
theorem ggX4_begin_X0_powered : GoodIn wsX4_begin wsX0_powered := goodIn_r _ [7, 8, 15, 16, 17, 18] (by decide +kernel) (by decide +kernel)
set_option maxRecDepth 20000 in
theorem gX4_begin_X0_powered : GoodIn wsX4_begin (wsV RX4 53 RX0 yX0_powered wsX0_powered) := goodIn_app (goodIn_of _ (by decide +kernel)) ggX4_begin_X0_powered
theorem dX4_begin_0 : decode cX4_begin 0 = .ok (.aload_n 0, 1) := by decide +kernel
theorem dX4_begin_1 : decode cX4_begin 1 = .ok (.getfield 10, 3) := by decide +kernel
theorem dX4_begin_4 : decode cX4_begin 4 = .ok (.invokevirtual 53, 3) := by decide +kernel
theorem dX4_begin_7 : decode cX4_begin 7 = .ok (.ifCond .ne 5, 3) := by decide +kernel
theorem dX4_begin_10 : decode cX4_begin 10 = .ok (.iconst (-1), 1) := by decide +kernel
theorem dX4_begin_11 : decode cX4_begin 11 = .ok (.ireturn, 1) := by decide +kernel
theorem dX4_begin_12 : decode cX4_begin 12 = .ok (.aload_n 0, 1) := by decide +kernel
theorem dX4_begin_13 : decode cX4_begin 13 = .ok (.getfield 43, 3) := by decide +kernel
theorem dX4_begin_16 : decode cX4_begin 16 = .ok (.ifCond .eq 6, 3) := by decide +kernel
theorem dX4_begin_19 : decode cX4_begin 19 = .ok (.bipush (-3), 2) := by decide +kernel
theorem dX4_begin_21 : decode cX4_begin 21 = .ok (.ireturn, 1) := by decide +kernel
theorem dX4_begin_22 : decode cX4_begin 22 = .ok (.aload_n 0, 1) := by decide +kernel
theorem dX4_begin_23 : decode cX4_begin 23 = .ok (.iconst 1, 1) := by decide +kernel
theorem dX4_begin_24 : decode cX4_begin 24 = .ok (.putfield 43, 3) := by decide +kernel
theorem dX4_begin_27 : decode cX4_begin 27 = .ok (.iconst 0, 1) := by decide +kernel
theorem dX4_begin_28 : decode cX4_begin 28 = .ok (.ireturn, 1) := by decide +kernel
set_option maxRecDepth 20000 in
theorem ggX4_commit_X4_refusalOutsideTransaction : GoodIn wsX4_commit wsX4_refusalOutsideTransaction := goodIn_r _ [7, 8, 2, 9, 10, 11, 12, 13, 14, 91, 92, 93, 94, 95, 96, 97, 98, 99, 100] (by decide +kernel) (by decide +kernel)
set_option maxRecDepth 20000 in
theorem gX4_commit_X4_refusalOutsideTransaction : GoodIn wsX4_commit (wsV RX4 76 RX4 yX4_refusalOutsideTransaction wsX4_refusalOutsideTransaction) := goodIn_app (goodIn_of _ (by decide +kernel)) ggX4_commit_X4_refusalOutsideTransaction
set_option maxRecDepth 20000 in
theorem ggX4_commit_X1_carryOut : GoodIn wsX4_commit wsX1_carryOut := goodIn_r _ [19, 20, 21, 22, 18, 23, 24, 25, 26, 27, 28, 29, 30, 31, 32, 33, 34, 35, 36, 37, 38, 39, 40, 41, 42, 43, 44, 45, 46, 47, 48, 49, 50, 51, 12, 52, 53, 54, 55, 56, 57, 58, 14, 59, 60, 61, 62, 63, 64, 65, 66, 67, 68, 69, 70, 71, 72, 73, 74, 75, 76, 77, 78, 79, 80, 81, 82, 83, 84, 85, 86, 87, 88, 89, 90, 101, 102, 103, 104, 97, 98, 99, 100] (by decide +kernel) (by decide +kernel)
set_option maxRecDepth 20000 in
theorem gX4_commit_X1_carryOut : GoodIn wsX4_commit (wsV RX4 79 RX1 yX1_carryOut wsX1_carryOut) := goodIn_app (goodIn_of _ (by decide +kernel)) ggX4_commit_X1_carryOut
theorem dX4_commit_0 : decode cX4_commit 0 = .ok (.aload_n 0, 1) := by decide +kernel
theorem dX4_commit_1 : decode cX4_commit 1 = .ok (.invokevirtual 76, 3) := by decide +kernel
theorem dX4_commit_4 : decode cX4_commit 4 = .ok (.istore_n 1, 1) := by decide +kernel
theorem dX4_commit_5 : decode cX4_commit 5 = .ok (.iload_n 1, 1) := by decide +kernel
theorem dX4_commit_6 : decode cX4_commit 6 = .ok (.ifCond .eq 5, 3) := by decide +kernel
theorem dX4_commit_9 : decode cX4_commit 9 = .ok (.iload_n 1, 1) := by decide +kernel
theorem dX4_commit_10 : decode cX4_commit 10 = .ok (.ireturn, 1) := by decide +kernel
theorem dX4_commit_11 : decode cX4_commit 11 = .ok (.aload_n 0, 1) := by decide +kernel
theorem dX4_commit_12 : decode cX4_commit 12 = .ok (.getfield 28, 3) := by decide +kernel
theorem dX4_commit_15 : decode cX4_commit 15 = .ok (.invokevirtual 79, 3) := by decide +kernel
theorem dX4_commit_18 : decode cX4_commit 18 = .ok (.ifCond .ne 5, 3) := by decide +kernel
theorem dX4_commit_21 : decode cX4_commit 21 = .ok (.iconst (-1), 1) := by decide +kernel
theorem dX4_commit_22 : decode cX4_commit 22 = .ok (.ireturn, 1) := by decide +kernel
theorem dX4_commit_23 : decode cX4_commit 23 = .ok (.aload_n 0, 1) := by decide +kernel
theorem dX4_commit_24 : decode cX4_commit 24 = .ok (.iconst 0, 1) := by decide +kernel
theorem dX4_commit_25 : decode cX4_commit 25 = .ok (.putfield 43, 3) := by decide +kernel
theorem dX4_commit_28 : decode cX4_commit 28 = .ok (.iconst 0, 1) := by decide +kernel
theorem dX4_commit_29 : decode cX4_commit 29 = .ok (.ireturn, 1) := by decide +kernel
set_option maxRecDepth 20000 in
theorem ggX4_rollback_X4_refusalOutsideTransaction : GoodIn wsX4_rollback wsX4_refusalOutsideTransaction := goodIn_r _ [8, 2, 3, 9, 10, 11, 12, 13, 14, 37, 38, 39, 40, 41, 42, 43, 44, 45, 46] (by decide +kernel) (by decide +kernel)
set_option maxRecDepth 20000 in
theorem gX4_rollback_X4_refusalOutsideTransaction : GoodIn wsX4_rollback (wsV RX4 76 RX4 yX4_refusalOutsideTransaction wsX4_refusalOutsideTransaction) := goodIn_app (goodIn_of _ (by decide +kernel)) ggX4_rollback_X4_refusalOutsideTransaction
set_option maxRecDepth 20000 in
theorem ggX4_rollback_X2_load : GoodIn wsX4_rollback wsX2_load := goodIn_r _ [19, 20, 21, 22, 23, 24, 43, 44, 45, 46, 47] (by decide +kernel) (by decide +kernel)
set_option maxRecDepth 20000 in
theorem gX4_rollback_X2_load : GoodIn wsX4_rollback (wsV RX4 82 RX2 yX2_load wsX2_load) := goodIn_app (goodIn_of _ (by decide +kernel)) ggX4_rollback_X2_load
set_option maxRecDepth 20000 in
theorem ggX4_rollback_X4_voidScansOf : GoodIn wsX4_rollback wsX4_voidScansOf := goodIn_r _ [28, 29, 30, 31, 32, 33, 34, 35, 36, 37, 38, 39, 40, 41, 42, 48, 49, 50, 51, 52, 53, 54, 55] (by decide +kernel) (by decide +kernel)
set_option maxRecDepth 20000 in
theorem gX4_rollback_X4_voidScansOf : GoodIn wsX4_rollback (wsV RX4 73 RX4 yX4_voidScansOf wsX4_voidScansOf) := goodIn_app (goodIn_of _ (by decide +kernel)) ggX4_rollback_X4_voidScansOf
theorem dX4_rollback_0 : decode cX4_rollback 0 = .ok (.aload_n 0, 1) := by decide +kernel
theorem dX4_rollback_1 : decode cX4_rollback 1 = .ok (.invokevirtual 76, 3) := by decide +kernel
theorem dX4_rollback_4 : decode cX4_rollback 4 = .ok (.istore_n 1, 1) := by decide +kernel
theorem dX4_rollback_5 : decode cX4_rollback 5 = .ok (.iload_n 1, 1) := by decide +kernel
theorem dX4_rollback_6 : decode cX4_rollback 6 = .ok (.ifCond .eq 5, 3) := by decide +kernel
theorem dX4_rollback_9 : decode cX4_rollback 9 = .ok (.iload_n 1, 1) := by decide +kernel
theorem dX4_rollback_10 : decode cX4_rollback 10 = .ok (.ireturn, 1) := by decide +kernel
theorem dX4_rollback_11 : decode cX4_rollback 11 = .ok (.aload_n 0, 1) := by decide +kernel
theorem dX4_rollback_12 : decode cX4_rollback 12 = .ok (.getfield 19, 3) := by decide +kernel
theorem dX4_rollback_15 : decode cX4_rollback 15 = .ok (.aload_n 0, 1) := by decide +kernel
theorem dX4_rollback_16 : decode cX4_rollback 16 = .ok (.getfield 10, 3) := by decide +kernel
theorem dX4_rollback_19 : decode cX4_rollback 19 = .ok (.invokevirtual 82, 3) := by decide +kernel
theorem dX4_rollback_22 : decode cX4_rollback 22 = .ok (.aload_n 0, 1) := by decide +kernel
theorem dX4_rollback_23 : decode cX4_rollback 23 = .ok (.iconst 0, 1) := by decide +kernel
theorem dX4_rollback_24 : decode cX4_rollback 24 = .ok (.putfield 43, 3) := by decide +kernel
theorem dX4_rollback_27 : decode cX4_rollback 27 = .ok (.iconst 0, 1) := by decide +kernel
theorem dX4_rollback_28 : decode cX4_rollback 28 = .ok (.istore_n 2, 1) := by decide +kernel
theorem dX4_rollback_29 : decode cX4_rollback 29 = .ok (.iload_n 2, 1) := by decide +kernel
theorem dX4_rollback_30 : decode cX4_rollback 30 = .ok (.iconst 5, 1) := by decide +kernel
theorem dX4_rollback_31 : decode cX4_rollback 31 = .ok (.if_icmp .ge 14, 3) := by decide +kernel
theorem dX4_rollback_34 : decode cX4_rollback 34 = .ok (.aload_n 0, 1) := by decide +kernel
theorem dX4_rollback_35 : decode cX4_rollback 35 = .ok (.iload_n 2, 1) := by decide +kernel
theorem dX4_rollback_36 : decode cX4_rollback 36 = .ok (.invokevirtual 73, 3) := by decide +kernel
theorem dX4_rollback_39 : decode cX4_rollback 39 = .ok (.iinc 2 1, 3) := by decide +kernel
theorem dX4_rollback_42 : decode cX4_rollback 42 = .ok (.goto (-13), 3) := by decide +kernel
theorem dX4_rollback_45 : decode cX4_rollback 45 = .ok (.iconst 0, 1) := by decide +kernel
theorem dX4_rollback_46 : decode cX4_rollback 46 = .ok (.ireturn, 1) := by decide +kernel
set_option maxRecDepth 20000 in
theorem ggX4_stage_X0_powered : GoodIn wsX4_stage wsX0_powered := goodIn_r _ [7, 8, 15, 16, 17, 18] (by decide +kernel) (by decide +kernel)
set_option maxRecDepth 20000 in
theorem gX4_stage_X0_powered : GoodIn wsX4_stage (wsV RX4 53 RX0 yX0_powered wsX0_powered) := goodIn_app (goodIn_of _ (by decide +kernel)) ggX4_stage_X0_powered
theorem dX4_stage_0 : decode cX4_stage 0 = .ok (.aload_n 0, 1) := by decide +kernel
theorem dX4_stage_1 : decode cX4_stage 1 = .ok (.getfield 10, 3) := by decide +kernel
theorem dX4_stage_4 : decode cX4_stage 4 = .ok (.invokevirtual 53, 3) := by decide +kernel
theorem dX4_stage_7 : decode cX4_stage 7 = .ok (.ifCond .ne 5, 3) := by decide +kernel
theorem dX4_stage_10 : decode cX4_stage 10 = .ok (.iconst (-1), 1) := by decide +kernel
theorem dX4_stage_11 : decode cX4_stage 11 = .ok (.ireturn, 1) := by decide +kernel
theorem dX4_stage_12 : decode cX4_stage 12 = .ok (.iload_n 1, 1) := by decide +kernel
theorem dX4_stage_13 : decode cX4_stage 13 = .ok (.ifCond .lt 9, 3) := by decide +kernel
theorem dX4_stage_16 : decode cX4_stage 16 = .ok (.iload_n 1, 1) := by decide +kernel
theorem dX4_stage_17 : decode cX4_stage 17 = .ok (.bipush 6, 2) := by decide +kernel
theorem dX4_stage_19 : decode cX4_stage 19 = .ok (.if_icmp .lt 6, 3) := by decide +kernel
theorem dX4_stage_22 : decode cX4_stage 22 = .ok (.bipush (-4), 2) := by decide +kernel
theorem dX4_stage_24 : decode cX4_stage 24 = .ok (.ireturn, 1) := by decide +kernel
theorem dX4_stage_25 : decode cX4_stage 25 = .ok (.aload_n 0, 1) := by decide +kernel
theorem dX4_stage_26 : decode cX4_stage 26 = .ok (.getfield 39, 3) := by decide +kernel
theorem dX4_stage_29 : decode cX4_stage 29 = .ok (.iload_n 1, 1) := by decide +kernel
theorem dX4_stage_30 : decode cX4_stage 30 = .ok (.iload_n 2, 1) := by decide +kernel
theorem dX4_stage_31 : decode cX4_stage 31 = .ok (.iastore, 1) := by decide +kernel
theorem dX4_stage_32 : decode cX4_stage 32 = .ok (.iconst 0, 1) := by decide +kernel
theorem dX4_stage_33 : decode cX4_stage 33 = .ok (.ireturn, 1) := by decide +kernel
