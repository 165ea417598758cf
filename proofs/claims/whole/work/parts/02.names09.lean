theorem dX5_recover_123 : decode cX5_recover 123 = .ok (.goto (-15), 3) := by decide +kernel
theorem dX5_recover_126 : decode cX5_recover 126 = .ok (.iconst 0, 1) := by decide +kernel
theorem dX5_recover_127 : decode cX5_recover 127 = .ok (.ireturn, 1) := by decide +kernel
set_option maxRecDepth 20000 in
theorem ggX5_format_X5_copyBack : GoodIn wsX5_format wsX5_copyBack := goodIn_r _ [9, 10, 1, 11, 12, 13, 14, 15, 16, 17, 18, 19, 20, 21, 22, 23, 24, 25, 26, 27, 28, 29] (by decide +kernel) (by decide +kernel)
set_option maxRecDepth 20000 in
theorem gX5_format_X5_copyBack : GoodIn wsX5_format (wsV RX5 91 RX5 yX5_copyBack wsX5_copyBack) := goodIn_app (goodIn_of _ (by decide +kernel)) ggX5_format_X5_copyBack
theorem dX5_format_0 : decode cX5_format 0 = .ok (.iconst 0, 1) := by decide +kernel
theorem dX5_format_1 : decode cX5_format 1 = .ok (.istore_n 1, 1) := by decide +kernel
theorem dX5_format_2 : decode cX5_format 2 = .ok (.iload_n 1, 1) := by decide +kernel
theorem dX5_format_3 : decode cX5_format 3 = .ok (.sipush 528, 3) := by decide +kernel
theorem dX5_format_6 : decode cX5_format 6 = .ok (.if_icmp .ge 16, 3) := by decide +kernel
theorem dX5_format_9 : decode cX5_format 9 = .ok (.aload_n 0, 1) := by decide +kernel
theorem dX5_format_10 : decode cX5_format 10 = .ok (.getfield 7, 3) := by decide +kernel
theorem dX5_format_13 : decode cX5_format 13 = .ok (.iload_n 1, 1) := by decide +kernel
theorem dX5_format_14 : decode cX5_format 14 = .ok (.iconst 0, 1) := by decide +kernel
theorem dX5_format_15 : decode cX5_format 15 = .ok (.iastore, 1) := by decide +kernel
theorem dX5_format_16 : decode cX5_format 16 = .ok (.iinc 1 1, 3) := by decide +kernel
theorem dX5_format_19 : decode cX5_format 19 = .ok (.goto (-17), 3) := by decide +kernel
theorem dX5_format_22 : decode cX5_format 22 = .ok (.aload_n 0, 1) := by decide +kernel
theorem dX5_format_23 : decode cX5_format 23 = .ok (.iconst 0, 1) := by decide +kernel
theorem dX5_format_24 : decode cX5_format 24 = .ok (.putfield 51, 3) := by decide +kernel
theorem dX5_format_27 : decode cX5_format 27 = .ok (.aload_n 0, 1) := by decide +kernel
theorem dX5_format_28 : decode cX5_format 28 = .ok (.iconst (-1), 1) := by decide +kernel
theorem dX5_format_29 : decode cX5_format 29 = .ok (.putfield 22, 3) := by decide +kernel
theorem dX5_format_32 : decode cX5_format 32 = .ok (.aload_n 0, 1) := by decide +kernel
theorem dX5_format_33 : decode cX5_format 33 = .ok (.invokevirtual 91, 3) := by decide +kernel
theorem dX5_format_36 : decode cX5_format 36 = .ok (.iconst 0, 1) := by decide +kernel
theorem dX5_format_37 : decode cX5_format 37 = .ok (.istore_n 1, 1) := by decide +kernel
theorem dX5_format_38 : decode cX5_format 38 = .ok (.iload_n 1, 1) := by decide +kernel
theorem dX5_format_39 : decode cX5_format 39 = .ok (.iconst 4, 1) := by decide +kernel
theorem dX5_format_40 : decode cX5_format 40 = .ok (.if_icmp .ge 16, 3) := by decide +kernel
theorem dX5_format_43 : decode cX5_format 43 = .ok (.aload_n 0, 1) := by decide +kernel
theorem dX5_format_44 : decode cX5_format 44 = .ok (.getfield 38, 3) := by decide +kernel
theorem dX5_format_47 : decode cX5_format 47 = .ok (.iload_n 1, 1) := by decide +kernel
theorem dX5_format_48 : decode cX5_format 48 = .ok (.iconst 0, 1) := by decide +kernel
theorem dX5_format_49 : decode cX5_format 49 = .ok (.bastore, 1) := by decide +kernel
theorem dX5_format_50 : decode cX5_format 50 = .ok (.iinc 1 1, 3) := by decide +kernel
theorem dX5_format_53 : decode cX5_format 53 = .ok (.goto (-15), 3) := by decide +kernel
theorem dX5_format_56 : decode cX5_format 56 = .ok (.iconst 0, 1) := by decide +kernel
theorem dX5_format_57 : decode cX5_format 57 = .ok (.ireturn, 1) := by decide +kernel
theorem dX5_crashAfter_0 : decode cX5_crashAfter 0 = .ok (.iload_n 1, 1) := by decide +kernel
theorem dX5_crashAfter_1 : decode cX5_crashAfter 1 = .ok (.ifCond .ge 6, 3) := by decide +kernel
theorem dX5_crashAfter_4 : decode cX5_crashAfter 4 = .ok (.bipush (-4), 2) := by decide +kernel
theorem dX5_crashAfter_6 : decode cX5_crashAfter 6 = .ok (.ireturn, 1) := by decide +kernel
theorem dX5_crashAfter_7 : decode cX5_crashAfter 7 = .ok (.aload_n 0, 1) := by decide +kernel
theorem dX5_crashAfter_8 : decode cX5_crashAfter 8 = .ok (.iload_n 1, 1) := by decide +kernel
theorem dX5_crashAfter_9 : decode cX5_crashAfter 9 = .ok (.putfield 22, 3) := by decide +kernel
theorem dX5_crashAfter_12 : decode cX5_crashAfter 12 = .ok (.iconst 0, 1) := by decide +kernel
theorem dX5_crashAfter_13 : decode cX5_crashAfter 13 = .ok (.ireturn, 1) := by decide +kernel
theorem dX5_peek_0 : decode cX5_peek 0 = .ok (.iload_n 1, 1) := by decide +kernel
theorem dX5_peek_1 : decode cX5_peek 1 = .ok (.ifCond .lt 19, 3) := by decide +kernel
theorem dX5_peek_4 : decode cX5_peek 4 = .ok (.iload_n 1, 1) := by decide +kernel
theorem dX5_peek_5 : decode cX5_peek 5 = .ok (.bipush 32, 2) := by decide +kernel
theorem dX5_peek_7 : decode cX5_peek 7 = .ok (.if_icmp .gt 13, 3) := by decide +kernel
theorem dX5_peek_10 : decode cX5_peek 10 = .ok (.iload_n 2, 1) := by decide +kernel
theorem dX5_peek_11 : decode cX5_peek 11 = .ok (.ifCond .lt 9, 3) := by decide +kernel
theorem dX5_peek_14 : decode cX5_peek 14 = .ok (.iload_n 2, 1) := by decide +kernel
theorem dX5_peek_15 : decode cX5_peek 15 = .ok (.bipush 15, 2) := by decide +kernel
theorem dX5_peek_17 : decode cX5_peek 17 = .ok (.if_icmp .le 8, 3) := by decide +kernel
theorem dX5_peek_20 : decode cX5_peek 20 = .ok (.bipush (-4), 2) := by decide +kernel
theorem dX5_peek_22 : decode cX5_peek 22 = .ok (.goto 14, 3) := by decide +kernel
theorem dX5_peek_25 : decode cX5_peek 25 = .ok (.aload_n 0, 1) := by decide +kernel
theorem dX5_peek_26 : decode cX5_peek 26 = .ok (.getfield 7, 3) := by decide +kernel
theorem dX5_peek_29 : decode cX5_peek 29 = .ok (.bipush 16, 2) := by decide +kernel
theorem dX5_peek_31 : decode cX5_peek 31 = .ok (.iload_n 1, 1) := by decide +kernel
theorem dX5_peek_32 : decode cX5_peek 32 = .ok (.imul, 1) := by decide +kernel
theorem dX5_peek_33 : decode cX5_peek 33 = .ok (.iload_n 2, 1) := by decide +kernel
theorem dX5_peek_34 : decode cX5_peek 34 = .ok (.iadd, 1) := by decide +kernel
theorem dX5_peek_35 : decode cX5_peek 35 = .ok (.iaload, 1) := by decide +kernel
theorem dX5_peek_36 : decode cX5_peek 36 = .ok (.ireturn, 1) := by decide +kernel
theorem dX5_writes_0 : decode cX5_writes 0 = .ok (.aload_n 0, 1) := by decide +kernel
theorem dX5_writes_1 : decode cX5_writes 1 = .ok (.getfield 55, 3) := by decide +kernel
theorem dX5_writes_4 : decode cX5_writes 4 = .ok (.ireturn, 1) := by decide +kernel
theorem dX5_begin_0 : decode cX5_begin 0 = .ok (.aload_n 0, 1) := by decide +kernel
theorem dX5_begin_1 : decode cX5_begin 1 = .ok (.getfield 51, 3) := by decide +kernel
theorem dX5_begin_4 : decode cX5_begin 4 = .ok (.ifCond .eq 5, 3) := by decide +kernel
theorem dX5_begin_7 : decode cX5_begin 7 = .ok (.iconst (-1), 1) := by decide +kernel
theorem dX5_begin_8 : decode cX5_begin 8 = .ok (.ireturn, 1) := by decide +kernel
theorem dX5_begin_9 : decode cX5_begin 9 = .ok (.aload_n 0, 1) := by decide +kernel
theorem dX5_begin_10 : decode cX5_begin 10 = .ok (.getfield 66, 3) := by decide +kernel
theorem dX5_begin_13 : decode cX5_begin 13 = .ok (.ifCond .eq 6, 3) := by decide +kernel
theorem dX5_begin_16 : decode cX5_begin 16 = .ok (.bipush (-3), 2) := by decide +kernel
theorem dX5_begin_18 : decode cX5_begin 18 = .ok (.ireturn, 1) := by decide +kernel
theorem dX5_begin_19 : decode cX5_begin 19 = .ok (.aload_n 0, 1) := by decide +kernel
theorem dX5_begin_20 : decode cX5_begin 20 = .ok (.iconst 1, 1) := by decide +kernel
theorem dX5_begin_21 : decode cX5_begin 21 = .ok (.putfield 66, 3) := by decide +kernel
theorem dX5_begin_24 : decode cX5_begin 24 = .ok (.iconst 0, 1) := by decide +kernel
theorem dX5_begin_25 : decode cX5_begin 25 = .ok (.ireturn, 1) := by decide +kernel
set_option maxRecDepth 20000 in
theorem ggX5_rollback_X5_copyBack : GoodIn wsX5_rollback wsX5_copyBack := goodIn_r _ [8, 9, 10, 2, 11, 12, 13, 14, 15, 16, 17, 18, 19, 20, 21, 22, 23, 24, 25, 26, 27, 28] (by decide +kernel) (by decide +kernel)
set_option maxRecDepth 20000 in
theorem gX5_rollback_X5_copyBack : GoodIn wsX5_rollback (wsV RX5 91 RX5 yX5_copyBack wsX5_copyBack) := goodIn_app (goodIn_of _ (by decide +kernel)) ggX5_rollback_X5_copyBack
theorem dX5_rollback_0 : decode cX5_rollback 0 = .ok (.aload_n 0, 1) := by decide +kernel
theorem dX5_rollback_1 : decode cX5_rollback 1 = .ok (.getfield 51, 3) := by decide +kernel
theorem dX5_rollback_4 : decode cX5_rollback 4 = .ok (.ifCond .eq 5, 3) := by decide +kernel
theorem dX5_rollback_7 : decode cX5_rollback 7 = .ok (.iconst (-1), 1) := by decide +kernel
theorem dX5_rollback_8 : decode cX5_rollback 8 = .ok (.ireturn, 1) := by decide +kernel
theorem dX5_rollback_9 : decode cX5_rollback 9 = .ok (.aload_n 0, 1) := by decide +kernel
theorem dX5_rollback_10 : decode cX5_rollback 10 = .ok (.getfield 66, 3) := by decide +kernel
theorem dX5_rollback_13 : decode cX5_rollback 13 = .ok (.ifCond .ne 6, 3) := by decide +kernel
theorem dX5_rollback_16 : decode cX5_rollback 16 = .ok (.bipush (-2), 2) := by decide +kernel
theorem dX5_rollback_18 : decode cX5_rollback 18 = .ok (.ireturn, 1) := by decide +kernel
theorem dX5_rollback_19 : decode cX5_rollback 19 = .ok (.aload_n 0, 1) := by decide +kernel
theorem dX5_rollback_20 : decode cX5_rollback 20 = .ok (.invokevirtual 91, 3) := by decide +kernel
theorem dX5_rollback_23 : decode cX5_rollback 23 = .ok (.iconst 0, 1) := by decide +kernel
theorem dX5_rollback_24 : decode cX5_rollback 24 = .ok (.istore_n 1, 1) := by decide +kernel
theorem dX5_rollback_25 : decode cX5_rollback 25 = .ok (.iload_n 1, 1) := by decide +kernel
theorem dX5_rollback_26 : decode cX5_rollback 26 = .ok (.iconst 4, 1) := by decide +kernel
theorem dX5_rollback_27 : decode cX5_rollback 27 = .ok (.if_icmp .ge 16, 3) := by decide +kernel
theorem dX5_rollback_30 : decode cX5_rollback 30 = .ok (.aload_n 0, 1) := by decide +kernel
theorem dX5_rollback_31 : decode cX5_rollback 31 = .ok (.getfield 42, 3) := by decide +kernel
theorem dX5_rollback_34 : decode cX5_rollback 34 = .ok (.iload_n 1, 1) := by decide +kernel
theorem dX5_rollback_35 : decode cX5_rollback 35 = .ok (.iconst 1, 1) := by decide +kernel
theorem dX5_rollback_36 : decode cX5_rollback 36 = .ok (.bastore, 1) := by decide +kernel
theorem dX5_rollback_37 : decode cX5_rollback 37 = .ok (.iinc 1 1, 3) := by decide +kernel
theorem dX5_rollback_40 : decode cX5_rollback 40 = .ok (.goto (-15), 3) := by decide +kernel
theorem dX5_rollback_43 : decode cX5_rollback 43 = .ok (.iconst 0, 1) := by decide +kernel
theorem dX5_rollback_44 : decode cX5_rollback 44 = .ok (.ireturn, 1) := by decide +kernel
theorem dX5_noTable_0 : decode cX5_noTable 0 = .ok (.iload_n 1, 1) := by decide +kernel
theorem dX5_noTable_1 : decode cX5_noTable 1 = .ok (.ifCond .lt 17, 3) := by decide +kernel
theorem dX5_noTable_4 : decode cX5_noTable 4 = .ok (.iload_n 1, 1) := by decide +kernel
theorem dX5_noTable_5 : decode cX5_noTable 5 = .ok (.iconst 4, 1) := by decide +kernel
theorem dX5_noTable_6 : decode cX5_noTable 6 = .ok (.if_icmp .gt 12, 3) := by decide +kernel
theorem dX5_noTable_9 : decode cX5_noTable 9 = .ok (.aload_n 0, 1) := by decide +kernel
theorem dX5_noTable_10 : decode cX5_noTable 10 = .ok (.getfield 13, 3) := by decide +kernel
theorem dX5_noTable_13 : decode cX5_noTable 13 = .ok (.iload_n 1, 1) := by decide +kernel
theorem dX5_noTable_14 : decode cX5_noTable 14 = .ok (.iaload, 1) := by decide +kernel
theorem dX5_noTable_15 : decode cX5_noTable 15 = .ok (.ifCond .ne 7, 3) := by decide +kernel
theorem dX5_noTable_18 : decode cX5_noTable 18 = .ok (.iconst 1, 1) := by decide +kernel
theorem dX5_noTable_19 : decode cX5_noTable 19 = .ok (.goto 4, 3) := by decide +kernel
theorem dX5_noTable_22 : decode cX5_noTable 22 = .ok (.iconst 0, 1) := by decide +kernel
theorem dX5_noTable_23 : decode cX5_noTable 23 = .ok (.ireturn, 1) := by decide +kernel
theorem dX5_slots_0 : decode cX5_slots 0 = .ok (.bipush 13, 2) := by decide +kernel
theorem dX5_slots_2 : decode cX5_slots 2 = .ok (.aload_n 0, 1) := by decide +kernel
theorem dX5_slots_3 : decode cX5_slots 3 = .ok (.getfield 13, 3) := by decide +kernel
theorem dX5_slots_6 : decode cX5_slots 6 = .ok (.iload_n 1, 1) := by decide +kernel
theorem dX5_slots_7 : decode cX5_slots 7 = .ok (.iaload, 1) := by decide +kernel
theorem dX5_slots_8 : decode cX5_slots 8 = .ok (.idiv, 1) := by decide +kernel
theorem dX5_slots_9 : decode cX5_slots 9 = .ok (.ireturn, 1) := by decide +kernel
theorem dX5_change_0 : decode cX5_change 0 = .ok (.iconst 0, 1) := by decide +kernel
theorem dX5_change_1 : decode cX5_change 1 = .ok (.istore_n 2, 1) := by decide +kernel
theorem dX5_change_2 : decode cX5_change 2 = .ok (.iload_n 2, 1) := by decide +kernel
theorem dX5_change_3 : decode cX5_change 3 = .ok (.iconst 4, 1) := by decide +kernel
theorem dX5_change_4 : decode cX5_change 4 = .ok (.if_icmp .ge 39, 3) := by decide +kernel
theorem dX5_change_7 : decode cX5_change 7 = .ok (.aload_n 0, 1) := by decide +kernel
theorem dX5_change_8 : decode cX5_change 8 = .ok (.getfield 42, 3) := by decide +kernel
theorem dX5_change_11 : decode cX5_change 11 = .ok (.iload_n 2, 1) := by decide +kernel
theorem dX5_change_12 : decode cX5_change 12 = .ok (.aload_n 0, 1) := by decide +kernel
theorem dX5_change_13 : decode cX5_change 13 = .ok (.getfield 42, 3) := by decide +kernel
theorem dX5_change_16 : decode cX5_change 16 = .ok (.iload_n 2, 1) := by decide +kernel
theorem dX5_change_17 : decode cX5_change 17 = .ok (.baload, 1) := by decide +kernel
theorem dX5_change_18 : decode cX5_change 18 = .ok (.ifCond .ne 13, 3) := by decide +kernel
theorem dX5_change_21 : decode cX5_change 21 = .ok (.aload_n 0, 1) := by decide +kernel
theorem dX5_change_22 : decode cX5_change 22 = .ok (.getfield 26, 3) := by decide +kernel
theorem dX5_change_25 : decode cX5_change 25 = .ok (.iload_n 2, 1) := by decide +kernel
theorem dX5_change_26 : decode cX5_change 26 = .ok (.iaload, 1) := by decide +kernel
theorem dX5_change_27 : decode cX5_change 27 = .ok (.iload_n 1, 1) := by decide +kernel
theorem dX5_change_28 : decode cX5_change 28 = .ok (.if_icmp .ne 7, 3) := by decide +kernel
theorem dX5_change_31 : decode cX5_change 31 = .ok (.iconst 1, 1) := by decide +kernel
theorem dX5_change_32 : decode cX5_change 32 = .ok (.goto 4, 3) := by decide +kernel
theorem dX5_change_35 : decode cX5_change 35 = .ok (.iconst 0, 1) := by decide +kernel
theorem dX5_change_36 : decode cX5_change 36 = .ok (.bastore, 1) := by decide +kernel
theorem dX5_change_37 : decode cX5_change 37 = .ok (.iinc 2 1, 3) := by decide +kernel
theorem dX5_change_40 : decode cX5_change 40 = .ok (.goto (-38), 3) := by decide +kernel
theorem dX5_change_43 : decode cX5_change 43 = .ok (.return_, 1) := by decide +kernel
theorem dX5_clearPage_0 : decode cX5_clearPage 0 = .ok (.iconst 0, 1) := by decide +kernel
theorem dX5_clearPage_1 : decode cX5_clearPage 1 = .ok (.istore_n 2, 1) := by decide +kernel
theorem dX5_clearPage_2 : decode cX5_clearPage 2 = .ok (.iload_n 2, 1) := by decide +kernel
theorem dX5_clearPage_3 : decode cX5_clearPage 3 = .ok (.bipush 16, 2) := by decide +kernel
theorem dX5_clearPage_5 : decode cX5_clearPage 5 = .ok (.if_icmp .ge 21, 3) := by decide +kernel
theorem dX5_clearPage_8 : decode cX5_clearPage 8 = .ok (.aload_n 0, 1) := by decide +kernel
theorem dX5_clearPage_9 : decode cX5_clearPage 9 = .ok (.getfield 13, 3) := by decide +kernel
theorem dX5_clearPage_12 : decode cX5_clearPage 12 = .ok (.bipush 16, 2) := by decide +kernel
theorem dX5_clearPage_14 : decode cX5_clearPage 14 = .ok (.iload_n 1, 1) := by decide +kernel
theorem dX5_clearPage_15 : decode cX5_clearPage 15 = .ok (.imul, 1) := by decide +kernel
theorem dX5_clearPage_16 : decode cX5_clearPage 16 = .ok (.iload_n 2, 1) := by decide +kernel
theorem dX5_clearPage_17 : decode cX5_clearPage 17 = .ok (.iadd, 1) := by decide +kernel
theorem dX5_clearPage_18 : decode cX5_clearPage 18 = .ok (.iconst 0, 1) := by decide +kernel
theorem dX5_clearPage_19 : decode cX5_clearPage 19 = .ok (.iastore, 1) := by decide +kernel
theorem dX5_clearPage_20 : decode cX5_clearPage 20 = .ok (.iinc 2 1, 3) := by decide +kernel
theorem dX5_clearPage_23 : decode cX5_clearPage 23 = .ok (.goto (-21), 3) := by decide +kernel
theorem dX5_clearPage_26 : decode cX5_clearPage 26 = .ok (.return_, 1) := by decide +kernel
theorem dX5_createTable_0 : decode cX5_createTable 0 = .ok (.aload_n 0, 1) := by decide +kernel
theorem dX5_createTable_1 : decode cX5_createTable 1 = .ok (.getfield 51, 3) := by decide +kernel
theorem dX5_createTable_4 : decode cX5_createTable 4 = .ok (.ifCond .eq 5, 3) := by decide +kernel
theorem dX5_createTable_7 : decode cX5_createTable 7 = .ok (.iconst (-1), 1) := by decide +kernel
theorem dX5_createTable_8 : decode cX5_createTable 8 = .ok (.ireturn, 1) := by decide +kernel
theorem dX5_createTable_9 : decode cX5_createTable 9 = .ok (.iload_n 1, 1) := by decide +kernel
theorem dX5_createTable_10 : decode cX5_createTable 10 = .ok (.iconst 2, 1) := by decide +kernel
theorem dX5_createTable_11 : decode cX5_createTable 11 = .ok (.if_icmp .lt 9, 3) := by decide +kernel
theorem dX5_createTable_14 : decode cX5_createTable 14 = .ok (.iload_n 1, 1) := by decide +kernel
theorem dX5_createTable_15 : decode cX5_createTable 15 = .ok (.bipush 6, 2) := by decide +kernel
theorem dX5_createTable_17 : decode cX5_createTable 17 = .ok (.if_icmp .le 6, 3) := by decide +kernel
theorem dX5_createTable_20 : decode cX5_createTable 20 = .ok (.bipush (-4), 2) := by decide +kernel
theorem dX5_createTable_22 : decode cX5_createTable 22 = .ok (.ireturn, 1) := by decide +kernel
theorem dX5_createTable_23 : decode cX5_createTable 23 = .ok (.aload_n 0, 1) := by decide +kernel
theorem dX5_createTable_24 : decode cX5_createTable 24 = .ok (.getfield 66, 3) := by decide +kernel
theorem dX5_createTable_27 : decode cX5_createTable 27 = .ok (.ifCond .ne 6, 3) := by decide +kernel
theorem dX5_createTable_30 : decode cX5_createTable 30 = .ok (.bipush (-2), 2) := by decide +kernel
theorem dX5_createTable_32 : decode cX5_createTable 32 = .ok (.ireturn, 1) := by decide +kernel
theorem dX5_createTable_33 : decode cX5_createTable 33 = .ok (.iconst 0, 1) := by decide +kernel
theorem dX5_createTable_34 : decode cX5_createTable 34 = .ok (.istore_n 2, 1) := by decide +kernel
theorem dX5_createTable_35 : decode cX5_createTable 35 = .ok (.iload_n 2, 1) := by decide +kernel
theorem dX5_createTable_36 : decode cX5_createTable 36 = .ok (.iconst 5, 1) := by decide +kernel
theorem dX5_createTable_37 : decode cX5_createTable 37 = .ok (.if_icmp .ge 18, 3) := by decide +kernel
theorem dX5_createTable_40 : decode cX5_createTable 40 = .ok (.aload_n 0, 1) := by decide +kernel
theorem dX5_createTable_41 : decode cX5_createTable 41 = .ok (.getfield 13, 3) := by decide +kernel
theorem dX5_createTable_44 : decode cX5_createTable 44 = .ok (.iload_n 2, 1) := by decide +kernel
theorem dX5_createTable_45 : decode cX5_createTable 45 = .ok (.iaload, 1) := by decide +kernel
theorem dX5_createTable_46 : decode cX5_createTable 46 = .ok (.ifCond .eq 9, 3) := by decide +kernel
theorem dX5_createTable_49 : decode cX5_createTable 49 = .ok (.iinc 2 1, 3) := by decide +kernel
theorem dX5_createTable_52 : decode cX5_createTable 52 = .ok (.goto (-17), 3) := by decide +kernel
theorem dX5_createTable_55 : decode cX5_createTable 55 = .ok (.iload_n 2, 1) := by decide +kernel
theorem dX5_createTable_56 : decode cX5_createTable 56 = .ok (.iconst 5, 1) := by decide +kernel
theorem dX5_createTable_57 : decode cX5_createTable 57 = .ok (.if_icmp .ne 6, 3) := by decide +kernel
theorem dX5_createTable_60 : decode cX5_createTable 60 = .ok (.bipush (-8), 2) := by decide +kernel
theorem dX5_createTable_62 : decode cX5_createTable 62 = .ok (.ireturn, 1) := by decide +kernel
theorem dX5_createTable_63 : decode cX5_createTable 63 = .ok (.aload_n 0, 1) := by decide +kernel
theorem dX5_createTable_64 : decode cX5_createTable 64 = .ok (.getfield 13, 3) := by decide +kernel
theorem dX5_createTable_67 : decode cX5_createTable 67 = .ok (.iload_n 2, 1) := by decide +kernel
theorem dX5_createTable_68 : decode cX5_createTable 68 = .ok (.iload_n 1, 1) := by decide +kernel
theorem dX5_createTable_69 : decode cX5_createTable 69 = .ok (.iastore, 1) := by decide +kernel
theorem dX5_createTable_70 : decode cX5_createTable 70 = .ok (.iload_n 2, 1) := by decide +kernel
theorem dX5_createTable_71 : decode cX5_createTable 71 = .ok (.ireturn, 1) := by decide +kernel
set_option maxRecDepth 20000 in
theorem ggX5_dropTable_X5_noTable : GoodIn wsX5_dropTable wsX5_noTable := goodIn_r _ [8, 3, 19, 20, 21, 22, 23, 24, 25, 26, 27, 28, 29, 30, 31, 32, 33, 34, 35, 36] (by decide +kernel) (by decide +kernel)
set_option maxRecDepth 20000 in
theorem gX5_dropTable_X5_noTable : GoodIn wsX5_dropTable (wsV RX5 94 RX5 yX5_noTable wsX5_noTable) := goodIn_app (goodIn_of _ (by decide +kernel)) ggX5_dropTable_X5_noTable
set_option maxRecDepth 20000 in
theorem ggX5_dropTable_X5_clearPage : GoodIn wsX5_dropTable wsX5_clearPage := goodIn_r _ [12, 3, 19, 20, 21, 22, 23, 24, 25, 26, 27, 28, 29, 30, 31, 32, 33, 34, 35, 36] (by decide +kernel) (by decide +kernel)
set_option maxRecDepth 20000 in
theorem gX5_dropTable_X5_clearPage : GoodIn wsX5_dropTable (wsV RX5 97 RX5 yX5_clearPage wsX5_clearPage) := goodIn_app (goodIn_of _ (by decide +kernel)) ggX5_dropTable_X5_clearPage
set_option maxRecDepth 20000 in
theorem ggX5_dropTable_X5_change : GoodIn wsX5_dropTable wsX5_change := goodIn_r _ [16, 17, 18, 19, 20, 21, 22, 23, 24, 25, 26, 27, 28, 29, 30, 31, 32, 33, 34, 35, 36] (by decide +kernel) (by decide +kernel)
set_option maxRecDepth 20000 in
theorem gX5_dropTable_X5_change : GoodIn wsX5_dropTable (wsV RX5 101 RX5 yX5_change wsX5_change) := goodIn_app (goodIn_of _ (by decide +kernel)) ggX5_dropTable_X5_change
theorem dX5_dropTable_0 : decode cX5_dropTable 0 = .ok (.aload_n 0, 1) := by decide +kernel
theorem dX5_dropTable_1 : decode cX5_dropTable 1 = .ok (.getfield 51, 3) := by decide +kernel
theorem dX5_dropTable_4 : decode cX5_dropTable 4 = .ok (.ifCond .eq 5, 3) := by decide +kernel
theorem dX5_dropTable_7 : decode cX5_dropTable 7 = .ok (.iconst (-1), 1) := by decide +kernel
theorem dX5_dropTable_8 : decode cX5_dropTable 8 = .ok (.ireturn, 1) := by decide +kernel
theorem dX5_dropTable_9 : decode cX5_dropTable 9 = .ok (.aload_n 0, 1) := by decide +kernel
theorem dX5_dropTable_10 : decode cX5_dropTable 10 = .ok (.getfield 66, 3) := by decide +kernel
theorem dX5_dropTable_13 : decode cX5_dropTable 13 = .ok (.ifCond .ne 6, 3) := by decide +kernel
theorem dX5_dropTable_16 : decode cX5_dropTable 16 = .ok (.bipush (-2), 2) := by decide +kernel
theorem dX5_dropTable_18 : decode cX5_dropTable 18 = .ok (.ireturn, 1) := by decide +kernel
theorem dX5_dropTable_19 : decode cX5_dropTable 19 = .ok (.aload_n 0, 1) := by decide +kernel
theorem dX5_dropTable_20 : decode cX5_dropTable 20 = .ok (.iload_n 1, 1) := by decide +kernel
theorem dX5_dropTable_21 : decode cX5_dropTable 21 = .ok (.invokevirtual 94, 3) := by decide +kernel
theorem dX5_dropTable_24 : decode cX5_dropTable 24 = .ok (.ifCond .eq 6, 3) := by decide +kernel
theorem dX5_dropTable_27 : decode cX5_dropTable 27 = .ok (.bipush (-5), 2) := by decide +kernel
theorem dX5_dropTable_29 : decode cX5_dropTable 29 = .ok (.ireturn, 1) := by decide +kernel
theorem dX5_dropTable_30 : decode cX5_dropTable 30 = .ok (.iconst 1, 1) := by decide +kernel
theorem dX5_dropTable_31 : decode cX5_dropTable 31 = .ok (.istore_n 2, 1) := by decide +kernel
theorem dX5_dropTable_32 : decode cX5_dropTable 32 = .ok (.iload_n 2, 1) := by decide +kernel
theorem dX5_dropTable_33 : decode cX5_dropTable 33 = .ok (.bipush 16, 2) := by decide +kernel
theorem dX5_dropTable_35 : decode cX5_dropTable 35 = .ok (.if_icmp .ge 29, 3) := by decide +kernel
theorem dX5_dropTable_38 : decode cX5_dropTable 38 = .ok (.aload_n 0, 1) := by decide +kernel
theorem dX5_dropTable_39 : decode cX5_dropTable 39 = .ok (.getfield 13, 3) := by decide +kernel
theorem dX5_dropTable_42 : decode cX5_dropTable 42 = .ok (.bipush 16, 2) := by decide +kernel
theorem dX5_dropTable_44 : decode cX5_dropTable 44 = .ok (.iload_n 2, 1) := by decide +kernel
theorem dX5_dropTable_45 : decode cX5_dropTable 45 = .ok (.imul, 1) := by decide +kernel
theorem dX5_dropTable_46 : decode cX5_dropTable 46 = .ok (.iaload, 1) := by decide +kernel
theorem dX5_dropTable_47 : decode cX5_dropTable 47 = .ok (.iload_n 1, 1) := by decide +kernel
theorem dX5_dropTable_48 : decode cX5_dropTable 48 = .ok (.iconst 1, 1) := by decide +kernel
theorem dX5_dropTable_49 : decode cX5_dropTable 49 = .ok (.iadd, 1) := by decide +kernel
theorem dX5_dropTable_50 : decode cX5_dropTable 50 = .ok (.if_icmp .ne 8, 3) := by decide +kernel
theorem dX5_dropTable_53 : decode cX5_dropTable 53 = .ok (.aload_n 0, 1) := by decide +kernel
theorem dX5_dropTable_54 : decode cX5_dropTable 54 = .ok (.iload_n 2, 1) := by decide +kernel
theorem dX5_dropTable_55 : decode cX5_dropTable 55 = .ok (.invokevirtual 97, 3) := by decide +kernel
theorem dX5_dropTable_58 : decode cX5_dropTable 58 = .ok (.iinc 2 1, 3) := by decide +kernel
theorem dX5_dropTable_61 : decode cX5_dropTable 61 = .ok (.goto (-29), 3) := by decide +kernel
theorem dX5_dropTable_64 : decode cX5_dropTable 64 = .ok (.aload_n 0, 1) := by decide +kernel
theorem dX5_dropTable_65 : decode cX5_dropTable 65 = .ok (.getfield 13, 3) := by decide +kernel
theorem dX5_dropTable_68 : decode cX5_dropTable 68 = .ok (.iload_n 1, 1) := by decide +kernel
theorem dX5_dropTable_69 : decode cX5_dropTable 69 = .ok (.iconst 0, 1) := by decide +kernel
theorem dX5_dropTable_70 : decode cX5_dropTable 70 = .ok (.iastore, 1) := by decide +kernel
theorem dX5_dropTable_71 : decode cX5_dropTable 71 = .ok (.aload_n 0, 1) := by decide +kernel
theorem dX5_dropTable_72 : decode cX5_dropTable 72 = .ok (.getfield 13, 3) := by decide +kernel
theorem dX5_dropTable_75 : decode cX5_dropTable 75 = .ok (.bipush 8, 2) := by decide +kernel
theorem dX5_dropTable_77 : decode cX5_dropTable 77 = .ok (.iload_n 1, 1) := by decide +kernel
theorem dX5_dropTable_78 : decode cX5_dropTable 78 = .ok (.iadd, 1) := by decide +kernel
theorem dX5_dropTable_79 : decode cX5_dropTable 79 = .ok (.iconst 0, 1) := by decide +kernel
theorem dX5_dropTable_80 : decode cX5_dropTable 80 = .ok (.iastore, 1) := by decide +kernel
theorem dX5_dropTable_81 : decode cX5_dropTable 81 = .ok (.aload_n 0, 1) := by decide +kernel
theorem dX5_dropTable_82 : decode cX5_dropTable 82 = .ok (.iload_n 1, 1) := by decide +kernel
theorem dX5_dropTable_83 : decode cX5_dropTable 83 = .ok (.invokevirtual 101, 3) := by decide +kernel
theorem dX5_dropTable_86 : decode cX5_dropTable 86 = .ok (.iconst 0, 1) := by decide +kernel
theorem dX5_dropTable_87 : decode cX5_dropTable 87 = .ok (.ireturn, 1) := by decide +kernel
theorem dX5_stage_0 : decode cX5_stage 0 = .ok (.aload_n 0, 1) := by decide +kernel
theorem dX5_stage_1 : decode cX5_stage 1 = .ok (.getfield 51, 3) := by decide +kernel
theorem dX5_stage_4 : decode cX5_stage 4 = .ok (.ifCond .eq 5, 3) := by decide +kernel
theorem dX5_stage_7 : decode cX5_stage 7 = .ok (.iconst (-1), 1) := by decide +kernel
theorem dX5_stage_8 : decode cX5_stage 8 = .ok (.ireturn, 1) := by decide +kernel
theorem dX5_stage_9 : decode cX5_stage 9 = .ok (.iload_n 1, 1) := by decide +kernel
theorem dX5_stage_10 : decode cX5_stage 10 = .ok (.ifCond .lt 8, 3) := by decide +kernel
theorem dX5_stage_13 : decode cX5_stage 13 = .ok (.iload_n 1, 1) := by decide +kernel
theorem dX5_stage_14 : decode cX5_stage 14 = .ok (.iconst 5, 1) := by decide +kernel
theorem dX5_stage_15 : decode cX5_stage 15 = .ok (.if_icmp .le 6, 3) := by decide +kernel
theorem dX5_stage_18 : decode cX5_stage 18 = .ok (.bipush (-4), 2) := by decide +kernel
theorem dX5_stage_20 : decode cX5_stage 20 = .ok (.ireturn, 1) := by decide +kernel
theorem dX5_stage_21 : decode cX5_stage 21 = .ok (.aload_n 0, 1) := by decide +kernel
theorem dX5_stage_22 : decode cX5_stage 22 = .ok (.getfield 19, 3) := by decide +kernel
theorem dX5_stage_25 : decode cX5_stage 25 = .ok (.iload_n 1, 1) := by decide +kernel
theorem dX5_stage_26 : decode cX5_stage 26 = .ok (.iload_n 2, 1) := by decide +kernel
theorem dX5_stage_27 : decode cX5_stage 27 = .ok (.iastore, 1) := by decide +kernel
theorem dX5_stage_28 : decode cX5_stage 28 = .ok (.iconst 0, 1) := by decide +kernel
theorem dX5_stage_29 : decode cX5_stage 29 = .ok (.ireturn, 1) := by decide +kernel
theorem dX5_wordOf_0 : decode cX5_wordOf 0 = .ok (.bipush 16, 2) := by decide +kernel
theorem dX5_wordOf_2 : decode cX5_wordOf 2 = .ok (.iload_n 2, 1) := by decide +kernel
theorem dX5_wordOf_3 : decode cX5_wordOf 3 = .ok (.imul, 1) := by decide +kernel
theorem dX5_wordOf_4 : decode cX5_wordOf 4 = .ok (.iconst 3, 1) := by decide +kernel
theorem dX5_wordOf_5 : decode cX5_wordOf 5 = .ok (.iadd, 1) := by decide +kernel
theorem dX5_wordOf_6 : decode cX5_wordOf 6 = .ok (.aload_n 0, 1) := by decide +kernel
theorem dX5_wordOf_7 : decode cX5_wordOf 7 = .ok (.getfield 13, 3) := by decide +kernel
theorem dX5_wordOf_10 : decode cX5_wordOf 10 = .ok (.iload_n 1, 1) := by decide +kernel
theorem dX5_wordOf_11 : decode cX5_wordOf 11 = .ok (.iaload, 1) := by decide +kernel
theorem dX5_wordOf_12 : decode cX5_wordOf 12 = .ok (.iload_n 3, 1) := by decide +kernel
theorem dX5_wordOf_13 : decode cX5_wordOf 13 = .ok (.imul, 1) := by decide +kernel
theorem dX5_wordOf_14 : decode cX5_wordOf 14 = .ok (.iadd, 1) := by decide +kernel
theorem dX5_wordOf_15 : decode cX5_wordOf 15 = .ok (.ireturn, 1) := by decide +kernel
theorem dX5_filled_0 : decode cX5_filled 0 = .ok (.aload_n 0, 1) := by decide +kernel
theorem dX5_filled_1 : decode cX5_filled 1 = .ok (.getfield 13, 3) := by decide +kernel
theorem dX5_filled_4 : decode cX5_filled 4 = .ok (.bipush 16, 2) := by decide +kernel
theorem dX5_filled_6 : decode cX5_filled 6 = .ok (.iload_n 1, 1) := by decide +kernel
theorem dX5_filled_7 : decode cX5_filled 7 = .ok (.imul, 1) := by decide +kernel
theorem dX5_filled_8 : decode cX5_filled 8 = .ok (.iconst 2, 1) := by decide +kernel
theorem dX5_filled_9 : decode cX5_filled 9 = .ok (.iadd, 1) := by decide +kernel
theorem dX5_filled_10 : decode cX5_filled 10 = .ok (.iaload, 1) := by decide +kernel
theorem dX5_filled_11 : decode cX5_filled 11 = .ok (.iload_n 2, 1) := by decide +kernel
theorem dX5_filled_12 : decode cX5_filled 12 = .ok (.ishr, 1) := by decide +kernel
theorem dX5_filled_13 : decode cX5_filled 13 = .ok (.iconst 1, 1) := by decide +kernel
theorem dX5_filled_14 : decode cX5_filled 14 = .ok (.iand, 1) := by decide +kernel
theorem dX5_filled_15 : decode cX5_filled 15 = .ok (.iconst 1, 1) := by decide +kernel
theorem dX5_filled_16 : decode cX5_filled 16 = .ok (.if_icmp .ne 7, 3) := by decide +kernel
theorem dX5_filled_19 : decode cX5_filled 19 = .ok (.iconst 1, 1) := by decide +kernel
theorem dX5_filled_20 : decode cX5_filled 20 = .ok (.goto 4, 3) := by decide +kernel
theorem dX5_filled_23 : decode cX5_filled 23 = .ok (.iconst 0, 1) := by decide +kernel
theorem dX5_filled_24 : decode cX5_filled 24 = .ok (.ireturn, 1) := by decide +kernel
set_option maxRecDepth 20000 in
theorem ggX5_seek_X5_slots : GoodIn wsX5_seek wsX5_slots := goodIn_r _ [8, 1, 17, 18, 19, 20, 21, 22, 23, 24, 25, 26, 27, 28, 29, 30, 31, 32, 33, 34] (by decide +kernel) (by decide +kernel)
set_option maxRecDepth 20000 in
theorem gX5_seek_X5_slots : GoodIn wsX5_seek (wsV RX5 104 RX5 yX5_slots wsX5_slots) := goodIn_app (goodIn_of _ (by decide +kernel)) ggX5_seek_X5_slots
set_option maxRecDepth 20000 in
theorem ggX5_seek_X5_filled : GoodIn wsX5_seek wsX5_filled := goodIn_r _ [12, 1, 17, 18, 19, 20, 21, 22, 23, 24, 25, 26, 27, 28, 29, 30, 31, 32, 33, 34] (by decide +kernel) (by decide +kernel)
set_option maxRecDepth 20000 in
theorem gX5_seek_X5_filled : GoodIn wsX5_seek (wsV RX5 107 RX5 yX5_filled wsX5_filled) := goodIn_app (goodIn_of _ (by decide +kernel)) ggX5_seek_X5_filled
set_option maxRecDepth 20000 in
theorem ggX5_seek_X5_wordOf : GoodIn wsX5_seek wsX5_wordOf := goodIn_r _ [16, 1, 17, 18, 19, 20, 21, 22, 23, 24, 25, 26, 27, 28, 29, 30, 31, 32, 33, 34] (by decide +kernel) (by decide +kernel)
set_option maxRecDepth 20000 in
theorem gX5_seek_X5_wordOf : GoodIn wsX5_seek (wsV RX5 110 RX5 yX5_wordOf wsX5_wordOf) := goodIn_app (goodIn_of _ (by decide +kernel)) ggX5_seek_X5_wordOf
theorem dX5_seek_0 : decode cX5_seek 0 = .ok (.iconst 1, 1) := by decide +kernel
theorem dX5_seek_1 : decode cX5_seek 1 = .ok (.istore_n 3, 1) := by decide +kernel
theorem dX5_seek_2 : decode cX5_seek 2 = .ok (.iload_n 3, 1) := by decide +kernel
theorem dX5_seek_3 : decode cX5_seek 3 = .ok (.bipush 16, 2) := by decide +kernel
theorem dX5_seek_5 : decode cX5_seek 5 = .ok (.if_icmp .ge 90, 3) := by decide +kernel
theorem dX5_seek_8 : decode cX5_seek 8 = .ok (.aload_n 0, 1) := by decide +kernel
theorem dX5_seek_9 : decode cX5_seek 9 = .ok (.getfield 13, 3) := by decide +kernel
theorem dX5_seek_12 : decode cX5_seek 12 = .ok (.bipush 16, 2) := by decide +kernel
theorem dX5_seek_14 : decode cX5_seek 14 = .ok (.iload_n 3, 1) := by decide +kernel
theorem dX5_seek_15 : decode cX5_seek 15 = .ok (.imul, 1) := by decide +kernel
theorem dX5_seek_16 : decode cX5_seek 16 = .ok (.iaload, 1) := by decide +kernel
theorem dX5_seek_17 : decode cX5_seek 17 = .ok (.iload_n 1, 1) := by decide +kernel
theorem dX5_seek_18 : decode cX5_seek 18 = .ok (.iconst 1, 1) := by decide +kernel
theorem dX5_seek_19 : decode cX5_seek 19 = .ok (.iadd, 1) := by decide +kernel
theorem dX5_seek_20 : decode cX5_seek 20 = .ok (.if_icmp .ne 69, 3) := by decide +kernel
theorem dX5_seek_23 : decode cX5_seek 23 = .ok (.iconst 0, 1) := by decide +kernel
theorem dX5_seek_24 : decode cX5_seek 24 = .ok (.istore 4, 2) := by decide +kernel
theorem dX5_seek_26 : decode cX5_seek 26 = .ok (.iload 4, 2) := by decide +kernel
theorem dX5_seek_28 : decode cX5_seek 28 = .ok (.aload_n 0, 1) := by decide +kernel
theorem dX5_seek_29 : decode cX5_seek 29 = .ok (.iload_n 1, 1) := by decide +kernel
theorem dX5_seek_30 : decode cX5_seek 30 = .ok (.invokevirtual 104, 3) := by decide +kernel
theorem dX5_seek_33 : decode cX5_seek 33 = .ok (.if_icmp .ge 56, 3) := by decide +kernel
theorem dX5_seek_36 : decode cX5_seek 36 = .ok (.aload_n 0, 1) := by decide +kernel
theorem dX5_seek_37 : decode cX5_seek 37 = .ok (.iload_n 3, 1) := by decide +kernel
theorem dX5_seek_38 : decode cX5_seek 38 = .ok (.iload 4, 2) := by decide +kernel
theorem dX5_seek_40 : decode cX5_seek 40 = .ok (.invokevirtual 107, 3) := by decide +kernel
theorem dX5_seek_43 : decode cX5_seek 43 = .ok (.ifCond .eq 40, 3) := by decide +kernel
theorem dX5_seek_46 : decode cX5_seek 46 = .ok (.aload_n 0, 1) := by decide +kernel
theorem dX5_seek_47 : decode cX5_seek 47 = .ok (.getfield 13, 3) := by decide +kernel
theorem dX5_seek_50 : decode cX5_seek 50 = .ok (.aload_n 0, 1) := by decide +kernel
theorem dX5_seek_51 : decode cX5_seek 51 = .ok (.iload_n 1, 1) := by decide +kernel
theorem dX5_seek_52 : decode cX5_seek 52 = .ok (.iload_n 3, 1) := by decide +kernel
theorem dX5_seek_53 : decode cX5_seek 53 = .ok (.iload 4, 2) := by decide +kernel
theorem dX5_seek_55 : decode cX5_seek 55 = .ok (.invokevirtual 110, 3) := by decide +kernel
theorem dX5_seek_58 : decode cX5_seek 58 = .ok (.iaload, 1) := by decide +kernel
theorem dX5_seek_59 : decode cX5_seek 59 = .ok (.iload_n 2, 1) := by decide +kernel
theorem dX5_seek_60 : decode cX5_seek 60 = .ok (.if_icmp .ne 23, 3) := by decide +kernel
theorem dX5_seek_63 : decode cX5_seek 63 = .ok (.aload_n 0, 1) := by decide +kernel
theorem dX5_seek_64 : decode cX5_seek 64 = .ok (.iload_n 3, 1) := by decide +kernel
theorem dX5_seek_65 : decode cX5_seek 65 = .ok (.putfield 114, 3) := by decide +kernel
theorem dX5_seek_68 : decode cX5_seek 68 = .ok (.aload_n 0, 1) := by decide +kernel
theorem dX5_seek_69 : decode cX5_seek 69 = .ok (.iload 4, 2) := by decide +kernel
theorem dX5_seek_71 : decode cX5_seek 71 = .ok (.putfield 117, 3) := by decide +kernel
theorem dX5_seek_74 : decode cX5_seek 74 = .ok (.aload_n 0, 1) := by decide +kernel
theorem dX5_seek_75 : decode cX5_seek 75 = .ok (.iload_n 1, 1) := by decide +kernel
theorem dX5_seek_76 : decode cX5_seek 76 = .ok (.iload_n 3, 1) := by decide +kernel
theorem dX5_seek_77 : decode cX5_seek 77 = .ok (.iload 4, 2) := by decide +kernel
theorem dX5_seek_79 : decode cX5_seek 79 = .ok (.invokevirtual 110, 3) := by decide +kernel
