theorem dX4_closeScan_24 : decode cX4_closeScan 24 = .ok (.ireturn, 1) := by decide +kernel
theorem dX4_closeScan_25 : decode cX4_closeScan 25 = .ok (.aload_n 2, 1) := by decide +kernel
theorem dX4_closeScan_26 : decode cX4_closeScan 26 = .ok (.invokevirtual 136, 3) := by decide +kernel
theorem dX4_closeScan_29 : decode cX4_closeScan 29 = .ok (.iconst 0, 1) := by decide +kernel
theorem dX4_closeScan_30 : decode cX4_closeScan 30 = .ok (.ireturn, 1) := by decide +kernel
set_option maxRecDepth 20000 in
theorem ggX4_crashAfter_X0_failAfter : GoodIn wsX4_crashAfter wsX0_failAfter := goodIn_r _ [6, 7, 14, 15, 16, 17] (by decide +kernel) (by decide +kernel)
set_option maxRecDepth 20000 in
theorem gX4_crashAfter_X0_failAfter : GoodIn wsX4_crashAfter (wsV RX4 139 RX0 yX0_failAfter wsX0_failAfter) := goodIn_app (goodIn_of _ (by decide +kernel)) ggX4_crashAfter_X0_failAfter
theorem dX4_crashAfter_0 : decode cX4_crashAfter 0 = .ok (.iload_n 1, 1) := by decide +kernel
theorem dX4_crashAfter_1 : decode cX4_crashAfter 1 = .ok (.ifCond .ge 6, 3) := by decide +kernel
theorem dX4_crashAfter_4 : decode cX4_crashAfter 4 = .ok (.bipush (-4), 2) := by decide +kernel
theorem dX4_crashAfter_6 : decode cX4_crashAfter 6 = .ok (.ireturn, 1) := by decide +kernel
theorem dX4_crashAfter_7 : decode cX4_crashAfter 7 = .ok (.aload_n 0, 1) := by decide +kernel
theorem dX4_crashAfter_8 : decode cX4_crashAfter 8 = .ok (.getfield 10, 3) := by decide +kernel
theorem dX4_crashAfter_11 : decode cX4_crashAfter 11 = .ok (.iload_n 1, 1) := by decide +kernel
theorem dX4_crashAfter_12 : decode cX4_crashAfter 12 = .ok (.invokevirtual 139, 3) := by decide +kernel
theorem dX4_crashAfter_15 : decode cX4_crashAfter 15 = .ok (.iconst 0, 1) := by decide +kernel
theorem dX4_crashAfter_16 : decode cX4_crashAfter 16 = .ok (.ireturn, 1) := by decide +kernel
set_option maxRecDepth 20000 in
theorem ggX4_recover_X0_powerOn : GoodIn wsX4_recover wsX0_powerOn := goodIn_r _ [7, 8, 92, 93, 94, 95] (by decide +kernel) (by decide +kernel)
set_option maxRecDepth 20000 in
theorem gX4_recover_X0_powerOn : GoodIn wsX4_recover (wsV RX4 142 RX0 yX0_powerOn wsX0_powerOn) := goodIn_app (goodIn_of _ (by decide +kernel)) ggX4_recover_X0_powerOn
set_option maxRecDepth 20000 in
theorem ggX4_recover_X1_undo : GoodIn wsX4_recover wsX1_undo := goodIn_r _ [13, 14, 15, 16, 12, 17, 18, 19, 20, 21, 6, 22, 23, 24, 25, 26, 27, 28, 29, 30, 31, 32, 33, 34, 35, 36, 37, 38, 39, 40, 41, 42, 43, 44, 45, 46, 47, 48, 49, 50, 51, 52, 53, 8, 54, 55, 56, 57, 58, 59, 60, 61, 62, 63, 64, 96, 97, 98, 92, 93, 94, 95] (by decide +kernel) (by decide +kernel)
set_option maxRecDepth 20000 in
theorem gX4_recover_X1_undo : GoodIn wsX4_recover (wsV RX4 145 RX1 yX1_undo wsX1_undo) := goodIn_app (goodIn_of _ (by decide +kernel)) ggX4_recover_X1_undo
set_option maxRecDepth 20000 in
theorem ggX4_recover_X4_startAnew : GoodIn wsX4_recover wsX4_startAnew := goodIn_r _ [69, 70, 1, 71, 72, 73, 74, 75, 76, 77, 78, 79, 55, 56, 57, 80, 81, 82, 83, 84, 85, 86, 87, 88, 89, 90, 91, 92, 93, 94, 95, 99, 100, 101, 102, 103, 104, 105, 106, 107] (by decide +kernel) (by decide +kernel)
set_option maxRecDepth 20000 in
theorem gX4_recover_X4_startAnew : GoodIn wsX4_recover (wsV RX4 50 RX4 yX4_startAnew wsX4_startAnew) := goodIn_app (goodIn_of _ (by decide +kernel)) ggX4_recover_X4_startAnew
theorem dX4_recover_0 : decode cX4_recover 0 = .ok (.aload_n 0, 1) := by decide +kernel
theorem dX4_recover_1 : decode cX4_recover 1 = .ok (.getfield 10, 3) := by decide +kernel
theorem dX4_recover_4 : decode cX4_recover 4 = .ok (.invokevirtual 142, 3) := by decide +kernel
theorem dX4_recover_7 : decode cX4_recover 7 = .ok (.aload_n 0, 1) := by decide +kernel
theorem dX4_recover_8 : decode cX4_recover 8 = .ok (.getfield 28, 3) := by decide +kernel
theorem dX4_recover_11 : decode cX4_recover 11 = .ok (.invokevirtual 145, 3) := by decide +kernel
theorem dX4_recover_14 : decode cX4_recover 14 = .ok (.ifCond .ne 5, 3) := by decide +kernel
theorem dX4_recover_17 : decode cX4_recover 17 = .ok (.iconst (-1), 1) := by decide +kernel
theorem dX4_recover_18 : decode cX4_recover 18 = .ok (.ireturn, 1) := by decide +kernel
theorem dX4_recover_19 : decode cX4_recover 19 = .ok (.aload_n 0, 1) := by decide +kernel
theorem dX4_recover_20 : decode cX4_recover 20 = .ok (.invokevirtual 50, 3) := by decide +kernel
theorem dX4_recover_23 : decode cX4_recover 23 = .ok (.iconst 0, 1) := by decide +kernel
theorem dX4_recover_24 : decode cX4_recover 24 = .ok (.ireturn, 1) := by decide +kernel
set_option maxRecDepth 20000 in
theorem ggX4_peek_X0_word : GoodIn wsX4_peek wsX0_word := goodIn_r _ [6, 7, 14, 15, 16, 17] (by decide +kernel) (by decide +kernel)
set_option maxRecDepth 20000 in
theorem gX4_peek_X0_word : GoodIn wsX4_peek (wsV RX4 148 RX0 yX0_word wsX0_word) := goodIn_app (goodIn_of _ (by decide +kernel)) ggX4_peek_X0_word
theorem dX4_peek_0 : decode cX4_peek 0 = .ok (.iload_n 1, 1) := by decide +kernel
theorem dX4_peek_1 : decode cX4_peek 1 = .ok (.ifCond .lt 19, 3) := by decide +kernel
theorem dX4_peek_4 : decode cX4_peek 4 = .ok (.iload_n 1, 1) := by decide +kernel
theorem dX4_peek_5 : decode cX4_peek 5 = .ok (.bipush 33, 2) := by decide +kernel
theorem dX4_peek_7 : decode cX4_peek 7 = .ok (.if_icmp .ge 13, 3) := by decide +kernel
theorem dX4_peek_10 : decode cX4_peek 10 = .ok (.iload_n 2, 1) := by decide +kernel
theorem dX4_peek_11 : decode cX4_peek 11 = .ok (.ifCond .lt 9, 3) := by decide +kernel
theorem dX4_peek_14 : decode cX4_peek 14 = .ok (.iload_n 2, 1) := by decide +kernel
theorem dX4_peek_15 : decode cX4_peek 15 = .ok (.bipush 16, 2) := by decide +kernel
theorem dX4_peek_17 : decode cX4_peek 17 = .ok (.if_icmp .lt 6, 3) := by decide +kernel
theorem dX4_peek_20 : decode cX4_peek 20 = .ok (.bipush (-4), 2) := by decide +kernel
theorem dX4_peek_22 : decode cX4_peek 22 = .ok (.ireturn, 1) := by decide +kernel
theorem dX4_peek_23 : decode cX4_peek 23 = .ok (.aload_n 0, 1) := by decide +kernel
theorem dX4_peek_24 : decode cX4_peek 24 = .ok (.getfield 10, 3) := by decide +kernel
theorem dX4_peek_27 : decode cX4_peek 27 = .ok (.iload_n 1, 1) := by decide +kernel
theorem dX4_peek_28 : decode cX4_peek 28 = .ok (.iload_n 2, 1) := by decide +kernel
theorem dX4_peek_29 : decode cX4_peek 29 = .ok (.invokevirtual 148, 3) := by decide +kernel
theorem dX4_peek_32 : decode cX4_peek 32 = .ok (.ireturn, 1) := by decide +kernel
set_option maxRecDepth 20000 in
theorem ggX4_writes_X0_writesDone : GoodIn wsX4_writes wsX0_writesDone := goodIn_r _ [6, 7, 14, 15, 16, 17] (by decide +kernel) (by decide +kernel)
set_option maxRecDepth 20000 in
theorem gX4_writes_X0_writesDone : GoodIn wsX4_writes (wsV RX4 150 RX0 yX0_writesDone wsX0_writesDone) := goodIn_app (goodIn_of _ (by decide +kernel)) ggX4_writes_X0_writesDone
theorem dX4_writes_0 : decode cX4_writes 0 = .ok (.aload_n 0, 1) := by decide +kernel
theorem dX4_writes_1 : decode cX4_writes 1 = .ok (.getfield 10, 3) := by decide +kernel
theorem dX4_writes_4 : decode cX4_writes 4 = .ok (.invokevirtual 150, 3) := by decide +kernel
theorem dX4_writes_7 : decode cX4_writes 7 = .ok (.ireturn, 1) := by decide +kernel
set_option maxRecDepth 20000 in
theorem ggX4_startAnew_X2_load : GoodIn wsX4_startAnew wsX2_load := goodIn_r _ [9, 10, 11, 12, 13, 14, 27, 28, 29, 30, 31] (by decide +kernel) (by decide +kernel)
set_option maxRecDepth 20000 in
theorem gX4_startAnew_X2_load : GoodIn wsX4_startAnew (wsV RX4 82 RX2 yX2_load wsX2_load) := goodIn_app (goodIn_of _ (by decide +kernel)) ggX4_startAnew_X2_load
set_option maxRecDepth 20000 in
theorem ggX4_startAnew_X3_end : GoodIn wsX4_startAnew wsX3_end := goodIn_r _ [19, 20, 32, 33, 34, 35, 36, 37, 38, 39] (by decide +kernel) (by decide +kernel)
set_option maxRecDepth 20000 in
theorem gX4_startAnew_X3_end : GoodIn wsX4_startAnew (wsV RX4 136 RX3 yX3_end wsX3_end) := goodIn_app (goodIn_of _ (by decide +kernel)) ggX4_startAnew_X3_end
theorem dX4_startAnew_0 : decode cX4_startAnew 0 = .ok (.aload_n 0, 1) := by decide +kernel
theorem dX4_startAnew_1 : decode cX4_startAnew 1 = .ok (.getfield 19, 3) := by decide +kernel
theorem dX4_startAnew_4 : decode cX4_startAnew 4 = .ok (.aload_n 0, 1) := by decide +kernel
theorem dX4_startAnew_5 : decode cX4_startAnew 5 = .ok (.getfield 10, 3) := by decide +kernel
theorem dX4_startAnew_8 : decode cX4_startAnew 8 = .ok (.invokevirtual 82, 3) := by decide +kernel
theorem dX4_startAnew_11 : decode cX4_startAnew 11 = .ok (.aload_n 0, 1) := by decide +kernel
theorem dX4_startAnew_12 : decode cX4_startAnew 12 = .ok (.iconst 0, 1) := by decide +kernel
theorem dX4_startAnew_13 : decode cX4_startAnew 13 = .ok (.putfield 43, 3) := by decide +kernel
theorem dX4_startAnew_16 : decode cX4_startAnew 16 = .ok (.iconst 0, 1) := by decide +kernel
theorem dX4_startAnew_17 : decode cX4_startAnew 17 = .ok (.istore_n 1, 1) := by decide +kernel
theorem dX4_startAnew_18 : decode cX4_startAnew 18 = .ok (.iload_n 1, 1) := by decide +kernel
theorem dX4_startAnew_19 : decode cX4_startAnew 19 = .ok (.iconst 4, 1) := by decide +kernel
theorem dX4_startAnew_20 : decode cX4_startAnew 20 = .ok (.if_icmp .ge 18, 3) := by decide +kernel
theorem dX4_startAnew_23 : decode cX4_startAnew 23 = .ok (.aload_n 0, 1) := by decide +kernel
theorem dX4_startAnew_24 : decode cX4_startAnew 24 = .ok (.getfield 34, 3) := by decide +kernel
theorem dX4_startAnew_27 : decode cX4_startAnew 27 = .ok (.iload_n 1, 1) := by decide +kernel
theorem dX4_startAnew_28 : decode cX4_startAnew 28 = .ok (.aaload, 1) := by decide +kernel
theorem dX4_startAnew_29 : decode cX4_startAnew 29 = .ok (.invokevirtual 136, 3) := by decide +kernel
theorem dX4_startAnew_32 : decode cX4_startAnew 32 = .ok (.iinc 1 1, 3) := by decide +kernel
theorem dX4_startAnew_35 : decode cX4_startAnew 35 = .ok (.goto (-17), 3) := by decide +kernel
theorem dX4_startAnew_38 : decode cX4_startAnew 38 = .ok (.return_, 1) := by decide +kernel
set_option maxRecDepth 20000 in
theorem ggX4_refusalOutsideTransaction_X0_powered : GoodIn wsX4_refusalOutsideTransaction wsX0_powered := goodIn_r _ [7, 8, 15, 16, 17, 18] (by decide +kernel) (by decide +kernel)
set_option maxRecDepth 20000 in
theorem gX4_refusalOutsideTransaction_X0_powered : GoodIn wsX4_refusalOutsideTransaction (wsV RX4 53 RX0 yX0_powered wsX0_powered) := goodIn_app (goodIn_of _ (by decide +kernel)) ggX4_refusalOutsideTransaction_X0_powered
theorem dX4_refusalOutsideTransaction_0 : decode cX4_refusalOutsideTransaction 0 = .ok (.aload_n 0, 1) := by decide +kernel
theorem dX4_refusalOutsideTransaction_1 : decode cX4_refusalOutsideTransaction 1 = .ok (.getfield 10, 3) := by decide +kernel
theorem dX4_refusalOutsideTransaction_4 : decode cX4_refusalOutsideTransaction 4 = .ok (.invokevirtual 53, 3) := by decide +kernel
theorem dX4_refusalOutsideTransaction_7 : decode cX4_refusalOutsideTransaction 7 = .ok (.ifCond .ne 5, 3) := by decide +kernel
theorem dX4_refusalOutsideTransaction_10 : decode cX4_refusalOutsideTransaction 10 = .ok (.iconst (-1), 1) := by decide +kernel
theorem dX4_refusalOutsideTransaction_11 : decode cX4_refusalOutsideTransaction 11 = .ok (.ireturn, 1) := by decide +kernel
theorem dX4_refusalOutsideTransaction_12 : decode cX4_refusalOutsideTransaction 12 = .ok (.aload_n 0, 1) := by decide +kernel
theorem dX4_refusalOutsideTransaction_13 : decode cX4_refusalOutsideTransaction 13 = .ok (.getfield 43, 3) := by decide +kernel
theorem dX4_refusalOutsideTransaction_16 : decode cX4_refusalOutsideTransaction 16 = .ok (.ifCond .eq 7, 3) := by decide +kernel
theorem dX4_refusalOutsideTransaction_19 : decode cX4_refusalOutsideTransaction 19 = .ok (.iconst 0, 1) := by decide +kernel
theorem dX4_refusalOutsideTransaction_20 : decode cX4_refusalOutsideTransaction 20 = .ok (.goto 5, 3) := by decide +kernel
theorem dX4_refusalOutsideTransaction_23 : decode cX4_refusalOutsideTransaction 23 = .ok (.bipush (-2), 2) := by decide +kernel
theorem dX4_refusalOutsideTransaction_25 : decode cX4_refusalOutsideTransaction 25 = .ok (.ireturn, 1) := by decide +kernel
set_option maxRecDepth 20000 in
theorem ggX4_refusalOfChange_X4_refusalOutsideTransaction : GoodIn wsX4_refusalOfChange wsX4_refusalOutsideTransaction := goodIn_r _ [6, 7, 8, 9, 10, 11, 12, 13, 14, 21, 22, 23, 24, 25, 26, 27, 28, 29, 30] (by decide +kernel) (by decide +kernel)
set_option maxRecDepth 20000 in
theorem gX4_refusalOfChange_X4_refusalOutsideTransaction : GoodIn wsX4_refusalOfChange (wsV RX4 76 RX4 yX4_refusalOutsideTransaction wsX4_refusalOutsideTransaction) := goodIn_app (goodIn_of _ (by decide +kernel)) ggX4_refusalOfChange_X4_refusalOutsideTransaction
set_option maxRecDepth 20000 in
theorem ggX4_refusalOfChange_X2_hasTable : GoodIn wsX4_refusalOfChange wsX2_hasTable := goodIn_r _ [19, 20, 31] (by decide +kernel) (by decide +kernel)
set_option maxRecDepth 20000 in
theorem gX4_refusalOfChange_X2_hasTable : GoodIn wsX4_refusalOfChange (wsV RX4 110 RX2 yX2_hasTable wsX2_hasTable) := goodIn_app (goodIn_of _ (by decide +kernel)) ggX4_refusalOfChange_X2_hasTable
theorem dX4_refusalOfChange_0 : decode cX4_refusalOfChange 0 = .ok (.aload_n 0, 1) := by decide +kernel
theorem dX4_refusalOfChange_1 : decode cX4_refusalOfChange 1 = .ok (.invokevirtual 76, 3) := by decide +kernel
theorem dX4_refusalOfChange_4 : decode cX4_refusalOfChange 4 = .ok (.istore_n 2, 1) := by decide +kernel
theorem dX4_refusalOfChange_5 : decode cX4_refusalOfChange 5 = .ok (.iload_n 2, 1) := by decide +kernel
theorem dX4_refusalOfChange_6 : decode cX4_refusalOfChange 6 = .ok (.ifCond .eq 5, 3) := by decide +kernel
theorem dX4_refusalOfChange_9 : decode cX4_refusalOfChange 9 = .ok (.iload_n 2, 1) := by decide +kernel
theorem dX4_refusalOfChange_10 : decode cX4_refusalOfChange 10 = .ok (.ireturn, 1) := by decide +kernel
theorem dX4_refusalOfChange_11 : decode cX4_refusalOfChange 11 = .ok (.aload_n 0, 1) := by decide +kernel
theorem dX4_refusalOfChange_12 : decode cX4_refusalOfChange 12 = .ok (.getfield 19, 3) := by decide +kernel
theorem dX4_refusalOfChange_15 : decode cX4_refusalOfChange 15 = .ok (.iload_n 1, 1) := by decide +kernel
theorem dX4_refusalOfChange_16 : decode cX4_refusalOfChange 16 = .ok (.invokevirtual 110, 3) := by decide +kernel
theorem dX4_refusalOfChange_19 : decode cX4_refusalOfChange 19 = .ok (.ifCond .eq 7, 3) := by decide +kernel
theorem dX4_refusalOfChange_22 : decode cX4_refusalOfChange 22 = .ok (.iconst 0, 1) := by decide +kernel
theorem dX4_refusalOfChange_23 : decode cX4_refusalOfChange 23 = .ok (.goto 5, 3) := by decide +kernel
theorem dX4_refusalOfChange_26 : decode cX4_refusalOfChange 26 = .ok (.bipush (-5), 2) := by decide +kernel
theorem dX4_refusalOfChange_28 : decode cX4_refusalOfChange 28 = .ok (.ireturn, 1) := by decide +kernel
set_option maxRecDepth 20000 in
theorem ggX4_voidScansOf_X3_tableChanged : GoodIn wsX4_voidScansOf wsX3_tableChanged := goodIn_r _ [6, 7, 8, 15, 16, 17, 18, 19, 20, 21, 22] (by decide +kernel) (by decide +kernel)
set_option maxRecDepth 20000 in
theorem gX4_voidScansOf_X3_tableChanged : GoodIn wsX4_voidScansOf (wsV RX4 153 RX3 yX3_tableChanged wsX3_tableChanged) := goodIn_app (goodIn_of _ (by decide +kernel)) ggX4_voidScansOf_X3_tableChanged
theorem dX4_voidScansOf_0 : decode cX4_voidScansOf 0 = .ok (.iconst 0, 1) := by decide +kernel
theorem dX4_voidScansOf_1 : decode cX4_voidScansOf 1 = .ok (.istore_n 2, 1) := by decide +kernel
theorem dX4_voidScansOf_2 : decode cX4_voidScansOf 2 = .ok (.iload_n 2, 1) := by decide +kernel
theorem dX4_voidScansOf_3 : decode cX4_voidScansOf 3 = .ok (.iconst 4, 1) := by decide +kernel
theorem dX4_voidScansOf_4 : decode cX4_voidScansOf 4 = .ok (.if_icmp .ge 19, 3) := by decide +kernel
theorem dX4_voidScansOf_7 : decode cX4_voidScansOf 7 = .ok (.aload_n 0, 1) := by decide +kernel
theorem dX4_voidScansOf_8 : decode cX4_voidScansOf 8 = .ok (.getfield 34, 3) := by decide +kernel
theorem dX4_voidScansOf_11 : decode cX4_voidScansOf 11 = .ok (.iload_n 2, 1) := by decide +kernel
theorem dX4_voidScansOf_12 : decode cX4_voidScansOf 12 = .ok (.aaload, 1) := by decide +kernel
theorem dX4_voidScansOf_13 : decode cX4_voidScansOf 13 = .ok (.iload_n 1, 1) := by decide +kernel
theorem dX4_voidScansOf_14 : decode cX4_voidScansOf 14 = .ok (.invokevirtual 153, 3) := by decide +kernel
theorem dX4_voidScansOf_17 : decode cX4_voidScansOf 17 = .ok (.iinc 2 1, 3) := by decide +kernel
theorem dX4_voidScansOf_20 : decode cX4_voidScansOf 20 = .ok (.goto (-18), 3) := by decide +kernel
theorem dX4_voidScansOf_23 : decode cX4_voidScansOf 23 = .ok (.return_, 1) := by decide +kernel
set_option maxRecDepth 20000 in
theorem ggX4_scanOf_X3_isOpen : GoodIn wsX4_scanOf wsX3_isOpen := goodIn_r _ [6, 7, 14, 15, 16, 17, 18, 19, 20, 21] (by decide +kernel) (by decide +kernel)
set_option maxRecDepth 20000 in
theorem gX4_scanOf_X3_isOpen : GoodIn wsX4_scanOf (wsV RX4 156 RX3 yX3_isOpen wsX3_isOpen) := goodIn_app (goodIn_of _ (by decide +kernel)) ggX4_scanOf_X3_isOpen
theorem dX4_scanOf_0 : decode cX4_scanOf 0 = .ok (.iload_n 1, 1) := by decide +kernel
theorem dX4_scanOf_1 : decode cX4_scanOf 1 = .ok (.ifCond .lt 8, 3) := by decide +kernel
theorem dX4_scanOf_4 : decode cX4_scanOf 4 = .ok (.iload_n 1, 1) := by decide +kernel
theorem dX4_scanOf_5 : decode cX4_scanOf 5 = .ok (.iconst 4, 1) := by decide +kernel
theorem dX4_scanOf_6 : decode cX4_scanOf 6 = .ok (.if_icmp .lt 5, 3) := by decide +kernel
theorem dX4_scanOf_9 : decode cX4_scanOf 9 = .ok (.aconst_null, 1) := by decide +kernel
theorem dX4_scanOf_10 : decode cX4_scanOf 10 = .ok (.areturn, 1) := by decide +kernel
theorem dX4_scanOf_11 : decode cX4_scanOf 11 = .ok (.aload_n 0, 1) := by decide +kernel
theorem dX4_scanOf_12 : decode cX4_scanOf 12 = .ok (.getfield 34, 3) := by decide +kernel
theorem dX4_scanOf_15 : decode cX4_scanOf 15 = .ok (.iload_n 1, 1) := by decide +kernel
theorem dX4_scanOf_16 : decode cX4_scanOf 16 = .ok (.aaload, 1) := by decide +kernel
theorem dX4_scanOf_17 : decode cX4_scanOf 17 = .ok (.invokevirtual 156, 3) := by decide +kernel
theorem dX4_scanOf_20 : decode cX4_scanOf 20 = .ok (.ifCond .eq 12, 3) := by decide +kernel
theorem dX4_scanOf_23 : decode cX4_scanOf 23 = .ok (.aload_n 0, 1) := by decide +kernel
theorem dX4_scanOf_24 : decode cX4_scanOf 24 = .ok (.getfield 34, 3) := by decide +kernel
theorem dX4_scanOf_27 : decode cX4_scanOf 27 = .ok (.iload_n 1, 1) := by decide +kernel
theorem dX4_scanOf_28 : decode cX4_scanOf 28 = .ok (.aaload, 1) := by decide +kernel
theorem dX4_scanOf_29 : decode cX4_scanOf 29 = .ok (.goto 4, 3) := by decide +kernel
theorem dX4_scanOf_32 : decode cX4_scanOf 32 = .ok (.aconst_null, 1) := by decide +kernel
theorem dX4_scanOf_33 : decode cX4_scanOf 33 = .ok (.areturn, 1) := by decide +kernel
set_option maxRecDepth 20000 in
theorem ggX4_usableScan_X0_powered : GoodIn wsX4_usableScan wsX0_powered := goodIn_r _ [6, 7, 31, 32, 33, 34] (by decide +kernel) (by decide +kernel)
set_option maxRecDepth 20000 in
theorem gX4_usableScan_X0_powered : GoodIn wsX4_usableScan (wsV RX4 53 RX0 yX0_powered wsX0_powered) := goodIn_app (goodIn_of _ (by decide +kernel)) ggX4_usableScan_X0_powered
set_option maxRecDepth 20000 in
theorem ggX4_usableScan_X4_scanOf : GoodIn wsX4_usableScan wsX4_scanOf := goodIn_r _ [12, 13, 14, 15, 16, 17, 18, 19, 25, 26, 27, 28, 29, 30, 35, 36, 37, 38, 39, 40, 41, 42] (by decide +kernel) (by decide +kernel)
set_option maxRecDepth 20000 in
theorem gX4_usableScan_X4_scanOf : GoodIn wsX4_usableScan (wsV RX4 117 RX4 yX4_scanOf wsX4_scanOf) := goodIn_app (goodIn_of _ (by decide +kernel)) ggX4_usableScan_X4_scanOf
set_option maxRecDepth 20000 in
theorem ggX4_usableScan_X3_isVoid : GoodIn wsX4_usableScan wsX3_isVoid := goodIn_r _ [23, 24, 35, 36, 37, 38, 39, 40, 41, 42] (by decide +kernel) (by decide +kernel)
set_option maxRecDepth 20000 in
theorem gX4_usableScan_X3_isVoid : GoodIn wsX4_usableScan (wsV RX4 159 RX3 yX3_isVoid wsX3_isVoid) := goodIn_app (goodIn_of _ (by decide +kernel)) ggX4_usableScan_X3_isVoid
theorem dX4_usableScan_0 : decode cX4_usableScan 0 = .ok (.aload_n 0, 1) := by decide +kernel
theorem dX4_usableScan_1 : decode cX4_usableScan 1 = .ok (.getfield 10, 3) := by decide +kernel
theorem dX4_usableScan_4 : decode cX4_usableScan 4 = .ok (.invokevirtual 53, 3) := by decide +kernel
theorem dX4_usableScan_7 : decode cX4_usableScan 7 = .ok (.ifCond .eq 11, 3) := by decide +kernel
theorem dX4_usableScan_10 : decode cX4_usableScan 10 = .ok (.aload_n 0, 1) := by decide +kernel
theorem dX4_usableScan_11 : decode cX4_usableScan 11 = .ok (.iload_n 1, 1) := by decide +kernel
theorem dX4_usableScan_12 : decode cX4_usableScan 12 = .ok (.invokevirtual 117, 3) := by decide +kernel
theorem dX4_usableScan_15 : decode cX4_usableScan 15 = .ok (.goto 4, 3) := by decide +kernel
theorem dX4_usableScan_18 : decode cX4_usableScan 18 = .ok (.aconst_null, 1) := by decide +kernel
theorem dX4_usableScan_19 : decode cX4_usableScan 19 = .ok (.astore_n 2, 1) := by decide +kernel
theorem dX4_usableScan_20 : decode cX4_usableScan 20 = .ok (.aload_n 2, 1) := by decide +kernel
theorem dX4_usableScan_21 : decode cX4_usableScan 21 = .ok (.ifnull 10, 3) := by decide +kernel
theorem dX4_usableScan_24 : decode cX4_usableScan 24 = .ok (.aload_n 2, 1) := by decide +kernel
theorem dX4_usableScan_25 : decode cX4_usableScan 25 = .ok (.invokevirtual 159, 3) := by decide +kernel
theorem dX4_usableScan_28 : decode cX4_usableScan 28 = .ok (.ifCond .eq 7, 3) := by decide +kernel
theorem dX4_usableScan_31 : decode cX4_usableScan 31 = .ok (.aconst_null, 1) := by decide +kernel
theorem dX4_usableScan_32 : decode cX4_usableScan 32 = .ok (.goto 4, 3) := by decide +kernel
theorem dX4_usableScan_35 : decode cX4_usableScan 35 = .ok (.aload_n 2, 1) := by decide +kernel
theorem dX4_usableScan_36 : decode cX4_usableScan 36 = .ok (.areturn, 1) := by decide +kernel
theorem dX5_init_0 : decode cX5_init 0 = .ok (.aload_n 0, 1) := by decide +kernel
theorem dX5_init_1 : decode cX5_init 1 = .ok (.invokespecial 1, 3) := by decide +kernel
theorem dX5_init_4 : decode cX5_init 4 = .ok (.aload_n 0, 1) := by decide +kernel
theorem dX5_init_5 : decode cX5_init 5 = .ok (.sipush 528, 3) := by decide +kernel
theorem dX5_init_8 : decode cX5_init 8 = .ok (.newarray .int, 2) := by decide +kernel
theorem dX5_init_10 : decode cX5_init 10 = .ok (.putfield 7, 3) := by decide +kernel
theorem dX5_init_13 : decode cX5_init 13 = .ok (.aload_n 0, 1) := by decide +kernel
theorem dX5_init_14 : decode cX5_init 14 = .ok (.sipush 256, 3) := by decide +kernel
theorem dX5_init_17 : decode cX5_init 17 = .ok (.newarray .int, 2) := by decide +kernel
theorem dX5_init_19 : decode cX5_init 19 = .ok (.putfield 13, 3) := by decide +kernel
theorem dX5_init_22 : decode cX5_init 22 = .ok (.aload_n 0, 1) := by decide +kernel
theorem dX5_init_23 : decode cX5_init 23 = .ok (.bipush 16, 2) := by decide +kernel
theorem dX5_init_25 : decode cX5_init 25 = .ok (.newarray .int, 2) := by decide +kernel
theorem dX5_init_27 : decode cX5_init 27 = .ok (.putfield 16, 3) := by decide +kernel
theorem dX5_init_30 : decode cX5_init 30 = .ok (.aload_n 0, 1) := by decide +kernel
theorem dX5_init_31 : decode cX5_init 31 = .ok (.bipush 6, 2) := by decide +kernel
theorem dX5_init_33 : decode cX5_init 33 = .ok (.newarray .int, 2) := by decide +kernel
theorem dX5_init_35 : decode cX5_init 35 = .ok (.putfield 19, 3) := by decide +kernel
theorem dX5_init_38 : decode cX5_init 38 = .ok (.aload_n 0, 1) := by decide +kernel
theorem dX5_init_39 : decode cX5_init 39 = .ok (.iconst (-1), 1) := by decide +kernel
theorem dX5_init_40 : decode cX5_init 40 = .ok (.putfield 22, 3) := by decide +kernel
theorem dX5_init_43 : decode cX5_init 43 = .ok (.aload_n 0, 1) := by decide +kernel
theorem dX5_init_44 : decode cX5_init 44 = .ok (.iconst 4, 1) := by decide +kernel
theorem dX5_init_45 : decode cX5_init 45 = .ok (.newarray .int, 2) := by decide +kernel
theorem dX5_init_47 : decode cX5_init 47 = .ok (.putfield 26, 3) := by decide +kernel
theorem dX5_init_50 : decode cX5_init 50 = .ok (.aload_n 0, 1) := by decide +kernel
theorem dX5_init_51 : decode cX5_init 51 = .ok (.iconst 4, 1) := by decide +kernel
theorem dX5_init_52 : decode cX5_init 52 = .ok (.newarray .int, 2) := by decide +kernel
theorem dX5_init_54 : decode cX5_init 54 = .ok (.putfield 29, 3) := by decide +kernel
theorem dX5_init_57 : decode cX5_init 57 = .ok (.aload_n 0, 1) := by decide +kernel
theorem dX5_init_58 : decode cX5_init 58 = .ok (.iconst 4, 1) := by decide +kernel
theorem dX5_init_59 : decode cX5_init 59 = .ok (.newarray .int, 2) := by decide +kernel
theorem dX5_init_61 : decode cX5_init 61 = .ok (.putfield 32, 3) := by decide +kernel
theorem dX5_init_64 : decode cX5_init 64 = .ok (.aload_n 0, 1) := by decide +kernel
theorem dX5_init_65 : decode cX5_init 65 = .ok (.iconst 4, 1) := by decide +kernel
theorem dX5_init_66 : decode cX5_init 66 = .ok (.newarray .int, 2) := by decide +kernel
theorem dX5_init_68 : decode cX5_init 68 = .ok (.putfield 35, 3) := by decide +kernel
theorem dX5_init_71 : decode cX5_init 71 = .ok (.aload_n 0, 1) := by decide +kernel
theorem dX5_init_72 : decode cX5_init 72 = .ok (.iconst 4, 1) := by decide +kernel
theorem dX5_init_73 : decode cX5_init 73 = .ok (.newarray .boolean, 2) := by decide +kernel
theorem dX5_init_75 : decode cX5_init 75 = .ok (.putfield 38, 3) := by decide +kernel
theorem dX5_init_78 : decode cX5_init 78 = .ok (.aload_n 0, 1) := by decide +kernel
theorem dX5_init_79 : decode cX5_init 79 = .ok (.iconst 4, 1) := by decide +kernel
theorem dX5_init_80 : decode cX5_init 80 = .ok (.newarray .boolean, 2) := by decide +kernel
theorem dX5_init_82 : decode cX5_init 82 = .ok (.putfield 42, 3) := by decide +kernel
theorem dX5_init_85 : decode cX5_init 85 = .ok (.aload_n 0, 1) := by decide +kernel
theorem dX5_init_86 : decode cX5_init 86 = .ok (.iconst 4, 1) := by decide +kernel
theorem dX5_init_87 : decode cX5_init 87 = .ok (.newarray .int, 2) := by decide +kernel
theorem dX5_init_89 : decode cX5_init 89 = .ok (.putfield 45, 3) := by decide +kernel
theorem dX5_init_92 : decode cX5_init 92 = .ok (.aload_n 0, 1) := by decide +kernel
theorem dX5_init_93 : decode cX5_init 93 = .ok (.iconst 4, 1) := by decide +kernel
theorem dX5_init_94 : decode cX5_init 94 = .ok (.newarray .int, 2) := by decide +kernel
theorem dX5_init_96 : decode cX5_init 96 = .ok (.putfield 48, 3) := by decide +kernel
theorem dX5_init_99 : decode cX5_init 99 = .ok (.return_, 1) := by decide +kernel
theorem dX5_put_0 : decode cX5_put 0 = .ok (.aload_n 0, 1) := by decide +kernel
theorem dX5_put_1 : decode cX5_put 1 = .ok (.getfield 22, 3) := by decide +kernel
theorem dX5_put_4 : decode cX5_put 4 = .ok (.ifCond .ne 15, 3) := by decide +kernel
theorem dX5_put_7 : decode cX5_put 7 = .ok (.aload_n 0, 1) := by decide +kernel
theorem dX5_put_8 : decode cX5_put 8 = .ok (.iconst (-1), 1) := by decide +kernel
theorem dX5_put_9 : decode cX5_put 9 = .ok (.putfield 22, 3) := by decide +kernel
theorem dX5_put_12 : decode cX5_put 12 = .ok (.aload_n 0, 1) := by decide +kernel
theorem dX5_put_13 : decode cX5_put 13 = .ok (.iconst 1, 1) := by decide +kernel
theorem dX5_put_14 : decode cX5_put 14 = .ok (.putfield 51, 3) := by decide +kernel
theorem dX5_put_17 : decode cX5_put 17 = .ok (.iconst 0, 1) := by decide +kernel
theorem dX5_put_18 : decode cX5_put 18 = .ok (.ireturn, 1) := by decide +kernel
theorem dX5_put_19 : decode cX5_put 19 = .ok (.aload_n 0, 1) := by decide +kernel
theorem dX5_put_20 : decode cX5_put 20 = .ok (.aload_n 0, 1) := by decide +kernel
theorem dX5_put_21 : decode cX5_put 21 = .ok (.getfield 22, 3) := by decide +kernel
theorem dX5_put_24 : decode cX5_put 24 = .ok (.ifCond .le 12, 3) := by decide +kernel
theorem dX5_put_27 : decode cX5_put 27 = .ok (.aload_n 0, 1) := by decide +kernel
theorem dX5_put_28 : decode cX5_put 28 = .ok (.getfield 22, 3) := by decide +kernel
theorem dX5_put_31 : decode cX5_put 31 = .ok (.iconst 1, 1) := by decide +kernel
theorem dX5_put_32 : decode cX5_put 32 = .ok (.isub, 1) := by decide +kernel
theorem dX5_put_33 : decode cX5_put 33 = .ok (.goto 7, 3) := by decide +kernel
theorem dX5_put_36 : decode cX5_put 36 = .ok (.aload_n 0, 1) := by decide +kernel
theorem dX5_put_37 : decode cX5_put 37 = .ok (.getfield 22, 3) := by decide +kernel
theorem dX5_put_40 : decode cX5_put 40 = .ok (.putfield 22, 3) := by decide +kernel
theorem dX5_put_43 : decode cX5_put 43 = .ok (.iconst 0, 1) := by decide +kernel
theorem dX5_put_44 : decode cX5_put 44 = .ok (.istore_n 2, 1) := by decide +kernel
theorem dX5_put_45 : decode cX5_put 45 = .ok (.iload_n 2, 1) := by decide +kernel
theorem dX5_put_46 : decode cX5_put 46 = .ok (.bipush 16, 2) := by decide +kernel
theorem dX5_put_48 : decode cX5_put 48 = .ok (.if_icmp .ge 26, 3) := by decide +kernel
theorem dX5_put_51 : decode cX5_put 51 = .ok (.aload_n 0, 1) := by decide +kernel
theorem dX5_put_52 : decode cX5_put 52 = .ok (.getfield 7, 3) := by decide +kernel
theorem dX5_put_55 : decode cX5_put 55 = .ok (.bipush 16, 2) := by decide +kernel
theorem dX5_put_57 : decode cX5_put 57 = .ok (.iload_n 1, 1) := by decide +kernel
theorem dX5_put_58 : decode cX5_put 58 = .ok (.imul, 1) := by decide +kernel
theorem dX5_put_59 : decode cX5_put 59 = .ok (.iload_n 2, 1) := by decide +kernel
theorem dX5_put_60 : decode cX5_put 60 = .ok (.iadd, 1) := by decide +kernel
theorem dX5_put_61 : decode cX5_put 61 = .ok (.aload_n 0, 1) := by decide +kernel
theorem dX5_put_62 : decode cX5_put 62 = .ok (.getfield 16, 3) := by decide +kernel
theorem dX5_put_65 : decode cX5_put 65 = .ok (.iload_n 2, 1) := by decide +kernel
theorem dX5_put_66 : decode cX5_put 66 = .ok (.iaload, 1) := by decide +kernel
theorem dX5_put_67 : decode cX5_put 67 = .ok (.iastore, 1) := by decide +kernel
theorem dX5_put_68 : decode cX5_put 68 = .ok (.iinc 2 1, 3) := by decide +kernel
theorem dX5_put_71 : decode cX5_put 71 = .ok (.goto (-26), 3) := by decide +kernel
theorem dX5_put_74 : decode cX5_put 74 = .ok (.aload_n 0, 1) := by decide +kernel
theorem dX5_put_75 : decode cX5_put 75 = .ok (.dup, 1) := by decide +kernel
theorem dX5_put_76 : decode cX5_put 76 = .ok (.getfield 55, 3) := by decide +kernel
theorem dX5_put_79 : decode cX5_put 79 = .ok (.iconst 1, 1) := by decide +kernel
theorem dX5_put_80 : decode cX5_put 80 = .ok (.iadd, 1) := by decide +kernel
theorem dX5_put_81 : decode cX5_put 81 = .ok (.putfield 55, 3) := by decide +kernel
theorem dX5_put_84 : decode cX5_put 84 = .ok (.iconst 1, 1) := by decide +kernel
theorem dX5_put_85 : decode cX5_put 85 = .ok (.ireturn, 1) := by decide +kernel
set_option maxRecDepth 20000 in
theorem ggX5_putFromDisk_X5_put : GoodIn wsX5_putFromDisk wsX5_put := goodIn_r _ [7, 8, 9, 2, 1, 10, 11, 12, 13, 14, 15, 16, 17, 18, 19, 20, 21, 22, 23, 24, 25, 26, 27, 28] (by decide +kernel) (by decide +kernel)
set_option maxRecDepth 20000 in
theorem gX5_putFromDisk_X5_put : GoodIn wsX5_putFromDisk (wsV RX5 58 RX5 yX5_put wsX5_put) := goodIn_app (goodIn_of _ (by decide +kernel)) ggX5_putFromDisk_X5_put
theorem dX5_putFromDisk_0 : decode cX5_putFromDisk 0 = .ok (.iconst 0, 1) := by decide +kernel
theorem dX5_putFromDisk_1 : decode cX5_putFromDisk 1 = .ok (.istore_n 3, 1) := by decide +kernel
theorem dX5_putFromDisk_2 : decode cX5_putFromDisk 2 = .ok (.iload_n 3, 1) := by decide +kernel
theorem dX5_putFromDisk_3 : decode cX5_putFromDisk 3 = .ok (.bipush 16, 2) := by decide +kernel
theorem dX5_putFromDisk_5 : decode cX5_putFromDisk 5 = .ok (.if_icmp .ge 26, 3) := by decide +kernel
theorem dX5_putFromDisk_8 : decode cX5_putFromDisk 8 = .ok (.aload_n 0, 1) := by decide +kernel
theorem dX5_putFromDisk_9 : decode cX5_putFromDisk 9 = .ok (.getfield 16, 3) := by decide +kernel
theorem dX5_putFromDisk_12 : decode cX5_putFromDisk 12 = .ok (.iload_n 3, 1) := by decide +kernel
theorem dX5_putFromDisk_13 : decode cX5_putFromDisk 13 = .ok (.aload_n 0, 1) := by decide +kernel
theorem dX5_putFromDisk_14 : decode cX5_putFromDisk 14 = .ok (.getfield 7, 3) := by decide +kernel
theorem dX5_putFromDisk_17 : decode cX5_putFromDisk 17 = .ok (.bipush 16, 2) := by decide +kernel
theorem dX5_putFromDisk_19 : decode cX5_putFromDisk 19 = .ok (.iload_n 2, 1) := by decide +kernel
theorem dX5_putFromDisk_20 : decode cX5_putFromDisk 20 = .ok (.imul, 1) := by decide +kernel
theorem dX5_putFromDisk_21 : decode cX5_putFromDisk 21 = .ok (.iload_n 3, 1) := by decide +kernel
theorem dX5_putFromDisk_22 : decode cX5_putFromDisk 22 = .ok (.iadd, 1) := by decide +kernel
theorem dX5_putFromDisk_23 : decode cX5_putFromDisk 23 = .ok (.iaload, 1) := by decide +kernel
theorem dX5_putFromDisk_24 : decode cX5_putFromDisk 24 = .ok (.iastore, 1) := by decide +kernel
theorem dX5_putFromDisk_25 : decode cX5_putFromDisk 25 = .ok (.iinc 3 1, 3) := by decide +kernel
theorem dX5_putFromDisk_28 : decode cX5_putFromDisk 28 = .ok (.goto (-26), 3) := by decide +kernel
theorem dX5_putFromDisk_31 : decode cX5_putFromDisk 31 = .ok (.aload_n 0, 1) := by decide +kernel
theorem dX5_putFromDisk_32 : decode cX5_putFromDisk 32 = .ok (.iload_n 1, 1) := by decide +kernel
theorem dX5_putFromDisk_33 : decode cX5_putFromDisk 33 = .ok (.invokevirtual 58, 3) := by decide +kernel
theorem dX5_putFromDisk_36 : decode cX5_putFromDisk 36 = .ok (.ireturn, 1) := by decide +kernel
set_option maxRecDepth 20000 in
theorem ggX5_putFromMemory_X5_put : GoodIn wsX5_putFromMemory wsX5_put := goodIn_r _ [7, 8, 9, 10, 1, 11, 12, 13, 14, 15, 16, 17, 18, 19, 20, 21, 22, 23, 24, 25, 26, 27, 28, 29] (by decide +kernel) (by decide +kernel)
set_option maxRecDepth 20000 in
theorem gX5_putFromMemory_X5_put : GoodIn wsX5_putFromMemory (wsV RX5 58 RX5 yX5_put wsX5_put) := goodIn_app (goodIn_of _ (by decide +kernel)) ggX5_putFromMemory_X5_put
theorem dX5_putFromMemory_0 : decode cX5_putFromMemory 0 = .ok (.iconst 0, 1) := by decide +kernel
theorem dX5_putFromMemory_1 : decode cX5_putFromMemory 1 = .ok (.istore_n 2, 1) := by decide +kernel
theorem dX5_putFromMemory_2 : decode cX5_putFromMemory 2 = .ok (.iload_n 2, 1) := by decide +kernel
theorem dX5_putFromMemory_3 : decode cX5_putFromMemory 3 = .ok (.bipush 16, 2) := by decide +kernel
theorem dX5_putFromMemory_5 : decode cX5_putFromMemory 5 = .ok (.if_icmp .ge 26, 3) := by decide +kernel
theorem dX5_putFromMemory_8 : decode cX5_putFromMemory 8 = .ok (.aload_n 0, 1) := by decide +kernel
theorem dX5_putFromMemory_9 : decode cX5_putFromMemory 9 = .ok (.getfield 16, 3) := by decide +kernel
theorem dX5_putFromMemory_12 : decode cX5_putFromMemory 12 = .ok (.iload_n 2, 1) := by decide +kernel
theorem dX5_putFromMemory_13 : decode cX5_putFromMemory 13 = .ok (.aload_n 0, 1) := by decide +kernel
theorem dX5_putFromMemory_14 : decode cX5_putFromMemory 14 = .ok (.getfield 13, 3) := by decide +kernel
theorem dX5_putFromMemory_17 : decode cX5_putFromMemory 17 = .ok (.bipush 16, 2) := by decide +kernel
theorem dX5_putFromMemory_19 : decode cX5_putFromMemory 19 = .ok (.iload_n 1, 1) := by decide +kernel
theorem dX5_putFromMemory_20 : decode cX5_putFromMemory 20 = .ok (.imul, 1) := by decide +kernel
theorem dX5_putFromMemory_21 : decode cX5_putFromMemory 21 = .ok (.iload_n 2, 1) := by decide +kernel
theorem dX5_putFromMemory_22 : decode cX5_putFromMemory 22 = .ok (.iadd, 1) := by decide +kernel
theorem dX5_putFromMemory_23 : decode cX5_putFromMemory 23 = .ok (.iaload, 1) := by decide +kernel
theorem dX5_putFromMemory_24 : decode cX5_putFromMemory 24 = .ok (.iastore, 1) := by decide +kernel
theorem dX5_putFromMemory_25 : decode cX5_putFromMemory 25 = .ok (.iinc 2 1, 3) := by decide +kernel
theorem dX5_putFromMemory_28 : decode cX5_putFromMemory 28 = .ok (.goto (-26), 3) := by decide +kernel
theorem dX5_putFromMemory_31 : decode cX5_putFromMemory 31 = .ok (.aload_n 0, 1) := by decide +kernel
theorem dX5_putFromMemory_32 : decode cX5_putFromMemory 32 = .ok (.iload_n 1, 1) := by decide +kernel
theorem dX5_putFromMemory_33 : decode cX5_putFromMemory 33 = .ok (.invokevirtual 58, 3) := by decide +kernel
theorem dX5_putFromMemory_36 : decode cX5_putFromMemory 36 = .ok (.ireturn, 1) := by decide +kernel
set_option maxRecDepth 20000 in
theorem ggX5_putHead_X5_check : GoodIn wsX5_putHead wsX5_check := goodIn_r _ [6, 7, 15, 16, 17, 18, 19, 20, 21, 22, 23, 24, 25, 26, 27, 28, 29, 30, 31, 32] (by decide +kernel) (by decide +kernel)
set_option maxRecDepth 20000 in
theorem gX5_putHead_X5_check : GoodIn wsX5_putHead (wsV RX5 62 RX5 yX5_check wsX5_check) := goodIn_app (goodIn_of _ (by decide +kernel)) ggX5_putHead_X5_check
set_option maxRecDepth 20000 in
theorem ggX5_putHead_X5_put : GoodIn wsX5_putHead wsX5_put := goodIn_r _ [11, 12, 13, 7, 1, 14, 15, 16, 17, 18, 19, 20, 21, 22, 23, 24, 25, 26, 27, 28, 29, 30, 31, 32] (by decide +kernel) (by decide +kernel)
set_option maxRecDepth 20000 in
theorem gX5_putHead_X5_put : GoodIn wsX5_putHead (wsV RX5 58 RX5 yX5_put wsX5_put) := goodIn_app (goodIn_of _ (by decide +kernel)) ggX5_putHead_X5_put
theorem dX5_putHead_0 : decode cX5_putHead 0 = .ok (.iconst 0, 1) := by decide +kernel
theorem dX5_putHead_1 : decode cX5_putHead 1 = .ok (.istore_n 3, 1) := by decide +kernel
theorem dX5_putHead_2 : decode cX5_putHead 2 = .ok (.iload_n 3, 1) := by decide +kernel
theorem dX5_putHead_3 : decode cX5_putHead 3 = .ok (.bipush 16, 2) := by decide +kernel
theorem dX5_putHead_5 : decode cX5_putHead 5 = .ok (.if_icmp .ge 16, 3) := by decide +kernel
theorem dX5_putHead_8 : decode cX5_putHead 8 = .ok (.aload_n 0, 1) := by decide +kernel
theorem dX5_putHead_9 : decode cX5_putHead 9 = .ok (.getfield 16, 3) := by decide +kernel
theorem dX5_putHead_12 : decode cX5_putHead 12 = .ok (.iload_n 3, 1) := by decide +kernel
theorem dX5_putHead_13 : decode cX5_putHead 13 = .ok (.iconst 0, 1) := by decide +kernel
theorem dX5_putHead_14 : decode cX5_putHead 14 = .ok (.iastore, 1) := by decide +kernel
theorem dX5_putHead_15 : decode cX5_putHead 15 = .ok (.iinc 3 1, 3) := by decide +kernel
theorem dX5_putHead_18 : decode cX5_putHead 18 = .ok (.goto (-16), 3) := by decide +kernel
theorem dX5_putHead_21 : decode cX5_putHead 21 = .ok (.iload_n 1, 1) := by decide +kernel
theorem dX5_putHead_22 : decode cX5_putHead 22 = .ok (.ifCond .le 37, 3) := by decide +kernel
theorem dX5_putHead_25 : decode cX5_putHead 25 = .ok (.aload_n 0, 1) := by decide +kernel
theorem dX5_putHead_26 : decode cX5_putHead 26 = .ok (.getfield 16, 3) := by decide +kernel
theorem dX5_putHead_29 : decode cX5_putHead 29 = .ok (.iconst 0, 1) := by decide +kernel
