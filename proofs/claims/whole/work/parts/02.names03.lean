theorem dX1_blocksToUndo_107 : decode cX1_blocksToUndo 107 = .ok (.aload_n 0, 1) := by decide +kernel
theorem dX1_blocksToUndo_108 : decode cX1_blocksToUndo 108 = .ok (.iload_n 1, 1) := by decide +kernel
theorem dX1_blocksToUndo_109 : decode cX1_blocksToUndo 109 = .ok (.invokevirtual 72, 3) := by decide +kernel
theorem dX1_blocksToUndo_112 : decode cX1_blocksToUndo 112 = .ok (.if_icmp .ne 7, 3) := by decide +kernel
theorem dX1_blocksToUndo_115 : decode cX1_blocksToUndo 115 = .ok (.iload_n 2, 1) := by decide +kernel
theorem dX1_blocksToUndo_116 : decode cX1_blocksToUndo 116 = .ok (.goto 4, 3) := by decide +kernel
theorem dX1_blocksToUndo_119 : decode cX1_blocksToUndo 119 = .ok (.iconst 0, 1) := by decide +kernel
theorem dX1_blocksToUndo_120 : decode cX1_blocksToUndo 120 = .ok (.ireturn, 1) := by decide +kernel
set_option maxRecDepth 20000 in
theorem ggX1_checkOfImages_X0_word : GoodIn wsX1_checkOfImages wsX0_word := goodIn_r _ [6, 7, 11, 12, 13, 14] (by decide +kernel) (by decide +kernel)
set_option maxRecDepth 20000 in
theorem gX1_checkOfImages_X0_word : GoodIn wsX1_checkOfImages (wsV RX1 82 RX0 yX0_word wsX0_word) := goodIn_app (goodIn_of _ (by decide +kernel)) ggX1_checkOfImages_X0_word
theorem dX1_checkOfImages_0 : decode cX1_checkOfImages 0 = .ok (.iconst 1, 1) := by decide +kernel
theorem dX1_checkOfImages_1 : decode cX1_checkOfImages 1 = .ok (.istore_n 2, 1) := by decide +kernel
theorem dX1_checkOfImages_2 : decode cX1_checkOfImages 2 = .ok (.bipush 17, 2) := by decide +kernel
theorem dX1_checkOfImages_4 : decode cX1_checkOfImages 4 = .ok (.istore_n 3, 1) := by decide +kernel
theorem dX1_checkOfImages_5 : decode cX1_checkOfImages 5 = .ok (.iload_n 3, 1) := by decide +kernel
theorem dX1_checkOfImages_6 : decode cX1_checkOfImages 6 = .ok (.bipush 17, 2) := by decide +kernel
theorem dX1_checkOfImages_8 : decode cX1_checkOfImages 8 = .ok (.iload_n 1, 1) := by decide +kernel
theorem dX1_checkOfImages_9 : decode cX1_checkOfImages 9 = .ok (.iadd, 1) := by decide +kernel
theorem dX1_checkOfImages_10 : decode cX1_checkOfImages 10 = .ok (.if_icmp .ge 41, 3) := by decide +kernel
theorem dX1_checkOfImages_13 : decode cX1_checkOfImages 13 = .ok (.iconst 0, 1) := by decide +kernel
theorem dX1_checkOfImages_14 : decode cX1_checkOfImages 14 = .ok (.istore 4, 2) := by decide +kernel
theorem dX1_checkOfImages_16 : decode cX1_checkOfImages 16 = .ok (.iload 4, 2) := by decide +kernel
theorem dX1_checkOfImages_18 : decode cX1_checkOfImages 18 = .ok (.bipush 16, 2) := by decide +kernel
theorem dX1_checkOfImages_20 : decode cX1_checkOfImages 20 = .ok (.if_icmp .ge 25, 3) := by decide +kernel
theorem dX1_checkOfImages_23 : decode cX1_checkOfImages 23 = .ok (.bipush 31, 2) := by decide +kernel
theorem dX1_checkOfImages_25 : decode cX1_checkOfImages 25 = .ok (.iload_n 2, 1) := by decide +kernel
theorem dX1_checkOfImages_26 : decode cX1_checkOfImages 26 = .ok (.imul, 1) := by decide +kernel
theorem dX1_checkOfImages_27 : decode cX1_checkOfImages 27 = .ok (.aload_n 0, 1) := by decide +kernel
theorem dX1_checkOfImages_28 : decode cX1_checkOfImages 28 = .ok (.getfield 15, 3) := by decide +kernel
theorem dX1_checkOfImages_31 : decode cX1_checkOfImages 31 = .ok (.iload_n 3, 1) := by decide +kernel
theorem dX1_checkOfImages_32 : decode cX1_checkOfImages 32 = .ok (.iload 4, 2) := by decide +kernel
theorem dX1_checkOfImages_34 : decode cX1_checkOfImages 34 = .ok (.invokevirtual 82, 3) := by decide +kernel
theorem dX1_checkOfImages_37 : decode cX1_checkOfImages 37 = .ok (.iadd, 1) := by decide +kernel
theorem dX1_checkOfImages_38 : decode cX1_checkOfImages 38 = .ok (.istore_n 2, 1) := by decide +kernel
theorem dX1_checkOfImages_39 : decode cX1_checkOfImages 39 = .ok (.iinc 4 1, 3) := by decide +kernel
theorem dX1_checkOfImages_42 : decode cX1_checkOfImages 42 = .ok (.goto (-26), 3) := by decide +kernel
theorem dX1_checkOfImages_45 : decode cX1_checkOfImages 45 = .ok (.iinc 3 1, 3) := by decide +kernel
theorem dX1_checkOfImages_48 : decode cX1_checkOfImages 48 = .ok (.goto (-43), 3) := by decide +kernel
theorem dX1_checkOfImages_51 : decode cX1_checkOfImages 51 = .ok (.iload_n 2, 1) := by decide +kernel
theorem dX1_checkOfImages_52 : decode cX1_checkOfImages 52 = .ok (.ireturn, 1) := by decide +kernel
set_option maxRecDepth 20000 in
theorem ggX1_imageOf_J6_bitCount_0f7a4 : GoodIn wsX1_imageOf wsJ6_bitCount_0f7a4 := goodIn_r _ [4, 5, 6, 7] (by decide +kernel) (by decide +kernel)
set_option maxRecDepth 20000 in
theorem gX1_imageOf_J6_bitCount_0f7a4 : GoodIn wsX1_imageOf (va_wsS RX1 66 yJ6_bitCount_0f7a4 wsJ6_bitCount_0f7a4) := goodIn_app (goodIn_of _ (by decide +kernel)) ggX1_imageOf_J6_bitCount_0f7a4
theorem dX1_imageOf_0 : decode cX1_imageOf 0 = .ok (.bipush 17, 2) := by decide +kernel
theorem dX1_imageOf_2 : decode cX1_imageOf 2 = .ok (.iload_n 0, 1) := by decide +kernel
theorem dX1_imageOf_3 : decode cX1_imageOf 3 = .ok (.iconst 1, 1) := by decide +kernel
theorem dX1_imageOf_4 : decode cX1_imageOf 4 = .ok (.iload_n 1, 1) := by decide +kernel
theorem dX1_imageOf_5 : decode cX1_imageOf 5 = .ok (.ishl, 1) := by decide +kernel
theorem dX1_imageOf_6 : decode cX1_imageOf 6 = .ok (.iconst 1, 1) := by decide +kernel
theorem dX1_imageOf_7 : decode cX1_imageOf 7 = .ok (.isub, 1) := by decide +kernel
theorem dX1_imageOf_8 : decode cX1_imageOf 8 = .ok (.iand, 1) := by decide +kernel
theorem dX1_imageOf_9 : decode cX1_imageOf 9 = .ok (.invokestatic 66, 3) := by decide +kernel
theorem dX1_imageOf_12 : decode cX1_imageOf 12 = .ok (.iadd, 1) := by decide +kernel
theorem dX1_imageOf_13 : decode cX1_imageOf 13 = .ok (.ireturn, 1) := by decide +kernel
theorem dX1_contains_0 : decode cX1_contains 0 = .ok (.iload_n 0, 1) := by decide +kernel
theorem dX1_contains_1 : decode cX1_contains 1 = .ok (.iload_n 1, 1) := by decide +kernel
theorem dX1_contains_2 : decode cX1_contains 2 = .ok (.ishr, 1) := by decide +kernel
theorem dX1_contains_3 : decode cX1_contains 3 = .ok (.iconst 1, 1) := by decide +kernel
theorem dX1_contains_4 : decode cX1_contains 4 = .ok (.iand, 1) := by decide +kernel
theorem dX1_contains_5 : decode cX1_contains 5 = .ok (.iconst 1, 1) := by decide +kernel
theorem dX1_contains_6 : decode cX1_contains 6 = .ok (.if_icmp .ne 7, 3) := by decide +kernel
theorem dX1_contains_9 : decode cX1_contains 9 = .ok (.iconst 1, 1) := by decide +kernel
theorem dX1_contains_10 : decode cX1_contains 10 = .ok (.goto 4, 3) := by decide +kernel
theorem dX1_contains_13 : decode cX1_contains 13 = .ok (.iconst 0, 1) := by decide +kernel
theorem dX1_contains_14 : decode cX1_contains 14 = .ok (.ireturn, 1) := by decide +kernel
theorem dX2_init_0 : decode cX2_init 0 = .ok (.aload_n 0, 1) := by decide +kernel
theorem dX2_init_1 : decode cX2_init 1 = .ok (.invokespecial 3, 3) := by decide +kernel
theorem dX2_init_4 : decode cX2_init 4 = .ok (.aload_n 0, 1) := by decide +kernel
theorem dX2_init_5 : decode cX2_init 5 = .ok (.sipush 256, 3) := by decide +kernel
theorem dX2_init_8 : decode cX2_init 8 = .ok (.newarray .int, 2) := by decide +kernel
theorem dX2_init_10 : decode cX2_init 10 = .ok (.putfield 9, 3) := by decide +kernel
theorem dX2_init_13 : decode cX2_init 13 = .ok (.return_, 1) := by decide +kernel
theorem dX2_load_0 : decode cX2_load 0 = .ok (.aload_n 1, 1) := by decide +kernel
theorem dX2_load_1 : decode cX2_load 1 = .ok (.getfield 15, 3) := by decide +kernel
theorem dX2_load_4 : decode cX2_load 4 = .ok (.iconst 0, 1) := by decide +kernel
theorem dX2_load_5 : decode cX2_load 5 = .ok (.aload_n 0, 1) := by decide +kernel
theorem dX2_load_6 : decode cX2_load 6 = .ok (.getfield 9, 3) := by decide +kernel
theorem dX2_load_9 : decode cX2_load 9 = .ok (.iconst 0, 1) := by decide +kernel
theorem dX2_load_10 : decode cX2_load 10 = .ok (.aload_n 0, 1) := by decide +kernel
theorem dX2_load_11 : decode cX2_load 11 = .ok (.getfield 9, 3) := by decide +kernel
theorem dX2_load_14 : decode cX2_load 14 = .ok (.arraylength, 1) := by decide +kernel
theorem dX2_load_15 : decode cX2_load 15 = .ok (.invokestatic 18, 3) := by decide +kernel
theorem dX2_load_18 : decode cX2_load 18 = .ok (.return_, 1) := by decide +kernel
theorem dX2_differs_0 : decode cX2_differs 0 = .ok (.iload_n 2, 1) := by decide +kernel
theorem dX2_differs_1 : decode cX2_differs 1 = .ok (.bipush 16, 2) := by decide +kernel
theorem dX2_differs_3 : decode cX2_differs 3 = .ok (.imul, 1) := by decide +kernel
theorem dX2_differs_4 : decode cX2_differs 4 = .ok (.istore_n 3, 1) := by decide +kernel
theorem dX2_differs_5 : decode cX2_differs 5 = .ok (.iload_n 3, 1) := by decide +kernel
theorem dX2_differs_6 : decode cX2_differs 6 = .ok (.istore 4, 2) := by decide +kernel
theorem dX2_differs_8 : decode cX2_differs 8 = .ok (.iload 4, 2) := by decide +kernel
theorem dX2_differs_10 : decode cX2_differs 10 = .ok (.iload_n 3, 1) := by decide +kernel
theorem dX2_differs_11 : decode cX2_differs 11 = .ok (.bipush 16, 2) := by decide +kernel
theorem dX2_differs_13 : decode cX2_differs 13 = .ok (.iadd, 1) := by decide +kernel
theorem dX2_differs_14 : decode cX2_differs 14 = .ok (.if_icmp .ge 28, 3) := by decide +kernel
theorem dX2_differs_17 : decode cX2_differs 17 = .ok (.aload_n 0, 1) := by decide +kernel
theorem dX2_differs_18 : decode cX2_differs 18 = .ok (.getfield 9, 3) := by decide +kernel
theorem dX2_differs_21 : decode cX2_differs 21 = .ok (.iload 4, 2) := by decide +kernel
theorem dX2_differs_23 : decode cX2_differs 23 = .ok (.iaload, 1) := by decide +kernel
theorem dX2_differs_24 : decode cX2_differs 24 = .ok (.aload_n 1, 1) := by decide +kernel
theorem dX2_differs_25 : decode cX2_differs 25 = .ok (.getfield 15, 3) := by decide +kernel
theorem dX2_differs_28 : decode cX2_differs 28 = .ok (.iload 4, 2) := by decide +kernel
theorem dX2_differs_30 : decode cX2_differs 30 = .ok (.iaload, 1) := by decide +kernel
theorem dX2_differs_31 : decode cX2_differs 31 = .ok (.if_icmp .eq 5, 3) := by decide +kernel
theorem dX2_differs_34 : decode cX2_differs 34 = .ok (.iconst 1, 1) := by decide +kernel
theorem dX2_differs_35 : decode cX2_differs 35 = .ok (.ireturn, 1) := by decide +kernel
theorem dX2_differs_36 : decode cX2_differs 36 = .ok (.iinc 4 1, 3) := by decide +kernel
theorem dX2_differs_39 : decode cX2_differs 39 = .ok (.goto (-31), 3) := by decide +kernel
theorem dX2_differs_42 : decode cX2_differs 42 = .ok (.iconst 0, 1) := by decide +kernel
theorem dX2_differs_43 : decode cX2_differs 43 = .ok (.ireturn, 1) := by decide +kernel
set_option maxRecDepth 20000 in
theorem ggX2_save_X0_write : GoodIn wsX2_save wsX0_write := goodIn_r _ [6, 7, 8, 9, 10, 11, 12, 13, 14, 16, 17, 18, 19] (by decide +kernel) (by decide +kernel)
set_option maxRecDepth 20000 in
theorem gX2_save_X0_write : GoodIn wsX2_save (wsV RX2 24 RX0 yX0_write wsX0_write) := goodIn_app (goodIn_of _ (by decide +kernel)) ggX2_save_X0_write
theorem dX2_save_0 : decode cX2_save 0 = .ok (.aload_n 1, 1) := by decide +kernel
theorem dX2_save_1 : decode cX2_save 1 = .ok (.iload_n 2, 1) := by decide +kernel
theorem dX2_save_2 : decode cX2_save 2 = .ok (.aload_n 0, 1) := by decide +kernel
theorem dX2_save_3 : decode cX2_save 3 = .ok (.getfield 9, 3) := by decide +kernel
theorem dX2_save_6 : decode cX2_save 6 = .ok (.iload_n 2, 1) := by decide +kernel
theorem dX2_save_7 : decode cX2_save 7 = .ok (.invokevirtual 24, 3) := by decide +kernel
theorem dX2_save_10 : decode cX2_save 10 = .ok (.ireturn, 1) := by decide +kernel
theorem dX2_word_0 : decode cX2_word 0 = .ok (.aload_n 0, 1) := by decide +kernel
theorem dX2_word_1 : decode cX2_word 1 = .ok (.getfield 9, 3) := by decide +kernel
theorem dX2_word_4 : decode cX2_word 4 = .ok (.iload_n 1, 1) := by decide +kernel
theorem dX2_word_5 : decode cX2_word 5 = .ok (.iaload, 1) := by decide +kernel
theorem dX2_word_6 : decode cX2_word 6 = .ok (.ireturn, 1) := by decide +kernel
theorem dX2_setWord_0 : decode cX2_setWord 0 = .ok (.aload_n 0, 1) := by decide +kernel
theorem dX2_setWord_1 : decode cX2_setWord 1 = .ok (.getfield 9, 3) := by decide +kernel
theorem dX2_setWord_4 : decode cX2_setWord 4 = .ok (.iload_n 1, 1) := by decide +kernel
theorem dX2_setWord_5 : decode cX2_setWord 5 = .ok (.iload_n 2, 1) := by decide +kernel
theorem dX2_setWord_6 : decode cX2_setWord 6 = .ok (.iastore, 1) := by decide +kernel
theorem dX2_setWord_7 : decode cX2_setWord 7 = .ok (.return_, 1) := by decide +kernel
theorem dX2_hasTable_0 : decode cX2_hasTable 0 = .ok (.iload_n 1, 1) := by decide +kernel
theorem dX2_hasTable_1 : decode cX2_hasTable 1 = .ok (.ifCond .lt 21, 3) := by decide +kernel
theorem dX2_hasTable_4 : decode cX2_hasTable 4 = .ok (.iload_n 1, 1) := by decide +kernel
theorem dX2_hasTable_5 : decode cX2_hasTable 5 = .ok (.iconst 5, 1) := by decide +kernel
theorem dX2_hasTable_6 : decode cX2_hasTable 6 = .ok (.if_icmp .ge 16, 3) := by decide +kernel
theorem dX2_hasTable_9 : decode cX2_hasTable 9 = .ok (.aload_n 0, 1) := by decide +kernel
theorem dX2_hasTable_10 : decode cX2_hasTable 10 = .ok (.getfield 9, 3) := by decide +kernel
theorem dX2_hasTable_13 : decode cX2_hasTable 13 = .ok (.iload_n 1, 1) := by decide +kernel
theorem dX2_hasTable_14 : decode cX2_hasTable 14 = .ok (.iaload, 1) := by decide +kernel
theorem dX2_hasTable_15 : decode cX2_hasTable 15 = .ok (.ifCond .eq 7, 3) := by decide +kernel
theorem dX2_hasTable_18 : decode cX2_hasTable 18 = .ok (.iconst 1, 1) := by decide +kernel
theorem dX2_hasTable_19 : decode cX2_hasTable 19 = .ok (.goto 4, 3) := by decide +kernel
theorem dX2_hasTable_22 : decode cX2_hasTable 22 = .ok (.iconst 0, 1) := by decide +kernel
theorem dX2_hasTable_23 : decode cX2_hasTable 23 = .ok (.ireturn, 1) := by decide +kernel
set_option maxRecDepth 20000 in
theorem ggX2_width_X2_hasTable : GoodIn wsX2_width wsX2_hasTable := goodIn_r _ [6, 1, 7] (by decide +kernel) (by decide +kernel)
set_option maxRecDepth 20000 in
theorem gX2_width_X2_hasTable : GoodIn wsX2_width (wsV RX2 28 RX2 yX2_hasTable wsX2_hasTable) := goodIn_app (goodIn_of _ (by decide +kernel)) ggX2_width_X2_hasTable
theorem dX2_width_0 : decode cX2_width 0 = .ok (.aload_n 0, 1) := by decide +kernel
theorem dX2_width_1 : decode cX2_width 1 = .ok (.iload_n 1, 1) := by decide +kernel
theorem dX2_width_2 : decode cX2_width 2 = .ok (.invokevirtual 28, 3) := by decide +kernel
theorem dX2_width_5 : decode cX2_width 5 = .ok (.ifCond .eq 12, 3) := by decide +kernel
theorem dX2_width_8 : decode cX2_width 8 = .ok (.aload_n 0, 1) := by decide +kernel
theorem dX2_width_9 : decode cX2_width 9 = .ok (.getfield 9, 3) := by decide +kernel
theorem dX2_width_12 : decode cX2_width 12 = .ok (.iload_n 1, 1) := by decide +kernel
theorem dX2_width_13 : decode cX2_width 13 = .ok (.iaload, 1) := by decide +kernel
theorem dX2_width_14 : decode cX2_width 14 = .ok (.goto 4, 3) := by decide +kernel
theorem dX2_width_17 : decode cX2_width 17 = .ok (.iconst 0, 1) := by decide +kernel
theorem dX2_width_18 : decode cX2_width 18 = .ok (.ireturn, 1) := by decide +kernel
set_option maxRecDepth 20000 in
theorem ggX2_hasCol_X2_width : GoodIn wsX2_hasCol wsX2_width := goodIn_r _ [5, 6, 7, 8, 9, 4, 10, 11] (by decide +kernel) (by decide +kernel)
set_option maxRecDepth 20000 in
theorem gX2_hasCol_X2_width : GoodIn wsX2_hasCol (wsV RX2 32 RX2 yX2_width wsX2_width) := goodIn_app (goodIn_of _ (by decide +kernel)) ggX2_hasCol_X2_width
theorem dX2_hasCol_0 : decode cX2_hasCol 0 = .ok (.iload_n 2, 1) := by decide +kernel
theorem dX2_hasCol_1 : decode cX2_hasCol 1 = .ok (.ifCond .lt 16, 3) := by decide +kernel
theorem dX2_hasCol_4 : decode cX2_hasCol 4 = .ok (.iload_n 2, 1) := by decide +kernel
theorem dX2_hasCol_5 : decode cX2_hasCol 5 = .ok (.aload_n 0, 1) := by decide +kernel
theorem dX2_hasCol_6 : decode cX2_hasCol 6 = .ok (.iload_n 1, 1) := by decide +kernel
theorem dX2_hasCol_7 : decode cX2_hasCol 7 = .ok (.invokevirtual 32, 3) := by decide +kernel
theorem dX2_hasCol_10 : decode cX2_hasCol 10 = .ok (.if_icmp .ge 7, 3) := by decide +kernel
theorem dX2_hasCol_13 : decode cX2_hasCol 13 = .ok (.iconst 1, 1) := by decide +kernel
theorem dX2_hasCol_14 : decode cX2_hasCol 14 = .ok (.goto 4, 3) := by decide +kernel
theorem dX2_hasCol_17 : decode cX2_hasCol 17 = .ok (.iconst 0, 1) := by decide +kernel
theorem dX2_hasCol_18 : decode cX2_hasCol 18 = .ok (.ireturn, 1) := by decide +kernel
theorem dX2_freeTable_0 : decode cX2_freeTable 0 = .ok (.iconst 0, 1) := by decide +kernel
theorem dX2_freeTable_1 : decode cX2_freeTable 1 = .ok (.istore_n 1, 1) := by decide +kernel
theorem dX2_freeTable_2 : decode cX2_freeTable 2 = .ok (.iload_n 1, 1) := by decide +kernel
theorem dX2_freeTable_3 : decode cX2_freeTable 3 = .ok (.iconst 5, 1) := by decide +kernel
theorem dX2_freeTable_4 : decode cX2_freeTable 4 = .ok (.if_icmp .ge 20, 3) := by decide +kernel
theorem dX2_freeTable_7 : decode cX2_freeTable 7 = .ok (.aload_n 0, 1) := by decide +kernel
theorem dX2_freeTable_8 : decode cX2_freeTable 8 = .ok (.getfield 9, 3) := by decide +kernel
theorem dX2_freeTable_11 : decode cX2_freeTable 11 = .ok (.iload_n 1, 1) := by decide +kernel
theorem dX2_freeTable_12 : decode cX2_freeTable 12 = .ok (.iaload, 1) := by decide +kernel
theorem dX2_freeTable_13 : decode cX2_freeTable 13 = .ok (.ifCond .ne 5, 3) := by decide +kernel
theorem dX2_freeTable_16 : decode cX2_freeTable 16 = .ok (.iload_n 1, 1) := by decide +kernel
theorem dX2_freeTable_17 : decode cX2_freeTable 17 = .ok (.ireturn, 1) := by decide +kernel
theorem dX2_freeTable_18 : decode cX2_freeTable 18 = .ok (.iinc 1 1, 3) := by decide +kernel
theorem dX2_freeTable_21 : decode cX2_freeTable 21 = .ok (.goto (-19), 3) := by decide +kernel
theorem dX2_freeTable_24 : decode cX2_freeTable 24 = .ok (.iconst (-1), 1) := by decide +kernel
theorem dX2_freeTable_25 : decode cX2_freeTable 25 = .ok (.ireturn, 1) := by decide +kernel
theorem dX2_addTable_0 : decode cX2_addTable 0 = .ok (.aload_n 0, 1) := by decide +kernel
theorem dX2_addTable_1 : decode cX2_addTable 1 = .ok (.getfield 9, 3) := by decide +kernel
theorem dX2_addTable_4 : decode cX2_addTable 4 = .ok (.iload_n 1, 1) := by decide +kernel
theorem dX2_addTable_5 : decode cX2_addTable 5 = .ok (.iload_n 2, 1) := by decide +kernel
theorem dX2_addTable_6 : decode cX2_addTable 6 = .ok (.iastore, 1) := by decide +kernel
theorem dX2_addTable_7 : decode cX2_addTable 7 = .ok (.return_, 1) := by decide +kernel
set_option maxRecDepth 20000 in
theorem ggX2_removeTable_X2_isPageOf : GoodIn wsX2_removeTable wsX2_isPageOf := goodIn_r _ [6, 1, 11] (by decide +kernel) (by decide +kernel)
set_option maxRecDepth 20000 in
theorem gX2_removeTable_X2_isPageOf : GoodIn wsX2_removeTable (wsV RX2 36 RX2 yX2_isPageOf wsX2_isPageOf) := goodIn_app (goodIn_of _ (by decide +kernel)) ggX2_removeTable_X2_isPageOf
set_option maxRecDepth 20000 in
theorem ggX2_removeTable_X2_clear : GoodIn wsX2_removeTable wsX2_clear := goodIn_r _ [10, 1, 11] (by decide +kernel) (by decide +kernel)
set_option maxRecDepth 20000 in
theorem gX2_removeTable_X2_clear : GoodIn wsX2_removeTable (wsV RX2 40 RX2 yX2_clear wsX2_clear) := goodIn_app (goodIn_of _ (by decide +kernel)) ggX2_removeTable_X2_clear
theorem dX2_removeTable_0 : decode cX2_removeTable 0 = .ok (.iconst 1, 1) := by decide +kernel
theorem dX2_removeTable_1 : decode cX2_removeTable 1 = .ok (.istore_n 2, 1) := by decide +kernel
theorem dX2_removeTable_2 : decode cX2_removeTable 2 = .ok (.iload_n 2, 1) := by decide +kernel
theorem dX2_removeTable_3 : decode cX2_removeTable 3 = .ok (.bipush 16, 2) := by decide +kernel
theorem dX2_removeTable_5 : decode cX2_removeTable 5 = .ok (.if_icmp .ge 28, 3) := by decide +kernel
theorem dX2_removeTable_8 : decode cX2_removeTable 8 = .ok (.aload_n 0, 1) := by decide +kernel
theorem dX2_removeTable_9 : decode cX2_removeTable 9 = .ok (.iload_n 1, 1) := by decide +kernel
theorem dX2_removeTable_10 : decode cX2_removeTable 10 = .ok (.iload_n 2, 1) := by decide +kernel
theorem dX2_removeTable_11 : decode cX2_removeTable 11 = .ok (.invokevirtual 36, 3) := by decide +kernel
theorem dX2_removeTable_14 : decode cX2_removeTable 14 = .ok (.ifCond .eq 13, 3) := by decide +kernel
theorem dX2_removeTable_17 : decode cX2_removeTable 17 = .ok (.aload_n 0, 1) := by decide +kernel
theorem dX2_removeTable_18 : decode cX2_removeTable 18 = .ok (.iload_n 2, 1) := by decide +kernel
theorem dX2_removeTable_19 : decode cX2_removeTable 19 = .ok (.bipush 16, 2) := by decide +kernel
theorem dX2_removeTable_21 : decode cX2_removeTable 21 = .ok (.imul, 1) := by decide +kernel
theorem dX2_removeTable_22 : decode cX2_removeTable 22 = .ok (.bipush 16, 2) := by decide +kernel
theorem dX2_removeTable_24 : decode cX2_removeTable 24 = .ok (.invokevirtual 40, 3) := by decide +kernel
theorem dX2_removeTable_27 : decode cX2_removeTable 27 = .ok (.iinc 2 1, 3) := by decide +kernel
theorem dX2_removeTable_30 : decode cX2_removeTable 30 = .ok (.goto (-28), 3) := by decide +kernel
theorem dX2_removeTable_33 : decode cX2_removeTable 33 = .ok (.aload_n 0, 1) := by decide +kernel
theorem dX2_removeTable_34 : decode cX2_removeTable 34 = .ok (.getfield 9, 3) := by decide +kernel
theorem dX2_removeTable_37 : decode cX2_removeTable 37 = .ok (.bipush 8, 2) := by decide +kernel
theorem dX2_removeTable_39 : decode cX2_removeTable 39 = .ok (.iload_n 1, 1) := by decide +kernel
theorem dX2_removeTable_40 : decode cX2_removeTable 40 = .ok (.iadd, 1) := by decide +kernel
theorem dX2_removeTable_41 : decode cX2_removeTable 41 = .ok (.iconst 0, 1) := by decide +kernel
theorem dX2_removeTable_42 : decode cX2_removeTable 42 = .ok (.iastore, 1) := by decide +kernel
theorem dX2_removeTable_43 : decode cX2_removeTable 43 = .ok (.aload_n 0, 1) := by decide +kernel
theorem dX2_removeTable_44 : decode cX2_removeTable 44 = .ok (.getfield 9, 3) := by decide +kernel
theorem dX2_removeTable_47 : decode cX2_removeTable 47 = .ok (.iload_n 1, 1) := by decide +kernel
theorem dX2_removeTable_48 : decode cX2_removeTable 48 = .ok (.iconst 0, 1) := by decide +kernel
theorem dX2_removeTable_49 : decode cX2_removeTable 49 = .ok (.iastore, 1) := by decide +kernel
theorem dX2_removeTable_50 : decode cX2_removeTable 50 = .ok (.return_, 1) := by decide +kernel
set_option maxRecDepth 20000 in
theorem ggX2_rowOf_X2_leastRow : GoodIn wsX2_rowOf wsX2_leastRow := goodIn_r _ [5, 6, 7, 8, 9, 4, 10, 11, 12, 13, 14, 15, 16, 17, 18, 19, 20, 21, 22, 23, 24, 25, 26, 27, 28, 29, 30, 31] (by decide +kernel) (by decide +kernel)
set_option maxRecDepth 20000 in
theorem gX2_rowOf_X2_leastRow : GoodIn wsX2_rowOf (wsV RX2 44 RX2 yX2_leastRow wsX2_leastRow) := goodIn_app (goodIn_of _ (by decide +kernel)) ggX2_rowOf_X2_leastRow
theorem dX2_rowOf_0 : decode cX2_rowOf 0 = .ok (.aload_n 0, 1) := by decide +kernel
theorem dX2_rowOf_1 : decode cX2_rowOf 1 = .ok (.iload_n 1, 1) := by decide +kernel
theorem dX2_rowOf_2 : decode cX2_rowOf 2 = .ok (.iconst 0, 1) := by decide +kernel
theorem dX2_rowOf_3 : decode cX2_rowOf 3 = .ok (.iload_n 2, 1) := by decide +kernel
theorem dX2_rowOf_4 : decode cX2_rowOf 4 = .ok (.iload_n 2, 1) := by decide +kernel
theorem dX2_rowOf_5 : decode cX2_rowOf 5 = .ok (.iload_n 2, 1) := by decide +kernel
theorem dX2_rowOf_6 : decode cX2_rowOf 6 = .ok (.i2l, 1) := by decide +kernel
theorem dX2_rowOf_7 : decode cX2_rowOf 7 = .ok (.lconst 1, 1) := by decide +kernel
theorem dX2_rowOf_8 : decode cX2_rowOf 8 = .ok (.lsub, 1) := by decide +kernel
theorem dX2_rowOf_9 : decode cX2_rowOf 9 = .ok (.invokevirtual 44, 3) := by decide +kernel
theorem dX2_rowOf_12 : decode cX2_rowOf 12 = .ok (.ireturn, 1) := by decide +kernel
set_option maxRecDepth 20000 in
theorem ggX2_leastRow_X2_slots : GoodIn wsX2_leastRow wsX2_slots := goodIn_r _ [6, 7, 8, 9, 5, 10, 1, 11, 12, 13, 14, 27] (by decide +kernel) (by decide +kernel)
set_option maxRecDepth 20000 in
theorem gX2_leastRow_X2_slots : GoodIn wsX2_leastRow (wsV RX2 48 RX2 yX2_slots wsX2_slots) := goodIn_app (goodIn_of _ (by decide +kernel)) ggX2_leastRow_X2_slots
set_option maxRecDepth 20000 in
theorem ggX2_leastRow_X2_isPageOf : GoodIn wsX2_leastRow wsX2_isPageOf := goodIn_r _ [18, 1, 27] (by decide +kernel) (by decide +kernel)
set_option maxRecDepth 20000 in
theorem gX2_leastRow_X2_isPageOf : GoodIn wsX2_leastRow (wsV RX2 36 RX2 yX2_isPageOf wsX2_isPageOf) := goodIn_app (goodIn_of _ (by decide +kernel)) ggX2_leastRow_X2_isPageOf
set_option maxRecDepth 20000 in
theorem ggX2_leastRow_X2_rowAt : GoodIn wsX2_leastRow wsX2_rowAt := goodIn_r _ [22, 7, 8, 9, 5, 10, 1, 11, 12, 13, 14, 27] (by decide +kernel) (by decide +kernel)
set_option maxRecDepth 20000 in
theorem gX2_leastRow_X2_rowAt : GoodIn wsX2_leastRow (wsV RX2 51 RX2 yX2_rowAt wsX2_rowAt) := goodIn_app (goodIn_of _ (by decide +kernel)) ggX2_leastRow_X2_rowAt
set_option maxRecDepth 20000 in
theorem ggX2_leastRow_X2_hasRow : GoodIn wsX2_leastRow wsX2_hasRow := goodIn_r _ [26, 1, 27] (by decide +kernel) (by decide +kernel)
set_option maxRecDepth 20000 in
theorem gX2_leastRow_X2_hasRow : GoodIn wsX2_leastRow (wsV RX2 55 RX2 yX2_hasRow wsX2_hasRow) := goodIn_app (goodIn_of _ (by decide +kernel)) ggX2_leastRow_X2_hasRow
theorem dX2_leastRow_0 : decode cX2_leastRow 0 = .ok (.iconst (-1), 1) := by decide +kernel
theorem dX2_leastRow_1 : decode cX2_leastRow 1 = .ok (.istore 7, 2) := by decide +kernel
theorem dX2_leastRow_3 : decode cX2_leastRow 3 = .ok (.aload_n 0, 1) := by decide +kernel
theorem dX2_leastRow_4 : decode cX2_leastRow 4 = .ok (.iload_n 1, 1) := by decide +kernel
theorem dX2_leastRow_5 : decode cX2_leastRow 5 = .ok (.invokevirtual 48, 3) := by decide +kernel
theorem dX2_leastRow_8 : decode cX2_leastRow 8 = .ok (.istore 8, 2) := by decide +kernel
theorem dX2_leastRow_10 : decode cX2_leastRow 10 = .ok (.iconst 1, 1) := by decide +kernel
theorem dX2_leastRow_11 : decode cX2_leastRow 11 = .ok (.istore 9, 2) := by decide +kernel
theorem dX2_leastRow_13 : decode cX2_leastRow 13 = .ok (.iload 9, 2) := by decide +kernel
theorem dX2_leastRow_15 : decode cX2_leastRow 15 = .ok (.bipush 16, 2) := by decide +kernel
theorem dX2_leastRow_17 : decode cX2_leastRow 17 = .ok (.if_icmp .ge 145, 3) := by decide +kernel
theorem dX2_leastRow_20 : decode cX2_leastRow 20 = .ok (.aload_n 0, 1) := by decide +kernel
theorem dX2_leastRow_21 : decode cX2_leastRow 21 = .ok (.iload_n 1, 1) := by decide +kernel
theorem dX2_leastRow_22 : decode cX2_leastRow 22 = .ok (.iload 9, 2) := by decide +kernel
theorem dX2_leastRow_24 : decode cX2_leastRow 24 = .ok (.invokevirtual 36, 3) := by decide +kernel
theorem dX2_leastRow_27 : decode cX2_leastRow 27 = .ok (.ifCond .eq 8, 3) := by decide +kernel
theorem dX2_leastRow_30 : decode cX2_leastRow 30 = .ok (.iload 8, 2) := by decide +kernel
theorem dX2_leastRow_32 : decode cX2_leastRow 32 = .ok (.goto 4, 3) := by decide +kernel
theorem dX2_leastRow_35 : decode cX2_leastRow 35 = .ok (.iconst 0, 1) := by decide +kernel
theorem dX2_leastRow_36 : decode cX2_leastRow 36 = .ok (.istore 10, 2) := by decide +kernel
theorem dX2_leastRow_38 : decode cX2_leastRow 38 = .ok (.iconst 0, 1) := by decide +kernel
theorem dX2_leastRow_39 : decode cX2_leastRow 39 = .ok (.istore 11, 2) := by decide +kernel
theorem dX2_leastRow_41 : decode cX2_leastRow 41 = .ok (.iload 11, 2) := by decide +kernel
theorem dX2_leastRow_43 : decode cX2_leastRow 43 = .ok (.iload 10, 2) := by decide +kernel
theorem dX2_leastRow_45 : decode cX2_leastRow 45 = .ok (.if_icmp .ge 111, 3) := by decide +kernel
theorem dX2_leastRow_48 : decode cX2_leastRow 48 = .ok (.aload_n 0, 1) := by decide +kernel
theorem dX2_leastRow_49 : decode cX2_leastRow 49 = .ok (.iload_n 1, 1) := by decide +kernel
theorem dX2_leastRow_50 : decode cX2_leastRow 50 = .ok (.iload 9, 2) := by decide +kernel
theorem dX2_leastRow_52 : decode cX2_leastRow 52 = .ok (.iload 11, 2) := by decide +kernel
theorem dX2_leastRow_54 : decode cX2_leastRow 54 = .ok (.invokevirtual 51, 3) := by decide +kernel
theorem dX2_leastRow_57 : decode cX2_leastRow 57 = .ok (.istore 12, 2) := by decide +kernel
theorem dX2_leastRow_59 : decode cX2_leastRow 59 = .ok (.aload_n 0, 1) := by decide +kernel
theorem dX2_leastRow_60 : decode cX2_leastRow 60 = .ok (.iload 9, 2) := by decide +kernel
theorem dX2_leastRow_62 : decode cX2_leastRow 62 = .ok (.iload 11, 2) := by decide +kernel
theorem dX2_leastRow_64 : decode cX2_leastRow 64 = .ok (.invokevirtual 55, 3) := by decide +kernel
theorem dX2_leastRow_67 : decode cX2_leastRow 67 = .ok (.ifCond .eq 48, 3) := by decide +kernel
theorem dX2_leastRow_70 : decode cX2_leastRow 70 = .ok (.aload_n 0, 1) := by decide +kernel
theorem dX2_leastRow_71 : decode cX2_leastRow 71 = .ok (.getfield 9, 3) := by decide +kernel
theorem dX2_leastRow_74 : decode cX2_leastRow 74 = .ok (.iload 12, 2) := by decide +kernel
theorem dX2_leastRow_76 : decode cX2_leastRow 76 = .ok (.iaload, 1) := by decide +kernel
theorem dX2_leastRow_77 : decode cX2_leastRow 77 = .ok (.i2l, 1) := by decide +kernel
theorem dX2_leastRow_78 : decode cX2_leastRow 78 = .ok (.lload 5, 2) := by decide +kernel
theorem dX2_leastRow_80 : decode cX2_leastRow 80 = .ok (.lcmp, 1) := by decide +kernel
theorem dX2_leastRow_81 : decode cX2_leastRow 81 = .ok (.ifCond .le 34, 3) := by decide +kernel
theorem dX2_leastRow_84 : decode cX2_leastRow 84 = .ok (.aload_n 0, 1) := by decide +kernel
theorem dX2_leastRow_85 : decode cX2_leastRow 85 = .ok (.getfield 9, 3) := by decide +kernel
theorem dX2_leastRow_88 : decode cX2_leastRow 88 = .ok (.iload 12, 2) := by decide +kernel
theorem dX2_leastRow_90 : decode cX2_leastRow 90 = .ok (.iload_n 2, 1) := by decide +kernel
theorem dX2_leastRow_91 : decode cX2_leastRow 91 = .ok (.iadd, 1) := by decide +kernel
theorem dX2_leastRow_92 : decode cX2_leastRow 92 = .ok (.iaload, 1) := by decide +kernel
theorem dX2_leastRow_93 : decode cX2_leastRow 93 = .ok (.iload_n 3, 1) := by decide +kernel
theorem dX2_leastRow_94 : decode cX2_leastRow 94 = .ok (.if_icmp .lt 21, 3) := by decide +kernel
theorem dX2_leastRow_97 : decode cX2_leastRow 97 = .ok (.aload_n 0, 1) := by decide +kernel
theorem dX2_leastRow_98 : decode cX2_leastRow 98 = .ok (.getfield 9, 3) := by decide +kernel
theorem dX2_leastRow_101 : decode cX2_leastRow 101 = .ok (.iload 12, 2) := by decide +kernel
theorem dX2_leastRow_103 : decode cX2_leastRow 103 = .ok (.iload_n 2, 1) := by decide +kernel
theorem dX2_leastRow_104 : decode cX2_leastRow 104 = .ok (.iadd, 1) := by decide +kernel
theorem dX2_leastRow_105 : decode cX2_leastRow 105 = .ok (.iaload, 1) := by decide +kernel
theorem dX2_leastRow_106 : decode cX2_leastRow 106 = .ok (.iload 4, 2) := by decide +kernel
theorem dX2_leastRow_108 : decode cX2_leastRow 108 = .ok (.if_icmp .gt 7, 3) := by decide +kernel
theorem dX2_leastRow_111 : decode cX2_leastRow 111 = .ok (.iconst 1, 1) := by decide +kernel
theorem dX2_leastRow_112 : decode cX2_leastRow 112 = .ok (.goto 4, 3) := by decide +kernel
theorem dX2_leastRow_115 : decode cX2_leastRow 115 = .ok (.iconst 0, 1) := by decide +kernel
theorem dX2_leastRow_116 : decode cX2_leastRow 116 = .ok (.istore 13, 2) := by decide +kernel
theorem dX2_leastRow_118 : decode cX2_leastRow 118 = .ok (.iload 13, 2) := by decide +kernel
theorem dX2_leastRow_120 : decode cX2_leastRow 120 = .ok (.ifCond .eq 30, 3) := by decide +kernel
theorem dX2_leastRow_123 : decode cX2_leastRow 123 = .ok (.iload 7, 2) := by decide +kernel
theorem dX2_leastRow_125 : decode cX2_leastRow 125 = .ok (.iconst (-1), 1) := by decide +kernel
theorem dX2_leastRow_126 : decode cX2_leastRow 126 = .ok (.if_icmp .eq 20, 3) := by decide +kernel
theorem dX2_leastRow_129 : decode cX2_leastRow 129 = .ok (.aload_n 0, 1) := by decide +kernel
theorem dX2_leastRow_130 : decode cX2_leastRow 130 = .ok (.getfield 9, 3) := by decide +kernel
theorem dX2_leastRow_133 : decode cX2_leastRow 133 = .ok (.iload 12, 2) := by decide +kernel
theorem dX2_leastRow_135 : decode cX2_leastRow 135 = .ok (.iaload, 1) := by decide +kernel
theorem dX2_leastRow_136 : decode cX2_leastRow 136 = .ok (.aload_n 0, 1) := by decide +kernel
theorem dX2_leastRow_137 : decode cX2_leastRow 137 = .ok (.getfield 9, 3) := by decide +kernel
theorem dX2_leastRow_140 : decode cX2_leastRow 140 = .ok (.iload 7, 2) := by decide +kernel
theorem dX2_leastRow_142 : decode cX2_leastRow 142 = .ok (.iaload, 1) := by decide +kernel
theorem dX2_leastRow_143 : decode cX2_leastRow 143 = .ok (.if_icmp .ge 7, 3) := by decide +kernel
theorem dX2_leastRow_146 : decode cX2_leastRow 146 = .ok (.iload 12, 2) := by decide +kernel
theorem dX2_leastRow_148 : decode cX2_leastRow 148 = .ok (.istore 7, 2) := by decide +kernel
theorem dX2_leastRow_150 : decode cX2_leastRow 150 = .ok (.iinc 11 1, 3) := by decide +kernel
theorem dX2_leastRow_153 : decode cX2_leastRow 153 = .ok (.goto (-112), 3) := by decide +kernel
theorem dX2_leastRow_156 : decode cX2_leastRow 156 = .ok (.iinc 9 1, 3) := by decide +kernel
theorem dX2_leastRow_159 : decode cX2_leastRow 159 = .ok (.goto (-146), 3) := by decide +kernel
theorem dX2_leastRow_162 : decode cX2_leastRow 162 = .ok (.iload 7, 2) := by decide +kernel
theorem dX2_leastRow_164 : decode cX2_leastRow 164 = .ok (.ireturn, 1) := by decide +kernel
set_option maxRecDepth 20000 in
theorem ggX2_rowsOf_X2_isPageOf : GoodIn wsX2_rowsOf wsX2_isPageOf := goodIn_r _ [6, 1, 14] (by decide +kernel) (by decide +kernel)
set_option maxRecDepth 20000 in
theorem gX2_rowsOf_X2_isPageOf : GoodIn wsX2_rowsOf (wsV RX2 36 RX2 yX2_isPageOf wsX2_isPageOf) := goodIn_app (goodIn_of _ (by decide +kernel)) ggX2_rowsOf_X2_isPageOf
set_option maxRecDepth 20000 in
theorem ggX2_rowsOf_J6_bitCount_0f7a4 : GoodIn wsX2_rowsOf wsJ6_bitCount_0f7a4 := goodIn_r _ [10, 11, 12, 13] (by decide +kernel) (by decide +kernel)
set_option maxRecDepth 20000 in
theorem gX2_rowsOf_J6_bitCount_0f7a4 : GoodIn wsX2_rowsOf (va_wsS RX2 58 yJ6_bitCount_0f7a4 wsJ6_bitCount_0f7a4) := goodIn_app (goodIn_of _ (by decide +kernel)) ggX2_rowsOf_J6_bitCount_0f7a4
theorem dX2_rowsOf_0 : decode cX2_rowsOf 0 = .ok (.iconst 0, 1) := by decide +kernel
theorem dX2_rowsOf_1 : decode cX2_rowsOf 1 = .ok (.istore_n 2, 1) := by decide +kernel
theorem dX2_rowsOf_2 : decode cX2_rowsOf 2 = .ok (.iconst 1, 1) := by decide +kernel
theorem dX2_rowsOf_3 : decode cX2_rowsOf 3 = .ok (.istore_n 3, 1) := by decide +kernel
theorem dX2_rowsOf_4 : decode cX2_rowsOf 4 = .ok (.iload_n 3, 1) := by decide +kernel
theorem dX2_rowsOf_5 : decode cX2_rowsOf 5 = .ok (.bipush 16, 2) := by decide +kernel
theorem dX2_rowsOf_7 : decode cX2_rowsOf 7 = .ok (.if_icmp .ge 35, 3) := by decide +kernel
theorem dX2_rowsOf_10 : decode cX2_rowsOf 10 = .ok (.aload_n 0, 1) := by decide +kernel
theorem dX2_rowsOf_11 : decode cX2_rowsOf 11 = .ok (.iload_n 1, 1) := by decide +kernel
theorem dX2_rowsOf_12 : decode cX2_rowsOf 12 = .ok (.iload_n 3, 1) := by decide +kernel
theorem dX2_rowsOf_13 : decode cX2_rowsOf 13 = .ok (.invokevirtual 36, 3) := by decide +kernel
theorem dX2_rowsOf_16 : decode cX2_rowsOf 16 = .ok (.ifCond .eq 20, 3) := by decide +kernel
theorem dX2_rowsOf_19 : decode cX2_rowsOf 19 = .ok (.iload_n 2, 1) := by decide +kernel
theorem dX2_rowsOf_20 : decode cX2_rowsOf 20 = .ok (.aload_n 0, 1) := by decide +kernel
theorem dX2_rowsOf_21 : decode cX2_rowsOf 21 = .ok (.getfield 9, 3) := by decide +kernel
theorem dX2_rowsOf_24 : decode cX2_rowsOf 24 = .ok (.iload_n 3, 1) := by decide +kernel
theorem dX2_rowsOf_25 : decode cX2_rowsOf 25 = .ok (.bipush 16, 2) := by decide +kernel
theorem dX2_rowsOf_27 : decode cX2_rowsOf 27 = .ok (.imul, 1) := by decide +kernel
theorem dX2_rowsOf_28 : decode cX2_rowsOf 28 = .ok (.iconst 2, 1) := by decide +kernel
theorem dX2_rowsOf_29 : decode cX2_rowsOf 29 = .ok (.iadd, 1) := by decide +kernel
theorem dX2_rowsOf_30 : decode cX2_rowsOf 30 = .ok (.iaload, 1) := by decide +kernel
theorem dX2_rowsOf_31 : decode cX2_rowsOf 31 = .ok (.invokestatic 58, 3) := by decide +kernel
theorem dX2_rowsOf_34 : decode cX2_rowsOf 34 = .ok (.iadd, 1) := by decide +kernel
theorem dX2_rowsOf_35 : decode cX2_rowsOf 35 = .ok (.istore_n 2, 1) := by decide +kernel
theorem dX2_rowsOf_36 : decode cX2_rowsOf 36 = .ok (.iinc 3 1, 3) := by decide +kernel
theorem dX2_rowsOf_39 : decode cX2_rowsOf 39 = .ok (.goto (-35), 3) := by decide +kernel
theorem dX2_rowsOf_42 : decode cX2_rowsOf 42 = .ok (.iload_n 2, 1) := by decide +kernel
theorem dX2_rowsOf_43 : decode cX2_rowsOf 43 = .ok (.ireturn, 1) := by decide +kernel
set_option maxRecDepth 20000 in
theorem ggX2_addRow_X2_pageWithRoom : GoodIn wsX2_addRow wsX2_pageWithRoom := goodIn_r _ [6, 1, 7, 8, 9, 5, 10, 11, 12, 13, 14, 15, 16, 17, 18, 19, 20, 21, 22, 23, 24, 25, 26, 27, 28, 29, 30, 51] (by decide +kernel) (by decide +kernel)
set_option maxRecDepth 20000 in
theorem gX2_addRow_X2_pageWithRoom : GoodIn wsX2_addRow (wsV RX2 63 RX2 yX2_pageWithRoom wsX2_pageWithRoom) := goodIn_app (goodIn_of _ (by decide +kernel)) ggX2_addRow_X2_pageWithRoom
set_option maxRecDepth 20000 in
theorem ggX2_addRow_X2_freeSlot : GoodIn wsX2_addRow wsX2_freeSlot := goodIn_r _ [14, 15, 16, 17, 5, 18, 19, 20, 21, 22, 1, 23, 24, 25, 26, 27, 28, 29, 30, 51] (by decide +kernel) (by decide +kernel)
set_option maxRecDepth 20000 in
theorem gX2_addRow_X2_freeSlot : GoodIn wsX2_addRow (wsV RX2 66 RX2 yX2_freeSlot wsX2_freeSlot) := goodIn_app (goodIn_of _ (by decide +kernel)) ggX2_addRow_X2_freeSlot
