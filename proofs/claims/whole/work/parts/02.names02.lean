theorem dX0_write_9 : decode cX0_write 9 = .ok (.putfield 15, 3) := by decide +kernel
theorem dX0_write_12 : decode cX0_write 12 = .ok (.aload_n 0, 1) := by decide +kernel
theorem dX0_write_13 : decode cX0_write 13 = .ok (.iconst (-1), 1) := by decide +kernel
theorem dX0_write_14 : decode cX0_write 14 = .ok (.putfield 19, 3) := by decide +kernel
theorem dX0_write_17 : decode cX0_write 17 = .ok (.iconst 0, 1) := by decide +kernel
theorem dX0_write_18 : decode cX0_write 18 = .ok (.ireturn, 1) := by decide +kernel
theorem dX0_write_19 : decode cX0_write 19 = .ok (.aload_n 0, 1) := by decide +kernel
theorem dX0_write_20 : decode cX0_write 20 = .ok (.getfield 19, 3) := by decide +kernel
theorem dX0_write_23 : decode cX0_write 23 = .ok (.ifCond .le 13, 3) := by decide +kernel
theorem dX0_write_26 : decode cX0_write 26 = .ok (.aload_n 0, 1) := by decide +kernel
theorem dX0_write_27 : decode cX0_write 27 = .ok (.dup, 1) := by decide +kernel
theorem dX0_write_28 : decode cX0_write 28 = .ok (.getfield 19, 3) := by decide +kernel
theorem dX0_write_31 : decode cX0_write 31 = .ok (.iconst 1, 1) := by decide +kernel
theorem dX0_write_32 : decode cX0_write 32 = .ok (.isub, 1) := by decide +kernel
theorem dX0_write_33 : decode cX0_write 33 = .ok (.putfield 19, 3) := by decide +kernel
theorem dX0_write_36 : decode cX0_write 36 = .ok (.aload_n 2, 1) := by decide +kernel
theorem dX0_write_37 : decode cX0_write 37 = .ok (.iload_n 3, 1) := by decide +kernel
theorem dX0_write_38 : decode cX0_write 38 = .ok (.bipush 16, 2) := by decide +kernel
theorem dX0_write_40 : decode cX0_write 40 = .ok (.imul, 1) := by decide +kernel
theorem dX0_write_41 : decode cX0_write 41 = .ok (.aload_n 0, 1) := by decide +kernel
theorem dX0_write_42 : decode cX0_write 42 = .ok (.getfield 9, 3) := by decide +kernel
theorem dX0_write_45 : decode cX0_write 45 = .ok (.iload_n 1, 1) := by decide +kernel
theorem dX0_write_46 : decode cX0_write 46 = .ok (.bipush 16, 2) := by decide +kernel
theorem dX0_write_48 : decode cX0_write 48 = .ok (.imul, 1) := by decide +kernel
theorem dX0_write_49 : decode cX0_write 49 = .ok (.bipush 16, 2) := by decide +kernel
theorem dX0_write_51 : decode cX0_write 51 = .ok (.invokestatic 26, 3) := by decide +kernel
theorem dX0_write_54 : decode cX0_write 54 = .ok (.aload_n 0, 1) := by decide +kernel
theorem dX0_write_55 : decode cX0_write 55 = .ok (.dup, 1) := by decide +kernel
theorem dX0_write_56 : decode cX0_write 56 = .ok (.getfield 23, 3) := by decide +kernel
theorem dX0_write_59 : decode cX0_write 59 = .ok (.iconst 1, 1) := by decide +kernel
theorem dX0_write_60 : decode cX0_write 60 = .ok (.iadd, 1) := by decide +kernel
theorem dX0_write_61 : decode cX0_write 61 = .ok (.putfield 23, 3) := by decide +kernel
theorem dX0_write_64 : decode cX0_write 64 = .ok (.iconst 1, 1) := by decide +kernel
theorem dX0_write_65 : decode cX0_write 65 = .ok (.ireturn, 1) := by decide +kernel
set_option maxRecDepth 20000 in
theorem ggX0_copyBlock_X0_write : GoodIn wsX0_copyBlock wsX0_write := goodIn_r _ [6, 7, 8, 1, 9, 10, 11, 12, 13, 14, 15, 16, 17] (by decide +kernel) (by decide +kernel)
set_option maxRecDepth 20000 in
theorem gX0_copyBlock_X0_write : GoodIn wsX0_copyBlock (wsV RX0 32 RX0 yX0_write wsX0_write) := goodIn_app (goodIn_of _ (by decide +kernel)) ggX0_copyBlock_X0_write
theorem dX0_copyBlock_0 : decode cX0_copyBlock 0 = .ok (.aload_n 0, 1) := by decide +kernel
theorem dX0_copyBlock_1 : decode cX0_copyBlock 1 = .ok (.iload_n 1, 1) := by decide +kernel
theorem dX0_copyBlock_2 : decode cX0_copyBlock 2 = .ok (.aload_n 0, 1) := by decide +kernel
theorem dX0_copyBlock_3 : decode cX0_copyBlock 3 = .ok (.getfield 9, 3) := by decide +kernel
theorem dX0_copyBlock_6 : decode cX0_copyBlock 6 = .ok (.iload_n 2, 1) := by decide +kernel
theorem dX0_copyBlock_7 : decode cX0_copyBlock 7 = .ok (.invokevirtual 32, 3) := by decide +kernel
theorem dX0_copyBlock_10 : decode cX0_copyBlock 10 = .ok (.ireturn, 1) := by decide +kernel
theorem dX1_init_0 : decode cX1_init 0 = .ok (.aload_n 0, 1) := by decide +kernel
theorem dX1_init_1 : decode cX1_init 1 = .ok (.invokespecial 3, 3) := by decide +kernel
theorem dX1_init_4 : decode cX1_init 4 = .ok (.aload_n 0, 1) := by decide +kernel
theorem dX1_init_5 : decode cX1_init 5 = .ok (.bipush 16, 2) := by decide +kernel
theorem dX1_init_7 : decode cX1_init 7 = .ok (.newarray .int, 2) := by decide +kernel
theorem dX1_init_9 : decode cX1_init 9 = .ok (.putfield 9, 3) := by decide +kernel
theorem dX1_init_12 : decode cX1_init 12 = .ok (.aload_n 0, 1) := by decide +kernel
theorem dX1_init_13 : decode cX1_init 13 = .ok (.aload_n 1, 1) := by decide +kernel
theorem dX1_init_14 : decode cX1_init 14 = .ok (.putfield 15, 3) := by decide +kernel
theorem dX1_init_17 : decode cX1_init 17 = .ok (.aload_n 0, 1) := by decide +kernel
theorem dX1_init_18 : decode cX1_init 18 = .ok (.aload_n 2, 1) := by decide +kernel
theorem dX1_init_19 : decode cX1_init 19 = .ok (.putfield 19, 3) := by decide +kernel
theorem dX1_init_22 : decode cX1_init 22 = .ok (.return_, 1) := by decide +kernel
set_option maxRecDepth 20000 in
theorem ggX1_carryOut_X1_changedBlocks : GoodIn wsX1_carryOut wsX1_changedBlocks := goodIn_r _ [5, 6, 7, 8, 9, 10, 11, 12, 13, 75, 76, 77, 78, 79, 80, 81, 82] (by decide +kernel) (by decide +kernel)
set_option maxRecDepth 20000 in
theorem gX1_carryOut_X1_changedBlocks : GoodIn wsX1_carryOut (wsV RX1 23 RX1 yX1_changedBlocks wsX1_changedBlocks) := goodIn_app (goodIn_of _ (by decide +kernel)) ggX1_carryOut_X1_changedBlocks
set_option maxRecDepth 20000 in
theorem ggX1_carryOut_X1_keepImages : GoodIn wsX1_carryOut wsX1_keepImages := goodIn_r _ [17, 7, 18, 19, 4, 20, 21, 22, 23, 24, 25, 26, 27, 28, 29, 30, 31, 32, 33, 34, 35, 36, 37, 38, 39, 40, 41, 42, 43, 44, 45, 46, 47, 75, 76, 77, 79, 80, 81, 82] (by decide +kernel) (by decide +kernel)
set_option maxRecDepth 20000 in
theorem gX1_carryOut_X1_keepImages : GoodIn wsX1_carryOut (wsV RX1 27 RX1 yX1_keepImages wsX1_keepImages) := goodIn_app (goodIn_of _ (by decide +kernel)) ggX1_carryOut_X1_keepImages
set_option maxRecDepth 20000 in
theorem ggX1_carryOut_X1_writeHead : GoodIn wsX1_carryOut wsX1_writeHead := goodIn_r _ [51, 52, 7, 24, 25, 26, 27, 28, 29, 30, 53, 54, 55, 4, 56, 57, 58, 59, 34, 60, 36, 61, 38, 39, 40, 41, 42, 43, 44, 45, 46, 47, 75, 76, 77, 79, 80, 81, 82] (by decide +kernel) (by decide +kernel)
set_option maxRecDepth 20000 in
theorem gX1_carryOut_X1_writeHead : GoodIn wsX1_carryOut (wsV RX1 31 RX1 yX1_writeHead wsX1_writeHead) := goodIn_app (goodIn_of _ (by decide +kernel)) ggX1_carryOut_X1_writeHead
set_option maxRecDepth 20000 in
theorem ggX1_carryOut_X1_saveBlocks : GoodIn wsX1_carryOut wsX1_saveBlocks := goodIn_r _ [65, 6, 7, 18, 19, 4, 20, 66, 67, 68, 11, 69, 13, 70, 38, 39, 34, 40, 41, 42, 36, 43, 44, 45, 46, 47, 75, 76, 77, 78, 79, 80, 81, 82] (by decide +kernel) (by decide +kernel)
set_option maxRecDepth 20000 in
theorem gX1_carryOut_X1_saveBlocks : GoodIn wsX1_carryOut (wsV RX1 34 RX1 yX1_saveBlocks wsX1_saveBlocks) := goodIn_app (goodIn_of _ (by decide +kernel)) ggX1_carryOut_X1_saveBlocks
set_option maxRecDepth 20000 in
theorem ggX1_carryOut_X1_clearHead : GoodIn wsX1_carryOut wsX1_clearHead := goodIn_r _ [74, 52, 7, 61, 38, 39, 34, 40, 41, 42, 36, 43, 44, 45, 46, 47, 75, 76, 77, 79, 80, 81, 82] (by decide +kernel) (by decide +kernel)
set_option maxRecDepth 20000 in
theorem gX1_carryOut_X1_clearHead : GoodIn wsX1_carryOut (wsV RX1 37 RX1 yX1_clearHead wsX1_clearHead) := goodIn_app (goodIn_of _ (by decide +kernel)) ggX1_carryOut_X1_clearHead
theorem dX1_carryOut_0 : decode cX1_carryOut 0 = .ok (.aload_n 0, 1) := by decide +kernel
theorem dX1_carryOut_1 : decode cX1_carryOut 1 = .ok (.invokevirtual 23, 3) := by decide +kernel
theorem dX1_carryOut_4 : decode cX1_carryOut 4 = .ok (.istore_n 1, 1) := by decide +kernel
theorem dX1_carryOut_5 : decode cX1_carryOut 5 = .ok (.iload_n 1, 1) := by decide +kernel
theorem dX1_carryOut_6 : decode cX1_carryOut 6 = .ok (.ifCond .ne 5, 3) := by decide +kernel
theorem dX1_carryOut_9 : decode cX1_carryOut 9 = .ok (.iconst 1, 1) := by decide +kernel
theorem dX1_carryOut_10 : decode cX1_carryOut 10 = .ok (.ireturn, 1) := by decide +kernel
theorem dX1_carryOut_11 : decode cX1_carryOut 11 = .ok (.aload_n 0, 1) := by decide +kernel
theorem dX1_carryOut_12 : decode cX1_carryOut 12 = .ok (.iload_n 1, 1) := by decide +kernel
theorem dX1_carryOut_13 : decode cX1_carryOut 13 = .ok (.invokevirtual 27, 3) := by decide +kernel
theorem dX1_carryOut_16 : decode cX1_carryOut 16 = .ok (.ifCond .eq 30, 3) := by decide +kernel
theorem dX1_carryOut_19 : decode cX1_carryOut 19 = .ok (.aload_n 0, 1) := by decide +kernel
theorem dX1_carryOut_20 : decode cX1_carryOut 20 = .ok (.iload_n 1, 1) := by decide +kernel
theorem dX1_carryOut_21 : decode cX1_carryOut 21 = .ok (.invokevirtual 31, 3) := by decide +kernel
theorem dX1_carryOut_24 : decode cX1_carryOut 24 = .ok (.ifCond .eq 22, 3) := by decide +kernel
theorem dX1_carryOut_27 : decode cX1_carryOut 27 = .ok (.aload_n 0, 1) := by decide +kernel
theorem dX1_carryOut_28 : decode cX1_carryOut 28 = .ok (.iload_n 1, 1) := by decide +kernel
theorem dX1_carryOut_29 : decode cX1_carryOut 29 = .ok (.invokevirtual 34, 3) := by decide +kernel
theorem dX1_carryOut_32 : decode cX1_carryOut 32 = .ok (.ifCond .eq 14, 3) := by decide +kernel
theorem dX1_carryOut_35 : decode cX1_carryOut 35 = .ok (.aload_n 0, 1) := by decide +kernel
theorem dX1_carryOut_36 : decode cX1_carryOut 36 = .ok (.invokevirtual 37, 3) := by decide +kernel
theorem dX1_carryOut_39 : decode cX1_carryOut 39 = .ok (.ifCond .eq 7, 3) := by decide +kernel
theorem dX1_carryOut_42 : decode cX1_carryOut 42 = .ok (.iconst 1, 1) := by decide +kernel
theorem dX1_carryOut_43 : decode cX1_carryOut 43 = .ok (.goto 4, 3) := by decide +kernel
theorem dX1_carryOut_46 : decode cX1_carryOut 46 = .ok (.iconst 0, 1) := by decide +kernel
theorem dX1_carryOut_47 : decode cX1_carryOut 47 = .ok (.ireturn, 1) := by decide +kernel
set_option maxRecDepth 20000 in
theorem ggX1_undo_X1_blocksToUndo : GoodIn wsX1_undo wsX1_blocksToUndo := goodIn_r _ [5, 6, 7, 8, 9, 10, 11, 12, 13, 14, 15, 16, 17, 18, 19, 20, 21, 22, 4, 23, 55, 56, 57, 58, 59, 60, 61] (by decide +kernel) (by decide +kernel)
set_option maxRecDepth 20000 in
theorem gX1_undo_X1_blocksToUndo : GoodIn wsX1_undo (wsV RX1 41 RX1 yX1_blocksToUndo wsX1_blocksToUndo) := goodIn_app (goodIn_of _ (by decide +kernel)) ggX1_undo_X1_blocksToUndo
set_option maxRecDepth 20000 in
theorem ggX1_undo_X1_restoreBlocks : GoodIn wsX1_undo wsX1_restoreBlocks := goodIn_r _ [27, 6, 28, 29, 4, 30, 31, 32, 33, 13, 14, 15, 16, 17, 18, 19, 34, 35, 36, 10, 37, 12, 38, 39, 40, 41, 42, 43, 44, 45, 46, 47, 48, 55, 56, 57, 58, 59, 60, 61] (by decide +kernel) (by decide +kernel)
set_option maxRecDepth 20000 in
theorem gX1_undo_X1_restoreBlocks : GoodIn wsX1_undo (wsV RX1 44 RX1 yX1_restoreBlocks wsX1_restoreBlocks) := goodIn_app (goodIn_of _ (by decide +kernel)) ggX1_undo_X1_restoreBlocks
set_option maxRecDepth 20000 in
theorem ggX1_undo_X1_clearHead : GoodIn wsX1_undo wsX1_clearHead := goodIn_r _ [52, 53, 6, 54, 39, 40, 10, 41, 42, 43, 12, 44, 45, 46, 47, 48, 55, 56, 57, 58, 59, 60, 61] (by decide +kernel) (by decide +kernel)
set_option maxRecDepth 20000 in
theorem gX1_undo_X1_clearHead : GoodIn wsX1_undo (wsV RX1 37 RX1 yX1_clearHead wsX1_clearHead) := goodIn_app (goodIn_of _ (by decide +kernel)) ggX1_undo_X1_clearHead
theorem dX1_undo_0 : decode cX1_undo 0 = .ok (.aload_n 0, 1) := by decide +kernel
theorem dX1_undo_1 : decode cX1_undo 1 = .ok (.invokevirtual 41, 3) := by decide +kernel
theorem dX1_undo_4 : decode cX1_undo 4 = .ok (.istore_n 1, 1) := by decide +kernel
theorem dX1_undo_5 : decode cX1_undo 5 = .ok (.iload_n 1, 1) := by decide +kernel
theorem dX1_undo_6 : decode cX1_undo 6 = .ok (.ifCond .ne 5, 3) := by decide +kernel
theorem dX1_undo_9 : decode cX1_undo 9 = .ok (.iconst 1, 1) := by decide +kernel
theorem dX1_undo_10 : decode cX1_undo 10 = .ok (.ireturn, 1) := by decide +kernel
theorem dX1_undo_11 : decode cX1_undo 11 = .ok (.aload_n 0, 1) := by decide +kernel
theorem dX1_undo_12 : decode cX1_undo 12 = .ok (.iload_n 1, 1) := by decide +kernel
theorem dX1_undo_13 : decode cX1_undo 13 = .ok (.invokevirtual 44, 3) := by decide +kernel
theorem dX1_undo_16 : decode cX1_undo 16 = .ok (.ifCond .eq 14, 3) := by decide +kernel
theorem dX1_undo_19 : decode cX1_undo 19 = .ok (.aload_n 0, 1) := by decide +kernel
theorem dX1_undo_20 : decode cX1_undo 20 = .ok (.invokevirtual 37, 3) := by decide +kernel
theorem dX1_undo_23 : decode cX1_undo 23 = .ok (.ifCond .eq 7, 3) := by decide +kernel
theorem dX1_undo_26 : decode cX1_undo 26 = .ok (.iconst 1, 1) := by decide +kernel
theorem dX1_undo_27 : decode cX1_undo 27 = .ok (.goto 4, 3) := by decide +kernel
theorem dX1_undo_30 : decode cX1_undo 30 = .ok (.iconst 0, 1) := by decide +kernel
theorem dX1_undo_31 : decode cX1_undo 31 = .ok (.ireturn, 1) := by decide +kernel
set_option maxRecDepth 20000 in
theorem ggX1_changedBlocks_X2_differs : GoodIn wsX1_changedBlocks wsX2_differs := goodIn_r _ [7, 8, 12, 13, 14, 15, 16] (by decide +kernel) (by decide +kernel)
set_option maxRecDepth 20000 in
theorem gX1_changedBlocks_X2_differs : GoodIn wsX1_changedBlocks (wsV RX1 47 RX2 yX2_differs wsX2_differs) := goodIn_app (goodIn_of _ (by decide +kernel)) ggX1_changedBlocks_X2_differs
theorem dX1_changedBlocks_0 : decode cX1_changedBlocks 0 = .ok (.iconst 0, 1) := by decide +kernel
theorem dX1_changedBlocks_1 : decode cX1_changedBlocks 1 = .ok (.istore_n 1, 1) := by decide +kernel
theorem dX1_changedBlocks_2 : decode cX1_changedBlocks 2 = .ok (.iconst 0, 1) := by decide +kernel
theorem dX1_changedBlocks_3 : decode cX1_changedBlocks 3 = .ok (.istore_n 2, 1) := by decide +kernel
theorem dX1_changedBlocks_4 : decode cX1_changedBlocks 4 = .ok (.iload_n 2, 1) := by decide +kernel
theorem dX1_changedBlocks_5 : decode cX1_changedBlocks 5 = .ok (.bipush 16, 2) := by decide +kernel
theorem dX1_changedBlocks_7 : decode cX1_changedBlocks 7 = .ok (.if_icmp .ge 30, 3) := by decide +kernel
theorem dX1_changedBlocks_10 : decode cX1_changedBlocks 10 = .ok (.aload_n 0, 1) := by decide +kernel
theorem dX1_changedBlocks_11 : decode cX1_changedBlocks 11 = .ok (.getfield 19, 3) := by decide +kernel
theorem dX1_changedBlocks_14 : decode cX1_changedBlocks 14 = .ok (.aload_n 0, 1) := by decide +kernel
theorem dX1_changedBlocks_15 : decode cX1_changedBlocks 15 = .ok (.getfield 15, 3) := by decide +kernel
theorem dX1_changedBlocks_18 : decode cX1_changedBlocks 18 = .ok (.iload_n 2, 1) := by decide +kernel
theorem dX1_changedBlocks_19 : decode cX1_changedBlocks 19 = .ok (.invokevirtual 47, 3) := by decide +kernel
theorem dX1_changedBlocks_22 : decode cX1_changedBlocks 22 = .ok (.ifCond .eq 9, 3) := by decide +kernel
theorem dX1_changedBlocks_25 : decode cX1_changedBlocks 25 = .ok (.iload_n 1, 1) := by decide +kernel
theorem dX1_changedBlocks_26 : decode cX1_changedBlocks 26 = .ok (.iconst 1, 1) := by decide +kernel
theorem dX1_changedBlocks_27 : decode cX1_changedBlocks 27 = .ok (.iload_n 2, 1) := by decide +kernel
theorem dX1_changedBlocks_28 : decode cX1_changedBlocks 28 = .ok (.ishl, 1) := by decide +kernel
theorem dX1_changedBlocks_29 : decode cX1_changedBlocks 29 = .ok (.ior, 1) := by decide +kernel
theorem dX1_changedBlocks_30 : decode cX1_changedBlocks 30 = .ok (.istore_n 1, 1) := by decide +kernel
theorem dX1_changedBlocks_31 : decode cX1_changedBlocks 31 = .ok (.iinc 2 1, 3) := by decide +kernel
theorem dX1_changedBlocks_34 : decode cX1_changedBlocks 34 = .ok (.goto (-30), 3) := by decide +kernel
theorem dX1_changedBlocks_37 : decode cX1_changedBlocks 37 = .ok (.iload_n 1, 1) := by decide +kernel
theorem dX1_changedBlocks_38 : decode cX1_changedBlocks 38 = .ok (.ireturn, 1) := by decide +kernel
set_option maxRecDepth 20000 in
theorem ggX1_keepImages_X1_contains : GoodIn wsX1_keepImages wsX1_contains := goodIn_r _ [5] (by decide +kernel) (by decide +kernel)
set_option maxRecDepth 20000 in
theorem gX1_keepImages_X1_contains : GoodIn wsX1_keepImages (va_wsS RX1 53 yX1_contains wsX1_contains) := goodIn_app (goodIn_of _ (by decide +kernel)) ggX1_keepImages_X1_contains
set_option maxRecDepth 20000 in
theorem ggX1_keepImages_X1_imageOf : GoodIn wsX1_keepImages wsX1_imageOf := goodIn_r _ [8, 9, 10, 11, 12, 13, 14, 15] (by decide +kernel) (by decide +kernel)
set_option maxRecDepth 20000 in
theorem gX1_keepImages_X1_imageOf : GoodIn wsX1_keepImages (va_wsS RX1 57 yX1_imageOf wsX1_imageOf) := goodIn_app (goodIn_of _ (by decide +kernel)) ggX1_keepImages_X1_imageOf
set_option maxRecDepth 20000 in
theorem ggX1_keepImages_X0_copyBlock : GoodIn wsX1_keepImages wsX0_copyBlock := goodIn_r _ [20, 21, 22, 23, 24, 19, 25, 26, 27, 28, 29, 30, 31, 32, 36, 37, 38, 39] (by decide +kernel) (by decide +kernel)
set_option maxRecDepth 20000 in
theorem gX1_keepImages_X0_copyBlock : GoodIn wsX1_keepImages (wsV RX1 61 RX0 yX0_copyBlock wsX0_copyBlock) := goodIn_app (goodIn_of _ (by decide +kernel)) ggX1_keepImages_X0_copyBlock
theorem dX1_keepImages_0 : decode cX1_keepImages 0 = .ok (.iconst 0, 1) := by decide +kernel
theorem dX1_keepImages_1 : decode cX1_keepImages 1 = .ok (.istore_n 2, 1) := by decide +kernel
theorem dX1_keepImages_2 : decode cX1_keepImages 2 = .ok (.iload_n 2, 1) := by decide +kernel
theorem dX1_keepImages_3 : decode cX1_keepImages 3 = .ok (.bipush 16, 2) := by decide +kernel
theorem dX1_keepImages_5 : decode cX1_keepImages 5 = .ok (.if_icmp .ge 35, 3) := by decide +kernel
theorem dX1_keepImages_8 : decode cX1_keepImages 8 = .ok (.iload_n 1, 1) := by decide +kernel
theorem dX1_keepImages_9 : decode cX1_keepImages 9 = .ok (.iload_n 2, 1) := by decide +kernel
theorem dX1_keepImages_10 : decode cX1_keepImages 10 = .ok (.invokestatic 53, 3) := by decide +kernel
theorem dX1_keepImages_13 : decode cX1_keepImages 13 = .ok (.ifCond .eq 21, 3) := by decide +kernel
theorem dX1_keepImages_16 : decode cX1_keepImages 16 = .ok (.aload_n 0, 1) := by decide +kernel
theorem dX1_keepImages_17 : decode cX1_keepImages 17 = .ok (.getfield 15, 3) := by decide +kernel
theorem dX1_keepImages_20 : decode cX1_keepImages 20 = .ok (.iload_n 1, 1) := by decide +kernel
theorem dX1_keepImages_21 : decode cX1_keepImages 21 = .ok (.iload_n 2, 1) := by decide +kernel
theorem dX1_keepImages_22 : decode cX1_keepImages 22 = .ok (.invokestatic 57, 3) := by decide +kernel
theorem dX1_keepImages_25 : decode cX1_keepImages 25 = .ok (.iload_n 2, 1) := by decide +kernel
theorem dX1_keepImages_26 : decode cX1_keepImages 26 = .ok (.invokevirtual 61, 3) := by decide +kernel
theorem dX1_keepImages_29 : decode cX1_keepImages 29 = .ok (.ifCond .ne 5, 3) := by decide +kernel
theorem dX1_keepImages_32 : decode cX1_keepImages 32 = .ok (.iconst 0, 1) := by decide +kernel
theorem dX1_keepImages_33 : decode cX1_keepImages 33 = .ok (.ireturn, 1) := by decide +kernel
theorem dX1_keepImages_34 : decode cX1_keepImages 34 = .ok (.iinc 2 1, 3) := by decide +kernel
theorem dX1_keepImages_37 : decode cX1_keepImages 37 = .ok (.goto (-35), 3) := by decide +kernel
theorem dX1_keepImages_40 : decode cX1_keepImages 40 = .ok (.iconst 1, 1) := by decide +kernel
theorem dX1_keepImages_41 : decode cX1_keepImages 41 = .ok (.ireturn, 1) := by decide +kernel
set_option maxRecDepth 20000 in
theorem ggX1_writeHead_J6_bitCount_0f7a4 : GoodIn wsX1_writeHead wsJ6_bitCount_0f7a4 := goodIn_r _ [6, 7, 8, 9] (by decide +kernel) (by decide +kernel)
set_option maxRecDepth 20000 in
theorem gX1_writeHead_J6_bitCount_0f7a4 : GoodIn wsX1_writeHead (va_wsS RX1 66 yJ6_bitCount_0f7a4 wsJ6_bitCount_0f7a4) := goodIn_app (goodIn_of _ (by decide +kernel)) ggX1_writeHead_J6_bitCount_0f7a4
set_option maxRecDepth 20000 in
theorem ggX1_writeHead_X1_checkOfImages : GoodIn wsX1_writeHead wsX1_checkOfImages := goodIn_r _ [14, 2, 15, 16, 17, 18, 19, 20, 32, 33, 34, 35, 36, 37, 38] (by decide +kernel) (by decide +kernel)
set_option maxRecDepth 20000 in
theorem gX1_writeHead_X1_checkOfImages : GoodIn wsX1_writeHead (wsV RX1 72 RX1 yX1_checkOfImages wsX1_checkOfImages) := goodIn_app (goodIn_of _ (by decide +kernel)) ggX1_writeHead_X1_checkOfImages
set_option maxRecDepth 20000 in
theorem ggX1_writeHead_X0_write : GoodIn wsX1_writeHead wsX0_write := goodIn_r _ [24, 25, 26, 20, 27, 28, 29, 30, 31, 35, 36, 37, 38] (by decide +kernel) (by decide +kernel)
set_option maxRecDepth 20000 in
theorem gX1_writeHead_X0_write : GoodIn wsX1_writeHead (wsV RX1 75 RX0 yX0_write wsX0_write) := goodIn_app (goodIn_of _ (by decide +kernel)) ggX1_writeHead_X0_write
theorem dX1_writeHead_0 : decode cX1_writeHead 0 = .ok (.iload_n 1, 1) := by decide +kernel
theorem dX1_writeHead_1 : decode cX1_writeHead 1 = .ok (.invokestatic 66, 3) := by decide +kernel
theorem dX1_writeHead_4 : decode cX1_writeHead 4 = .ok (.istore_n 2, 1) := by decide +kernel
theorem dX1_writeHead_5 : decode cX1_writeHead 5 = .ok (.aload_n 0, 1) := by decide +kernel
theorem dX1_writeHead_6 : decode cX1_writeHead 6 = .ok (.getfield 9, 3) := by decide +kernel
theorem dX1_writeHead_9 : decode cX1_writeHead 9 = .ok (.iconst 0, 1) := by decide +kernel
theorem dX1_writeHead_10 : decode cX1_writeHead 10 = .ok (.sipush 6517, 3) := by decide +kernel
theorem dX1_writeHead_13 : decode cX1_writeHead 13 = .ok (.iastore, 1) := by decide +kernel
theorem dX1_writeHead_14 : decode cX1_writeHead 14 = .ok (.aload_n 0, 1) := by decide +kernel
theorem dX1_writeHead_15 : decode cX1_writeHead 15 = .ok (.getfield 9, 3) := by decide +kernel
theorem dX1_writeHead_18 : decode cX1_writeHead 18 = .ok (.iconst 1, 1) := by decide +kernel
theorem dX1_writeHead_19 : decode cX1_writeHead 19 = .ok (.iload_n 2, 1) := by decide +kernel
theorem dX1_writeHead_20 : decode cX1_writeHead 20 = .ok (.iastore, 1) := by decide +kernel
theorem dX1_writeHead_21 : decode cX1_writeHead 21 = .ok (.aload_n 0, 1) := by decide +kernel
theorem dX1_writeHead_22 : decode cX1_writeHead 22 = .ok (.getfield 9, 3) := by decide +kernel
theorem dX1_writeHead_25 : decode cX1_writeHead 25 = .ok (.iconst 2, 1) := by decide +kernel
theorem dX1_writeHead_26 : decode cX1_writeHead 26 = .ok (.iload_n 1, 1) := by decide +kernel
theorem dX1_writeHead_27 : decode cX1_writeHead 27 = .ok (.iastore, 1) := by decide +kernel
theorem dX1_writeHead_28 : decode cX1_writeHead 28 = .ok (.aload_n 0, 1) := by decide +kernel
theorem dX1_writeHead_29 : decode cX1_writeHead 29 = .ok (.getfield 9, 3) := by decide +kernel
theorem dX1_writeHead_32 : decode cX1_writeHead 32 = .ok (.iconst 3, 1) := by decide +kernel
theorem dX1_writeHead_33 : decode cX1_writeHead 33 = .ok (.aload_n 0, 1) := by decide +kernel
theorem dX1_writeHead_34 : decode cX1_writeHead 34 = .ok (.iload_n 2, 1) := by decide +kernel
theorem dX1_writeHead_35 : decode cX1_writeHead 35 = .ok (.invokevirtual 72, 3) := by decide +kernel
theorem dX1_writeHead_38 : decode cX1_writeHead 38 = .ok (.iastore, 1) := by decide +kernel
theorem dX1_writeHead_39 : decode cX1_writeHead 39 = .ok (.aload_n 0, 1) := by decide +kernel
theorem dX1_writeHead_40 : decode cX1_writeHead 40 = .ok (.getfield 15, 3) := by decide +kernel
theorem dX1_writeHead_43 : decode cX1_writeHead 43 = .ok (.bipush 16, 2) := by decide +kernel
theorem dX1_writeHead_45 : decode cX1_writeHead 45 = .ok (.aload_n 0, 1) := by decide +kernel
theorem dX1_writeHead_46 : decode cX1_writeHead 46 = .ok (.getfield 9, 3) := by decide +kernel
theorem dX1_writeHead_49 : decode cX1_writeHead 49 = .ok (.iconst 0, 1) := by decide +kernel
theorem dX1_writeHead_50 : decode cX1_writeHead 50 = .ok (.invokevirtual 75, 3) := by decide +kernel
theorem dX1_writeHead_53 : decode cX1_writeHead 53 = .ok (.ireturn, 1) := by decide +kernel
set_option maxRecDepth 20000 in
theorem ggX1_saveBlocks_X1_contains : GoodIn wsX1_saveBlocks wsX1_contains := goodIn_r _ [6] (by decide +kernel) (by decide +kernel)
set_option maxRecDepth 20000 in
theorem gX1_saveBlocks_X1_contains : GoodIn wsX1_saveBlocks (va_wsS RX1 53 yX1_contains wsX1_contains) := goodIn_app (goodIn_of _ (by decide +kernel)) ggX1_saveBlocks_X1_contains
set_option maxRecDepth 20000 in
theorem ggX1_saveBlocks_X2_save : GoodIn wsX1_saveBlocks wsX2_save := goodIn_r _ [11, 12, 13, 14, 15, 16, 17, 18, 19, 20, 21, 22, 23, 24, 25, 29, 30, 31, 32, 33] (by decide +kernel) (by decide +kernel)
set_option maxRecDepth 20000 in
theorem gX1_saveBlocks_X2_save : GoodIn wsX1_saveBlocks (wsV RX1 79 RX2 yX2_save wsX2_save) := goodIn_app (goodIn_of _ (by decide +kernel)) ggX1_saveBlocks_X2_save
theorem dX1_saveBlocks_0 : decode cX1_saveBlocks 0 = .ok (.iconst 0, 1) := by decide +kernel
theorem dX1_saveBlocks_1 : decode cX1_saveBlocks 1 = .ok (.istore_n 2, 1) := by decide +kernel
theorem dX1_saveBlocks_2 : decode cX1_saveBlocks 2 = .ok (.iload_n 2, 1) := by decide +kernel
theorem dX1_saveBlocks_3 : decode cX1_saveBlocks 3 = .ok (.bipush 16, 2) := by decide +kernel
theorem dX1_saveBlocks_5 : decode cX1_saveBlocks 5 = .ok (.if_icmp .ge 34, 3) := by decide +kernel
theorem dX1_saveBlocks_8 : decode cX1_saveBlocks 8 = .ok (.iload_n 1, 1) := by decide +kernel
theorem dX1_saveBlocks_9 : decode cX1_saveBlocks 9 = .ok (.iload_n 2, 1) := by decide +kernel
theorem dX1_saveBlocks_10 : decode cX1_saveBlocks 10 = .ok (.invokestatic 53, 3) := by decide +kernel
theorem dX1_saveBlocks_13 : decode cX1_saveBlocks 13 = .ok (.ifCond .eq 20, 3) := by decide +kernel
theorem dX1_saveBlocks_16 : decode cX1_saveBlocks 16 = .ok (.aload_n 0, 1) := by decide +kernel
theorem dX1_saveBlocks_17 : decode cX1_saveBlocks 17 = .ok (.getfield 19, 3) := by decide +kernel
theorem dX1_saveBlocks_20 : decode cX1_saveBlocks 20 = .ok (.aload_n 0, 1) := by decide +kernel
theorem dX1_saveBlocks_21 : decode cX1_saveBlocks 21 = .ok (.getfield 15, 3) := by decide +kernel
theorem dX1_saveBlocks_24 : decode cX1_saveBlocks 24 = .ok (.iload_n 2, 1) := by decide +kernel
theorem dX1_saveBlocks_25 : decode cX1_saveBlocks 25 = .ok (.invokevirtual 79, 3) := by decide +kernel
theorem dX1_saveBlocks_28 : decode cX1_saveBlocks 28 = .ok (.ifCond .ne 5, 3) := by decide +kernel
theorem dX1_saveBlocks_31 : decode cX1_saveBlocks 31 = .ok (.iconst 0, 1) := by decide +kernel
theorem dX1_saveBlocks_32 : decode cX1_saveBlocks 32 = .ok (.ireturn, 1) := by decide +kernel
theorem dX1_saveBlocks_33 : decode cX1_saveBlocks 33 = .ok (.iinc 2 1, 3) := by decide +kernel
theorem dX1_saveBlocks_36 : decode cX1_saveBlocks 36 = .ok (.goto (-34), 3) := by decide +kernel
theorem dX1_saveBlocks_39 : decode cX1_saveBlocks 39 = .ok (.iconst 1, 1) := by decide +kernel
theorem dX1_saveBlocks_40 : decode cX1_saveBlocks 40 = .ok (.ireturn, 1) := by decide +kernel
set_option maxRecDepth 20000 in
theorem ggX1_clearHead_X0_write : GoodIn wsX1_clearHead wsX0_write := goodIn_r _ [7, 8, 9, 10, 11, 12, 13, 14, 15, 19, 20, 21, 22] (by decide +kernel) (by decide +kernel)
set_option maxRecDepth 20000 in
theorem gX1_clearHead_X0_write : GoodIn wsX1_clearHead (wsV RX1 75 RX0 yX0_write wsX0_write) := goodIn_app (goodIn_of _ (by decide +kernel)) ggX1_clearHead_X0_write
theorem dX1_clearHead_0 : decode cX1_clearHead 0 = .ok (.iconst 0, 1) := by decide +kernel
theorem dX1_clearHead_1 : decode cX1_clearHead 1 = .ok (.istore_n 1, 1) := by decide +kernel
theorem dX1_clearHead_2 : decode cX1_clearHead 2 = .ok (.iload_n 1, 1) := by decide +kernel
theorem dX1_clearHead_3 : decode cX1_clearHead 3 = .ok (.iconst 4, 1) := by decide +kernel
theorem dX1_clearHead_4 : decode cX1_clearHead 4 = .ok (.if_icmp .ge 16, 3) := by decide +kernel
theorem dX1_clearHead_7 : decode cX1_clearHead 7 = .ok (.aload_n 0, 1) := by decide +kernel
theorem dX1_clearHead_8 : decode cX1_clearHead 8 = .ok (.getfield 9, 3) := by decide +kernel
theorem dX1_clearHead_11 : decode cX1_clearHead 11 = .ok (.iload_n 1, 1) := by decide +kernel
theorem dX1_clearHead_12 : decode cX1_clearHead 12 = .ok (.iconst 0, 1) := by decide +kernel
theorem dX1_clearHead_13 : decode cX1_clearHead 13 = .ok (.iastore, 1) := by decide +kernel
theorem dX1_clearHead_14 : decode cX1_clearHead 14 = .ok (.iinc 1 1, 3) := by decide +kernel
theorem dX1_clearHead_17 : decode cX1_clearHead 17 = .ok (.goto (-15), 3) := by decide +kernel
theorem dX1_clearHead_20 : decode cX1_clearHead 20 = .ok (.aload_n 0, 1) := by decide +kernel
theorem dX1_clearHead_21 : decode cX1_clearHead 21 = .ok (.getfield 15, 3) := by decide +kernel
theorem dX1_clearHead_24 : decode cX1_clearHead 24 = .ok (.bipush 16, 2) := by decide +kernel
theorem dX1_clearHead_26 : decode cX1_clearHead 26 = .ok (.aload_n 0, 1) := by decide +kernel
theorem dX1_clearHead_27 : decode cX1_clearHead 27 = .ok (.getfield 9, 3) := by decide +kernel
theorem dX1_clearHead_30 : decode cX1_clearHead 30 = .ok (.iconst 0, 1) := by decide +kernel
theorem dX1_clearHead_31 : decode cX1_clearHead 31 = .ok (.invokevirtual 75, 3) := by decide +kernel
theorem dX1_clearHead_34 : decode cX1_clearHead 34 = .ok (.ireturn, 1) := by decide +kernel
set_option maxRecDepth 20000 in
theorem ggX1_restoreBlocks_X1_contains : GoodIn wsX1_restoreBlocks wsX1_contains := goodIn_r _ [5] (by decide +kernel) (by decide +kernel)
set_option maxRecDepth 20000 in
theorem gX1_restoreBlocks_X1_contains : GoodIn wsX1_restoreBlocks (va_wsS RX1 53 yX1_contains wsX1_contains) := goodIn_app (goodIn_of _ (by decide +kernel)) ggX1_restoreBlocks_X1_contains
set_option maxRecDepth 20000 in
theorem ggX1_restoreBlocks_X1_imageOf : GoodIn wsX1_restoreBlocks wsX1_imageOf := goodIn_r _ [8, 9, 10, 11, 12, 13, 14, 15] (by decide +kernel) (by decide +kernel)
set_option maxRecDepth 20000 in
theorem gX1_restoreBlocks_X1_imageOf : GoodIn wsX1_restoreBlocks (va_wsS RX1 57 yX1_imageOf wsX1_imageOf) := goodIn_app (goodIn_of _ (by decide +kernel)) ggX1_restoreBlocks_X1_imageOf
set_option maxRecDepth 20000 in
theorem ggX1_restoreBlocks_X0_copyBlock : GoodIn wsX1_restoreBlocks wsX0_copyBlock := goodIn_r _ [20, 21, 22, 23, 24, 19, 25, 26, 27, 28, 29, 30, 31, 32, 36, 37, 38, 39] (by decide +kernel) (by decide +kernel)
set_option maxRecDepth 20000 in
theorem gX1_restoreBlocks_X0_copyBlock : GoodIn wsX1_restoreBlocks (wsV RX1 61 RX0 yX0_copyBlock wsX0_copyBlock) := goodIn_app (goodIn_of _ (by decide +kernel)) ggX1_restoreBlocks_X0_copyBlock
theorem dX1_restoreBlocks_0 : decode cX1_restoreBlocks 0 = .ok (.iconst 0, 1) := by decide +kernel
theorem dX1_restoreBlocks_1 : decode cX1_restoreBlocks 1 = .ok (.istore_n 2, 1) := by decide +kernel
theorem dX1_restoreBlocks_2 : decode cX1_restoreBlocks 2 = .ok (.iload_n 2, 1) := by decide +kernel
theorem dX1_restoreBlocks_3 : decode cX1_restoreBlocks 3 = .ok (.bipush 16, 2) := by decide +kernel
theorem dX1_restoreBlocks_5 : decode cX1_restoreBlocks 5 = .ok (.if_icmp .ge 35, 3) := by decide +kernel
theorem dX1_restoreBlocks_8 : decode cX1_restoreBlocks 8 = .ok (.iload_n 1, 1) := by decide +kernel
theorem dX1_restoreBlocks_9 : decode cX1_restoreBlocks 9 = .ok (.iload_n 2, 1) := by decide +kernel
theorem dX1_restoreBlocks_10 : decode cX1_restoreBlocks 10 = .ok (.invokestatic 53, 3) := by decide +kernel
theorem dX1_restoreBlocks_13 : decode cX1_restoreBlocks 13 = .ok (.ifCond .eq 21, 3) := by decide +kernel
theorem dX1_restoreBlocks_16 : decode cX1_restoreBlocks 16 = .ok (.aload_n 0, 1) := by decide +kernel
theorem dX1_restoreBlocks_17 : decode cX1_restoreBlocks 17 = .ok (.getfield 15, 3) := by decide +kernel
theorem dX1_restoreBlocks_20 : decode cX1_restoreBlocks 20 = .ok (.iload_n 2, 1) := by decide +kernel
theorem dX1_restoreBlocks_21 : decode cX1_restoreBlocks 21 = .ok (.iload_n 1, 1) := by decide +kernel
theorem dX1_restoreBlocks_22 : decode cX1_restoreBlocks 22 = .ok (.iload_n 2, 1) := by decide +kernel
theorem dX1_restoreBlocks_23 : decode cX1_restoreBlocks 23 = .ok (.invokestatic 57, 3) := by decide +kernel
theorem dX1_restoreBlocks_26 : decode cX1_restoreBlocks 26 = .ok (.invokevirtual 61, 3) := by decide +kernel
theorem dX1_restoreBlocks_29 : decode cX1_restoreBlocks 29 = .ok (.ifCond .ne 5, 3) := by decide +kernel
theorem dX1_restoreBlocks_32 : decode cX1_restoreBlocks 32 = .ok (.iconst 0, 1) := by decide +kernel
theorem dX1_restoreBlocks_33 : decode cX1_restoreBlocks 33 = .ok (.ireturn, 1) := by decide +kernel
theorem dX1_restoreBlocks_34 : decode cX1_restoreBlocks 34 = .ok (.iinc 2 1, 3) := by decide +kernel
theorem dX1_restoreBlocks_37 : decode cX1_restoreBlocks 37 = .ok (.goto (-35), 3) := by decide +kernel
theorem dX1_restoreBlocks_40 : decode cX1_restoreBlocks 40 = .ok (.iconst 1, 1) := by decide +kernel
theorem dX1_restoreBlocks_41 : decode cX1_restoreBlocks 41 = .ok (.ireturn, 1) := by decide +kernel
set_option maxRecDepth 20000 in
theorem ggX1_blocksToUndo_X0_word : GoodIn wsX1_blocksToUndo wsX0_word := goodIn_r _ [6, 7, 23, 24, 25, 26] (by decide +kernel) (by decide +kernel)
set_option maxRecDepth 20000 in
theorem gX1_blocksToUndo_X0_word : GoodIn wsX1_blocksToUndo (wsV RX1 82 RX0 yX0_word wsX0_word) := goodIn_app (goodIn_of _ (by decide +kernel)) ggX1_blocksToUndo_X0_word
set_option maxRecDepth 20000 in
theorem ggX1_blocksToUndo_J6_bitCount_0f7a4 : GoodIn wsX1_blocksToUndo wsJ6_bitCount_0f7a4 := goodIn_r _ [11, 12, 13, 14] (by decide +kernel) (by decide +kernel)
set_option maxRecDepth 20000 in
theorem gX1_blocksToUndo_J6_bitCount_0f7a4 : GoodIn wsX1_blocksToUndo (va_wsS RX1 66 yJ6_bitCount_0f7a4 wsJ6_bitCount_0f7a4) := goodIn_app (goodIn_of _ (by decide +kernel)) ggX1_blocksToUndo_J6_bitCount_0f7a4
set_option maxRecDepth 20000 in
theorem ggX1_blocksToUndo_X1_checkOfImages : GoodIn wsX1_blocksToUndo wsX1_checkOfImages := goodIn_r _ [19, 1, 2, 3, 4, 5, 6, 7, 20, 21, 22, 23, 24, 25, 26] (by decide +kernel) (by decide +kernel)
set_option maxRecDepth 20000 in
theorem gX1_blocksToUndo_X1_checkOfImages : GoodIn wsX1_blocksToUndo (wsV RX1 72 RX1 yX1_checkOfImages wsX1_checkOfImages) := goodIn_app (goodIn_of _ (by decide +kernel)) ggX1_blocksToUndo_X1_checkOfImages
theorem dX1_blocksToUndo_0 : decode cX1_blocksToUndo 0 = .ok (.aload_n 0, 1) := by decide +kernel
theorem dX1_blocksToUndo_1 : decode cX1_blocksToUndo 1 = .ok (.getfield 15, 3) := by decide +kernel
theorem dX1_blocksToUndo_4 : decode cX1_blocksToUndo 4 = .ok (.bipush 16, 2) := by decide +kernel
theorem dX1_blocksToUndo_6 : decode cX1_blocksToUndo 6 = .ok (.iconst 1, 1) := by decide +kernel
theorem dX1_blocksToUndo_7 : decode cX1_blocksToUndo 7 = .ok (.invokevirtual 82, 3) := by decide +kernel
theorem dX1_blocksToUndo_10 : decode cX1_blocksToUndo 10 = .ok (.istore_n 1, 1) := by decide +kernel
theorem dX1_blocksToUndo_11 : decode cX1_blocksToUndo 11 = .ok (.aload_n 0, 1) := by decide +kernel
theorem dX1_blocksToUndo_12 : decode cX1_blocksToUndo 12 = .ok (.getfield 15, 3) := by decide +kernel
theorem dX1_blocksToUndo_15 : decode cX1_blocksToUndo 15 = .ok (.bipush 16, 2) := by decide +kernel
theorem dX1_blocksToUndo_17 : decode cX1_blocksToUndo 17 = .ok (.iconst 2, 1) := by decide +kernel
theorem dX1_blocksToUndo_18 : decode cX1_blocksToUndo 18 = .ok (.invokevirtual 82, 3) := by decide +kernel
theorem dX1_blocksToUndo_21 : decode cX1_blocksToUndo 21 = .ok (.istore_n 2, 1) := by decide +kernel
theorem dX1_blocksToUndo_22 : decode cX1_blocksToUndo 22 = .ok (.aload_n 0, 1) := by decide +kernel
theorem dX1_blocksToUndo_23 : decode cX1_blocksToUndo 23 = .ok (.getfield 15, 3) := by decide +kernel
theorem dX1_blocksToUndo_26 : decode cX1_blocksToUndo 26 = .ok (.bipush 16, 2) := by decide +kernel
theorem dX1_blocksToUndo_28 : decode cX1_blocksToUndo 28 = .ok (.iconst 0, 1) := by decide +kernel
theorem dX1_blocksToUndo_29 : decode cX1_blocksToUndo 29 = .ok (.invokevirtual 82, 3) := by decide +kernel
theorem dX1_blocksToUndo_32 : decode cX1_blocksToUndo 32 = .ok (.sipush 6517, 3) := by decide +kernel
theorem dX1_blocksToUndo_35 : decode cX1_blocksToUndo 35 = .ok (.if_icmp .ne 14, 3) := by decide +kernel
theorem dX1_blocksToUndo_38 : decode cX1_blocksToUndo 38 = .ok (.iload_n 1, 1) := by decide +kernel
theorem dX1_blocksToUndo_39 : decode cX1_blocksToUndo 39 = .ok (.iconst 1, 1) := by decide +kernel
theorem dX1_blocksToUndo_40 : decode cX1_blocksToUndo 40 = .ok (.if_icmp .lt 9, 3) := by decide +kernel
theorem dX1_blocksToUndo_43 : decode cX1_blocksToUndo 43 = .ok (.iload_n 1, 1) := by decide +kernel
theorem dX1_blocksToUndo_44 : decode cX1_blocksToUndo 44 = .ok (.bipush 16, 2) := by decide +kernel
theorem dX1_blocksToUndo_46 : decode cX1_blocksToUndo 46 = .ok (.if_icmp .le 5, 3) := by decide +kernel
theorem dX1_blocksToUndo_49 : decode cX1_blocksToUndo 49 = .ok (.iconst 0, 1) := by decide +kernel
theorem dX1_blocksToUndo_50 : decode cX1_blocksToUndo 50 = .ok (.ireturn, 1) := by decide +kernel
theorem dX1_blocksToUndo_51 : decode cX1_blocksToUndo 51 = .ok (.iload_n 2, 1) := by decide +kernel
theorem dX1_blocksToUndo_52 : decode cX1_blocksToUndo 52 = .ok (.bipush 16, 2) := by decide +kernel
theorem dX1_blocksToUndo_54 : decode cX1_blocksToUndo 54 = .ok (.iushr, 1) := by decide +kernel
theorem dX1_blocksToUndo_55 : decode cX1_blocksToUndo 55 = .ok (.ifCond .ne 11, 3) := by decide +kernel
theorem dX1_blocksToUndo_58 : decode cX1_blocksToUndo 58 = .ok (.iload_n 2, 1) := by decide +kernel
theorem dX1_blocksToUndo_59 : decode cX1_blocksToUndo 59 = .ok (.invokestatic 66, 3) := by decide +kernel
theorem dX1_blocksToUndo_62 : decode cX1_blocksToUndo 62 = .ok (.iload_n 1, 1) := by decide +kernel
theorem dX1_blocksToUndo_63 : decode cX1_blocksToUndo 63 = .ok (.if_icmp .eq 5, 3) := by decide +kernel
theorem dX1_blocksToUndo_66 : decode cX1_blocksToUndo 66 = .ok (.iconst 0, 1) := by decide +kernel
theorem dX1_blocksToUndo_67 : decode cX1_blocksToUndo 67 = .ok (.ireturn, 1) := by decide +kernel
theorem dX1_blocksToUndo_68 : decode cX1_blocksToUndo 68 = .ok (.iconst 4, 1) := by decide +kernel
theorem dX1_blocksToUndo_69 : decode cX1_blocksToUndo 69 = .ok (.istore_n 3, 1) := by decide +kernel
theorem dX1_blocksToUndo_70 : decode cX1_blocksToUndo 70 = .ok (.iload_n 3, 1) := by decide +kernel
theorem dX1_blocksToUndo_71 : decode cX1_blocksToUndo 71 = .ok (.bipush 16, 2) := by decide +kernel
theorem dX1_blocksToUndo_73 : decode cX1_blocksToUndo 73 = .ok (.if_icmp .ge 24, 3) := by decide +kernel
theorem dX1_blocksToUndo_76 : decode cX1_blocksToUndo 76 = .ok (.aload_n 0, 1) := by decide +kernel
theorem dX1_blocksToUndo_77 : decode cX1_blocksToUndo 77 = .ok (.getfield 15, 3) := by decide +kernel
theorem dX1_blocksToUndo_80 : decode cX1_blocksToUndo 80 = .ok (.bipush 16, 2) := by decide +kernel
theorem dX1_blocksToUndo_82 : decode cX1_blocksToUndo 82 = .ok (.iload_n 3, 1) := by decide +kernel
theorem dX1_blocksToUndo_83 : decode cX1_blocksToUndo 83 = .ok (.invokevirtual 82, 3) := by decide +kernel
theorem dX1_blocksToUndo_86 : decode cX1_blocksToUndo 86 = .ok (.ifCond .eq 5, 3) := by decide +kernel
theorem dX1_blocksToUndo_89 : decode cX1_blocksToUndo 89 = .ok (.iconst 0, 1) := by decide +kernel
theorem dX1_blocksToUndo_90 : decode cX1_blocksToUndo 90 = .ok (.ireturn, 1) := by decide +kernel
theorem dX1_blocksToUndo_91 : decode cX1_blocksToUndo 91 = .ok (.iinc 3 1, 3) := by decide +kernel
theorem dX1_blocksToUndo_94 : decode cX1_blocksToUndo 94 = .ok (.goto (-24), 3) := by decide +kernel
theorem dX1_blocksToUndo_97 : decode cX1_blocksToUndo 97 = .ok (.aload_n 0, 1) := by decide +kernel
theorem dX1_blocksToUndo_98 : decode cX1_blocksToUndo 98 = .ok (.getfield 15, 3) := by decide +kernel
theorem dX1_blocksToUndo_101 : decode cX1_blocksToUndo 101 = .ok (.bipush 16, 2) := by decide +kernel
theorem dX1_blocksToUndo_103 : decode cX1_blocksToUndo 103 = .ok (.iconst 3, 1) := by decide +kernel
theorem dX1_blocksToUndo_104 : decode cX1_blocksToUndo 104 = .ok (.invokevirtual 82, 3) := by decide +kernel
