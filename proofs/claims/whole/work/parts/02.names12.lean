theorem dX5_col_9 : decode cX5_col 9 = .ok (.getfield 42, 3) := by decide +kernel
theorem dX5_col_12 : decode cX5_col 12 = .ok (.iload_n 1, 1) := by decide +kernel
theorem dX5_col_13 : decode cX5_col 13 = .ok (.baload, 1) := by decide +kernel
theorem dX5_col_14 : decode cX5_col 14 = .ok (.ifCond .ne 32, 3) := by decide +kernel
theorem dX5_col_17 : decode cX5_col 17 = .ok (.aload_n 0, 1) := by decide +kernel
theorem dX5_col_18 : decode cX5_col 18 = .ok (.getfield 45, 3) := by decide +kernel
theorem dX5_col_21 : decode cX5_col 21 = .ok (.iload_n 1, 1) := by decide +kernel
theorem dX5_col_22 : decode cX5_col 22 = .ok (.iaload, 1) := by decide +kernel
theorem dX5_col_23 : decode cX5_col 23 = .ok (.iconst 1, 1) := by decide +kernel
theorem dX5_col_24 : decode cX5_col 24 = .ok (.if_icmp .ne 22, 3) := by decide +kernel
theorem dX5_col_27 : decode cX5_col 27 = .ok (.iload_n 2, 1) := by decide +kernel
theorem dX5_col_28 : decode cX5_col 28 = .ok (.ifCond .lt 18, 3) := by decide +kernel
theorem dX5_col_31 : decode cX5_col 31 = .ok (.iload_n 2, 1) := by decide +kernel
theorem dX5_col_32 : decode cX5_col 32 = .ok (.aload_n 0, 1) := by decide +kernel
theorem dX5_col_33 : decode cX5_col 33 = .ok (.getfield 13, 3) := by decide +kernel
theorem dX5_col_36 : decode cX5_col 36 = .ok (.aload_n 0, 1) := by decide +kernel
theorem dX5_col_37 : decode cX5_col 37 = .ok (.getfield 26, 3) := by decide +kernel
theorem dX5_col_40 : decode cX5_col 40 = .ok (.iload_n 1, 1) := by decide +kernel
theorem dX5_col_41 : decode cX5_col 41 = .ok (.iaload, 1) := by decide +kernel
theorem dX5_col_42 : decode cX5_col 42 = .ok (.iaload, 1) := by decide +kernel
theorem dX5_col_43 : decode cX5_col 43 = .ok (.if_icmp .lt 5, 3) := by decide +kernel
theorem dX5_col_46 : decode cX5_col 46 = .ok (.iconst 0, 1) := by decide +kernel
theorem dX5_col_47 : decode cX5_col 47 = .ok (.ireturn, 1) := by decide +kernel
theorem dX5_col_48 : decode cX5_col 48 = .ok (.aload_n 0, 1) := by decide +kernel
theorem dX5_col_49 : decode cX5_col 49 = .ok (.getfield 13, 3) := by decide +kernel
theorem dX5_col_52 : decode cX5_col 52 = .ok (.aload_n 0, 1) := by decide +kernel
theorem dX5_col_53 : decode cX5_col 53 = .ok (.aload_n 0, 1) := by decide +kernel
theorem dX5_col_54 : decode cX5_col 54 = .ok (.getfield 26, 3) := by decide +kernel
theorem dX5_col_57 : decode cX5_col 57 = .ok (.iload_n 1, 1) := by decide +kernel
theorem dX5_col_58 : decode cX5_col 58 = .ok (.iaload, 1) := by decide +kernel
theorem dX5_col_59 : decode cX5_col 59 = .ok (.aload_n 0, 1) := by decide +kernel
theorem dX5_col_60 : decode cX5_col 60 = .ok (.getfield 48, 3) := by decide +kernel
theorem dX5_col_63 : decode cX5_col 63 = .ok (.iload_n 1, 1) := by decide +kernel
theorem dX5_col_64 : decode cX5_col 64 = .ok (.iaload, 1) := by decide +kernel
theorem dX5_col_65 : decode cX5_col 65 = .ok (.invokevirtual 120, 3) := by decide +kernel
theorem dX5_col_68 : decode cX5_col 68 = .ok (.iload_n 2, 1) := by decide +kernel
theorem dX5_col_69 : decode cX5_col 69 = .ok (.iadd, 1) := by decide +kernel
theorem dX5_col_70 : decode cX5_col 70 = .ok (.iaload, 1) := by decide +kernel
theorem dX5_col_71 : decode cX5_col 71 = .ok (.ireturn, 1) := by decide +kernel
set_option maxRecDepth 20000 in
theorem ggX5_closeScan_X5_noScan : GoodIn wsX5_closeScan wsX5_noScan := goodIn_r _ [7, 1, 2, 8, 9, 10, 11, 12, 13, 14, 15, 16, 17, 18, 19, 20, 21, 22, 23, 24, 25] (by decide +kernel) (by decide +kernel)
set_option maxRecDepth 20000 in
theorem gX5_closeScan_X5_noScan : GoodIn wsX5_closeScan (wsV RX5 134 RX5 yX5_noScan wsX5_noScan) := goodIn_app (goodIn_of _ (by decide +kernel)) ggX5_closeScan_X5_noScan
theorem dX5_closeScan_0 : decode cX5_closeScan 0 = .ok (.aload_n 0, 1) := by decide +kernel
theorem dX5_closeScan_1 : decode cX5_closeScan 1 = .ok (.getfield 51, 3) := by decide +kernel
theorem dX5_closeScan_4 : decode cX5_closeScan 4 = .ok (.ifCond .eq 5, 3) := by decide +kernel
theorem dX5_closeScan_7 : decode cX5_closeScan 7 = .ok (.iconst (-1), 1) := by decide +kernel
theorem dX5_closeScan_8 : decode cX5_closeScan 8 = .ok (.ireturn, 1) := by decide +kernel
theorem dX5_closeScan_9 : decode cX5_closeScan 9 = .ok (.aload_n 0, 1) := by decide +kernel
theorem dX5_closeScan_10 : decode cX5_closeScan 10 = .ok (.iload_n 1, 1) := by decide +kernel
theorem dX5_closeScan_11 : decode cX5_closeScan 11 = .ok (.invokevirtual 134, 3) := by decide +kernel
theorem dX5_closeScan_14 : decode cX5_closeScan 14 = .ok (.ifCond .eq 6, 3) := by decide +kernel
theorem dX5_closeScan_17 : decode cX5_closeScan 17 = .ok (.bipush (-9), 2) := by decide +kernel
theorem dX5_closeScan_19 : decode cX5_closeScan 19 = .ok (.ireturn, 1) := by decide +kernel
theorem dX5_closeScan_20 : decode cX5_closeScan 20 = .ok (.aload_n 0, 1) := by decide +kernel
theorem dX5_closeScan_21 : decode cX5_closeScan 21 = .ok (.getfield 38, 3) := by decide +kernel
theorem dX5_closeScan_24 : decode cX5_closeScan 24 = .ok (.iload_n 1, 1) := by decide +kernel
theorem dX5_closeScan_25 : decode cX5_closeScan 25 = .ok (.iconst 0, 1) := by decide +kernel
theorem dX5_closeScan_26 : decode cX5_closeScan 26 = .ok (.bastore, 1) := by decide +kernel
theorem dX5_closeScan_27 : decode cX5_closeScan 27 = .ok (.iconst 0, 1) := by decide +kernel
theorem dX5_closeScan_28 : decode cX5_closeScan 28 = .ok (.ireturn, 1) := by decide +kernel
theorem dJ6_bitCount_0f7a4_0 : decode cJ6_bitCount_0f7a4 0 = .ok (.iload_n 0, 1) := by decide +kernel
theorem dJ6_bitCount_0f7a4_1 : decode cJ6_bitCount_0f7a4 1 = .ok (.iload_n 0, 1) := by decide +kernel
theorem dJ6_bitCount_0f7a4_2 : decode cJ6_bitCount_0f7a4 2 = .ok (.iconst 1, 1) := by decide +kernel
theorem dJ6_bitCount_0f7a4_3 : decode cJ6_bitCount_0f7a4 3 = .ok (.iushr, 1) := by decide +kernel
theorem dJ6_bitCount_0f7a4_4 : decode cJ6_bitCount_0f7a4 4 = .ok (.ldc_w 265, 3) := by decide +kernel
theorem dJ6_bitCount_0f7a4_7 : decode cJ6_bitCount_0f7a4 7 = .ok (.iand, 1) := by decide +kernel
theorem dJ6_bitCount_0f7a4_8 : decode cJ6_bitCount_0f7a4 8 = .ok (.isub, 1) := by decide +kernel
theorem dJ6_bitCount_0f7a4_9 : decode cJ6_bitCount_0f7a4 9 = .ok (.istore_n 0, 1) := by decide +kernel
theorem dJ6_bitCount_0f7a4_10 : decode cJ6_bitCount_0f7a4 10 = .ok (.iload_n 0, 1) := by decide +kernel
theorem dJ6_bitCount_0f7a4_11 : decode cJ6_bitCount_0f7a4 11 = .ok (.ldc_w 266, 3) := by decide +kernel
theorem dJ6_bitCount_0f7a4_14 : decode cJ6_bitCount_0f7a4 14 = .ok (.iand, 1) := by decide +kernel
theorem dJ6_bitCount_0f7a4_15 : decode cJ6_bitCount_0f7a4 15 = .ok (.iload_n 0, 1) := by decide +kernel
theorem dJ6_bitCount_0f7a4_16 : decode cJ6_bitCount_0f7a4 16 = .ok (.iconst 2, 1) := by decide +kernel
theorem dJ6_bitCount_0f7a4_17 : decode cJ6_bitCount_0f7a4 17 = .ok (.iushr, 1) := by decide +kernel
theorem dJ6_bitCount_0f7a4_18 : decode cJ6_bitCount_0f7a4 18 = .ok (.ldc_w 266, 3) := by decide +kernel
theorem dJ6_bitCount_0f7a4_21 : decode cJ6_bitCount_0f7a4 21 = .ok (.iand, 1) := by decide +kernel
theorem dJ6_bitCount_0f7a4_22 : decode cJ6_bitCount_0f7a4 22 = .ok (.iadd, 1) := by decide +kernel
theorem dJ6_bitCount_0f7a4_23 : decode cJ6_bitCount_0f7a4 23 = .ok (.istore_n 0, 1) := by decide +kernel
theorem dJ6_bitCount_0f7a4_24 : decode cJ6_bitCount_0f7a4 24 = .ok (.iload_n 0, 1) := by decide +kernel
theorem dJ6_bitCount_0f7a4_25 : decode cJ6_bitCount_0f7a4 25 = .ok (.iload_n 0, 1) := by decide +kernel
theorem dJ6_bitCount_0f7a4_26 : decode cJ6_bitCount_0f7a4 26 = .ok (.iconst 4, 1) := by decide +kernel
theorem dJ6_bitCount_0f7a4_27 : decode cJ6_bitCount_0f7a4 27 = .ok (.iushr, 1) := by decide +kernel
theorem dJ6_bitCount_0f7a4_28 : decode cJ6_bitCount_0f7a4 28 = .ok (.iadd, 1) := by decide +kernel
theorem dJ6_bitCount_0f7a4_29 : decode cJ6_bitCount_0f7a4 29 = .ok (.ldc_w 267, 3) := by decide +kernel
theorem dJ6_bitCount_0f7a4_32 : decode cJ6_bitCount_0f7a4 32 = .ok (.iand, 1) := by decide +kernel
theorem dJ6_bitCount_0f7a4_33 : decode cJ6_bitCount_0f7a4 33 = .ok (.istore_n 0, 1) := by decide +kernel
theorem dJ6_bitCount_0f7a4_34 : decode cJ6_bitCount_0f7a4 34 = .ok (.iload_n 0, 1) := by decide +kernel
theorem dJ6_bitCount_0f7a4_35 : decode cJ6_bitCount_0f7a4 35 = .ok (.iload_n 0, 1) := by decide +kernel
theorem dJ6_bitCount_0f7a4_36 : decode cJ6_bitCount_0f7a4 36 = .ok (.bipush 8, 2) := by decide +kernel
theorem dJ6_bitCount_0f7a4_38 : decode cJ6_bitCount_0f7a4 38 = .ok (.iushr, 1) := by decide +kernel
theorem dJ6_bitCount_0f7a4_39 : decode cJ6_bitCount_0f7a4 39 = .ok (.iadd, 1) := by decide +kernel
theorem dJ6_bitCount_0f7a4_40 : decode cJ6_bitCount_0f7a4 40 = .ok (.istore_n 0, 1) := by decide +kernel
theorem dJ6_bitCount_0f7a4_41 : decode cJ6_bitCount_0f7a4 41 = .ok (.iload_n 0, 1) := by decide +kernel
theorem dJ6_bitCount_0f7a4_42 : decode cJ6_bitCount_0f7a4 42 = .ok (.iload_n 0, 1) := by decide +kernel
theorem dJ6_bitCount_0f7a4_43 : decode cJ6_bitCount_0f7a4 43 = .ok (.bipush 16, 2) := by decide +kernel
theorem dJ6_bitCount_0f7a4_45 : decode cJ6_bitCount_0f7a4 45 = .ok (.iushr, 1) := by decide +kernel
theorem dJ6_bitCount_0f7a4_46 : decode cJ6_bitCount_0f7a4 46 = .ok (.iadd, 1) := by decide +kernel
theorem dJ6_bitCount_0f7a4_47 : decode cJ6_bitCount_0f7a4 47 = .ok (.istore_n 0, 1) := by decide +kernel
theorem dJ6_bitCount_0f7a4_48 : decode cJ6_bitCount_0f7a4 48 = .ok (.iload_n 0, 1) := by decide +kernel
theorem dJ6_bitCount_0f7a4_49 : decode cJ6_bitCount_0f7a4 49 = .ok (.bipush 63, 2) := by decide +kernel
theorem dJ6_bitCount_0f7a4_51 : decode cJ6_bitCount_0f7a4 51 = .ok (.iand, 1) := by decide +kernel
theorem dJ6_bitCount_0f7a4_52 : decode cJ6_bitCount_0f7a4 52 = .ok (.ireturn, 1) := by decide +kernel
set_option maxRecDepth 20000 in
theorem ggL_law_X4_init : GoodIn wsL_law wsX4_init := goodIn_r _ [8, 9, 10, 11, 12, 13, 14, 15, 16, 17, 18, 19, 20, 21, 22, 23, 24, 25, 26, 27, 28, 29, 30, 31, 32, 33, 34, 35, 36, 37, 38, 39, 40, 41, 42, 43, 44, 45, 46, 47, 48, 49, 50, 51, 52, 53, 54, 55, 56, 57, 58, 59, 60, 615, 616, 617, 618, 591, 592, 593, 594, 595, 596, 619, 620, 621, 622, 623, 624, 625, 626, 627, 628, 629, 630] (by decide +kernel) (by decide +kernel)
set_option maxRecDepth 20000 in
theorem gL_law_X4_init : GoodIn wsL_law (wsX4_init) := ggL_law_X4_init
set_option maxRecDepth 20000 in
theorem ggL_law_X5_init : GoodIn wsL_law wsX5_init := goodIn_r _ [63, 64, 10, 11, 28, 65, 66, 67, 68, 69, 70, 71, 72, 73, 74, 75, 76, 77, 78, 597, 598, 599, 600, 601, 602, 603, 604, 605, 606, 607, 608, 609, 610, 611, 612, 613, 614] (by decide +kernel) (by decide +kernel)
set_option maxRecDepth 20000 in
theorem gL_law_X5_init : GoodIn wsL_law (wsX5_init) := ggL_law_X5_init
set_option maxRecDepth 20000 in
theorem ggL_law_X4_format : GoodIn wsL_law wsX4_format := goodIn_r _ [82, 15, 83, 84, 85, 14, 86, 34, 35, 36, 87, 88, 89, 2, 90, 19, 30, 25, 91, 92, 93, 18, 94, 41, 95, 96, 97, 98, 99, 100, 101, 27, 102, 52, 591, 592, 593, 594, 595, 596, 615, 616, 617, 618, 619, 623, 624, 625, 626, 627, 628, 629, 630] (by decide +kernel) (by decide +kernel)
set_option maxRecDepth 20000 in
theorem gL_law_X4_format : GoodIn wsL_law (wsV RL 13 RX4 yX4_format wsX4_format) := goodIn_app (goodIn_of _ (by decide +kernel)) ggL_law_X4_format
set_option maxRecDepth 20000 in
theorem ggL_law_X5_format : GoodIn wsL_law wsX5_format := goodIn_r _ [106, 65, 107, 69, 75, 108, 109, 110, 5, 111, 66, 112, 597, 598, 599, 600, 601, 602, 603, 604, 605, 606, 607, 608, 609, 610, 611, 612, 613, 614] (by decide +kernel) (by decide +kernel)
set_option maxRecDepth 20000 in
theorem gL_law_X5_format : GoodIn wsL_law (wsV RL 17 RX5 yX5_format wsX5_format) := goodIn_app (goodIn_of _ (by decide +kernel)) ggL_law_X5_format
set_option maxRecDepth 20000 in
theorem ggL_law_X4_createTable : GoodIn wsL_law wsX4_createTable := goodIn_r _ [116, 15, 30, 19, 117, 118, 119, 14, 120, 35, 121, 122, 123, 18, 124, 41, 125, 126, 127, 128, 591, 592, 593, 594, 595, 596, 615, 616, 617, 618, 619] (by decide +kernel) (by decide +kernel)
set_option maxRecDepth 20000 in
theorem gL_law_X4_createTable : GoodIn wsL_law (wsV RL 18 RX4 yX4_createTable wsX4_createTable) := goodIn_app (goodIn_of _ (by decide +kernel)) ggL_law_X4_createTable
set_option maxRecDepth 20000 in
theorem ggL_law_X5_createTable : GoodIn wsL_law wsX5_createTable := goodIn_r _ [132, 107, 112, 66, 597, 598, 599, 600, 601, 602, 603, 604, 605, 606, 607, 608, 609, 610, 611, 612, 613, 614] (by decide +kernel) (by decide +kernel)
set_option maxRecDepth 20000 in
theorem gL_law_X5_createTable : GoodIn wsL_law (wsV RL 22 RX5 yX5_createTable wsX5_createTable) := goodIn_app (goodIn_of _ (by decide +kernel)) ggL_law_X5_createTable
set_option maxRecDepth 20000 in
theorem ggL_law_X4_dropTable : GoodIn wsL_law wsX4_dropTable := goodIn_r _ [136, 19, 137, 138, 139, 2, 140, 141, 142, 143, 144, 15, 30, 117, 118, 119, 14, 120, 35, 145, 146, 147, 18, 148, 41, 149, 150, 151, 152, 153, 154, 155, 156, 157, 158, 159, 160, 161, 162, 163, 164, 25, 165, 166, 167, 27, 168, 54, 53, 591, 592, 593, 594, 595, 596, 615, 616, 617, 618, 619, 623, 624, 625, 626, 627, 628, 629, 630] (by decide +kernel) (by decide +kernel)
set_option maxRecDepth 20000 in
theorem gL_law_X4_dropTable : GoodIn wsL_law (wsV RL 23 RX4 yX4_dropTable wsX4_dropTable) := goodIn_app (goodIn_of _ (by decide +kernel)) ggL_law_X4_dropTable
set_option maxRecDepth 20000 in
theorem ggL_law_X5_dropTable : GoodIn wsL_law wsX5_dropTable := goodIn_r _ [172, 107, 112, 66, 173, 174, 175, 5, 176, 177, 178, 179, 180, 181, 182, 183, 184, 76, 70, 597, 598, 599, 600, 601, 602, 603, 604, 605, 606, 607, 608, 609, 610, 611, 612, 613, 614] (by decide +kernel) (by decide +kernel)
set_option maxRecDepth 20000 in
theorem gL_law_X5_dropTable : GoodIn wsL_law (wsV RL 26 RX5 yX5_dropTable wsX5_dropTable) := goodIn_app (goodIn_of _ (by decide +kernel)) ggL_law_X5_dropTable
set_option maxRecDepth 20000 in
theorem ggL_law_X4_begin : GoodIn wsL_law wsX4_begin := goodIn_r _ [188, 15, 30, 117, 118, 119, 14, 120, 35, 591, 592, 593, 594, 595, 596, 615, 616, 617, 618] (by decide +kernel) (by decide +kernel)
set_option maxRecDepth 20000 in
theorem gL_law_X4_begin : GoodIn wsL_law (wsV RL 27 RX4 yX4_begin wsX4_begin) := goodIn_app (goodIn_of _ (by decide +kernel)) ggL_law_X4_begin
set_option maxRecDepth 20000 in
theorem ggL_law_X5_begin : GoodIn wsL_law wsX5_begin := goodIn_r _ [192, 107, 112, 597, 598, 599, 600, 601, 602, 603, 604, 605, 606, 607, 608, 609, 610, 611, 612, 613, 614] (by decide +kernel) (by decide +kernel)
set_option maxRecDepth 20000 in
theorem gL_law_X5_begin : GoodIn wsL_law (wsV RL 30 RX5 yX5_begin wsX5_begin) := goodIn_app (goodIn_of _ (by decide +kernel)) ggL_law_X5_begin
set_option maxRecDepth 20000 in
theorem ggL_law_X4_commit : GoodIn wsL_law wsX4_commit := goodIn_r _ [196, 23, 30, 141, 142, 143, 2, 144, 15, 117, 118, 119, 14, 120, 35, 197, 198, 199, 22, 200, 201, 202, 203, 204, 48, 47, 205, 206, 207, 18, 208, 41, 209, 210, 211, 212, 213, 214, 215, 216, 217, 218, 219, 220, 221, 222, 223, 224, 225, 226, 227, 228, 229, 34, 230, 231, 232, 233, 36, 234, 96, 97, 98, 37, 235, 236, 237, 238, 46, 239, 240, 241, 242, 243, 244, 245, 246, 247, 248, 249, 250, 251, 252, 253, 254, 255, 256, 257, 258, 259, 260, 591, 592, 593, 594, 595, 596, 615, 616, 617, 618, 620, 621, 622, 619] (by decide +kernel) (by decide +kernel)
set_option maxRecDepth 20000 in
theorem gL_law_X4_commit : GoodIn wsL_law (wsV RL 31 RX4 yX4_commit wsX4_commit) := goodIn_app (goodIn_of _ (by decide +kernel)) ggL_law_X4_commit
set_option maxRecDepth 20000 in
theorem ggL_law_X5_commit : GoodIn wsL_law wsX5_commit := goodIn_r _ [264, 107, 112, 265, 266, 267, 5, 268, 65, 66, 269, 270, 271, 272, 67, 273, 274, 275, 276, 69, 277, 278, 279, 280, 281, 282, 283, 284, 285, 286, 287, 288, 289, 597, 598, 599, 600, 601, 602, 603, 604, 605, 606, 607, 608, 609, 610, 611, 612, 613, 614] (by decide +kernel) (by decide +kernel)
set_option maxRecDepth 20000 in
theorem gL_law_X5_commit : GoodIn wsL_law (wsV RL 34 RX5 yX5_commit wsX5_commit) := goodIn_app (goodIn_of _ (by decide +kernel)) ggL_law_X5_commit
set_option maxRecDepth 20000 in
theorem ggL_law_X4_rollback : GoodIn wsL_law wsX4_rollback := goodIn_r _ [293, 19, 15, 30, 141, 142, 143, 2, 144, 117, 118, 119, 14, 120, 35, 91, 92, 93, 18, 94, 41, 95, 96, 97, 98, 161, 162, 163, 164, 25, 165, 166, 167, 27, 168, 54, 53, 591, 592, 593, 594, 595, 596, 615, 616, 617, 618, 619, 623, 624, 625, 626, 627, 628, 629, 630] (by decide +kernel) (by decide +kernel)
set_option maxRecDepth 20000 in
theorem gL_law_X4_rollback : GoodIn wsL_law (wsV RL 35 RX4 yX4_rollback wsX4_rollback) := goodIn_app (goodIn_of _ (by decide +kernel)) ggL_law_X4_rollback
set_option maxRecDepth 20000 in
theorem ggL_law_X5_rollback : GoodIn wsL_law wsX5_rollback := goodIn_r _ [297, 107, 112, 76, 108, 109, 110, 5, 111, 66, 65, 597, 598, 599, 600, 601, 602, 603, 604, 605, 606, 607, 608, 609, 610, 611, 612, 613, 614] (by decide +kernel) (by decide +kernel)
set_option maxRecDepth 20000 in
theorem gL_law_X5_rollback : GoodIn wsL_law (wsV RL 38 RX5 yX5_rollback wsX5_rollback) := goodIn_app (goodIn_of _ (by decide +kernel)) ggL_law_X5_rollback
set_option maxRecDepth 20000 in
theorem ggL_law_X4_stage : GoodIn wsL_law wsX4_stage := goodIn_r _ [301, 15, 29, 117, 118, 119, 14, 120, 35, 591, 592, 593, 594, 595, 596, 615, 616, 617, 618] (by decide +kernel) (by decide +kernel)
set_option maxRecDepth 20000 in
theorem gL_law_X4_stage : GoodIn wsL_law (wsV RL 39 RX4 yX4_stage wsX4_stage) := goodIn_app (goodIn_of _ (by decide +kernel)) ggL_law_X4_stage
set_option maxRecDepth 20000 in
theorem ggL_law_X5_stage : GoodIn wsL_law wsX5_stage := goodIn_r _ [305, 107, 68, 597, 598, 599, 600, 601, 602, 603, 604, 605, 606, 607, 608, 609, 610, 611, 612, 613, 614] (by decide +kernel) (by decide +kernel)
set_option maxRecDepth 20000 in
theorem gL_law_X5_stage : GoodIn wsL_law (wsV RL 43 RX5 yX5_stage wsX5_stage) := goodIn_app (goodIn_of _ (by decide +kernel)) ggL_law_X5_stage
set_option maxRecDepth 20000 in
theorem ggL_law_X4_insert : GoodIn wsL_law wsX4_insert := goodIn_r _ [309, 19, 29, 137, 138, 139, 2, 140, 141, 142, 143, 144, 15, 30, 117, 118, 119, 14, 120, 35, 145, 146, 147, 18, 148, 41, 310, 311, 312, 313, 314, 315, 316, 317, 318, 319, 320, 321, 322, 323, 324, 325, 326, 153, 154, 155, 156, 327, 328, 329, 330, 331, 332, 333, 334, 335, 336, 337, 338, 339, 340, 341, 342, 343, 344, 345, 346, 347, 348, 349, 350, 95, 96, 97, 98, 351, 352, 353, 354, 355, 356, 357, 358, 161, 162, 163, 164, 25, 165, 166, 167, 27, 168, 54, 53, 591, 592, 593, 594, 595, 596, 615, 616, 617, 618, 619, 623, 624, 625, 626, 627, 628, 629, 630] (by decide +kernel) (by decide +kernel)
set_option maxRecDepth 20000 in
theorem gL_law_X4_insert : GoodIn wsL_law (wsV RL 44 RX4 yX4_insert wsX4_insert) := goodIn_app (goodIn_of _ (by decide +kernel)) ggL_law_X4_insert
set_option maxRecDepth 20000 in
theorem ggL_law_X5_insert : GoodIn wsL_law wsX5_insert := goodIn_r _ [362, 107, 112, 68, 66, 173, 174, 175, 5, 176, 363, 364, 365, 366, 367, 368, 369, 370, 371, 372, 373, 374, 375, 376, 377, 378, 379, 380, 381, 382, 383, 384, 181, 182, 183, 184, 76, 70, 385, 386, 387, 388, 597, 598, 599, 600, 601, 602, 603, 604, 605, 606, 607, 608, 609, 610, 611, 612, 613, 614] (by decide +kernel) (by decide +kernel)
set_option maxRecDepth 20000 in
theorem gL_law_X5_insert : GoodIn wsL_law (wsV RL 47 RX5 yX5_insert wsX5_insert) := goodIn_app (goodIn_of _ (by decide +kernel)) ggL_law_X5_insert
set_option maxRecDepth 20000 in
theorem ggL_law_X4_deleteKey : GoodIn wsL_law wsX4_deleteKey := goodIn_r _ [392, 19, 137, 138, 139, 2, 140, 141, 142, 143, 144, 15, 30, 117, 118, 119, 14, 120, 35, 145, 146, 147, 18, 148, 41, 310, 311, 312, 313, 314, 315, 316, 317, 318, 319, 320, 321, 322, 323, 324, 325, 326, 153, 154, 155, 156, 327, 328, 329, 330, 331, 332, 333, 334, 393, 394, 395, 396, 157, 158, 159, 160, 355, 356, 357, 358, 161, 162, 163, 164, 25, 165, 166, 167, 27, 168, 54, 53, 591, 592, 593, 594, 595, 596, 615, 616, 617, 618, 619, 623, 624, 625, 626, 627, 628, 629, 630] (by decide +kernel) (by decide +kernel)
set_option maxRecDepth 20000 in
theorem gL_law_X4_deleteKey : GoodIn wsL_law (wsV RL 48 RX4 yX4_deleteKey wsX4_deleteKey) := goodIn_app (goodIn_of _ (by decide +kernel)) ggL_law_X4_deleteKey
set_option maxRecDepth 20000 in
theorem ggL_law_X5_deleteKey : GoodIn wsL_law wsX5_deleteKey := goodIn_r _ [400, 107, 112, 367, 66, 368, 173, 174, 175, 5, 176, 363, 364, 365, 366, 369, 370, 371, 372, 373, 374, 375, 376, 377, 378, 379, 380, 401, 402, 403, 404, 177, 178, 179, 180, 181, 182, 183, 184, 76, 70, 597, 598, 599, 600, 601, 602, 603, 604, 605, 606, 607, 608, 609, 610, 611, 612, 613, 614] (by decide +kernel) (by decide +kernel)
set_option maxRecDepth 20000 in
theorem gL_law_X5_deleteKey : GoodIn wsL_law (wsV RL 51 RX5 yX5_deleteKey wsX5_deleteKey) := goodIn_app (goodIn_of _ (by decide +kernel)) ggL_law_X5_deleteKey
set_option maxRecDepth 20000 in
theorem ggL_law_X4_updateCol : GoodIn wsL_law wsX4_updateCol := goodIn_r _ [408, 19, 137, 138, 139, 2, 140, 141, 142, 143, 144, 15, 30, 117, 118, 119, 14, 120, 35, 145, 146, 147, 18, 148, 41, 409, 323, 324, 325, 326, 310, 311, 312, 313, 314, 315, 316, 317, 318, 319, 320, 321, 322, 153, 154, 155, 156, 327, 328, 329, 330, 331, 332, 333, 334, 410, 411, 412, 413, 161, 162, 163, 164, 25, 165, 166, 167, 27, 168, 54, 53, 591, 592, 593, 594, 595, 596, 615, 616, 617, 618, 619, 623, 624, 625, 626, 627, 628, 629, 630] (by decide +kernel) (by decide +kernel)
set_option maxRecDepth 20000 in
theorem gL_law_X4_updateCol : GoodIn wsL_law (wsV RL 52 RX4 yX4_updateCol wsX4_updateCol) := goodIn_app (goodIn_of _ (by decide +kernel)) ggL_law_X4_updateCol
set_option maxRecDepth 20000 in
theorem ggL_law_X5_updateCol : GoodIn wsL_law wsX5_updateCol := goodIn_r _ [417, 107, 112, 66, 173, 174, 175, 5, 176, 363, 364, 365, 366, 367, 368, 369, 370, 371, 372, 373, 374, 375, 376, 377, 378, 379, 380, 181, 182, 183, 184, 76, 70, 597, 598, 599, 600, 601, 602, 603, 604, 605, 606, 607, 608, 609, 610, 611, 612, 613, 614] (by decide +kernel) (by decide +kernel)
set_option maxRecDepth 20000 in
theorem gL_law_X5_updateCol : GoodIn wsL_law (wsV RL 56 RX5 yX5_updateCol wsX5_updateCol) := goodIn_app (goodIn_of _ (by decide +kernel)) ggL_law_X5_updateCol
set_option maxRecDepth 20000 in
theorem ggL_law_X4_lookup : GoodIn wsL_law wsX4_lookup := goodIn_r _ [421, 15, 19, 117, 118, 119, 14, 120, 35, 422, 423, 424, 18, 425, 322, 323, 324, 325, 41, 326, 146, 147, 148, 310, 311, 312, 313, 314, 315, 316, 317, 318, 319, 320, 321, 153, 154, 155, 156, 327, 328, 329, 330, 331, 332, 333, 334, 426, 427, 428, 429, 591, 592, 593, 594, 595, 596, 615, 616, 617, 618, 619] (by decide +kernel) (by decide +kernel)
set_option maxRecDepth 20000 in
theorem gL_law_X4_lookup : GoodIn wsL_law (wsV RL 57 RX4 yX4_lookup wsX4_lookup) := goodIn_app (goodIn_of _ (by decide +kernel)) ggL_law_X4_lookup
set_option maxRecDepth 20000 in
theorem ggL_law_X5_lookup : GoodIn wsL_law wsX5_lookup := goodIn_r _ [433, 107, 66, 173, 174, 175, 5, 176, 363, 364, 365, 366, 367, 368, 369, 370, 371, 372, 373, 374, 375, 376, 377, 378, 379, 380, 597, 598, 599, 600, 601, 602, 603, 604, 605, 606, 607, 608, 609, 610, 611, 612, 613, 614] (by decide +kernel) (by decide +kernel)
set_option maxRecDepth 20000 in
theorem gL_law_X5_lookup : GoodIn wsL_law (wsV RL 61 RX5 yX5_lookup wsX5_lookup) := goodIn_app (goodIn_of _ (by decide +kernel)) ggL_law_X5_lookup
set_option maxRecDepth 20000 in
theorem ggL_law_X4_has : GoodIn wsL_law wsX4_has := goodIn_r _ [437, 15, 19, 117, 118, 119, 14, 120, 35, 145, 146, 147, 18, 148, 41, 310, 311, 312, 313, 314, 315, 316, 317, 318, 319, 320, 321, 322, 323, 324, 325, 326, 153, 154, 155, 156, 327, 328, 329, 330, 331, 332, 333, 334, 591, 592, 593, 594, 595, 596, 615, 616, 617, 618, 619] (by decide +kernel) (by decide +kernel)
set_option maxRecDepth 20000 in
theorem gL_law_X4_has : GoodIn wsL_law (wsV RL 62 RX4 yX4_has wsX4_has) := goodIn_app (goodIn_of _ (by decide +kernel)) ggL_law_X4_has
set_option maxRecDepth 20000 in
theorem ggL_law_X5_has : GoodIn wsL_law wsX5_has := goodIn_r _ [441, 107, 173, 174, 175, 5, 176, 66, 363, 364, 365, 366, 367, 368, 369, 370, 371, 372, 373, 374, 375, 376, 377, 378, 379, 380, 597, 598, 599, 600, 601, 602, 603, 604, 605, 606, 607, 608, 609, 610, 611, 612, 613, 614] (by decide +kernel) (by decide +kernel)
set_option maxRecDepth 20000 in
theorem gL_law_X5_has : GoodIn wsL_law (wsV RL 66 RX5 yX5_has wsX5_has) := goodIn_app (goodIn_of _ (by decide +kernel)) ggL_law_X5_has
set_option maxRecDepth 20000 in
theorem ggL_law_X4_count : GoodIn wsL_law wsX4_count := goodIn_r _ [445, 15, 19, 117, 118, 119, 14, 120, 35, 145, 146, 147, 18, 148, 41, 446, 447, 448, 449, 153, 154, 155, 156, 450, 220, 221, 222, 223, 224, 225, 591, 592, 593, 594, 595, 596, 615, 616, 617, 618, 619] (by decide +kernel) (by decide +kernel)
set_option maxRecDepth 20000 in
theorem gL_law_X4_count : GoodIn wsL_law (wsV RL 67 RX4 yX4_count wsX4_count) := goodIn_app (goodIn_of _ (by decide +kernel)) ggL_law_X4_count
set_option maxRecDepth 20000 in
theorem ggL_law_X5_count : GoodIn wsL_law wsX5_count := goodIn_r _ [454, 107, 66, 173, 174, 175, 5, 176, 455, 456, 457, 597, 598, 599, 600, 601, 602, 603, 604, 605, 606, 607, 608, 609, 610, 611, 612, 613, 614] (by decide +kernel) (by decide +kernel)
set_option maxRecDepth 20000 in
theorem gL_law_X5_count : GoodIn wsL_law (wsV RL 70 RX5 yX5_count wsX5_count) := goodIn_app (goodIn_of _ (by decide +kernel)) ggL_law_X5_count
set_option maxRecDepth 20000 in
theorem ggL_law_X4_openScan : GoodIn wsL_law wsX4_openScan := goodIn_r _ [461, 15, 19, 25, 117, 118, 119, 14, 120, 35, 145, 146, 147, 18, 148, 41, 422, 423, 424, 425, 322, 323, 324, 325, 326, 462, 463, 464, 2, 465, 466, 467, 468, 27, 469, 52, 470, 471, 472, 473, 53, 54, 55, 56, 57, 58, 59, 60, 591, 592, 593, 594, 595, 596, 615, 616, 617, 618, 619, 623, 624, 625, 626, 627, 628, 629, 630] (by decide +kernel) (by decide +kernel)
set_option maxRecDepth 20000 in
theorem gL_law_X4_openScan : GoodIn wsL_law (wsV RL 71 RX4 yX4_openScan wsX4_openScan) := goodIn_app (goodIn_of _ (by decide +kernel)) ggL_law_X4_openScan
set_option maxRecDepth 20000 in
theorem ggL_law_X5_openScan : GoodIn wsL_law wsX5_openScan := goodIn_r _ [477, 107, 66, 75, 76, 70, 71, 72, 73, 77, 173, 174, 175, 5, 176, 597, 598, 599, 600, 601, 602, 603, 604, 605, 606, 607, 608, 609, 610, 611, 612, 613, 614] (by decide +kernel) (by decide +kernel)
set_option maxRecDepth 20000 in
theorem gL_law_X5_openScan : GoodIn wsL_law (wsV RL 74 RX5 yX5_openScan wsX5_openScan) := goodIn_app (goodIn_of _ (by decide +kernel)) ggL_law_X5_openScan
set_option maxRecDepth 20000 in
theorem ggL_law_X4_next : GoodIn wsL_law wsX4_next := goodIn_r _ [481, 19, 482, 483, 484, 2, 485, 15, 117, 118, 119, 14, 120, 35, 462, 463, 464, 465, 25, 466, 467, 468, 27, 469, 52, 486, 487, 488, 489, 53, 490, 491, 492, 493, 54, 55, 56, 57, 59, 60, 494, 315, 316, 18, 317, 41, 318, 319, 320, 321, 322, 323, 324, 325, 326, 146, 147, 148, 153, 154, 155, 156, 327, 328, 329, 330, 331, 332, 333, 334, 495, 427, 428, 429, 591, 592, 593, 594, 595, 596, 615, 616, 617, 618, 623, 624, 625, 626, 627, 628, 629, 630, 619] (by decide +kernel) (by decide +kernel)
set_option maxRecDepth 20000 in
theorem gL_law_X4_next : GoodIn wsL_law (wsV RL 75 RX4 yX4_next wsX4_next) := goodIn_app (goodIn_of _ (by decide +kernel)) ggL_law_X4_next
set_option maxRecDepth 20000 in
theorem ggL_law_X5_next : GoodIn wsL_law wsX5_next := goodIn_r _ [499, 76, 77, 500, 501, 502, 5, 503, 107, 75, 504, 505, 506, 507, 70, 66, 71, 72, 73, 78, 369, 370, 371, 372, 377, 378, 379, 380, 373, 374, 375, 376, 597, 598, 599, 600, 601, 602, 603, 604, 605, 606, 607, 608, 609, 610, 611, 612, 613, 614] (by decide +kernel) (by decide +kernel)
set_option maxRecDepth 20000 in
theorem gL_law_X5_next : GoodIn wsL_law (wsV RL 79 RX5 yX5_next wsX5_next) := goodIn_app (goodIn_of _ (by decide +kernel)) ggL_law_X5_next
set_option maxRecDepth 20000 in
theorem ggL_law_X4_col : GoodIn wsL_law wsX4_col := goodIn_r _ [511, 19, 482, 483, 484, 2, 485, 15, 117, 118, 119, 14, 120, 35, 462, 463, 464, 465, 25, 466, 467, 468, 27, 469, 52, 486, 487, 488, 489, 53, 512, 513, 514, 515, 60, 54, 516, 423, 424, 18, 425, 322, 323, 324, 325, 41, 326, 146, 147, 148, 495, 427, 428, 429, 591, 592, 593, 594, 595, 596, 615, 616, 617, 618, 623, 624, 625, 626, 627, 628, 629, 630, 619] (by decide +kernel) (by decide +kernel)
set_option maxRecDepth 20000 in
theorem gL_law_X4_col : GoodIn wsL_law (wsV RL 80 RX4 yX4_col wsX4_col) := goodIn_app (goodIn_of _ (by decide +kernel)) ggL_law_X4_col
set_option maxRecDepth 20000 in
theorem ggL_law_X5_col : GoodIn wsL_law wsX5_col := goodIn_r _ [520, 76, 77, 66, 70, 78, 500, 501, 502, 5, 503, 107, 75, 363, 364, 365, 366, 367, 368, 369, 370, 371, 372, 373, 374, 375, 376, 377, 378, 379, 380, 597, 598, 599, 600, 601, 602, 603, 604, 605, 606, 607, 608, 609, 610, 611, 612, 613, 614] (by decide +kernel) (by decide +kernel)
set_option maxRecDepth 20000 in
theorem gL_law_X5_col : GoodIn wsL_law (wsV RL 83 RX5 yX5_col wsX5_col) := goodIn_app (goodIn_of _ (by decide +kernel)) ggL_law_X5_col
set_option maxRecDepth 20000 in
theorem ggL_law_X4_closeScan : GoodIn wsL_law wsX4_closeScan := goodIn_r _ [524, 15, 117, 118, 119, 14, 120, 35, 462, 463, 464, 2, 465, 25, 466, 467, 468, 27, 469, 52, 99, 100, 101, 102, 591, 592, 593, 594, 595, 596, 615, 616, 617, 618, 623, 624, 625, 626, 627, 628, 629, 630] (by decide +kernel) (by decide +kernel)
set_option maxRecDepth 20000 in
theorem gL_law_X4_closeScan : GoodIn wsL_law (wsV RL 84 RX4 yX4_closeScan wsX4_closeScan) := goodIn_app (goodIn_of _ (by decide +kernel)) ggL_law_X4_closeScan
set_option maxRecDepth 20000 in
theorem ggL_law_X5_closeScan : GoodIn wsL_law wsX5_closeScan := goodIn_r _ [528, 107, 75, 500, 501, 502, 5, 503, 597, 598, 599, 600, 601, 602, 603, 604, 605, 606, 607, 608, 609, 610, 611, 612, 613, 614] (by decide +kernel) (by decide +kernel)
set_option maxRecDepth 20000 in
theorem gL_law_X5_closeScan : GoodIn wsL_law (wsV RL 87 RX5 yX5_closeScan wsX5_closeScan) := goodIn_app (goodIn_of _ (by decide +kernel)) ggL_law_X5_closeScan
set_option maxRecDepth 20000 in
theorem ggL_law_X4_crashAfter : GoodIn wsL_law wsX4_crashAfter := goodIn_r _ [532, 15, 533, 534, 535, 14, 536, 36, 591, 592, 593, 594, 595, 596, 615, 616, 617, 618] (by decide +kernel) (by decide +kernel)
set_option maxRecDepth 20000 in
theorem gL_law_X4_crashAfter : GoodIn wsL_law (wsV RL 88 RX4 yX4_crashAfter wsX4_crashAfter) := goodIn_app (goodIn_of _ (by decide +kernel)) ggL_law_X4_crashAfter
set_option maxRecDepth 20000 in
theorem ggL_law_X5_crashAfter : GoodIn wsL_law wsX5_crashAfter := goodIn_r _ [540, 69, 597, 598, 599, 600, 601, 602, 603, 604, 605, 606, 607, 608, 609, 610, 611, 612, 613, 614] (by decide +kernel) (by decide +kernel)
set_option maxRecDepth 20000 in
theorem gL_law_X5_crashAfter : GoodIn wsL_law (wsV RL 91 RX5 yX5_crashAfter wsX5_crashAfter) := goodIn_app (goodIn_of _ (by decide +kernel)) ggL_law_X5_crashAfter
set_option maxRecDepth 20000 in
theorem ggL_law_X4_recover : GoodIn wsL_law wsX4_recover := goodIn_r _ [544, 15, 23, 545, 546, 547, 14, 548, 35, 549, 550, 551, 22, 552, 553, 554, 555, 556, 47, 243, 244, 245, 246, 34, 219, 220, 221, 222, 223, 224, 225, 239, 240, 241, 242, 557, 558, 559, 560, 213, 214, 215, 216, 217, 218, 226, 227, 228, 229, 230, 231, 232, 233, 36, 234, 96, 97, 98, 37, 257, 258, 259, 260, 46, 247, 87, 88, 89, 2, 90, 19, 30, 25, 91, 92, 93, 18, 94, 41, 95, 99, 100, 101, 27, 102, 52, 591, 592, 593, 594, 595, 596, 615, 616, 617, 618, 620, 621, 622, 619, 623, 624, 625, 626, 627, 628, 629, 630] (by decide +kernel) (by decide +kernel)
set_option maxRecDepth 20000 in
theorem gL_law_X4_recover : GoodIn wsL_law (wsV RL 92 RX4 yX4_recover wsX4_recover) := goodIn_app (goodIn_of _ (by decide +kernel)) ggL_law_X4_recover
set_option maxRecDepth 20000 in
theorem ggL_law_X5_recover : GoodIn wsL_law wsX5_recover := goodIn_r _ [564, 107, 65, 75, 565, 566, 567, 5, 568, 569, 455, 456, 457, 282, 283, 284, 285, 269, 270, 271, 272, 67, 273, 274, 275, 276, 69, 277, 278, 279, 280, 281, 108, 109, 110, 111, 66, 112, 597, 598, 599, 600, 601, 602, 603, 604, 605, 606, 607, 608, 609, 610, 611, 612, 613, 614] (by decide +kernel) (by decide +kernel)
set_option maxRecDepth 20000 in
theorem gL_law_X5_recover : GoodIn wsL_law (wsV RL 95 RX5 yX5_recover wsX5_recover) := goodIn_app (goodIn_of _ (by decide +kernel)) ggL_law_X5_recover
set_option maxRecDepth 20000 in
theorem ggL_law_X4_peek : GoodIn wsL_law wsX4_peek := goodIn_r _ [573, 15, 574, 244, 245, 14, 246, 34, 591, 592, 593, 594, 595, 596, 615, 616, 617, 618] (by decide +kernel) (by decide +kernel)
set_option maxRecDepth 20000 in
theorem gL_law_X4_peek : GoodIn wsL_law (wsV RL 96 RX4 yX4_peek wsX4_peek) := goodIn_app (goodIn_of _ (by decide +kernel)) ggL_law_X4_peek
set_option maxRecDepth 20000 in
theorem ggL_law_X5_peek : GoodIn wsL_law wsX5_peek := goodIn_r _ [578, 65, 597, 598, 599, 600, 601, 602, 603, 604, 605, 606, 607, 608, 609, 610, 611, 612, 613, 614] (by decide +kernel) (by decide +kernel)
set_option maxRecDepth 20000 in
theorem gL_law_X5_peek : GoodIn wsL_law (wsV RL 99 RX5 yX5_peek wsX5_peek) := goodIn_app (goodIn_of _ (by decide +kernel)) ggL_law_X5_peek
set_option maxRecDepth 20000 in
theorem ggL_law_X4_writes : GoodIn wsL_law wsX4_writes := goodIn_r _ [582, 15, 583, 584, 585, 14, 586, 37, 591, 592, 593, 594, 595, 596, 615, 616, 617, 618] (by decide +kernel) (by decide +kernel)
set_option maxRecDepth 20000 in
theorem gL_law_X4_writes : GoodIn wsL_law (wsV RL 100 RX4 yX4_writes wsX4_writes) := goodIn_app (goodIn_of _ (by decide +kernel)) ggL_law_X4_writes
set_option maxRecDepth 20000 in
theorem ggL_law_X5_writes : GoodIn wsL_law wsX5_writes := goodIn_r _ [590, 277, 597, 598, 599, 600, 601, 602, 603, 604, 605, 606, 607, 608, 609, 610, 611, 612, 613, 614] (by decide +kernel) (by decide +kernel)
set_option maxRecDepth 20000 in
theorem gL_law_X5_writes : GoodIn wsL_law (wsV RL 103 RX5 yX5_writes wsX5_writes) := goodIn_app (goodIn_of _ (by decide +kernel)) ggL_law_X5_writes
theorem dL_law_0 : decode cL_law 0 = .ok (.new 7, 3) := by decide +kernel
theorem dL_law_3 : decode cL_law 3 = .ok (.dup, 1) := by decide +kernel
theorem dL_law_4 : decode cL_law 4 = .ok (.invokespecial 9, 3) := by decide +kernel
theorem dL_law_7 : decode cL_law 7 = .ok (.astore_n 1, 1) := by decide +kernel
theorem dL_law_8 : decode cL_law 8 = .ok (.new 10, 3) := by decide +kernel
theorem dL_law_11 : decode cL_law 11 = .ok (.dup, 1) := by decide +kernel
theorem dL_law_12 : decode cL_law 12 = .ok (.invokespecial 12, 3) := by decide +kernel
theorem dL_law_15 : decode cL_law 15 = .ok (.astore_n 2, 1) := by decide +kernel
theorem dL_law_16 : decode cL_law 16 = .ok (.iconst 0, 1) := by decide +kernel
theorem dL_law_17 : decode cL_law 17 = .ok (.istore_n 3, 1) := by decide +kernel
theorem dL_law_18 : decode cL_law 18 = .ok (.iload_n 3, 1) := by decide +kernel
theorem dL_law_19 : decode cL_law 19 = .ok (.aload_n 0, 1) := by decide +kernel
theorem dL_law_20 : decode cL_law 20 = .ok (.arraylength, 1) := by decide +kernel
theorem dL_law_21 : decode cL_law 21 = .ok (.iconst 5, 1) := by decide +kernel
theorem dL_law_22 : decode cL_law 22 = .ok (.isub, 1) := by decide +kernel
theorem dL_law_23 : decode cL_law 23 = .ok (.if_icmp .gt 668, 3) := by decide +kernel
theorem dL_law_26 : decode cL_law 26 = .ok (.aload_n 0, 1) := by decide +kernel
theorem dL_law_27 : decode cL_law 27 = .ok (.iload_n 3, 1) := by decide +kernel
theorem dL_law_28 : decode cL_law 28 = .ok (.iaload, 1) := by decide +kernel
theorem dL_law_29 : decode cL_law 29 = .ok (.bipush 31, 2) := by decide +kernel
theorem dL_law_31 : decode cL_law 31 = .ok (.iand, 1) := by decide +kernel
theorem dL_law_32 : decode cL_law 32 = .ok (.tableswitch 653 0 20 #[100, 113, 136, 159, 172, 185, 198, 231, 254, 287, 340, 383, 416, 439, 492, 515, 548, 571, 594, 607, 640], 100) := by decide +kernel
theorem dL_law_132 : decode cL_law 132 = .ok (.aload_n 1, 1) := by decide +kernel
theorem dL_law_133 : decode cL_law 133 = .ok (.invokevirtual 13, 3) := by decide +kernel
theorem dL_law_136 : decode cL_law 136 = .ok (.aload_n 2, 1) := by decide +kernel
theorem dL_law_137 : decode cL_law 137 = .ok (.invokevirtual 17, 3) := by decide +kernel
theorem dL_law_140 : decode cL_law 140 = .ok (.if_icmp .eq 545, 3) := by decide +kernel
theorem dL_law_143 : decode cL_law 143 = .ok (.iconst 0, 1) := by decide +kernel
theorem dL_law_144 : decode cL_law 144 = .ok (.ireturn, 1) := by decide +kernel
theorem dL_law_145 : decode cL_law 145 = .ok (.aload_n 1, 1) := by decide +kernel
theorem dL_law_146 : decode cL_law 146 = .ok (.aload_n 0, 1) := by decide +kernel
theorem dL_law_147 : decode cL_law 147 = .ok (.iload_n 3, 1) := by decide +kernel
theorem dL_law_148 : decode cL_law 148 = .ok (.iconst 1, 1) := by decide +kernel
theorem dL_law_149 : decode cL_law 149 = .ok (.iadd, 1) := by decide +kernel
theorem dL_law_150 : decode cL_law 150 = .ok (.iaload, 1) := by decide +kernel
theorem dL_law_151 : decode cL_law 151 = .ok (.invokevirtual 18, 3) := by decide +kernel
theorem dL_law_154 : decode cL_law 154 = .ok (.aload_n 2, 1) := by decide +kernel
theorem dL_law_155 : decode cL_law 155 = .ok (.aload_n 0, 1) := by decide +kernel
theorem dL_law_156 : decode cL_law 156 = .ok (.iload_n 3, 1) := by decide +kernel
theorem dL_law_157 : decode cL_law 157 = .ok (.iconst 1, 1) := by decide +kernel
theorem dL_law_158 : decode cL_law 158 = .ok (.iadd, 1) := by decide +kernel
theorem dL_law_159 : decode cL_law 159 = .ok (.iaload, 1) := by decide +kernel
theorem dL_law_160 : decode cL_law 160 = .ok (.invokevirtual 22, 3) := by decide +kernel
theorem dL_law_163 : decode cL_law 163 = .ok (.if_icmp .eq 522, 3) := by decide +kernel
theorem dL_law_166 : decode cL_law 166 = .ok (.iconst 0, 1) := by decide +kernel
theorem dL_law_167 : decode cL_law 167 = .ok (.ireturn, 1) := by decide +kernel
theorem dL_law_168 : decode cL_law 168 = .ok (.aload_n 1, 1) := by decide +kernel
theorem dL_law_169 : decode cL_law 169 = .ok (.aload_n 0, 1) := by decide +kernel
theorem dL_law_170 : decode cL_law 170 = .ok (.iload_n 3, 1) := by decide +kernel
theorem dL_law_171 : decode cL_law 171 = .ok (.iconst 1, 1) := by decide +kernel
theorem dL_law_172 : decode cL_law 172 = .ok (.iadd, 1) := by decide +kernel
theorem dL_law_173 : decode cL_law 173 = .ok (.iaload, 1) := by decide +kernel
theorem dL_law_174 : decode cL_law 174 = .ok (.invokevirtual 23, 3) := by decide +kernel
theorem dL_law_177 : decode cL_law 177 = .ok (.aload_n 2, 1) := by decide +kernel
theorem dL_law_178 : decode cL_law 178 = .ok (.aload_n 0, 1) := by decide +kernel
theorem dL_law_179 : decode cL_law 179 = .ok (.iload_n 3, 1) := by decide +kernel
theorem dL_law_180 : decode cL_law 180 = .ok (.iconst 1, 1) := by decide +kernel
theorem dL_law_181 : decode cL_law 181 = .ok (.iadd, 1) := by decide +kernel
theorem dL_law_182 : decode cL_law 182 = .ok (.iaload, 1) := by decide +kernel
theorem dL_law_183 : decode cL_law 183 = .ok (.invokevirtual 26, 3) := by decide +kernel
theorem dL_law_186 : decode cL_law 186 = .ok (.if_icmp .eq 499, 3) := by decide +kernel
theorem dL_law_189 : decode cL_law 189 = .ok (.iconst 0, 1) := by decide +kernel
theorem dL_law_190 : decode cL_law 190 = .ok (.ireturn, 1) := by decide +kernel
theorem dL_law_191 : decode cL_law 191 = .ok (.aload_n 1, 1) := by decide +kernel
theorem dL_law_192 : decode cL_law 192 = .ok (.invokevirtual 27, 3) := by decide +kernel
theorem dL_law_195 : decode cL_law 195 = .ok (.aload_n 2, 1) := by decide +kernel
theorem dL_law_196 : decode cL_law 196 = .ok (.invokevirtual 30, 3) := by decide +kernel
theorem dL_law_199 : decode cL_law 199 = .ok (.if_icmp .eq 486, 3) := by decide +kernel
theorem dL_law_202 : decode cL_law 202 = .ok (.iconst 0, 1) := by decide +kernel
theorem dL_law_203 : decode cL_law 203 = .ok (.ireturn, 1) := by decide +kernel
theorem dL_law_204 : decode cL_law 204 = .ok (.aload_n 1, 1) := by decide +kernel
theorem dL_law_205 : decode cL_law 205 = .ok (.invokevirtual 31, 3) := by decide +kernel
theorem dL_law_208 : decode cL_law 208 = .ok (.aload_n 2, 1) := by decide +kernel
theorem dL_law_209 : decode cL_law 209 = .ok (.invokevirtual 34, 3) := by decide +kernel
theorem dL_law_212 : decode cL_law 212 = .ok (.if_icmp .eq 473, 3) := by decide +kernel
theorem dL_law_215 : decode cL_law 215 = .ok (.iconst 0, 1) := by decide +kernel
theorem dL_law_216 : decode cL_law 216 = .ok (.ireturn, 1) := by decide +kernel
theorem dL_law_217 : decode cL_law 217 = .ok (.aload_n 1, 1) := by decide +kernel
theorem dL_law_218 : decode cL_law 218 = .ok (.invokevirtual 35, 3) := by decide +kernel
theorem dL_law_221 : decode cL_law 221 = .ok (.aload_n 2, 1) := by decide +kernel
theorem dL_law_222 : decode cL_law 222 = .ok (.invokevirtual 38, 3) := by decide +kernel
theorem dL_law_225 : decode cL_law 225 = .ok (.if_icmp .eq 460, 3) := by decide +kernel
theorem dL_law_228 : decode cL_law 228 = .ok (.iconst 0, 1) := by decide +kernel
theorem dL_law_229 : decode cL_law 229 = .ok (.ireturn, 1) := by decide +kernel
theorem dL_law_230 : decode cL_law 230 = .ok (.aload_n 1, 1) := by decide +kernel
theorem dL_law_231 : decode cL_law 231 = .ok (.aload_n 0, 1) := by decide +kernel
theorem dL_law_232 : decode cL_law 232 = .ok (.iload_n 3, 1) := by decide +kernel
theorem dL_law_233 : decode cL_law 233 = .ok (.iconst 1, 1) := by decide +kernel
theorem dL_law_234 : decode cL_law 234 = .ok (.iadd, 1) := by decide +kernel
theorem dL_law_235 : decode cL_law 235 = .ok (.iaload, 1) := by decide +kernel
theorem dL_law_236 : decode cL_law 236 = .ok (.aload_n 0, 1) := by decide +kernel
theorem dL_law_237 : decode cL_law 237 = .ok (.iload_n 3, 1) := by decide +kernel
theorem dL_law_238 : decode cL_law 238 = .ok (.iconst 2, 1) := by decide +kernel
theorem dL_law_239 : decode cL_law 239 = .ok (.iadd, 1) := by decide +kernel
theorem dL_law_240 : decode cL_law 240 = .ok (.iaload, 1) := by decide +kernel
theorem dL_law_241 : decode cL_law 241 = .ok (.invokevirtual 39, 3) := by decide +kernel
theorem dL_law_244 : decode cL_law 244 = .ok (.aload_n 2, 1) := by decide +kernel
theorem dL_law_245 : decode cL_law 245 = .ok (.aload_n 0, 1) := by decide +kernel
theorem dL_law_246 : decode cL_law 246 = .ok (.iload_n 3, 1) := by decide +kernel
theorem dL_law_247 : decode cL_law 247 = .ok (.iconst 1, 1) := by decide +kernel
theorem dL_law_248 : decode cL_law 248 = .ok (.iadd, 1) := by decide +kernel
theorem dL_law_249 : decode cL_law 249 = .ok (.iaload, 1) := by decide +kernel
theorem dL_law_250 : decode cL_law 250 = .ok (.aload_n 0, 1) := by decide +kernel
theorem dL_law_251 : decode cL_law 251 = .ok (.iload_n 3, 1) := by decide +kernel
theorem dL_law_252 : decode cL_law 252 = .ok (.iconst 2, 1) := by decide +kernel
theorem dL_law_253 : decode cL_law 253 = .ok (.iadd, 1) := by decide +kernel
theorem dL_law_254 : decode cL_law 254 = .ok (.iaload, 1) := by decide +kernel
theorem dL_law_255 : decode cL_law 255 = .ok (.invokevirtual 43, 3) := by decide +kernel
theorem dL_law_258 : decode cL_law 258 = .ok (.if_icmp .eq 427, 3) := by decide +kernel
theorem dL_law_261 : decode cL_law 261 = .ok (.iconst 0, 1) := by decide +kernel
theorem dL_law_262 : decode cL_law 262 = .ok (.ireturn, 1) := by decide +kernel
theorem dL_law_263 : decode cL_law 263 = .ok (.aload_n 1, 1) := by decide +kernel
theorem dL_law_264 : decode cL_law 264 = .ok (.aload_n 0, 1) := by decide +kernel
theorem dL_law_265 : decode cL_law 265 = .ok (.iload_n 3, 1) := by decide +kernel
theorem dL_law_266 : decode cL_law 266 = .ok (.iconst 1, 1) := by decide +kernel
theorem dL_law_267 : decode cL_law 267 = .ok (.iadd, 1) := by decide +kernel
theorem dL_law_268 : decode cL_law 268 = .ok (.iaload, 1) := by decide +kernel
theorem dL_law_269 : decode cL_law 269 = .ok (.invokevirtual 44, 3) := by decide +kernel
theorem dL_law_272 : decode cL_law 272 = .ok (.aload_n 2, 1) := by decide +kernel
theorem dL_law_273 : decode cL_law 273 = .ok (.aload_n 0, 1) := by decide +kernel
theorem dL_law_274 : decode cL_law 274 = .ok (.iload_n 3, 1) := by decide +kernel
