set_option maxRecDepth 20000 in
theorem ggX4_insert_X4_refusalOfChange : GoodIn wsX4_insert wsX4_refusalOfChange := goodIn_r _ [7, 1, 8, 9, 10, 6, 11, 12, 13, 14, 15, 16, 17, 18, 19, 20, 21, 22, 23, 24, 25, 95, 96, 97, 98, 99, 100, 101, 102, 103, 104, 105] (by decide +kernel) (by decide +kernel)
set_option maxRecDepth 20000 in
theorem gX4_insert_X4_refusalOfChange : GoodIn wsX4_insert (wsV RX4 65 RX4 yX4_refusalOfChange wsX4_refusalOfChange) := goodIn_app (goodIn_of _ (by decide +kernel)) ggX4_insert_X4_refusalOfChange
set_option maxRecDepth 20000 in
theorem ggX4_insert_X2_rowOf : GoodIn wsX4_insert wsX2_rowOf := goodIn_r _ [29, 30, 31, 32, 23, 33, 25, 34, 35, 36, 37, 38, 39, 40, 41, 42, 21, 22, 24, 43, 44, 45, 46, 47, 48, 49, 50, 51, 52, 53, 54, 105] (by decide +kernel) (by decide +kernel)
set_option maxRecDepth 20000 in
theorem gX4_insert_X2_rowOf : GoodIn wsX4_insert (wsV RX4 86 RX2 yX2_rowOf wsX2_rowOf) := goodIn_app (goodIn_of _ (by decide +kernel)) ggX4_insert_X2_rowOf
set_option maxRecDepth 20000 in
theorem ggX4_insert_X2_addRow : GoodIn wsX4_insert wsX2_addRow := goodIn_r _ [58, 25, 59, 60, 61, 23, 62, 43, 44, 45, 46, 63, 64, 65, 66, 34, 35, 36, 37, 38, 39, 40, 41, 42, 21, 22, 24, 51, 52, 53, 54, 67, 68, 69, 70, 71, 72, 73, 74, 47, 48, 49, 50, 75, 76, 77, 78, 79, 80, 81, 82, 105] (by decide +kernel) (by decide +kernel)
set_option maxRecDepth 20000 in
theorem gX4_insert_X2_addRow : GoodIn wsX4_insert (wsV RX4 90 RX2 yX2_addRow wsX2_addRow) := goodIn_app (goodIn_of _ (by decide +kernel)) ggX4_insert_X2_addRow
set_option maxRecDepth 20000 in
theorem ggX4_insert_X4_voidScansOf : GoodIn wsX4_insert wsX4_voidScansOf := goodIn_r _ [86, 87, 88, 89, 90, 91, 92, 93, 94, 95, 96, 97, 98, 99, 100, 106, 107, 108, 109, 110, 111, 112, 113] (by decide +kernel) (by decide +kernel)
set_option maxRecDepth 20000 in
theorem gX4_insert_X4_voidScansOf : GoodIn wsX4_insert (wsV RX4 73 RX4 yX4_voidScansOf wsX4_voidScansOf) := goodIn_app (goodIn_of _ (by decide +kernel)) ggX4_insert_X4_voidScansOf
theorem dX4_insert_0 : decode cX4_insert 0 = .ok (.aload_n 0, 1) := by decide +kernel
theorem dX4_insert_1 : decode cX4_insert 1 = .ok (.iload_n 1, 1) := by decide +kernel
theorem dX4_insert_2 : decode cX4_insert 2 = .ok (.invokevirtual 65, 3) := by decide +kernel
theorem dX4_insert_5 : decode cX4_insert 5 = .ok (.istore_n 2, 1) := by decide +kernel
theorem dX4_insert_6 : decode cX4_insert 6 = .ok (.iload_n 2, 1) := by decide +kernel
theorem dX4_insert_7 : decode cX4_insert 7 = .ok (.ifCond .eq 5, 3) := by decide +kernel
theorem dX4_insert_10 : decode cX4_insert 10 = .ok (.iload_n 2, 1) := by decide +kernel
theorem dX4_insert_11 : decode cX4_insert 11 = .ok (.ireturn, 1) := by decide +kernel
theorem dX4_insert_12 : decode cX4_insert 12 = .ok (.aload_n 0, 1) := by decide +kernel
theorem dX4_insert_13 : decode cX4_insert 13 = .ok (.getfield 19, 3) := by decide +kernel
theorem dX4_insert_16 : decode cX4_insert 16 = .ok (.iload_n 1, 1) := by decide +kernel
theorem dX4_insert_17 : decode cX4_insert 17 = .ok (.aload_n 0, 1) := by decide +kernel
theorem dX4_insert_18 : decode cX4_insert 18 = .ok (.getfield 39, 3) := by decide +kernel
theorem dX4_insert_21 : decode cX4_insert 21 = .ok (.iconst 0, 1) := by decide +kernel
theorem dX4_insert_22 : decode cX4_insert 22 = .ok (.iaload, 1) := by decide +kernel
theorem dX4_insert_23 : decode cX4_insert 23 = .ok (.invokevirtual 86, 3) := by decide +kernel
theorem dX4_insert_26 : decode cX4_insert 26 = .ok (.iconst (-1), 1) := by decide +kernel
theorem dX4_insert_27 : decode cX4_insert 27 = .ok (.if_icmp .eq 6, 3) := by decide +kernel
theorem dX4_insert_30 : decode cX4_insert 30 = .ok (.bipush (-7), 2) := by decide +kernel
theorem dX4_insert_32 : decode cX4_insert 32 = .ok (.ireturn, 1) := by decide +kernel
theorem dX4_insert_33 : decode cX4_insert 33 = .ok (.aload_n 0, 1) := by decide +kernel
theorem dX4_insert_34 : decode cX4_insert 34 = .ok (.getfield 19, 3) := by decide +kernel
theorem dX4_insert_37 : decode cX4_insert 37 = .ok (.iload_n 1, 1) := by decide +kernel
theorem dX4_insert_38 : decode cX4_insert 38 = .ok (.aload_n 0, 1) := by decide +kernel
theorem dX4_insert_39 : decode cX4_insert 39 = .ok (.getfield 39, 3) := by decide +kernel
theorem dX4_insert_42 : decode cX4_insert 42 = .ok (.invokevirtual 90, 3) := by decide +kernel
theorem dX4_insert_45 : decode cX4_insert 45 = .ok (.ifCond .ne 6, 3) := by decide +kernel
theorem dX4_insert_48 : decode cX4_insert 48 = .ok (.bipush (-8), 2) := by decide +kernel
theorem dX4_insert_50 : decode cX4_insert 50 = .ok (.ireturn, 1) := by decide +kernel
theorem dX4_insert_51 : decode cX4_insert 51 = .ok (.aload_n 0, 1) := by decide +kernel
theorem dX4_insert_52 : decode cX4_insert 52 = .ok (.iload_n 1, 1) := by decide +kernel
theorem dX4_insert_53 : decode cX4_insert 53 = .ok (.invokevirtual 73, 3) := by decide +kernel
theorem dX4_insert_56 : decode cX4_insert 56 = .ok (.iconst 0, 1) := by decide +kernel
theorem dX4_insert_57 : decode cX4_insert 57 = .ok (.ireturn, 1) := by decide +kernel
set_option maxRecDepth 20000 in
theorem ggX4_deleteKey_X4_refusalOfChange : GoodIn wsX4_deleteKey wsX4_refusalOfChange := goodIn_r _ [6, 1, 7, 8, 9, 5, 10, 11, 12, 13, 14, 15, 16, 17, 18, 19, 20, 21, 22, 23, 24, 78, 79, 80, 81, 82, 83, 84, 85, 86, 87, 88] (by decide +kernel) (by decide +kernel)
set_option maxRecDepth 20000 in
theorem gX4_deleteKey_X4_refusalOfChange : GoodIn wsX4_deleteKey (wsV RX4 65 RX4 yX4_refusalOfChange wsX4_refusalOfChange) := goodIn_app (goodIn_of _ (by decide +kernel)) ggX4_deleteKey_X4_refusalOfChange
set_option maxRecDepth 20000 in
theorem ggX4_deleteKey_X2_rowOf : GoodIn wsX4_deleteKey wsX2_rowOf := goodIn_r _ [28, 29, 30, 31, 22, 32, 24, 33, 34, 35, 36, 37, 38, 39, 40, 41, 20, 21, 23, 42, 43, 44, 45, 46, 47, 48, 49, 50, 51, 52, 53, 88] (by decide +kernel) (by decide +kernel)
set_option maxRecDepth 20000 in
theorem gX4_deleteKey_X2_rowOf : GoodIn wsX4_deleteKey (wsV RX4 86 RX2 yX2_rowOf wsX2_rowOf) := goodIn_app (goodIn_of _ (by decide +kernel)) ggX4_deleteKey_X2_rowOf
set_option maxRecDepth 20000 in
theorem ggX4_deleteKey_X2_removeRow : GoodIn wsX4_deleteKey wsX2_removeRow := goodIn_r _ [57, 24, 33, 34, 35, 22, 36, 37, 38, 39, 40, 41, 20, 21, 23, 46, 47, 48, 49, 58, 59, 60, 61, 62, 63, 64, 65, 42, 43, 44, 45, 88] (by decide +kernel) (by decide +kernel)
set_option maxRecDepth 20000 in
theorem gX4_deleteKey_X2_removeRow : GoodIn wsX4_deleteKey (wsV RX4 94 RX2 yX2_removeRow wsX2_removeRow) := goodIn_app (goodIn_of _ (by decide +kernel)) ggX4_deleteKey_X2_removeRow
set_option maxRecDepth 20000 in
theorem ggX4_deleteKey_X4_voidScansOf : GoodIn wsX4_deleteKey wsX4_voidScansOf := goodIn_r _ [69, 70, 71, 72, 73, 74, 75, 76, 77, 78, 79, 80, 81, 82, 83, 89, 90, 91, 92, 93, 94, 95, 96] (by decide +kernel) (by decide +kernel)
set_option maxRecDepth 20000 in
theorem gX4_deleteKey_X4_voidScansOf : GoodIn wsX4_deleteKey (wsV RX4 73 RX4 yX4_voidScansOf wsX4_voidScansOf) := goodIn_app (goodIn_of _ (by decide +kernel)) ggX4_deleteKey_X4_voidScansOf
theorem dX4_deleteKey_0 : decode cX4_deleteKey 0 = .ok (.aload_n 0, 1) := by decide +kernel
theorem dX4_deleteKey_1 : decode cX4_deleteKey 1 = .ok (.iload_n 1, 1) := by decide +kernel
theorem dX4_deleteKey_2 : decode cX4_deleteKey 2 = .ok (.invokevirtual 65, 3) := by decide +kernel
theorem dX4_deleteKey_5 : decode cX4_deleteKey 5 = .ok (.istore_n 3, 1) := by decide +kernel
theorem dX4_deleteKey_6 : decode cX4_deleteKey 6 = .ok (.iload_n 3, 1) := by decide +kernel
theorem dX4_deleteKey_7 : decode cX4_deleteKey 7 = .ok (.ifCond .eq 5, 3) := by decide +kernel
theorem dX4_deleteKey_10 : decode cX4_deleteKey 10 = .ok (.iload_n 3, 1) := by decide +kernel
theorem dX4_deleteKey_11 : decode cX4_deleteKey 11 = .ok (.ireturn, 1) := by decide +kernel
theorem dX4_deleteKey_12 : decode cX4_deleteKey 12 = .ok (.aload_n 0, 1) := by decide +kernel
theorem dX4_deleteKey_13 : decode cX4_deleteKey 13 = .ok (.getfield 19, 3) := by decide +kernel
theorem dX4_deleteKey_16 : decode cX4_deleteKey 16 = .ok (.iload_n 1, 1) := by decide +kernel
theorem dX4_deleteKey_17 : decode cX4_deleteKey 17 = .ok (.iload_n 2, 1) := by decide +kernel
theorem dX4_deleteKey_18 : decode cX4_deleteKey 18 = .ok (.invokevirtual 86, 3) := by decide +kernel
theorem dX4_deleteKey_21 : decode cX4_deleteKey 21 = .ok (.istore 4, 2) := by decide +kernel
theorem dX4_deleteKey_23 : decode cX4_deleteKey 23 = .ok (.iload 4, 2) := by decide +kernel
theorem dX4_deleteKey_25 : decode cX4_deleteKey 25 = .ok (.iconst (-1), 1) := by decide +kernel
theorem dX4_deleteKey_26 : decode cX4_deleteKey 26 = .ok (.if_icmp .ne 6, 3) := by decide +kernel
theorem dX4_deleteKey_29 : decode cX4_deleteKey 29 = .ok (.bipush (-6), 2) := by decide +kernel
theorem dX4_deleteKey_31 : decode cX4_deleteKey 31 = .ok (.ireturn, 1) := by decide +kernel
theorem dX4_deleteKey_32 : decode cX4_deleteKey 32 = .ok (.aload_n 0, 1) := by decide +kernel
theorem dX4_deleteKey_33 : decode cX4_deleteKey 33 = .ok (.getfield 19, 3) := by decide +kernel
theorem dX4_deleteKey_36 : decode cX4_deleteKey 36 = .ok (.iload_n 1, 1) := by decide +kernel
theorem dX4_deleteKey_37 : decode cX4_deleteKey 37 = .ok (.iload 4, 2) := by decide +kernel
theorem dX4_deleteKey_39 : decode cX4_deleteKey 39 = .ok (.invokevirtual 94, 3) := by decide +kernel
theorem dX4_deleteKey_42 : decode cX4_deleteKey 42 = .ok (.aload_n 0, 1) := by decide +kernel
theorem dX4_deleteKey_43 : decode cX4_deleteKey 43 = .ok (.iload_n 1, 1) := by decide +kernel
theorem dX4_deleteKey_44 : decode cX4_deleteKey 44 = .ok (.invokevirtual 73, 3) := by decide +kernel
theorem dX4_deleteKey_47 : decode cX4_deleteKey 47 = .ok (.iconst 0, 1) := by decide +kernel
theorem dX4_deleteKey_48 : decode cX4_deleteKey 48 = .ok (.ireturn, 1) := by decide +kernel
set_option maxRecDepth 20000 in
theorem ggX4_updateCol_X4_refusalOfChange : GoodIn wsX4_updateCol wsX4_refusalOfChange := goodIn_r _ [6, 1, 7, 8, 9, 5, 10, 11, 12, 13, 14, 15, 16, 17, 18, 19, 20, 21, 22, 23, 24, 71, 72, 73, 74, 75, 76, 77, 78, 79, 80, 81] (by decide +kernel) (by decide +kernel)
set_option maxRecDepth 20000 in
theorem gX4_updateCol_X4_refusalOfChange : GoodIn wsX4_updateCol (wsV RX4 65 RX4 yX4_refusalOfChange wsX4_refusalOfChange) := goodIn_app (goodIn_of _ (by decide +kernel)) ggX4_updateCol_X4_refusalOfChange
set_option maxRecDepth 20000 in
theorem ggX4_updateCol_X2_width : GoodIn wsX4_updateCol wsX2_width := goodIn_r _ [28, 24, 29, 20, 21, 22, 23, 81] (by decide +kernel) (by decide +kernel)
set_option maxRecDepth 20000 in
theorem gX4_updateCol_X2_width : GoodIn wsX4_updateCol (wsV RX4 97 RX2 yX2_width wsX2_width) := goodIn_app (goodIn_of _ (by decide +kernel)) ggX4_updateCol_X2_width
set_option maxRecDepth 20000 in
theorem ggX4_updateCol_X2_rowOf : GoodIn wsX4_updateCol wsX2_rowOf := goodIn_r _ [33, 34, 35, 36, 22, 37, 24, 38, 39, 40, 41, 42, 26, 27, 28, 29, 20, 21, 23, 43, 44, 45, 46, 47, 48, 49, 50, 51, 52, 53, 54, 81] (by decide +kernel) (by decide +kernel)
set_option maxRecDepth 20000 in
theorem gX4_updateCol_X2_rowOf : GoodIn wsX4_updateCol (wsV RX4 86 RX2 yX2_rowOf wsX2_rowOf) := goodIn_app (goodIn_of _ (by decide +kernel)) ggX4_updateCol_X2_rowOf
set_option maxRecDepth 20000 in
theorem ggX4_updateCol_X2_setWord : GoodIn wsX4_updateCol wsX2_setWord := goodIn_r _ [58, 24, 81] (by decide +kernel) (by decide +kernel)
set_option maxRecDepth 20000 in
theorem gX4_updateCol_X2_setWord : GoodIn wsX4_updateCol (wsV RX4 100 RX2 yX2_setWord wsX2_setWord) := goodIn_app (goodIn_of _ (by decide +kernel)) ggX4_updateCol_X2_setWord
set_option maxRecDepth 20000 in
theorem ggX4_updateCol_X4_voidScansOf : GoodIn wsX4_updateCol wsX4_voidScansOf := goodIn_r _ [62, 63, 64, 65, 66, 67, 68, 69, 70, 71, 72, 73, 74, 75, 76, 82, 83, 84, 85, 86, 87, 88, 89] (by decide +kernel) (by decide +kernel)
set_option maxRecDepth 20000 in
theorem gX4_updateCol_X4_voidScansOf : GoodIn wsX4_updateCol (wsV RX4 73 RX4 yX4_voidScansOf wsX4_voidScansOf) := goodIn_app (goodIn_of _ (by decide +kernel)) ggX4_updateCol_X4_voidScansOf
theorem dX4_updateCol_0 : decode cX4_updateCol 0 = .ok (.aload_n 0, 1) := by decide +kernel
theorem dX4_updateCol_1 : decode cX4_updateCol 1 = .ok (.iload_n 1, 1) := by decide +kernel
theorem dX4_updateCol_2 : decode cX4_updateCol 2 = .ok (.invokevirtual 65, 3) := by decide +kernel
theorem dX4_updateCol_5 : decode cX4_updateCol 5 = .ok (.istore 5, 2) := by decide +kernel
theorem dX4_updateCol_7 : decode cX4_updateCol 7 = .ok (.iload 5, 2) := by decide +kernel
theorem dX4_updateCol_9 : decode cX4_updateCol 9 = .ok (.ifCond .eq 6, 3) := by decide +kernel
theorem dX4_updateCol_12 : decode cX4_updateCol 12 = .ok (.iload 5, 2) := by decide +kernel
theorem dX4_updateCol_14 : decode cX4_updateCol 14 = .ok (.ireturn, 1) := by decide +kernel
theorem dX4_updateCol_15 : decode cX4_updateCol 15 = .ok (.iload_n 3, 1) := by decide +kernel
theorem dX4_updateCol_16 : decode cX4_updateCol 16 = .ok (.iconst 1, 1) := by decide +kernel
theorem dX4_updateCol_17 : decode cX4_updateCol 17 = .ok (.if_icmp .lt 15, 3) := by decide +kernel
theorem dX4_updateCol_20 : decode cX4_updateCol 20 = .ok (.iload_n 3, 1) := by decide +kernel
theorem dX4_updateCol_21 : decode cX4_updateCol 21 = .ok (.aload_n 0, 1) := by decide +kernel
theorem dX4_updateCol_22 : decode cX4_updateCol 22 = .ok (.getfield 19, 3) := by decide +kernel
theorem dX4_updateCol_25 : decode cX4_updateCol 25 = .ok (.iload_n 1, 1) := by decide +kernel
theorem dX4_updateCol_26 : decode cX4_updateCol 26 = .ok (.invokevirtual 97, 3) := by decide +kernel
theorem dX4_updateCol_29 : decode cX4_updateCol 29 = .ok (.if_icmp .lt 6, 3) := by decide +kernel
theorem dX4_updateCol_32 : decode cX4_updateCol 32 = .ok (.bipush (-4), 2) := by decide +kernel
theorem dX4_updateCol_34 : decode cX4_updateCol 34 = .ok (.ireturn, 1) := by decide +kernel
theorem dX4_updateCol_35 : decode cX4_updateCol 35 = .ok (.aload_n 0, 1) := by decide +kernel
theorem dX4_updateCol_36 : decode cX4_updateCol 36 = .ok (.getfield 19, 3) := by decide +kernel
theorem dX4_updateCol_39 : decode cX4_updateCol 39 = .ok (.iload_n 1, 1) := by decide +kernel
theorem dX4_updateCol_40 : decode cX4_updateCol 40 = .ok (.iload_n 2, 1) := by decide +kernel
theorem dX4_updateCol_41 : decode cX4_updateCol 41 = .ok (.invokevirtual 86, 3) := by decide +kernel
theorem dX4_updateCol_44 : decode cX4_updateCol 44 = .ok (.istore 6, 2) := by decide +kernel
theorem dX4_updateCol_46 : decode cX4_updateCol 46 = .ok (.iload 6, 2) := by decide +kernel
theorem dX4_updateCol_48 : decode cX4_updateCol 48 = .ok (.iconst (-1), 1) := by decide +kernel
theorem dX4_updateCol_49 : decode cX4_updateCol 49 = .ok (.if_icmp .ne 6, 3) := by decide +kernel
theorem dX4_updateCol_52 : decode cX4_updateCol 52 = .ok (.bipush (-6), 2) := by decide +kernel
theorem dX4_updateCol_54 : decode cX4_updateCol 54 = .ok (.ireturn, 1) := by decide +kernel
theorem dX4_updateCol_55 : decode cX4_updateCol 55 = .ok (.aload_n 0, 1) := by decide +kernel
theorem dX4_updateCol_56 : decode cX4_updateCol 56 = .ok (.getfield 19, 3) := by decide +kernel
theorem dX4_updateCol_59 : decode cX4_updateCol 59 = .ok (.iload 6, 2) := by decide +kernel
theorem dX4_updateCol_61 : decode cX4_updateCol 61 = .ok (.iload_n 3, 1) := by decide +kernel
theorem dX4_updateCol_62 : decode cX4_updateCol 62 = .ok (.iadd, 1) := by decide +kernel
theorem dX4_updateCol_63 : decode cX4_updateCol 63 = .ok (.iload 4, 2) := by decide +kernel
theorem dX4_updateCol_65 : decode cX4_updateCol 65 = .ok (.invokevirtual 100, 3) := by decide +kernel
theorem dX4_updateCol_68 : decode cX4_updateCol 68 = .ok (.aload_n 0, 1) := by decide +kernel
theorem dX4_updateCol_69 : decode cX4_updateCol 69 = .ok (.iload_n 1, 1) := by decide +kernel
theorem dX4_updateCol_70 : decode cX4_updateCol 70 = .ok (.invokevirtual 73, 3) := by decide +kernel
theorem dX4_updateCol_73 : decode cX4_updateCol 73 = .ok (.iconst 0, 1) := by decide +kernel
theorem dX4_updateCol_74 : decode cX4_updateCol 74 = .ok (.ireturn, 1) := by decide +kernel
set_option maxRecDepth 20000 in
theorem ggX4_lookup_X0_powered : GoodIn wsX4_lookup wsX0_powered := goodIn_r _ [7, 8, 57, 58, 59, 60] (by decide +kernel) (by decide +kernel)
set_option maxRecDepth 20000 in
theorem gX4_lookup_X0_powered : GoodIn wsX4_lookup (wsV RX4 53 RX0 yX0_powered wsX0_powered) := goodIn_app (goodIn_of _ (by decide +kernel)) ggX4_lookup_X0_powered
set_option maxRecDepth 20000 in
theorem ggX4_lookup_X2_hasCol : GoodIn wsX4_lookup wsX2_hasCol := goodIn_r _ [13, 14, 15, 16, 12, 17, 18, 19, 20, 21, 22, 61] (by decide +kernel) (by decide +kernel)
set_option maxRecDepth 20000 in
theorem gX4_lookup_X2_hasCol : GoodIn wsX4_lookup (wsV RX4 103 RX2 yX2_hasCol wsX2_hasCol) := goodIn_app (goodIn_of _ (by decide +kernel)) ggX4_lookup_X2_hasCol
set_option maxRecDepth 20000 in
theorem ggX4_lookup_X2_rowOf : GoodIn wsX4_lookup wsX2_rowOf := goodIn_r _ [26, 27, 28, 29, 12, 30, 18, 31, 32, 33, 34, 14, 15, 16, 17, 19, 20, 21, 22, 35, 36, 37, 38, 39, 40, 41, 42, 43, 44, 45, 46, 61] (by decide +kernel) (by decide +kernel)
set_option maxRecDepth 20000 in
theorem gX4_lookup_X2_rowOf : GoodIn wsX4_lookup (wsV RX4 86 RX2 yX2_rowOf wsX2_rowOf) := goodIn_app (goodIn_of _ (by decide +kernel)) ggX4_lookup_X2_rowOf
set_option maxRecDepth 20000 in
theorem ggX4_lookup_X2_word : GoodIn wsX4_lookup wsX2_word := goodIn_r _ [50, 18, 61] (by decide +kernel) (by decide +kernel)
set_option maxRecDepth 20000 in
theorem gX4_lookup_X2_word : GoodIn wsX4_lookup (wsV RX4 107 RX2 yX2_word wsX2_word) := goodIn_app (goodIn_of _ (by decide +kernel)) ggX4_lookup_X2_word
theorem dX4_lookup_0 : decode cX4_lookup 0 = .ok (.aload_n 0, 1) := by decide +kernel
theorem dX4_lookup_1 : decode cX4_lookup 1 = .ok (.getfield 10, 3) := by decide +kernel
theorem dX4_lookup_4 : decode cX4_lookup 4 = .ok (.invokevirtual 53, 3) := by decide +kernel
theorem dX4_lookup_7 : decode cX4_lookup 7 = .ok (.ifCond .eq 15, 3) := by decide +kernel
theorem dX4_lookup_10 : decode cX4_lookup 10 = .ok (.aload_n 0, 1) := by decide +kernel
theorem dX4_lookup_11 : decode cX4_lookup 11 = .ok (.getfield 19, 3) := by decide +kernel
theorem dX4_lookup_14 : decode cX4_lookup 14 = .ok (.iload_n 1, 1) := by decide +kernel
theorem dX4_lookup_15 : decode cX4_lookup 15 = .ok (.iload_n 3, 1) := by decide +kernel
theorem dX4_lookup_16 : decode cX4_lookup 16 = .ok (.invokevirtual 103, 3) := by decide +kernel
theorem dX4_lookup_19 : decode cX4_lookup 19 = .ok (.ifCond .ne 5, 3) := by decide +kernel
theorem dX4_lookup_22 : decode cX4_lookup 22 = .ok (.iconst 0, 1) := by decide +kernel
theorem dX4_lookup_23 : decode cX4_lookup 23 = .ok (.ireturn, 1) := by decide +kernel
theorem dX4_lookup_24 : decode cX4_lookup 24 = .ok (.aload_n 0, 1) := by decide +kernel
theorem dX4_lookup_25 : decode cX4_lookup 25 = .ok (.getfield 19, 3) := by decide +kernel
theorem dX4_lookup_28 : decode cX4_lookup 28 = .ok (.iload_n 1, 1) := by decide +kernel
theorem dX4_lookup_29 : decode cX4_lookup 29 = .ok (.iload_n 2, 1) := by decide +kernel
theorem dX4_lookup_30 : decode cX4_lookup 30 = .ok (.invokevirtual 86, 3) := by decide +kernel
theorem dX4_lookup_33 : decode cX4_lookup 33 = .ok (.istore 4, 2) := by decide +kernel
theorem dX4_lookup_35 : decode cX4_lookup 35 = .ok (.iload 4, 2) := by decide +kernel
theorem dX4_lookup_37 : decode cX4_lookup 37 = .ok (.iconst (-1), 1) := by decide +kernel
theorem dX4_lookup_38 : decode cX4_lookup 38 = .ok (.if_icmp .ne 7, 3) := by decide +kernel
theorem dX4_lookup_41 : decode cX4_lookup 41 = .ok (.iconst 0, 1) := by decide +kernel
theorem dX4_lookup_42 : decode cX4_lookup 42 = .ok (.goto 14, 3) := by decide +kernel
theorem dX4_lookup_45 : decode cX4_lookup 45 = .ok (.aload_n 0, 1) := by decide +kernel
theorem dX4_lookup_46 : decode cX4_lookup 46 = .ok (.getfield 19, 3) := by decide +kernel
theorem dX4_lookup_49 : decode cX4_lookup 49 = .ok (.iload 4, 2) := by decide +kernel
theorem dX4_lookup_51 : decode cX4_lookup 51 = .ok (.iload_n 3, 1) := by decide +kernel
theorem dX4_lookup_52 : decode cX4_lookup 52 = .ok (.iadd, 1) := by decide +kernel
theorem dX4_lookup_53 : decode cX4_lookup 53 = .ok (.invokevirtual 107, 3) := by decide +kernel
theorem dX4_lookup_56 : decode cX4_lookup 56 = .ok (.ireturn, 1) := by decide +kernel
set_option maxRecDepth 20000 in
theorem ggX4_has_X0_powered : GoodIn wsX4_has wsX0_powered := goodIn_r _ [7, 8, 50, 51, 52, 53] (by decide +kernel) (by decide +kernel)
set_option maxRecDepth 20000 in
theorem gX4_has_X0_powered : GoodIn wsX4_has (wsV RX4 53 RX0 yX0_powered wsX0_powered) := goodIn_app (goodIn_of _ (by decide +kernel)) ggX4_has_X0_powered
set_option maxRecDepth 20000 in
theorem ggX4_has_X2_hasTable : GoodIn wsX4_has wsX2_hasTable := goodIn_r _ [13, 14, 54] (by decide +kernel) (by decide +kernel)
set_option maxRecDepth 20000 in
theorem gX4_has_X2_hasTable : GoodIn wsX4_has (wsV RX4 110 RX2 yX2_hasTable wsX2_hasTable) := goodIn_app (goodIn_of _ (by decide +kernel)) ggX4_has_X2_hasTable
set_option maxRecDepth 20000 in
theorem ggX4_has_X2_rowOf : GoodIn wsX4_has wsX2_rowOf := goodIn_r _ [18, 19, 20, 21, 12, 22, 14, 23, 24, 25, 26, 27, 28, 29, 30, 31, 10, 11, 13, 32, 33, 34, 35, 36, 37, 38, 39, 40, 41, 42, 43, 54] (by decide +kernel) (by decide +kernel)
set_option maxRecDepth 20000 in
theorem gX4_has_X2_rowOf : GoodIn wsX4_has (wsV RX4 86 RX2 yX2_rowOf wsX2_rowOf) := goodIn_app (goodIn_of _ (by decide +kernel)) ggX4_has_X2_rowOf
theorem dX4_has_0 : decode cX4_has 0 = .ok (.aload_n 0, 1) := by decide +kernel
theorem dX4_has_1 : decode cX4_has 1 = .ok (.getfield 10, 3) := by decide +kernel
theorem dX4_has_4 : decode cX4_has 4 = .ok (.invokevirtual 53, 3) := by decide +kernel
theorem dX4_has_7 : decode cX4_has 7 = .ok (.ifCond .eq 31, 3) := by decide +kernel
theorem dX4_has_10 : decode cX4_has 10 = .ok (.aload_n 0, 1) := by decide +kernel
theorem dX4_has_11 : decode cX4_has 11 = .ok (.getfield 19, 3) := by decide +kernel
theorem dX4_has_14 : decode cX4_has 14 = .ok (.iload_n 1, 1) := by decide +kernel
theorem dX4_has_15 : decode cX4_has 15 = .ok (.invokevirtual 110, 3) := by decide +kernel
theorem dX4_has_18 : decode cX4_has 18 = .ok (.ifCond .eq 20, 3) := by decide +kernel
theorem dX4_has_21 : decode cX4_has 21 = .ok (.aload_n 0, 1) := by decide +kernel
theorem dX4_has_22 : decode cX4_has 22 = .ok (.getfield 19, 3) := by decide +kernel
theorem dX4_has_25 : decode cX4_has 25 = .ok (.iload_n 1, 1) := by decide +kernel
theorem dX4_has_26 : decode cX4_has 26 = .ok (.iload_n 2, 1) := by decide +kernel
theorem dX4_has_27 : decode cX4_has 27 = .ok (.invokevirtual 86, 3) := by decide +kernel
theorem dX4_has_30 : decode cX4_has 30 = .ok (.iconst (-1), 1) := by decide +kernel
theorem dX4_has_31 : decode cX4_has 31 = .ok (.if_icmp .eq 7, 3) := by decide +kernel
theorem dX4_has_34 : decode cX4_has 34 = .ok (.iconst 1, 1) := by decide +kernel
theorem dX4_has_35 : decode cX4_has 35 = .ok (.goto 4, 3) := by decide +kernel
theorem dX4_has_38 : decode cX4_has 38 = .ok (.iconst 0, 1) := by decide +kernel
theorem dX4_has_39 : decode cX4_has 39 = .ok (.ireturn, 1) := by decide +kernel
set_option maxRecDepth 20000 in
theorem ggX4_count_X0_powered : GoodIn wsX4_count wsX0_powered := goodIn_r _ [7, 8, 36, 37, 38, 39] (by decide +kernel) (by decide +kernel)
set_option maxRecDepth 20000 in
theorem gX4_count_X0_powered : GoodIn wsX4_count (wsV RX4 53 RX0 yX0_powered wsX0_powered) := goodIn_app (goodIn_of _ (by decide +kernel)) ggX4_count_X0_powered
set_option maxRecDepth 20000 in
theorem ggX4_count_X2_hasTable : GoodIn wsX4_count wsX2_hasTable := goodIn_r _ [13, 14, 40] (by decide +kernel) (by decide +kernel)
set_option maxRecDepth 20000 in
theorem gX4_count_X2_hasTable : GoodIn wsX4_count (wsV RX4 110 RX2 yX2_hasTable wsX2_hasTable) := goodIn_app (goodIn_of _ (by decide +kernel)) ggX4_count_X2_hasTable
set_option maxRecDepth 20000 in
theorem ggX4_count_X2_rowsOf : GoodIn wsX4_count wsX2_rowsOf := goodIn_r _ [18, 14, 19, 20, 21, 12, 22, 23, 24, 25, 26, 27, 28, 29, 40] (by decide +kernel) (by decide +kernel)
set_option maxRecDepth 20000 in
theorem gX4_count_X2_rowsOf : GoodIn wsX4_count (wsV RX4 114 RX2 yX2_rowsOf wsX2_rowsOf) := goodIn_app (goodIn_of _ (by decide +kernel)) ggX4_count_X2_rowsOf
theorem dX4_count_0 : decode cX4_count 0 = .ok (.aload_n 0, 1) := by decide +kernel
theorem dX4_count_1 : decode cX4_count 1 = .ok (.getfield 10, 3) := by decide +kernel
theorem dX4_count_4 : decode cX4_count 4 = .ok (.invokevirtual 53, 3) := by decide +kernel
theorem dX4_count_7 : decode cX4_count 7 = .ok (.ifCond .ne 5, 3) := by decide +kernel
theorem dX4_count_10 : decode cX4_count 10 = .ok (.iconst (-1), 1) := by decide +kernel
theorem dX4_count_11 : decode cX4_count 11 = .ok (.ireturn, 1) := by decide +kernel
theorem dX4_count_12 : decode cX4_count 12 = .ok (.aload_n 0, 1) := by decide +kernel
theorem dX4_count_13 : decode cX4_count 13 = .ok (.getfield 19, 3) := by decide +kernel
theorem dX4_count_16 : decode cX4_count 16 = .ok (.iload_n 1, 1) := by decide +kernel
theorem dX4_count_17 : decode cX4_count 17 = .ok (.invokevirtual 110, 3) := by decide +kernel
theorem dX4_count_20 : decode cX4_count 20 = .ok (.ifCond .eq 14, 3) := by decide +kernel
theorem dX4_count_23 : decode cX4_count 23 = .ok (.aload_n 0, 1) := by decide +kernel
theorem dX4_count_24 : decode cX4_count 24 = .ok (.getfield 19, 3) := by decide +kernel
theorem dX4_count_27 : decode cX4_count 27 = .ok (.iload_n 1, 1) := by decide +kernel
theorem dX4_count_28 : decode cX4_count 28 = .ok (.invokevirtual 114, 3) := by decide +kernel
theorem dX4_count_31 : decode cX4_count 31 = .ok (.goto 5, 3) := by decide +kernel
theorem dX4_count_34 : decode cX4_count 34 = .ok (.bipush (-5), 2) := by decide +kernel
theorem dX4_count_36 : decode cX4_count 36 = .ok (.ireturn, 1) := by decide +kernel
set_option maxRecDepth 20000 in
theorem ggX4_openScan_X0_powered : GoodIn wsX4_openScan wsX0_powered := goodIn_r _ [8, 9, 54, 55, 56, 57] (by decide +kernel) (by decide +kernel)
set_option maxRecDepth 20000 in
theorem gX4_openScan_X0_powered : GoodIn wsX4_openScan (wsV RX4 53 RX0 yX0_powered wsX0_powered) := goodIn_app (goodIn_of _ (by decide +kernel)) ggX4_openScan_X0_powered
set_option maxRecDepth 20000 in
theorem ggX4_openScan_X2_hasTable : GoodIn wsX4_openScan wsX2_hasTable := goodIn_r _ [14, 15, 58] (by decide +kernel) (by decide +kernel)
set_option maxRecDepth 20000 in
theorem gX4_openScan_X2_hasTable : GoodIn wsX4_openScan (wsV RX4 110 RX2 yX2_hasTable wsX2_hasTable) := goodIn_app (goodIn_of _ (by decide +kernel)) ggX4_openScan_X2_hasTable
set_option maxRecDepth 20000 in
theorem ggX4_openScan_X2_hasCol : GoodIn wsX4_openScan wsX2_hasCol := goodIn_r _ [19, 20, 21, 22, 13, 23, 15, 24, 11, 12, 14, 58] (by decide +kernel) (by decide +kernel)
set_option maxRecDepth 20000 in
theorem gX4_openScan_X2_hasCol : GoodIn wsX4_openScan (wsV RX4 103 RX2 yX2_hasCol wsX2_hasCol) := goodIn_app (goodIn_of _ (by decide +kernel)) ggX4_openScan_X2_hasCol
set_option maxRecDepth 20000 in
theorem ggX4_openScan_X4_scanOf : GoodIn wsX4_openScan wsX4_scanOf := goodIn_r _ [29, 3, 30, 31, 32, 33, 34, 35, 48, 49, 50, 51, 52, 53, 59, 60, 61, 62, 63, 64, 65, 66] (by decide +kernel) (by decide +kernel)
set_option maxRecDepth 20000 in
theorem gX4_openScan_X4_scanOf : GoodIn wsX4_openScan (wsV RX4 117 RX4 yX4_scanOf wsX4_scanOf) := goodIn_app (goodIn_of _ (by decide +kernel)) ggX4_openScan_X4_scanOf
set_option maxRecDepth 20000 in
theorem ggX4_openScan_X3_start : GoodIn wsX4_openScan wsX3_start := goodIn_r _ [39, 35, 40, 41, 42, 43, 44, 45, 46, 47, 59, 60, 61, 62, 63, 64, 65, 66] (by decide +kernel) (by decide +kernel)
set_option maxRecDepth 20000 in
theorem gX4_openScan_X3_start : GoodIn wsX4_openScan (wsV RX4 121 RX3 yX3_start wsX3_start) := goodIn_app (goodIn_of _ (by decide +kernel)) ggX4_openScan_X3_start
theorem dX4_openScan_0 : decode cX4_openScan 0 = .ok (.aload_n 0, 1) := by decide +kernel
theorem dX4_openScan_1 : decode cX4_openScan 1 = .ok (.getfield 10, 3) := by decide +kernel
theorem dX4_openScan_4 : decode cX4_openScan 4 = .ok (.invokevirtual 53, 3) := by decide +kernel
theorem dX4_openScan_7 : decode cX4_openScan 7 = .ok (.ifCond .ne 5, 3) := by decide +kernel
theorem dX4_openScan_10 : decode cX4_openScan 10 = .ok (.iconst (-1), 1) := by decide +kernel
theorem dX4_openScan_11 : decode cX4_openScan 11 = .ok (.ireturn, 1) := by decide +kernel
theorem dX4_openScan_12 : decode cX4_openScan 12 = .ok (.aload_n 0, 1) := by decide +kernel
theorem dX4_openScan_13 : decode cX4_openScan 13 = .ok (.getfield 19, 3) := by decide +kernel
theorem dX4_openScan_16 : decode cX4_openScan 16 = .ok (.iload_n 1, 1) := by decide +kernel
theorem dX4_openScan_17 : decode cX4_openScan 17 = .ok (.invokevirtual 110, 3) := by decide +kernel
theorem dX4_openScan_20 : decode cX4_openScan 20 = .ok (.ifCond .ne 6, 3) := by decide +kernel
theorem dX4_openScan_23 : decode cX4_openScan 23 = .ok (.bipush (-5), 2) := by decide +kernel
theorem dX4_openScan_25 : decode cX4_openScan 25 = .ok (.ireturn, 1) := by decide +kernel
theorem dX4_openScan_26 : decode cX4_openScan 26 = .ok (.aload_n 0, 1) := by decide +kernel
theorem dX4_openScan_27 : decode cX4_openScan 27 = .ok (.getfield 19, 3) := by decide +kernel
theorem dX4_openScan_30 : decode cX4_openScan 30 = .ok (.iload_n 1, 1) := by decide +kernel
theorem dX4_openScan_31 : decode cX4_openScan 31 = .ok (.iload_n 2, 1) := by decide +kernel
theorem dX4_openScan_32 : decode cX4_openScan 32 = .ok (.invokevirtual 103, 3) := by decide +kernel
theorem dX4_openScan_35 : decode cX4_openScan 35 = .ok (.ifCond .ne 6, 3) := by decide +kernel
theorem dX4_openScan_38 : decode cX4_openScan 38 = .ok (.bipush (-4), 2) := by decide +kernel
theorem dX4_openScan_40 : decode cX4_openScan 40 = .ok (.ireturn, 1) := by decide +kernel
theorem dX4_openScan_41 : decode cX4_openScan 41 = .ok (.iconst 0, 1) := by decide +kernel
theorem dX4_openScan_42 : decode cX4_openScan 42 = .ok (.istore 5, 2) := by decide +kernel
theorem dX4_openScan_44 : decode cX4_openScan 44 = .ok (.iload 5, 2) := by decide +kernel
theorem dX4_openScan_46 : decode cX4_openScan 46 = .ok (.iconst 4, 1) := by decide +kernel
theorem dX4_openScan_47 : decode cX4_openScan 47 = .ok (.if_icmp .ge 36, 3) := by decide +kernel
theorem dX4_openScan_50 : decode cX4_openScan 50 = .ok (.aload_n 0, 1) := by decide +kernel
theorem dX4_openScan_51 : decode cX4_openScan 51 = .ok (.iload 5, 2) := by decide +kernel
theorem dX4_openScan_53 : decode cX4_openScan 53 = .ok (.invokevirtual 117, 3) := by decide +kernel
theorem dX4_openScan_56 : decode cX4_openScan 56 = .ok (.ifnonnull 21, 3) := by decide +kernel
theorem dX4_openScan_59 : decode cX4_openScan 59 = .ok (.aload_n 0, 1) := by decide +kernel
theorem dX4_openScan_60 : decode cX4_openScan 60 = .ok (.getfield 34, 3) := by decide +kernel
theorem dX4_openScan_63 : decode cX4_openScan 63 = .ok (.iload 5, 2) := by decide +kernel
theorem dX4_openScan_65 : decode cX4_openScan 65 = .ok (.aaload, 1) := by decide +kernel
theorem dX4_openScan_66 : decode cX4_openScan 66 = .ok (.iload_n 1, 1) := by decide +kernel
theorem dX4_openScan_67 : decode cX4_openScan 67 = .ok (.iload_n 2, 1) := by decide +kernel
theorem dX4_openScan_68 : decode cX4_openScan 68 = .ok (.iload_n 3, 1) := by decide +kernel
theorem dX4_openScan_69 : decode cX4_openScan 69 = .ok (.iload 4, 2) := by decide +kernel
theorem dX4_openScan_71 : decode cX4_openScan 71 = .ok (.invokevirtual 121, 3) := by decide +kernel
theorem dX4_openScan_74 : decode cX4_openScan 74 = .ok (.iload 5, 2) := by decide +kernel
theorem dX4_openScan_76 : decode cX4_openScan 76 = .ok (.ireturn, 1) := by decide +kernel
theorem dX4_openScan_77 : decode cX4_openScan 77 = .ok (.iinc 5 1, 3) := by decide +kernel
theorem dX4_openScan_80 : decode cX4_openScan 80 = .ok (.goto (-36), 3) := by decide +kernel
theorem dX4_openScan_83 : decode cX4_openScan 83 = .ok (.bipush (-8), 2) := by decide +kernel
theorem dX4_openScan_85 : decode cX4_openScan 85 = .ok (.ireturn, 1) := by decide +kernel
set_option maxRecDepth 20000 in
theorem ggX4_next_X4_usableScan : GoodIn wsX4_next wsX4_usableScan := goodIn_r _ [6, 7, 8, 9, 10, 11, 12, 13, 14, 15, 16, 5, 17, 18, 19, 20, 21, 22, 23, 24, 25, 26, 27, 28, 29, 74, 75, 76, 77, 78, 79, 80, 81, 82, 83, 84, 85, 86, 87, 88, 89, 90, 91] (by decide +kernel) (by decide +kernel)
set_option maxRecDepth 20000 in
theorem gX4_next_X4_usableScan : GoodIn wsX4_next (wsV RX4 125 RX4 yX4_usableScan wsX4_usableScan) := goodIn_app (goodIn_of _ (by decide +kernel)) ggX4_next_X4_usableScan
set_option maxRecDepth 20000 in
theorem ggX4_next_X3_move : GoodIn wsX4_next wsX3_move := goodIn_r _ [33, 34, 35, 36, 37, 38, 39, 40, 41, 42, 43, 44, 45, 46, 47, 48, 49, 50, 51, 52, 53, 54, 55, 56, 57, 58, 59, 60, 61, 62, 63, 64, 65, 66, 67, 68, 69, 70, 71, 72, 73, 84, 85, 86, 87, 88, 89, 90, 91, 92] (by decide +kernel) (by decide +kernel)
set_option maxRecDepth 20000 in
theorem gX4_next_X3_move : GoodIn wsX4_next (wsV RX4 128 RX3 yX3_move wsX3_move) := goodIn_app (goodIn_of _ (by decide +kernel)) ggX4_next_X3_move
theorem dX4_next_0 : decode cX4_next 0 = .ok (.aload_n 0, 1) := by decide +kernel
theorem dX4_next_1 : decode cX4_next 1 = .ok (.iload_n 1, 1) := by decide +kernel
theorem dX4_next_2 : decode cX4_next 2 = .ok (.invokevirtual 125, 3) := by decide +kernel
theorem dX4_next_5 : decode cX4_next 5 = .ok (.astore_n 2, 1) := by decide +kernel
theorem dX4_next_6 : decode cX4_next 6 = .ok (.aload_n 2, 1) := by decide +kernel
theorem dX4_next_7 : decode cX4_next 7 = .ok (.ifnull 18, 3) := by decide +kernel
theorem dX4_next_10 : decode cX4_next 10 = .ok (.aload_n 2, 1) := by decide +kernel
theorem dX4_next_11 : decode cX4_next 11 = .ok (.aload_n 0, 1) := by decide +kernel
theorem dX4_next_12 : decode cX4_next 12 = .ok (.getfield 19, 3) := by decide +kernel
theorem dX4_next_15 : decode cX4_next 15 = .ok (.invokevirtual 128, 3) := by decide +kernel
theorem dX4_next_18 : decode cX4_next 18 = .ok (.ifCond .eq 7, 3) := by decide +kernel
theorem dX4_next_21 : decode cX4_next 21 = .ok (.iconst 1, 1) := by decide +kernel
theorem dX4_next_22 : decode cX4_next 22 = .ok (.goto 4, 3) := by decide +kernel
theorem dX4_next_25 : decode cX4_next 25 = .ok (.iconst 0, 1) := by decide +kernel
theorem dX4_next_26 : decode cX4_next 26 = .ok (.ireturn, 1) := by decide +kernel
set_option maxRecDepth 20000 in
theorem ggX4_col_X4_usableScan : GoodIn wsX4_col wsX4_usableScan := goodIn_r _ [6, 7, 8, 9, 10, 11, 12, 13, 14, 15, 16, 5, 17, 18, 19, 20, 21, 22, 23, 24, 25, 26, 27, 28, 29, 54, 55, 56, 57, 58, 59, 60, 61, 62, 63, 64, 65, 66, 67, 68, 69, 70, 71] (by decide +kernel) (by decide +kernel)
set_option maxRecDepth 20000 in
theorem gX4_col_X4_usableScan : GoodIn wsX4_col (wsV RX4 125 RX4 yX4_usableScan wsX4_usableScan) := goodIn_app (goodIn_of _ (by decide +kernel)) ggX4_col_X4_usableScan
set_option maxRecDepth 20000 in
theorem ggX4_col_X3_wordAt : GoodIn wsX4_col wsX3_wordAt := goodIn_r _ [33, 34, 35, 36, 37, 38, 39, 40, 41, 42, 43, 44, 45, 46, 47, 48, 49, 50, 51, 52, 53, 64, 65, 66, 67, 68, 69, 70, 71, 72] (by decide +kernel) (by decide +kernel)
set_option maxRecDepth 20000 in
theorem gX4_col_X3_wordAt : GoodIn wsX4_col (wsV RX4 132 RX3 yX3_wordAt wsX3_wordAt) := goodIn_app (goodIn_of _ (by decide +kernel)) ggX4_col_X3_wordAt
theorem dX4_col_0 : decode cX4_col 0 = .ok (.aload_n 0, 1) := by decide +kernel
theorem dX4_col_1 : decode cX4_col 1 = .ok (.iload_n 1, 1) := by decide +kernel
theorem dX4_col_2 : decode cX4_col 2 = .ok (.invokevirtual 125, 3) := by decide +kernel
theorem dX4_col_5 : decode cX4_col 5 = .ok (.astore_n 3, 1) := by decide +kernel
theorem dX4_col_6 : decode cX4_col 6 = .ok (.aload_n 3, 1) := by decide +kernel
theorem dX4_col_7 : decode cX4_col 7 = .ok (.ifnonnull 7, 3) := by decide +kernel
theorem dX4_col_10 : decode cX4_col 10 = .ok (.iconst 0, 1) := by decide +kernel
theorem dX4_col_11 : decode cX4_col 11 = .ok (.goto 12, 3) := by decide +kernel
theorem dX4_col_14 : decode cX4_col 14 = .ok (.aload_n 3, 1) := by decide +kernel
theorem dX4_col_15 : decode cX4_col 15 = .ok (.aload_n 0, 1) := by decide +kernel
theorem dX4_col_16 : decode cX4_col 16 = .ok (.getfield 19, 3) := by decide +kernel
theorem dX4_col_19 : decode cX4_col 19 = .ok (.iload_n 2, 1) := by decide +kernel
theorem dX4_col_20 : decode cX4_col 20 = .ok (.invokevirtual 132, 3) := by decide +kernel
theorem dX4_col_23 : decode cX4_col 23 = .ok (.ireturn, 1) := by decide +kernel
set_option maxRecDepth 20000 in
theorem ggX4_closeScan_X0_powered : GoodIn wsX4_closeScan wsX0_powered := goodIn_r _ [6, 7, 30, 31, 32, 33] (by decide +kernel) (by decide +kernel)
set_option maxRecDepth 20000 in
theorem gX4_closeScan_X0_powered : GoodIn wsX4_closeScan (wsV RX4 53 RX0 yX0_powered wsX0_powered) := goodIn_app (goodIn_of _ (by decide +kernel)) ggX4_closeScan_X0_powered
set_option maxRecDepth 20000 in
theorem ggX4_closeScan_X4_scanOf : GoodIn wsX4_closeScan wsX4_scanOf := goodIn_r _ [12, 13, 14, 15, 16, 17, 18, 19, 24, 25, 26, 27, 28, 29, 34, 35, 36, 37, 38, 39, 40, 41] (by decide +kernel) (by decide +kernel)
set_option maxRecDepth 20000 in
theorem gX4_closeScan_X4_scanOf : GoodIn wsX4_closeScan (wsV RX4 117 RX4 yX4_scanOf wsX4_scanOf) := goodIn_app (goodIn_of _ (by decide +kernel)) ggX4_closeScan_X4_scanOf
set_option maxRecDepth 20000 in
theorem ggX4_closeScan_X3_end : GoodIn wsX4_closeScan wsX3_end := goodIn_r _ [23, 19, 34, 35, 36, 37, 38, 39, 40, 41] (by decide +kernel) (by decide +kernel)
set_option maxRecDepth 20000 in
theorem gX4_closeScan_X3_end : GoodIn wsX4_closeScan (wsV RX4 136 RX3 yX3_end wsX3_end) := goodIn_app (goodIn_of _ (by decide +kernel)) ggX4_closeScan_X3_end
theorem dX4_closeScan_0 : decode cX4_closeScan 0 = .ok (.aload_n 0, 1) := by decide +kernel
theorem dX4_closeScan_1 : decode cX4_closeScan 1 = .ok (.getfield 10, 3) := by decide +kernel
theorem dX4_closeScan_4 : decode cX4_closeScan 4 = .ok (.invokevirtual 53, 3) := by decide +kernel
theorem dX4_closeScan_7 : decode cX4_closeScan 7 = .ok (.ifCond .ne 5, 3) := by decide +kernel
theorem dX4_closeScan_10 : decode cX4_closeScan 10 = .ok (.iconst (-1), 1) := by decide +kernel
theorem dX4_closeScan_11 : decode cX4_closeScan 11 = .ok (.ireturn, 1) := by decide +kernel
theorem dX4_closeScan_12 : decode cX4_closeScan 12 = .ok (.aload_n 0, 1) := by decide +kernel
theorem dX4_closeScan_13 : decode cX4_closeScan 13 = .ok (.iload_n 1, 1) := by decide +kernel
theorem dX4_closeScan_14 : decode cX4_closeScan 14 = .ok (.invokevirtual 117, 3) := by decide +kernel
theorem dX4_closeScan_17 : decode cX4_closeScan 17 = .ok (.astore_n 2, 1) := by decide +kernel
theorem dX4_closeScan_18 : decode cX4_closeScan 18 = .ok (.aload_n 2, 1) := by decide +kernel
theorem dX4_closeScan_19 : decode cX4_closeScan 19 = .ok (.ifnonnull 6, 3) := by decide +kernel
theorem dX4_closeScan_22 : decode cX4_closeScan 22 = .ok (.bipush (-9), 2) := by decide +kernel
