set_option maxRecDepth 20000 in
theorem ggX2_addRow_X2_putRow : GoodIn wsX2_addRow wsX2_putRow := goodIn_r _ [34, 1, 35, 36, 37, 38, 39, 40, 41, 5, 42, 19, 20, 21, 22, 23, 24, 25, 26, 51] (by decide +kernel) (by decide +kernel)
set_option maxRecDepth 20000 in
theorem gX2_addRow_X2_putRow : GoodIn wsX2_addRow (wsV RX2 70 RX2 yX2_putRow wsX2_putRow) := goodIn_app (goodIn_of _ (by decide +kernel)) ggX2_addRow_X2_putRow
set_option maxRecDepth 20000 in
theorem ggX2_addRow_X2_freePage : GoodIn wsX2_addRow wsX2_freePage := goodIn_r _ [46, 1, 51] (by decide +kernel) (by decide +kernel)
set_option maxRecDepth 20000 in
theorem gX2_addRow_X2_freePage : GoodIn wsX2_addRow (wsV RX2 74 RX2 yX2_freePage wsX2_freePage) := goodIn_app (goodIn_of _ (by decide +kernel)) ggX2_addRow_X2_freePage
set_option maxRecDepth 20000 in
theorem ggX2_addRow_X2_linkTo : GoodIn wsX2_addRow wsX2_linkTo := goodIn_r _ [50, 1, 7, 8, 9, 5, 10, 51] (by decide +kernel) (by decide +kernel)
set_option maxRecDepth 20000 in
theorem gX2_addRow_X2_linkTo : GoodIn wsX2_addRow (wsV RX2 78 RX2 yX2_linkTo wsX2_linkTo) := goodIn_app (goodIn_of _ (by decide +kernel)) ggX2_addRow_X2_linkTo
theorem dX2_addRow_0 : decode cX2_addRow 0 = .ok (.aload_n 0, 1) := by decide +kernel
theorem dX2_addRow_1 : decode cX2_addRow 1 = .ok (.iload_n 1, 1) := by decide +kernel
theorem dX2_addRow_2 : decode cX2_addRow 2 = .ok (.invokevirtual 63, 3) := by decide +kernel
theorem dX2_addRow_5 : decode cX2_addRow 5 = .ok (.istore_n 3, 1) := by decide +kernel
theorem dX2_addRow_6 : decode cX2_addRow 6 = .ok (.iload_n 3, 1) := by decide +kernel
theorem dX2_addRow_7 : decode cX2_addRow 7 = .ok (.ifCond .eq 18, 3) := by decide +kernel
theorem dX2_addRow_10 : decode cX2_addRow 10 = .ok (.aload_n 0, 1) := by decide +kernel
theorem dX2_addRow_11 : decode cX2_addRow 11 = .ok (.iload_n 1, 1) := by decide +kernel
theorem dX2_addRow_12 : decode cX2_addRow 12 = .ok (.iload_n 3, 1) := by decide +kernel
theorem dX2_addRow_13 : decode cX2_addRow 13 = .ok (.aload_n 0, 1) := by decide +kernel
theorem dX2_addRow_14 : decode cX2_addRow 14 = .ok (.iload_n 1, 1) := by decide +kernel
theorem dX2_addRow_15 : decode cX2_addRow 15 = .ok (.iload_n 3, 1) := by decide +kernel
theorem dX2_addRow_16 : decode cX2_addRow 16 = .ok (.invokevirtual 66, 3) := by decide +kernel
theorem dX2_addRow_19 : decode cX2_addRow 19 = .ok (.aload_n 2, 1) := by decide +kernel
theorem dX2_addRow_20 : decode cX2_addRow 20 = .ok (.invokevirtual 70, 3) := by decide +kernel
theorem dX2_addRow_23 : decode cX2_addRow 23 = .ok (.iconst 1, 1) := by decide +kernel
theorem dX2_addRow_24 : decode cX2_addRow 24 = .ok (.ireturn, 1) := by decide +kernel
theorem dX2_addRow_25 : decode cX2_addRow 25 = .ok (.aload_n 0, 1) := by decide +kernel
theorem dX2_addRow_26 : decode cX2_addRow 26 = .ok (.invokevirtual 74, 3) := by decide +kernel
theorem dX2_addRow_29 : decode cX2_addRow 29 = .ok (.istore_n 3, 1) := by decide +kernel
theorem dX2_addRow_30 : decode cX2_addRow 30 = .ok (.iload_n 3, 1) := by decide +kernel
theorem dX2_addRow_31 : decode cX2_addRow 31 = .ok (.ifCond .ne 5, 3) := by decide +kernel
theorem dX2_addRow_34 : decode cX2_addRow 34 = .ok (.iconst 0, 1) := by decide +kernel
theorem dX2_addRow_35 : decode cX2_addRow 35 = .ok (.ireturn, 1) := by decide +kernel
theorem dX2_addRow_36 : decode cX2_addRow 36 = .ok (.aload_n 0, 1) := by decide +kernel
theorem dX2_addRow_37 : decode cX2_addRow 37 = .ok (.getfield 9, 3) := by decide +kernel
theorem dX2_addRow_40 : decode cX2_addRow 40 = .ok (.aload_n 0, 1) := by decide +kernel
theorem dX2_addRow_41 : decode cX2_addRow 41 = .ok (.iload_n 1, 1) := by decide +kernel
theorem dX2_addRow_42 : decode cX2_addRow 42 = .ok (.iconst 0, 1) := by decide +kernel
theorem dX2_addRow_43 : decode cX2_addRow 43 = .ok (.invokevirtual 78, 3) := by decide +kernel
theorem dX2_addRow_46 : decode cX2_addRow 46 = .ok (.iload_n 3, 1) := by decide +kernel
theorem dX2_addRow_47 : decode cX2_addRow 47 = .ok (.iastore, 1) := by decide +kernel
theorem dX2_addRow_48 : decode cX2_addRow 48 = .ok (.aload_n 0, 1) := by decide +kernel
theorem dX2_addRow_49 : decode cX2_addRow 49 = .ok (.getfield 9, 3) := by decide +kernel
theorem dX2_addRow_52 : decode cX2_addRow 52 = .ok (.iload_n 3, 1) := by decide +kernel
theorem dX2_addRow_53 : decode cX2_addRow 53 = .ok (.bipush 16, 2) := by decide +kernel
theorem dX2_addRow_55 : decode cX2_addRow 55 = .ok (.imul, 1) := by decide +kernel
theorem dX2_addRow_56 : decode cX2_addRow 56 = .ok (.iload_n 1, 1) := by decide +kernel
theorem dX2_addRow_57 : decode cX2_addRow 57 = .ok (.iconst 1, 1) := by decide +kernel
theorem dX2_addRow_58 : decode cX2_addRow 58 = .ok (.iadd, 1) := by decide +kernel
theorem dX2_addRow_59 : decode cX2_addRow 59 = .ok (.iastore, 1) := by decide +kernel
theorem dX2_addRow_60 : decode cX2_addRow 60 = .ok (.aload_n 0, 1) := by decide +kernel
theorem dX2_addRow_61 : decode cX2_addRow 61 = .ok (.iload_n 1, 1) := by decide +kernel
theorem dX2_addRow_62 : decode cX2_addRow 62 = .ok (.iload_n 3, 1) := by decide +kernel
theorem dX2_addRow_63 : decode cX2_addRow 63 = .ok (.iconst 0, 1) := by decide +kernel
theorem dX2_addRow_64 : decode cX2_addRow 64 = .ok (.aload_n 2, 1) := by decide +kernel
theorem dX2_addRow_65 : decode cX2_addRow 65 = .ok (.invokevirtual 70, 3) := by decide +kernel
theorem dX2_addRow_68 : decode cX2_addRow 68 = .ok (.iconst 1, 1) := by decide +kernel
theorem dX2_addRow_69 : decode cX2_addRow 69 = .ok (.ireturn, 1) := by decide +kernel
set_option maxRecDepth 20000 in
theorem ggX2_putRow_X2_rowAt : GoodIn wsX2_putRow wsX2_rowAt := goodIn_r _ [10, 11, 12, 13, 9, 14, 1, 15, 16, 17, 18, 19] (by decide +kernel) (by decide +kernel)
set_option maxRecDepth 20000 in
theorem gX2_putRow_X2_rowAt : GoodIn wsX2_putRow (wsV RX2 51 RX2 yX2_rowAt wsX2_rowAt) := goodIn_app (goodIn_of _ (by decide +kernel)) ggX2_putRow_X2_rowAt
set_option maxRecDepth 20000 in
theorem ggX2_putRow_X2_width : GoodIn wsX2_putRow wsX2_width := goodIn_r _ [14, 1, 15, 16, 17, 9, 18, 19] (by decide +kernel) (by decide +kernel)
set_option maxRecDepth 20000 in
theorem gX2_putRow_X2_width : GoodIn wsX2_putRow (wsV RX2 32 RX2 yX2_width wsX2_width) := goodIn_app (goodIn_of _ (by decide +kernel)) ggX2_putRow_X2_width
theorem dX2_putRow_0 : decode cX2_putRow 0 = .ok (.aload 4, 2) := by decide +kernel
theorem dX2_putRow_2 : decode cX2_putRow 2 = .ok (.iconst 0, 1) := by decide +kernel
theorem dX2_putRow_3 : decode cX2_putRow 3 = .ok (.aload_n 0, 1) := by decide +kernel
theorem dX2_putRow_4 : decode cX2_putRow 4 = .ok (.getfield 9, 3) := by decide +kernel
theorem dX2_putRow_7 : decode cX2_putRow 7 = .ok (.aload_n 0, 1) := by decide +kernel
theorem dX2_putRow_8 : decode cX2_putRow 8 = .ok (.iload_n 1, 1) := by decide +kernel
theorem dX2_putRow_9 : decode cX2_putRow 9 = .ok (.iload_n 2, 1) := by decide +kernel
theorem dX2_putRow_10 : decode cX2_putRow 10 = .ok (.iload_n 3, 1) := by decide +kernel
theorem dX2_putRow_11 : decode cX2_putRow 11 = .ok (.invokevirtual 51, 3) := by decide +kernel
theorem dX2_putRow_14 : decode cX2_putRow 14 = .ok (.aload_n 0, 1) := by decide +kernel
theorem dX2_putRow_15 : decode cX2_putRow 15 = .ok (.iload_n 1, 1) := by decide +kernel
theorem dX2_putRow_16 : decode cX2_putRow 16 = .ok (.invokevirtual 32, 3) := by decide +kernel
theorem dX2_putRow_19 : decode cX2_putRow 19 = .ok (.invokestatic 18, 3) := by decide +kernel
theorem dX2_putRow_22 : decode cX2_putRow 22 = .ok (.aload_n 0, 1) := by decide +kernel
theorem dX2_putRow_23 : decode cX2_putRow 23 = .ok (.getfield 9, 3) := by decide +kernel
theorem dX2_putRow_26 : decode cX2_putRow 26 = .ok (.iload_n 2, 1) := by decide +kernel
theorem dX2_putRow_27 : decode cX2_putRow 27 = .ok (.bipush 16, 2) := by decide +kernel
theorem dX2_putRow_29 : decode cX2_putRow 29 = .ok (.imul, 1) := by decide +kernel
theorem dX2_putRow_30 : decode cX2_putRow 30 = .ok (.iconst 2, 1) := by decide +kernel
theorem dX2_putRow_31 : decode cX2_putRow 31 = .ok (.iadd, 1) := by decide +kernel
theorem dX2_putRow_32 : decode cX2_putRow 32 = .ok (.dup2, 1) := by decide +kernel
theorem dX2_putRow_33 : decode cX2_putRow 33 = .ok (.iaload, 1) := by decide +kernel
theorem dX2_putRow_34 : decode cX2_putRow 34 = .ok (.iconst 1, 1) := by decide +kernel
theorem dX2_putRow_35 : decode cX2_putRow 35 = .ok (.iload_n 3, 1) := by decide +kernel
theorem dX2_putRow_36 : decode cX2_putRow 36 = .ok (.ishl, 1) := by decide +kernel
theorem dX2_putRow_37 : decode cX2_putRow 37 = .ok (.ior, 1) := by decide +kernel
theorem dX2_putRow_38 : decode cX2_putRow 38 = .ok (.iastore, 1) := by decide +kernel
theorem dX2_putRow_39 : decode cX2_putRow 39 = .ok (.return_, 1) := by decide +kernel
set_option maxRecDepth 20000 in
theorem ggX2_removeRow_X2_slots : GoodIn wsX2_removeRow wsX2_slots := goodIn_r _ [6, 7, 8, 9, 5, 10, 1, 11, 12, 13, 14, 31] (by decide +kernel) (by decide +kernel)
set_option maxRecDepth 20000 in
theorem gX2_removeRow_X2_slots : GoodIn wsX2_removeRow (wsV RX2 48 RX2 yX2_slots wsX2_slots) := goodIn_app (goodIn_of _ (by decide +kernel)) ggX2_removeRow_X2_slots
set_option maxRecDepth 20000 in
theorem ggX2_removeRow_X2_rowAt : GoodIn wsX2_removeRow wsX2_rowAt := goodIn_r _ [18, 7, 8, 9, 5, 10, 1, 11, 12, 13, 14, 31] (by decide +kernel) (by decide +kernel)
set_option maxRecDepth 20000 in
theorem gX2_removeRow_X2_rowAt : GoodIn wsX2_removeRow (wsV RX2 51 RX2 yX2_rowAt wsX2_rowAt) := goodIn_app (goodIn_of _ (by decide +kernel)) ggX2_removeRow_X2_rowAt
set_option maxRecDepth 20000 in
theorem ggX2_removeRow_X2_width : GoodIn wsX2_removeRow wsX2_width := goodIn_r _ [10, 1, 11, 12, 13, 5, 14, 31] (by decide +kernel) (by decide +kernel)
set_option maxRecDepth 20000 in
theorem gX2_removeRow_X2_width : GoodIn wsX2_removeRow (wsV RX2 32 RX2 yX2_width wsX2_width) := goodIn_app (goodIn_of _ (by decide +kernel)) ggX2_removeRow_X2_width
set_option maxRecDepth 20000 in
theorem ggX2_removeRow_X2_clear : GoodIn wsX2_removeRow wsX2_clear := goodIn_r _ [22, 1, 31] (by decide +kernel) (by decide +kernel)
set_option maxRecDepth 20000 in
theorem gX2_removeRow_X2_clear : GoodIn wsX2_removeRow (wsV RX2 40 RX2 yX2_clear wsX2_clear) := goodIn_app (goodIn_of _ (by decide +kernel)) ggX2_removeRow_X2_clear
set_option maxRecDepth 20000 in
theorem ggX2_removeRow_X2_linkTo : GoodIn wsX2_removeRow wsX2_linkTo := goodIn_r _ [26, 1, 27, 28, 29, 5, 30, 31] (by decide +kernel) (by decide +kernel)
set_option maxRecDepth 20000 in
theorem gX2_removeRow_X2_linkTo : GoodIn wsX2_removeRow (wsV RX2 78 RX2 yX2_linkTo wsX2_linkTo) := goodIn_app (goodIn_of _ (by decide +kernel)) ggX2_removeRow_X2_linkTo
theorem dX2_removeRow_0 : decode cX2_removeRow 0 = .ok (.iload_n 2, 1) := by decide +kernel
theorem dX2_removeRow_1 : decode cX2_removeRow 1 = .ok (.bipush 16, 2) := by decide +kernel
theorem dX2_removeRow_3 : decode cX2_removeRow 3 = .ok (.idiv, 1) := by decide +kernel
theorem dX2_removeRow_4 : decode cX2_removeRow 4 = .ok (.istore_n 3, 1) := by decide +kernel
theorem dX2_removeRow_5 : decode cX2_removeRow 5 = .ok (.iload_n 3, 1) := by decide +kernel
theorem dX2_removeRow_6 : decode cX2_removeRow 6 = .ok (.bipush 16, 2) := by decide +kernel
theorem dX2_removeRow_8 : decode cX2_removeRow 8 = .ok (.imul, 1) := by decide +kernel
theorem dX2_removeRow_9 : decode cX2_removeRow 9 = .ok (.istore 4, 2) := by decide +kernel
theorem dX2_removeRow_11 : decode cX2_removeRow 11 = .ok (.iconst 0, 1) := by decide +kernel
theorem dX2_removeRow_12 : decode cX2_removeRow 12 = .ok (.istore 5, 2) := by decide +kernel
theorem dX2_removeRow_14 : decode cX2_removeRow 14 = .ok (.iload 5, 2) := by decide +kernel
theorem dX2_removeRow_16 : decode cX2_removeRow 16 = .ok (.aload_n 0, 1) := by decide +kernel
theorem dX2_removeRow_17 : decode cX2_removeRow 17 = .ok (.iload_n 1, 1) := by decide +kernel
theorem dX2_removeRow_18 : decode cX2_removeRow 18 = .ok (.invokevirtual 48, 3) := by decide +kernel
theorem dX2_removeRow_21 : decode cX2_removeRow 21 = .ok (.if_icmp .ge 39, 3) := by decide +kernel
theorem dX2_removeRow_24 : decode cX2_removeRow 24 = .ok (.aload_n 0, 1) := by decide +kernel
theorem dX2_removeRow_25 : decode cX2_removeRow 25 = .ok (.iload_n 1, 1) := by decide +kernel
theorem dX2_removeRow_26 : decode cX2_removeRow 26 = .ok (.iload_n 3, 1) := by decide +kernel
theorem dX2_removeRow_27 : decode cX2_removeRow 27 = .ok (.iload 5, 2) := by decide +kernel
theorem dX2_removeRow_29 : decode cX2_removeRow 29 = .ok (.invokevirtual 51, 3) := by decide +kernel
theorem dX2_removeRow_32 : decode cX2_removeRow 32 = .ok (.iload_n 2, 1) := by decide +kernel
theorem dX2_removeRow_33 : decode cX2_removeRow 33 = .ok (.if_icmp .ne 21, 3) := by decide +kernel
theorem dX2_removeRow_36 : decode cX2_removeRow 36 = .ok (.aload_n 0, 1) := by decide +kernel
theorem dX2_removeRow_37 : decode cX2_removeRow 37 = .ok (.getfield 9, 3) := by decide +kernel
theorem dX2_removeRow_40 : decode cX2_removeRow 40 = .ok (.iload 4, 2) := by decide +kernel
theorem dX2_removeRow_42 : decode cX2_removeRow 42 = .ok (.iconst 2, 1) := by decide +kernel
theorem dX2_removeRow_43 : decode cX2_removeRow 43 = .ok (.iadd, 1) := by decide +kernel
theorem dX2_removeRow_44 : decode cX2_removeRow 44 = .ok (.dup2, 1) := by decide +kernel
theorem dX2_removeRow_45 : decode cX2_removeRow 45 = .ok (.iaload, 1) := by decide +kernel
theorem dX2_removeRow_46 : decode cX2_removeRow 46 = .ok (.iconst 1, 1) := by decide +kernel
theorem dX2_removeRow_47 : decode cX2_removeRow 47 = .ok (.iload 5, 2) := by decide +kernel
theorem dX2_removeRow_49 : decode cX2_removeRow 49 = .ok (.ishl, 1) := by decide +kernel
theorem dX2_removeRow_50 : decode cX2_removeRow 50 = .ok (.iconst (-1), 1) := by decide +kernel
theorem dX2_removeRow_51 : decode cX2_removeRow 51 = .ok (.ixor, 1) := by decide +kernel
theorem dX2_removeRow_52 : decode cX2_removeRow 52 = .ok (.iand, 1) := by decide +kernel
theorem dX2_removeRow_53 : decode cX2_removeRow 53 = .ok (.iastore, 1) := by decide +kernel
theorem dX2_removeRow_54 : decode cX2_removeRow 54 = .ok (.iinc 5 1, 3) := by decide +kernel
theorem dX2_removeRow_57 : decode cX2_removeRow 57 = .ok (.goto (-43), 3) := by decide +kernel
theorem dX2_removeRow_60 : decode cX2_removeRow 60 = .ok (.aload_n 0, 1) := by decide +kernel
theorem dX2_removeRow_61 : decode cX2_removeRow 61 = .ok (.iload_n 2, 1) := by decide +kernel
theorem dX2_removeRow_62 : decode cX2_removeRow 62 = .ok (.aload_n 0, 1) := by decide +kernel
theorem dX2_removeRow_63 : decode cX2_removeRow 63 = .ok (.iload_n 1, 1) := by decide +kernel
theorem dX2_removeRow_64 : decode cX2_removeRow 64 = .ok (.invokevirtual 32, 3) := by decide +kernel
theorem dX2_removeRow_67 : decode cX2_removeRow 67 = .ok (.invokevirtual 40, 3) := by decide +kernel
theorem dX2_removeRow_70 : decode cX2_removeRow 70 = .ok (.aload_n 0, 1) := by decide +kernel
theorem dX2_removeRow_71 : decode cX2_removeRow 71 = .ok (.getfield 9, 3) := by decide +kernel
theorem dX2_removeRow_74 : decode cX2_removeRow 74 = .ok (.iload 4, 2) := by decide +kernel
theorem dX2_removeRow_76 : decode cX2_removeRow 76 = .ok (.iconst 2, 1) := by decide +kernel
theorem dX2_removeRow_77 : decode cX2_removeRow 77 = .ok (.iadd, 1) := by decide +kernel
theorem dX2_removeRow_78 : decode cX2_removeRow 78 = .ok (.iaload, 1) := by decide +kernel
theorem dX2_removeRow_79 : decode cX2_removeRow 79 = .ok (.ifCond .ne 31, 3) := by decide +kernel
theorem dX2_removeRow_82 : decode cX2_removeRow 82 = .ok (.aload_n 0, 1) := by decide +kernel
theorem dX2_removeRow_83 : decode cX2_removeRow 83 = .ok (.getfield 9, 3) := by decide +kernel
theorem dX2_removeRow_86 : decode cX2_removeRow 86 = .ok (.aload_n 0, 1) := by decide +kernel
theorem dX2_removeRow_87 : decode cX2_removeRow 87 = .ok (.iload_n 1, 1) := by decide +kernel
theorem dX2_removeRow_88 : decode cX2_removeRow 88 = .ok (.iload_n 3, 1) := by decide +kernel
theorem dX2_removeRow_89 : decode cX2_removeRow 89 = .ok (.invokevirtual 78, 3) := by decide +kernel
theorem dX2_removeRow_92 : decode cX2_removeRow 92 = .ok (.aload_n 0, 1) := by decide +kernel
theorem dX2_removeRow_93 : decode cX2_removeRow 93 = .ok (.getfield 9, 3) := by decide +kernel
theorem dX2_removeRow_96 : decode cX2_removeRow 96 = .ok (.iload 4, 2) := by decide +kernel
theorem dX2_removeRow_98 : decode cX2_removeRow 98 = .ok (.iconst 1, 1) := by decide +kernel
theorem dX2_removeRow_99 : decode cX2_removeRow 99 = .ok (.iadd, 1) := by decide +kernel
theorem dX2_removeRow_100 : decode cX2_removeRow 100 = .ok (.iaload, 1) := by decide +kernel
theorem dX2_removeRow_101 : decode cX2_removeRow 101 = .ok (.iastore, 1) := by decide +kernel
theorem dX2_removeRow_102 : decode cX2_removeRow 102 = .ok (.aload_n 0, 1) := by decide +kernel
theorem dX2_removeRow_103 : decode cX2_removeRow 103 = .ok (.iload 4, 2) := by decide +kernel
theorem dX2_removeRow_105 : decode cX2_removeRow 105 = .ok (.bipush 16, 2) := by decide +kernel
theorem dX2_removeRow_107 : decode cX2_removeRow 107 = .ok (.invokevirtual 40, 3) := by decide +kernel
theorem dX2_removeRow_110 : decode cX2_removeRow 110 = .ok (.return_, 1) := by decide +kernel
set_option maxRecDepth 20000 in
theorem ggX2_pageWithRoom_X2_isPageOf : GoodIn wsX2_pageWithRoom wsX2_isPageOf := goodIn_r _ [6, 1, 27] (by decide +kernel) (by decide +kernel)
set_option maxRecDepth 20000 in
theorem gX2_pageWithRoom_X2_isPageOf : GoodIn wsX2_pageWithRoom (wsV RX2 36 RX2 yX2_isPageOf wsX2_isPageOf) := goodIn_app (goodIn_of _ (by decide +kernel)) ggX2_pageWithRoom_X2_isPageOf
set_option maxRecDepth 20000 in
theorem ggX2_pageWithRoom_X2_freeSlot : GoodIn wsX2_pageWithRoom wsX2_freeSlot := goodIn_r _ [10, 11, 12, 13, 5, 14, 15, 16, 17, 18, 1, 19, 20, 21, 22, 23, 24, 25, 26, 27] (by decide +kernel) (by decide +kernel)
set_option maxRecDepth 20000 in
theorem gX2_pageWithRoom_X2_freeSlot : GoodIn wsX2_pageWithRoom (wsV RX2 66 RX2 yX2_freeSlot wsX2_freeSlot) := goodIn_app (goodIn_of _ (by decide +kernel)) ggX2_pageWithRoom_X2_freeSlot
theorem dX2_pageWithRoom_0 : decode cX2_pageWithRoom 0 = .ok (.aload_n 0, 1) := by decide +kernel
theorem dX2_pageWithRoom_1 : decode cX2_pageWithRoom 1 = .ok (.getfield 9, 3) := by decide +kernel
theorem dX2_pageWithRoom_4 : decode cX2_pageWithRoom 4 = .ok (.bipush 8, 2) := by decide +kernel
theorem dX2_pageWithRoom_6 : decode cX2_pageWithRoom 6 = .ok (.iload_n 1, 1) := by decide +kernel
theorem dX2_pageWithRoom_7 : decode cX2_pageWithRoom 7 = .ok (.iadd, 1) := by decide +kernel
theorem dX2_pageWithRoom_8 : decode cX2_pageWithRoom 8 = .ok (.iaload, 1) := by decide +kernel
theorem dX2_pageWithRoom_9 : decode cX2_pageWithRoom 9 = .ok (.istore_n 2, 1) := by decide +kernel
theorem dX2_pageWithRoom_10 : decode cX2_pageWithRoom 10 = .ok (.iconst 0, 1) := by decide +kernel
theorem dX2_pageWithRoom_11 : decode cX2_pageWithRoom 11 = .ok (.istore_n 3, 1) := by decide +kernel
theorem dX2_pageWithRoom_12 : decode cX2_pageWithRoom 12 = .ok (.iload_n 3, 1) := by decide +kernel
theorem dX2_pageWithRoom_13 : decode cX2_pageWithRoom 13 = .ok (.bipush 16, 2) := by decide +kernel
theorem dX2_pageWithRoom_15 : decode cX2_pageWithRoom 15 = .ok (.if_icmp .ge 42, 3) := by decide +kernel
theorem dX2_pageWithRoom_18 : decode cX2_pageWithRoom 18 = .ok (.aload_n 0, 1) := by decide +kernel
theorem dX2_pageWithRoom_19 : decode cX2_pageWithRoom 19 = .ok (.iload_n 1, 1) := by decide +kernel
theorem dX2_pageWithRoom_20 : decode cX2_pageWithRoom 20 = .ok (.iload_n 2, 1) := by decide +kernel
theorem dX2_pageWithRoom_21 : decode cX2_pageWithRoom 21 = .ok (.invokevirtual 36, 3) := by decide +kernel
theorem dX2_pageWithRoom_24 : decode cX2_pageWithRoom 24 = .ok (.ifCond .eq 33, 3) := by decide +kernel
theorem dX2_pageWithRoom_27 : decode cX2_pageWithRoom 27 = .ok (.aload_n 0, 1) := by decide +kernel
theorem dX2_pageWithRoom_28 : decode cX2_pageWithRoom 28 = .ok (.iload_n 1, 1) := by decide +kernel
theorem dX2_pageWithRoom_29 : decode cX2_pageWithRoom 29 = .ok (.iload_n 2, 1) := by decide +kernel
theorem dX2_pageWithRoom_30 : decode cX2_pageWithRoom 30 = .ok (.invokevirtual 66, 3) := by decide +kernel
theorem dX2_pageWithRoom_33 : decode cX2_pageWithRoom 33 = .ok (.iconst (-1), 1) := by decide +kernel
theorem dX2_pageWithRoom_34 : decode cX2_pageWithRoom 34 = .ok (.if_icmp .eq 5, 3) := by decide +kernel
theorem dX2_pageWithRoom_37 : decode cX2_pageWithRoom 37 = .ok (.iload_n 2, 1) := by decide +kernel
theorem dX2_pageWithRoom_38 : decode cX2_pageWithRoom 38 = .ok (.ireturn, 1) := by decide +kernel
theorem dX2_pageWithRoom_39 : decode cX2_pageWithRoom 39 = .ok (.aload_n 0, 1) := by decide +kernel
theorem dX2_pageWithRoom_40 : decode cX2_pageWithRoom 40 = .ok (.getfield 9, 3) := by decide +kernel
theorem dX2_pageWithRoom_43 : decode cX2_pageWithRoom 43 = .ok (.iload_n 2, 1) := by decide +kernel
theorem dX2_pageWithRoom_44 : decode cX2_pageWithRoom 44 = .ok (.bipush 16, 2) := by decide +kernel
theorem dX2_pageWithRoom_46 : decode cX2_pageWithRoom 46 = .ok (.imul, 1) := by decide +kernel
theorem dX2_pageWithRoom_47 : decode cX2_pageWithRoom 47 = .ok (.iconst 1, 1) := by decide +kernel
theorem dX2_pageWithRoom_48 : decode cX2_pageWithRoom 48 = .ok (.iadd, 1) := by decide +kernel
theorem dX2_pageWithRoom_49 : decode cX2_pageWithRoom 49 = .ok (.iaload, 1) := by decide +kernel
theorem dX2_pageWithRoom_50 : decode cX2_pageWithRoom 50 = .ok (.istore_n 2, 1) := by decide +kernel
theorem dX2_pageWithRoom_51 : decode cX2_pageWithRoom 51 = .ok (.iinc 3 1, 3) := by decide +kernel
theorem dX2_pageWithRoom_54 : decode cX2_pageWithRoom 54 = .ok (.goto (-42), 3) := by decide +kernel
theorem dX2_pageWithRoom_57 : decode cX2_pageWithRoom 57 = .ok (.iconst 0, 1) := by decide +kernel
theorem dX2_pageWithRoom_58 : decode cX2_pageWithRoom 58 = .ok (.ireturn, 1) := by decide +kernel
set_option maxRecDepth 20000 in
theorem ggX2_linkTo_X2_isPageOf : GoodIn wsX2_linkTo wsX2_isPageOf := goodIn_r _ [6, 1, 7] (by decide +kernel) (by decide +kernel)
set_option maxRecDepth 20000 in
theorem gX2_linkTo_X2_isPageOf : GoodIn wsX2_linkTo (wsV RX2 36 RX2 yX2_isPageOf wsX2_isPageOf) := goodIn_app (goodIn_of _ (by decide +kernel)) ggX2_linkTo_X2_isPageOf
theorem dX2_linkTo_0 : decode cX2_linkTo 0 = .ok (.bipush 8, 2) := by decide +kernel
theorem dX2_linkTo_2 : decode cX2_linkTo 2 = .ok (.iload_n 1, 1) := by decide +kernel
theorem dX2_linkTo_3 : decode cX2_linkTo 3 = .ok (.iadd, 1) := by decide +kernel
theorem dX2_linkTo_4 : decode cX2_linkTo 4 = .ok (.istore_n 3, 1) := by decide +kernel
theorem dX2_linkTo_5 : decode cX2_linkTo 5 = .ok (.iconst 0, 1) := by decide +kernel
theorem dX2_linkTo_6 : decode cX2_linkTo 6 = .ok (.istore 4, 2) := by decide +kernel
theorem dX2_linkTo_8 : decode cX2_linkTo 8 = .ok (.iload 4, 2) := by decide +kernel
theorem dX2_linkTo_10 : decode cX2_linkTo 10 = .ok (.bipush 16, 2) := by decide +kernel
theorem dX2_linkTo_12 : decode cX2_linkTo 12 = .ok (.if_icmp .ge 47, 3) := by decide +kernel
theorem dX2_linkTo_15 : decode cX2_linkTo 15 = .ok (.aload_n 0, 1) := by decide +kernel
theorem dX2_linkTo_16 : decode cX2_linkTo 16 = .ok (.getfield 9, 3) := by decide +kernel
theorem dX2_linkTo_19 : decode cX2_linkTo 19 = .ok (.iload_n 3, 1) := by decide +kernel
theorem dX2_linkTo_20 : decode cX2_linkTo 20 = .ok (.iaload, 1) := by decide +kernel
theorem dX2_linkTo_21 : decode cX2_linkTo 21 = .ok (.iload_n 2, 1) := by decide +kernel
theorem dX2_linkTo_22 : decode cX2_linkTo 22 = .ok (.if_icmp .eq 37, 3) := by decide +kernel
theorem dX2_linkTo_25 : decode cX2_linkTo 25 = .ok (.aload_n 0, 1) := by decide +kernel
theorem dX2_linkTo_26 : decode cX2_linkTo 26 = .ok (.iload_n 1, 1) := by decide +kernel
theorem dX2_linkTo_27 : decode cX2_linkTo 27 = .ok (.aload_n 0, 1) := by decide +kernel
theorem dX2_linkTo_28 : decode cX2_linkTo 28 = .ok (.getfield 9, 3) := by decide +kernel
theorem dX2_linkTo_31 : decode cX2_linkTo 31 = .ok (.iload_n 3, 1) := by decide +kernel
theorem dX2_linkTo_32 : decode cX2_linkTo 32 = .ok (.iaload, 1) := by decide +kernel
theorem dX2_linkTo_33 : decode cX2_linkTo 33 = .ok (.invokevirtual 36, 3) := by decide +kernel
theorem dX2_linkTo_36 : decode cX2_linkTo 36 = .ok (.ifCond .ne 5, 3) := by decide +kernel
theorem dX2_linkTo_39 : decode cX2_linkTo 39 = .ok (.iload_n 3, 1) := by decide +kernel
theorem dX2_linkTo_40 : decode cX2_linkTo 40 = .ok (.ireturn, 1) := by decide +kernel
theorem dX2_linkTo_41 : decode cX2_linkTo 41 = .ok (.aload_n 0, 1) := by decide +kernel
theorem dX2_linkTo_42 : decode cX2_linkTo 42 = .ok (.getfield 9, 3) := by decide +kernel
theorem dX2_linkTo_45 : decode cX2_linkTo 45 = .ok (.iload_n 3, 1) := by decide +kernel
theorem dX2_linkTo_46 : decode cX2_linkTo 46 = .ok (.iaload, 1) := by decide +kernel
theorem dX2_linkTo_47 : decode cX2_linkTo 47 = .ok (.bipush 16, 2) := by decide +kernel
theorem dX2_linkTo_49 : decode cX2_linkTo 49 = .ok (.imul, 1) := by decide +kernel
theorem dX2_linkTo_50 : decode cX2_linkTo 50 = .ok (.iconst 1, 1) := by decide +kernel
theorem dX2_linkTo_51 : decode cX2_linkTo 51 = .ok (.iadd, 1) := by decide +kernel
theorem dX2_linkTo_52 : decode cX2_linkTo 52 = .ok (.istore_n 3, 1) := by decide +kernel
theorem dX2_linkTo_53 : decode cX2_linkTo 53 = .ok (.iinc 4 1, 3) := by decide +kernel
theorem dX2_linkTo_56 : decode cX2_linkTo 56 = .ok (.goto (-48), 3) := by decide +kernel
theorem dX2_linkTo_59 : decode cX2_linkTo 59 = .ok (.iload_n 3, 1) := by decide +kernel
theorem dX2_linkTo_60 : decode cX2_linkTo 60 = .ok (.ireturn, 1) := by decide +kernel
theorem dX2_freePage_0 : decode cX2_freePage 0 = .ok (.iconst 1, 1) := by decide +kernel
theorem dX2_freePage_1 : decode cX2_freePage 1 = .ok (.istore_n 1, 1) := by decide +kernel
theorem dX2_freePage_2 : decode cX2_freePage 2 = .ok (.iload_n 1, 1) := by decide +kernel
theorem dX2_freePage_3 : decode cX2_freePage 3 = .ok (.bipush 16, 2) := by decide +kernel
theorem dX2_freePage_5 : decode cX2_freePage 5 = .ok (.if_icmp .ge 23, 3) := by decide +kernel
theorem dX2_freePage_8 : decode cX2_freePage 8 = .ok (.aload_n 0, 1) := by decide +kernel
theorem dX2_freePage_9 : decode cX2_freePage 9 = .ok (.getfield 9, 3) := by decide +kernel
theorem dX2_freePage_12 : decode cX2_freePage 12 = .ok (.iload_n 1, 1) := by decide +kernel
theorem dX2_freePage_13 : decode cX2_freePage 13 = .ok (.bipush 16, 2) := by decide +kernel
theorem dX2_freePage_15 : decode cX2_freePage 15 = .ok (.imul, 1) := by decide +kernel
theorem dX2_freePage_16 : decode cX2_freePage 16 = .ok (.iaload, 1) := by decide +kernel
theorem dX2_freePage_17 : decode cX2_freePage 17 = .ok (.ifCond .ne 5, 3) := by decide +kernel
theorem dX2_freePage_20 : decode cX2_freePage 20 = .ok (.iload_n 1, 1) := by decide +kernel
theorem dX2_freePage_21 : decode cX2_freePage 21 = .ok (.ireturn, 1) := by decide +kernel
theorem dX2_freePage_22 : decode cX2_freePage 22 = .ok (.iinc 1 1, 3) := by decide +kernel
theorem dX2_freePage_25 : decode cX2_freePage 25 = .ok (.goto (-23), 3) := by decide +kernel
theorem dX2_freePage_28 : decode cX2_freePage 28 = .ok (.iconst 0, 1) := by decide +kernel
theorem dX2_freePage_29 : decode cX2_freePage 29 = .ok (.ireturn, 1) := by decide +kernel
set_option maxRecDepth 20000 in
theorem ggX2_freeSlot_X2_slots : GoodIn wsX2_freeSlot wsX2_slots := goodIn_r _ [5, 6, 7, 8, 4, 9, 10, 11, 12, 13, 14, 19] (by decide +kernel) (by decide +kernel)
set_option maxRecDepth 20000 in
theorem gX2_freeSlot_X2_slots : GoodIn wsX2_freeSlot (wsV RX2 48 RX2 yX2_slots wsX2_slots) := goodIn_app (goodIn_of _ (by decide +kernel)) ggX2_freeSlot_X2_slots
set_option maxRecDepth 20000 in
theorem ggX2_freeSlot_X2_hasRow : GoodIn wsX2_freeSlot wsX2_hasRow := goodIn_r _ [18, 10, 19] (by decide +kernel) (by decide +kernel)
set_option maxRecDepth 20000 in
theorem gX2_freeSlot_X2_hasRow : GoodIn wsX2_freeSlot (wsV RX2 55 RX2 yX2_hasRow wsX2_hasRow) := goodIn_app (goodIn_of _ (by decide +kernel)) ggX2_freeSlot_X2_hasRow
theorem dX2_freeSlot_0 : decode cX2_freeSlot 0 = .ok (.iconst 0, 1) := by decide +kernel
theorem dX2_freeSlot_1 : decode cX2_freeSlot 1 = .ok (.istore_n 3, 1) := by decide +kernel
theorem dX2_freeSlot_2 : decode cX2_freeSlot 2 = .ok (.iload_n 3, 1) := by decide +kernel
theorem dX2_freeSlot_3 : decode cX2_freeSlot 3 = .ok (.aload_n 0, 1) := by decide +kernel
theorem dX2_freeSlot_4 : decode cX2_freeSlot 4 = .ok (.iload_n 1, 1) := by decide +kernel
theorem dX2_freeSlot_5 : decode cX2_freeSlot 5 = .ok (.invokevirtual 48, 3) := by decide +kernel
theorem dX2_freeSlot_8 : decode cX2_freeSlot 8 = .ok (.if_icmp .ge 20, 3) := by decide +kernel
theorem dX2_freeSlot_11 : decode cX2_freeSlot 11 = .ok (.aload_n 0, 1) := by decide +kernel
theorem dX2_freeSlot_12 : decode cX2_freeSlot 12 = .ok (.iload_n 2, 1) := by decide +kernel
theorem dX2_freeSlot_13 : decode cX2_freeSlot 13 = .ok (.iload_n 3, 1) := by decide +kernel
theorem dX2_freeSlot_14 : decode cX2_freeSlot 14 = .ok (.invokevirtual 55, 3) := by decide +kernel
theorem dX2_freeSlot_17 : decode cX2_freeSlot 17 = .ok (.ifCond .ne 5, 3) := by decide +kernel
theorem dX2_freeSlot_20 : decode cX2_freeSlot 20 = .ok (.iload_n 3, 1) := by decide +kernel
theorem dX2_freeSlot_21 : decode cX2_freeSlot 21 = .ok (.ireturn, 1) := by decide +kernel
theorem dX2_freeSlot_22 : decode cX2_freeSlot 22 = .ok (.iinc 3 1, 3) := by decide +kernel
theorem dX2_freeSlot_25 : decode cX2_freeSlot 25 = .ok (.goto (-23), 3) := by decide +kernel
theorem dX2_freeSlot_28 : decode cX2_freeSlot 28 = .ok (.iconst (-1), 1) := by decide +kernel
theorem dX2_freeSlot_29 : decode cX2_freeSlot 29 = .ok (.ireturn, 1) := by decide +kernel
theorem dX2_isPageOf_0 : decode cX2_isPageOf 0 = .ok (.iload_n 2, 1) := by decide +kernel
theorem dX2_isPageOf_1 : decode cX2_isPageOf 1 = .ok (.iconst 1, 1) := by decide +kernel
theorem dX2_isPageOf_2 : decode cX2_isPageOf 2 = .ok (.if_icmp .lt 28, 3) := by decide +kernel
theorem dX2_isPageOf_5 : decode cX2_isPageOf 5 = .ok (.iload_n 2, 1) := by decide +kernel
theorem dX2_isPageOf_6 : decode cX2_isPageOf 6 = .ok (.bipush 16, 2) := by decide +kernel
theorem dX2_isPageOf_8 : decode cX2_isPageOf 8 = .ok (.if_icmp .ge 22, 3) := by decide +kernel
theorem dX2_isPageOf_11 : decode cX2_isPageOf 11 = .ok (.aload_n 0, 1) := by decide +kernel
theorem dX2_isPageOf_12 : decode cX2_isPageOf 12 = .ok (.getfield 9, 3) := by decide +kernel
theorem dX2_isPageOf_15 : decode cX2_isPageOf 15 = .ok (.iload_n 2, 1) := by decide +kernel
theorem dX2_isPageOf_16 : decode cX2_isPageOf 16 = .ok (.bipush 16, 2) := by decide +kernel
theorem dX2_isPageOf_18 : decode cX2_isPageOf 18 = .ok (.imul, 1) := by decide +kernel
theorem dX2_isPageOf_19 : decode cX2_isPageOf 19 = .ok (.iaload, 1) := by decide +kernel
theorem dX2_isPageOf_20 : decode cX2_isPageOf 20 = .ok (.iload_n 1, 1) := by decide +kernel
theorem dX2_isPageOf_21 : decode cX2_isPageOf 21 = .ok (.iconst 1, 1) := by decide +kernel
theorem dX2_isPageOf_22 : decode cX2_isPageOf 22 = .ok (.iadd, 1) := by decide +kernel
theorem dX2_isPageOf_23 : decode cX2_isPageOf 23 = .ok (.if_icmp .ne 7, 3) := by decide +kernel
theorem dX2_isPageOf_26 : decode cX2_isPageOf 26 = .ok (.iconst 1, 1) := by decide +kernel
theorem dX2_isPageOf_27 : decode cX2_isPageOf 27 = .ok (.goto 4, 3) := by decide +kernel
theorem dX2_isPageOf_30 : decode cX2_isPageOf 30 = .ok (.iconst 0, 1) := by decide +kernel
theorem dX2_isPageOf_31 : decode cX2_isPageOf 31 = .ok (.ireturn, 1) := by decide +kernel
theorem dX2_hasRow_0 : decode cX2_hasRow 0 = .ok (.aload_n 0, 1) := by decide +kernel
theorem dX2_hasRow_1 : decode cX2_hasRow 1 = .ok (.getfield 9, 3) := by decide +kernel
theorem dX2_hasRow_4 : decode cX2_hasRow 4 = .ok (.iload_n 1, 1) := by decide +kernel
theorem dX2_hasRow_5 : decode cX2_hasRow 5 = .ok (.bipush 16, 2) := by decide +kernel
theorem dX2_hasRow_7 : decode cX2_hasRow 7 = .ok (.imul, 1) := by decide +kernel
theorem dX2_hasRow_8 : decode cX2_hasRow 8 = .ok (.iconst 2, 1) := by decide +kernel
theorem dX2_hasRow_9 : decode cX2_hasRow 9 = .ok (.iadd, 1) := by decide +kernel
theorem dX2_hasRow_10 : decode cX2_hasRow 10 = .ok (.iaload, 1) := by decide +kernel
theorem dX2_hasRow_11 : decode cX2_hasRow 11 = .ok (.iload_n 2, 1) := by decide +kernel
theorem dX2_hasRow_12 : decode cX2_hasRow 12 = .ok (.ishr, 1) := by decide +kernel
theorem dX2_hasRow_13 : decode cX2_hasRow 13 = .ok (.iconst 1, 1) := by decide +kernel
theorem dX2_hasRow_14 : decode cX2_hasRow 14 = .ok (.iand, 1) := by decide +kernel
theorem dX2_hasRow_15 : decode cX2_hasRow 15 = .ok (.iconst 1, 1) := by decide +kernel
theorem dX2_hasRow_16 : decode cX2_hasRow 16 = .ok (.if_icmp .ne 7, 3) := by decide +kernel
theorem dX2_hasRow_19 : decode cX2_hasRow 19 = .ok (.iconst 1, 1) := by decide +kernel
theorem dX2_hasRow_20 : decode cX2_hasRow 20 = .ok (.goto 4, 3) := by decide +kernel
theorem dX2_hasRow_23 : decode cX2_hasRow 23 = .ok (.iconst 0, 1) := by decide +kernel
theorem dX2_hasRow_24 : decode cX2_hasRow 24 = .ok (.ireturn, 1) := by decide +kernel
set_option maxRecDepth 20000 in
theorem ggX2_rowAt_X2_width : GoodIn wsX2_rowAt wsX2_width := goodIn_r _ [5, 6, 7, 8, 9, 4, 10, 11] (by decide +kernel) (by decide +kernel)
set_option maxRecDepth 20000 in
theorem gX2_rowAt_X2_width : GoodIn wsX2_rowAt (wsV RX2 32 RX2 yX2_width wsX2_width) := goodIn_app (goodIn_of _ (by decide +kernel)) ggX2_rowAt_X2_width
theorem dX2_rowAt_0 : decode cX2_rowAt 0 = .ok (.iload_n 2, 1) := by decide +kernel
theorem dX2_rowAt_1 : decode cX2_rowAt 1 = .ok (.bipush 16, 2) := by decide +kernel
theorem dX2_rowAt_3 : decode cX2_rowAt 3 = .ok (.imul, 1) := by decide +kernel
theorem dX2_rowAt_4 : decode cX2_rowAt 4 = .ok (.iconst 3, 1) := by decide +kernel
theorem dX2_rowAt_5 : decode cX2_rowAt 5 = .ok (.iadd, 1) := by decide +kernel
theorem dX2_rowAt_6 : decode cX2_rowAt 6 = .ok (.iload_n 3, 1) := by decide +kernel
theorem dX2_rowAt_7 : decode cX2_rowAt 7 = .ok (.aload_n 0, 1) := by decide +kernel
theorem dX2_rowAt_8 : decode cX2_rowAt 8 = .ok (.iload_n 1, 1) := by decide +kernel
theorem dX2_rowAt_9 : decode cX2_rowAt 9 = .ok (.invokevirtual 32, 3) := by decide +kernel
theorem dX2_rowAt_12 : decode cX2_rowAt 12 = .ok (.imul, 1) := by decide +kernel
theorem dX2_rowAt_13 : decode cX2_rowAt 13 = .ok (.iadd, 1) := by decide +kernel
theorem dX2_rowAt_14 : decode cX2_rowAt 14 = .ok (.ireturn, 1) := by decide +kernel
set_option maxRecDepth 20000 in
theorem ggX2_slots_X2_width : GoodIn wsX2_slots wsX2_width := goodIn_r _ [5, 6, 7, 8, 9, 4, 10, 11] (by decide +kernel) (by decide +kernel)
set_option maxRecDepth 20000 in
theorem gX2_slots_X2_width : GoodIn wsX2_slots (wsV RX2 32 RX2 yX2_width wsX2_width) := goodIn_app (goodIn_of _ (by decide +kernel)) ggX2_slots_X2_width
theorem dX2_slots_0 : decode cX2_slots 0 = .ok (.aload_n 0, 1) := by decide +kernel
theorem dX2_slots_1 : decode cX2_slots 1 = .ok (.iload_n 1, 1) := by decide +kernel
theorem dX2_slots_2 : decode cX2_slots 2 = .ok (.invokevirtual 32, 3) := by decide +kernel
theorem dX2_slots_5 : decode cX2_slots 5 = .ok (.istore_n 2, 1) := by decide +kernel
theorem dX2_slots_6 : decode cX2_slots 6 = .ok (.iload_n 2, 1) := by decide +kernel
theorem dX2_slots_7 : decode cX2_slots 7 = .ok (.ifCond .ne 7, 3) := by decide +kernel
theorem dX2_slots_10 : decode cX2_slots 10 = .ok (.iconst 0, 1) := by decide +kernel
theorem dX2_slots_11 : decode cX2_slots 11 = .ok (.goto 7, 3) := by decide +kernel
theorem dX2_slots_14 : decode cX2_slots 14 = .ok (.bipush 13, 2) := by decide +kernel
theorem dX2_slots_16 : decode cX2_slots 16 = .ok (.iload_n 2, 1) := by decide +kernel
theorem dX2_slots_17 : decode cX2_slots 17 = .ok (.idiv, 1) := by decide +kernel
theorem dX2_slots_18 : decode cX2_slots 18 = .ok (.ireturn, 1) := by decide +kernel
theorem dX2_clear_0 : decode cX2_clear 0 = .ok (.iload_n 1, 1) := by decide +kernel
theorem dX2_clear_1 : decode cX2_clear 1 = .ok (.istore_n 3, 1) := by decide +kernel
theorem dX2_clear_2 : decode cX2_clear 2 = .ok (.iload_n 3, 1) := by decide +kernel
theorem dX2_clear_3 : decode cX2_clear 3 = .ok (.iload_n 1, 1) := by decide +kernel
theorem dX2_clear_4 : decode cX2_clear 4 = .ok (.iload_n 2, 1) := by decide +kernel
theorem dX2_clear_5 : decode cX2_clear 5 = .ok (.iadd, 1) := by decide +kernel
theorem dX2_clear_6 : decode cX2_clear 6 = .ok (.if_icmp .ge 16, 3) := by decide +kernel
theorem dX2_clear_9 : decode cX2_clear 9 = .ok (.aload_n 0, 1) := by decide +kernel
theorem dX2_clear_10 : decode cX2_clear 10 = .ok (.getfield 9, 3) := by decide +kernel
theorem dX2_clear_13 : decode cX2_clear 13 = .ok (.iload_n 3, 1) := by decide +kernel
theorem dX2_clear_14 : decode cX2_clear 14 = .ok (.iconst 0, 1) := by decide +kernel
theorem dX2_clear_15 : decode cX2_clear 15 = .ok (.iastore, 1) := by decide +kernel
