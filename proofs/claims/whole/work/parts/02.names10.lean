theorem dX5_seek_82 : decode cX5_seek 82 = .ok (.ireturn, 1) := by decide +kernel
theorem dX5_seek_83 : decode cX5_seek 83 = .ok (.iinc 4 1, 3) := by decide +kernel
theorem dX5_seek_86 : decode cX5_seek 86 = .ok (.goto (-60), 3) := by decide +kernel
theorem dX5_seek_89 : decode cX5_seek 89 = .ok (.iinc 3 1, 3) := by decide +kernel
theorem dX5_seek_92 : decode cX5_seek 92 = .ok (.goto (-90), 3) := by decide +kernel
theorem dX5_seek_95 : decode cX5_seek 95 = .ok (.iconst (-1), 1) := by decide +kernel
theorem dX5_seek_96 : decode cX5_seek 96 = .ok (.ireturn, 1) := by decide +kernel
theorem dX5_leads_0 : decode cX5_leads 0 = .ok (.bipush 8, 2) := by decide +kernel
theorem dX5_leads_2 : decode cX5_leads 2 = .ok (.iload_n 1, 1) := by decide +kernel
theorem dX5_leads_3 : decode cX5_leads 3 = .ok (.iadd, 1) := by decide +kernel
theorem dX5_leads_4 : decode cX5_leads 4 = .ok (.istore_n 3, 1) := by decide +kernel
theorem dX5_leads_5 : decode cX5_leads 5 = .ok (.aload_n 0, 1) := by decide +kernel
theorem dX5_leads_6 : decode cX5_leads 6 = .ok (.getfield 13, 3) := by decide +kernel
theorem dX5_leads_9 : decode cX5_leads 9 = .ok (.iload_n 3, 1) := by decide +kernel
theorem dX5_leads_10 : decode cX5_leads 10 = .ok (.iaload, 1) := by decide +kernel
theorem dX5_leads_11 : decode cX5_leads 11 = .ok (.iload_n 2, 1) := by decide +kernel
theorem dX5_leads_12 : decode cX5_leads 12 = .ok (.if_icmp .eq 18, 3) := by decide +kernel
theorem dX5_leads_15 : decode cX5_leads 15 = .ok (.bipush 16, 2) := by decide +kernel
theorem dX5_leads_17 : decode cX5_leads 17 = .ok (.aload_n 0, 1) := by decide +kernel
theorem dX5_leads_18 : decode cX5_leads 18 = .ok (.getfield 13, 3) := by decide +kernel
theorem dX5_leads_21 : decode cX5_leads 21 = .ok (.iload_n 3, 1) := by decide +kernel
theorem dX5_leads_22 : decode cX5_leads 22 = .ok (.iaload, 1) := by decide +kernel
theorem dX5_leads_23 : decode cX5_leads 23 = .ok (.imul, 1) := by decide +kernel
theorem dX5_leads_24 : decode cX5_leads 24 = .ok (.iconst 1, 1) := by decide +kernel
theorem dX5_leads_25 : decode cX5_leads 25 = .ok (.iadd, 1) := by decide +kernel
theorem dX5_leads_26 : decode cX5_leads 26 = .ok (.istore_n 3, 1) := by decide +kernel
theorem dX5_leads_27 : decode cX5_leads 27 = .ok (.goto (-22), 3) := by decide +kernel
theorem dX5_leads_30 : decode cX5_leads 30 = .ok (.iload_n 3, 1) := by decide +kernel
theorem dX5_leads_31 : decode cX5_leads 31 = .ok (.ireturn, 1) := by decide +kernel
set_option maxRecDepth 20000 in
theorem ggX5_lay_X5_wordOf : GoodIn wsX5_lay wsX5_wordOf := goodIn_r _ [7, 1, 14, 15, 16, 17, 18, 19, 20, 21, 22, 23, 24, 25, 26, 27, 28, 29, 30, 31] (by decide +kernel) (by decide +kernel)
set_option maxRecDepth 20000 in
theorem gX5_lay_X5_wordOf : GoodIn wsX5_lay (wsV RX5 110 RX5 yX5_wordOf wsX5_wordOf) := goodIn_app (goodIn_of _ (by decide +kernel)) ggX5_lay_X5_wordOf
set_option maxRecDepth 20000 in
theorem ggX5_lay_X5_change : GoodIn wsX5_lay wsX5_change := goodIn_r _ [11, 12, 13, 14, 15, 16, 17, 18, 19, 20, 21, 22, 23, 24, 25, 26, 27, 28, 29, 30, 31] (by decide +kernel) (by decide +kernel)
set_option maxRecDepth 20000 in
theorem gX5_lay_X5_change : GoodIn wsX5_lay (wsV RX5 101 RX5 yX5_change wsX5_change) := goodIn_app (goodIn_of _ (by decide +kernel)) ggX5_lay_X5_change
theorem dX5_lay_0 : decode cX5_lay 0 = .ok (.aload_n 0, 1) := by decide +kernel
theorem dX5_lay_1 : decode cX5_lay 1 = .ok (.getfield 13, 3) := by decide +kernel
theorem dX5_lay_4 : decode cX5_lay 4 = .ok (.bipush 16, 2) := by decide +kernel
theorem dX5_lay_6 : decode cX5_lay 6 = .ok (.iload_n 2, 1) := by decide +kernel
theorem dX5_lay_7 : decode cX5_lay 7 = .ok (.imul, 1) := by decide +kernel
theorem dX5_lay_8 : decode cX5_lay 8 = .ok (.iconst 2, 1) := by decide +kernel
theorem dX5_lay_9 : decode cX5_lay 9 = .ok (.iadd, 1) := by decide +kernel
theorem dX5_lay_10 : decode cX5_lay 10 = .ok (.aload_n 0, 1) := by decide +kernel
theorem dX5_lay_11 : decode cX5_lay 11 = .ok (.getfield 13, 3) := by decide +kernel
theorem dX5_lay_14 : decode cX5_lay 14 = .ok (.bipush 16, 2) := by decide +kernel
theorem dX5_lay_16 : decode cX5_lay 16 = .ok (.iload_n 2, 1) := by decide +kernel
theorem dX5_lay_17 : decode cX5_lay 17 = .ok (.imul, 1) := by decide +kernel
theorem dX5_lay_18 : decode cX5_lay 18 = .ok (.iconst 2, 1) := by decide +kernel
theorem dX5_lay_19 : decode cX5_lay 19 = .ok (.iadd, 1) := by decide +kernel
theorem dX5_lay_20 : decode cX5_lay 20 = .ok (.iaload, 1) := by decide +kernel
theorem dX5_lay_21 : decode cX5_lay 21 = .ok (.iconst 1, 1) := by decide +kernel
theorem dX5_lay_22 : decode cX5_lay 22 = .ok (.iload_n 3, 1) := by decide +kernel
theorem dX5_lay_23 : decode cX5_lay 23 = .ok (.ishl, 1) := by decide +kernel
theorem dX5_lay_24 : decode cX5_lay 24 = .ok (.ior, 1) := by decide +kernel
theorem dX5_lay_25 : decode cX5_lay 25 = .ok (.iastore, 1) := by decide +kernel
theorem dX5_lay_26 : decode cX5_lay 26 = .ok (.iconst 0, 1) := by decide +kernel
theorem dX5_lay_27 : decode cX5_lay 27 = .ok (.istore 4, 2) := by decide +kernel
theorem dX5_lay_29 : decode cX5_lay 29 = .ok (.iload 4, 2) := by decide +kernel
theorem dX5_lay_31 : decode cX5_lay 31 = .ok (.aload_n 0, 1) := by decide +kernel
theorem dX5_lay_32 : decode cX5_lay 32 = .ok (.getfield 13, 3) := by decide +kernel
theorem dX5_lay_35 : decode cX5_lay 35 = .ok (.iload_n 1, 1) := by decide +kernel
theorem dX5_lay_36 : decode cX5_lay 36 = .ok (.iaload, 1) := by decide +kernel
theorem dX5_lay_37 : decode cX5_lay 37 = .ok (.if_icmp .ge 31, 3) := by decide +kernel
theorem dX5_lay_40 : decode cX5_lay 40 = .ok (.aload_n 0, 1) := by decide +kernel
theorem dX5_lay_41 : decode cX5_lay 41 = .ok (.getfield 13, 3) := by decide +kernel
theorem dX5_lay_44 : decode cX5_lay 44 = .ok (.aload_n 0, 1) := by decide +kernel
theorem dX5_lay_45 : decode cX5_lay 45 = .ok (.iload_n 1, 1) := by decide +kernel
theorem dX5_lay_46 : decode cX5_lay 46 = .ok (.iload_n 2, 1) := by decide +kernel
theorem dX5_lay_47 : decode cX5_lay 47 = .ok (.iload_n 3, 1) := by decide +kernel
theorem dX5_lay_48 : decode cX5_lay 48 = .ok (.invokevirtual 110, 3) := by decide +kernel
theorem dX5_lay_51 : decode cX5_lay 51 = .ok (.iload 4, 2) := by decide +kernel
theorem dX5_lay_53 : decode cX5_lay 53 = .ok (.iadd, 1) := by decide +kernel
theorem dX5_lay_54 : decode cX5_lay 54 = .ok (.aload_n 0, 1) := by decide +kernel
theorem dX5_lay_55 : decode cX5_lay 55 = .ok (.getfield 19, 3) := by decide +kernel
theorem dX5_lay_58 : decode cX5_lay 58 = .ok (.iload 4, 2) := by decide +kernel
theorem dX5_lay_60 : decode cX5_lay 60 = .ok (.iaload, 1) := by decide +kernel
theorem dX5_lay_61 : decode cX5_lay 61 = .ok (.iastore, 1) := by decide +kernel
theorem dX5_lay_62 : decode cX5_lay 62 = .ok (.iinc 4 1, 3) := by decide +kernel
theorem dX5_lay_65 : decode cX5_lay 65 = .ok (.goto (-36), 3) := by decide +kernel
theorem dX5_lay_68 : decode cX5_lay 68 = .ok (.aload_n 0, 1) := by decide +kernel
theorem dX5_lay_69 : decode cX5_lay 69 = .ok (.iload_n 1, 1) := by decide +kernel
theorem dX5_lay_70 : decode cX5_lay 70 = .ok (.invokevirtual 101, 3) := by decide +kernel
theorem dX5_lay_73 : decode cX5_lay 73 = .ok (.return_, 1) := by decide +kernel
theorem dX5_freePage_0 : decode cX5_freePage 0 = .ok (.iconst 1, 1) := by decide +kernel
theorem dX5_freePage_1 : decode cX5_freePage 1 = .ok (.istore_n 1, 1) := by decide +kernel
theorem dX5_freePage_2 : decode cX5_freePage 2 = .ok (.iload_n 1, 1) := by decide +kernel
theorem dX5_freePage_3 : decode cX5_freePage 3 = .ok (.bipush 16, 2) := by decide +kernel
theorem dX5_freePage_5 : decode cX5_freePage 5 = .ok (.if_icmp .ge 23, 3) := by decide +kernel
theorem dX5_freePage_8 : decode cX5_freePage 8 = .ok (.aload_n 0, 1) := by decide +kernel
theorem dX5_freePage_9 : decode cX5_freePage 9 = .ok (.getfield 13, 3) := by decide +kernel
theorem dX5_freePage_12 : decode cX5_freePage 12 = .ok (.bipush 16, 2) := by decide +kernel
theorem dX5_freePage_14 : decode cX5_freePage 14 = .ok (.iload_n 1, 1) := by decide +kernel
theorem dX5_freePage_15 : decode cX5_freePage 15 = .ok (.imul, 1) := by decide +kernel
theorem dX5_freePage_16 : decode cX5_freePage 16 = .ok (.iaload, 1) := by decide +kernel
theorem dX5_freePage_17 : decode cX5_freePage 17 = .ok (.ifCond .ne 5, 3) := by decide +kernel
theorem dX5_freePage_20 : decode cX5_freePage 20 = .ok (.iload_n 1, 1) := by decide +kernel
theorem dX5_freePage_21 : decode cX5_freePage 21 = .ok (.ireturn, 1) := by decide +kernel
theorem dX5_freePage_22 : decode cX5_freePage 22 = .ok (.iinc 1 1, 3) := by decide +kernel
theorem dX5_freePage_25 : decode cX5_freePage 25 = .ok (.goto (-23), 3) := by decide +kernel
theorem dX5_freePage_28 : decode cX5_freePage 28 = .ok (.iconst 0, 1) := by decide +kernel
theorem dX5_freePage_29 : decode cX5_freePage 29 = .ok (.ireturn, 1) := by decide +kernel
set_option maxRecDepth 20000 in
theorem ggX5_insert_X5_noTable : GoodIn wsX5_insert wsX5_noTable := goodIn_r _ [9, 4, 42, 43, 44, 45, 46, 47, 48, 49, 50, 51, 52, 53, 54, 55, 56, 57, 58, 59] (by decide +kernel) (by decide +kernel)
set_option maxRecDepth 20000 in
theorem gX5_insert_X5_noTable : GoodIn wsX5_insert (wsV RX5 94 RX5 yX5_noTable wsX5_noTable) := goodIn_app (goodIn_of _ (by decide +kernel)) ggX5_insert_X5_noTable
set_option maxRecDepth 20000 in
theorem ggX5_insert_X5_seek : GoodIn wsX5_insert wsX5_seek := goodIn_r _ [13, 4, 14, 15, 16, 17, 18, 8, 19, 20, 21, 22, 23, 24, 25, 26, 27, 42, 43, 44, 45, 46, 47, 48, 49, 50, 51, 52, 53, 54, 55, 56, 57, 58, 59] (by decide +kernel) (by decide +kernel)
set_option maxRecDepth 20000 in
theorem gX5_insert_X5_seek : GoodIn wsX5_insert (wsV RX5 120 RX5 yX5_seek wsX5_seek) := goodIn_app (goodIn_of _ (by decide +kernel)) ggX5_insert_X5_seek
set_option maxRecDepth 20000 in
theorem ggX5_insert_X5_slots : GoodIn wsX5_insert wsX5_slots := goodIn_r _ [19, 4, 42, 43, 44, 45, 46, 47, 48, 49, 50, 51, 52, 53, 54, 55, 56, 57, 58, 59] (by decide +kernel) (by decide +kernel)
set_option maxRecDepth 20000 in
theorem gX5_insert_X5_slots : GoodIn wsX5_insert (wsV RX5 104 RX5 yX5_slots wsX5_slots) := goodIn_app (goodIn_of _ (by decide +kernel)) ggX5_insert_X5_slots
set_option maxRecDepth 20000 in
theorem ggX5_insert_X5_filled : GoodIn wsX5_insert wsX5_filled := goodIn_r _ [23, 4, 42, 43, 44, 45, 46, 47, 48, 49, 50, 51, 52, 53, 54, 55, 56, 57, 58, 59] (by decide +kernel) (by decide +kernel)
set_option maxRecDepth 20000 in
theorem gX5_insert_X5_filled : GoodIn wsX5_insert (wsV RX5 107 RX5 yX5_filled wsX5_filled) := goodIn_app (goodIn_of _ (by decide +kernel)) ggX5_insert_X5_filled
set_option maxRecDepth 20000 in
theorem ggX5_insert_X5_lay : GoodIn wsX5_insert wsX5_lay := goodIn_r _ [31, 4, 3, 24, 25, 26, 8, 27, 32, 33, 34, 35, 36, 37, 42, 43, 44, 45, 46, 47, 48, 49, 50, 51, 52, 53, 54, 55, 56, 57, 58, 59] (by decide +kernel) (by decide +kernel)
set_option maxRecDepth 20000 in
theorem gX5_insert_X5_lay : GoodIn wsX5_insert (wsV RX5 124 RX5 yX5_lay wsX5_lay) := goodIn_app (goodIn_of _ (by decide +kernel)) ggX5_insert_X5_lay
set_option maxRecDepth 20000 in
theorem ggX5_insert_X5_freePage : GoodIn wsX5_insert wsX5_freePage := goodIn_r _ [41, 4, 42, 43, 44, 45, 46, 47, 48, 49, 50, 51, 52, 53, 54, 55, 56, 57, 58, 59] (by decide +kernel) (by decide +kernel)
set_option maxRecDepth 20000 in
theorem gX5_insert_X5_freePage : GoodIn wsX5_insert (wsV RX5 128 RX5 yX5_freePage wsX5_freePage) := goodIn_app (goodIn_of _ (by decide +kernel)) ggX5_insert_X5_freePage
theorem dX5_insert_0 : decode cX5_insert 0 = .ok (.aload_n 0, 1) := by decide +kernel
theorem dX5_insert_1 : decode cX5_insert 1 = .ok (.getfield 51, 3) := by decide +kernel
theorem dX5_insert_4 : decode cX5_insert 4 = .ok (.ifCond .eq 5, 3) := by decide +kernel
theorem dX5_insert_7 : decode cX5_insert 7 = .ok (.iconst (-1), 1) := by decide +kernel
theorem dX5_insert_8 : decode cX5_insert 8 = .ok (.ireturn, 1) := by decide +kernel
theorem dX5_insert_9 : decode cX5_insert 9 = .ok (.aload_n 0, 1) := by decide +kernel
theorem dX5_insert_10 : decode cX5_insert 10 = .ok (.getfield 66, 3) := by decide +kernel
theorem dX5_insert_13 : decode cX5_insert 13 = .ok (.ifCond .ne 6, 3) := by decide +kernel
theorem dX5_insert_16 : decode cX5_insert 16 = .ok (.bipush (-2), 2) := by decide +kernel
theorem dX5_insert_18 : decode cX5_insert 18 = .ok (.ireturn, 1) := by decide +kernel
theorem dX5_insert_19 : decode cX5_insert 19 = .ok (.aload_n 0, 1) := by decide +kernel
theorem dX5_insert_20 : decode cX5_insert 20 = .ok (.iload_n 1, 1) := by decide +kernel
theorem dX5_insert_21 : decode cX5_insert 21 = .ok (.invokevirtual 94, 3) := by decide +kernel
theorem dX5_insert_24 : decode cX5_insert 24 = .ok (.ifCond .eq 6, 3) := by decide +kernel
theorem dX5_insert_27 : decode cX5_insert 27 = .ok (.bipush (-5), 2) := by decide +kernel
theorem dX5_insert_29 : decode cX5_insert 29 = .ok (.ireturn, 1) := by decide +kernel
theorem dX5_insert_30 : decode cX5_insert 30 = .ok (.aload_n 0, 1) := by decide +kernel
theorem dX5_insert_31 : decode cX5_insert 31 = .ok (.iload_n 1, 1) := by decide +kernel
theorem dX5_insert_32 : decode cX5_insert 32 = .ok (.aload_n 0, 1) := by decide +kernel
theorem dX5_insert_33 : decode cX5_insert 33 = .ok (.getfield 19, 3) := by decide +kernel
theorem dX5_insert_36 : decode cX5_insert 36 = .ok (.iconst 0, 1) := by decide +kernel
theorem dX5_insert_37 : decode cX5_insert 37 = .ok (.iaload, 1) := by decide +kernel
theorem dX5_insert_38 : decode cX5_insert 38 = .ok (.invokevirtual 120, 3) := by decide +kernel
theorem dX5_insert_41 : decode cX5_insert 41 = .ok (.ifCond .lt 6, 3) := by decide +kernel
theorem dX5_insert_44 : decode cX5_insert 44 = .ok (.bipush (-7), 2) := by decide +kernel
theorem dX5_insert_46 : decode cX5_insert 46 = .ok (.ireturn, 1) := by decide +kernel
theorem dX5_insert_47 : decode cX5_insert 47 = .ok (.bipush 8, 2) := by decide +kernel
theorem dX5_insert_49 : decode cX5_insert 49 = .ok (.iload_n 1, 1) := by decide +kernel
theorem dX5_insert_50 : decode cX5_insert 50 = .ok (.iadd, 1) := by decide +kernel
theorem dX5_insert_51 : decode cX5_insert 51 = .ok (.istore_n 2, 1) := by decide +kernel
theorem dX5_insert_52 : decode cX5_insert 52 = .ok (.aload_n 0, 1) := by decide +kernel
theorem dX5_insert_53 : decode cX5_insert 53 = .ok (.getfield 13, 3) := by decide +kernel
theorem dX5_insert_56 : decode cX5_insert 56 = .ok (.iload_n 2, 1) := by decide +kernel
theorem dX5_insert_57 : decode cX5_insert 57 = .ok (.iaload, 1) := by decide +kernel
theorem dX5_insert_58 : decode cX5_insert 58 = .ok (.ifCond .eq 59, 3) := by decide +kernel
theorem dX5_insert_61 : decode cX5_insert 61 = .ok (.aload_n 0, 1) := by decide +kernel
theorem dX5_insert_62 : decode cX5_insert 62 = .ok (.getfield 13, 3) := by decide +kernel
theorem dX5_insert_65 : decode cX5_insert 65 = .ok (.iload_n 2, 1) := by decide +kernel
theorem dX5_insert_66 : decode cX5_insert 66 = .ok (.iaload, 1) := by decide +kernel
theorem dX5_insert_67 : decode cX5_insert 67 = .ok (.istore_n 3, 1) := by decide +kernel
theorem dX5_insert_68 : decode cX5_insert 68 = .ok (.iconst 0, 1) := by decide +kernel
theorem dX5_insert_69 : decode cX5_insert 69 = .ok (.istore 4, 2) := by decide +kernel
theorem dX5_insert_71 : decode cX5_insert 71 = .ok (.iload 4, 2) := by decide +kernel
theorem dX5_insert_73 : decode cX5_insert 73 = .ok (.aload_n 0, 1) := by decide +kernel
theorem dX5_insert_74 : decode cX5_insert 74 = .ok (.iload_n 1, 1) := by decide +kernel
theorem dX5_insert_75 : decode cX5_insert 75 = .ok (.invokevirtual 104, 3) := by decide +kernel
theorem dX5_insert_78 : decode cX5_insert 78 = .ok (.if_icmp .ge 29, 3) := by decide +kernel
theorem dX5_insert_81 : decode cX5_insert 81 = .ok (.aload_n 0, 1) := by decide +kernel
theorem dX5_insert_82 : decode cX5_insert 82 = .ok (.iload_n 3, 1) := by decide +kernel
theorem dX5_insert_83 : decode cX5_insert 83 = .ok (.iload 4, 2) := by decide +kernel
theorem dX5_insert_85 : decode cX5_insert 85 = .ok (.invokevirtual 107, 3) := by decide +kernel
theorem dX5_insert_88 : decode cX5_insert 88 = .ok (.ifCond .ne 13, 3) := by decide +kernel
theorem dX5_insert_91 : decode cX5_insert 91 = .ok (.aload_n 0, 1) := by decide +kernel
theorem dX5_insert_92 : decode cX5_insert 92 = .ok (.iload_n 1, 1) := by decide +kernel
theorem dX5_insert_93 : decode cX5_insert 93 = .ok (.iload_n 3, 1) := by decide +kernel
theorem dX5_insert_94 : decode cX5_insert 94 = .ok (.iload 4, 2) := by decide +kernel
theorem dX5_insert_96 : decode cX5_insert 96 = .ok (.invokevirtual 124, 3) := by decide +kernel
theorem dX5_insert_99 : decode cX5_insert 99 = .ok (.iconst 0, 1) := by decide +kernel
theorem dX5_insert_100 : decode cX5_insert 100 = .ok (.ireturn, 1) := by decide +kernel
theorem dX5_insert_101 : decode cX5_insert 101 = .ok (.iinc 4 1, 3) := by decide +kernel
theorem dX5_insert_104 : decode cX5_insert 104 = .ok (.goto (-33), 3) := by decide +kernel
theorem dX5_insert_107 : decode cX5_insert 107 = .ok (.bipush 16, 2) := by decide +kernel
theorem dX5_insert_109 : decode cX5_insert 109 = .ok (.iload_n 3, 1) := by decide +kernel
theorem dX5_insert_110 : decode cX5_insert 110 = .ok (.imul, 1) := by decide +kernel
theorem dX5_insert_111 : decode cX5_insert 111 = .ok (.iconst 1, 1) := by decide +kernel
theorem dX5_insert_112 : decode cX5_insert 112 = .ok (.iadd, 1) := by decide +kernel
theorem dX5_insert_113 : decode cX5_insert 113 = .ok (.istore_n 2, 1) := by decide +kernel
theorem dX5_insert_114 : decode cX5_insert 114 = .ok (.goto (-62), 3) := by decide +kernel
theorem dX5_insert_117 : decode cX5_insert 117 = .ok (.aload_n 0, 1) := by decide +kernel
theorem dX5_insert_118 : decode cX5_insert 118 = .ok (.invokevirtual 128, 3) := by decide +kernel
theorem dX5_insert_121 : decode cX5_insert 121 = .ok (.istore_n 3, 1) := by decide +kernel
theorem dX5_insert_122 : decode cX5_insert 122 = .ok (.iload_n 3, 1) := by decide +kernel
theorem dX5_insert_123 : decode cX5_insert 123 = .ok (.ifCond .ne 6, 3) := by decide +kernel
theorem dX5_insert_126 : decode cX5_insert 126 = .ok (.bipush (-8), 2) := by decide +kernel
theorem dX5_insert_128 : decode cX5_insert 128 = .ok (.ireturn, 1) := by decide +kernel
theorem dX5_insert_129 : decode cX5_insert 129 = .ok (.aload_n 0, 1) := by decide +kernel
theorem dX5_insert_130 : decode cX5_insert 130 = .ok (.getfield 13, 3) := by decide +kernel
theorem dX5_insert_133 : decode cX5_insert 133 = .ok (.iload_n 2, 1) := by decide +kernel
theorem dX5_insert_134 : decode cX5_insert 134 = .ok (.iload_n 3, 1) := by decide +kernel
theorem dX5_insert_135 : decode cX5_insert 135 = .ok (.iastore, 1) := by decide +kernel
theorem dX5_insert_136 : decode cX5_insert 136 = .ok (.aload_n 0, 1) := by decide +kernel
theorem dX5_insert_137 : decode cX5_insert 137 = .ok (.getfield 13, 3) := by decide +kernel
theorem dX5_insert_140 : decode cX5_insert 140 = .ok (.bipush 16, 2) := by decide +kernel
theorem dX5_insert_142 : decode cX5_insert 142 = .ok (.iload_n 3, 1) := by decide +kernel
theorem dX5_insert_143 : decode cX5_insert 143 = .ok (.imul, 1) := by decide +kernel
theorem dX5_insert_144 : decode cX5_insert 144 = .ok (.iload_n 1, 1) := by decide +kernel
theorem dX5_insert_145 : decode cX5_insert 145 = .ok (.iconst 1, 1) := by decide +kernel
theorem dX5_insert_146 : decode cX5_insert 146 = .ok (.iadd, 1) := by decide +kernel
theorem dX5_insert_147 : decode cX5_insert 147 = .ok (.iastore, 1) := by decide +kernel
theorem dX5_insert_148 : decode cX5_insert 148 = .ok (.aload_n 0, 1) := by decide +kernel
theorem dX5_insert_149 : decode cX5_insert 149 = .ok (.iload_n 1, 1) := by decide +kernel
theorem dX5_insert_150 : decode cX5_insert 150 = .ok (.iload_n 3, 1) := by decide +kernel
theorem dX5_insert_151 : decode cX5_insert 151 = .ok (.iconst 0, 1) := by decide +kernel
theorem dX5_insert_152 : decode cX5_insert 152 = .ok (.invokevirtual 124, 3) := by decide +kernel
theorem dX5_insert_155 : decode cX5_insert 155 = .ok (.iconst 0, 1) := by decide +kernel
theorem dX5_insert_156 : decode cX5_insert 156 = .ok (.ireturn, 1) := by decide +kernel
set_option maxRecDepth 20000 in
theorem ggX5_deleteKey_X5_noTable : GoodIn wsX5_deleteKey wsX5_noTable := goodIn_r _ [10, 4, 41, 42, 43, 44, 45, 46, 47, 48, 49, 50, 51, 52, 53, 54, 55, 56, 57, 58] (by decide +kernel) (by decide +kernel)
set_option maxRecDepth 20000 in
theorem gX5_deleteKey_X5_noTable : GoodIn wsX5_deleteKey (wsV RX5 94 RX5 yX5_noTable wsX5_noTable) := goodIn_app (goodIn_of _ (by decide +kernel)) ggX5_deleteKey_X5_noTable
set_option maxRecDepth 20000 in
theorem ggX5_deleteKey_X5_seek : GoodIn wsX5_deleteKey wsX5_seek := goodIn_r _ [14, 4, 3, 5, 15, 16, 17, 9, 18, 19, 20, 21, 22, 23, 24, 25, 26, 41, 42, 43, 44, 45, 46, 47, 48, 49, 50, 51, 52, 53, 54, 55, 56, 57, 58] (by decide +kernel) (by decide +kernel)
set_option maxRecDepth 20000 in
theorem gX5_deleteKey_X5_seek : GoodIn wsX5_deleteKey (wsV RX5 120 RX5 yX5_seek wsX5_seek) := goodIn_app (goodIn_of _ (by decide +kernel)) ggX5_deleteKey_X5_seek
set_option maxRecDepth 20000 in
theorem ggX5_deleteKey_X5_leads : GoodIn wsX5_deleteKey wsX5_leads := goodIn_r _ [30, 4, 41, 42, 43, 44, 45, 46, 47, 48, 49, 50, 51, 52, 53, 54, 55, 56, 57, 58] (by decide +kernel) (by decide +kernel)
set_option maxRecDepth 20000 in
theorem gX5_deleteKey_X5_leads : GoodIn wsX5_deleteKey (wsV RX5 131 RX5 yX5_leads wsX5_leads) := goodIn_app (goodIn_of _ (by decide +kernel)) ggX5_deleteKey_X5_leads
set_option maxRecDepth 20000 in
theorem ggX5_deleteKey_X5_clearPage : GoodIn wsX5_deleteKey wsX5_clearPage := goodIn_r _ [34, 4, 41, 42, 43, 44, 45, 46, 47, 48, 49, 50, 51, 52, 53, 54, 55, 56, 57, 58] (by decide +kernel) (by decide +kernel)
set_option maxRecDepth 20000 in
theorem gX5_deleteKey_X5_clearPage : GoodIn wsX5_deleteKey (wsV RX5 97 RX5 yX5_clearPage wsX5_clearPage) := goodIn_app (goodIn_of _ (by decide +kernel)) ggX5_deleteKey_X5_clearPage
set_option maxRecDepth 20000 in
theorem ggX5_deleteKey_X5_change : GoodIn wsX5_deleteKey wsX5_change := goodIn_r _ [38, 39, 40, 41, 42, 43, 44, 45, 46, 47, 48, 49, 50, 51, 52, 53, 54, 55, 56, 57, 58] (by decide +kernel) (by decide +kernel)
set_option maxRecDepth 20000 in
theorem gX5_deleteKey_X5_change : GoodIn wsX5_deleteKey (wsV RX5 101 RX5 yX5_change wsX5_change) := goodIn_app (goodIn_of _ (by decide +kernel)) ggX5_deleteKey_X5_change
theorem dX5_deleteKey_0 : decode cX5_deleteKey 0 = .ok (.aload_n 0, 1) := by decide +kernel
theorem dX5_deleteKey_1 : decode cX5_deleteKey 1 = .ok (.getfield 51, 3) := by decide +kernel
theorem dX5_deleteKey_4 : decode cX5_deleteKey 4 = .ok (.ifCond .eq 5, 3) := by decide +kernel
theorem dX5_deleteKey_7 : decode cX5_deleteKey 7 = .ok (.iconst (-1), 1) := by decide +kernel
theorem dX5_deleteKey_8 : decode cX5_deleteKey 8 = .ok (.ireturn, 1) := by decide +kernel
theorem dX5_deleteKey_9 : decode cX5_deleteKey 9 = .ok (.aload_n 0, 1) := by decide +kernel
theorem dX5_deleteKey_10 : decode cX5_deleteKey 10 = .ok (.getfield 66, 3) := by decide +kernel
theorem dX5_deleteKey_13 : decode cX5_deleteKey 13 = .ok (.ifCond .ne 6, 3) := by decide +kernel
theorem dX5_deleteKey_16 : decode cX5_deleteKey 16 = .ok (.bipush (-2), 2) := by decide +kernel
theorem dX5_deleteKey_18 : decode cX5_deleteKey 18 = .ok (.ireturn, 1) := by decide +kernel
theorem dX5_deleteKey_19 : decode cX5_deleteKey 19 = .ok (.aload_n 0, 1) := by decide +kernel
theorem dX5_deleteKey_20 : decode cX5_deleteKey 20 = .ok (.iload_n 1, 1) := by decide +kernel
theorem dX5_deleteKey_21 : decode cX5_deleteKey 21 = .ok (.invokevirtual 94, 3) := by decide +kernel
theorem dX5_deleteKey_24 : decode cX5_deleteKey 24 = .ok (.ifCond .eq 6, 3) := by decide +kernel
theorem dX5_deleteKey_27 : decode cX5_deleteKey 27 = .ok (.bipush (-5), 2) := by decide +kernel
theorem dX5_deleteKey_29 : decode cX5_deleteKey 29 = .ok (.ireturn, 1) := by decide +kernel
theorem dX5_deleteKey_30 : decode cX5_deleteKey 30 = .ok (.aload_n 0, 1) := by decide +kernel
theorem dX5_deleteKey_31 : decode cX5_deleteKey 31 = .ok (.iload_n 1, 1) := by decide +kernel
theorem dX5_deleteKey_32 : decode cX5_deleteKey 32 = .ok (.iload_n 2, 1) := by decide +kernel
theorem dX5_deleteKey_33 : decode cX5_deleteKey 33 = .ok (.invokevirtual 120, 3) := by decide +kernel
theorem dX5_deleteKey_36 : decode cX5_deleteKey 36 = .ok (.istore_n 3, 1) := by decide +kernel
theorem dX5_deleteKey_37 : decode cX5_deleteKey 37 = .ok (.iload_n 3, 1) := by decide +kernel
theorem dX5_deleteKey_38 : decode cX5_deleteKey 38 = .ok (.ifCond .ge 6, 3) := by decide +kernel
theorem dX5_deleteKey_41 : decode cX5_deleteKey 41 = .ok (.bipush (-6), 2) := by decide +kernel
theorem dX5_deleteKey_43 : decode cX5_deleteKey 43 = .ok (.ireturn, 1) := by decide +kernel
theorem dX5_deleteKey_44 : decode cX5_deleteKey 44 = .ok (.aload_n 0, 1) := by decide +kernel
theorem dX5_deleteKey_45 : decode cX5_deleteKey 45 = .ok (.getfield 114, 3) := by decide +kernel
theorem dX5_deleteKey_48 : decode cX5_deleteKey 48 = .ok (.istore 4, 2) := by decide +kernel
theorem dX5_deleteKey_50 : decode cX5_deleteKey 50 = .ok (.iconst 0, 1) := by decide +kernel
theorem dX5_deleteKey_51 : decode cX5_deleteKey 51 = .ok (.istore 5, 2) := by decide +kernel
theorem dX5_deleteKey_53 : decode cX5_deleteKey 53 = .ok (.iload 5, 2) := by decide +kernel
theorem dX5_deleteKey_55 : decode cX5_deleteKey 55 = .ok (.aload_n 0, 1) := by decide +kernel
theorem dX5_deleteKey_56 : decode cX5_deleteKey 56 = .ok (.getfield 13, 3) := by decide +kernel
theorem dX5_deleteKey_59 : decode cX5_deleteKey 59 = .ok (.iload_n 1, 1) := by decide +kernel
theorem dX5_deleteKey_60 : decode cX5_deleteKey 60 = .ok (.iaload, 1) := by decide +kernel
theorem dX5_deleteKey_61 : decode cX5_deleteKey 61 = .ok (.if_icmp .ge 19, 3) := by decide +kernel
theorem dX5_deleteKey_64 : decode cX5_deleteKey 64 = .ok (.aload_n 0, 1) := by decide +kernel
theorem dX5_deleteKey_65 : decode cX5_deleteKey 65 = .ok (.getfield 13, 3) := by decide +kernel
theorem dX5_deleteKey_68 : decode cX5_deleteKey 68 = .ok (.iload_n 3, 1) := by decide +kernel
theorem dX5_deleteKey_69 : decode cX5_deleteKey 69 = .ok (.iload 5, 2) := by decide +kernel
theorem dX5_deleteKey_71 : decode cX5_deleteKey 71 = .ok (.iadd, 1) := by decide +kernel
theorem dX5_deleteKey_72 : decode cX5_deleteKey 72 = .ok (.iconst 0, 1) := by decide +kernel
theorem dX5_deleteKey_73 : decode cX5_deleteKey 73 = .ok (.iastore, 1) := by decide +kernel
theorem dX5_deleteKey_74 : decode cX5_deleteKey 74 = .ok (.iinc 5 1, 3) := by decide +kernel
theorem dX5_deleteKey_77 : decode cX5_deleteKey 77 = .ok (.goto (-24), 3) := by decide +kernel
theorem dX5_deleteKey_80 : decode cX5_deleteKey 80 = .ok (.aload_n 0, 1) := by decide +kernel
theorem dX5_deleteKey_81 : decode cX5_deleteKey 81 = .ok (.getfield 13, 3) := by decide +kernel
theorem dX5_deleteKey_84 : decode cX5_deleteKey 84 = .ok (.bipush 16, 2) := by decide +kernel
theorem dX5_deleteKey_86 : decode cX5_deleteKey 86 = .ok (.iload 4, 2) := by decide +kernel
theorem dX5_deleteKey_88 : decode cX5_deleteKey 88 = .ok (.imul, 1) := by decide +kernel
theorem dX5_deleteKey_89 : decode cX5_deleteKey 89 = .ok (.iconst 2, 1) := by decide +kernel
theorem dX5_deleteKey_90 : decode cX5_deleteKey 90 = .ok (.iadd, 1) := by decide +kernel
theorem dX5_deleteKey_91 : decode cX5_deleteKey 91 = .ok (.aload_n 0, 1) := by decide +kernel
theorem dX5_deleteKey_92 : decode cX5_deleteKey 92 = .ok (.getfield 13, 3) := by decide +kernel
theorem dX5_deleteKey_95 : decode cX5_deleteKey 95 = .ok (.bipush 16, 2) := by decide +kernel
theorem dX5_deleteKey_97 : decode cX5_deleteKey 97 = .ok (.iload 4, 2) := by decide +kernel
theorem dX5_deleteKey_99 : decode cX5_deleteKey 99 = .ok (.imul, 1) := by decide +kernel
theorem dX5_deleteKey_100 : decode cX5_deleteKey 100 = .ok (.iconst 2, 1) := by decide +kernel
theorem dX5_deleteKey_101 : decode cX5_deleteKey 101 = .ok (.iadd, 1) := by decide +kernel
theorem dX5_deleteKey_102 : decode cX5_deleteKey 102 = .ok (.iaload, 1) := by decide +kernel
theorem dX5_deleteKey_103 : decode cX5_deleteKey 103 = .ok (.iconst 1, 1) := by decide +kernel
theorem dX5_deleteKey_104 : decode cX5_deleteKey 104 = .ok (.aload_n 0, 1) := by decide +kernel
theorem dX5_deleteKey_105 : decode cX5_deleteKey 105 = .ok (.getfield 117, 3) := by decide +kernel
theorem dX5_deleteKey_108 : decode cX5_deleteKey 108 = .ok (.ishl, 1) := by decide +kernel
theorem dX5_deleteKey_109 : decode cX5_deleteKey 109 = .ok (.iconst (-1), 1) := by decide +kernel
theorem dX5_deleteKey_110 : decode cX5_deleteKey 110 = .ok (.ixor, 1) := by decide +kernel
theorem dX5_deleteKey_111 : decode cX5_deleteKey 111 = .ok (.iand, 1) := by decide +kernel
theorem dX5_deleteKey_112 : decode cX5_deleteKey 112 = .ok (.iastore, 1) := by decide +kernel
theorem dX5_deleteKey_113 : decode cX5_deleteKey 113 = .ok (.aload_n 0, 1) := by decide +kernel
theorem dX5_deleteKey_114 : decode cX5_deleteKey 114 = .ok (.getfield 13, 3) := by decide +kernel
theorem dX5_deleteKey_117 : decode cX5_deleteKey 117 = .ok (.bipush 16, 2) := by decide +kernel
theorem dX5_deleteKey_119 : decode cX5_deleteKey 119 = .ok (.iload 4, 2) := by decide +kernel
theorem dX5_deleteKey_121 : decode cX5_deleteKey 121 = .ok (.imul, 1) := by decide +kernel
theorem dX5_deleteKey_122 : decode cX5_deleteKey 122 = .ok (.iconst 2, 1) := by decide +kernel
theorem dX5_deleteKey_123 : decode cX5_deleteKey 123 = .ok (.iadd, 1) := by decide +kernel
theorem dX5_deleteKey_124 : decode cX5_deleteKey 124 = .ok (.iaload, 1) := by decide +kernel
theorem dX5_deleteKey_125 : decode cX5_deleteKey 125 = .ok (.ifCond .ne 33, 3) := by decide +kernel
theorem dX5_deleteKey_128 : decode cX5_deleteKey 128 = .ok (.aload_n 0, 1) := by decide +kernel
theorem dX5_deleteKey_129 : decode cX5_deleteKey 129 = .ok (.getfield 13, 3) := by decide +kernel
theorem dX5_deleteKey_132 : decode cX5_deleteKey 132 = .ok (.aload_n 0, 1) := by decide +kernel
theorem dX5_deleteKey_133 : decode cX5_deleteKey 133 = .ok (.iload_n 1, 1) := by decide +kernel
theorem dX5_deleteKey_134 : decode cX5_deleteKey 134 = .ok (.iload 4, 2) := by decide +kernel
theorem dX5_deleteKey_136 : decode cX5_deleteKey 136 = .ok (.invokevirtual 131, 3) := by decide +kernel
theorem dX5_deleteKey_139 : decode cX5_deleteKey 139 = .ok (.aload_n 0, 1) := by decide +kernel
theorem dX5_deleteKey_140 : decode cX5_deleteKey 140 = .ok (.getfield 13, 3) := by decide +kernel
theorem dX5_deleteKey_143 : decode cX5_deleteKey 143 = .ok (.bipush 16, 2) := by decide +kernel
theorem dX5_deleteKey_145 : decode cX5_deleteKey 145 = .ok (.iload 4, 2) := by decide +kernel
theorem dX5_deleteKey_147 : decode cX5_deleteKey 147 = .ok (.imul, 1) := by decide +kernel
theorem dX5_deleteKey_148 : decode cX5_deleteKey 148 = .ok (.iconst 1, 1) := by decide +kernel
theorem dX5_deleteKey_149 : decode cX5_deleteKey 149 = .ok (.iadd, 1) := by decide +kernel
theorem dX5_deleteKey_150 : decode cX5_deleteKey 150 = .ok (.iaload, 1) := by decide +kernel
theorem dX5_deleteKey_151 : decode cX5_deleteKey 151 = .ok (.iastore, 1) := by decide +kernel
theorem dX5_deleteKey_152 : decode cX5_deleteKey 152 = .ok (.aload_n 0, 1) := by decide +kernel
theorem dX5_deleteKey_153 : decode cX5_deleteKey 153 = .ok (.iload 4, 2) := by decide +kernel
theorem dX5_deleteKey_155 : decode cX5_deleteKey 155 = .ok (.invokevirtual 97, 3) := by decide +kernel
theorem dX5_deleteKey_158 : decode cX5_deleteKey 158 = .ok (.aload_n 0, 1) := by decide +kernel
theorem dX5_deleteKey_159 : decode cX5_deleteKey 159 = .ok (.iload_n 1, 1) := by decide +kernel
theorem dX5_deleteKey_160 : decode cX5_deleteKey 160 = .ok (.invokevirtual 101, 3) := by decide +kernel
theorem dX5_deleteKey_163 : decode cX5_deleteKey 163 = .ok (.iconst 0, 1) := by decide +kernel
theorem dX5_deleteKey_164 : decode cX5_deleteKey 164 = .ok (.ireturn, 1) := by decide +kernel
set_option maxRecDepth 20000 in
theorem ggX5_updateCol_X5_noTable : GoodIn wsX5_updateCol wsX5_noTable := goodIn_r _ [8, 3, 33, 34, 35, 36, 37, 38, 39, 40, 41, 42, 43, 44, 45, 46, 47, 48, 49, 50] (by decide +kernel) (by decide +kernel)
set_option maxRecDepth 20000 in
theorem gX5_updateCol_X5_noTable : GoodIn wsX5_updateCol (wsV RX5 94 RX5 yX5_noTable wsX5_noTable) := goodIn_app (goodIn_of _ (by decide +kernel)) ggX5_updateCol_X5_noTable
set_option maxRecDepth 20000 in
theorem ggX5_updateCol_X5_seek : GoodIn wsX5_updateCol wsX5_seek := goodIn_r _ [12, 3, 13, 14, 15, 16, 17, 7, 18, 19, 20, 21, 22, 23, 24, 25, 26, 33, 34, 35, 36, 37, 38, 39, 40, 41, 42, 43, 44, 45, 46, 47, 48, 49, 50] (by decide +kernel) (by decide +kernel)
set_option maxRecDepth 20000 in
theorem gX5_updateCol_X5_seek : GoodIn wsX5_updateCol (wsV RX5 120 RX5 yX5_seek wsX5_seek) := goodIn_app (goodIn_of _ (by decide +kernel)) ggX5_updateCol_X5_seek
set_option maxRecDepth 20000 in
theorem ggX5_updateCol_X5_change : GoodIn wsX5_updateCol wsX5_change := goodIn_r _ [30, 31, 32, 33, 34, 35, 36, 37, 38, 39, 40, 41, 42, 43, 44, 45, 46, 47, 48, 49, 50] (by decide +kernel) (by decide +kernel)
set_option maxRecDepth 20000 in
theorem gX5_updateCol_X5_change : GoodIn wsX5_updateCol (wsV RX5 101 RX5 yX5_change wsX5_change) := goodIn_app (goodIn_of _ (by decide +kernel)) ggX5_updateCol_X5_change
theorem dX5_updateCol_0 : decode cX5_updateCol 0 = .ok (.aload_n 0, 1) := by decide +kernel
theorem dX5_updateCol_1 : decode cX5_updateCol 1 = .ok (.getfield 51, 3) := by decide +kernel
theorem dX5_updateCol_4 : decode cX5_updateCol 4 = .ok (.ifCond .eq 5, 3) := by decide +kernel
theorem dX5_updateCol_7 : decode cX5_updateCol 7 = .ok (.iconst (-1), 1) := by decide +kernel
theorem dX5_updateCol_8 : decode cX5_updateCol 8 = .ok (.ireturn, 1) := by decide +kernel
theorem dX5_updateCol_9 : decode cX5_updateCol 9 = .ok (.aload_n 0, 1) := by decide +kernel
theorem dX5_updateCol_10 : decode cX5_updateCol 10 = .ok (.getfield 66, 3) := by decide +kernel
theorem dX5_updateCol_13 : decode cX5_updateCol 13 = .ok (.ifCond .ne 6, 3) := by decide +kernel
theorem dX5_updateCol_16 : decode cX5_updateCol 16 = .ok (.bipush (-2), 2) := by decide +kernel
theorem dX5_updateCol_18 : decode cX5_updateCol 18 = .ok (.ireturn, 1) := by decide +kernel
theorem dX5_updateCol_19 : decode cX5_updateCol 19 = .ok (.aload_n 0, 1) := by decide +kernel
theorem dX5_updateCol_20 : decode cX5_updateCol 20 = .ok (.iload_n 1, 1) := by decide +kernel
theorem dX5_updateCol_21 : decode cX5_updateCol 21 = .ok (.invokevirtual 94, 3) := by decide +kernel
theorem dX5_updateCol_24 : decode cX5_updateCol 24 = .ok (.ifCond .eq 6, 3) := by decide +kernel
theorem dX5_updateCol_27 : decode cX5_updateCol 27 = .ok (.bipush (-5), 2) := by decide +kernel
theorem dX5_updateCol_29 : decode cX5_updateCol 29 = .ok (.ireturn, 1) := by decide +kernel
theorem dX5_updateCol_30 : decode cX5_updateCol 30 = .ok (.iload_n 3, 1) := by decide +kernel
theorem dX5_updateCol_31 : decode cX5_updateCol 31 = .ok (.iconst 1, 1) := by decide +kernel
theorem dX5_updateCol_32 : decode cX5_updateCol 32 = .ok (.if_icmp .lt 13, 3) := by decide +kernel
theorem dX5_updateCol_35 : decode cX5_updateCol 35 = .ok (.iload_n 3, 1) := by decide +kernel
theorem dX5_updateCol_36 : decode cX5_updateCol 36 = .ok (.aload_n 0, 1) := by decide +kernel
theorem dX5_updateCol_37 : decode cX5_updateCol 37 = .ok (.getfield 13, 3) := by decide +kernel
theorem dX5_updateCol_40 : decode cX5_updateCol 40 = .ok (.iload_n 1, 1) := by decide +kernel
theorem dX5_updateCol_41 : decode cX5_updateCol 41 = .ok (.iaload, 1) := by decide +kernel
theorem dX5_updateCol_42 : decode cX5_updateCol 42 = .ok (.if_icmp .lt 6, 3) := by decide +kernel
theorem dX5_updateCol_45 : decode cX5_updateCol 45 = .ok (.bipush (-4), 2) := by decide +kernel
theorem dX5_updateCol_47 : decode cX5_updateCol 47 = .ok (.ireturn, 1) := by decide +kernel
theorem dX5_updateCol_48 : decode cX5_updateCol 48 = .ok (.aload_n 0, 1) := by decide +kernel
theorem dX5_updateCol_49 : decode cX5_updateCol 49 = .ok (.iload_n 1, 1) := by decide +kernel
theorem dX5_updateCol_50 : decode cX5_updateCol 50 = .ok (.iload_n 2, 1) := by decide +kernel
theorem dX5_updateCol_51 : decode cX5_updateCol 51 = .ok (.invokevirtual 120, 3) := by decide +kernel
theorem dX5_updateCol_54 : decode cX5_updateCol 54 = .ok (.istore 5, 2) := by decide +kernel
theorem dX5_updateCol_56 : decode cX5_updateCol 56 = .ok (.iload 5, 2) := by decide +kernel
theorem dX5_updateCol_58 : decode cX5_updateCol 58 = .ok (.ifCond .ge 6, 3) := by decide +kernel
theorem dX5_updateCol_61 : decode cX5_updateCol 61 = .ok (.bipush (-6), 2) := by decide +kernel
theorem dX5_updateCol_63 : decode cX5_updateCol 63 = .ok (.ireturn, 1) := by decide +kernel
theorem dX5_updateCol_64 : decode cX5_updateCol 64 = .ok (.aload_n 0, 1) := by decide +kernel
theorem dX5_updateCol_65 : decode cX5_updateCol 65 = .ok (.getfield 13, 3) := by decide +kernel
theorem dX5_updateCol_68 : decode cX5_updateCol 68 = .ok (.iload 5, 2) := by decide +kernel
theorem dX5_updateCol_70 : decode cX5_updateCol 70 = .ok (.iload_n 3, 1) := by decide +kernel
theorem dX5_updateCol_71 : decode cX5_updateCol 71 = .ok (.iadd, 1) := by decide +kernel
theorem dX5_updateCol_72 : decode cX5_updateCol 72 = .ok (.iload 4, 2) := by decide +kernel
theorem dX5_updateCol_74 : decode cX5_updateCol 74 = .ok (.iastore, 1) := by decide +kernel
theorem dX5_updateCol_75 : decode cX5_updateCol 75 = .ok (.aload_n 0, 1) := by decide +kernel
theorem dX5_updateCol_76 : decode cX5_updateCol 76 = .ok (.iload_n 1, 1) := by decide +kernel
