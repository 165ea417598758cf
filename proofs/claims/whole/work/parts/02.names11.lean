theorem dX5_updateCol_77 : decode cX5_updateCol 77 = .ok (.invokevirtual 101, 3) := by decide +kernel
theorem dX5_updateCol_80 : decode cX5_updateCol 80 = .ok (.iconst 0, 1) := by decide +kernel
theorem dX5_updateCol_81 : decode cX5_updateCol 81 = .ok (.ireturn, 1) := by decide +kernel
set_option maxRecDepth 20000 in
theorem ggX5_lookup_X5_noTable : GoodIn wsX5_lookup wsX5_noTable := goodIn_r _ [7, 2, 26, 27, 28, 29, 30, 31, 32, 33, 34, 35, 36, 37, 38, 39, 40, 41, 42, 43] (by decide +kernel) (by decide +kernel)
set_option maxRecDepth 20000 in
theorem gX5_lookup_X5_noTable : GoodIn wsX5_lookup (wsV RX5 94 RX5 yX5_noTable wsX5_noTable) := goodIn_app (goodIn_of _ (by decide +kernel)) ggX5_lookup_X5_noTable
set_option maxRecDepth 20000 in
theorem ggX5_lookup_X5_seek : GoodIn wsX5_lookup wsX5_seek := goodIn_r _ [11, 2, 12, 13, 14, 15, 16, 6, 17, 18, 19, 20, 21, 22, 23, 24, 25, 26, 27, 28, 29, 30, 31, 32, 33, 34, 35, 36, 37, 38, 39, 40, 41, 42, 43] (by decide +kernel) (by decide +kernel)
set_option maxRecDepth 20000 in
theorem gX5_lookup_X5_seek : GoodIn wsX5_lookup (wsV RX5 120 RX5 yX5_seek wsX5_seek) := goodIn_app (goodIn_of _ (by decide +kernel)) ggX5_lookup_X5_seek
theorem dX5_lookup_0 : decode cX5_lookup 0 = .ok (.aload_n 0, 1) := by decide +kernel
theorem dX5_lookup_1 : decode cX5_lookup 1 = .ok (.getfield 51, 3) := by decide +kernel
theorem dX5_lookup_4 : decode cX5_lookup 4 = .ok (.ifCond .ne 25, 3) := by decide +kernel
theorem dX5_lookup_7 : decode cX5_lookup 7 = .ok (.aload_n 0, 1) := by decide +kernel
theorem dX5_lookup_8 : decode cX5_lookup 8 = .ok (.iload_n 1, 1) := by decide +kernel
theorem dX5_lookup_9 : decode cX5_lookup 9 = .ok (.invokevirtual 94, 3) := by decide +kernel
theorem dX5_lookup_12 : decode cX5_lookup 12 = .ok (.ifCond .ne 17, 3) := by decide +kernel
theorem dX5_lookup_15 : decode cX5_lookup 15 = .ok (.iload_n 3, 1) := by decide +kernel
theorem dX5_lookup_16 : decode cX5_lookup 16 = .ok (.ifCond .lt 13, 3) := by decide +kernel
theorem dX5_lookup_19 : decode cX5_lookup 19 = .ok (.iload_n 3, 1) := by decide +kernel
theorem dX5_lookup_20 : decode cX5_lookup 20 = .ok (.aload_n 0, 1) := by decide +kernel
theorem dX5_lookup_21 : decode cX5_lookup 21 = .ok (.getfield 13, 3) := by decide +kernel
theorem dX5_lookup_24 : decode cX5_lookup 24 = .ok (.iload_n 1, 1) := by decide +kernel
theorem dX5_lookup_25 : decode cX5_lookup 25 = .ok (.iaload, 1) := by decide +kernel
theorem dX5_lookup_26 : decode cX5_lookup 26 = .ok (.if_icmp .lt 5, 3) := by decide +kernel
theorem dX5_lookup_29 : decode cX5_lookup 29 = .ok (.iconst 0, 1) := by decide +kernel
theorem dX5_lookup_30 : decode cX5_lookup 30 = .ok (.ireturn, 1) := by decide +kernel
theorem dX5_lookup_31 : decode cX5_lookup 31 = .ok (.aload_n 0, 1) := by decide +kernel
theorem dX5_lookup_32 : decode cX5_lookup 32 = .ok (.iload_n 1, 1) := by decide +kernel
theorem dX5_lookup_33 : decode cX5_lookup 33 = .ok (.iload_n 2, 1) := by decide +kernel
theorem dX5_lookup_34 : decode cX5_lookup 34 = .ok (.invokevirtual 120, 3) := by decide +kernel
theorem dX5_lookup_37 : decode cX5_lookup 37 = .ok (.istore 4, 2) := by decide +kernel
theorem dX5_lookup_39 : decode cX5_lookup 39 = .ok (.iload 4, 2) := by decide +kernel
theorem dX5_lookup_41 : decode cX5_lookup 41 = .ok (.ifCond .ge 7, 3) := by decide +kernel
theorem dX5_lookup_44 : decode cX5_lookup 44 = .ok (.iconst 0, 1) := by decide +kernel
theorem dX5_lookup_45 : decode cX5_lookup 45 = .ok (.goto 12, 3) := by decide +kernel
theorem dX5_lookup_48 : decode cX5_lookup 48 = .ok (.aload_n 0, 1) := by decide +kernel
theorem dX5_lookup_49 : decode cX5_lookup 49 = .ok (.getfield 13, 3) := by decide +kernel
theorem dX5_lookup_52 : decode cX5_lookup 52 = .ok (.iload 4, 2) := by decide +kernel
theorem dX5_lookup_54 : decode cX5_lookup 54 = .ok (.iload_n 3, 1) := by decide +kernel
theorem dX5_lookup_55 : decode cX5_lookup 55 = .ok (.iadd, 1) := by decide +kernel
theorem dX5_lookup_56 : decode cX5_lookup 56 = .ok (.iaload, 1) := by decide +kernel
theorem dX5_lookup_57 : decode cX5_lookup 57 = .ok (.ireturn, 1) := by decide +kernel
set_option maxRecDepth 20000 in
theorem ggX5_has_X5_noTable : GoodIn wsX5_has wsX5_noTable := goodIn_r _ [6, 7, 26, 27, 28, 29, 30, 31, 32, 33, 34, 35, 36, 37, 38, 39, 40, 41, 42, 43] (by decide +kernel) (by decide +kernel)
set_option maxRecDepth 20000 in
theorem gX5_has_X5_noTable : GoodIn wsX5_has (wsV RX5 94 RX5 yX5_noTable wsX5_noTable) := goodIn_app (goodIn_of _ (by decide +kernel)) ggX5_has_X5_noTable
set_option maxRecDepth 20000 in
theorem ggX5_has_X5_seek : GoodIn wsX5_has wsX5_seek := goodIn_r _ [11, 7, 12, 13, 14, 15, 16, 5, 17, 18, 19, 20, 21, 22, 23, 24, 25, 26, 27, 28, 29, 30, 31, 32, 33, 34, 35, 36, 37, 38, 39, 40, 41, 42, 43] (by decide +kernel) (by decide +kernel)
set_option maxRecDepth 20000 in
theorem gX5_has_X5_seek : GoodIn wsX5_has (wsV RX5 120 RX5 yX5_seek wsX5_seek) := goodIn_app (goodIn_of _ (by decide +kernel)) ggX5_has_X5_seek
theorem dX5_has_0 : decode cX5_has 0 = .ok (.aload_n 0, 1) := by decide +kernel
theorem dX5_has_1 : decode cX5_has 1 = .ok (.getfield 51, 3) := by decide +kernel
theorem dX5_has_4 : decode cX5_has 4 = .ok (.ifCond .ne 24, 3) := by decide +kernel
theorem dX5_has_7 : decode cX5_has 7 = .ok (.aload_n 0, 1) := by decide +kernel
theorem dX5_has_8 : decode cX5_has 8 = .ok (.iload_n 1, 1) := by decide +kernel
theorem dX5_has_9 : decode cX5_has 9 = .ok (.invokevirtual 94, 3) := by decide +kernel
theorem dX5_has_12 : decode cX5_has 12 = .ok (.ifCond .ne 16, 3) := by decide +kernel
theorem dX5_has_15 : decode cX5_has 15 = .ok (.aload_n 0, 1) := by decide +kernel
theorem dX5_has_16 : decode cX5_has 16 = .ok (.iload_n 1, 1) := by decide +kernel
theorem dX5_has_17 : decode cX5_has 17 = .ok (.iload_n 2, 1) := by decide +kernel
theorem dX5_has_18 : decode cX5_has 18 = .ok (.invokevirtual 120, 3) := by decide +kernel
theorem dX5_has_21 : decode cX5_has 21 = .ok (.ifCond .lt 7, 3) := by decide +kernel
theorem dX5_has_24 : decode cX5_has 24 = .ok (.iconst 1, 1) := by decide +kernel
theorem dX5_has_25 : decode cX5_has 25 = .ok (.goto 4, 3) := by decide +kernel
theorem dX5_has_28 : decode cX5_has 28 = .ok (.iconst 0, 1) := by decide +kernel
theorem dX5_has_29 : decode cX5_has 29 = .ok (.ireturn, 1) := by decide +kernel
set_option maxRecDepth 20000 in
theorem ggX5_count_X5_noTable : GoodIn wsX5_count wsX5_noTable := goodIn_r _ [7, 2, 11, 12, 13, 14, 15, 16, 17, 18, 19, 20, 21, 22, 23, 24, 25, 26, 27, 28] (by decide +kernel) (by decide +kernel)
set_option maxRecDepth 20000 in
theorem gX5_count_X5_noTable : GoodIn wsX5_count (wsV RX5 94 RX5 yX5_noTable wsX5_noTable) := goodIn_app (goodIn_of _ (by decide +kernel)) ggX5_count_X5_noTable
set_option maxRecDepth 20000 in
theorem ggX5_count_X5_bits : GoodIn wsX5_count wsX5_bits := goodIn_r _ [10] (by decide +kernel) (by decide +kernel)
set_option maxRecDepth 20000 in
theorem gX5_count_X5_bits : GoodIn wsX5_count (va_wsS RX5 84 yX5_bits wsX5_bits) := goodIn_app (goodIn_of _ (by decide +kernel)) ggX5_count_X5_bits
theorem dX5_count_0 : decode cX5_count 0 = .ok (.aload_n 0, 1) := by decide +kernel
theorem dX5_count_1 : decode cX5_count 1 = .ok (.getfield 51, 3) := by decide +kernel
theorem dX5_count_4 : decode cX5_count 4 = .ok (.ifCond .eq 5, 3) := by decide +kernel
theorem dX5_count_7 : decode cX5_count 7 = .ok (.iconst (-1), 1) := by decide +kernel
theorem dX5_count_8 : decode cX5_count 8 = .ok (.ireturn, 1) := by decide +kernel
theorem dX5_count_9 : decode cX5_count 9 = .ok (.aload_n 0, 1) := by decide +kernel
theorem dX5_count_10 : decode cX5_count 10 = .ok (.iload_n 1, 1) := by decide +kernel
theorem dX5_count_11 : decode cX5_count 11 = .ok (.invokevirtual 94, 3) := by decide +kernel
theorem dX5_count_14 : decode cX5_count 14 = .ok (.ifCond .eq 6, 3) := by decide +kernel
theorem dX5_count_17 : decode cX5_count 17 = .ok (.bipush (-5), 2) := by decide +kernel
theorem dX5_count_19 : decode cX5_count 19 = .ok (.ireturn, 1) := by decide +kernel
theorem dX5_count_20 : decode cX5_count 20 = .ok (.iconst 0, 1) := by decide +kernel
theorem dX5_count_21 : decode cX5_count 21 = .ok (.istore_n 2, 1) := by decide +kernel
theorem dX5_count_22 : decode cX5_count 22 = .ok (.iconst 1, 1) := by decide +kernel
theorem dX5_count_23 : decode cX5_count 23 = .ok (.istore_n 3, 1) := by decide +kernel
theorem dX5_count_24 : decode cX5_count 24 = .ok (.iload_n 3, 1) := by decide +kernel
theorem dX5_count_25 : decode cX5_count 25 = .ok (.bipush 16, 2) := by decide +kernel
theorem dX5_count_27 : decode cX5_count 27 = .ok (.if_icmp .ge 45, 3) := by decide +kernel
theorem dX5_count_30 : decode cX5_count 30 = .ok (.aload_n 0, 1) := by decide +kernel
theorem dX5_count_31 : decode cX5_count 31 = .ok (.getfield 13, 3) := by decide +kernel
theorem dX5_count_34 : decode cX5_count 34 = .ok (.bipush 16, 2) := by decide +kernel
theorem dX5_count_36 : decode cX5_count 36 = .ok (.iload_n 3, 1) := by decide +kernel
theorem dX5_count_37 : decode cX5_count 37 = .ok (.imul, 1) := by decide +kernel
theorem dX5_count_38 : decode cX5_count 38 = .ok (.iaload, 1) := by decide +kernel
theorem dX5_count_39 : decode cX5_count 39 = .ok (.iload_n 1, 1) := by decide +kernel
theorem dX5_count_40 : decode cX5_count 40 = .ok (.iconst 1, 1) := by decide +kernel
theorem dX5_count_41 : decode cX5_count 41 = .ok (.iadd, 1) := by decide +kernel
theorem dX5_count_42 : decode cX5_count 42 = .ok (.if_icmp .ne 22, 3) := by decide +kernel
theorem dX5_count_45 : decode cX5_count 45 = .ok (.iload_n 2, 1) := by decide +kernel
theorem dX5_count_46 : decode cX5_count 46 = .ok (.aload_n 0, 1) := by decide +kernel
theorem dX5_count_47 : decode cX5_count 47 = .ok (.getfield 13, 3) := by decide +kernel
theorem dX5_count_50 : decode cX5_count 50 = .ok (.bipush 16, 2) := by decide +kernel
theorem dX5_count_52 : decode cX5_count 52 = .ok (.iload_n 3, 1) := by decide +kernel
theorem dX5_count_53 : decode cX5_count 53 = .ok (.imul, 1) := by decide +kernel
theorem dX5_count_54 : decode cX5_count 54 = .ok (.iconst 2, 1) := by decide +kernel
theorem dX5_count_55 : decode cX5_count 55 = .ok (.iadd, 1) := by decide +kernel
theorem dX5_count_56 : decode cX5_count 56 = .ok (.iaload, 1) := by decide +kernel
theorem dX5_count_57 : decode cX5_count 57 = .ok (.invokestatic 84, 3) := by decide +kernel
theorem dX5_count_60 : decode cX5_count 60 = .ok (.iadd, 1) := by decide +kernel
theorem dX5_count_61 : decode cX5_count 61 = .ok (.goto 4, 3) := by decide +kernel
theorem dX5_count_64 : decode cX5_count 64 = .ok (.iload_n 2, 1) := by decide +kernel
theorem dX5_count_65 : decode cX5_count 65 = .ok (.istore_n 2, 1) := by decide +kernel
theorem dX5_count_66 : decode cX5_count 66 = .ok (.iinc 3 1, 3) := by decide +kernel
theorem dX5_count_69 : decode cX5_count 69 = .ok (.goto (-45), 3) := by decide +kernel
theorem dX5_count_72 : decode cX5_count 72 = .ok (.iload_n 2, 1) := by decide +kernel
theorem dX5_count_73 : decode cX5_count 73 = .ok (.ireturn, 1) := by decide +kernel
set_option maxRecDepth 20000 in
theorem ggX5_openScan_X5_noTable : GoodIn wsX5_openScan wsX5_noTable := goodIn_r _ [14, 2, 15, 16, 17, 18, 19, 20, 21, 22, 23, 24, 25, 26, 27, 28, 29, 30, 31, 32] (by decide +kernel) (by decide +kernel)
set_option maxRecDepth 20000 in
theorem gX5_openScan_X5_noTable : GoodIn wsX5_openScan (wsV RX5 94 RX5 yX5_noTable wsX5_noTable) := goodIn_app (goodIn_of _ (by decide +kernel)) ggX5_openScan_X5_noTable
theorem dX5_openScan_0 : decode cX5_openScan 0 = .ok (.aload_n 0, 1) := by decide +kernel
theorem dX5_openScan_1 : decode cX5_openScan 1 = .ok (.getfield 51, 3) := by decide +kernel
theorem dX5_openScan_4 : decode cX5_openScan 4 = .ok (.ifCond .eq 5, 3) := by decide +kernel
theorem dX5_openScan_7 : decode cX5_openScan 7 = .ok (.iconst (-1), 1) := by decide +kernel
theorem dX5_openScan_8 : decode cX5_openScan 8 = .ok (.ireturn, 1) := by decide +kernel
theorem dX5_openScan_9 : decode cX5_openScan 9 = .ok (.aload_n 0, 1) := by decide +kernel
theorem dX5_openScan_10 : decode cX5_openScan 10 = .ok (.iload_n 1, 1) := by decide +kernel
theorem dX5_openScan_11 : decode cX5_openScan 11 = .ok (.invokevirtual 94, 3) := by decide +kernel
theorem dX5_openScan_14 : decode cX5_openScan 14 = .ok (.ifCond .eq 6, 3) := by decide +kernel
theorem dX5_openScan_17 : decode cX5_openScan 17 = .ok (.bipush (-5), 2) := by decide +kernel
theorem dX5_openScan_19 : decode cX5_openScan 19 = .ok (.ireturn, 1) := by decide +kernel
theorem dX5_openScan_20 : decode cX5_openScan 20 = .ok (.iload_n 2, 1) := by decide +kernel
theorem dX5_openScan_21 : decode cX5_openScan 21 = .ok (.ifCond .lt 13, 3) := by decide +kernel
theorem dX5_openScan_24 : decode cX5_openScan 24 = .ok (.iload_n 2, 1) := by decide +kernel
theorem dX5_openScan_25 : decode cX5_openScan 25 = .ok (.aload_n 0, 1) := by decide +kernel
theorem dX5_openScan_26 : decode cX5_openScan 26 = .ok (.getfield 13, 3) := by decide +kernel
theorem dX5_openScan_29 : decode cX5_openScan 29 = .ok (.iload_n 1, 1) := by decide +kernel
theorem dX5_openScan_30 : decode cX5_openScan 30 = .ok (.iaload, 1) := by decide +kernel
theorem dX5_openScan_31 : decode cX5_openScan 31 = .ok (.if_icmp .lt 6, 3) := by decide +kernel
theorem dX5_openScan_34 : decode cX5_openScan 34 = .ok (.bipush (-4), 2) := by decide +kernel
theorem dX5_openScan_36 : decode cX5_openScan 36 = .ok (.ireturn, 1) := by decide +kernel
theorem dX5_openScan_37 : decode cX5_openScan 37 = .ok (.iconst 0, 1) := by decide +kernel
theorem dX5_openScan_38 : decode cX5_openScan 38 = .ok (.istore 5, 2) := by decide +kernel
theorem dX5_openScan_40 : decode cX5_openScan 40 = .ok (.iload 5, 2) := by decide +kernel
theorem dX5_openScan_42 : decode cX5_openScan 42 = .ok (.iconst 4, 1) := by decide +kernel
theorem dX5_openScan_43 : decode cX5_openScan 43 = .ok (.if_icmp .ge 19, 3) := by decide +kernel
theorem dX5_openScan_46 : decode cX5_openScan 46 = .ok (.aload_n 0, 1) := by decide +kernel
theorem dX5_openScan_47 : decode cX5_openScan 47 = .ok (.getfield 38, 3) := by decide +kernel
theorem dX5_openScan_50 : decode cX5_openScan 50 = .ok (.iload 5, 2) := by decide +kernel
theorem dX5_openScan_52 : decode cX5_openScan 52 = .ok (.baload, 1) := by decide +kernel
theorem dX5_openScan_53 : decode cX5_openScan 53 = .ok (.ifCond .eq 9, 3) := by decide +kernel
theorem dX5_openScan_56 : decode cX5_openScan 56 = .ok (.iinc 5 1, 3) := by decide +kernel
theorem dX5_openScan_59 : decode cX5_openScan 59 = .ok (.goto (-19), 3) := by decide +kernel
theorem dX5_openScan_62 : decode cX5_openScan 62 = .ok (.iload 5, 2) := by decide +kernel
theorem dX5_openScan_64 : decode cX5_openScan 64 = .ok (.iconst 4, 1) := by decide +kernel
theorem dX5_openScan_65 : decode cX5_openScan 65 = .ok (.if_icmp .ne 6, 3) := by decide +kernel
theorem dX5_openScan_68 : decode cX5_openScan 68 = .ok (.bipush (-8), 2) := by decide +kernel
theorem dX5_openScan_70 : decode cX5_openScan 70 = .ok (.ireturn, 1) := by decide +kernel
theorem dX5_openScan_71 : decode cX5_openScan 71 = .ok (.aload_n 0, 1) := by decide +kernel
theorem dX5_openScan_72 : decode cX5_openScan 72 = .ok (.getfield 38, 3) := by decide +kernel
theorem dX5_openScan_75 : decode cX5_openScan 75 = .ok (.iload 5, 2) := by decide +kernel
theorem dX5_openScan_77 : decode cX5_openScan 77 = .ok (.iconst 1, 1) := by decide +kernel
theorem dX5_openScan_78 : decode cX5_openScan 78 = .ok (.bastore, 1) := by decide +kernel
theorem dX5_openScan_79 : decode cX5_openScan 79 = .ok (.aload_n 0, 1) := by decide +kernel
theorem dX5_openScan_80 : decode cX5_openScan 80 = .ok (.getfield 42, 3) := by decide +kernel
theorem dX5_openScan_83 : decode cX5_openScan 83 = .ok (.iload 5, 2) := by decide +kernel
theorem dX5_openScan_85 : decode cX5_openScan 85 = .ok (.iconst 0, 1) := by decide +kernel
theorem dX5_openScan_86 : decode cX5_openScan 86 = .ok (.bastore, 1) := by decide +kernel
theorem dX5_openScan_87 : decode cX5_openScan 87 = .ok (.aload_n 0, 1) := by decide +kernel
theorem dX5_openScan_88 : decode cX5_openScan 88 = .ok (.getfield 26, 3) := by decide +kernel
theorem dX5_openScan_91 : decode cX5_openScan 91 = .ok (.iload 5, 2) := by decide +kernel
theorem dX5_openScan_93 : decode cX5_openScan 93 = .ok (.iload_n 1, 1) := by decide +kernel
theorem dX5_openScan_94 : decode cX5_openScan 94 = .ok (.iastore, 1) := by decide +kernel
theorem dX5_openScan_95 : decode cX5_openScan 95 = .ok (.aload_n 0, 1) := by decide +kernel
theorem dX5_openScan_96 : decode cX5_openScan 96 = .ok (.getfield 29, 3) := by decide +kernel
theorem dX5_openScan_99 : decode cX5_openScan 99 = .ok (.iload 5, 2) := by decide +kernel
theorem dX5_openScan_101 : decode cX5_openScan 101 = .ok (.iload_n 2, 1) := by decide +kernel
theorem dX5_openScan_102 : decode cX5_openScan 102 = .ok (.iastore, 1) := by decide +kernel
theorem dX5_openScan_103 : decode cX5_openScan 103 = .ok (.aload_n 0, 1) := by decide +kernel
theorem dX5_openScan_104 : decode cX5_openScan 104 = .ok (.getfield 32, 3) := by decide +kernel
theorem dX5_openScan_107 : decode cX5_openScan 107 = .ok (.iload 5, 2) := by decide +kernel
theorem dX5_openScan_109 : decode cX5_openScan 109 = .ok (.iload_n 3, 1) := by decide +kernel
theorem dX5_openScan_110 : decode cX5_openScan 110 = .ok (.iastore, 1) := by decide +kernel
theorem dX5_openScan_111 : decode cX5_openScan 111 = .ok (.aload_n 0, 1) := by decide +kernel
theorem dX5_openScan_112 : decode cX5_openScan 112 = .ok (.getfield 35, 3) := by decide +kernel
theorem dX5_openScan_115 : decode cX5_openScan 115 = .ok (.iload 5, 2) := by decide +kernel
theorem dX5_openScan_117 : decode cX5_openScan 117 = .ok (.iload 4, 2) := by decide +kernel
theorem dX5_openScan_119 : decode cX5_openScan 119 = .ok (.iastore, 1) := by decide +kernel
theorem dX5_openScan_120 : decode cX5_openScan 120 = .ok (.aload_n 0, 1) := by decide +kernel
theorem dX5_openScan_121 : decode cX5_openScan 121 = .ok (.getfield 45, 3) := by decide +kernel
theorem dX5_openScan_124 : decode cX5_openScan 124 = .ok (.iload 5, 2) := by decide +kernel
theorem dX5_openScan_126 : decode cX5_openScan 126 = .ok (.iconst 0, 1) := by decide +kernel
theorem dX5_openScan_127 : decode cX5_openScan 127 = .ok (.iastore, 1) := by decide +kernel
theorem dX5_openScan_128 : decode cX5_openScan 128 = .ok (.iload 5, 2) := by decide +kernel
theorem dX5_openScan_130 : decode cX5_openScan 130 = .ok (.ireturn, 1) := by decide +kernel
theorem dX5_noScan_0 : decode cX5_noScan 0 = .ok (.aload_n 0, 1) := by decide +kernel
theorem dX5_noScan_1 : decode cX5_noScan 1 = .ok (.getfield 51, 3) := by decide +kernel
theorem dX5_noScan_4 : decode cX5_noScan 4 = .ok (.ifCond .ne 21, 3) := by decide +kernel
theorem dX5_noScan_7 : decode cX5_noScan 7 = .ok (.iload_n 1, 1) := by decide +kernel
theorem dX5_noScan_8 : decode cX5_noScan 8 = .ok (.ifCond .lt 17, 3) := by decide +kernel
theorem dX5_noScan_11 : decode cX5_noScan 11 = .ok (.iload_n 1, 1) := by decide +kernel
theorem dX5_noScan_12 : decode cX5_noScan 12 = .ok (.iconst 3, 1) := by decide +kernel
theorem dX5_noScan_13 : decode cX5_noScan 13 = .ok (.if_icmp .gt 12, 3) := by decide +kernel
theorem dX5_noScan_16 : decode cX5_noScan 16 = .ok (.aload_n 0, 1) := by decide +kernel
theorem dX5_noScan_17 : decode cX5_noScan 17 = .ok (.getfield 38, 3) := by decide +kernel
theorem dX5_noScan_20 : decode cX5_noScan 20 = .ok (.iload_n 1, 1) := by decide +kernel
theorem dX5_noScan_21 : decode cX5_noScan 21 = .ok (.baload, 1) := by decide +kernel
theorem dX5_noScan_22 : decode cX5_noScan 22 = .ok (.ifCond .ne 7, 3) := by decide +kernel
theorem dX5_noScan_25 : decode cX5_noScan 25 = .ok (.iconst 1, 1) := by decide +kernel
theorem dX5_noScan_26 : decode cX5_noScan 26 = .ok (.goto 4, 3) := by decide +kernel
theorem dX5_noScan_29 : decode cX5_noScan 29 = .ok (.iconst 0, 1) := by decide +kernel
theorem dX5_noScan_30 : decode cX5_noScan 30 = .ok (.ireturn, 1) := by decide +kernel
set_option maxRecDepth 20000 in
theorem ggX5_seekNext_X5_slots : GoodIn wsX5_seekNext wsX5_slots := goodIn_r _ [12, 2, 21, 22, 23, 24, 25, 26, 27, 28, 29, 30, 31, 32, 33, 34, 35, 36, 37, 38] (by decide +kernel) (by decide +kernel)
set_option maxRecDepth 20000 in
theorem gX5_seekNext_X5_slots : GoodIn wsX5_seekNext (wsV RX5 104 RX5 yX5_slots wsX5_slots) := goodIn_app (goodIn_of _ (by decide +kernel)) ggX5_seekNext_X5_slots
set_option maxRecDepth 20000 in
theorem ggX5_seekNext_X5_wordOf : GoodIn wsX5_seekNext wsX5_wordOf := goodIn_r _ [16, 2, 21, 22, 23, 24, 25, 26, 27, 28, 29, 30, 31, 32, 33, 34, 35, 36, 37, 38] (by decide +kernel) (by decide +kernel)
set_option maxRecDepth 20000 in
theorem gX5_seekNext_X5_wordOf : GoodIn wsX5_seekNext (wsV RX5 110 RX5 yX5_wordOf wsX5_wordOf) := goodIn_app (goodIn_of _ (by decide +kernel)) ggX5_seekNext_X5_wordOf
set_option maxRecDepth 20000 in
theorem ggX5_seekNext_X5_filled : GoodIn wsX5_seekNext wsX5_filled := goodIn_r _ [20, 2, 21, 22, 23, 24, 25, 26, 27, 28, 29, 30, 31, 32, 33, 34, 35, 36, 37, 38] (by decide +kernel) (by decide +kernel)
set_option maxRecDepth 20000 in
theorem gX5_seekNext_X5_filled : GoodIn wsX5_seekNext (wsV RX5 107 RX5 yX5_filled wsX5_filled) := goodIn_app (goodIn_of _ (by decide +kernel)) ggX5_seekNext_X5_filled
theorem dX5_seekNext_0 : decode cX5_seekNext 0 = .ok (.aload_n 0, 1) := by decide +kernel
theorem dX5_seekNext_1 : decode cX5_seekNext 1 = .ok (.getfield 26, 3) := by decide +kernel
theorem dX5_seekNext_4 : decode cX5_seekNext 4 = .ok (.iload_n 1, 1) := by decide +kernel
theorem dX5_seekNext_5 : decode cX5_seekNext 5 = .ok (.iaload, 1) := by decide +kernel
theorem dX5_seekNext_6 : decode cX5_seekNext 6 = .ok (.istore_n 2, 1) := by decide +kernel
theorem dX5_seekNext_7 : decode cX5_seekNext 7 = .ok (.iconst 0, 1) := by decide +kernel
theorem dX5_seekNext_8 : decode cX5_seekNext 8 = .ok (.istore_n 3, 1) := by decide +kernel
theorem dX5_seekNext_9 : decode cX5_seekNext 9 = .ok (.iconst 0, 1) := by decide +kernel
theorem dX5_seekNext_10 : decode cX5_seekNext 10 = .ok (.istore 4, 2) := by decide +kernel
theorem dX5_seekNext_12 : decode cX5_seekNext 12 = .ok (.iconst 1, 1) := by decide +kernel
theorem dX5_seekNext_13 : decode cX5_seekNext 13 = .ok (.istore 5, 2) := by decide +kernel
theorem dX5_seekNext_15 : decode cX5_seekNext 15 = .ok (.iload 5, 2) := by decide +kernel
theorem dX5_seekNext_17 : decode cX5_seekNext 17 = .ok (.bipush 16, 2) := by decide +kernel
theorem dX5_seekNext_19 : decode cX5_seekNext 19 = .ok (.if_icmp .ge 168, 3) := by decide +kernel
theorem dX5_seekNext_22 : decode cX5_seekNext 22 = .ok (.aload_n 0, 1) := by decide +kernel
theorem dX5_seekNext_23 : decode cX5_seekNext 23 = .ok (.getfield 13, 3) := by decide +kernel
theorem dX5_seekNext_26 : decode cX5_seekNext 26 = .ok (.bipush 16, 2) := by decide +kernel
theorem dX5_seekNext_28 : decode cX5_seekNext 28 = .ok (.iload 5, 2) := by decide +kernel
theorem dX5_seekNext_30 : decode cX5_seekNext 30 = .ok (.imul, 1) := by decide +kernel
theorem dX5_seekNext_31 : decode cX5_seekNext 31 = .ok (.iaload, 1) := by decide +kernel
theorem dX5_seekNext_32 : decode cX5_seekNext 32 = .ok (.iload_n 2, 1) := by decide +kernel
theorem dX5_seekNext_33 : decode cX5_seekNext 33 = .ok (.iconst 1, 1) := by decide +kernel
theorem dX5_seekNext_34 : decode cX5_seekNext 34 = .ok (.iadd, 1) := by decide +kernel
theorem dX5_seekNext_35 : decode cX5_seekNext 35 = .ok (.if_icmp .ne 146, 3) := by decide +kernel
theorem dX5_seekNext_38 : decode cX5_seekNext 38 = .ok (.iconst 0, 1) := by decide +kernel
theorem dX5_seekNext_39 : decode cX5_seekNext 39 = .ok (.istore 6, 2) := by decide +kernel
theorem dX5_seekNext_41 : decode cX5_seekNext 41 = .ok (.iload 6, 2) := by decide +kernel
theorem dX5_seekNext_43 : decode cX5_seekNext 43 = .ok (.aload_n 0, 1) := by decide +kernel
theorem dX5_seekNext_44 : decode cX5_seekNext 44 = .ok (.iload_n 2, 1) := by decide +kernel
theorem dX5_seekNext_45 : decode cX5_seekNext 45 = .ok (.invokevirtual 104, 3) := by decide +kernel
theorem dX5_seekNext_48 : decode cX5_seekNext 48 = .ok (.if_icmp .ge 133, 3) := by decide +kernel
theorem dX5_seekNext_51 : decode cX5_seekNext 51 = .ok (.aload_n 0, 1) := by decide +kernel
theorem dX5_seekNext_52 : decode cX5_seekNext 52 = .ok (.iload_n 2, 1) := by decide +kernel
theorem dX5_seekNext_53 : decode cX5_seekNext 53 = .ok (.iload 5, 2) := by decide +kernel
theorem dX5_seekNext_55 : decode cX5_seekNext 55 = .ok (.iload 6, 2) := by decide +kernel
theorem dX5_seekNext_57 : decode cX5_seekNext 57 = .ok (.invokevirtual 110, 3) := by decide +kernel
theorem dX5_seekNext_60 : decode cX5_seekNext 60 = .ok (.istore 7, 2) := by decide +kernel
theorem dX5_seekNext_62 : decode cX5_seekNext 62 = .ok (.aload_n 0, 1) := by decide +kernel
theorem dX5_seekNext_63 : decode cX5_seekNext 63 = .ok (.getfield 13, 3) := by decide +kernel
theorem dX5_seekNext_66 : decode cX5_seekNext 66 = .ok (.iload 7, 2) := by decide +kernel
theorem dX5_seekNext_68 : decode cX5_seekNext 68 = .ok (.aload_n 0, 1) := by decide +kernel
theorem dX5_seekNext_69 : decode cX5_seekNext 69 = .ok (.getfield 29, 3) := by decide +kernel
theorem dX5_seekNext_72 : decode cX5_seekNext 72 = .ok (.iload_n 1, 1) := by decide +kernel
theorem dX5_seekNext_73 : decode cX5_seekNext 73 = .ok (.iaload, 1) := by decide +kernel
theorem dX5_seekNext_74 : decode cX5_seekNext 74 = .ok (.iadd, 1) := by decide +kernel
theorem dX5_seekNext_75 : decode cX5_seekNext 75 = .ok (.iaload, 1) := by decide +kernel
theorem dX5_seekNext_76 : decode cX5_seekNext 76 = .ok (.istore 8, 2) := by decide +kernel
theorem dX5_seekNext_78 : decode cX5_seekNext 78 = .ok (.aload_n 0, 1) := by decide +kernel
theorem dX5_seekNext_79 : decode cX5_seekNext 79 = .ok (.iload 5, 2) := by decide +kernel
theorem dX5_seekNext_81 : decode cX5_seekNext 81 = .ok (.iload 6, 2) := by decide +kernel
theorem dX5_seekNext_83 : decode cX5_seekNext 83 = .ok (.invokevirtual 107, 3) := by decide +kernel
theorem dX5_seekNext_86 : decode cX5_seekNext 86 = .ok (.ifCond .eq 54, 3) := by decide +kernel
theorem dX5_seekNext_89 : decode cX5_seekNext 89 = .ok (.iload 8, 2) := by decide +kernel
theorem dX5_seekNext_91 : decode cX5_seekNext 91 = .ok (.aload_n 0, 1) := by decide +kernel
theorem dX5_seekNext_92 : decode cX5_seekNext 92 = .ok (.getfield 32, 3) := by decide +kernel
theorem dX5_seekNext_95 : decode cX5_seekNext 95 = .ok (.iload_n 1, 1) := by decide +kernel
theorem dX5_seekNext_96 : decode cX5_seekNext 96 = .ok (.iaload, 1) := by decide +kernel
theorem dX5_seekNext_97 : decode cX5_seekNext 97 = .ok (.if_icmp .lt 43, 3) := by decide +kernel
theorem dX5_seekNext_100 : decode cX5_seekNext 100 = .ok (.iload 8, 2) := by decide +kernel
theorem dX5_seekNext_102 : decode cX5_seekNext 102 = .ok (.aload_n 0, 1) := by decide +kernel
theorem dX5_seekNext_103 : decode cX5_seekNext 103 = .ok (.getfield 35, 3) := by decide +kernel
theorem dX5_seekNext_106 : decode cX5_seekNext 106 = .ok (.iload_n 1, 1) := by decide +kernel
theorem dX5_seekNext_107 : decode cX5_seekNext 107 = .ok (.iaload, 1) := by decide +kernel
theorem dX5_seekNext_108 : decode cX5_seekNext 108 = .ok (.if_icmp .gt 32, 3) := by decide +kernel
theorem dX5_seekNext_111 : decode cX5_seekNext 111 = .ok (.aload_n 0, 1) := by decide +kernel
theorem dX5_seekNext_112 : decode cX5_seekNext 112 = .ok (.getfield 45, 3) := by decide +kernel
theorem dX5_seekNext_115 : decode cX5_seekNext 115 = .ok (.iload_n 1, 1) := by decide +kernel
theorem dX5_seekNext_116 : decode cX5_seekNext 116 = .ok (.iaload, 1) := by decide +kernel
theorem dX5_seekNext_117 : decode cX5_seekNext 117 = .ok (.ifCond .eq 19, 3) := by decide +kernel
theorem dX5_seekNext_120 : decode cX5_seekNext 120 = .ok (.aload_n 0, 1) := by decide +kernel
theorem dX5_seekNext_121 : decode cX5_seekNext 121 = .ok (.getfield 13, 3) := by decide +kernel
theorem dX5_seekNext_124 : decode cX5_seekNext 124 = .ok (.iload 7, 2) := by decide +kernel
theorem dX5_seekNext_126 : decode cX5_seekNext 126 = .ok (.iaload, 1) := by decide +kernel
theorem dX5_seekNext_127 : decode cX5_seekNext 127 = .ok (.aload_n 0, 1) := by decide +kernel
theorem dX5_seekNext_128 : decode cX5_seekNext 128 = .ok (.getfield 48, 3) := by decide +kernel
theorem dX5_seekNext_131 : decode cX5_seekNext 131 = .ok (.iload_n 1, 1) := by decide +kernel
theorem dX5_seekNext_132 : decode cX5_seekNext 132 = .ok (.iaload, 1) := by decide +kernel
theorem dX5_seekNext_133 : decode cX5_seekNext 133 = .ok (.if_icmp .le 7, 3) := by decide +kernel
theorem dX5_seekNext_136 : decode cX5_seekNext 136 = .ok (.iconst 1, 1) := by decide +kernel
theorem dX5_seekNext_137 : decode cX5_seekNext 137 = .ok (.goto 4, 3) := by decide +kernel
theorem dX5_seekNext_140 : decode cX5_seekNext 140 = .ok (.iconst 0, 1) := by decide +kernel
theorem dX5_seekNext_141 : decode cX5_seekNext 141 = .ok (.istore 9, 2) := by decide +kernel
theorem dX5_seekNext_143 : decode cX5_seekNext 143 = .ok (.iload 9, 2) := by decide +kernel
theorem dX5_seekNext_145 : decode cX5_seekNext 145 = .ok (.ifCond .eq 30, 3) := by decide +kernel
theorem dX5_seekNext_148 : decode cX5_seekNext 148 = .ok (.iload_n 3, 1) := by decide +kernel
theorem dX5_seekNext_149 : decode cX5_seekNext 149 = .ok (.ifCond .eq 15, 3) := by decide +kernel
theorem dX5_seekNext_152 : decode cX5_seekNext 152 = .ok (.aload_n 0, 1) := by decide +kernel
theorem dX5_seekNext_153 : decode cX5_seekNext 153 = .ok (.getfield 13, 3) := by decide +kernel
theorem dX5_seekNext_156 : decode cX5_seekNext 156 = .ok (.iload 7, 2) := by decide +kernel
theorem dX5_seekNext_158 : decode cX5_seekNext 158 = .ok (.iaload, 1) := by decide +kernel
theorem dX5_seekNext_159 : decode cX5_seekNext 159 = .ok (.iload 4, 2) := by decide +kernel
theorem dX5_seekNext_161 : decode cX5_seekNext 161 = .ok (.if_icmp .ge 14, 3) := by decide +kernel
theorem dX5_seekNext_164 : decode cX5_seekNext 164 = .ok (.iconst 1, 1) := by decide +kernel
theorem dX5_seekNext_165 : decode cX5_seekNext 165 = .ok (.istore_n 3, 1) := by decide +kernel
theorem dX5_seekNext_166 : decode cX5_seekNext 166 = .ok (.aload_n 0, 1) := by decide +kernel
theorem dX5_seekNext_167 : decode cX5_seekNext 167 = .ok (.getfield 13, 3) := by decide +kernel
theorem dX5_seekNext_170 : decode cX5_seekNext 170 = .ok (.iload 7, 2) := by decide +kernel
theorem dX5_seekNext_172 : decode cX5_seekNext 172 = .ok (.iaload, 1) := by decide +kernel
theorem dX5_seekNext_173 : decode cX5_seekNext 173 = .ok (.istore 4, 2) := by decide +kernel
theorem dX5_seekNext_175 : decode cX5_seekNext 175 = .ok (.iinc 6 1, 3) := by decide +kernel
theorem dX5_seekNext_178 : decode cX5_seekNext 178 = .ok (.goto (-137), 3) := by decide +kernel
theorem dX5_seekNext_181 : decode cX5_seekNext 181 = .ok (.iinc 5 1, 3) := by decide +kernel
theorem dX5_seekNext_184 : decode cX5_seekNext 184 = .ok (.goto (-169), 3) := by decide +kernel
theorem dX5_seekNext_187 : decode cX5_seekNext 187 = .ok (.aload_n 0, 1) := by decide +kernel
theorem dX5_seekNext_188 : decode cX5_seekNext 188 = .ok (.getfield 48, 3) := by decide +kernel
theorem dX5_seekNext_191 : decode cX5_seekNext 191 = .ok (.iload_n 1, 1) := by decide +kernel
theorem dX5_seekNext_192 : decode cX5_seekNext 192 = .ok (.iload_n 3, 1) := by decide +kernel
theorem dX5_seekNext_193 : decode cX5_seekNext 193 = .ok (.ifCond .eq 8, 3) := by decide +kernel
theorem dX5_seekNext_196 : decode cX5_seekNext 196 = .ok (.iload 4, 2) := by decide +kernel
theorem dX5_seekNext_198 : decode cX5_seekNext 198 = .ok (.goto 9, 3) := by decide +kernel
theorem dX5_seekNext_201 : decode cX5_seekNext 201 = .ok (.aload_n 0, 1) := by decide +kernel
theorem dX5_seekNext_202 : decode cX5_seekNext 202 = .ok (.getfield 48, 3) := by decide +kernel
theorem dX5_seekNext_205 : decode cX5_seekNext 205 = .ok (.iload_n 1, 1) := by decide +kernel
theorem dX5_seekNext_206 : decode cX5_seekNext 206 = .ok (.iaload, 1) := by decide +kernel
theorem dX5_seekNext_207 : decode cX5_seekNext 207 = .ok (.iastore, 1) := by decide +kernel
theorem dX5_seekNext_208 : decode cX5_seekNext 208 = .ok (.iload_n 3, 1) := by decide +kernel
theorem dX5_seekNext_209 : decode cX5_seekNext 209 = .ok (.ireturn, 1) := by decide +kernel
set_option maxRecDepth 20000 in
theorem ggX5_next_X5_noScan : GoodIn wsX5_next wsX5_noScan := goodIn_r _ [7, 8, 9, 32, 33, 34, 35, 36, 37, 38, 39, 40, 41, 42, 43, 44, 45, 46, 47, 48, 49] (by decide +kernel) (by decide +kernel)
set_option maxRecDepth 20000 in
theorem gX5_next_X5_noScan : GoodIn wsX5_next (wsV RX5 134 RX5 yX5_noScan wsX5_noScan) := goodIn_app (goodIn_of _ (by decide +kernel)) ggX5_next_X5_noScan
set_option maxRecDepth 20000 in
theorem ggX5_next_X5_seekNext : GoodIn wsX5_next wsX5_seekNext := goodIn_r _ [13, 14, 15, 16, 17, 18, 2, 19, 20, 21, 22, 6, 23, 24, 25, 26, 27, 28, 29, 30, 31, 32, 33, 34, 35, 36, 37, 38, 39, 40, 41, 42, 43, 44, 45, 46, 47, 48, 49] (by decide +kernel) (by decide +kernel)
set_option maxRecDepth 20000 in
theorem gX5_next_X5_seekNext : GoodIn wsX5_next (wsV RX5 137 RX5 yX5_seekNext wsX5_seekNext) := goodIn_app (goodIn_of _ (by decide +kernel)) ggX5_next_X5_seekNext
theorem dX5_next_0 : decode cX5_next 0 = .ok (.aload_n 0, 1) := by decide +kernel
theorem dX5_next_1 : decode cX5_next 1 = .ok (.iload_n 1, 1) := by decide +kernel
theorem dX5_next_2 : decode cX5_next 2 = .ok (.invokevirtual 134, 3) := by decide +kernel
theorem dX5_next_5 : decode cX5_next 5 = .ok (.ifCond .ne 22, 3) := by decide +kernel
theorem dX5_next_8 : decode cX5_next 8 = .ok (.aload_n 0, 1) := by decide +kernel
theorem dX5_next_9 : decode cX5_next 9 = .ok (.getfield 42, 3) := by decide +kernel
theorem dX5_next_12 : decode cX5_next 12 = .ok (.iload_n 1, 1) := by decide +kernel
theorem dX5_next_13 : decode cX5_next 13 = .ok (.baload, 1) := by decide +kernel
theorem dX5_next_14 : decode cX5_next 14 = .ok (.ifCond .ne 13, 3) := by decide +kernel
theorem dX5_next_17 : decode cX5_next 17 = .ok (.aload_n 0, 1) := by decide +kernel
theorem dX5_next_18 : decode cX5_next 18 = .ok (.getfield 45, 3) := by decide +kernel
theorem dX5_next_21 : decode cX5_next 21 = .ok (.iload_n 1, 1) := by decide +kernel
theorem dX5_next_22 : decode cX5_next 22 = .ok (.iaload, 1) := by decide +kernel
theorem dX5_next_23 : decode cX5_next 23 = .ok (.iconst 2, 1) := by decide +kernel
theorem dX5_next_24 : decode cX5_next 24 = .ok (.if_icmp .ne 5, 3) := by decide +kernel
theorem dX5_next_27 : decode cX5_next 27 = .ok (.iconst 0, 1) := by decide +kernel
theorem dX5_next_28 : decode cX5_next 28 = .ok (.ireturn, 1) := by decide +kernel
theorem dX5_next_29 : decode cX5_next 29 = .ok (.aload_n 0, 1) := by decide +kernel
theorem dX5_next_30 : decode cX5_next 30 = .ok (.iload_n 1, 1) := by decide +kernel
theorem dX5_next_31 : decode cX5_next 31 = .ok (.invokevirtual 137, 3) := by decide +kernel
theorem dX5_next_34 : decode cX5_next 34 = .ok (.istore_n 2, 1) := by decide +kernel
theorem dX5_next_35 : decode cX5_next 35 = .ok (.aload_n 0, 1) := by decide +kernel
theorem dX5_next_36 : decode cX5_next 36 = .ok (.getfield 45, 3) := by decide +kernel
theorem dX5_next_39 : decode cX5_next 39 = .ok (.iload_n 1, 1) := by decide +kernel
theorem dX5_next_40 : decode cX5_next 40 = .ok (.iload_n 2, 1) := by decide +kernel
theorem dX5_next_41 : decode cX5_next 41 = .ok (.ifCond .eq 7, 3) := by decide +kernel
theorem dX5_next_44 : decode cX5_next 44 = .ok (.iconst 1, 1) := by decide +kernel
theorem dX5_next_45 : decode cX5_next 45 = .ok (.goto 4, 3) := by decide +kernel
theorem dX5_next_48 : decode cX5_next 48 = .ok (.iconst 2, 1) := by decide +kernel
theorem dX5_next_49 : decode cX5_next 49 = .ok (.iastore, 1) := by decide +kernel
theorem dX5_next_50 : decode cX5_next 50 = .ok (.iload_n 2, 1) := by decide +kernel
theorem dX5_next_51 : decode cX5_next 51 = .ok (.ireturn, 1) := by decide +kernel
set_option maxRecDepth 20000 in
theorem ggX5_col_X5_noScan : GoodIn wsX5_col wsX5_noScan := goodIn_r _ [10, 11, 12, 31, 32, 33, 34, 35, 36, 37, 38, 39, 40, 41, 42, 43, 44, 45, 46, 47, 48] (by decide +kernel) (by decide +kernel)
set_option maxRecDepth 20000 in
theorem gX5_col_X5_noScan : GoodIn wsX5_col (wsV RX5 134 RX5 yX5_noScan wsX5_noScan) := goodIn_app (goodIn_of _ (by decide +kernel)) ggX5_col_X5_noScan
set_option maxRecDepth 20000 in
theorem ggX5_col_X5_seek : GoodIn wsX5_col wsX5_seek := goodIn_r _ [16, 3, 17, 18, 19, 20, 21, 9, 22, 23, 24, 25, 26, 27, 28, 29, 30, 31, 32, 33, 34, 35, 36, 37, 38, 39, 40, 41, 42, 43, 44, 45, 46, 47, 48] (by decide +kernel) (by decide +kernel)
set_option maxRecDepth 20000 in
theorem gX5_col_X5_seek : GoodIn wsX5_col (wsV RX5 120 RX5 yX5_seek wsX5_seek) := goodIn_app (goodIn_of _ (by decide +kernel)) ggX5_col_X5_seek
theorem dX5_col_0 : decode cX5_col 0 = .ok (.aload_n 0, 1) := by decide +kernel
theorem dX5_col_1 : decode cX5_col 1 = .ok (.iload_n 1, 1) := by decide +kernel
theorem dX5_col_2 : decode cX5_col 2 = .ok (.invokevirtual 134, 3) := by decide +kernel
theorem dX5_col_5 : decode cX5_col 5 = .ok (.ifCond .ne 41, 3) := by decide +kernel
theorem dX5_col_8 : decode cX5_col 8 = .ok (.aload_n 0, 1) := by decide +kernel
