theorem dX5_putHead_30 : decode cX5_putHead 30 = .ok (.sipush 6517, 3) := by decide +kernel
theorem dX5_putHead_33 : decode cX5_putHead 33 = .ok (.iastore, 1) := by decide +kernel
theorem dX5_putHead_34 : decode cX5_putHead 34 = .ok (.aload_n 0, 1) := by decide +kernel
theorem dX5_putHead_35 : decode cX5_putHead 35 = .ok (.getfield 16, 3) := by decide +kernel
theorem dX5_putHead_38 : decode cX5_putHead 38 = .ok (.iconst 1, 1) := by decide +kernel
theorem dX5_putHead_39 : decode cX5_putHead 39 = .ok (.iload_n 1, 1) := by decide +kernel
theorem dX5_putHead_40 : decode cX5_putHead 40 = .ok (.iastore, 1) := by decide +kernel
theorem dX5_putHead_41 : decode cX5_putHead 41 = .ok (.aload_n 0, 1) := by decide +kernel
theorem dX5_putHead_42 : decode cX5_putHead 42 = .ok (.getfield 16, 3) := by decide +kernel
theorem dX5_putHead_45 : decode cX5_putHead 45 = .ok (.iconst 2, 1) := by decide +kernel
theorem dX5_putHead_46 : decode cX5_putHead 46 = .ok (.iload_n 2, 1) := by decide +kernel
theorem dX5_putHead_47 : decode cX5_putHead 47 = .ok (.iastore, 1) := by decide +kernel
theorem dX5_putHead_48 : decode cX5_putHead 48 = .ok (.aload_n 0, 1) := by decide +kernel
theorem dX5_putHead_49 : decode cX5_putHead 49 = .ok (.getfield 16, 3) := by decide +kernel
theorem dX5_putHead_52 : decode cX5_putHead 52 = .ok (.iconst 3, 1) := by decide +kernel
theorem dX5_putHead_53 : decode cX5_putHead 53 = .ok (.aload_n 0, 1) := by decide +kernel
theorem dX5_putHead_54 : decode cX5_putHead 54 = .ok (.iload_n 1, 1) := by decide +kernel
theorem dX5_putHead_55 : decode cX5_putHead 55 = .ok (.invokevirtual 62, 3) := by decide +kernel
theorem dX5_putHead_58 : decode cX5_putHead 58 = .ok (.iastore, 1) := by decide +kernel
theorem dX5_putHead_59 : decode cX5_putHead 59 = .ok (.aload_n 0, 1) := by decide +kernel
theorem dX5_putHead_60 : decode cX5_putHead 60 = .ok (.bipush 16, 2) := by decide +kernel
theorem dX5_putHead_62 : decode cX5_putHead 62 = .ok (.invokevirtual 58, 3) := by decide +kernel
theorem dX5_putHead_65 : decode cX5_putHead 65 = .ok (.ireturn, 1) := by decide +kernel
theorem dX5_check_0 : decode cX5_check 0 = .ok (.iconst 1, 1) := by decide +kernel
theorem dX5_check_1 : decode cX5_check 1 = .ok (.istore_n 2, 1) := by decide +kernel
theorem dX5_check_2 : decode cX5_check 2 = .ok (.sipush 272, 3) := by decide +kernel
theorem dX5_check_5 : decode cX5_check 5 = .ok (.istore_n 3, 1) := by decide +kernel
theorem dX5_check_6 : decode cX5_check 6 = .ok (.iload_n 3, 1) := by decide +kernel
theorem dX5_check_7 : decode cX5_check 7 = .ok (.sipush 272, 3) := by decide +kernel
theorem dX5_check_10 : decode cX5_check 10 = .ok (.bipush 16, 2) := by decide +kernel
theorem dX5_check_12 : decode cX5_check 12 = .ok (.iload_n 1, 1) := by decide +kernel
theorem dX5_check_13 : decode cX5_check 13 = .ok (.imul, 1) := by decide +kernel
theorem dX5_check_14 : decode cX5_check 14 = .ok (.iadd, 1) := by decide +kernel
theorem dX5_check_15 : decode cX5_check 15 = .ok (.if_icmp .ge 21, 3) := by decide +kernel
theorem dX5_check_18 : decode cX5_check 18 = .ok (.bipush 31, 2) := by decide +kernel
theorem dX5_check_20 : decode cX5_check 20 = .ok (.iload_n 2, 1) := by decide +kernel
theorem dX5_check_21 : decode cX5_check 21 = .ok (.imul, 1) := by decide +kernel
theorem dX5_check_22 : decode cX5_check 22 = .ok (.aload_n 0, 1) := by decide +kernel
theorem dX5_check_23 : decode cX5_check 23 = .ok (.getfield 7, 3) := by decide +kernel
theorem dX5_check_26 : decode cX5_check 26 = .ok (.iload_n 3, 1) := by decide +kernel
theorem dX5_check_27 : decode cX5_check 27 = .ok (.iaload, 1) := by decide +kernel
theorem dX5_check_28 : decode cX5_check 28 = .ok (.iadd, 1) := by decide +kernel
theorem dX5_check_29 : decode cX5_check 29 = .ok (.istore_n 2, 1) := by decide +kernel
theorem dX5_check_30 : decode cX5_check 30 = .ok (.iinc 3 1, 3) := by decide +kernel
theorem dX5_check_33 : decode cX5_check 33 = .ok (.goto (-27), 3) := by decide +kernel
theorem dX5_check_36 : decode cX5_check 36 = .ok (.iload_n 2, 1) := by decide +kernel
theorem dX5_check_37 : decode cX5_check 37 = .ok (.ireturn, 1) := by decide +kernel
theorem dX5_bits_0 : decode cX5_bits 0 = .ok (.iconst 0, 1) := by decide +kernel
theorem dX5_bits_1 : decode cX5_bits 1 = .ok (.istore_n 1, 1) := by decide +kernel
theorem dX5_bits_2 : decode cX5_bits 2 = .ok (.iconst 0, 1) := by decide +kernel
theorem dX5_bits_3 : decode cX5_bits 3 = .ok (.istore_n 2, 1) := by decide +kernel
theorem dX5_bits_4 : decode cX5_bits 4 = .ok (.iload_n 2, 1) := by decide +kernel
theorem dX5_bits_5 : decode cX5_bits 5 = .ok (.bipush 32, 2) := by decide +kernel
theorem dX5_bits_7 : decode cX5_bits 7 = .ok (.if_icmp .ge 17, 3) := by decide +kernel
theorem dX5_bits_10 : decode cX5_bits 10 = .ok (.iload_n 1, 1) := by decide +kernel
theorem dX5_bits_11 : decode cX5_bits 11 = .ok (.iload_n 0, 1) := by decide +kernel
theorem dX5_bits_12 : decode cX5_bits 12 = .ok (.iload_n 2, 1) := by decide +kernel
theorem dX5_bits_13 : decode cX5_bits 13 = .ok (.ishr, 1) := by decide +kernel
theorem dX5_bits_14 : decode cX5_bits 14 = .ok (.iconst 1, 1) := by decide +kernel
theorem dX5_bits_15 : decode cX5_bits 15 = .ok (.iand, 1) := by decide +kernel
theorem dX5_bits_16 : decode cX5_bits 16 = .ok (.iadd, 1) := by decide +kernel
theorem dX5_bits_17 : decode cX5_bits 17 = .ok (.istore_n 1, 1) := by decide +kernel
theorem dX5_bits_18 : decode cX5_bits 18 = .ok (.iinc 2 1, 3) := by decide +kernel
theorem dX5_bits_21 : decode cX5_bits 21 = .ok (.goto (-17), 3) := by decide +kernel
theorem dX5_bits_24 : decode cX5_bits 24 = .ok (.iload_n 1, 1) := by decide +kernel
theorem dX5_bits_25 : decode cX5_bits 25 = .ok (.ireturn, 1) := by decide +kernel
theorem dX5_changed_0 : decode cX5_changed 0 = .ok (.iconst 0, 1) := by decide +kernel
theorem dX5_changed_1 : decode cX5_changed 1 = .ok (.istore_n 1, 1) := by decide +kernel
theorem dX5_changed_2 : decode cX5_changed 2 = .ok (.iconst 0, 1) := by decide +kernel
theorem dX5_changed_3 : decode cX5_changed 3 = .ok (.istore_n 2, 1) := by decide +kernel
theorem dX5_changed_4 : decode cX5_changed 4 = .ok (.iload_n 2, 1) := by decide +kernel
theorem dX5_changed_5 : decode cX5_changed 5 = .ok (.sipush 256, 3) := by decide +kernel
theorem dX5_changed_8 : decode cX5_changed 8 = .ok (.if_icmp .ge 37, 3) := by decide +kernel
theorem dX5_changed_11 : decode cX5_changed 11 = .ok (.aload_n 0, 1) := by decide +kernel
theorem dX5_changed_12 : decode cX5_changed 12 = .ok (.getfield 7, 3) := by decide +kernel
theorem dX5_changed_15 : decode cX5_changed 15 = .ok (.iload_n 2, 1) := by decide +kernel
theorem dX5_changed_16 : decode cX5_changed 16 = .ok (.iaload, 1) := by decide +kernel
theorem dX5_changed_17 : decode cX5_changed 17 = .ok (.aload_n 0, 1) := by decide +kernel
theorem dX5_changed_18 : decode cX5_changed 18 = .ok (.getfield 13, 3) := by decide +kernel
theorem dX5_changed_21 : decode cX5_changed 21 = .ok (.iload_n 2, 1) := by decide +kernel
theorem dX5_changed_22 : decode cX5_changed 22 = .ok (.iaload, 1) := by decide +kernel
theorem dX5_changed_23 : decode cX5_changed 23 = .ok (.if_icmp .eq 14, 3) := by decide +kernel
theorem dX5_changed_26 : decode cX5_changed 26 = .ok (.iload_n 1, 1) := by decide +kernel
theorem dX5_changed_27 : decode cX5_changed 27 = .ok (.iconst 1, 1) := by decide +kernel
theorem dX5_changed_28 : decode cX5_changed 28 = .ok (.iload_n 2, 1) := by decide +kernel
theorem dX5_changed_29 : decode cX5_changed 29 = .ok (.bipush 16, 2) := by decide +kernel
theorem dX5_changed_31 : decode cX5_changed 31 = .ok (.idiv, 1) := by decide +kernel
theorem dX5_changed_32 : decode cX5_changed 32 = .ok (.ishl, 1) := by decide +kernel
theorem dX5_changed_33 : decode cX5_changed 33 = .ok (.ior, 1) := by decide +kernel
theorem dX5_changed_34 : decode cX5_changed 34 = .ok (.goto 4, 3) := by decide +kernel
theorem dX5_changed_37 : decode cX5_changed 37 = .ok (.iload_n 1, 1) := by decide +kernel
theorem dX5_changed_38 : decode cX5_changed 38 = .ok (.istore_n 1, 1) := by decide +kernel
theorem dX5_changed_39 : decode cX5_changed 39 = .ok (.iinc 2 1, 3) := by decide +kernel
theorem dX5_changed_42 : decode cX5_changed 42 = .ok (.goto (-38), 3) := by decide +kernel
theorem dX5_changed_45 : decode cX5_changed 45 = .ok (.iload_n 1, 1) := by decide +kernel
theorem dX5_changed_46 : decode cX5_changed 46 = .ok (.ireturn, 1) := by decide +kernel
set_option maxRecDepth 20000 in
theorem ggX5_commit_X5_changed : GoodIn wsX5_commit wsX5_changed := goodIn_r _ [7, 8, 9, 33, 34, 35, 36, 37, 38, 39, 40, 41, 42, 43, 44, 45, 46, 47, 48, 49, 50] (by decide +kernel) (by decide +kernel)
set_option maxRecDepth 20000 in
theorem gX5_commit_X5_changed : GoodIn wsX5_commit (wsV RX5 69 RX5 yX5_changed wsX5_changed) := goodIn_app (goodIn_of _ (by decide +kernel)) ggX5_commit_X5_changed
set_option maxRecDepth 20000 in
theorem ggX5_commit_X5_putFromDisk : GoodIn wsX5_commit wsX5_putFromDisk := goodIn_r _ [13, 14, 8, 15, 16, 17, 6, 18, 19, 1, 20, 33, 34, 35, 36, 37, 38, 39, 40, 41, 42, 43, 44, 45, 46, 47, 48, 49, 50] (by decide +kernel) (by decide +kernel)
set_option maxRecDepth 20000 in
theorem gX5_commit_X5_putFromDisk : GoodIn wsX5_commit (wsV RX5 73 RX5 yX5_putFromDisk wsX5_putFromDisk) := goodIn_app (goodIn_of _ (by decide +kernel)) ggX5_commit_X5_putFromDisk
set_option maxRecDepth 20000 in
theorem ggX5_commit_X5_putHead : GoodIn wsX5_commit wsX5_putHead := goodIn_r _ [24, 14, 25, 26, 27, 6, 28, 8, 15, 16, 17, 18, 19, 1, 20, 33, 34, 35, 36, 37, 38, 39, 40, 41, 42, 43, 44, 45, 46, 47, 48, 49, 50] (by decide +kernel) (by decide +kernel)
set_option maxRecDepth 20000 in
theorem gX5_commit_X5_putHead : GoodIn wsX5_commit (wsV RX5 77 RX5 yX5_putHead wsX5_putHead) := goodIn_app (goodIn_of _ (by decide +kernel)) ggX5_commit_X5_putHead
set_option maxRecDepth 20000 in
theorem ggX5_commit_X5_putFromMemory : GoodIn wsX5_commit wsX5_putFromMemory := goodIn_r _ [32, 14, 9, 15, 16, 17, 6, 18, 19, 1, 8, 20, 33, 34, 35, 36, 37, 38, 39, 40, 41, 42, 43, 44, 45, 46, 47, 48, 49, 50] (by decide +kernel) (by decide +kernel)
set_option maxRecDepth 20000 in
theorem gX5_commit_X5_putFromMemory : GoodIn wsX5_commit (wsV RX5 80 RX5 yX5_putFromMemory wsX5_putFromMemory) := goodIn_app (goodIn_of _ (by decide +kernel)) ggX5_commit_X5_putFromMemory
theorem dX5_commit_0 : decode cX5_commit 0 = .ok (.aload_n 0, 1) := by decide +kernel
theorem dX5_commit_1 : decode cX5_commit 1 = .ok (.getfield 51, 3) := by decide +kernel
theorem dX5_commit_4 : decode cX5_commit 4 = .ok (.ifCond .eq 5, 3) := by decide +kernel
theorem dX5_commit_7 : decode cX5_commit 7 = .ok (.iconst (-1), 1) := by decide +kernel
theorem dX5_commit_8 : decode cX5_commit 8 = .ok (.ireturn, 1) := by decide +kernel
theorem dX5_commit_9 : decode cX5_commit 9 = .ok (.aload_n 0, 1) := by decide +kernel
theorem dX5_commit_10 : decode cX5_commit 10 = .ok (.getfield 66, 3) := by decide +kernel
theorem dX5_commit_13 : decode cX5_commit 13 = .ok (.ifCond .ne 6, 3) := by decide +kernel
theorem dX5_commit_16 : decode cX5_commit 16 = .ok (.bipush (-2), 2) := by decide +kernel
theorem dX5_commit_18 : decode cX5_commit 18 = .ok (.ireturn, 1) := by decide +kernel
theorem dX5_commit_19 : decode cX5_commit 19 = .ok (.aload_n 0, 1) := by decide +kernel
theorem dX5_commit_20 : decode cX5_commit 20 = .ok (.invokevirtual 69, 3) := by decide +kernel
theorem dX5_commit_23 : decode cX5_commit 23 = .ok (.istore_n 1, 1) := by decide +kernel
theorem dX5_commit_24 : decode cX5_commit 24 = .ok (.iconst 0, 1) := by decide +kernel
theorem dX5_commit_25 : decode cX5_commit 25 = .ok (.istore_n 2, 1) := by decide +kernel
theorem dX5_commit_26 : decode cX5_commit 26 = .ok (.iconst 1, 1) := by decide +kernel
theorem dX5_commit_27 : decode cX5_commit 27 = .ok (.istore_n 3, 1) := by decide +kernel
theorem dX5_commit_28 : decode cX5_commit 28 = .ok (.iconst 0, 1) := by decide +kernel
theorem dX5_commit_29 : decode cX5_commit 29 = .ok (.istore 4, 2) := by decide +kernel
theorem dX5_commit_31 : decode cX5_commit 31 = .ok (.iload 4, 2) := by decide +kernel
theorem dX5_commit_33 : decode cX5_commit 33 = .ok (.bipush 16, 2) := by decide +kernel
theorem dX5_commit_35 : decode cX5_commit 35 = .ok (.if_icmp .ge 45, 3) := by decide +kernel
theorem dX5_commit_38 : decode cX5_commit 38 = .ok (.iload_n 1, 1) := by decide +kernel
theorem dX5_commit_39 : decode cX5_commit 39 = .ok (.iload 4, 2) := by decide +kernel
theorem dX5_commit_41 : decode cX5_commit 41 = .ok (.ishr, 1) := by decide +kernel
theorem dX5_commit_42 : decode cX5_commit 42 = .ok (.iconst 1, 1) := by decide +kernel
theorem dX5_commit_43 : decode cX5_commit 43 = .ok (.iand, 1) := by decide +kernel
theorem dX5_commit_44 : decode cX5_commit 44 = .ok (.iconst 1, 1) := by decide +kernel
theorem dX5_commit_45 : decode cX5_commit 45 = .ok (.if_icmp .ne 29, 3) := by decide +kernel
theorem dX5_commit_48 : decode cX5_commit 48 = .ok (.iload_n 3, 1) := by decide +kernel
theorem dX5_commit_49 : decode cX5_commit 49 = .ok (.ifCond .eq 20, 3) := by decide +kernel
theorem dX5_commit_52 : decode cX5_commit 52 = .ok (.aload_n 0, 1) := by decide +kernel
theorem dX5_commit_53 : decode cX5_commit 53 = .ok (.bipush 17, 2) := by decide +kernel
theorem dX5_commit_55 : decode cX5_commit 55 = .ok (.iload_n 2, 1) := by decide +kernel
theorem dX5_commit_56 : decode cX5_commit 56 = .ok (.iadd, 1) := by decide +kernel
theorem dX5_commit_57 : decode cX5_commit 57 = .ok (.iload 4, 2) := by decide +kernel
theorem dX5_commit_59 : decode cX5_commit 59 = .ok (.invokevirtual 73, 3) := by decide +kernel
theorem dX5_commit_62 : decode cX5_commit 62 = .ok (.ifCond .eq 7, 3) := by decide +kernel
theorem dX5_commit_65 : decode cX5_commit 65 = .ok (.iconst 1, 1) := by decide +kernel
theorem dX5_commit_66 : decode cX5_commit 66 = .ok (.goto 4, 3) := by decide +kernel
theorem dX5_commit_69 : decode cX5_commit 69 = .ok (.iconst 0, 1) := by decide +kernel
theorem dX5_commit_70 : decode cX5_commit 70 = .ok (.istore_n 3, 1) := by decide +kernel
theorem dX5_commit_71 : decode cX5_commit 71 = .ok (.iinc 2 1, 3) := by decide +kernel
theorem dX5_commit_74 : decode cX5_commit 74 = .ok (.iinc 4 1, 3) := by decide +kernel
theorem dX5_commit_77 : decode cX5_commit 77 = .ok (.goto (-46), 3) := by decide +kernel
theorem dX5_commit_80 : decode cX5_commit 80 = .ok (.iload_n 2, 1) := by decide +kernel
theorem dX5_commit_81 : decode cX5_commit 81 = .ok (.ifCond .le 85, 3) := by decide +kernel
theorem dX5_commit_84 : decode cX5_commit 84 = .ok (.iload_n 3, 1) := by decide +kernel
theorem dX5_commit_85 : decode cX5_commit 85 = .ok (.ifCond .eq 16, 3) := by decide +kernel
theorem dX5_commit_88 : decode cX5_commit 88 = .ok (.aload_n 0, 1) := by decide +kernel
theorem dX5_commit_89 : decode cX5_commit 89 = .ok (.iload_n 2, 1) := by decide +kernel
theorem dX5_commit_90 : decode cX5_commit 90 = .ok (.iload_n 1, 1) := by decide +kernel
theorem dX5_commit_91 : decode cX5_commit 91 = .ok (.invokevirtual 77, 3) := by decide +kernel
theorem dX5_commit_94 : decode cX5_commit 94 = .ok (.ifCond .eq 7, 3) := by decide +kernel
theorem dX5_commit_97 : decode cX5_commit 97 = .ok (.iconst 1, 1) := by decide +kernel
theorem dX5_commit_98 : decode cX5_commit 98 = .ok (.goto 4, 3) := by decide +kernel
theorem dX5_commit_101 : decode cX5_commit 101 = .ok (.iconst 0, 1) := by decide +kernel
theorem dX5_commit_102 : decode cX5_commit 102 = .ok (.istore_n 3, 1) := by decide +kernel
theorem dX5_commit_103 : decode cX5_commit 103 = .ok (.iconst 0, 1) := by decide +kernel
theorem dX5_commit_104 : decode cX5_commit 104 = .ok (.istore 4, 2) := by decide +kernel
theorem dX5_commit_106 : decode cX5_commit 106 = .ok (.iload 4, 2) := by decide +kernel
theorem dX5_commit_108 : decode cX5_commit 108 = .ok (.bipush 16, 2) := by decide +kernel
theorem dX5_commit_110 : decode cX5_commit 110 = .ok (.if_icmp .ge 37, 3) := by decide +kernel
theorem dX5_commit_113 : decode cX5_commit 113 = .ok (.iload_n 3, 1) := by decide +kernel
theorem dX5_commit_114 : decode cX5_commit 114 = .ok (.ifCond .eq 25, 3) := by decide +kernel
theorem dX5_commit_117 : decode cX5_commit 117 = .ok (.iload_n 1, 1) := by decide +kernel
theorem dX5_commit_118 : decode cX5_commit 118 = .ok (.iload 4, 2) := by decide +kernel
theorem dX5_commit_120 : decode cX5_commit 120 = .ok (.ishr, 1) := by decide +kernel
theorem dX5_commit_121 : decode cX5_commit 121 = .ok (.iconst 1, 1) := by decide +kernel
theorem dX5_commit_122 : decode cX5_commit 122 = .ok (.iand, 1) := by decide +kernel
theorem dX5_commit_123 : decode cX5_commit 123 = .ok (.ifCond .eq 12, 3) := by decide +kernel
theorem dX5_commit_126 : decode cX5_commit 126 = .ok (.aload_n 0, 1) := by decide +kernel
theorem dX5_commit_127 : decode cX5_commit 127 = .ok (.iload 4, 2) := by decide +kernel
theorem dX5_commit_129 : decode cX5_commit 129 = .ok (.invokevirtual 80, 3) := by decide +kernel
theorem dX5_commit_132 : decode cX5_commit 132 = .ok (.ifCond .eq 7, 3) := by decide +kernel
theorem dX5_commit_135 : decode cX5_commit 135 = .ok (.iconst 1, 1) := by decide +kernel
theorem dX5_commit_136 : decode cX5_commit 136 = .ok (.goto 4, 3) := by decide +kernel
theorem dX5_commit_139 : decode cX5_commit 139 = .ok (.iconst 0, 1) := by decide +kernel
theorem dX5_commit_140 : decode cX5_commit 140 = .ok (.istore_n 3, 1) := by decide +kernel
theorem dX5_commit_141 : decode cX5_commit 141 = .ok (.iinc 4 1, 3) := by decide +kernel
theorem dX5_commit_144 : decode cX5_commit 144 = .ok (.goto (-38), 3) := by decide +kernel
theorem dX5_commit_147 : decode cX5_commit 147 = .ok (.iload_n 3, 1) := by decide +kernel
theorem dX5_commit_148 : decode cX5_commit 148 = .ok (.ifCond .eq 16, 3) := by decide +kernel
theorem dX5_commit_151 : decode cX5_commit 151 = .ok (.aload_n 0, 1) := by decide +kernel
theorem dX5_commit_152 : decode cX5_commit 152 = .ok (.iconst 0, 1) := by decide +kernel
theorem dX5_commit_153 : decode cX5_commit 153 = .ok (.iconst 0, 1) := by decide +kernel
theorem dX5_commit_154 : decode cX5_commit 154 = .ok (.invokevirtual 77, 3) := by decide +kernel
theorem dX5_commit_157 : decode cX5_commit 157 = .ok (.ifCond .eq 7, 3) := by decide +kernel
theorem dX5_commit_160 : decode cX5_commit 160 = .ok (.iconst 1, 1) := by decide +kernel
theorem dX5_commit_161 : decode cX5_commit 161 = .ok (.goto 4, 3) := by decide +kernel
theorem dX5_commit_164 : decode cX5_commit 164 = .ok (.iconst 0, 1) := by decide +kernel
theorem dX5_commit_165 : decode cX5_commit 165 = .ok (.istore_n 3, 1) := by decide +kernel
theorem dX5_commit_166 : decode cX5_commit 166 = .ok (.iload_n 3, 1) := by decide +kernel
theorem dX5_commit_167 : decode cX5_commit 167 = .ok (.ifCond .ne 5, 3) := by decide +kernel
theorem dX5_commit_170 : decode cX5_commit 170 = .ok (.iconst (-1), 1) := by decide +kernel
theorem dX5_commit_171 : decode cX5_commit 171 = .ok (.ireturn, 1) := by decide +kernel
theorem dX5_commit_172 : decode cX5_commit 172 = .ok (.aload_n 0, 1) := by decide +kernel
theorem dX5_commit_173 : decode cX5_commit 173 = .ok (.iconst 0, 1) := by decide +kernel
theorem dX5_commit_174 : decode cX5_commit 174 = .ok (.putfield 66, 3) := by decide +kernel
theorem dX5_commit_177 : decode cX5_commit 177 = .ok (.iconst 0, 1) := by decide +kernel
theorem dX5_commit_178 : decode cX5_commit 178 = .ok (.ireturn, 1) := by decide +kernel
set_option maxRecDepth 20000 in
theorem ggX5_isHead_X5_bits : GoodIn wsX5_isHead wsX5_bits := goodIn_r _ [6] (by decide +kernel) (by decide +kernel)
set_option maxRecDepth 20000 in
theorem gX5_isHead_X5_bits : GoodIn wsX5_isHead (va_wsS RX5 84 yX5_bits wsX5_bits) := goodIn_app (goodIn_of _ (by decide +kernel)) ggX5_isHead_X5_bits
set_option maxRecDepth 20000 in
theorem ggX5_isHead_X5_check : GoodIn wsX5_isHead wsX5_check := goodIn_r _ [10, 1, 11, 12, 13, 14, 15, 16, 17, 18, 19, 20, 21, 22, 23, 24, 25, 26, 27, 28] (by decide +kernel) (by decide +kernel)
set_option maxRecDepth 20000 in
theorem gX5_isHead_X5_check : GoodIn wsX5_isHead (wsV RX5 62 RX5 yX5_check wsX5_check) := goodIn_app (goodIn_of _ (by decide +kernel)) ggX5_isHead_X5_check
theorem dX5_isHead_0 : decode cX5_isHead 0 = .ok (.aload_n 0, 1) := by decide +kernel
theorem dX5_isHead_1 : decode cX5_isHead 1 = .ok (.getfield 7, 3) := by decide +kernel
theorem dX5_isHead_4 : decode cX5_isHead 4 = .ok (.sipush 257, 3) := by decide +kernel
theorem dX5_isHead_7 : decode cX5_isHead 7 = .ok (.iaload, 1) := by decide +kernel
theorem dX5_isHead_8 : decode cX5_isHead 8 = .ok (.istore_n 1, 1) := by decide +kernel
theorem dX5_isHead_9 : decode cX5_isHead 9 = .ok (.aload_n 0, 1) := by decide +kernel
theorem dX5_isHead_10 : decode cX5_isHead 10 = .ok (.getfield 7, 3) := by decide +kernel
theorem dX5_isHead_13 : decode cX5_isHead 13 = .ok (.sipush 256, 3) := by decide +kernel
theorem dX5_isHead_16 : decode cX5_isHead 16 = .ok (.iaload, 1) := by decide +kernel
theorem dX5_isHead_17 : decode cX5_isHead 17 = .ok (.sipush 6517, 3) := by decide +kernel
theorem dX5_isHead_20 : decode cX5_isHead 20 = .ok (.if_icmp .ne 57, 3) := by decide +kernel
theorem dX5_isHead_23 : decode cX5_isHead 23 = .ok (.iload_n 1, 1) := by decide +kernel
theorem dX5_isHead_24 : decode cX5_isHead 24 = .ok (.iconst 1, 1) := by decide +kernel
theorem dX5_isHead_25 : decode cX5_isHead 25 = .ok (.if_icmp .lt 52, 3) := by decide +kernel
theorem dX5_isHead_28 : decode cX5_isHead 28 = .ok (.iload_n 1, 1) := by decide +kernel
theorem dX5_isHead_29 : decode cX5_isHead 29 = .ok (.bipush 16, 2) := by decide +kernel
theorem dX5_isHead_31 : decode cX5_isHead 31 = .ok (.if_icmp .gt 46, 3) := by decide +kernel
theorem dX5_isHead_34 : decode cX5_isHead 34 = .ok (.aload_n 0, 1) := by decide +kernel
theorem dX5_isHead_35 : decode cX5_isHead 35 = .ok (.getfield 7, 3) := by decide +kernel
theorem dX5_isHead_38 : decode cX5_isHead 38 = .ok (.sipush 258, 3) := by decide +kernel
theorem dX5_isHead_41 : decode cX5_isHead 41 = .ok (.iaload, 1) := by decide +kernel
theorem dX5_isHead_42 : decode cX5_isHead 42 = .ok (.ifCond .lt 35, 3) := by decide +kernel
theorem dX5_isHead_45 : decode cX5_isHead 45 = .ok (.aload_n 0, 1) := by decide +kernel
theorem dX5_isHead_46 : decode cX5_isHead 46 = .ok (.getfield 7, 3) := by decide +kernel
theorem dX5_isHead_49 : decode cX5_isHead 49 = .ok (.sipush 258, 3) := by decide +kernel
theorem dX5_isHead_52 : decode cX5_isHead 52 = .ok (.iaload, 1) := by decide +kernel
theorem dX5_isHead_53 : decode cX5_isHead 53 = .ok (.ldc 83, 2) := by decide +kernel
theorem dX5_isHead_55 : decode cX5_isHead 55 = .ok (.if_icmp .ge 22, 3) := by decide +kernel
theorem dX5_isHead_58 : decode cX5_isHead 58 = .ok (.aload_n 0, 1) := by decide +kernel
theorem dX5_isHead_59 : decode cX5_isHead 59 = .ok (.getfield 7, 3) := by decide +kernel
theorem dX5_isHead_62 : decode cX5_isHead 62 = .ok (.sipush 258, 3) := by decide +kernel
theorem dX5_isHead_65 : decode cX5_isHead 65 = .ok (.iaload, 1) := by decide +kernel
theorem dX5_isHead_66 : decode cX5_isHead 66 = .ok (.invokestatic 84, 3) := by decide +kernel
theorem dX5_isHead_69 : decode cX5_isHead 69 = .ok (.iload_n 1, 1) := by decide +kernel
theorem dX5_isHead_70 : decode cX5_isHead 70 = .ok (.if_icmp .ne 7, 3) := by decide +kernel
theorem dX5_isHead_73 : decode cX5_isHead 73 = .ok (.iconst 1, 1) := by decide +kernel
theorem dX5_isHead_74 : decode cX5_isHead 74 = .ok (.goto 4, 3) := by decide +kernel
theorem dX5_isHead_77 : decode cX5_isHead 77 = .ok (.iconst 0, 1) := by decide +kernel
theorem dX5_isHead_78 : decode cX5_isHead 78 = .ok (.istore_n 2, 1) := by decide +kernel
theorem dX5_isHead_79 : decode cX5_isHead 79 = .ok (.iconst 4, 1) := by decide +kernel
theorem dX5_isHead_80 : decode cX5_isHead 80 = .ok (.istore_n 3, 1) := by decide +kernel
theorem dX5_isHead_81 : decode cX5_isHead 81 = .ok (.iload_n 3, 1) := by decide +kernel
theorem dX5_isHead_82 : decode cX5_isHead 82 = .ok (.bipush 16, 2) := by decide +kernel
theorem dX5_isHead_84 : decode cX5_isHead 84 = .ok (.if_icmp .ge 32, 3) := by decide +kernel
theorem dX5_isHead_87 : decode cX5_isHead 87 = .ok (.iload_n 2, 1) := by decide +kernel
theorem dX5_isHead_88 : decode cX5_isHead 88 = .ok (.ifCond .eq 20, 3) := by decide +kernel
theorem dX5_isHead_91 : decode cX5_isHead 91 = .ok (.aload_n 0, 1) := by decide +kernel
theorem dX5_isHead_92 : decode cX5_isHead 92 = .ok (.getfield 7, 3) := by decide +kernel
theorem dX5_isHead_95 : decode cX5_isHead 95 = .ok (.sipush 256, 3) := by decide +kernel
theorem dX5_isHead_98 : decode cX5_isHead 98 = .ok (.iload_n 3, 1) := by decide +kernel
theorem dX5_isHead_99 : decode cX5_isHead 99 = .ok (.iadd, 1) := by decide +kernel
theorem dX5_isHead_100 : decode cX5_isHead 100 = .ok (.iaload, 1) := by decide +kernel
theorem dX5_isHead_101 : decode cX5_isHead 101 = .ok (.ifCond .ne 7, 3) := by decide +kernel
theorem dX5_isHead_104 : decode cX5_isHead 104 = .ok (.iconst 1, 1) := by decide +kernel
theorem dX5_isHead_105 : decode cX5_isHead 105 = .ok (.goto 4, 3) := by decide +kernel
theorem dX5_isHead_108 : decode cX5_isHead 108 = .ok (.iconst 0, 1) := by decide +kernel
theorem dX5_isHead_109 : decode cX5_isHead 109 = .ok (.istore_n 2, 1) := by decide +kernel
theorem dX5_isHead_110 : decode cX5_isHead 110 = .ok (.iinc 3 1, 3) := by decide +kernel
theorem dX5_isHead_113 : decode cX5_isHead 113 = .ok (.goto (-32), 3) := by decide +kernel
theorem dX5_isHead_116 : decode cX5_isHead 116 = .ok (.iload_n 2, 1) := by decide +kernel
theorem dX5_isHead_117 : decode cX5_isHead 117 = .ok (.ifCond .eq 23, 3) := by decide +kernel
theorem dX5_isHead_120 : decode cX5_isHead 120 = .ok (.aload_n 0, 1) := by decide +kernel
theorem dX5_isHead_121 : decode cX5_isHead 121 = .ok (.getfield 7, 3) := by decide +kernel
theorem dX5_isHead_124 : decode cX5_isHead 124 = .ok (.sipush 259, 3) := by decide +kernel
theorem dX5_isHead_127 : decode cX5_isHead 127 = .ok (.iaload, 1) := by decide +kernel
theorem dX5_isHead_128 : decode cX5_isHead 128 = .ok (.aload_n 0, 1) := by decide +kernel
theorem dX5_isHead_129 : decode cX5_isHead 129 = .ok (.iload_n 1, 1) := by decide +kernel
theorem dX5_isHead_130 : decode cX5_isHead 130 = .ok (.invokevirtual 62, 3) := by decide +kernel
theorem dX5_isHead_133 : decode cX5_isHead 133 = .ok (.if_icmp .ne 7, 3) := by decide +kernel
theorem dX5_isHead_136 : decode cX5_isHead 136 = .ok (.iconst 1, 1) := by decide +kernel
theorem dX5_isHead_137 : decode cX5_isHead 137 = .ok (.goto 4, 3) := by decide +kernel
theorem dX5_isHead_140 : decode cX5_isHead 140 = .ok (.iconst 0, 1) := by decide +kernel
theorem dX5_isHead_141 : decode cX5_isHead 141 = .ok (.ireturn, 1) := by decide +kernel
theorem dX5_copyBack_0 : decode cX5_copyBack 0 = .ok (.iconst 0, 1) := by decide +kernel
theorem dX5_copyBack_1 : decode cX5_copyBack 1 = .ok (.istore_n 1, 1) := by decide +kernel
theorem dX5_copyBack_2 : decode cX5_copyBack 2 = .ok (.iload_n 1, 1) := by decide +kernel
theorem dX5_copyBack_3 : decode cX5_copyBack 3 = .ok (.sipush 256, 3) := by decide +kernel
theorem dX5_copyBack_6 : decode cX5_copyBack 6 = .ok (.if_icmp .ge 21, 3) := by decide +kernel
theorem dX5_copyBack_9 : decode cX5_copyBack 9 = .ok (.aload_n 0, 1) := by decide +kernel
theorem dX5_copyBack_10 : decode cX5_copyBack 10 = .ok (.getfield 13, 3) := by decide +kernel
theorem dX5_copyBack_13 : decode cX5_copyBack 13 = .ok (.iload_n 1, 1) := by decide +kernel
theorem dX5_copyBack_14 : decode cX5_copyBack 14 = .ok (.aload_n 0, 1) := by decide +kernel
theorem dX5_copyBack_15 : decode cX5_copyBack 15 = .ok (.getfield 7, 3) := by decide +kernel
theorem dX5_copyBack_18 : decode cX5_copyBack 18 = .ok (.iload_n 1, 1) := by decide +kernel
theorem dX5_copyBack_19 : decode cX5_copyBack 19 = .ok (.iaload, 1) := by decide +kernel
theorem dX5_copyBack_20 : decode cX5_copyBack 20 = .ok (.iastore, 1) := by decide +kernel
theorem dX5_copyBack_21 : decode cX5_copyBack 21 = .ok (.iinc 1 1, 3) := by decide +kernel
theorem dX5_copyBack_24 : decode cX5_copyBack 24 = .ok (.goto (-22), 3) := by decide +kernel
theorem dX5_copyBack_27 : decode cX5_copyBack 27 = .ok (.aload_n 0, 1) := by decide +kernel
theorem dX5_copyBack_28 : decode cX5_copyBack 28 = .ok (.iconst 0, 1) := by decide +kernel
theorem dX5_copyBack_29 : decode cX5_copyBack 29 = .ok (.putfield 66, 3) := by decide +kernel
theorem dX5_copyBack_32 : decode cX5_copyBack 32 = .ok (.return_, 1) := by decide +kernel
set_option maxRecDepth 20000 in
theorem ggX5_recover_X5_isHead : GoodIn wsX5_recover wsX5_isHead := goodIn_r _ [8, 2, 9, 10, 11, 7, 12, 13, 14, 15, 16, 38, 39, 40, 41, 42, 43, 44, 45, 46, 47, 48, 49, 50, 51, 52, 53, 54, 55] (by decide +kernel) (by decide +kernel)
set_option maxRecDepth 20000 in
theorem gX5_recover_X5_isHead : GoodIn wsX5_recover (wsV RX5 87 RX5 yX5_isHead wsX5_isHead) := goodIn_app (goodIn_of _ (by decide +kernel)) ggX5_recover_X5_isHead
set_option maxRecDepth 20000 in
theorem ggX5_recover_X5_putFromDisk : GoodIn wsX5_recover wsX5_putFromDisk := goodIn_r _ [20, 21, 2, 22, 23, 24, 7, 25, 26, 1, 27, 38, 39, 40, 41, 42, 43, 44, 45, 46, 47, 48, 49, 50, 51, 52, 53, 54, 55] (by decide +kernel) (by decide +kernel)
set_option maxRecDepth 20000 in
theorem gX5_recover_X5_putFromDisk : GoodIn wsX5_recover (wsV RX5 73 RX5 yX5_putFromDisk wsX5_putFromDisk) := goodIn_app (goodIn_of _ (by decide +kernel)) ggX5_recover_X5_putFromDisk
set_option maxRecDepth 20000 in
theorem ggX5_recover_X5_putHead : GoodIn wsX5_recover wsX5_putHead := goodIn_r _ [31, 21, 13, 14, 15, 7, 16, 2, 22, 23, 24, 25, 26, 1, 27, 38, 39, 40, 41, 42, 43, 44, 45, 46, 47, 48, 49, 50, 51, 52, 53, 54, 55] (by decide +kernel) (by decide +kernel)
set_option maxRecDepth 20000 in
theorem gX5_recover_X5_putHead : GoodIn wsX5_recover (wsV RX5 77 RX5 yX5_putHead wsX5_putHead) := goodIn_app (goodIn_of _ (by decide +kernel)) ggX5_recover_X5_putHead
set_option maxRecDepth 20000 in
theorem ggX5_recover_X5_copyBack : GoodIn wsX5_recover wsX5_copyBack := goodIn_r _ [35, 36, 2, 37, 38, 39, 40, 41, 42, 43, 44, 45, 46, 47, 48, 49, 50, 51, 52, 53, 54, 55] (by decide +kernel) (by decide +kernel)
set_option maxRecDepth 20000 in
theorem gX5_recover_X5_copyBack : GoodIn wsX5_recover (wsV RX5 91 RX5 yX5_copyBack wsX5_copyBack) := goodIn_app (goodIn_of _ (by decide +kernel)) ggX5_recover_X5_copyBack
theorem dX5_recover_0 : decode cX5_recover 0 = .ok (.aload_n 0, 1) := by decide +kernel
theorem dX5_recover_1 : decode cX5_recover 1 = .ok (.iconst 0, 1) := by decide +kernel
theorem dX5_recover_2 : decode cX5_recover 2 = .ok (.putfield 51, 3) := by decide +kernel
theorem dX5_recover_5 : decode cX5_recover 5 = .ok (.aload_n 0, 1) := by decide +kernel
theorem dX5_recover_6 : decode cX5_recover 6 = .ok (.invokevirtual 87, 3) := by decide +kernel
theorem dX5_recover_9 : decode cX5_recover 9 = .ok (.ifCond .eq 93, 3) := by decide +kernel
theorem dX5_recover_12 : decode cX5_recover 12 = .ok (.aload_n 0, 1) := by decide +kernel
theorem dX5_recover_13 : decode cX5_recover 13 = .ok (.getfield 7, 3) := by decide +kernel
theorem dX5_recover_16 : decode cX5_recover 16 = .ok (.sipush 258, 3) := by decide +kernel
theorem dX5_recover_19 : decode cX5_recover 19 = .ok (.iaload, 1) := by decide +kernel
theorem dX5_recover_20 : decode cX5_recover 20 = .ok (.istore_n 1, 1) := by decide +kernel
theorem dX5_recover_21 : decode cX5_recover 21 = .ok (.iconst 0, 1) := by decide +kernel
theorem dX5_recover_22 : decode cX5_recover 22 = .ok (.istore_n 2, 1) := by decide +kernel
theorem dX5_recover_23 : decode cX5_recover 23 = .ok (.iconst 1, 1) := by decide +kernel
theorem dX5_recover_24 : decode cX5_recover 24 = .ok (.istore_n 3, 1) := by decide +kernel
theorem dX5_recover_25 : decode cX5_recover 25 = .ok (.iconst 0, 1) := by decide +kernel
theorem dX5_recover_26 : decode cX5_recover 26 = .ok (.istore 4, 2) := by decide +kernel
theorem dX5_recover_28 : decode cX5_recover 28 = .ok (.iload 4, 2) := by decide +kernel
theorem dX5_recover_30 : decode cX5_recover 30 = .ok (.bipush 16, 2) := by decide +kernel
theorem dX5_recover_32 : decode cX5_recover 32 = .ok (.if_icmp .ge 45, 3) := by decide +kernel
theorem dX5_recover_35 : decode cX5_recover 35 = .ok (.iload_n 1, 1) := by decide +kernel
theorem dX5_recover_36 : decode cX5_recover 36 = .ok (.iload 4, 2) := by decide +kernel
theorem dX5_recover_38 : decode cX5_recover 38 = .ok (.ishr, 1) := by decide +kernel
theorem dX5_recover_39 : decode cX5_recover 39 = .ok (.iconst 1, 1) := by decide +kernel
theorem dX5_recover_40 : decode cX5_recover 40 = .ok (.iand, 1) := by decide +kernel
theorem dX5_recover_41 : decode cX5_recover 41 = .ok (.iconst 1, 1) := by decide +kernel
theorem dX5_recover_42 : decode cX5_recover 42 = .ok (.if_icmp .ne 29, 3) := by decide +kernel
theorem dX5_recover_45 : decode cX5_recover 45 = .ok (.iload_n 3, 1) := by decide +kernel
theorem dX5_recover_46 : decode cX5_recover 46 = .ok (.ifCond .eq 20, 3) := by decide +kernel
theorem dX5_recover_49 : decode cX5_recover 49 = .ok (.aload_n 0, 1) := by decide +kernel
theorem dX5_recover_50 : decode cX5_recover 50 = .ok (.iload 4, 2) := by decide +kernel
theorem dX5_recover_52 : decode cX5_recover 52 = .ok (.bipush 17, 2) := by decide +kernel
theorem dX5_recover_54 : decode cX5_recover 54 = .ok (.iload_n 2, 1) := by decide +kernel
theorem dX5_recover_55 : decode cX5_recover 55 = .ok (.iadd, 1) := by decide +kernel
theorem dX5_recover_56 : decode cX5_recover 56 = .ok (.invokevirtual 73, 3) := by decide +kernel
theorem dX5_recover_59 : decode cX5_recover 59 = .ok (.ifCond .eq 7, 3) := by decide +kernel
theorem dX5_recover_62 : decode cX5_recover 62 = .ok (.iconst 1, 1) := by decide +kernel
theorem dX5_recover_63 : decode cX5_recover 63 = .ok (.goto 4, 3) := by decide +kernel
theorem dX5_recover_66 : decode cX5_recover 66 = .ok (.iconst 0, 1) := by decide +kernel
theorem dX5_recover_67 : decode cX5_recover 67 = .ok (.istore_n 3, 1) := by decide +kernel
theorem dX5_recover_68 : decode cX5_recover 68 = .ok (.iinc 2 1, 3) := by decide +kernel
theorem dX5_recover_71 : decode cX5_recover 71 = .ok (.iinc 4 1, 3) := by decide +kernel
theorem dX5_recover_74 : decode cX5_recover 74 = .ok (.goto (-46), 3) := by decide +kernel
theorem dX5_recover_77 : decode cX5_recover 77 = .ok (.iload_n 3, 1) := by decide +kernel
theorem dX5_recover_78 : decode cX5_recover 78 = .ok (.ifCond .eq 16, 3) := by decide +kernel
theorem dX5_recover_81 : decode cX5_recover 81 = .ok (.aload_n 0, 1) := by decide +kernel
theorem dX5_recover_82 : decode cX5_recover 82 = .ok (.iconst 0, 1) := by decide +kernel
theorem dX5_recover_83 : decode cX5_recover 83 = .ok (.iconst 0, 1) := by decide +kernel
theorem dX5_recover_84 : decode cX5_recover 84 = .ok (.invokevirtual 77, 3) := by decide +kernel
theorem dX5_recover_87 : decode cX5_recover 87 = .ok (.ifCond .eq 7, 3) := by decide +kernel
theorem dX5_recover_90 : decode cX5_recover 90 = .ok (.iconst 1, 1) := by decide +kernel
theorem dX5_recover_91 : decode cX5_recover 91 = .ok (.goto 4, 3) := by decide +kernel
theorem dX5_recover_94 : decode cX5_recover 94 = .ok (.iconst 0, 1) := by decide +kernel
theorem dX5_recover_95 : decode cX5_recover 95 = .ok (.istore_n 3, 1) := by decide +kernel
theorem dX5_recover_96 : decode cX5_recover 96 = .ok (.iload_n 3, 1) := by decide +kernel
theorem dX5_recover_97 : decode cX5_recover 97 = .ok (.ifCond .ne 5, 3) := by decide +kernel
theorem dX5_recover_100 : decode cX5_recover 100 = .ok (.iconst (-1), 1) := by decide +kernel
theorem dX5_recover_101 : decode cX5_recover 101 = .ok (.ireturn, 1) := by decide +kernel
theorem dX5_recover_102 : decode cX5_recover 102 = .ok (.aload_n 0, 1) := by decide +kernel
theorem dX5_recover_103 : decode cX5_recover 103 = .ok (.invokevirtual 91, 3) := by decide +kernel
theorem dX5_recover_106 : decode cX5_recover 106 = .ok (.iconst 0, 1) := by decide +kernel
theorem dX5_recover_107 : decode cX5_recover 107 = .ok (.istore_n 1, 1) := by decide +kernel
theorem dX5_recover_108 : decode cX5_recover 108 = .ok (.iload_n 1, 1) := by decide +kernel
theorem dX5_recover_109 : decode cX5_recover 109 = .ok (.iconst 4, 1) := by decide +kernel
theorem dX5_recover_110 : decode cX5_recover 110 = .ok (.if_icmp .ge 16, 3) := by decide +kernel
theorem dX5_recover_113 : decode cX5_recover 113 = .ok (.aload_n 0, 1) := by decide +kernel
theorem dX5_recover_114 : decode cX5_recover 114 = .ok (.getfield 38, 3) := by decide +kernel
theorem dX5_recover_117 : decode cX5_recover 117 = .ok (.iload_n 1, 1) := by decide +kernel
theorem dX5_recover_118 : decode cX5_recover 118 = .ok (.iconst 0, 1) := by decide +kernel
theorem dX5_recover_119 : decode cX5_recover 119 = .ok (.bastore, 1) := by decide +kernel
theorem dX5_recover_120 : decode cX5_recover 120 = .ok (.iinc 1 1, 3) := by decide +kernel
