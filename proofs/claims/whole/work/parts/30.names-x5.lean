theorem dX5_init_0 : decode cX5_init 0 = .ok (.aload_n 0, 1) := by decide +kernel
theorem dX5_init_1 : decode cX5_init 1 = .ok (.invokespecial 1, 3) := by decide +kernel
theorem dX5_init_4 : decode cX5_init 4 = .ok (.aload_n 0, 1) := by decide +kernel
theorem dX5_init_5 : decode cX5_init 5 = .ok (.sipush 188, 3) := by decide +kernel
theorem dX5_init_8 : decode cX5_init 8 = .ok (.newarray .int, 2) := by decide +kernel
theorem dX5_init_10 : decode cX5_init 10 = .ok (.putfield 7, 3) := by decide +kernel
theorem dX5_init_13 : decode cX5_init 13 = .ok (.aload_n 0, 1) := by decide +kernel
theorem dX5_init_14 : decode cX5_init 14 = .ok (.sipush 752, 3) := by decide +kernel
theorem dX5_init_17 : decode cX5_init 17 = .ok (.newarray .int, 2) := by decide +kernel
theorem dX5_init_19 : decode cX5_init 19 = .ok (.putfield 13, 3) := by decide +kernel
theorem dX5_init_22 : decode cX5_init 22 = .ok (.aload_n 0, 1) := by decide +kernel
theorem dX5_init_23 : decode cX5_init 23 = .ok (.sipush 188, 3) := by decide +kernel
theorem dX5_init_26 : decode cX5_init 26 = .ok (.newarray .int, 2) := by decide +kernel
theorem dX5_init_28 : decode cX5_init 28 = .ok (.putfield 16, 3) := by decide +kernel
theorem dX5_init_31 : decode cX5_init 31 = .ok (.aload_n 0, 1) := by decide +kernel
theorem dX5_init_32 : decode cX5_init 32 = .ok (.bipush 11, 2) := by decide +kernel
theorem dX5_init_34 : decode cX5_init 34 = .ok (.newarray .int, 2) := by decide +kernel
theorem dX5_init_36 : decode cX5_init 36 = .ok (.putfield 19, 3) := by decide +kernel
theorem dX5_init_39 : decode cX5_init 39 = .ok (.aload_n 0, 1) := by decide +kernel
theorem dX5_init_40 : decode cX5_init 40 = .ok (.bipush 16, 2) := by decide +kernel
theorem dX5_init_42 : decode cX5_init 42 = .ok (.newarray .int, 2) := by decide +kernel
theorem dX5_init_44 : decode cX5_init 44 = .ok (.putfield 22, 3) := by decide +kernel
theorem dX5_init_47 : decode cX5_init 47 = .ok (.aload_n 0, 1) := by decide +kernel
theorem dX5_init_48 : decode cX5_init 48 = .ok (.bipush 16, 2) := by decide +kernel
theorem dX5_init_50 : decode cX5_init 50 = .ok (.newarray .boolean, 2) := by decide +kernel
theorem dX5_init_52 : decode cX5_init 52 = .ok (.putfield 25, 3) := by decide +kernel
theorem dX5_init_55 : decode cX5_init 55 = .ok (.aload_n 0, 1) := by decide +kernel
theorem dX5_init_56 : decode cX5_init 56 = .ok (.sipush 2304, 3) := by decide +kernel
theorem dX5_init_59 : decode cX5_init 59 = .ok (.newarray .int, 2) := by decide +kernel
theorem dX5_init_61 : decode cX5_init 61 = .ok (.putfield 29, 3) := by decide +kernel
theorem dX5_init_64 : decode cX5_init 64 = .ok (.aload_n 0, 1) := by decide +kernel
theorem dX5_init_65 : decode cX5_init 65 = .ok (.bipush 8, 2) := by decide +kernel
theorem dX5_init_67 : decode cX5_init 67 = .ok (.newarray .int, 2) := by decide +kernel
theorem dX5_init_69 : decode cX5_init 69 = .ok (.putfield 32, 3) := by decide +kernel
theorem dX5_init_72 : decode cX5_init 72 = .ok (.aload_n 0, 1) := by decide +kernel
theorem dX5_init_73 : decode cX5_init 73 = .ok (.bipush 100, 2) := by decide +kernel
theorem dX5_init_75 : decode cX5_init 75 = .ok (.newarray .int, 2) := by decide +kernel
theorem dX5_init_77 : decode cX5_init 77 = .ok (.putfield 35, 3) := by decide +kernel
theorem dX5_init_80 : decode cX5_init 80 = .ok (.aload_n 0, 1) := by decide +kernel
theorem dX5_init_81 : decode cX5_init 81 = .ok (.bipush 64, 2) := by decide +kernel
theorem dX5_init_83 : decode cX5_init 83 = .ok (.newarray .int, 2) := by decide +kernel
theorem dX5_init_85 : decode cX5_init 85 = .ok (.putfield 38, 3) := by decide +kernel
theorem dX5_init_88 : decode cX5_init 88 = .ok (.aload_n 0, 1) := by decide +kernel
theorem dX5_init_89 : decode cX5_init 89 = .ok (.getfield 7, 3) := by decide +kernel
theorem dX5_init_92 : decode cX5_init 92 = .ok (.iconst 2, 1) := by decide +kernel
theorem dX5_init_93 : decode cX5_init 93 = .ok (.iconst 3, 1) := by decide +kernel
theorem dX5_init_94 : decode cX5_init 94 = .ok (.iastore, 1) := by decide +kernel
theorem dX5_init_95 : decode cX5_init 95 = .ok (.aload_n 0, 1) := by decide +kernel
theorem dX5_init_96 : decode cX5_init 96 = .ok (.getfield 7, 3) := by decide +kernel
theorem dX5_init_99 : decode cX5_init 99 = .ok (.iconst 3, 1) := by decide +kernel
theorem dX5_init_100 : decode cX5_init 100 = .ok (.bipush 60, 2) := by decide +kernel
theorem dX5_init_102 : decode cX5_init 102 = .ok (.iastore, 1) := by decide +kernel
theorem dX5_init_103 : decode cX5_init 103 = .ok (.aload_n 0, 1) := by decide +kernel
theorem dX5_init_104 : decode cX5_init 104 = .ok (.getfield 7, 3) := by decide +kernel
theorem dX5_init_107 : decode cX5_init 107 = .ok (.bipush 8, 2) := by decide +kernel
theorem dX5_init_109 : decode cX5_init 109 = .ok (.iconst 2, 1) := by decide +kernel
theorem dX5_init_110 : decode cX5_init 110 = .ok (.iastore, 1) := by decide +kernel
theorem dX5_init_111 : decode cX5_init 111 = .ok (.iconst 0, 1) := by decide +kernel
theorem dX5_init_112 : decode cX5_init 112 = .ok (.istore_n 1, 1) := by decide +kernel
theorem dX5_init_113 : decode cX5_init 113 = .ok (.iload_n 1, 1) := by decide +kernel
theorem dX5_init_114 : decode cX5_init 114 = .ok (.bipush 9, 2) := by decide +kernel
theorem dX5_init_116 : decode cX5_init 116 = .ok (.if_icmp .ge 19, 3) := by decide +kernel
theorem dX5_init_119 : decode cX5_init 119 = .ok (.aload_n 0, 1) := by decide +kernel
theorem dX5_init_120 : decode cX5_init 120 = .ok (.getfield 7, 3) := by decide +kernel
theorem dX5_init_123 : decode cX5_init 123 = .ok (.bipush 11, 2) := by decide +kernel
theorem dX5_init_125 : decode cX5_init 125 = .ok (.iload_n 1, 1) := by decide +kernel
theorem dX5_init_126 : decode cX5_init 126 = .ok (.iadd, 1) := by decide +kernel
theorem dX5_init_127 : decode cX5_init 127 = .ok (.iconst 1, 1) := by decide +kernel
theorem dX5_init_128 : decode cX5_init 128 = .ok (.iastore, 1) := by decide +kernel
theorem dX5_init_129 : decode cX5_init 129 = .ok (.iinc 1 1, 3) := by decide +kernel
theorem dX5_init_132 : decode cX5_init 132 = .ok (.goto (-19), 3) := by decide +kernel
theorem dX5_init_135 : decode cX5_init 135 = .ok (.iconst 0, 1) := by decide +kernel
theorem dX5_init_136 : decode cX5_init 136 = .ok (.istore_n 1, 1) := by decide +kernel
theorem dX5_init_137 : decode cX5_init 137 = .ok (.iload_n 1, 1) := by decide +kernel
theorem dX5_init_138 : decode cX5_init 138 = .ok (.iconst 4, 1) := by decide +kernel
theorem dX5_init_139 : decode cX5_init 139 = .ok (.if_icmp .ge 19, 3) := by decide +kernel
theorem dX5_init_142 : decode cX5_init 142 = .ok (.aload_n 0, 1) := by decide +kernel
theorem dX5_init_143 : decode cX5_init 143 = .ok (.getfield 7, 3) := by decide +kernel
theorem dX5_init_146 : decode cX5_init 146 = .ok (.bipush 20, 2) := by decide +kernel
theorem dX5_init_148 : decode cX5_init 148 = .ok (.iload_n 1, 1) := by decide +kernel
theorem dX5_init_149 : decode cX5_init 149 = .ok (.iadd, 1) := by decide +kernel
theorem dX5_init_150 : decode cX5_init 150 = .ok (.iconst 1, 1) := by decide +kernel
theorem dX5_init_151 : decode cX5_init 151 = .ok (.iastore, 1) := by decide +kernel
theorem dX5_init_152 : decode cX5_init 152 = .ok (.iinc 1 1, 3) := by decide +kernel
theorem dX5_init_155 : decode cX5_init 155 = .ok (.goto (-18), 3) := by decide +kernel
theorem dX5_init_158 : decode cX5_init 158 = .ok (.aload_n 0, 1) := by decide +kernel
theorem dX5_init_159 : decode cX5_init 159 = .ok (.invokevirtual 41, 3) := by decide +kernel
theorem dX5_init_162 : decode cX5_init 162 = .ok (.return_, 1) := by decide +kernel
theorem dX5_thrown_0 : decode cX5_thrown 0 = .ok (.aload_n 0, 1) := by decide +kernel
theorem dX5_thrown_1 : decode cX5_thrown 1 = .ok (.getfield 44, 3) := by decide +kernel
theorem dX5_thrown_4 : decode cX5_thrown 4 = .ok (.ireturn, 1) := by decide +kernel
theorem dX5_in_0 : decode cX5_in 0 = .ok (.lload_n 0, 1) := by decide +kernel
theorem dX5_in_1 : decode cX5_in 1 = .ok (.lload_n 2, 1) := by decide +kernel
theorem dX5_in_2 : decode cX5_in 2 = .ok (.lcmp, 1) := by decide +kernel
theorem dX5_in_3 : decode cX5_in 3 = .ok (.ifCond .lt 14, 3) := by decide +kernel
theorem dX5_in_6 : decode cX5_in 6 = .ok (.lload_n 0, 1) := by decide +kernel
theorem dX5_in_7 : decode cX5_in 7 = .ok (.lload 4, 2) := by decide +kernel
theorem dX5_in_9 : decode cX5_in 9 = .ok (.lcmp, 1) := by decide +kernel
theorem dX5_in_10 : decode cX5_in 10 = .ok (.ifCond .gt 7, 3) := by decide +kernel
theorem dX5_in_13 : decode cX5_in 13 = .ok (.iconst 1, 1) := by decide +kernel
theorem dX5_in_14 : decode cX5_in 14 = .ok (.goto 4, 3) := by decide +kernel
theorem dX5_in_17 : decode cX5_in 17 = .ok (.iconst 0, 1) := by decide +kernel
theorem dX5_in_18 : decode cX5_in 18 = .ok (.ireturn, 1) := by decide +kernel
theorem dX5_fine_0 : decode cX5_fine 0 = .ok (.aload_n 0, 1) := by decide +kernel
theorem dX5_fine_1 : decode cX5_fine 1 = .ok (.iconst 0, 1) := by decide +kernel
theorem dX5_fine_2 : decode cX5_fine 2 = .ok (.putfield 44, 3) := by decide +kernel
theorem dX5_fine_5 : decode cX5_fine 5 = .ok (.iload_n 1, 1) := by decide +kernel
theorem dX5_fine_6 : decode cX5_fine 6 = .ok (.ireturn, 1) := by decide +kernel
theorem dX5_throwing_0 : decode cX5_throwing 0 = .ok (.aload_n 0, 1) := by decide +kernel
theorem dX5_throwing_1 : decode cX5_throwing 1 = .ok (.iload_n 1, 1) := by decide +kernel
theorem dX5_throwing_2 : decode cX5_throwing 2 = .ok (.putfield 44, 3) := by decide +kernel
theorem dX5_throwing_5 : decode cX5_throwing 5 = .ok (.iconst 0, 1) := by decide +kernel
theorem dX5_throwing_6 : decode cX5_throwing 6 = .ok (.ireturn, 1) := by decide +kernel
theorem dX5_save_0 : decode cX5_save 0 = .ok (.aload_n 0, 1) := by decide +kernel
theorem dX5_save_1 : decode cX5_save 1 = .ok (.getfield 48, 3) := by decide +kernel
theorem dX5_save_4 : decode cX5_save 4 = .ok (.iconst 4, 1) := by decide +kernel
theorem dX5_save_5 : decode cX5_save 5 = .ok (.if_icmp .ne 44, 3) := by decide +kernel
theorem dX5_save_8 : decode cX5_save 8 = .ok (.iconst 0, 1) := by decide +kernel
theorem dX5_save_9 : decode cX5_save 9 = .ok (.istore_n 1, 1) := by decide +kernel
theorem dX5_save_10 : decode cX5_save 10 = .ok (.iload_n 1, 1) := by decide +kernel
theorem dX5_save_11 : decode cX5_save 11 = .ok (.sipush 564, 3) := by decide +kernel
theorem dX5_save_14 : decode cX5_save 14 = .ok (.if_icmp .ge 25, 3) := by decide +kernel
theorem dX5_save_17 : decode cX5_save 17 = .ok (.aload_n 0, 1) := by decide +kernel
theorem dX5_save_18 : decode cX5_save 18 = .ok (.getfield 13, 3) := by decide +kernel
theorem dX5_save_21 : decode cX5_save 21 = .ok (.iload_n 1, 1) := by decide +kernel
theorem dX5_save_22 : decode cX5_save 22 = .ok (.aload_n 0, 1) := by decide +kernel
theorem dX5_save_23 : decode cX5_save 23 = .ok (.getfield 13, 3) := by decide +kernel
theorem dX5_save_26 : decode cX5_save 26 = .ok (.iload_n 1, 1) := by decide +kernel
theorem dX5_save_27 : decode cX5_save 27 = .ok (.sipush 188, 3) := by decide +kernel
theorem dX5_save_30 : decode cX5_save 30 = .ok (.iadd, 1) := by decide +kernel
theorem dX5_save_31 : decode cX5_save 31 = .ok (.iaload, 1) := by decide +kernel
theorem dX5_save_32 : decode cX5_save 32 = .ok (.iastore, 1) := by decide +kernel
theorem dX5_save_33 : decode cX5_save 33 = .ok (.iinc 1 1, 3) := by decide +kernel
theorem dX5_save_36 : decode cX5_save 36 = .ok (.goto (-26), 3) := by decide +kernel
theorem dX5_save_39 : decode cX5_save 39 = .ok (.aload_n 0, 1) := by decide +kernel
theorem dX5_save_40 : decode cX5_save 40 = .ok (.dup, 1) := by decide +kernel
theorem dX5_save_41 : decode cX5_save 41 = .ok (.getfield 48, 3) := by decide +kernel
theorem dX5_save_44 : decode cX5_save 44 = .ok (.iconst 1, 1) := by decide +kernel
theorem dX5_save_45 : decode cX5_save 45 = .ok (.isub, 1) := by decide +kernel
theorem dX5_save_46 : decode cX5_save 46 = .ok (.putfield 48, 3) := by decide +kernel
theorem dX5_save_49 : decode cX5_save 49 = .ok (.iconst 0, 1) := by decide +kernel
theorem dX5_save_50 : decode cX5_save 50 = .ok (.istore_n 1, 1) := by decide +kernel
theorem dX5_save_51 : decode cX5_save 51 = .ok (.iload_n 1, 1) := by decide +kernel
theorem dX5_save_52 : decode cX5_save 52 = .ok (.sipush 188, 3) := by decide +kernel
theorem dX5_save_55 : decode cX5_save 55 = .ok (.if_icmp .ge 30, 3) := by decide +kernel
theorem dX5_save_58 : decode cX5_save 58 = .ok (.aload_n 0, 1) := by decide +kernel
theorem dX5_save_59 : decode cX5_save 59 = .ok (.getfield 13, 3) := by decide +kernel
theorem dX5_save_62 : decode cX5_save 62 = .ok (.sipush 188, 3) := by decide +kernel
theorem dX5_save_65 : decode cX5_save 65 = .ok (.aload_n 0, 1) := by decide +kernel
theorem dX5_save_66 : decode cX5_save 66 = .ok (.getfield 48, 3) := by decide +kernel
theorem dX5_save_69 : decode cX5_save 69 = .ok (.imul, 1) := by decide +kernel
theorem dX5_save_70 : decode cX5_save 70 = .ok (.iload_n 1, 1) := by decide +kernel
theorem dX5_save_71 : decode cX5_save 71 = .ok (.iadd, 1) := by decide +kernel
theorem dX5_save_72 : decode cX5_save 72 = .ok (.aload_n 0, 1) := by decide +kernel
theorem dX5_save_73 : decode cX5_save 73 = .ok (.getfield 7, 3) := by decide +kernel
theorem dX5_save_76 : decode cX5_save 76 = .ok (.iload_n 1, 1) := by decide +kernel
theorem dX5_save_77 : decode cX5_save 77 = .ok (.iaload, 1) := by decide +kernel
theorem dX5_save_78 : decode cX5_save 78 = .ok (.iastore, 1) := by decide +kernel
theorem dX5_save_79 : decode cX5_save 79 = .ok (.iinc 1 1, 3) := by decide +kernel
theorem dX5_save_82 : decode cX5_save 82 = .ok (.goto (-31), 3) := by decide +kernel
theorem dX5_save_85 : decode cX5_save 85 = .ok (.aload_n 0, 1) := by decide +kernel
theorem dX5_save_86 : decode cX5_save 86 = .ok (.dup, 1) := by decide +kernel
theorem dX5_save_87 : decode cX5_save 87 = .ok (.getfield 48, 3) := by decide +kernel
theorem dX5_save_90 : decode cX5_save 90 = .ok (.iconst 1, 1) := by decide +kernel
theorem dX5_save_91 : decode cX5_save 91 = .ok (.iadd, 1) := by decide +kernel
theorem dX5_save_92 : decode cX5_save 92 = .ok (.putfield 48, 3) := by decide +kernel
theorem dX5_save_95 : decode cX5_save 95 = .ok (.return_, 1) := by decide +kernel
theorem dX5_laysAside_0 : decode cX5_laysAside 0 = .ok (.iconst 0, 1) := by decide +kernel
theorem dX5_laysAside_1 : decode cX5_laysAside 1 = .ok (.istore_n 1, 1) := by decide +kernel
theorem dX5_laysAside_2 : decode cX5_laysAside 2 = .ok (.iload_n 1, 1) := by decide +kernel
theorem dX5_laysAside_3 : decode cX5_laysAside 3 = .ok (.sipush 188, 3) := by decide +kernel
theorem dX5_laysAside_6 : decode cX5_laysAside 6 = .ok (.if_icmp .ge 21, 3) := by decide +kernel
theorem dX5_laysAside_9 : decode cX5_laysAside 9 = .ok (.aload_n 0, 1) := by decide +kernel
theorem dX5_laysAside_10 : decode cX5_laysAside 10 = .ok (.getfield 16, 3) := by decide +kernel
theorem dX5_laysAside_13 : decode cX5_laysAside 13 = .ok (.iload_n 1, 1) := by decide +kernel
theorem dX5_laysAside_14 : decode cX5_laysAside 14 = .ok (.aload_n 0, 1) := by decide +kernel
theorem dX5_laysAside_15 : decode cX5_laysAside 15 = .ok (.getfield 7, 3) := by decide +kernel
theorem dX5_laysAside_18 : decode cX5_laysAside 18 = .ok (.iload_n 1, 1) := by decide +kernel
theorem dX5_laysAside_19 : decode cX5_laysAside 19 = .ok (.iaload, 1) := by decide +kernel
theorem dX5_laysAside_20 : decode cX5_laysAside 20 = .ok (.iastore, 1) := by decide +kernel
theorem dX5_laysAside_21 : decode cX5_laysAside 21 = .ok (.iinc 1 1, 3) := by decide +kernel
theorem dX5_laysAside_24 : decode cX5_laysAside 24 = .ok (.goto (-22), 3) := by decide +kernel
theorem dX5_laysAside_27 : decode cX5_laysAside 27 = .ok (.return_, 1) := by decide +kernel
theorem dX5_takesBack_0 : decode cX5_takesBack 0 = .ok (.iconst 0, 1) := by decide +kernel
theorem dX5_takesBack_1 : decode cX5_takesBack 1 = .ok (.istore_n 1, 1) := by decide +kernel
theorem dX5_takesBack_2 : decode cX5_takesBack 2 = .ok (.iload_n 1, 1) := by decide +kernel
theorem dX5_takesBack_3 : decode cX5_takesBack 3 = .ok (.sipush 188, 3) := by decide +kernel
theorem dX5_takesBack_6 : decode cX5_takesBack 6 = .ok (.if_icmp .ge 21, 3) := by decide +kernel
theorem dX5_takesBack_9 : decode cX5_takesBack 9 = .ok (.aload_n 0, 1) := by decide +kernel
theorem dX5_takesBack_10 : decode cX5_takesBack 10 = .ok (.getfield 7, 3) := by decide +kernel
theorem dX5_takesBack_13 : decode cX5_takesBack 13 = .ok (.iload_n 1, 1) := by decide +kernel
theorem dX5_takesBack_14 : decode cX5_takesBack 14 = .ok (.aload_n 0, 1) := by decide +kernel
theorem dX5_takesBack_15 : decode cX5_takesBack 15 = .ok (.getfield 16, 3) := by decide +kernel
theorem dX5_takesBack_18 : decode cX5_takesBack 18 = .ok (.iload_n 1, 1) := by decide +kernel
theorem dX5_takesBack_19 : decode cX5_takesBack 19 = .ok (.iaload, 1) := by decide +kernel
theorem dX5_takesBack_20 : decode cX5_takesBack 20 = .ok (.iastore, 1) := by decide +kernel
theorem dX5_takesBack_21 : decode cX5_takesBack 21 = .ok (.iinc 1 1, 3) := by decide +kernel
theorem dX5_takesBack_24 : decode cX5_takesBack 24 = .ok (.goto (-22), 3) := by decide +kernel
theorem dX5_takesBack_27 : decode cX5_takesBack 27 = .ok (.return_, 1) := by decide +kernel
theorem dX5_forgets_0 : decode cX5_forgets 0 = .ok (.iconst 0, 1) := by decide +kernel
theorem dX5_forgets_1 : decode cX5_forgets 1 = .ok (.istore_n 1, 1) := by decide +kernel
theorem dX5_forgets_2 : decode cX5_forgets 2 = .ok (.iload_n 1, 1) := by decide +kernel
theorem dX5_forgets_3 : decode cX5_forgets 3 = .ok (.bipush 64, 2) := by decide +kernel
theorem dX5_forgets_5 : decode cX5_forgets 5 = .ok (.if_icmp .ge 19, 3) := by decide +kernel
theorem dX5_forgets_8 : decode cX5_forgets 8 = .ok (.aload_n 0, 1) := by decide +kernel
theorem dX5_forgets_9 : decode cX5_forgets 9 = .ok (.getfield 7, 3) := by decide +kernel
theorem dX5_forgets_12 : decode cX5_forgets 12 = .ok (.bipush 28, 2) := by decide +kernel
theorem dX5_forgets_14 : decode cX5_forgets 14 = .ok (.iload_n 1, 1) := by decide +kernel
theorem dX5_forgets_15 : decode cX5_forgets 15 = .ok (.iadd, 1) := by decide +kernel
theorem dX5_forgets_16 : decode cX5_forgets 16 = .ok (.iconst (-1), 1) := by decide +kernel
theorem dX5_forgets_17 : decode cX5_forgets 17 = .ok (.iastore, 1) := by decide +kernel
theorem dX5_forgets_18 : decode cX5_forgets 18 = .ok (.iinc 1 1, 3) := by decide +kernel
theorem dX5_forgets_21 : decode cX5_forgets 21 = .ok (.goto (-19), 3) := by decide +kernel
theorem dX5_forgets_24 : decode cX5_forgets 24 = .ok (.aload_n 0, 1) := by decide +kernel
theorem dX5_forgets_25 : decode cX5_forgets 25 = .ok (.getfield 7, 3) := by decide +kernel
theorem dX5_forgets_28 : decode cX5_forgets 28 = .ok (.iconst 5, 1) := by decide +kernel
theorem dX5_forgets_29 : decode cX5_forgets 29 = .ok (.iconst 0, 1) := by decide +kernel
theorem dX5_forgets_30 : decode cX5_forgets 30 = .ok (.iastore, 1) := by decide +kernel
theorem dX5_forgets_31 : decode cX5_forgets 31 = .ok (.aload_n 0, 1) := by decide +kernel
theorem dX5_forgets_32 : decode cX5_forgets 32 = .ok (.getfield 7, 3) := by decide +kernel
theorem dX5_forgets_35 : decode cX5_forgets 35 = .ok (.bipush 6, 2) := by decide +kernel
theorem dX5_forgets_37 : decode cX5_forgets 37 = .ok (.iconst 0, 1) := by decide +kernel
theorem dX5_forgets_38 : decode cX5_forgets 38 = .ok (.iastore, 1) := by decide +kernel
theorem dX5_forgets_39 : decode cX5_forgets 39 = .ok (.return_, 1) := by decide +kernel
theorem dX5_many_0 : decode cX5_many 0 = .ok (.aload_n 0, 1) := by decide +kernel
theorem dX5_many_1 : decode cX5_many 1 = .ok (.getfield 7, 3) := by decide +kernel
theorem dX5_many_4 : decode cX5_many 4 = .ok (.iload_n 1, 1) := by decide +kernel
theorem dX5_many_5 : decode cX5_many 5 = .ok (.ifCond .eq 7, 3) := by decide +kernel
theorem dX5_many_8 : decode cX5_many 8 = .ok (.iconst 0, 1) := by decide +kernel
theorem dX5_many_9 : decode cX5_many 9 = .ok (.goto 4, 3) := by decide +kernel
theorem dX5_many_12 : decode cX5_many 12 = .ok (.iconst 1, 1) := by decide +kernel
theorem dX5_many_13 : decode cX5_many 13 = .ok (.iaload, 1) := by decide +kernel
theorem dX5_many_14 : decode cX5_many 14 = .ok (.ireturn, 1) := by decide +kernel
set_option maxRecDepth 20000 in
theorem ggX5_isGuest_X5_many : GoodIn wsX5_isGuest wsX5_many := goodIn_r _ [5, 6, 10, 11, 12, 13, 14, 15, 16, 17, 18, 19, 20, 21, 22, 23, 24, 25] (by decide +kernel) (by decide +kernel)
set_option maxRecDepth 20000 in
theorem gX5_isGuest_X5_many : GoodIn wsX5_isGuest (wsV RX5 51 RX5 yX5_many wsX5_many) := goodIn_app (goodIn_of _ (by decide +kernel)) ggX5_isGuest_X5_many
set_option maxRecDepth 20000 in
theorem ggX5_isGuest_X5_in : GoodIn wsX5_isGuest wsX5_in := goodIn_r _ [9] (by decide +kernel) (by decide +kernel)
set_option maxRecDepth 20000 in
theorem gX5_isGuest_X5_in : GoodIn wsX5_isGuest (va_wsS RX5 55 yX5_in wsX5_in) := goodIn_app (goodIn_of _ (by decide +kernel)) ggX5_isGuest_X5_in
theorem dX5_isGuest_0 : decode cX5_isGuest 0 = .ok (.iload_n 2, 1) := by decide +kernel
theorem dX5_isGuest_1 : decode cX5_isGuest 1 = .ok (.i2l, 1) := by decide +kernel
theorem dX5_isGuest_2 : decode cX5_isGuest 2 = .ok (.lconst 0, 1) := by decide +kernel
theorem dX5_isGuest_3 : decode cX5_isGuest 3 = .ok (.aload_n 0, 1) := by decide +kernel
theorem dX5_isGuest_4 : decode cX5_isGuest 4 = .ok (.iload_n 1, 1) := by decide +kernel
theorem dX5_isGuest_5 : decode cX5_isGuest 5 = .ok (.invokevirtual 51, 3) := by decide +kernel
theorem dX5_isGuest_8 : decode cX5_isGuest 8 = .ok (.i2l, 1) := by decide +kernel
theorem dX5_isGuest_9 : decode cX5_isGuest 9 = .ok (.lconst 1, 1) := by decide +kernel
theorem dX5_isGuest_10 : decode cX5_isGuest 10 = .ok (.lsub, 1) := by decide +kernel
theorem dX5_isGuest_11 : decode cX5_isGuest 11 = .ok (.invokestatic 55, 3) := by decide +kernel
theorem dX5_isGuest_14 : decode cX5_isGuest 14 = .ok (.ireturn, 1) := by decide +kernel
theorem dX5_isThere_0 : decode cX5_isThere 0 = .ok (.iload_n 1, 1) := by decide +kernel
theorem dX5_isThere_1 : decode cX5_isThere 1 = .ok (.bipush 8, 2) := by decide +kernel
theorem dX5_isThere_3 : decode cX5_isThere 3 = .ok (.if_icmp .ge 21, 3) := by decide +kernel
theorem dX5_isThere_6 : decode cX5_isThere 6 = .ok (.iload_n 1, 1) := by decide +kernel
theorem dX5_isThere_7 : decode cX5_isThere 7 = .ok (.aload_n 0, 1) := by decide +kernel
theorem dX5_isThere_8 : decode cX5_isThere 8 = .ok (.getfield 7, 3) := by decide +kernel
theorem dX5_isThere_11 : decode cX5_isThere 11 = .ok (.iconst 0, 1) := by decide +kernel
theorem dX5_isThere_12 : decode cX5_isThere 12 = .ok (.iaload, 1) := by decide +kernel
theorem dX5_isThere_13 : decode cX5_isThere 13 = .ok (.if_icmp .ge 7, 3) := by decide +kernel
theorem dX5_isThere_16 : decode cX5_isThere 16 = .ok (.iconst 1, 1) := by decide +kernel
theorem dX5_isThere_17 : decode cX5_isThere 17 = .ok (.goto 25, 3) := by decide +kernel
theorem dX5_isThere_20 : decode cX5_isThere 20 = .ok (.iconst 0, 1) := by decide +kernel
theorem dX5_isThere_21 : decode cX5_isThere 21 = .ok (.goto 21, 3) := by decide +kernel
theorem dX5_isThere_24 : decode cX5_isThere 24 = .ok (.iload_n 1, 1) := by decide +kernel
theorem dX5_isThere_25 : decode cX5_isThere 25 = .ok (.bipush 8, 2) := by decide +kernel
theorem dX5_isThere_27 : decode cX5_isThere 27 = .ok (.isub, 1) := by decide +kernel
theorem dX5_isThere_28 : decode cX5_isThere 28 = .ok (.aload_n 0, 1) := by decide +kernel
theorem dX5_isThere_29 : decode cX5_isThere 29 = .ok (.getfield 7, 3) := by decide +kernel
theorem dX5_isThere_32 : decode cX5_isThere 32 = .ok (.iconst 1, 1) := by decide +kernel
theorem dX5_isThere_33 : decode cX5_isThere 33 = .ok (.iaload, 1) := by decide +kernel
theorem dX5_isThere_34 : decode cX5_isThere 34 = .ok (.if_icmp .ge 7, 3) := by decide +kernel
theorem dX5_isThere_37 : decode cX5_isThere 37 = .ok (.iconst 1, 1) := by decide +kernel
theorem dX5_isThere_38 : decode cX5_isThere 38 = .ok (.goto 4, 3) := by decide +kernel
theorem dX5_isThere_41 : decode cX5_isThere 41 = .ok (.iconst 0, 1) := by decide +kernel
theorem dX5_isThere_42 : decode cX5_isThere 42 = .ok (.ireturn, 1) := by decide +kernel
theorem dX5_at_0 : decode cX5_at 0 = .ok (.bipush 92, 2) := by decide +kernel
theorem dX5_at_2 : decode cX5_at 2 = .ok (.bipush 6, 2) := by decide +kernel
theorem dX5_at_4 : decode cX5_at 4 = .ok (.iload_n 0, 1) := by decide +kernel
theorem dX5_at_5 : decode cX5_at 5 = .ok (.imul, 1) := by decide +kernel
theorem dX5_at_6 : decode cX5_at 6 = .ok (.iadd, 1) := by decide +kernel
theorem dX5_at_7 : decode cX5_at 7 = .ok (.iload_n 1, 1) := by decide +kernel
theorem dX5_at_8 : decode cX5_at 8 = .ok (.iadd, 1) := by decide +kernel
theorem dX5_at_9 : decode cX5_at 9 = .ok (.ireturn, 1) := by decide +kernel
theorem dX5_person_0 : decode cX5_person 0 = .ok (.iload_n 0, 1) := by decide +kernel
theorem dX5_person_1 : decode cX5_person 1 = .ok (.ifCond .eq 7, 3) := by decide +kernel
theorem dX5_person_4 : decode cX5_person 4 = .ok (.iload_n 1, 1) := by decide +kernel
theorem dX5_person_5 : decode cX5_person 5 = .ok (.goto 7, 3) := by decide +kernel
theorem dX5_person_8 : decode cX5_person 8 = .ok (.bipush 8, 2) := by decide +kernel
theorem dX5_person_10 : decode cX5_person 10 = .ok (.iload_n 1, 1) := by decide +kernel
theorem dX5_person_11 : decode cX5_person 11 = .ok (.iadd, 1) := by decide +kernel
theorem dX5_person_12 : decode cX5_person 12 = .ok (.ireturn, 1) := by decide +kernel
set_option maxRecDepth 20000 in
theorem ggX5_of_X5_at : GoodIn wsX5_of wsX5_at := goodIn_r _ [5] (by decide +kernel) (by decide +kernel)
set_option maxRecDepth 20000 in
theorem gX5_of_X5_at : GoodIn wsX5_of (va_wsS RX5 59 yX5_at wsX5_at) := goodIn_app (goodIn_of _ (by decide +kernel)) ggX5_of_X5_at
theorem dX5_of_0 : decode cX5_of 0 = .ok (.aload_n 0, 1) := by decide +kernel
theorem dX5_of_1 : decode cX5_of 1 = .ok (.getfield 7, 3) := by decide +kernel
theorem dX5_of_4 : decode cX5_of 4 = .ok (.iload_n 1, 1) := by decide +kernel
theorem dX5_of_5 : decode cX5_of 5 = .ok (.iload_n 2, 1) := by decide +kernel
theorem dX5_of_6 : decode cX5_of 6 = .ok (.invokestatic 59, 3) := by decide +kernel
theorem dX5_of_9 : decode cX5_of 9 = .ok (.iaload, 1) := by decide +kernel
theorem dX5_of_10 : decode cX5_of 10 = .ok (.ireturn, 1) := by decide +kernel
set_option maxRecDepth 20000 in
theorem ggX5_adds_X5_many : GoodIn wsX5_adds wsX5_many := goodIn_r _ [6, 1, 13, 14, 15, 16, 17, 18, 19, 20, 21, 22, 23, 24, 25, 26, 27, 28] (by decide +kernel) (by decide +kernel)
set_option maxRecDepth 20000 in
theorem gX5_adds_X5_many : GoodIn wsX5_adds (wsV RX5 51 RX5 yX5_many wsX5_many) := goodIn_app (goodIn_of _ (by decide +kernel)) ggX5_adds_X5_many
set_option maxRecDepth 20000 in
theorem ggX5_adds_X5_person : GoodIn wsX5_adds wsX5_person := goodIn_r _ [9] (by decide +kernel) (by decide +kernel)
set_option maxRecDepth 20000 in
theorem gX5_adds_X5_person : GoodIn wsX5_adds (va_wsS RX5 63 yX5_person wsX5_person) := goodIn_app (goodIn_of _ (by decide +kernel)) ggX5_adds_X5_person
set_option maxRecDepth 20000 in
theorem ggX5_adds_X5_at : GoodIn wsX5_adds wsX5_at := goodIn_r _ [12] (by decide +kernel) (by decide +kernel)
set_option maxRecDepth 20000 in
theorem gX5_adds_X5_at : GoodIn wsX5_adds (va_wsS RX5 59 yX5_at wsX5_at) := goodIn_app (goodIn_of _ (by decide +kernel)) ggX5_adds_X5_at
theorem dX5_adds_0 : decode cX5_adds 0 = .ok (.iload_n 1, 1) := by decide +kernel
theorem dX5_adds_1 : decode cX5_adds 1 = .ok (.aload_n 0, 1) := by decide +kernel
theorem dX5_adds_2 : decode cX5_adds 2 = .ok (.iload_n 1, 1) := by decide +kernel
theorem dX5_adds_3 : decode cX5_adds 3 = .ok (.invokevirtual 51, 3) := by decide +kernel
theorem dX5_adds_6 : decode cX5_adds 6 = .ok (.invokestatic 63, 3) := by decide +kernel
theorem dX5_adds_9 : decode cX5_adds 9 = .ok (.istore 5, 2) := by decide +kernel
theorem dX5_adds_11 : decode cX5_adds 11 = .ok (.aload_n 0, 1) := by decide +kernel
theorem dX5_adds_12 : decode cX5_adds 12 = .ok (.getfield 7, 3) := by decide +kernel
theorem dX5_adds_15 : decode cX5_adds 15 = .ok (.iload 5, 2) := by decide +kernel
theorem dX5_adds_17 : decode cX5_adds 17 = .ok (.iconst 0, 1) := by decide +kernel
theorem dX5_adds_18 : decode cX5_adds 18 = .ok (.invokestatic 59, 3) := by decide +kernel
theorem dX5_adds_21 : decode cX5_adds 21 = .ok (.iload_n 2, 1) := by decide +kernel
theorem dX5_adds_22 : decode cX5_adds 22 = .ok (.iastore, 1) := by decide +kernel
theorem dX5_adds_23 : decode cX5_adds 23 = .ok (.aload_n 0, 1) := by decide +kernel
theorem dX5_adds_24 : decode cX5_adds 24 = .ok (.getfield 7, 3) := by decide +kernel
theorem dX5_adds_27 : decode cX5_adds 27 = .ok (.iload 5, 2) := by decide +kernel
theorem dX5_adds_29 : decode cX5_adds 29 = .ok (.iconst 1, 1) := by decide +kernel
theorem dX5_adds_30 : decode cX5_adds 30 = .ok (.invokestatic 59, 3) := by decide +kernel
theorem dX5_adds_33 : decode cX5_adds 33 = .ok (.iload_n 3, 1) := by decide +kernel
theorem dX5_adds_34 : decode cX5_adds 34 = .ok (.iastore, 1) := by decide +kernel
theorem dX5_adds_35 : decode cX5_adds 35 = .ok (.aload_n 0, 1) := by decide +kernel
theorem dX5_adds_36 : decode cX5_adds 36 = .ok (.getfield 7, 3) := by decide +kernel
theorem dX5_adds_39 : decode cX5_adds 39 = .ok (.iload 5, 2) := by decide +kernel
theorem dX5_adds_41 : decode cX5_adds 41 = .ok (.iconst 2, 1) := by decide +kernel
theorem dX5_adds_42 : decode cX5_adds 42 = .ok (.invokestatic 59, 3) := by decide +kernel
theorem dX5_adds_45 : decode cX5_adds 45 = .ok (.iload 4, 2) := by decide +kernel
theorem dX5_adds_47 : decode cX5_adds 47 = .ok (.ifCond .eq 7, 3) := by decide +kernel
theorem dX5_adds_50 : decode cX5_adds 50 = .ok (.iconst 1, 1) := by decide +kernel
theorem dX5_adds_51 : decode cX5_adds 51 = .ok (.goto 4, 3) := by decide +kernel
theorem dX5_adds_54 : decode cX5_adds 54 = .ok (.iconst 0, 1) := by decide +kernel
theorem dX5_adds_55 : decode cX5_adds 55 = .ok (.iastore, 1) := by decide +kernel
theorem dX5_adds_56 : decode cX5_adds 56 = .ok (.aload_n 0, 1) := by decide +kernel
theorem dX5_adds_57 : decode cX5_adds 57 = .ok (.getfield 7, 3) := by decide +kernel
theorem dX5_adds_60 : decode cX5_adds 60 = .ok (.iload 5, 2) := by decide +kernel
theorem dX5_adds_62 : decode cX5_adds 62 = .ok (.iconst 3, 1) := by decide +kernel
theorem dX5_adds_63 : decode cX5_adds 63 = .ok (.invokestatic 59, 3) := by decide +kernel
theorem dX5_adds_66 : decode cX5_adds 66 = .ok (.iconst 1, 1) := by decide +kernel
theorem dX5_adds_67 : decode cX5_adds 67 = .ok (.iastore, 1) := by decide +kernel
theorem dX5_adds_68 : decode cX5_adds 68 = .ok (.aload_n 0, 1) := by decide +kernel
theorem dX5_adds_69 : decode cX5_adds 69 = .ok (.getfield 7, 3) := by decide +kernel
theorem dX5_adds_72 : decode cX5_adds 72 = .ok (.iload 5, 2) := by decide +kernel
theorem dX5_adds_74 : decode cX5_adds 74 = .ok (.iconst 4, 1) := by decide +kernel
theorem dX5_adds_75 : decode cX5_adds 75 = .ok (.invokestatic 59, 3) := by decide +kernel
theorem dX5_adds_78 : decode cX5_adds 78 = .ok (.iconst 0, 1) := by decide +kernel
theorem dX5_adds_79 : decode cX5_adds 79 = .ok (.iastore, 1) := by decide +kernel
theorem dX5_adds_80 : decode cX5_adds 80 = .ok (.aload_n 0, 1) := by decide +kernel
theorem dX5_adds_81 : decode cX5_adds 81 = .ok (.getfield 7, 3) := by decide +kernel
theorem dX5_adds_84 : decode cX5_adds 84 = .ok (.iload 5, 2) := by decide +kernel
theorem dX5_adds_86 : decode cX5_adds 86 = .ok (.iconst 5, 1) := by decide +kernel
theorem dX5_adds_87 : decode cX5_adds 87 = .ok (.invokestatic 59, 3) := by decide +kernel
theorem dX5_adds_90 : decode cX5_adds 90 = .ok (.iconst 0, 1) := by decide +kernel
theorem dX5_adds_91 : decode cX5_adds 91 = .ok (.iastore, 1) := by decide +kernel
theorem dX5_adds_92 : decode cX5_adds 92 = .ok (.aload_n 0, 1) := by decide +kernel
theorem dX5_adds_93 : decode cX5_adds 93 = .ok (.getfield 7, 3) := by decide +kernel
theorem dX5_adds_96 : decode cX5_adds 96 = .ok (.iload_n 1, 1) := by decide +kernel
theorem dX5_adds_97 : decode cX5_adds 97 = .ok (.ifCond .eq 7, 3) := by decide +kernel
theorem dX5_adds_100 : decode cX5_adds 100 = .ok (.iconst 0, 1) := by decide +kernel
theorem dX5_adds_101 : decode cX5_adds 101 = .ok (.goto 4, 3) := by decide +kernel
theorem dX5_adds_104 : decode cX5_adds 104 = .ok (.iconst 1, 1) := by decide +kernel
theorem dX5_adds_105 : decode cX5_adds 105 = .ok (.dup2, 1) := by decide +kernel
theorem dX5_adds_106 : decode cX5_adds 106 = .ok (.iaload, 1) := by decide +kernel
theorem dX5_adds_107 : decode cX5_adds 107 = .ok (.iconst 1, 1) := by decide +kernel
theorem dX5_adds_108 : decode cX5_adds 108 = .ok (.iadd, 1) := by decide +kernel
theorem dX5_adds_109 : decode cX5_adds 109 = .ok (.iastore, 1) := by decide +kernel
theorem dX5_adds_110 : decode cX5_adds 110 = .ok (.return_, 1) := by decide +kernel
set_option maxRecDepth 20000 in
theorem ggX5_addGuest_X5_in : GoodIn wsX5_addGuest wsX5_in := goodIn_r _ [6] (by decide +kernel) (by decide +kernel)
set_option maxRecDepth 20000 in
theorem gX5_addGuest_X5_in : GoodIn wsX5_addGuest (va_wsS RX5 55 yX5_in wsX5_in) := goodIn_app (goodIn_of _ (by decide +kernel)) ggX5_addGuest_X5_in
set_option maxRecDepth 20000 in
theorem ggX5_addGuest_X5_throwing : GoodIn wsX5_addGuest wsX5_throwing := goodIn_r _ [10, 11, 37, 38, 39, 40, 41, 42, 43, 44, 45, 46, 47, 48, 49, 50, 51, 52] (by decide +kernel) (by decide +kernel)
set_option maxRecDepth 20000 in
theorem gX5_addGuest_X5_throwing : GoodIn wsX5_addGuest (wsV RX5 71 RX5 yX5_throwing wsX5_throwing) := goodIn_app (goodIn_of _ (by decide +kernel)) ggX5_addGuest_X5_throwing
set_option maxRecDepth 20000 in
theorem ggX5_addGuest_X5_many : GoodIn wsX5_addGuest wsX5_many := goodIn_r _ [15, 16, 37, 38, 39, 40, 41, 42, 43, 44, 45, 46, 47, 48, 49, 50, 51, 52] (by decide +kernel) (by decide +kernel)
set_option maxRecDepth 20000 in
theorem gX5_addGuest_X5_many : GoodIn wsX5_addGuest (wsV RX5 51 RX5 yX5_many wsX5_many) := goodIn_app (goodIn_of _ (by decide +kernel)) ggX5_addGuest_X5_many
set_option maxRecDepth 20000 in
theorem ggX5_addGuest_X5_save : GoodIn wsX5_addGuest wsX5_save := goodIn_r _ [20, 21, 22, 16, 37, 38, 39, 40, 41, 42, 43, 44, 45, 46, 47, 48, 49, 50, 51, 52] (by decide +kernel) (by decide +kernel)
set_option maxRecDepth 20000 in
theorem gX5_addGuest_X5_save : GoodIn wsX5_addGuest (wsV RX5 75 RX5 yX5_save wsX5_save) := goodIn_app (goodIn_of _ (by decide +kernel)) ggX5_addGuest_X5_save
set_option maxRecDepth 20000 in
theorem ggX5_addGuest_X5_adds : GoodIn wsX5_addGuest wsX5_adds := goodIn_r _ [26, 16, 12, 13, 14, 5, 15, 27, 28, 29, 30, 31, 32, 37, 38, 39, 40, 41, 42, 43, 44, 45, 46, 47, 48, 49, 50, 51, 52] (by decide +kernel) (by decide +kernel)
set_option maxRecDepth 20000 in
theorem gX5_addGuest_X5_adds : GoodIn wsX5_addGuest (wsV RX5 78 RX5 yX5_adds wsX5_adds) := goodIn_app (goodIn_of _ (by decide +kernel)) ggX5_addGuest_X5_adds
set_option maxRecDepth 20000 in
theorem ggX5_addGuest_X5_fine : GoodIn wsX5_addGuest wsX5_fine := goodIn_r _ [36, 11, 37, 38, 39, 40, 41, 42, 43, 44, 45, 46, 47, 48, 49, 50, 51, 52] (by decide +kernel) (by decide +kernel)
set_option maxRecDepth 20000 in
theorem gX5_addGuest_X5_fine : GoodIn wsX5_addGuest (wsV RX5 82 RX5 yX5_fine wsX5_fine) := goodIn_app (goodIn_of _ (by decide +kernel)) ggX5_addGuest_X5_fine
theorem dX5_addGuest_0 : decode cX5_addGuest 0 = .ok (.iload_n 2, 1) := by decide +kernel
theorem dX5_addGuest_1 : decode cX5_addGuest 1 = .ok (.i2l, 1) := by decide +kernel
theorem dX5_addGuest_2 : decode cX5_addGuest 2 = .ok (.lconst 0, 1) := by decide +kernel
theorem dX5_addGuest_3 : decode cX5_addGuest 3 = .ok (.ldc2_w 67, 3) := by decide +kernel
theorem dX5_addGuest_6 : decode cX5_addGuest 6 = .ok (.invokestatic 55, 3) := by decide +kernel
theorem dX5_addGuest_9 : decode cX5_addGuest 9 = .ok (.ifCond .eq 15, 3) := by decide +kernel
theorem dX5_addGuest_12 : decode cX5_addGuest 12 = .ok (.iload_n 3, 1) := by decide +kernel
theorem dX5_addGuest_13 : decode cX5_addGuest 13 = .ok (.i2l, 1) := by decide +kernel
theorem dX5_addGuest_14 : decode cX5_addGuest 14 = .ok (.lconst 1, 1) := by decide +kernel
theorem dX5_addGuest_15 : decode cX5_addGuest 15 = .ok (.ldc2_w 69, 3) := by decide +kernel
theorem dX5_addGuest_18 : decode cX5_addGuest 18 = .ok (.invokestatic 55, 3) := by decide +kernel
theorem dX5_addGuest_21 : decode cX5_addGuest 21 = .ok (.ifCond .ne 9, 3) := by decide +kernel
theorem dX5_addGuest_24 : decode cX5_addGuest 24 = .ok (.aload_n 0, 1) := by decide +kernel
theorem dX5_addGuest_25 : decode cX5_addGuest 25 = .ok (.iconst 1, 1) := by decide +kernel
theorem dX5_addGuest_26 : decode cX5_addGuest 26 = .ok (.invokevirtual 71, 3) := by decide +kernel
theorem dX5_addGuest_29 : decode cX5_addGuest 29 = .ok (.ireturn, 1) := by decide +kernel
theorem dX5_addGuest_30 : decode cX5_addGuest 30 = .ok (.aload_n 0, 1) := by decide +kernel
theorem dX5_addGuest_31 : decode cX5_addGuest 31 = .ok (.iload_n 1, 1) := by decide +kernel
theorem dX5_addGuest_32 : decode cX5_addGuest 32 = .ok (.invokevirtual 51, 3) := by decide +kernel
theorem dX5_addGuest_35 : decode cX5_addGuest 35 = .ok (.bipush 8, 2) := by decide +kernel
theorem dX5_addGuest_37 : decode cX5_addGuest 37 = .ok (.if_icmp .ne 9, 3) := by decide +kernel
theorem dX5_addGuest_40 : decode cX5_addGuest 40 = .ok (.aload_n 0, 1) := by decide +kernel
theorem dX5_addGuest_41 : decode cX5_addGuest 41 = .ok (.iconst 2, 1) := by decide +kernel
theorem dX5_addGuest_42 : decode cX5_addGuest 42 = .ok (.invokevirtual 71, 3) := by decide +kernel
theorem dX5_addGuest_45 : decode cX5_addGuest 45 = .ok (.ireturn, 1) := by decide +kernel
theorem dX5_addGuest_46 : decode cX5_addGuest 46 = .ok (.aload_n 0, 1) := by decide +kernel
theorem dX5_addGuest_47 : decode cX5_addGuest 47 = .ok (.invokevirtual 75, 3) := by decide +kernel
theorem dX5_addGuest_50 : decode cX5_addGuest 50 = .ok (.aload_n 0, 1) := by decide +kernel
theorem dX5_addGuest_51 : decode cX5_addGuest 51 = .ok (.iload_n 1, 1) := by decide +kernel
theorem dX5_addGuest_52 : decode cX5_addGuest 52 = .ok (.iload_n 2, 1) := by decide +kernel
theorem dX5_addGuest_53 : decode cX5_addGuest 53 = .ok (.iload_n 3, 1) := by decide +kernel
theorem dX5_addGuest_54 : decode cX5_addGuest 54 = .ok (.iload 4, 2) := by decide +kernel
theorem dX5_addGuest_56 : decode cX5_addGuest 56 = .ok (.invokevirtual 78, 3) := by decide +kernel
theorem dX5_addGuest_59 : decode cX5_addGuest 59 = .ok (.aload_n 0, 1) := by decide +kernel
theorem dX5_addGuest_60 : decode cX5_addGuest 60 = .ok (.aload_n 0, 1) := by decide +kernel
theorem dX5_addGuest_61 : decode cX5_addGuest 61 = .ok (.iload_n 1, 1) := by decide +kernel
theorem dX5_addGuest_62 : decode cX5_addGuest 62 = .ok (.invokevirtual 51, 3) := by decide +kernel
theorem dX5_addGuest_65 : decode cX5_addGuest 65 = .ok (.iconst 1, 1) := by decide +kernel
theorem dX5_addGuest_66 : decode cX5_addGuest 66 = .ok (.isub, 1) := by decide +kernel
theorem dX5_addGuest_67 : decode cX5_addGuest 67 = .ok (.invokevirtual 82, 3) := by decide +kernel
theorem dX5_addGuest_70 : decode cX5_addGuest 70 = .ok (.ireturn, 1) := by decide +kernel
set_option maxRecDepth 20000 in
theorem ggX5_giveTokens_X5_isGuest : GoodIn wsX5_giveTokens wsX5_isGuest := goodIn_r _ [8, 9, 10, 11, 7, 12, 3, 13, 14, 15, 41, 42, 43, 44, 45, 46, 47, 48, 49, 50, 51, 52, 53, 54, 55, 56] (by decide +kernel) (by decide +kernel)
set_option maxRecDepth 20000 in
theorem gX5_giveTokens_X5_isGuest : GoodIn wsX5_giveTokens (wsV RX5 85 RX5 yX5_isGuest wsX5_isGuest) := goodIn_app (goodIn_of _ (by decide +kernel)) ggX5_giveTokens_X5_isGuest
set_option maxRecDepth 20000 in
theorem ggX5_giveTokens_X5_throwing : GoodIn wsX5_giveTokens wsX5_throwing := goodIn_r _ [19, 20, 41, 42, 43, 44, 45, 46, 47, 48, 49, 50, 51, 52, 53, 54, 55, 56] (by decide +kernel) (by decide +kernel)
set_option maxRecDepth 20000 in
theorem gX5_giveTokens_X5_throwing : GoodIn wsX5_giveTokens (wsV RX5 71 RX5 yX5_throwing wsX5_throwing) := goodIn_app (goodIn_of _ (by decide +kernel)) ggX5_giveTokens_X5_throwing
set_option maxRecDepth 20000 in
theorem ggX5_giveTokens_X5_in : GoodIn wsX5_giveTokens wsX5_in := goodIn_r _ [15] (by decide +kernel) (by decide +kernel)
set_option maxRecDepth 20000 in
theorem gX5_giveTokens_X5_in : GoodIn wsX5_giveTokens (va_wsS RX5 55 yX5_in wsX5_in) := goodIn_app (goodIn_of _ (by decide +kernel)) ggX5_giveTokens_X5_in
set_option maxRecDepth 20000 in
theorem ggX5_giveTokens_X5_person : GoodIn wsX5_giveTokens wsX5_person := goodIn_r _ [23] (by decide +kernel) (by decide +kernel)
set_option maxRecDepth 20000 in
theorem gX5_giveTokens_X5_person : GoodIn wsX5_giveTokens (va_wsS RX5 63 yX5_person wsX5_person) := goodIn_app (goodIn_of _ (by decide +kernel)) ggX5_giveTokens_X5_person
set_option maxRecDepth 20000 in
theorem ggX5_giveTokens_X5_of : GoodIn wsX5_giveTokens wsX5_of := goodIn_r _ [27, 3, 28, 29, 7, 30, 41, 42, 43, 44, 45, 46, 47, 48, 49, 50, 51, 52, 53, 54, 55, 56] (by decide +kernel) (by decide +kernel)
set_option maxRecDepth 20000 in
theorem gX5_giveTokens_X5_of : GoodIn wsX5_giveTokens (wsV RX5 91 RX5 yX5_of wsX5_of) := goodIn_app (goodIn_of _ (by decide +kernel)) ggX5_giveTokens_X5_of
set_option maxRecDepth 20000 in
theorem ggX5_giveTokens_X5_save : GoodIn wsX5_giveTokens wsX5_save := goodIn_r _ [34, 35, 36, 3, 41, 42, 43, 44, 45, 46, 47, 48, 49, 50, 51, 52, 53, 54, 55, 56] (by decide +kernel) (by decide +kernel)
set_option maxRecDepth 20000 in
theorem gX5_giveTokens_X5_save : GoodIn wsX5_giveTokens (wsV RX5 75 RX5 yX5_save wsX5_save) := goodIn_app (goodIn_of _ (by decide +kernel)) ggX5_giveTokens_X5_save
set_option maxRecDepth 20000 in
theorem ggX5_giveTokens_X5_at : GoodIn wsX5_giveTokens wsX5_at := goodIn_r _ [30] (by decide +kernel) (by decide +kernel)
set_option maxRecDepth 20000 in
theorem gX5_giveTokens_X5_at : GoodIn wsX5_giveTokens (va_wsS RX5 59 yX5_at wsX5_at) := goodIn_app (goodIn_of _ (by decide +kernel)) ggX5_giveTokens_X5_at
set_option maxRecDepth 20000 in
theorem ggX5_giveTokens_X5_fine : GoodIn wsX5_giveTokens wsX5_fine := goodIn_r _ [40, 20, 41, 42, 43, 44, 45, 46, 47, 48, 49, 50, 51, 52, 53, 54, 55, 56] (by decide +kernel) (by decide +kernel)
set_option maxRecDepth 20000 in
theorem gX5_giveTokens_X5_fine : GoodIn wsX5_giveTokens (wsV RX5 82 RX5 yX5_fine wsX5_fine) := goodIn_app (goodIn_of _ (by decide +kernel)) ggX5_giveTokens_X5_fine
theorem dX5_giveTokens_0 : decode cX5_giveTokens 0 = .ok (.aload_n 0, 1) := by decide +kernel
theorem dX5_giveTokens_1 : decode cX5_giveTokens 1 = .ok (.iload_n 1, 1) := by decide +kernel
theorem dX5_giveTokens_2 : decode cX5_giveTokens 2 = .ok (.iload_n 2, 1) := by decide +kernel
theorem dX5_giveTokens_3 : decode cX5_giveTokens 3 = .ok (.invokevirtual 85, 3) := by decide +kernel
theorem dX5_giveTokens_6 : decode cX5_giveTokens 6 = .ok (.ifCond .ne 9, 3) := by decide +kernel
theorem dX5_giveTokens_9 : decode cX5_giveTokens 9 = .ok (.aload_n 0, 1) := by decide +kernel
theorem dX5_giveTokens_10 : decode cX5_giveTokens 10 = .ok (.iconst 1, 1) := by decide +kernel
theorem dX5_giveTokens_11 : decode cX5_giveTokens 11 = .ok (.invokevirtual 71, 3) := by decide +kernel
theorem dX5_giveTokens_14 : decode cX5_giveTokens 14 = .ok (.ireturn, 1) := by decide +kernel
theorem dX5_giveTokens_15 : decode cX5_giveTokens 15 = .ok (.iload_n 3, 1) := by decide +kernel
theorem dX5_giveTokens_16 : decode cX5_giveTokens 16 = .ok (.i2l, 1) := by decide +kernel
theorem dX5_giveTokens_17 : decode cX5_giveTokens 17 = .ok (.ldc2_w 89, 3) := by decide +kernel
theorem dX5_giveTokens_20 : decode cX5_giveTokens 20 = .ok (.ldc2_w 67, 3) := by decide +kernel
theorem dX5_giveTokens_23 : decode cX5_giveTokens 23 = .ok (.invokestatic 55, 3) := by decide +kernel
theorem dX5_giveTokens_26 : decode cX5_giveTokens 26 = .ok (.ifCond .ne 9, 3) := by decide +kernel
theorem dX5_giveTokens_29 : decode cX5_giveTokens 29 = .ok (.aload_n 0, 1) := by decide +kernel
theorem dX5_giveTokens_30 : decode cX5_giveTokens 30 = .ok (.iconst 2, 1) := by decide +kernel
theorem dX5_giveTokens_31 : decode cX5_giveTokens 31 = .ok (.invokevirtual 71, 3) := by decide +kernel
theorem dX5_giveTokens_34 : decode cX5_giveTokens 34 = .ok (.ireturn, 1) := by decide +kernel
theorem dX5_giveTokens_35 : decode cX5_giveTokens 35 = .ok (.iload_n 1, 1) := by decide +kernel
theorem dX5_giveTokens_36 : decode cX5_giveTokens 36 = .ok (.iload_n 2, 1) := by decide +kernel
theorem dX5_giveTokens_37 : decode cX5_giveTokens 37 = .ok (.invokestatic 63, 3) := by decide +kernel
theorem dX5_giveTokens_40 : decode cX5_giveTokens 40 = .ok (.istore 4, 2) := by decide +kernel
theorem dX5_giveTokens_42 : decode cX5_giveTokens 42 = .ok (.aload_n 0, 1) := by decide +kernel
theorem dX5_giveTokens_43 : decode cX5_giveTokens 43 = .ok (.iload 4, 2) := by decide +kernel
theorem dX5_giveTokens_45 : decode cX5_giveTokens 45 = .ok (.iconst 0, 1) := by decide +kernel
theorem dX5_giveTokens_46 : decode cX5_giveTokens 46 = .ok (.invokevirtual 91, 3) := by decide +kernel
theorem dX5_giveTokens_49 : decode cX5_giveTokens 49 = .ok (.iload_n 3, 1) := by decide +kernel
theorem dX5_giveTokens_50 : decode cX5_giveTokens 50 = .ok (.iadd, 1) := by decide +kernel
theorem dX5_giveTokens_51 : decode cX5_giveTokens 51 = .ok (.i2l, 1) := by decide +kernel
theorem dX5_giveTokens_52 : decode cX5_giveTokens 52 = .ok (.lconst 0, 1) := by decide +kernel
theorem dX5_giveTokens_53 : decode cX5_giveTokens 53 = .ok (.ldc2_w 67, 3) := by decide +kernel
theorem dX5_giveTokens_56 : decode cX5_giveTokens 56 = .ok (.invokestatic 55, 3) := by decide +kernel
theorem dX5_giveTokens_59 : decode cX5_giveTokens 59 = .ok (.ifCond .ne 9, 3) := by decide +kernel
theorem dX5_giveTokens_62 : decode cX5_giveTokens 62 = .ok (.aload_n 0, 1) := by decide +kernel
theorem dX5_giveTokens_63 : decode cX5_giveTokens 63 = .ok (.iconst 3, 1) := by decide +kernel
theorem dX5_giveTokens_64 : decode cX5_giveTokens 64 = .ok (.invokevirtual 71, 3) := by decide +kernel
theorem dX5_giveTokens_67 : decode cX5_giveTokens 67 = .ok (.ireturn, 1) := by decide +kernel
theorem dX5_giveTokens_68 : decode cX5_giveTokens 68 = .ok (.aload_n 0, 1) := by decide +kernel
theorem dX5_giveTokens_69 : decode cX5_giveTokens 69 = .ok (.invokevirtual 75, 3) := by decide +kernel
theorem dX5_giveTokens_72 : decode cX5_giveTokens 72 = .ok (.aload_n 0, 1) := by decide +kernel
theorem dX5_giveTokens_73 : decode cX5_giveTokens 73 = .ok (.getfield 7, 3) := by decide +kernel
theorem dX5_giveTokens_76 : decode cX5_giveTokens 76 = .ok (.iload 4, 2) := by decide +kernel
theorem dX5_giveTokens_78 : decode cX5_giveTokens 78 = .ok (.iconst 0, 1) := by decide +kernel
theorem dX5_giveTokens_79 : decode cX5_giveTokens 79 = .ok (.invokestatic 59, 3) := by decide +kernel
theorem dX5_giveTokens_82 : decode cX5_giveTokens 82 = .ok (.dup2, 1) := by decide +kernel
theorem dX5_giveTokens_83 : decode cX5_giveTokens 83 = .ok (.iaload, 1) := by decide +kernel
theorem dX5_giveTokens_84 : decode cX5_giveTokens 84 = .ok (.iload_n 3, 1) := by decide +kernel
theorem dX5_giveTokens_85 : decode cX5_giveTokens 85 = .ok (.iadd, 1) := by decide +kernel
theorem dX5_giveTokens_86 : decode cX5_giveTokens 86 = .ok (.iastore, 1) := by decide +kernel
theorem dX5_giveTokens_87 : decode cX5_giveTokens 87 = .ok (.aload_n 0, 1) := by decide +kernel
theorem dX5_giveTokens_88 : decode cX5_giveTokens 88 = .ok (.aload_n 0, 1) := by decide +kernel
theorem dX5_giveTokens_89 : decode cX5_giveTokens 89 = .ok (.iload 4, 2) := by decide +kernel
theorem dX5_giveTokens_91 : decode cX5_giveTokens 91 = .ok (.iconst 0, 1) := by decide +kernel
theorem dX5_giveTokens_92 : decode cX5_giveTokens 92 = .ok (.invokevirtual 91, 3) := by decide +kernel
theorem dX5_giveTokens_95 : decode cX5_giveTokens 95 = .ok (.invokevirtual 82, 3) := by decide +kernel
theorem dX5_giveTokens_98 : decode cX5_giveTokens 98 = .ok (.ireturn, 1) := by decide +kernel
set_option maxRecDepth 20000 in
theorem ggX5_setHere_X5_isGuest : GoodIn wsX5_setHere wsX5_isGuest := goodIn_r _ [6, 7, 8, 9, 5, 10, 1, 11, 12, 13, 39, 40, 41, 42, 43, 44, 45, 46, 47, 48, 49, 50, 51, 52, 53, 54] (by decide +kernel) (by decide +kernel)
set_option maxRecDepth 20000 in
theorem gX5_setHere_X5_isGuest : GoodIn wsX5_setHere (wsV RX5 85 RX5 yX5_isGuest wsX5_isGuest) := goodIn_app (goodIn_of _ (by decide +kernel)) ggX5_setHere_X5_isGuest
set_option maxRecDepth 20000 in
theorem ggX5_setHere_X5_throwing : GoodIn wsX5_setHere wsX5_throwing := goodIn_r _ [17, 18, 39, 40, 41, 42, 43, 44, 45, 46, 47, 48, 49, 50, 51, 52, 53, 54] (by decide +kernel) (by decide +kernel)
set_option maxRecDepth 20000 in
theorem gX5_setHere_X5_throwing : GoodIn wsX5_setHere (wsV RX5 71 RX5 yX5_throwing wsX5_throwing) := goodIn_app (goodIn_of _ (by decide +kernel)) ggX5_setHere_X5_throwing
set_option maxRecDepth 20000 in
theorem ggX5_setHere_X5_save : GoodIn wsX5_setHere wsX5_save := goodIn_r _ [22, 23, 24, 1, 39, 40, 41, 42, 43, 44, 45, 46, 47, 48, 49, 50, 51, 52, 53, 54] (by decide +kernel) (by decide +kernel)
set_option maxRecDepth 20000 in
theorem gX5_setHere_X5_save : GoodIn wsX5_setHere (wsV RX5 75 RX5 yX5_save wsX5_save) := goodIn_app (goodIn_of _ (by decide +kernel)) ggX5_setHere_X5_save
set_option maxRecDepth 20000 in
theorem ggX5_setHere_X5_person : GoodIn wsX5_setHere wsX5_person := goodIn_r _ [27] (by decide +kernel) (by decide +kernel)
set_option maxRecDepth 20000 in
theorem gX5_setHere_X5_person : GoodIn wsX5_setHere (va_wsS RX5 63 yX5_person wsX5_person) := goodIn_app (goodIn_of _ (by decide +kernel)) ggX5_setHere_X5_person
set_option maxRecDepth 20000 in
theorem ggX5_setHere_X5_of : GoodIn wsX5_setHere wsX5_of := goodIn_r _ [31, 1, 32, 33, 5, 34, 39, 40, 41, 42, 43, 44, 45, 46, 47, 48, 49, 50, 51, 52, 53, 54] (by decide +kernel) (by decide +kernel)
set_option maxRecDepth 20000 in
theorem gX5_setHere_X5_of : GoodIn wsX5_setHere (wsV RX5 91 RX5 yX5_of wsX5_of) := goodIn_app (goodIn_of _ (by decide +kernel)) ggX5_setHere_X5_of
set_option maxRecDepth 20000 in
theorem ggX5_setHere_X5_at : GoodIn wsX5_setHere wsX5_at := goodIn_r _ [34] (by decide +kernel) (by decide +kernel)
set_option maxRecDepth 20000 in
theorem gX5_setHere_X5_at : GoodIn wsX5_setHere (va_wsS RX5 59 yX5_at wsX5_at) := goodIn_app (goodIn_of _ (by decide +kernel)) ggX5_setHere_X5_at
set_option maxRecDepth 20000 in
theorem ggX5_setHere_X5_fine : GoodIn wsX5_setHere wsX5_fine := goodIn_r _ [38, 18, 39, 40, 41, 42, 43, 44, 45, 46, 47, 48, 49, 50, 51, 52, 53, 54] (by decide +kernel) (by decide +kernel)
set_option maxRecDepth 20000 in
theorem gX5_setHere_X5_fine : GoodIn wsX5_setHere (wsV RX5 82 RX5 yX5_fine wsX5_fine) := goodIn_app (goodIn_of _ (by decide +kernel)) ggX5_setHere_X5_fine
theorem dX5_setHere_0 : decode cX5_setHere 0 = .ok (.aload_n 0, 1) := by decide +kernel
theorem dX5_setHere_1 : decode cX5_setHere 1 = .ok (.iload_n 1, 1) := by decide +kernel
theorem dX5_setHere_2 : decode cX5_setHere 2 = .ok (.iload_n 2, 1) := by decide +kernel
theorem dX5_setHere_3 : decode cX5_setHere 3 = .ok (.invokevirtual 85, 3) := by decide +kernel
theorem dX5_setHere_6 : decode cX5_setHere 6 = .ok (.ifCond .ne 9, 3) := by decide +kernel
theorem dX5_setHere_9 : decode cX5_setHere 9 = .ok (.aload_n 0, 1) := by decide +kernel
theorem dX5_setHere_10 : decode cX5_setHere 10 = .ok (.iconst 1, 1) := by decide +kernel
theorem dX5_setHere_11 : decode cX5_setHere 11 = .ok (.invokevirtual 71, 3) := by decide +kernel
theorem dX5_setHere_14 : decode cX5_setHere 14 = .ok (.ireturn, 1) := by decide +kernel
theorem dX5_setHere_15 : decode cX5_setHere 15 = .ok (.aload_n 0, 1) := by decide +kernel
theorem dX5_setHere_16 : decode cX5_setHere 16 = .ok (.invokevirtual 75, 3) := by decide +kernel
theorem dX5_setHere_19 : decode cX5_setHere 19 = .ok (.iload_n 1, 1) := by decide +kernel
theorem dX5_setHere_20 : decode cX5_setHere 20 = .ok (.iload_n 2, 1) := by decide +kernel
theorem dX5_setHere_21 : decode cX5_setHere 21 = .ok (.invokestatic 63, 3) := by decide +kernel
theorem dX5_setHere_24 : decode cX5_setHere 24 = .ok (.istore 4, 2) := by decide +kernel
theorem dX5_setHere_26 : decode cX5_setHere 26 = .ok (.aload_n 0, 1) := by decide +kernel
theorem dX5_setHere_27 : decode cX5_setHere 27 = .ok (.iload 4, 2) := by decide +kernel
theorem dX5_setHere_29 : decode cX5_setHere 29 = .ok (.iconst 3, 1) := by decide +kernel
theorem dX5_setHere_30 : decode cX5_setHere 30 = .ok (.invokevirtual 91, 3) := by decide +kernel
theorem dX5_setHere_33 : decode cX5_setHere 33 = .ok (.istore 5, 2) := by decide +kernel
theorem dX5_setHere_35 : decode cX5_setHere 35 = .ok (.aload_n 0, 1) := by decide +kernel
theorem dX5_setHere_36 : decode cX5_setHere 36 = .ok (.getfield 7, 3) := by decide +kernel
theorem dX5_setHere_39 : decode cX5_setHere 39 = .ok (.iload 4, 2) := by decide +kernel
theorem dX5_setHere_41 : decode cX5_setHere 41 = .ok (.iconst 3, 1) := by decide +kernel
theorem dX5_setHere_42 : decode cX5_setHere 42 = .ok (.invokestatic 59, 3) := by decide +kernel
theorem dX5_setHere_45 : decode cX5_setHere 45 = .ok (.iload_n 3, 1) := by decide +kernel
theorem dX5_setHere_46 : decode cX5_setHere 46 = .ok (.ifCond .eq 7, 3) := by decide +kernel
theorem dX5_setHere_49 : decode cX5_setHere 49 = .ok (.iconst 1, 1) := by decide +kernel
theorem dX5_setHere_50 : decode cX5_setHere 50 = .ok (.goto 4, 3) := by decide +kernel
theorem dX5_setHere_53 : decode cX5_setHere 53 = .ok (.iconst 0, 1) := by decide +kernel
theorem dX5_setHere_54 : decode cX5_setHere 54 = .ok (.iastore, 1) := by decide +kernel
theorem dX5_setHere_55 : decode cX5_setHere 55 = .ok (.aload_n 0, 1) := by decide +kernel
theorem dX5_setHere_56 : decode cX5_setHere 56 = .ok (.iload 5, 2) := by decide +kernel
theorem dX5_setHere_58 : decode cX5_setHere 58 = .ok (.invokevirtual 82, 3) := by decide +kernel
theorem dX5_setHere_61 : decode cX5_setHere 61 = .ok (.ireturn, 1) := by decide +kernel
set_option maxRecDepth 20000 in
theorem ggX5_setShoes_X5_in : GoodIn wsX5_setShoes wsX5_in := goodIn_r _ [6] (by decide +kernel) (by decide +kernel)
set_option maxRecDepth 20000 in
theorem gX5_setShoes_X5_in : GoodIn wsX5_setShoes (va_wsS RX5 55 yX5_in wsX5_in) := goodIn_app (goodIn_of _ (by decide +kernel)) ggX5_setShoes_X5_in
set_option maxRecDepth 20000 in
theorem ggX5_setShoes_X5_throwing : GoodIn wsX5_setShoes wsX5_throwing := goodIn_r _ [10, 11, 22, 23, 24, 25, 26, 27, 28, 29, 30, 31, 32, 33, 34, 35, 36, 37] (by decide +kernel) (by decide +kernel)
set_option maxRecDepth 20000 in
theorem gX5_setShoes_X5_throwing : GoodIn wsX5_setShoes (wsV RX5 71 RX5 yX5_throwing wsX5_throwing) := goodIn_app (goodIn_of _ (by decide +kernel)) ggX5_setShoes_X5_throwing
set_option maxRecDepth 20000 in
theorem ggX5_setShoes_X5_save : GoodIn wsX5_setShoes wsX5_save := goodIn_r _ [15, 16, 17, 2, 22, 23, 24, 25, 26, 27, 28, 29, 30, 31, 32, 33, 34, 35, 36, 37] (by decide +kernel) (by decide +kernel)
set_option maxRecDepth 20000 in
theorem gX5_setShoes_X5_save : GoodIn wsX5_setShoes (wsV RX5 75 RX5 yX5_save wsX5_save) := goodIn_app (goodIn_of _ (by decide +kernel)) ggX5_setShoes_X5_save
set_option maxRecDepth 20000 in
theorem ggX5_setShoes_X5_fine : GoodIn wsX5_setShoes wsX5_fine := goodIn_r _ [21, 11, 22, 23, 24, 25, 26, 27, 28, 29, 30, 31, 32, 33, 34, 35, 36, 37] (by decide +kernel) (by decide +kernel)
set_option maxRecDepth 20000 in
theorem gX5_setShoes_X5_fine : GoodIn wsX5_setShoes (wsV RX5 82 RX5 yX5_fine wsX5_fine) := goodIn_app (goodIn_of _ (by decide +kernel)) ggX5_setShoes_X5_fine
theorem dX5_setShoes_0 : decode cX5_setShoes 0 = .ok (.iload_n 1, 1) := by decide +kernel
theorem dX5_setShoes_1 : decode cX5_setShoes 1 = .ok (.i2l, 1) := by decide +kernel
theorem dX5_setShoes_2 : decode cX5_setShoes 2 = .ok (.lconst 1, 1) := by decide +kernel
theorem dX5_setShoes_3 : decode cX5_setShoes 3 = .ok (.ldc2_w 69, 3) := by decide +kernel
theorem dX5_setShoes_6 : decode cX5_setShoes 6 = .ok (.invokestatic 55, 3) := by decide +kernel
theorem dX5_setShoes_9 : decode cX5_setShoes 9 = .ok (.ifCond .ne 9, 3) := by decide +kernel
theorem dX5_setShoes_12 : decode cX5_setShoes 12 = .ok (.aload_n 0, 1) := by decide +kernel
theorem dX5_setShoes_13 : decode cX5_setShoes 13 = .ok (.iconst 1, 1) := by decide +kernel
theorem dX5_setShoes_14 : decode cX5_setShoes 14 = .ok (.invokevirtual 71, 3) := by decide +kernel
theorem dX5_setShoes_17 : decode cX5_setShoes 17 = .ok (.ireturn, 1) := by decide +kernel
theorem dX5_setShoes_18 : decode cX5_setShoes 18 = .ok (.iload_n 2, 1) := by decide +kernel
theorem dX5_setShoes_19 : decode cX5_setShoes 19 = .ok (.i2l, 1) := by decide +kernel
theorem dX5_setShoes_20 : decode cX5_setShoes 20 = .ok (.lconst 0, 1) := by decide +kernel
theorem dX5_setShoes_21 : decode cX5_setShoes 21 = .ok (.ldc2_w 69, 3) := by decide +kernel
theorem dX5_setShoes_24 : decode cX5_setShoes 24 = .ok (.invokestatic 55, 3) := by decide +kernel
theorem dX5_setShoes_27 : decode cX5_setShoes 27 = .ok (.ifCond .ne 9, 3) := by decide +kernel
theorem dX5_setShoes_30 : decode cX5_setShoes 30 = .ok (.aload_n 0, 1) := by decide +kernel
theorem dX5_setShoes_31 : decode cX5_setShoes 31 = .ok (.iconst 2, 1) := by decide +kernel
theorem dX5_setShoes_32 : decode cX5_setShoes 32 = .ok (.invokevirtual 71, 3) := by decide +kernel
theorem dX5_setShoes_35 : decode cX5_setShoes 35 = .ok (.ireturn, 1) := by decide +kernel
theorem dX5_setShoes_36 : decode cX5_setShoes 36 = .ok (.aload_n 0, 1) := by decide +kernel
theorem dX5_setShoes_37 : decode cX5_setShoes 37 = .ok (.invokevirtual 75, 3) := by decide +kernel
theorem dX5_setShoes_40 : decode cX5_setShoes 40 = .ok (.aload_n 0, 1) := by decide +kernel
theorem dX5_setShoes_41 : decode cX5_setShoes 41 = .ok (.getfield 7, 3) := by decide +kernel
theorem dX5_setShoes_44 : decode cX5_setShoes 44 = .ok (.bipush 11, 2) := by decide +kernel
theorem dX5_setShoes_46 : decode cX5_setShoes 46 = .ok (.iload_n 1, 1) := by decide +kernel
theorem dX5_setShoes_47 : decode cX5_setShoes 47 = .ok (.iadd, 1) := by decide +kernel
theorem dX5_setShoes_48 : decode cX5_setShoes 48 = .ok (.iconst 1, 1) := by decide +kernel
theorem dX5_setShoes_49 : decode cX5_setShoes 49 = .ok (.isub, 1) := by decide +kernel
theorem dX5_setShoes_50 : decode cX5_setShoes 50 = .ok (.iaload, 1) := by decide +kernel
theorem dX5_setShoes_51 : decode cX5_setShoes 51 = .ok (.istore_n 3, 1) := by decide +kernel
theorem dX5_setShoes_52 : decode cX5_setShoes 52 = .ok (.aload_n 0, 1) := by decide +kernel
theorem dX5_setShoes_53 : decode cX5_setShoes 53 = .ok (.getfield 7, 3) := by decide +kernel
theorem dX5_setShoes_56 : decode cX5_setShoes 56 = .ok (.bipush 11, 2) := by decide +kernel
theorem dX5_setShoes_58 : decode cX5_setShoes 58 = .ok (.iload_n 1, 1) := by decide +kernel
theorem dX5_setShoes_59 : decode cX5_setShoes 59 = .ok (.iadd, 1) := by decide +kernel
theorem dX5_setShoes_60 : decode cX5_setShoes 60 = .ok (.iconst 1, 1) := by decide +kernel
theorem dX5_setShoes_61 : decode cX5_setShoes 61 = .ok (.isub, 1) := by decide +kernel
theorem dX5_setShoes_62 : decode cX5_setShoes 62 = .ok (.iload_n 2, 1) := by decide +kernel
theorem dX5_setShoes_63 : decode cX5_setShoes 63 = .ok (.iastore, 1) := by decide +kernel
theorem dX5_setShoes_64 : decode cX5_setShoes 64 = .ok (.aload_n 0, 1) := by decide +kernel
theorem dX5_setShoes_65 : decode cX5_setShoes 65 = .ok (.iload_n 3, 1) := by decide +kernel
theorem dX5_setShoes_66 : decode cX5_setShoes 66 = .ok (.invokevirtual 82, 3) := by decide +kernel
theorem dX5_setShoes_69 : decode cX5_setShoes 69 = .ok (.ireturn, 1) := by decide +kernel
set_option maxRecDepth 20000 in
theorem ggX5_setLamps_X5_in : GoodIn wsX5_setLamps wsX5_in := goodIn_r _ [7] (by decide +kernel) (by decide +kernel)
set_option maxRecDepth 20000 in
theorem gX5_setLamps_X5_in : GoodIn wsX5_setLamps (va_wsS RX5 55 yX5_in wsX5_in) := goodIn_app (goodIn_of _ (by decide +kernel)) ggX5_setLamps_X5_in
set_option maxRecDepth 20000 in
theorem ggX5_setLamps_X5_throwing : GoodIn wsX5_setLamps wsX5_throwing := goodIn_r _ [11, 12, 23, 24, 25, 26, 27, 28, 29, 30, 31, 32, 33, 34, 35, 36, 37, 38] (by decide +kernel) (by decide +kernel)
set_option maxRecDepth 20000 in
theorem gX5_setLamps_X5_throwing : GoodIn wsX5_setLamps (wsV RX5 71 RX5 yX5_throwing wsX5_throwing) := goodIn_app (goodIn_of _ (by decide +kernel)) ggX5_setLamps_X5_throwing
set_option maxRecDepth 20000 in
theorem ggX5_setLamps_X5_save : GoodIn wsX5_setLamps wsX5_save := goodIn_r _ [16, 17, 18, 3, 23, 24, 25, 26, 27, 28, 29, 30, 31, 32, 33, 34, 35, 36, 37, 38] (by decide +kernel) (by decide +kernel)
set_option maxRecDepth 20000 in
theorem gX5_setLamps_X5_save : GoodIn wsX5_setLamps (wsV RX5 75 RX5 yX5_save wsX5_save) := goodIn_app (goodIn_of _ (by decide +kernel)) ggX5_setLamps_X5_save
set_option maxRecDepth 20000 in
theorem ggX5_setLamps_X5_fine : GoodIn wsX5_setLamps wsX5_fine := goodIn_r _ [22, 12, 23, 24, 25, 26, 27, 28, 29, 30, 31, 32, 33, 34, 35, 36, 37, 38] (by decide +kernel) (by decide +kernel)
set_option maxRecDepth 20000 in
theorem gX5_setLamps_X5_fine : GoodIn wsX5_setLamps (wsV RX5 82 RX5 yX5_fine wsX5_fine) := goodIn_app (goodIn_of _ (by decide +kernel)) ggX5_setLamps_X5_fine
theorem dX5_setLamps_0 : decode cX5_setLamps 0 = .ok (.iload_n 1, 1) := by decide +kernel
theorem dX5_setLamps_1 : decode cX5_setLamps 1 = .ok (.i2l, 1) := by decide +kernel
theorem dX5_setLamps_2 : decode cX5_setLamps 2 = .ok (.lconst 1, 1) := by decide +kernel
theorem dX5_setLamps_3 : decode cX5_setLamps 3 = .ok (.ldc2_w 94, 3) := by decide +kernel
theorem dX5_setLamps_6 : decode cX5_setLamps 6 = .ok (.invokestatic 55, 3) := by decide +kernel
theorem dX5_setLamps_9 : decode cX5_setLamps 9 = .ok (.ifCond .eq 15, 3) := by decide +kernel
theorem dX5_setLamps_12 : decode cX5_setLamps 12 = .ok (.iload_n 2, 1) := by decide +kernel
theorem dX5_setLamps_13 : decode cX5_setLamps 13 = .ok (.i2l, 1) := by decide +kernel
theorem dX5_setLamps_14 : decode cX5_setLamps 14 = .ok (.lconst 0, 1) := by decide +kernel
theorem dX5_setLamps_15 : decode cX5_setLamps 15 = .ok (.ldc2_w 96, 3) := by decide +kernel
theorem dX5_setLamps_18 : decode cX5_setLamps 18 = .ok (.invokestatic 55, 3) := by decide +kernel
theorem dX5_setLamps_21 : decode cX5_setLamps 21 = .ok (.ifCond .ne 9, 3) := by decide +kernel
theorem dX5_setLamps_24 : decode cX5_setLamps 24 = .ok (.aload_n 0, 1) := by decide +kernel
theorem dX5_setLamps_25 : decode cX5_setLamps 25 = .ok (.iconst 1, 1) := by decide +kernel
theorem dX5_setLamps_26 : decode cX5_setLamps 26 = .ok (.invokevirtual 71, 3) := by decide +kernel
theorem dX5_setLamps_29 : decode cX5_setLamps 29 = .ok (.ireturn, 1) := by decide +kernel
theorem dX5_setLamps_30 : decode cX5_setLamps 30 = .ok (.aload_n 0, 1) := by decide +kernel
theorem dX5_setLamps_31 : decode cX5_setLamps 31 = .ok (.invokevirtual 75, 3) := by decide +kernel
theorem dX5_setLamps_34 : decode cX5_setLamps 34 = .ok (.aload_n 0, 1) := by decide +kernel
theorem dX5_setLamps_35 : decode cX5_setLamps 35 = .ok (.getfield 7, 3) := by decide +kernel
theorem dX5_setLamps_38 : decode cX5_setLamps 38 = .ok (.iconst 3, 1) := by decide +kernel
theorem dX5_setLamps_39 : decode cX5_setLamps 39 = .ok (.iaload, 1) := by decide +kernel
theorem dX5_setLamps_40 : decode cX5_setLamps 40 = .ok (.istore_n 3, 1) := by decide +kernel
theorem dX5_setLamps_41 : decode cX5_setLamps 41 = .ok (.aload_n 0, 1) := by decide +kernel
theorem dX5_setLamps_42 : decode cX5_setLamps 42 = .ok (.getfield 7, 3) := by decide +kernel
theorem dX5_setLamps_45 : decode cX5_setLamps 45 = .ok (.iconst 2, 1) := by decide +kernel
theorem dX5_setLamps_46 : decode cX5_setLamps 46 = .ok (.iload_n 1, 1) := by decide +kernel
theorem dX5_setLamps_47 : decode cX5_setLamps 47 = .ok (.iastore, 1) := by decide +kernel
theorem dX5_setLamps_48 : decode cX5_setLamps 48 = .ok (.aload_n 0, 1) := by decide +kernel
theorem dX5_setLamps_49 : decode cX5_setLamps 49 = .ok (.getfield 7, 3) := by decide +kernel
theorem dX5_setLamps_52 : decode cX5_setLamps 52 = .ok (.iconst 3, 1) := by decide +kernel
theorem dX5_setLamps_53 : decode cX5_setLamps 53 = .ok (.iload_n 2, 1) := by decide +kernel
theorem dX5_setLamps_54 : decode cX5_setLamps 54 = .ok (.iastore, 1) := by decide +kernel
theorem dX5_setLamps_55 : decode cX5_setLamps 55 = .ok (.aload_n 0, 1) := by decide +kernel
theorem dX5_setLamps_56 : decode cX5_setLamps 56 = .ok (.iload_n 3, 1) := by decide +kernel
theorem dX5_setLamps_57 : decode cX5_setLamps 57 = .ok (.invokevirtual 82, 3) := by decide +kernel
theorem dX5_setLamps_60 : decode cX5_setLamps 60 = .ok (.ireturn, 1) := by decide +kernel
set_option maxRecDepth 20000 in
theorem ggX5_setFiddlers_X5_in : GoodIn wsX5_setFiddlers wsX5_in := goodIn_r _ [6] (by decide +kernel) (by decide +kernel)
set_option maxRecDepth 20000 in
theorem gX5_setFiddlers_X5_in : GoodIn wsX5_setFiddlers (va_wsS RX5 55 yX5_in wsX5_in) := goodIn_app (goodIn_of _ (by decide +kernel)) ggX5_setFiddlers_X5_in
set_option maxRecDepth 20000 in
theorem ggX5_setFiddlers_X5_throwing : GoodIn wsX5_setFiddlers wsX5_throwing := goodIn_r _ [10, 11, 22, 23, 24, 25, 26, 27, 28, 29, 30, 31, 32, 33, 34, 35, 36, 37] (by decide +kernel) (by decide +kernel)
set_option maxRecDepth 20000 in
theorem gX5_setFiddlers_X5_throwing : GoodIn wsX5_setFiddlers (wsV RX5 71 RX5 yX5_throwing wsX5_throwing) := goodIn_app (goodIn_of _ (by decide +kernel)) ggX5_setFiddlers_X5_throwing
set_option maxRecDepth 20000 in
theorem ggX5_setFiddlers_X5_save : GoodIn wsX5_setFiddlers wsX5_save := goodIn_r _ [15, 16, 17, 2, 22, 23, 24, 25, 26, 27, 28, 29, 30, 31, 32, 33, 34, 35, 36, 37] (by decide +kernel) (by decide +kernel)
set_option maxRecDepth 20000 in
theorem gX5_setFiddlers_X5_save : GoodIn wsX5_setFiddlers (wsV RX5 75 RX5 yX5_save wsX5_save) := goodIn_app (goodIn_of _ (by decide +kernel)) ggX5_setFiddlers_X5_save
set_option maxRecDepth 20000 in
theorem ggX5_setFiddlers_X5_fine : GoodIn wsX5_setFiddlers wsX5_fine := goodIn_r _ [21, 11, 22, 23, 24, 25, 26, 27, 28, 29, 30, 31, 32, 33, 34, 35, 36, 37] (by decide +kernel) (by decide +kernel)
set_option maxRecDepth 20000 in
theorem gX5_setFiddlers_X5_fine : GoodIn wsX5_setFiddlers (wsV RX5 82 RX5 yX5_fine wsX5_fine) := goodIn_app (goodIn_of _ (by decide +kernel)) ggX5_setFiddlers_X5_fine
theorem dX5_setFiddlers_0 : decode cX5_setFiddlers 0 = .ok (.iload_n 1, 1) := by decide +kernel
theorem dX5_setFiddlers_1 : decode cX5_setFiddlers 1 = .ok (.i2l, 1) := by decide +kernel
theorem dX5_setFiddlers_2 : decode cX5_setFiddlers 2 = .ok (.lconst 1, 1) := by decide +kernel
theorem dX5_setFiddlers_3 : decode cX5_setFiddlers 3 = .ok (.ldc2_w 98, 3) := by decide +kernel
theorem dX5_setFiddlers_6 : decode cX5_setFiddlers 6 = .ok (.invokestatic 55, 3) := by decide +kernel
theorem dX5_setFiddlers_9 : decode cX5_setFiddlers 9 = .ok (.ifCond .ne 9, 3) := by decide +kernel
theorem dX5_setFiddlers_12 : decode cX5_setFiddlers 12 = .ok (.aload_n 0, 1) := by decide +kernel
theorem dX5_setFiddlers_13 : decode cX5_setFiddlers 13 = .ok (.iconst 1, 1) := by decide +kernel
theorem dX5_setFiddlers_14 : decode cX5_setFiddlers 14 = .ok (.invokevirtual 71, 3) := by decide +kernel
theorem dX5_setFiddlers_17 : decode cX5_setFiddlers 17 = .ok (.ireturn, 1) := by decide +kernel
theorem dX5_setFiddlers_18 : decode cX5_setFiddlers 18 = .ok (.aload_n 0, 1) := by decide +kernel
theorem dX5_setFiddlers_19 : decode cX5_setFiddlers 19 = .ok (.invokevirtual 75, 3) := by decide +kernel
theorem dX5_setFiddlers_22 : decode cX5_setFiddlers 22 = .ok (.aload_n 0, 1) := by decide +kernel
theorem dX5_setFiddlers_23 : decode cX5_setFiddlers 23 = .ok (.getfield 7, 3) := by decide +kernel
theorem dX5_setFiddlers_26 : decode cX5_setFiddlers 26 = .ok (.bipush 8, 2) := by decide +kernel
theorem dX5_setFiddlers_28 : decode cX5_setFiddlers 28 = .ok (.iaload, 1) := by decide +kernel
theorem dX5_setFiddlers_29 : decode cX5_setFiddlers 29 = .ok (.istore_n 2, 1) := by decide +kernel
theorem dX5_setFiddlers_30 : decode cX5_setFiddlers 30 = .ok (.aload_n 0, 1) := by decide +kernel
theorem dX5_setFiddlers_31 : decode cX5_setFiddlers 31 = .ok (.getfield 7, 3) := by decide +kernel
theorem dX5_setFiddlers_34 : decode cX5_setFiddlers 34 = .ok (.bipush 8, 2) := by decide +kernel
theorem dX5_setFiddlers_36 : decode cX5_setFiddlers 36 = .ok (.iload_n 1, 1) := by decide +kernel
theorem dX5_setFiddlers_37 : decode cX5_setFiddlers 37 = .ok (.iastore, 1) := by decide +kernel
theorem dX5_setFiddlers_38 : decode cX5_setFiddlers 38 = .ok (.iconst 0, 1) := by decide +kernel
theorem dX5_setFiddlers_39 : decode cX5_setFiddlers 39 = .ok (.istore_n 3, 1) := by decide +kernel
theorem dX5_setFiddlers_40 : decode cX5_setFiddlers 40 = .ok (.iload_n 3, 1) := by decide +kernel
theorem dX5_setFiddlers_41 : decode cX5_setFiddlers 41 = .ok (.iconst 4, 1) := by decide +kernel
theorem dX5_setFiddlers_42 : decode cX5_setFiddlers 42 = .ok (.if_icmp .ge 19, 3) := by decide +kernel
theorem dX5_setFiddlers_45 : decode cX5_setFiddlers 45 = .ok (.aload_n 0, 1) := by decide +kernel
theorem dX5_setFiddlers_46 : decode cX5_setFiddlers 46 = .ok (.getfield 7, 3) := by decide +kernel
theorem dX5_setFiddlers_49 : decode cX5_setFiddlers 49 = .ok (.bipush 20, 2) := by decide +kernel
theorem dX5_setFiddlers_51 : decode cX5_setFiddlers 51 = .ok (.iload_n 3, 1) := by decide +kernel
theorem dX5_setFiddlers_52 : decode cX5_setFiddlers 52 = .ok (.iadd, 1) := by decide +kernel
theorem dX5_setFiddlers_53 : decode cX5_setFiddlers 53 = .ok (.iconst 1, 1) := by decide +kernel
theorem dX5_setFiddlers_54 : decode cX5_setFiddlers 54 = .ok (.iastore, 1) := by decide +kernel
theorem dX5_setFiddlers_55 : decode cX5_setFiddlers 55 = .ok (.iinc 3 1, 3) := by decide +kernel
theorem dX5_setFiddlers_58 : decode cX5_setFiddlers 58 = .ok (.goto (-18), 3) := by decide +kernel
theorem dX5_setFiddlers_61 : decode cX5_setFiddlers 61 = .ok (.aload_n 0, 1) := by decide +kernel
theorem dX5_setFiddlers_62 : decode cX5_setFiddlers 62 = .ok (.iload_n 2, 1) := by decide +kernel
theorem dX5_setFiddlers_63 : decode cX5_setFiddlers 63 = .ok (.invokevirtual 82, 3) := by decide +kernel
theorem dX5_setFiddlers_66 : decode cX5_setFiddlers 66 = .ok (.ireturn, 1) := by decide +kernel
set_option maxRecDepth 20000 in
theorem ggX5_isFiddler_X5_in : GoodIn wsX5_isFiddler wsX5_in := goodIn_r _ [5] (by decide +kernel) (by decide +kernel)
set_option maxRecDepth 20000 in
theorem gX5_isFiddler_X5_in : GoodIn wsX5_isFiddler (va_wsS RX5 55 yX5_in wsX5_in) := goodIn_app (goodIn_of _ (by decide +kernel)) ggX5_isFiddler_X5_in
theorem dX5_isFiddler_0 : decode cX5_isFiddler 0 = .ok (.iload_n 1, 1) := by decide +kernel
theorem dX5_isFiddler_1 : decode cX5_isFiddler 1 = .ok (.i2l, 1) := by decide +kernel
theorem dX5_isFiddler_2 : decode cX5_isFiddler 2 = .ok (.lconst 0, 1) := by decide +kernel
theorem dX5_isFiddler_3 : decode cX5_isFiddler 3 = .ok (.aload_n 0, 1) := by decide +kernel
theorem dX5_isFiddler_4 : decode cX5_isFiddler 4 = .ok (.getfield 7, 3) := by decide +kernel
theorem dX5_isFiddler_7 : decode cX5_isFiddler 7 = .ok (.bipush 8, 2) := by decide +kernel
theorem dX5_isFiddler_9 : decode cX5_isFiddler 9 = .ok (.iaload, 1) := by decide +kernel
theorem dX5_isFiddler_10 : decode cX5_isFiddler 10 = .ok (.i2l, 1) := by decide +kernel
theorem dX5_isFiddler_11 : decode cX5_isFiddler 11 = .ok (.lconst 1, 1) := by decide +kernel
theorem dX5_isFiddler_12 : decode cX5_isFiddler 12 = .ok (.lsub, 1) := by decide +kernel
theorem dX5_isFiddler_13 : decode cX5_isFiddler 13 = .ok (.invokestatic 55, 3) := by decide +kernel
theorem dX5_isFiddler_16 : decode cX5_isFiddler 16 = .ok (.ireturn, 1) := by decide +kernel
set_option maxRecDepth 20000 in
theorem ggX5_setPart_X5_isFiddler : GoodIn wsX5_setPart wsX5_isFiddler := goodIn_r _ [7, 2, 8, 9, 6, 10, 26, 27, 28, 29, 30, 31, 32, 33, 34, 35, 36, 37, 38, 39, 40, 41] (by decide +kernel) (by decide +kernel)
set_option maxRecDepth 20000 in
theorem gX5_setPart_X5_isFiddler : GoodIn wsX5_setPart (wsV RX5 100 RX5 yX5_isFiddler wsX5_isFiddler) := goodIn_app (goodIn_of _ (by decide +kernel)) ggX5_setPart_X5_isFiddler
set_option maxRecDepth 20000 in
theorem ggX5_setPart_X5_throwing : GoodIn wsX5_setPart wsX5_throwing := goodIn_r _ [14, 15, 26, 27, 28, 29, 30, 31, 32, 33, 34, 35, 36, 37, 38, 39, 40, 41] (by decide +kernel) (by decide +kernel)
set_option maxRecDepth 20000 in
theorem gX5_setPart_X5_throwing : GoodIn wsX5_setPart (wsV RX5 71 RX5 yX5_throwing wsX5_throwing) := goodIn_app (goodIn_of _ (by decide +kernel)) ggX5_setPart_X5_throwing
set_option maxRecDepth 20000 in
theorem ggX5_setPart_X5_in : GoodIn wsX5_setPart wsX5_in := goodIn_r _ [10] (by decide +kernel) (by decide +kernel)
set_option maxRecDepth 20000 in
theorem gX5_setPart_X5_in : GoodIn wsX5_setPart (va_wsS RX5 55 yX5_in wsX5_in) := goodIn_app (goodIn_of _ (by decide +kernel)) ggX5_setPart_X5_in
set_option maxRecDepth 20000 in
theorem ggX5_setPart_X5_save : GoodIn wsX5_setPart wsX5_save := goodIn_r _ [19, 20, 21, 2, 26, 27, 28, 29, 30, 31, 32, 33, 34, 35, 36, 37, 38, 39, 40, 41] (by decide +kernel) (by decide +kernel)
set_option maxRecDepth 20000 in
theorem gX5_setPart_X5_save : GoodIn wsX5_setPart (wsV RX5 75 RX5 yX5_save wsX5_save) := goodIn_app (goodIn_of _ (by decide +kernel)) ggX5_setPart_X5_save
set_option maxRecDepth 20000 in
theorem ggX5_setPart_X5_fine : GoodIn wsX5_setPart wsX5_fine := goodIn_r _ [25, 15, 26, 27, 28, 29, 30, 31, 32, 33, 34, 35, 36, 37, 38, 39, 40, 41] (by decide +kernel) (by decide +kernel)
set_option maxRecDepth 20000 in
theorem gX5_setPart_X5_fine : GoodIn wsX5_setPart (wsV RX5 82 RX5 yX5_fine wsX5_fine) := goodIn_app (goodIn_of _ (by decide +kernel)) ggX5_setPart_X5_fine
theorem dX5_setPart_0 : decode cX5_setPart 0 = .ok (.aload_n 0, 1) := by decide +kernel
theorem dX5_setPart_1 : decode cX5_setPart 1 = .ok (.iload_n 1, 1) := by decide +kernel
theorem dX5_setPart_2 : decode cX5_setPart 2 = .ok (.invokevirtual 100, 3) := by decide +kernel
theorem dX5_setPart_5 : decode cX5_setPart 5 = .ok (.ifCond .ne 9, 3) := by decide +kernel
theorem dX5_setPart_8 : decode cX5_setPart 8 = .ok (.aload_n 0, 1) := by decide +kernel
theorem dX5_setPart_9 : decode cX5_setPart 9 = .ok (.iconst 1, 1) := by decide +kernel
theorem dX5_setPart_10 : decode cX5_setPart 10 = .ok (.invokevirtual 71, 3) := by decide +kernel
theorem dX5_setPart_13 : decode cX5_setPart 13 = .ok (.ireturn, 1) := by decide +kernel
theorem dX5_setPart_14 : decode cX5_setPart 14 = .ok (.iload_n 2, 1) := by decide +kernel
theorem dX5_setPart_15 : decode cX5_setPart 15 = .ok (.i2l, 1) := by decide +kernel
theorem dX5_setPart_16 : decode cX5_setPart 16 = .ok (.lconst 1, 1) := by decide +kernel
theorem dX5_setPart_17 : decode cX5_setPart 17 = .ok (.ldc2_w 69, 3) := by decide +kernel
theorem dX5_setPart_20 : decode cX5_setPart 20 = .ok (.invokestatic 55, 3) := by decide +kernel
theorem dX5_setPart_23 : decode cX5_setPart 23 = .ok (.ifCond .ne 9, 3) := by decide +kernel
theorem dX5_setPart_26 : decode cX5_setPart 26 = .ok (.aload_n 0, 1) := by decide +kernel
theorem dX5_setPart_27 : decode cX5_setPart 27 = .ok (.iconst 2, 1) := by decide +kernel
theorem dX5_setPart_28 : decode cX5_setPart 28 = .ok (.invokevirtual 71, 3) := by decide +kernel
theorem dX5_setPart_31 : decode cX5_setPart 31 = .ok (.ireturn, 1) := by decide +kernel
theorem dX5_setPart_32 : decode cX5_setPart 32 = .ok (.aload_n 0, 1) := by decide +kernel
theorem dX5_setPart_33 : decode cX5_setPart 33 = .ok (.invokevirtual 75, 3) := by decide +kernel
theorem dX5_setPart_36 : decode cX5_setPart 36 = .ok (.aload_n 0, 1) := by decide +kernel
theorem dX5_setPart_37 : decode cX5_setPart 37 = .ok (.getfield 7, 3) := by decide +kernel
theorem dX5_setPart_40 : decode cX5_setPart 40 = .ok (.bipush 20, 2) := by decide +kernel
theorem dX5_setPart_42 : decode cX5_setPart 42 = .ok (.iload_n 1, 1) := by decide +kernel
theorem dX5_setPart_43 : decode cX5_setPart 43 = .ok (.iadd, 1) := by decide +kernel
theorem dX5_setPart_44 : decode cX5_setPart 44 = .ok (.iaload, 1) := by decide +kernel
theorem dX5_setPart_45 : decode cX5_setPart 45 = .ok (.istore_n 3, 1) := by decide +kernel
theorem dX5_setPart_46 : decode cX5_setPart 46 = .ok (.aload_n 0, 1) := by decide +kernel
theorem dX5_setPart_47 : decode cX5_setPart 47 = .ok (.getfield 7, 3) := by decide +kernel
theorem dX5_setPart_50 : decode cX5_setPart 50 = .ok (.bipush 20, 2) := by decide +kernel
theorem dX5_setPart_52 : decode cX5_setPart 52 = .ok (.iload_n 1, 1) := by decide +kernel
theorem dX5_setPart_53 : decode cX5_setPart 53 = .ok (.iadd, 1) := by decide +kernel
theorem dX5_setPart_54 : decode cX5_setPart 54 = .ok (.iload_n 2, 1) := by decide +kernel
theorem dX5_setPart_55 : decode cX5_setPart 55 = .ok (.iastore, 1) := by decide +kernel
theorem dX5_setPart_56 : decode cX5_setPart 56 = .ok (.aload_n 0, 1) := by decide +kernel
theorem dX5_setPart_57 : decode cX5_setPart 57 = .ok (.iload_n 3, 1) := by decide +kernel
theorem dX5_setPart_58 : decode cX5_setPart 58 = .ok (.invokevirtual 82, 3) := by decide +kernel
theorem dX5_setPart_61 : decode cX5_setPart 61 = .ok (.ireturn, 1) := by decide +kernel
set_option maxRecDepth 20000 in
theorem ggX5_lends_X5_isThere : GoodIn wsX5_lends wsX5_isThere := goodIn_r _ [9, 2, 17, 18, 19, 20, 21, 22, 23, 24, 25, 26, 27, 28, 29, 30, 31, 32] (by decide +kernel) (by decide +kernel)
set_option maxRecDepth 20000 in
theorem gX5_lends_X5_isThere : GoodIn wsX5_lends (wsV RX5 104 RX5 yX5_isThere wsX5_isThere) := goodIn_app (goodIn_of _ (by decide +kernel)) ggX5_lends_X5_isThere
set_option maxRecDepth 20000 in
theorem ggX5_lends_X5_of : GoodIn wsX5_lends wsX5_of := goodIn_r _ [13, 2, 14, 15, 8, 16, 17, 18, 19, 20, 21, 22, 23, 24, 25, 26, 27, 28, 29, 30, 31, 32] (by decide +kernel) (by decide +kernel)
set_option maxRecDepth 20000 in
theorem gX5_lends_X5_of : GoodIn wsX5_lends (wsV RX5 91 RX5 yX5_of wsX5_of) := goodIn_app (goodIn_of _ (by decide +kernel)) ggX5_lends_X5_of
theorem dX5_lends_0 : decode cX5_lends 0 = .ok (.iconst 0, 1) := by decide +kernel
theorem dX5_lends_1 : decode cX5_lends 1 = .ok (.istore_n 1, 1) := by decide +kernel
theorem dX5_lends_2 : decode cX5_lends 2 = .ok (.iconst 0, 1) := by decide +kernel
theorem dX5_lends_3 : decode cX5_lends 3 = .ok (.istore_n 2, 1) := by decide +kernel
theorem dX5_lends_4 : decode cX5_lends 4 = .ok (.iload_n 2, 1) := by decide +kernel
theorem dX5_lends_5 : decode cX5_lends 5 = .ok (.bipush 9, 2) := by decide +kernel
theorem dX5_lends_7 : decode cX5_lends 7 = .ok (.if_icmp .ge 26, 3) := by decide +kernel
theorem dX5_lends_10 : decode cX5_lends 10 = .ok (.aload_n 0, 1) := by decide +kernel
theorem dX5_lends_11 : decode cX5_lends 11 = .ok (.getfield 19, 3) := by decide +kernel
theorem dX5_lends_14 : decode cX5_lends 14 = .ok (.iload_n 2, 1) := by decide +kernel
theorem dX5_lends_15 : decode cX5_lends 15 = .ok (.iconst 1, 1) := by decide +kernel
theorem dX5_lends_16 : decode cX5_lends 16 = .ok (.iadd, 1) := by decide +kernel
theorem dX5_lends_17 : decode cX5_lends 17 = .ok (.aload_n 0, 1) := by decide +kernel
theorem dX5_lends_18 : decode cX5_lends 18 = .ok (.getfield 7, 3) := by decide +kernel
theorem dX5_lends_21 : decode cX5_lends 21 = .ok (.bipush 11, 2) := by decide +kernel
theorem dX5_lends_23 : decode cX5_lends 23 = .ok (.iload_n 2, 1) := by decide +kernel
theorem dX5_lends_24 : decode cX5_lends 24 = .ok (.iadd, 1) := by decide +kernel
theorem dX5_lends_25 : decode cX5_lends 25 = .ok (.iaload, 1) := by decide +kernel
theorem dX5_lends_26 : decode cX5_lends 26 = .ok (.iastore, 1) := by decide +kernel
theorem dX5_lends_27 : decode cX5_lends 27 = .ok (.iinc 2 1, 3) := by decide +kernel
theorem dX5_lends_30 : decode cX5_lends 30 = .ok (.goto (-26), 3) := by decide +kernel
theorem dX5_lends_33 : decode cX5_lends 33 = .ok (.aload_n 0, 1) := by decide +kernel
theorem dX5_lends_34 : decode cX5_lends 34 = .ok (.getfield 19, 3) := by decide +kernel
theorem dX5_lends_37 : decode cX5_lends 37 = .ok (.bipush 10, 2) := by decide +kernel
theorem dX5_lends_39 : decode cX5_lends 39 = .ok (.iconst 0, 1) := by decide +kernel
theorem dX5_lends_40 : decode cX5_lends 40 = .ok (.iastore, 1) := by decide +kernel
theorem dX5_lends_41 : decode cX5_lends 41 = .ok (.iconst 0, 1) := by decide +kernel
theorem dX5_lends_42 : decode cX5_lends 42 = .ok (.istore_n 2, 1) := by decide +kernel
theorem dX5_lends_43 : decode cX5_lends 43 = .ok (.iload_n 2, 1) := by decide +kernel
theorem dX5_lends_44 : decode cX5_lends 44 = .ok (.bipush 16, 2) := by decide +kernel
theorem dX5_lends_46 : decode cX5_lends 46 = .ok (.if_icmp .ge 190, 3) := by decide +kernel
theorem dX5_lends_49 : decode cX5_lends 49 = .ok (.aload_n 0, 1) := by decide +kernel
theorem dX5_lends_50 : decode cX5_lends 50 = .ok (.getfield 22, 3) := by decide +kernel
theorem dX5_lends_53 : decode cX5_lends 53 = .ok (.iload_n 2, 1) := by decide +kernel
theorem dX5_lends_54 : decode cX5_lends 54 = .ok (.iconst 0, 1) := by decide +kernel
theorem dX5_lends_55 : decode cX5_lends 55 = .ok (.iastore, 1) := by decide +kernel
theorem dX5_lends_56 : decode cX5_lends 56 = .ok (.aload_n 0, 1) := by decide +kernel
theorem dX5_lends_57 : decode cX5_lends 57 = .ok (.iload_n 2, 1) := by decide +kernel
theorem dX5_lends_58 : decode cX5_lends 58 = .ok (.invokevirtual 104, 3) := by decide +kernel
theorem dX5_lends_61 : decode cX5_lends 61 = .ok (.ifCond .eq 26, 3) := by decide +kernel
theorem dX5_lends_64 : decode cX5_lends 64 = .ok (.aload_n 0, 1) := by decide +kernel
theorem dX5_lends_65 : decode cX5_lends 65 = .ok (.iload_n 2, 1) := by decide +kernel
theorem dX5_lends_66 : decode cX5_lends 66 = .ok (.iconst 3, 1) := by decide +kernel
theorem dX5_lends_67 : decode cX5_lends 67 = .ok (.invokevirtual 91, 3) := by decide +kernel
theorem dX5_lends_70 : decode cX5_lends 70 = .ok (.iconst 1, 1) := by decide +kernel
theorem dX5_lends_71 : decode cX5_lends 71 = .ok (.if_icmp .ne 16, 3) := by decide +kernel
theorem dX5_lends_74 : decode cX5_lends 74 = .ok (.aload_n 0, 1) := by decide +kernel
theorem dX5_lends_75 : decode cX5_lends 75 = .ok (.iload_n 2, 1) := by decide +kernel
theorem dX5_lends_76 : decode cX5_lends 76 = .ok (.iconst 0, 1) := by decide +kernel
theorem dX5_lends_77 : decode cX5_lends 77 = .ok (.invokevirtual 91, 3) := by decide +kernel
theorem dX5_lends_80 : decode cX5_lends 80 = .ok (.ifCond .le 7, 3) := by decide +kernel
theorem dX5_lends_83 : decode cX5_lends 83 = .ok (.iconst 1, 1) := by decide +kernel
theorem dX5_lends_84 : decode cX5_lends 84 = .ok (.goto 4, 3) := by decide +kernel
theorem dX5_lends_87 : decode cX5_lends 87 = .ok (.iconst 0, 1) := by decide +kernel
theorem dX5_lends_88 : decode cX5_lends 88 = .ok (.istore_n 3, 1) := by decide +kernel
theorem dX5_lends_89 : decode cX5_lends 89 = .ok (.iload_n 3, 1) := by decide +kernel
theorem dX5_lends_90 : decode cX5_lends 90 = .ok (.ifCond .eq 89, 3) := by decide +kernel
theorem dX5_lends_93 : decode cX5_lends 93 = .ok (.aload_n 0, 1) := by decide +kernel
theorem dX5_lends_94 : decode cX5_lends 94 = .ok (.iload_n 2, 1) := by decide +kernel
theorem dX5_lends_95 : decode cX5_lends 95 = .ok (.iconst 2, 1) := by decide +kernel
theorem dX5_lends_96 : decode cX5_lends 96 = .ok (.invokevirtual 91, 3) := by decide +kernel
theorem dX5_lends_99 : decode cX5_lends 99 = .ok (.ifCond .ne 80, 3) := by decide +kernel
theorem dX5_lends_102 : decode cX5_lends 102 = .ok (.aload_n 0, 1) := by decide +kernel
theorem dX5_lends_103 : decode cX5_lends 103 = .ok (.iload_n 2, 1) := by decide +kernel
theorem dX5_lends_104 : decode cX5_lends 104 = .ok (.iconst 1, 1) := by decide +kernel
theorem dX5_lends_105 : decode cX5_lends 105 = .ok (.invokevirtual 91, 3) := by decide +kernel
theorem dX5_lends_108 : decode cX5_lends 108 = .ok (.istore 4, 2) := by decide +kernel
theorem dX5_lends_110 : decode cX5_lends 110 = .ok (.aload_n 0, 1) := by decide +kernel
theorem dX5_lends_111 : decode cX5_lends 111 = .ok (.getfield 22, 3) := by decide +kernel
theorem dX5_lends_114 : decode cX5_lends 114 = .ok (.iload_n 2, 1) := by decide +kernel
theorem dX5_lends_115 : decode cX5_lends 115 = .ok (.aload_n 0, 1) := by decide +kernel
theorem dX5_lends_116 : decode cX5_lends 116 = .ok (.getfield 19, 3) := by decide +kernel
theorem dX5_lends_119 : decode cX5_lends 119 = .ok (.iload 4, 2) := by decide +kernel
theorem dX5_lends_121 : decode cX5_lends 121 = .ok (.iaload, 1) := by decide +kernel
theorem dX5_lends_122 : decode cX5_lends 122 = .ok (.ifCond .le 8, 3) := by decide +kernel
theorem dX5_lends_125 : decode cX5_lends 125 = .ok (.iload 4, 2) := by decide +kernel
theorem dX5_lends_127 : decode cX5_lends 127 = .ok (.goto 23, 3) := by decide +kernel
theorem dX5_lends_130 : decode cX5_lends 130 = .ok (.aload_n 0, 1) := by decide +kernel
theorem dX5_lends_131 : decode cX5_lends 131 = .ok (.getfield 19, 3) := by decide +kernel
theorem dX5_lends_134 : decode cX5_lends 134 = .ok (.iload 4, 2) := by decide +kernel
theorem dX5_lends_136 : decode cX5_lends 136 = .ok (.iconst 1, 1) := by decide +kernel
theorem dX5_lends_137 : decode cX5_lends 137 = .ok (.iadd, 1) := by decide +kernel
theorem dX5_lends_138 : decode cX5_lends 138 = .ok (.iaload, 1) := by decide +kernel
theorem dX5_lends_139 : decode cX5_lends 139 = .ok (.ifCond .le 10, 3) := by decide +kernel
theorem dX5_lends_142 : decode cX5_lends 142 = .ok (.iload 4, 2) := by decide +kernel
theorem dX5_lends_144 : decode cX5_lends 144 = .ok (.iconst 1, 1) := by decide +kernel
theorem dX5_lends_145 : decode cX5_lends 145 = .ok (.iadd, 1) := by decide +kernel
theorem dX5_lends_146 : decode cX5_lends 146 = .ok (.goto 4, 3) := by decide +kernel
theorem dX5_lends_149 : decode cX5_lends 149 = .ok (.iconst 0, 1) := by decide +kernel
theorem dX5_lends_150 : decode cX5_lends 150 = .ok (.iastore, 1) := by decide +kernel
theorem dX5_lends_151 : decode cX5_lends 151 = .ok (.aload_n 0, 1) := by decide +kernel
theorem dX5_lends_152 : decode cX5_lends 152 = .ok (.getfield 19, 3) := by decide +kernel
theorem dX5_lends_155 : decode cX5_lends 155 = .ok (.aload_n 0, 1) := by decide +kernel
theorem dX5_lends_156 : decode cX5_lends 156 = .ok (.getfield 22, 3) := by decide +kernel
theorem dX5_lends_159 : decode cX5_lends 159 = .ok (.iload_n 2, 1) := by decide +kernel
theorem dX5_lends_160 : decode cX5_lends 160 = .ok (.iaload, 1) := by decide +kernel
theorem dX5_lends_161 : decode cX5_lends 161 = .ok (.dup2, 1) := by decide +kernel
theorem dX5_lends_162 : decode cX5_lends 162 = .ok (.iaload, 1) := by decide +kernel
theorem dX5_lends_163 : decode cX5_lends 163 = .ok (.aload_n 0, 1) := by decide +kernel
theorem dX5_lends_164 : decode cX5_lends 164 = .ok (.getfield 22, 3) := by decide +kernel
theorem dX5_lends_167 : decode cX5_lends 167 = .ok (.iload_n 2, 1) := by decide +kernel
theorem dX5_lends_168 : decode cX5_lends 168 = .ok (.iaload, 1) := by decide +kernel
theorem dX5_lends_169 : decode cX5_lends 169 = .ok (.ifCond .le 7, 3) := by decide +kernel
theorem dX5_lends_172 : decode cX5_lends 172 = .ok (.iconst 1, 1) := by decide +kernel
theorem dX5_lends_173 : decode cX5_lends 173 = .ok (.goto 4, 3) := by decide +kernel
theorem dX5_lends_176 : decode cX5_lends 176 = .ok (.iconst 0, 1) := by decide +kernel
theorem dX5_lends_177 : decode cX5_lends 177 = .ok (.isub, 1) := by decide +kernel
theorem dX5_lends_178 : decode cX5_lends 178 = .ok (.iastore, 1) := by decide +kernel
theorem dX5_lends_179 : decode cX5_lends 179 = .ok (.aload_n 0, 1) := by decide +kernel
theorem dX5_lends_180 : decode cX5_lends 180 = .ok (.getfield 25, 3) := by decide +kernel
theorem dX5_lends_183 : decode cX5_lends 183 = .ok (.iload_n 2, 1) := by decide +kernel
theorem dX5_lends_184 : decode cX5_lends 184 = .ok (.iload_n 3, 1) := by decide +kernel
theorem dX5_lends_185 : decode cX5_lends 185 = .ok (.ifCond .eq 26, 3) := by decide +kernel
theorem dX5_lends_188 : decode cX5_lends 188 = .ok (.aload_n 0, 1) := by decide +kernel
theorem dX5_lends_189 : decode cX5_lends 189 = .ok (.iload_n 2, 1) := by decide +kernel
theorem dX5_lends_190 : decode cX5_lends 190 = .ok (.iconst 2, 1) := by decide +kernel
theorem dX5_lends_191 : decode cX5_lends 191 = .ok (.invokevirtual 91, 3) := by decide +kernel
theorem dX5_lends_194 : decode cX5_lends 194 = .ok (.iconst 1, 1) := by decide +kernel
theorem dX5_lends_195 : decode cX5_lends 195 = .ok (.if_icmp .eq 12, 3) := by decide +kernel
theorem dX5_lends_198 : decode cX5_lends 198 = .ok (.aload_n 0, 1) := by decide +kernel
theorem dX5_lends_199 : decode cX5_lends 199 = .ok (.getfield 22, 3) := by decide +kernel
theorem dX5_lends_202 : decode cX5_lends 202 = .ok (.iload_n 2, 1) := by decide +kernel
theorem dX5_lends_203 : decode cX5_lends 203 = .ok (.iaload, 1) := by decide +kernel
theorem dX5_lends_204 : decode cX5_lends 204 = .ok (.ifCond .le 7, 3) := by decide +kernel
theorem dX5_lends_207 : decode cX5_lends 207 = .ok (.iconst 1, 1) := by decide +kernel
theorem dX5_lends_208 : decode cX5_lends 208 = .ok (.goto 4, 3) := by decide +kernel
theorem dX5_lends_211 : decode cX5_lends 211 = .ok (.iconst 0, 1) := by decide +kernel
theorem dX5_lends_212 : decode cX5_lends 212 = .ok (.bastore, 1) := by decide +kernel
theorem dX5_lends_213 : decode cX5_lends 213 = .ok (.iload_n 1, 1) := by decide +kernel
theorem dX5_lends_214 : decode cX5_lends 214 = .ok (.aload_n 0, 1) := by decide +kernel
theorem dX5_lends_215 : decode cX5_lends 215 = .ok (.getfield 25, 3) := by decide +kernel
theorem dX5_lends_218 : decode cX5_lends 218 = .ok (.iload_n 2, 1) := by decide +kernel
theorem dX5_lends_219 : decode cX5_lends 219 = .ok (.baload, 1) := by decide +kernel
theorem dX5_lends_220 : decode cX5_lends 220 = .ok (.ifCond .eq 7, 3) := by decide +kernel
theorem dX5_lends_223 : decode cX5_lends 223 = .ok (.iconst 1, 1) := by decide +kernel
theorem dX5_lends_224 : decode cX5_lends 224 = .ok (.goto 4, 3) := by decide +kernel
theorem dX5_lends_227 : decode cX5_lends 227 = .ok (.iconst 0, 1) := by decide +kernel
theorem dX5_lends_228 : decode cX5_lends 228 = .ok (.iadd, 1) := by decide +kernel
theorem dX5_lends_229 : decode cX5_lends 229 = .ok (.istore_n 1, 1) := by decide +kernel
theorem dX5_lends_230 : decode cX5_lends 230 = .ok (.iinc 2 1, 3) := by decide +kernel
theorem dX5_lends_233 : decode cX5_lends 233 = .ok (.goto (-190), 3) := by decide +kernel
theorem dX5_lends_236 : decode cX5_lends 236 = .ok (.iload_n 1, 1) := by decide +kernel
theorem dX5_lends_237 : decode cX5_lends 237 = .ok (.ireturn, 1) := by decide +kernel
theorem dX5_litOf_0 : decode cX5_litOf 0 = .ok (.iload_n 1, 1) := by decide +kernel
theorem dX5_litOf_1 : decode cX5_litOf 1 = .ok (.aload_n 0, 1) := by decide +kernel
theorem dX5_litOf_2 : decode cX5_litOf 2 = .ok (.getfield 7, 3) := by decide +kernel
theorem dX5_litOf_5 : decode cX5_litOf 5 = .ok (.iconst 3, 1) := by decide +kernel
theorem dX5_litOf_6 : decode cX5_litOf 6 = .ok (.iaload, 1) := by decide +kernel
theorem dX5_litOf_7 : decode cX5_litOf 7 = .ok (.iconst 2, 1) := by decide +kernel
theorem dX5_litOf_8 : decode cX5_litOf 8 = .ok (.idiv, 1) := by decide +kernel
theorem dX5_litOf_9 : decode cX5_litOf 9 = .ok (.if_icmp .ge 7, 3) := by decide +kernel
theorem dX5_litOf_12 : decode cX5_litOf 12 = .ok (.iload_n 1, 1) := by decide +kernel
theorem dX5_litOf_13 : decode cX5_litOf 13 = .ok (.goto 11, 3) := by decide +kernel
theorem dX5_litOf_16 : decode cX5_litOf 16 = .ok (.aload_n 0, 1) := by decide +kernel
theorem dX5_litOf_17 : decode cX5_litOf 17 = .ok (.getfield 7, 3) := by decide +kernel
theorem dX5_litOf_20 : decode cX5_litOf 20 = .ok (.iconst 3, 1) := by decide +kernel
theorem dX5_litOf_21 : decode cX5_litOf 21 = .ok (.iaload, 1) := by decide +kernel
theorem dX5_litOf_22 : decode cX5_litOf 22 = .ok (.iconst 2, 1) := by decide +kernel
theorem dX5_litOf_23 : decode cX5_litOf 23 = .ok (.idiv, 1) := by decide +kernel
theorem dX5_litOf_24 : decode cX5_litOf 24 = .ok (.ireturn, 1) := by decide +kernel
theorem dX5_mayDance_0 : decode cX5_mayDance 0 = .ok (.aload_n 0, 1) := by decide +kernel
theorem dX5_mayDance_1 : decode cX5_mayDance 1 = .ok (.getfield 25, 3) := by decide +kernel
theorem dX5_mayDance_4 : decode cX5_mayDance 4 = .ok (.iload_n 1, 1) := by decide +kernel
theorem dX5_mayDance_5 : decode cX5_mayDance 5 = .ok (.baload, 1) := by decide +kernel
theorem dX5_mayDance_6 : decode cX5_mayDance 6 = .ok (.ifCond .eq 37, 3) := by decide +kernel
theorem dX5_mayDance_9 : decode cX5_mayDance 9 = .ok (.aload_n 0, 1) := by decide +kernel
theorem dX5_mayDance_10 : decode cX5_mayDance 10 = .ok (.getfield 25, 3) := by decide +kernel
theorem dX5_mayDance_13 : decode cX5_mayDance 13 = .ok (.bipush 8, 2) := by decide +kernel
theorem dX5_mayDance_15 : decode cX5_mayDance 15 = .ok (.iload_n 2, 1) := by decide +kernel
theorem dX5_mayDance_16 : decode cX5_mayDance 16 = .ok (.iadd, 1) := by decide +kernel
theorem dX5_mayDance_17 : decode cX5_mayDance 17 = .ok (.baload, 1) := by decide +kernel
theorem dX5_mayDance_18 : decode cX5_mayDance 18 = .ok (.ifCond .eq 25, 3) := by decide +kernel
theorem dX5_mayDance_21 : decode cX5_mayDance 21 = .ok (.aload_n 0, 1) := by decide +kernel
theorem dX5_mayDance_22 : decode cX5_mayDance 22 = .ok (.getfield 7, 3) := by decide +kernel
theorem dX5_mayDance_25 : decode cX5_mayDance 25 = .ok (.bipush 28, 2) := by decide +kernel
theorem dX5_mayDance_27 : decode cX5_mayDance 27 = .ok (.bipush 8, 2) := by decide +kernel
theorem dX5_mayDance_29 : decode cX5_mayDance 29 = .ok (.iload_n 1, 1) := by decide +kernel
theorem dX5_mayDance_30 : decode cX5_mayDance 30 = .ok (.imul, 1) := by decide +kernel
theorem dX5_mayDance_31 : decode cX5_mayDance 31 = .ok (.iadd, 1) := by decide +kernel
theorem dX5_mayDance_32 : decode cX5_mayDance 32 = .ok (.iload_n 2, 1) := by decide +kernel
theorem dX5_mayDance_33 : decode cX5_mayDance 33 = .ok (.iadd, 1) := by decide +kernel
theorem dX5_mayDance_34 : decode cX5_mayDance 34 = .ok (.iaload, 1) := by decide +kernel
theorem dX5_mayDance_35 : decode cX5_mayDance 35 = .ok (.iconst (-1), 1) := by decide +kernel
theorem dX5_mayDance_36 : decode cX5_mayDance 36 = .ok (.if_icmp .ne 7, 3) := by decide +kernel
theorem dX5_mayDance_39 : decode cX5_mayDance 39 = .ok (.iconst 1, 1) := by decide +kernel
theorem dX5_mayDance_40 : decode cX5_mayDance 40 = .ok (.goto 4, 3) := by decide +kernel
theorem dX5_mayDance_43 : decode cX5_mayDance 43 = .ok (.iconst 0, 1) := by decide +kernel
theorem dX5_mayDance_44 : decode cX5_mayDance 44 = .ok (.ireturn, 1) := by decide +kernel
set_option maxRecDepth 20000 in
theorem ggX5_findsGreatest_X5_mayDance : GoodIn wsX5_findsGreatest wsX5_mayDance := goodIn_r _ [6, 7, 8, 9, 10, 11, 12, 13, 14, 15, 16, 17, 18, 19, 20, 21, 22, 23, 24] (by decide +kernel) (by decide +kernel)
set_option maxRecDepth 20000 in
theorem gX5_findsGreatest_X5_mayDance : GoodIn wsX5_findsGreatest (wsV RX5 107 RX5 yX5_mayDance wsX5_mayDance) := goodIn_app (goodIn_of _ (by decide +kernel)) ggX5_findsGreatest_X5_mayDance
theorem dX5_findsGreatest_0 : decode cX5_findsGreatest 0 = .ok (.iconst 0, 1) := by decide +kernel
theorem dX5_findsGreatest_1 : decode cX5_findsGreatest 1 = .ok (.istore_n 1, 1) := by decide +kernel
theorem dX5_findsGreatest_2 : decode cX5_findsGreatest 2 = .ok (.iload_n 1, 1) := by decide +kernel
theorem dX5_findsGreatest_3 : decode cX5_findsGreatest 3 = .ok (.sipush 256, 3) := by decide +kernel
theorem dX5_findsGreatest_6 : decode cX5_findsGreatest 6 = .ok (.if_icmp .ge 20, 3) := by decide +kernel
theorem dX5_findsGreatest_9 : decode cX5_findsGreatest 9 = .ok (.aload_n 0, 1) := by decide +kernel
theorem dX5_findsGreatest_10 : decode cX5_findsGreatest 10 = .ok (.getfield 29, 3) := by decide +kernel
theorem dX5_findsGreatest_13 : decode cX5_findsGreatest 13 = .ok (.sipush 2048, 3) := by decide +kernel
theorem dX5_findsGreatest_16 : decode cX5_findsGreatest 16 = .ok (.iload_n 1, 1) := by decide +kernel
theorem dX5_findsGreatest_17 : decode cX5_findsGreatest 17 = .ok (.iadd, 1) := by decide +kernel
theorem dX5_findsGreatest_18 : decode cX5_findsGreatest 18 = .ok (.iconst 0, 1) := by decide +kernel
theorem dX5_findsGreatest_19 : decode cX5_findsGreatest 19 = .ok (.iastore, 1) := by decide +kernel
theorem dX5_findsGreatest_20 : decode cX5_findsGreatest 20 = .ok (.iinc 1 1, 3) := by decide +kernel
theorem dX5_findsGreatest_23 : decode cX5_findsGreatest 23 = .ok (.goto (-21), 3) := by decide +kernel
theorem dX5_findsGreatest_26 : decode cX5_findsGreatest 26 = .ok (.bipush 7, 2) := by decide +kernel
theorem dX5_findsGreatest_28 : decode cX5_findsGreatest 28 = .ok (.istore_n 1, 1) := by decide +kernel
theorem dX5_findsGreatest_29 : decode cX5_findsGreatest 29 = .ok (.iload_n 1, 1) := by decide +kernel
theorem dX5_findsGreatest_30 : decode cX5_findsGreatest 30 = .ok (.ifCond .lt 142, 3) := by decide +kernel
theorem dX5_findsGreatest_33 : decode cX5_findsGreatest 33 = .ok (.iconst 0, 1) := by decide +kernel
theorem dX5_findsGreatest_34 : decode cX5_findsGreatest 34 = .ok (.istore_n 2, 1) := by decide +kernel
theorem dX5_findsGreatest_35 : decode cX5_findsGreatest 35 = .ok (.iload_n 2, 1) := by decide +kernel
theorem dX5_findsGreatest_36 : decode cX5_findsGreatest 36 = .ok (.sipush 256, 3) := by decide +kernel
theorem dX5_findsGreatest_39 : decode cX5_findsGreatest 39 = .ok (.if_icmp .ge 127, 3) := by decide +kernel
theorem dX5_findsGreatest_42 : decode cX5_findsGreatest 42 = .ok (.aload_n 0, 1) := by decide +kernel
theorem dX5_findsGreatest_43 : decode cX5_findsGreatest 43 = .ok (.getfield 29, 3) := by decide +kernel
theorem dX5_findsGreatest_46 : decode cX5_findsGreatest 46 = .ok (.sipush 256, 3) := by decide +kernel
theorem dX5_findsGreatest_49 : decode cX5_findsGreatest 49 = .ok (.iload_n 1, 1) := by decide +kernel
theorem dX5_findsGreatest_50 : decode cX5_findsGreatest 50 = .ok (.iconst 1, 1) := by decide +kernel
theorem dX5_findsGreatest_51 : decode cX5_findsGreatest 51 = .ok (.iadd, 1) := by decide +kernel
theorem dX5_findsGreatest_52 : decode cX5_findsGreatest 52 = .ok (.imul, 1) := by decide +kernel
theorem dX5_findsGreatest_53 : decode cX5_findsGreatest 53 = .ok (.iload_n 2, 1) := by decide +kernel
theorem dX5_findsGreatest_54 : decode cX5_findsGreatest 54 = .ok (.iadd, 1) := by decide +kernel
theorem dX5_findsGreatest_55 : decode cX5_findsGreatest 55 = .ok (.iaload, 1) := by decide +kernel
theorem dX5_findsGreatest_56 : decode cX5_findsGreatest 56 = .ok (.istore_n 3, 1) := by decide +kernel
theorem dX5_findsGreatest_57 : decode cX5_findsGreatest 57 = .ok (.iconst 0, 1) := by decide +kernel
theorem dX5_findsGreatest_58 : decode cX5_findsGreatest 58 = .ok (.istore 4, 2) := by decide +kernel
theorem dX5_findsGreatest_60 : decode cX5_findsGreatest 60 = .ok (.iload 4, 2) := by decide +kernel
theorem dX5_findsGreatest_62 : decode cX5_findsGreatest 62 = .ok (.bipush 8, 2) := by decide +kernel
theorem dX5_findsGreatest_64 : decode cX5_findsGreatest 64 = .ok (.if_icmp .ge 83, 3) := by decide +kernel
theorem dX5_findsGreatest_67 : decode cX5_findsGreatest 67 = .ok (.iload_n 2, 1) := by decide +kernel
theorem dX5_findsGreatest_68 : decode cX5_findsGreatest 68 = .ok (.iload 4, 2) := by decide +kernel
theorem dX5_findsGreatest_70 : decode cX5_findsGreatest 70 = .ok (.ishr, 1) := by decide +kernel
theorem dX5_findsGreatest_71 : decode cX5_findsGreatest 71 = .ok (.iconst 1, 1) := by decide +kernel
theorem dX5_findsGreatest_72 : decode cX5_findsGreatest 72 = .ok (.iand, 1) := by decide +kernel
theorem dX5_findsGreatest_73 : decode cX5_findsGreatest 73 = .ok (.iconst 1, 1) := by decide +kernel
theorem dX5_findsGreatest_74 : decode cX5_findsGreatest 74 = .ok (.if_icmp .ne 17, 3) := by decide +kernel
theorem dX5_findsGreatest_77 : decode cX5_findsGreatest 77 = .ok (.aload_n 0, 1) := by decide +kernel
theorem dX5_findsGreatest_78 : decode cX5_findsGreatest 78 = .ok (.iload_n 1, 1) := by decide +kernel
theorem dX5_findsGreatest_79 : decode cX5_findsGreatest 79 = .ok (.iload 4, 2) := by decide +kernel
theorem dX5_findsGreatest_81 : decode cX5_findsGreatest 81 = .ok (.invokevirtual 107, 3) := by decide +kernel
theorem dX5_findsGreatest_84 : decode cX5_findsGreatest 84 = .ok (.ifCond .eq 7, 3) := by decide +kernel
theorem dX5_findsGreatest_87 : decode cX5_findsGreatest 87 = .ok (.iconst 1, 1) := by decide +kernel
theorem dX5_findsGreatest_88 : decode cX5_findsGreatest 88 = .ok (.goto 4, 3) := by decide +kernel
theorem dX5_findsGreatest_91 : decode cX5_findsGreatest 91 = .ok (.iconst 0, 1) := by decide +kernel
theorem dX5_findsGreatest_92 : decode cX5_findsGreatest 92 = .ok (.istore 5, 2) := by decide +kernel
theorem dX5_findsGreatest_94 : decode cX5_findsGreatest 94 = .ok (.iload 5, 2) := by decide +kernel
theorem dX5_findsGreatest_96 : decode cX5_findsGreatest 96 = .ok (.ifCond .eq 29, 3) := by decide +kernel
theorem dX5_findsGreatest_99 : decode cX5_findsGreatest 99 = .ok (.iconst 1, 1) := by decide +kernel
theorem dX5_findsGreatest_100 : decode cX5_findsGreatest 100 = .ok (.aload_n 0, 1) := by decide +kernel
theorem dX5_findsGreatest_101 : decode cX5_findsGreatest 101 = .ok (.getfield 29, 3) := by decide +kernel
theorem dX5_findsGreatest_104 : decode cX5_findsGreatest 104 = .ok (.sipush 256, 3) := by decide +kernel
theorem dX5_findsGreatest_107 : decode cX5_findsGreatest 107 = .ok (.iload_n 1, 1) := by decide +kernel
theorem dX5_findsGreatest_108 : decode cX5_findsGreatest 108 = .ok (.iconst 1, 1) := by decide +kernel
theorem dX5_findsGreatest_109 : decode cX5_findsGreatest 109 = .ok (.iadd, 1) := by decide +kernel
theorem dX5_findsGreatest_110 : decode cX5_findsGreatest 110 = .ok (.imul, 1) := by decide +kernel
theorem dX5_findsGreatest_111 : decode cX5_findsGreatest 111 = .ok (.iload_n 2, 1) := by decide +kernel
theorem dX5_findsGreatest_112 : decode cX5_findsGreatest 112 = .ok (.iconst 1, 1) := by decide +kernel
theorem dX5_findsGreatest_113 : decode cX5_findsGreatest 113 = .ok (.iload 4, 2) := by decide +kernel
theorem dX5_findsGreatest_115 : decode cX5_findsGreatest 115 = .ok (.ishl, 1) := by decide +kernel
theorem dX5_findsGreatest_116 : decode cX5_findsGreatest 116 = .ok (.iconst (-1), 1) := by decide +kernel
theorem dX5_findsGreatest_117 : decode cX5_findsGreatest 117 = .ok (.ixor, 1) := by decide +kernel
theorem dX5_findsGreatest_118 : decode cX5_findsGreatest 118 = .ok (.iand, 1) := by decide +kernel
theorem dX5_findsGreatest_119 : decode cX5_findsGreatest 119 = .ok (.iadd, 1) := by decide +kernel
theorem dX5_findsGreatest_120 : decode cX5_findsGreatest 120 = .ok (.iaload, 1) := by decide +kernel
theorem dX5_findsGreatest_121 : decode cX5_findsGreatest 121 = .ok (.iadd, 1) := by decide +kernel
theorem dX5_findsGreatest_122 : decode cX5_findsGreatest 122 = .ok (.goto 4, 3) := by decide +kernel
theorem dX5_findsGreatest_125 : decode cX5_findsGreatest 125 = .ok (.iconst 0, 1) := by decide +kernel
theorem dX5_findsGreatest_126 : decode cX5_findsGreatest 126 = .ok (.istore 6, 2) := by decide +kernel
theorem dX5_findsGreatest_128 : decode cX5_findsGreatest 128 = .ok (.iload 6, 2) := by decide +kernel
theorem dX5_findsGreatest_130 : decode cX5_findsGreatest 130 = .ok (.iload_n 3, 1) := by decide +kernel
theorem dX5_findsGreatest_131 : decode cX5_findsGreatest 131 = .ok (.if_icmp .le 8, 3) := by decide +kernel
theorem dX5_findsGreatest_134 : decode cX5_findsGreatest 134 = .ok (.iload 6, 2) := by decide +kernel
theorem dX5_findsGreatest_136 : decode cX5_findsGreatest 136 = .ok (.goto 4, 3) := by decide +kernel
theorem dX5_findsGreatest_139 : decode cX5_findsGreatest 139 = .ok (.iload_n 3, 1) := by decide +kernel
theorem dX5_findsGreatest_140 : decode cX5_findsGreatest 140 = .ok (.istore_n 3, 1) := by decide +kernel
theorem dX5_findsGreatest_141 : decode cX5_findsGreatest 141 = .ok (.iinc 4 1, 3) := by decide +kernel
theorem dX5_findsGreatest_144 : decode cX5_findsGreatest 144 = .ok (.goto (-84), 3) := by decide +kernel
theorem dX5_findsGreatest_147 : decode cX5_findsGreatest 147 = .ok (.aload_n 0, 1) := by decide +kernel
theorem dX5_findsGreatest_148 : decode cX5_findsGreatest 148 = .ok (.getfield 29, 3) := by decide +kernel
theorem dX5_findsGreatest_151 : decode cX5_findsGreatest 151 = .ok (.sipush 256, 3) := by decide +kernel
theorem dX5_findsGreatest_154 : decode cX5_findsGreatest 154 = .ok (.iload_n 1, 1) := by decide +kernel
theorem dX5_findsGreatest_155 : decode cX5_findsGreatest 155 = .ok (.imul, 1) := by decide +kernel
theorem dX5_findsGreatest_156 : decode cX5_findsGreatest 156 = .ok (.iload_n 2, 1) := by decide +kernel
theorem dX5_findsGreatest_157 : decode cX5_findsGreatest 157 = .ok (.iadd, 1) := by decide +kernel
theorem dX5_findsGreatest_158 : decode cX5_findsGreatest 158 = .ok (.iload_n 3, 1) := by decide +kernel
theorem dX5_findsGreatest_159 : decode cX5_findsGreatest 159 = .ok (.iastore, 1) := by decide +kernel
theorem dX5_findsGreatest_160 : decode cX5_findsGreatest 160 = .ok (.iinc 2 1, 3) := by decide +kernel
theorem dX5_findsGreatest_163 : decode cX5_findsGreatest 163 = .ok (.goto (-128), 3) := by decide +kernel
theorem dX5_findsGreatest_166 : decode cX5_findsGreatest 166 = .ok (.iinc 1 (-1), 3) := by decide +kernel
theorem dX5_findsGreatest_169 : decode cX5_findsGreatest 169 = .ok (.goto (-140), 3) := by decide +kernel
theorem dX5_findsGreatest_172 : decode cX5_findsGreatest 172 = .ok (.return_, 1) := by decide +kernel
set_option maxRecDepth 20000 in
theorem ggX5_chooses_X5_lends : GoodIn wsX5_chooses wsX5_lends := goodIn_r _ [7, 8, 9, 10, 11, 12, 13, 14, 6, 15, 16, 17, 18, 19, 20, 21, 22, 35, 36, 37, 38, 39, 40, 41, 42, 43, 44, 45, 46, 47, 48, 49, 50] (by decide +kernel) (by decide +kernel)
set_option maxRecDepth 20000 in
theorem gX5_chooses_X5_lends : GoodIn wsX5_chooses (wsV RX5 111 RX5 yX5_lends wsX5_lends) := goodIn_app (goodIn_of _ (by decide +kernel)) ggX5_chooses_X5_lends
set_option maxRecDepth 20000 in
theorem ggX5_chooses_X5_findsGreatest : GoodIn wsX5_chooses wsX5_findsGreatest := goodIn_r _ [26, 1, 27, 28, 29, 6, 30, 11, 9, 35, 36, 37, 38, 39, 40, 41, 42, 43, 44, 45, 46, 47, 48, 49, 50] (by decide +kernel) (by decide +kernel)
set_option maxRecDepth 20000 in
theorem gX5_chooses_X5_findsGreatest : GoodIn wsX5_chooses (wsV RX5 115 RX5 yX5_findsGreatest wsX5_findsGreatest) := goodIn_app (goodIn_of _ (by decide +kernel)) ggX5_chooses_X5_findsGreatest
set_option maxRecDepth 20000 in
theorem ggX5_chooses_X5_litOf : GoodIn wsX5_chooses wsX5_litOf := goodIn_r _ [34, 9, 35, 36, 37, 38, 39, 40, 41, 42, 43, 44, 45, 46, 47, 48, 49, 50] (by decide +kernel) (by decide +kernel)
set_option maxRecDepth 20000 in
theorem gX5_chooses_X5_litOf : GoodIn wsX5_chooses (wsV RX5 118 RX5 yX5_litOf wsX5_litOf) := goodIn_app (goodIn_of _ (by decide +kernel)) ggX5_chooses_X5_litOf
set_option maxRecDepth 20000 in
theorem ggX5_chooses_X5_mayDance : GoodIn wsX5_chooses wsX5_mayDance := goodIn_r _ [30, 11, 9, 35, 36, 37, 38, 39, 40, 41, 42, 43, 44, 45, 46, 47, 48, 49, 50] (by decide +kernel) (by decide +kernel)
set_option maxRecDepth 20000 in
theorem gX5_chooses_X5_mayDance : GoodIn wsX5_chooses (wsV RX5 107 RX5 yX5_mayDance wsX5_mayDance) := goodIn_app (goodIn_of _ (by decide +kernel)) ggX5_chooses_X5_mayDance
theorem dX5_chooses_0 : decode cX5_chooses 0 = .ok (.aload_n 0, 1) := by decide +kernel
theorem dX5_chooses_1 : decode cX5_chooses 1 = .ok (.invokevirtual 111, 3) := by decide +kernel
theorem dX5_chooses_4 : decode cX5_chooses 4 = .ok (.istore_n 2, 1) := by decide +kernel
theorem dX5_chooses_5 : decode cX5_chooses 5 = .ok (.aload_n 0, 1) := by decide +kernel
theorem dX5_chooses_6 : decode cX5_chooses 6 = .ok (.invokevirtual 115, 3) := by decide +kernel
theorem dX5_chooses_9 : decode cX5_chooses 9 = .ok (.iconst 2, 1) := by decide +kernel
theorem dX5_chooses_10 : decode cX5_chooses 10 = .ok (.aload_n 0, 1) := by decide +kernel
theorem dX5_chooses_11 : decode cX5_chooses 11 = .ok (.iload_n 1, 1) := by decide +kernel
theorem dX5_chooses_12 : decode cX5_chooses 12 = .ok (.invokevirtual 118, 3) := by decide +kernel
theorem dX5_chooses_15 : decode cX5_chooses 15 = .ok (.imul, 1) := by decide +kernel
theorem dX5_chooses_16 : decode cX5_chooses 16 = .ok (.istore_n 3, 1) := by decide +kernel
theorem dX5_chooses_17 : decode cX5_chooses 17 = .ok (.aload_n 0, 1) := by decide +kernel
theorem dX5_chooses_18 : decode cX5_chooses 18 = .ok (.getfield 29, 3) := by decide +kernel
theorem dX5_chooses_21 : decode cX5_chooses 21 = .ok (.sipush 255, 3) := by decide +kernel
theorem dX5_chooses_24 : decode cX5_chooses 24 = .ok (.iaload, 1) := by decide +kernel
theorem dX5_chooses_25 : decode cX5_chooses 25 = .ok (.iload_n 3, 1) := by decide +kernel
theorem dX5_chooses_26 : decode cX5_chooses 26 = .ok (.if_icmp .ge 14, 3) := by decide +kernel
theorem dX5_chooses_29 : decode cX5_chooses 29 = .ok (.aload_n 0, 1) := by decide +kernel
theorem dX5_chooses_30 : decode cX5_chooses 30 = .ok (.getfield 29, 3) := by decide +kernel
theorem dX5_chooses_33 : decode cX5_chooses 33 = .ok (.sipush 255, 3) := by decide +kernel
theorem dX5_chooses_36 : decode cX5_chooses 36 = .ok (.iaload, 1) := by decide +kernel
theorem dX5_chooses_37 : decode cX5_chooses 37 = .ok (.goto 4, 3) := by decide +kernel
theorem dX5_chooses_40 : decode cX5_chooses 40 = .ok (.iload_n 3, 1) := by decide +kernel
theorem dX5_chooses_41 : decode cX5_chooses 41 = .ok (.istore 4, 2) := by decide +kernel
theorem dX5_chooses_43 : decode cX5_chooses 43 = .ok (.iload_n 2, 1) := by decide +kernel
theorem dX5_chooses_44 : decode cX5_chooses 44 = .ok (.ifCond .le 8, 3) := by decide +kernel
theorem dX5_chooses_47 : decode cX5_chooses 47 = .ok (.iload 4, 2) := by decide +kernel
theorem dX5_chooses_49 : decode cX5_chooses 49 = .ok (.goto 4, 3) := by decide +kernel
theorem dX5_chooses_52 : decode cX5_chooses 52 = .ok (.iconst 0, 1) := by decide +kernel
theorem dX5_chooses_53 : decode cX5_chooses 53 = .ok (.istore 5, 2) := by decide +kernel
theorem dX5_chooses_55 : decode cX5_chooses 55 = .ok (.sipush 255, 3) := by decide +kernel
theorem dX5_chooses_58 : decode cX5_chooses 58 = .ok (.istore 6, 2) := by decide +kernel
theorem dX5_chooses_60 : decode cX5_chooses 60 = .ok (.iconst 0, 1) := by decide +kernel
theorem dX5_chooses_61 : decode cX5_chooses 61 = .ok (.istore 7, 2) := by decide +kernel
theorem dX5_chooses_63 : decode cX5_chooses 63 = .ok (.iload 7, 2) := by decide +kernel
theorem dX5_chooses_65 : decode cX5_chooses 65 = .ok (.bipush 8, 2) := by decide +kernel
theorem dX5_chooses_67 : decode cX5_chooses 67 = .ok (.if_icmp .ge 150, 3) := by decide +kernel
theorem dX5_chooses_70 : decode cX5_chooses 70 = .ok (.aload_n 0, 1) := by decide +kernel
theorem dX5_chooses_71 : decode cX5_chooses 71 = .ok (.getfield 32, 3) := by decide +kernel
theorem dX5_chooses_74 : decode cX5_chooses 74 = .ok (.iload 7, 2) := by decide +kernel
theorem dX5_chooses_76 : decode cX5_chooses 76 = .ok (.iconst (-1), 1) := by decide +kernel
theorem dX5_chooses_77 : decode cX5_chooses 77 = .ok (.iastore, 1) := by decide +kernel
theorem dX5_chooses_78 : decode cX5_chooses 78 = .ok (.bipush 7, 2) := by decide +kernel
theorem dX5_chooses_80 : decode cX5_chooses 80 = .ok (.istore 8, 2) := by decide +kernel
theorem dX5_chooses_82 : decode cX5_chooses 82 = .ok (.iload 8, 2) := by decide +kernel
theorem dX5_chooses_84 : decode cX5_chooses 84 = .ok (.ifCond .lt 97, 3) := by decide +kernel
theorem dX5_chooses_87 : decode cX5_chooses 87 = .ok (.iload 5, 2) := by decide +kernel
theorem dX5_chooses_89 : decode cX5_chooses 89 = .ok (.ifCond .le 92, 3) := by decide +kernel
theorem dX5_chooses_92 : decode cX5_chooses 92 = .ok (.iload 6, 2) := by decide +kernel
theorem dX5_chooses_94 : decode cX5_chooses 94 = .ok (.iload 8, 2) := by decide +kernel
theorem dX5_chooses_96 : decode cX5_chooses 96 = .ok (.ishr, 1) := by decide +kernel
theorem dX5_chooses_97 : decode cX5_chooses 97 = .ok (.iconst 1, 1) := by decide +kernel
theorem dX5_chooses_98 : decode cX5_chooses 98 = .ok (.iand, 1) := by decide +kernel
theorem dX5_chooses_99 : decode cX5_chooses 99 = .ok (.iconst 1, 1) := by decide +kernel
theorem dX5_chooses_100 : decode cX5_chooses 100 = .ok (.if_icmp .ne 48, 3) := by decide +kernel
theorem dX5_chooses_103 : decode cX5_chooses 103 = .ok (.aload_n 0, 1) := by decide +kernel
theorem dX5_chooses_104 : decode cX5_chooses 104 = .ok (.iload 7, 2) := by decide +kernel
theorem dX5_chooses_106 : decode cX5_chooses 106 = .ok (.iload 8, 2) := by decide +kernel
theorem dX5_chooses_108 : decode cX5_chooses 108 = .ok (.invokevirtual 107, 3) := by decide +kernel
theorem dX5_chooses_111 : decode cX5_chooses 111 = .ok (.ifCond .eq 37, 3) := by decide +kernel
theorem dX5_chooses_114 : decode cX5_chooses 114 = .ok (.aload_n 0, 1) := by decide +kernel
theorem dX5_chooses_115 : decode cX5_chooses 115 = .ok (.getfield 29, 3) := by decide +kernel
theorem dX5_chooses_118 : decode cX5_chooses 118 = .ok (.sipush 256, 3) := by decide +kernel
theorem dX5_chooses_121 : decode cX5_chooses 121 = .ok (.iload 7, 2) := by decide +kernel
theorem dX5_chooses_123 : decode cX5_chooses 123 = .ok (.iconst 1, 1) := by decide +kernel
theorem dX5_chooses_124 : decode cX5_chooses 124 = .ok (.iadd, 1) := by decide +kernel
theorem dX5_chooses_125 : decode cX5_chooses 125 = .ok (.imul, 1) := by decide +kernel
theorem dX5_chooses_126 : decode cX5_chooses 126 = .ok (.iload 6, 2) := by decide +kernel
theorem dX5_chooses_128 : decode cX5_chooses 128 = .ok (.iconst 1, 1) := by decide +kernel
theorem dX5_chooses_129 : decode cX5_chooses 129 = .ok (.iload 8, 2) := by decide +kernel
theorem dX5_chooses_131 : decode cX5_chooses 131 = .ok (.ishl, 1) := by decide +kernel
theorem dX5_chooses_132 : decode cX5_chooses 132 = .ok (.iconst (-1), 1) := by decide +kernel
theorem dX5_chooses_133 : decode cX5_chooses 133 = .ok (.ixor, 1) := by decide +kernel
theorem dX5_chooses_134 : decode cX5_chooses 134 = .ok (.iand, 1) := by decide +kernel
theorem dX5_chooses_135 : decode cX5_chooses 135 = .ok (.iadd, 1) := by decide +kernel
theorem dX5_chooses_136 : decode cX5_chooses 136 = .ok (.iaload, 1) := by decide +kernel
theorem dX5_chooses_137 : decode cX5_chooses 137 = .ok (.iload 5, 2) := by decide +kernel
theorem dX5_chooses_139 : decode cX5_chooses 139 = .ok (.iconst 1, 1) := by decide +kernel
theorem dX5_chooses_140 : decode cX5_chooses 140 = .ok (.isub, 1) := by decide +kernel
theorem dX5_chooses_141 : decode cX5_chooses 141 = .ok (.if_icmp .lt 7, 3) := by decide +kernel
theorem dX5_chooses_144 : decode cX5_chooses 144 = .ok (.iconst 1, 1) := by decide +kernel
theorem dX5_chooses_145 : decode cX5_chooses 145 = .ok (.goto 4, 3) := by decide +kernel
theorem dX5_chooses_148 : decode cX5_chooses 148 = .ok (.iconst 0, 1) := by decide +kernel
theorem dX5_chooses_149 : decode cX5_chooses 149 = .ok (.istore 9, 2) := by decide +kernel
theorem dX5_chooses_151 : decode cX5_chooses 151 = .ok (.aload_n 0, 1) := by decide +kernel
theorem dX5_chooses_152 : decode cX5_chooses 152 = .ok (.getfield 32, 3) := by decide +kernel
theorem dX5_chooses_155 : decode cX5_chooses 155 = .ok (.iload 7, 2) := by decide +kernel
theorem dX5_chooses_157 : decode cX5_chooses 157 = .ok (.iload 9, 2) := by decide +kernel
theorem dX5_chooses_159 : decode cX5_chooses 159 = .ok (.ifCond .eq 8, 3) := by decide +kernel
theorem dX5_chooses_162 : decode cX5_chooses 162 = .ok (.iload 8, 2) := by decide +kernel
theorem dX5_chooses_164 : decode cX5_chooses 164 = .ok (.goto 10, 3) := by decide +kernel
theorem dX5_chooses_167 : decode cX5_chooses 167 = .ok (.aload_n 0, 1) := by decide +kernel
theorem dX5_chooses_168 : decode cX5_chooses 168 = .ok (.getfield 32, 3) := by decide +kernel
theorem dX5_chooses_171 : decode cX5_chooses 171 = .ok (.iload 7, 2) := by decide +kernel
theorem dX5_chooses_173 : decode cX5_chooses 173 = .ok (.iaload, 1) := by decide +kernel
theorem dX5_chooses_174 : decode cX5_chooses 174 = .ok (.iastore, 1) := by decide +kernel
theorem dX5_chooses_175 : decode cX5_chooses 175 = .ok (.iinc 8 (-1), 3) := by decide +kernel
theorem dX5_chooses_178 : decode cX5_chooses 178 = .ok (.goto (-96), 3) := by decide +kernel
theorem dX5_chooses_181 : decode cX5_chooses 181 = .ok (.aload_n 0, 1) := by decide +kernel
theorem dX5_chooses_182 : decode cX5_chooses 182 = .ok (.getfield 32, 3) := by decide +kernel
theorem dX5_chooses_185 : decode cX5_chooses 185 = .ok (.iload 7, 2) := by decide +kernel
theorem dX5_chooses_187 : decode cX5_chooses 187 = .ok (.iaload, 1) := by decide +kernel
theorem dX5_chooses_188 : decode cX5_chooses 188 = .ok (.iconst (-1), 1) := by decide +kernel
theorem dX5_chooses_189 : decode cX5_chooses 189 = .ok (.if_icmp .eq 22, 3) := by decide +kernel
theorem dX5_chooses_192 : decode cX5_chooses 192 = .ok (.iload 6, 2) := by decide +kernel
theorem dX5_chooses_194 : decode cX5_chooses 194 = .ok (.iconst 1, 1) := by decide +kernel
theorem dX5_chooses_195 : decode cX5_chooses 195 = .ok (.aload_n 0, 1) := by decide +kernel
theorem dX5_chooses_196 : decode cX5_chooses 196 = .ok (.getfield 32, 3) := by decide +kernel
theorem dX5_chooses_199 : decode cX5_chooses 199 = .ok (.iload 7, 2) := by decide +kernel
theorem dX5_chooses_201 : decode cX5_chooses 201 = .ok (.iaload, 1) := by decide +kernel
theorem dX5_chooses_202 : decode cX5_chooses 202 = .ok (.ishl, 1) := by decide +kernel
theorem dX5_chooses_203 : decode cX5_chooses 203 = .ok (.iconst (-1), 1) := by decide +kernel
theorem dX5_chooses_204 : decode cX5_chooses 204 = .ok (.ixor, 1) := by decide +kernel
theorem dX5_chooses_205 : decode cX5_chooses 205 = .ok (.iand, 1) := by decide +kernel
theorem dX5_chooses_206 : decode cX5_chooses 206 = .ok (.istore 6, 2) := by decide +kernel
theorem dX5_chooses_208 : decode cX5_chooses 208 = .ok (.iinc 5 (-1), 3) := by decide +kernel
theorem dX5_chooses_211 : decode cX5_chooses 211 = .ok (.iinc 7 1, 3) := by decide +kernel
theorem dX5_chooses_214 : decode cX5_chooses 214 = .ok (.goto (-151), 3) := by decide +kernel
theorem dX5_chooses_217 : decode cX5_chooses 217 = .ok (.iload 4, 2) := by decide +kernel
theorem dX5_chooses_219 : decode cX5_chooses 219 = .ok (.ireturn, 1) := by decide +kernel
set_option maxRecDepth 20000 in
theorem ggX5_pays_X5_at : GoodIn wsX5_pays wsX5_at := goodIn_r _ [5] (by decide +kernel) (by decide +kernel)
set_option maxRecDepth 20000 in
theorem gX5_pays_X5_at : GoodIn wsX5_pays (va_wsS RX5 59 yX5_at wsX5_at) := goodIn_app (goodIn_of _ (by decide +kernel)) ggX5_pays_X5_at
theorem dX5_pays_0 : decode cX5_pays 0 = .ok (.aload_n 0, 1) := by decide +kernel
theorem dX5_pays_1 : decode cX5_pays 1 = .ok (.getfield 7, 3) := by decide +kernel
theorem dX5_pays_4 : decode cX5_pays 4 = .ok (.iload_n 1, 1) := by decide +kernel
theorem dX5_pays_5 : decode cX5_pays 5 = .ok (.iconst 0, 1) := by decide +kernel
theorem dX5_pays_6 : decode cX5_pays 6 = .ok (.invokestatic 59, 3) := by decide +kernel
theorem dX5_pays_9 : decode cX5_pays 9 = .ok (.dup2, 1) := by decide +kernel
theorem dX5_pays_10 : decode cX5_pays 10 = .ok (.iaload, 1) := by decide +kernel
theorem dX5_pays_11 : decode cX5_pays 11 = .ok (.iconst 1, 1) := by decide +kernel
theorem dX5_pays_12 : decode cX5_pays 12 = .ok (.isub, 1) := by decide +kernel
theorem dX5_pays_13 : decode cX5_pays 13 = .ok (.iastore, 1) := by decide +kernel
theorem dX5_pays_14 : decode cX5_pays 14 = .ok (.aload_n 0, 1) := by decide +kernel
theorem dX5_pays_15 : decode cX5_pays 15 = .ok (.getfield 7, 3) := by decide +kernel
theorem dX5_pays_18 : decode cX5_pays 18 = .ok (.iload_n 1, 1) := by decide +kernel
theorem dX5_pays_19 : decode cX5_pays 19 = .ok (.iconst 4, 1) := by decide +kernel
theorem dX5_pays_20 : decode cX5_pays 20 = .ok (.invokestatic 59, 3) := by decide +kernel
theorem dX5_pays_23 : decode cX5_pays 23 = .ok (.dup2, 1) := by decide +kernel
theorem dX5_pays_24 : decode cX5_pays 24 = .ok (.iaload, 1) := by decide +kernel
theorem dX5_pays_25 : decode cX5_pays 25 = .ok (.iconst 1, 1) := by decide +kernel
theorem dX5_pays_26 : decode cX5_pays 26 = .ok (.iadd, 1) := by decide +kernel
theorem dX5_pays_27 : decode cX5_pays 27 = .ok (.iastore, 1) := by decide +kernel
theorem dX5_pays_28 : decode cX5_pays 28 = .ok (.aload_n 0, 1) := by decide +kernel
theorem dX5_pays_29 : decode cX5_pays 29 = .ok (.getfield 7, 3) := by decide +kernel
theorem dX5_pays_32 : decode cX5_pays 32 = .ok (.iload_n 1, 1) := by decide +kernel
theorem dX5_pays_33 : decode cX5_pays 33 = .ok (.iconst 5, 1) := by decide +kernel
theorem dX5_pays_34 : decode cX5_pays 34 = .ok (.invokestatic 59, 3) := by decide +kernel
theorem dX5_pays_37 : decode cX5_pays 37 = .ok (.dup2, 1) := by decide +kernel
theorem dX5_pays_38 : decode cX5_pays 38 = .ok (.iaload, 1) := by decide +kernel
theorem dX5_pays_39 : decode cX5_pays 39 = .ok (.iconst 1, 1) := by decide +kernel
theorem dX5_pays_40 : decode cX5_pays 40 = .ok (.iadd, 1) := by decide +kernel
theorem dX5_pays_41 : decode cX5_pays 41 = .ok (.iastore, 1) := by decide +kernel
theorem dX5_pays_42 : decode cX5_pays 42 = .ok (.aload_n 0, 1) := by decide +kernel
theorem dX5_pays_43 : decode cX5_pays 43 = .ok (.getfield 7, 3) := by decide +kernel
theorem dX5_pays_46 : decode cX5_pays 46 = .ok (.bipush 7, 2) := by decide +kernel
theorem dX5_pays_48 : decode cX5_pays 48 = .ok (.dup2, 1) := by decide +kernel
theorem dX5_pays_49 : decode cX5_pays 49 = .ok (.iaload, 1) := by decide +kernel
theorem dX5_pays_50 : decode cX5_pays 50 = .ok (.iconst 1, 1) := by decide +kernel
theorem dX5_pays_51 : decode cX5_pays 51 = .ok (.iadd, 1) := by decide +kernel
theorem dX5_pays_52 : decode cX5_pays 52 = .ok (.iastore, 1) := by decide +kernel
theorem dX5_pays_53 : decode cX5_pays 53 = .ok (.return_, 1) := by decide +kernel
set_option maxRecDepth 20000 in
theorem ggX5_canBe_X5_litOf : GoodIn wsX5_canBe wsX5_litOf := goodIn_r _ [6, 1, 7, 8, 9, 10, 11, 12, 13, 14, 15, 16, 17, 18, 19, 20, 21, 22] (by decide +kernel) (by decide +kernel)
set_option maxRecDepth 20000 in
theorem gX5_canBe_X5_litOf : GoodIn wsX5_canBe (wsV RX5 118 RX5 yX5_litOf wsX5_litOf) := goodIn_app (goodIn_of _ (by decide +kernel)) ggX5_canBe_X5_litOf
theorem dX5_canBe_0 : decode cX5_canBe 0 = .ok (.aload_n 0, 1) := by decide +kernel
theorem dX5_canBe_1 : decode cX5_canBe 1 = .ok (.aload_n 0, 1) := by decide +kernel
theorem dX5_canBe_2 : decode cX5_canBe 2 = .ok (.getfield 7, 3) := by decide +kernel
theorem dX5_canBe_5 : decode cX5_canBe 5 = .ok (.iconst 2, 1) := by decide +kernel
theorem dX5_canBe_6 : decode cX5_canBe 6 = .ok (.iaload, 1) := by decide +kernel
theorem dX5_canBe_7 : decode cX5_canBe 7 = .ok (.invokevirtual 118, 3) := by decide +kernel
theorem dX5_canBe_10 : decode cX5_canBe 10 = .ok (.ifCond .le 18, 3) := by decide +kernel
theorem dX5_canBe_13 : decode cX5_canBe 13 = .ok (.aload_n 0, 1) := by decide +kernel
theorem dX5_canBe_14 : decode cX5_canBe 14 = .ok (.getfield 7, 3) := by decide +kernel
theorem dX5_canBe_17 : decode cX5_canBe 17 = .ok (.iconst 5, 1) := by decide +kernel
theorem dX5_canBe_18 : decode cX5_canBe 18 = .ok (.iaload, 1) := by decide +kernel
theorem dX5_canBe_19 : decode cX5_canBe 19 = .ok (.bipush 30, 2) := by decide +kernel
theorem dX5_canBe_21 : decode cX5_canBe 21 = .ok (.if_icmp .ge 7, 3) := by decide +kernel
theorem dX5_canBe_24 : decode cX5_canBe 24 = .ok (.iconst 1, 1) := by decide +kernel
theorem dX5_canBe_25 : decode cX5_canBe 25 = .ok (.goto 4, 3) := by decide +kernel
theorem dX5_canBe_28 : decode cX5_canBe 28 = .ok (.iconst 0, 1) := by decide +kernel
theorem dX5_canBe_29 : decode cX5_canBe 29 = .ok (.ireturn, 1) := by decide +kernel
set_option maxRecDepth 20000 in
theorem ggX5_dances_X5_chooses : GoodIn wsX5_dances wsX5_chooses := goodIn_r _ [7, 8, 2, 9, 10, 11, 6, 12, 13, 1, 14, 15, 16, 17, 18, 19, 20, 21, 22, 23, 24, 25, 26, 27, 28, 29, 30, 31, 32, 33, 34, 35, 36, 37, 38, 43, 44, 45, 46, 47, 48, 49, 50, 51, 52, 53, 54, 55, 56, 57, 58] (by decide +kernel) (by decide +kernel)
set_option maxRecDepth 20000 in
theorem gX5_dances_X5_chooses : GoodIn wsX5_dances (wsV RX5 121 RX5 yX5_chooses wsX5_chooses) := goodIn_app (goodIn_of _ (by decide +kernel)) ggX5_dances_X5_chooses
set_option maxRecDepth 20000 in
theorem ggX5_dances_X5_pays : GoodIn wsX5_dances wsX5_pays := goodIn_r _ [42, 1, 24, 25, 6, 26, 43, 44, 45, 46, 47, 48, 49, 50, 51, 52, 53, 54, 55, 56, 57, 58] (by decide +kernel) (by decide +kernel)
set_option maxRecDepth 20000 in
theorem gX5_dances_X5_pays : GoodIn wsX5_dances (wsV RX5 124 RX5 yX5_pays wsX5_pays) := goodIn_app (goodIn_of _ (by decide +kernel)) ggX5_dances_X5_pays
set_option maxRecDepth 20000 in
theorem ggX5_dances_X5_litOf : GoodIn wsX5_dances wsX5_litOf := goodIn_r _ [38, 1, 43, 44, 45, 46, 47, 48, 49, 50, 51, 52, 53, 54, 55, 56, 57, 58] (by decide +kernel) (by decide +kernel)
set_option maxRecDepth 20000 in
theorem gX5_dances_X5_litOf : GoodIn wsX5_dances (wsV RX5 118 RX5 yX5_litOf wsX5_litOf) := goodIn_app (goodIn_of _ (by decide +kernel)) ggX5_dances_X5_litOf
theorem dX5_dances_0 : decode cX5_dances 0 = .ok (.aload_n 0, 1) := by decide +kernel
theorem dX5_dances_1 : decode cX5_dances 1 = .ok (.aload_n 0, 1) := by decide +kernel
theorem dX5_dances_2 : decode cX5_dances 2 = .ok (.getfield 7, 3) := by decide +kernel
theorem dX5_dances_5 : decode cX5_dances 5 = .ok (.iconst 2, 1) := by decide +kernel
theorem dX5_dances_6 : decode cX5_dances 6 = .ok (.iaload, 1) := by decide +kernel
theorem dX5_dances_7 : decode cX5_dances 7 = .ok (.invokevirtual 121, 3) := by decide +kernel
theorem dX5_dances_10 : decode cX5_dances 10 = .ok (.istore_n 1, 1) := by decide +kernel
theorem dX5_dances_11 : decode cX5_dances 11 = .ok (.iconst 0, 1) := by decide +kernel
theorem dX5_dances_12 : decode cX5_dances 12 = .ok (.istore_n 2, 1) := by decide +kernel
theorem dX5_dances_13 : decode cX5_dances 13 = .ok (.iload_n 2, 1) := by decide +kernel
theorem dX5_dances_14 : decode cX5_dances 14 = .ok (.bipush 8, 2) := by decide +kernel
theorem dX5_dances_16 : decode cX5_dances 16 = .ok (.if_icmp .ge 62, 3) := by decide +kernel
theorem dX5_dances_19 : decode cX5_dances 19 = .ok (.aload_n 0, 1) := by decide +kernel
theorem dX5_dances_20 : decode cX5_dances 20 = .ok (.getfield 32, 3) := by decide +kernel
theorem dX5_dances_23 : decode cX5_dances 23 = .ok (.iload_n 2, 1) := by decide +kernel
theorem dX5_dances_24 : decode cX5_dances 24 = .ok (.iaload, 1) := by decide +kernel
theorem dX5_dances_25 : decode cX5_dances 25 = .ok (.iconst (-1), 1) := by decide +kernel
theorem dX5_dances_26 : decode cX5_dances 26 = .ok (.if_icmp .eq 46, 3) := by decide +kernel
theorem dX5_dances_29 : decode cX5_dances 29 = .ok (.aload_n 0, 1) := by decide +kernel
theorem dX5_dances_30 : decode cX5_dances 30 = .ok (.iload_n 2, 1) := by decide +kernel
theorem dX5_dances_31 : decode cX5_dances 31 = .ok (.invokevirtual 124, 3) := by decide +kernel
theorem dX5_dances_34 : decode cX5_dances 34 = .ok (.aload_n 0, 1) := by decide +kernel
theorem dX5_dances_35 : decode cX5_dances 35 = .ok (.bipush 8, 2) := by decide +kernel
theorem dX5_dances_37 : decode cX5_dances 37 = .ok (.aload_n 0, 1) := by decide +kernel
theorem dX5_dances_38 : decode cX5_dances 38 = .ok (.getfield 32, 3) := by decide +kernel
theorem dX5_dances_41 : decode cX5_dances 41 = .ok (.iload_n 2, 1) := by decide +kernel
theorem dX5_dances_42 : decode cX5_dances 42 = .ok (.iaload, 1) := by decide +kernel
theorem dX5_dances_43 : decode cX5_dances 43 = .ok (.iadd, 1) := by decide +kernel
theorem dX5_dances_44 : decode cX5_dances 44 = .ok (.invokevirtual 124, 3) := by decide +kernel
theorem dX5_dances_47 : decode cX5_dances 47 = .ok (.aload_n 0, 1) := by decide +kernel
theorem dX5_dances_48 : decode cX5_dances 48 = .ok (.getfield 7, 3) := by decide +kernel
theorem dX5_dances_51 : decode cX5_dances 51 = .ok (.bipush 28, 2) := by decide +kernel
theorem dX5_dances_53 : decode cX5_dances 53 = .ok (.bipush 8, 2) := by decide +kernel
theorem dX5_dances_55 : decode cX5_dances 55 = .ok (.iload_n 2, 1) := by decide +kernel
theorem dX5_dances_56 : decode cX5_dances 56 = .ok (.imul, 1) := by decide +kernel
theorem dX5_dances_57 : decode cX5_dances 57 = .ok (.iadd, 1) := by decide +kernel
theorem dX5_dances_58 : decode cX5_dances 58 = .ok (.aload_n 0, 1) := by decide +kernel
theorem dX5_dances_59 : decode cX5_dances 59 = .ok (.getfield 32, 3) := by decide +kernel
theorem dX5_dances_62 : decode cX5_dances 62 = .ok (.iload_n 2, 1) := by decide +kernel
theorem dX5_dances_63 : decode cX5_dances 63 = .ok (.iaload, 1) := by decide +kernel
theorem dX5_dances_64 : decode cX5_dances 64 = .ok (.iadd, 1) := by decide +kernel
theorem dX5_dances_65 : decode cX5_dances 65 = .ok (.aload_n 0, 1) := by decide +kernel
theorem dX5_dances_66 : decode cX5_dances 66 = .ok (.getfield 7, 3) := by decide +kernel
theorem dX5_dances_69 : decode cX5_dances 69 = .ok (.iconst 5, 1) := by decide +kernel
theorem dX5_dances_70 : decode cX5_dances 70 = .ok (.iaload, 1) := by decide +kernel
theorem dX5_dances_71 : decode cX5_dances 71 = .ok (.iastore, 1) := by decide +kernel
theorem dX5_dances_72 : decode cX5_dances 72 = .ok (.iinc 2 1, 3) := by decide +kernel
theorem dX5_dances_75 : decode cX5_dances 75 = .ok (.goto (-62), 3) := by decide +kernel
theorem dX5_dances_78 : decode cX5_dances 78 = .ok (.iconst 2, 1) := by decide +kernel
theorem dX5_dances_79 : decode cX5_dances 79 = .ok (.aload_n 0, 1) := by decide +kernel
theorem dX5_dances_80 : decode cX5_dances 80 = .ok (.aload_n 0, 1) := by decide +kernel
theorem dX5_dances_81 : decode cX5_dances 81 = .ok (.getfield 7, 3) := by decide +kernel
theorem dX5_dances_84 : decode cX5_dances 84 = .ok (.iconst 2, 1) := by decide +kernel
theorem dX5_dances_85 : decode cX5_dances 85 = .ok (.iaload, 1) := by decide +kernel
theorem dX5_dances_86 : decode cX5_dances 86 = .ok (.invokevirtual 118, 3) := by decide +kernel
theorem dX5_dances_89 : decode cX5_dances 89 = .ok (.imul, 1) := by decide +kernel
theorem dX5_dances_90 : decode cX5_dances 90 = .ok (.istore_n 2, 1) := by decide +kernel
theorem dX5_dances_91 : decode cX5_dances 91 = .ok (.aload_n 0, 1) := by decide +kernel
theorem dX5_dances_92 : decode cX5_dances 92 = .ok (.getfield 7, 3) := by decide +kernel
theorem dX5_dances_95 : decode cX5_dances 95 = .ok (.iconst 3, 1) := by decide +kernel
theorem dX5_dances_96 : decode cX5_dances 96 = .ok (.dup2, 1) := by decide +kernel
theorem dX5_dances_97 : decode cX5_dances 97 = .ok (.iaload, 1) := by decide +kernel
theorem dX5_dances_98 : decode cX5_dances 98 = .ok (.iload_n 2, 1) := by decide +kernel
theorem dX5_dances_99 : decode cX5_dances 99 = .ok (.isub, 1) := by decide +kernel
theorem dX5_dances_100 : decode cX5_dances 100 = .ok (.iastore, 1) := by decide +kernel
theorem dX5_dances_101 : decode cX5_dances 101 = .ok (.aload_n 0, 1) := by decide +kernel
theorem dX5_dances_102 : decode cX5_dances 102 = .ok (.getfield 7, 3) := by decide +kernel
theorem dX5_dances_105 : decode cX5_dances 105 = .ok (.bipush 10, 2) := by decide +kernel
theorem dX5_dances_107 : decode cX5_dances 107 = .ok (.dup2, 1) := by decide +kernel
theorem dX5_dances_108 : decode cX5_dances 108 = .ok (.iaload, 1) := by decide +kernel
theorem dX5_dances_109 : decode cX5_dances 109 = .ok (.iload_n 2, 1) := by decide +kernel
theorem dX5_dances_110 : decode cX5_dances 110 = .ok (.iadd, 1) := by decide +kernel
theorem dX5_dances_111 : decode cX5_dances 111 = .ok (.iastore, 1) := by decide +kernel
theorem dX5_dances_112 : decode cX5_dances 112 = .ok (.aload_n 0, 1) := by decide +kernel
theorem dX5_dances_113 : decode cX5_dances 113 = .ok (.getfield 7, 3) := by decide +kernel
theorem dX5_dances_116 : decode cX5_dances 116 = .ok (.iconst 5, 1) := by decide +kernel
theorem dX5_dances_117 : decode cX5_dances 117 = .ok (.dup2, 1) := by decide +kernel
theorem dX5_dances_118 : decode cX5_dances 118 = .ok (.iaload, 1) := by decide +kernel
theorem dX5_dances_119 : decode cX5_dances 119 = .ok (.iconst 1, 1) := by decide +kernel
theorem dX5_dances_120 : decode cX5_dances 120 = .ok (.iadd, 1) := by decide +kernel
theorem dX5_dances_121 : decode cX5_dances 121 = .ok (.iastore, 1) := by decide +kernel
theorem dX5_dances_122 : decode cX5_dances 122 = .ok (.aload_n 0, 1) := by decide +kernel
theorem dX5_dances_123 : decode cX5_dances 123 = .ok (.getfield 7, 3) := by decide +kernel
theorem dX5_dances_126 : decode cX5_dances 126 = .ok (.bipush 6, 2) := by decide +kernel
theorem dX5_dances_128 : decode cX5_dances 128 = .ok (.dup2, 1) := by decide +kernel
theorem dX5_dances_129 : decode cX5_dances 129 = .ok (.iaload, 1) := by decide +kernel
theorem dX5_dances_130 : decode cX5_dances 130 = .ok (.iload_n 1, 1) := by decide +kernel
theorem dX5_dances_131 : decode cX5_dances 131 = .ok (.iadd, 1) := by decide +kernel
theorem dX5_dances_132 : decode cX5_dances 132 = .ok (.iastore, 1) := by decide +kernel
theorem dX5_dances_133 : decode cX5_dances 133 = .ok (.aload_n 0, 1) := by decide +kernel
theorem dX5_dances_134 : decode cX5_dances 134 = .ok (.getfield 7, 3) := by decide +kernel
theorem dX5_dances_137 : decode cX5_dances 137 = .ok (.bipush 9, 2) := by decide +kernel
theorem dX5_dances_139 : decode cX5_dances 139 = .ok (.dup2, 1) := by decide +kernel
theorem dX5_dances_140 : decode cX5_dances 140 = .ok (.iaload, 1) := by decide +kernel
theorem dX5_dances_141 : decode cX5_dances 141 = .ok (.iload_n 1, 1) := by decide +kernel
theorem dX5_dances_142 : decode cX5_dances 142 = .ok (.iadd, 1) := by decide +kernel
theorem dX5_dances_143 : decode cX5_dances 143 = .ok (.iastore, 1) := by decide +kernel
theorem dX5_dances_144 : decode cX5_dances 144 = .ok (.iload_n 1, 1) := by decide +kernel
theorem dX5_dances_145 : decode cX5_dances 145 = .ok (.ireturn, 1) := by decide +kernel
set_option maxRecDepth 20000 in
theorem ggX5_dance_X5_canBe : GoodIn wsX5_dance wsX5_canBe := goodIn_r _ [5, 6, 7, 8, 9, 4, 10, 66, 67, 68, 69, 70, 71, 72, 73, 74, 75, 76, 77, 78, 79, 80, 81] (by decide +kernel) (by decide +kernel)
set_option maxRecDepth 20000 in
theorem gX5_dance_X5_canBe : GoodIn wsX5_dance (wsV RX5 128 RX5 yX5_canBe wsX5_canBe) := goodIn_app (goodIn_of _ (by decide +kernel)) ggX5_dance_X5_canBe
set_option maxRecDepth 20000 in
theorem ggX5_dance_X5_throwing : GoodIn wsX5_dance wsX5_throwing := goodIn_r _ [14, 15, 66, 67, 68, 69, 70, 71, 72, 73, 74, 75, 76, 77, 78, 79, 80, 81] (by decide +kernel) (by decide +kernel)
set_option maxRecDepth 20000 in
theorem gX5_dance_X5_throwing : GoodIn wsX5_dance (wsV RX5 71 RX5 yX5_throwing wsX5_throwing) := goodIn_app (goodIn_of _ (by decide +kernel)) ggX5_dance_X5_throwing
set_option maxRecDepth 20000 in
theorem ggX5_dance_X5_save : GoodIn wsX5_dance wsX5_save := goodIn_r _ [19, 20, 21, 6, 66, 67, 68, 69, 70, 71, 72, 73, 74, 75, 76, 77, 78, 79, 80, 81] (by decide +kernel) (by decide +kernel)
set_option maxRecDepth 20000 in
theorem gX5_dance_X5_save : GoodIn wsX5_dance (wsV RX5 75 RX5 yX5_save wsX5_save) := goodIn_app (goodIn_of _ (by decide +kernel)) ggX5_dance_X5_save
set_option maxRecDepth 20000 in
theorem ggX5_dance_X5_dances : GoodIn wsX5_dance wsX5_dances := goodIn_r _ [25, 6, 26, 27, 28, 29, 4, 30, 31, 32, 33, 34, 35, 36, 37, 38, 39, 40, 41, 42, 43, 44, 45, 46, 47, 48, 49, 50, 51, 52, 53, 54, 55, 56, 57, 7, 8, 9, 10, 58, 59, 60, 61, 66, 67, 68, 69, 70, 71, 72, 73, 74, 75, 76, 77, 78, 79, 80, 81] (by decide +kernel) (by decide +kernel)
set_option maxRecDepth 20000 in
theorem gX5_dance_X5_dances : GoodIn wsX5_dance (wsV RX5 132 RX5 yX5_dances wsX5_dances) := goodIn_app (goodIn_of _ (by decide +kernel)) ggX5_dance_X5_dances
set_option maxRecDepth 20000 in
theorem ggX5_dance_X5_fine : GoodIn wsX5_dance wsX5_fine := goodIn_r _ [65, 15, 66, 67, 68, 69, 70, 71, 72, 73, 74, 75, 76, 77, 78, 79, 80, 81] (by decide +kernel) (by decide +kernel)
set_option maxRecDepth 20000 in
theorem gX5_dance_X5_fine : GoodIn wsX5_dance (wsV RX5 82 RX5 yX5_fine wsX5_fine) := goodIn_app (goodIn_of _ (by decide +kernel)) ggX5_dance_X5_fine
theorem dX5_dance_0 : decode cX5_dance 0 = .ok (.aload_n 0, 1) := by decide +kernel
theorem dX5_dance_1 : decode cX5_dance 1 = .ok (.invokevirtual 128, 3) := by decide +kernel
theorem dX5_dance_4 : decode cX5_dance 4 = .ok (.ifCond .ne 9, 3) := by decide +kernel
theorem dX5_dance_7 : decode cX5_dance 7 = .ok (.aload_n 0, 1) := by decide +kernel
theorem dX5_dance_8 : decode cX5_dance 8 = .ok (.iconst 1, 1) := by decide +kernel
theorem dX5_dance_9 : decode cX5_dance 9 = .ok (.invokevirtual 71, 3) := by decide +kernel
theorem dX5_dance_12 : decode cX5_dance 12 = .ok (.ireturn, 1) := by decide +kernel
theorem dX5_dance_13 : decode cX5_dance 13 = .ok (.aload_n 0, 1) := by decide +kernel
theorem dX5_dance_14 : decode cX5_dance 14 = .ok (.invokevirtual 75, 3) := by decide +kernel
theorem dX5_dance_17 : decode cX5_dance 17 = .ok (.aload_n 0, 1) := by decide +kernel
theorem dX5_dance_18 : decode cX5_dance 18 = .ok (.aload_n 0, 1) := by decide +kernel
theorem dX5_dance_19 : decode cX5_dance 19 = .ok (.invokevirtual 132, 3) := by decide +kernel
theorem dX5_dance_22 : decode cX5_dance 22 = .ok (.invokevirtual 82, 3) := by decide +kernel
theorem dX5_dance_25 : decode cX5_dance 25 = .ok (.ireturn, 1) := by decide +kernel
set_option maxRecDepth 20000 in
theorem ggX5_dancesOn_X5_canBe : GoodIn wsX5_dancesOn wsX5_canBe := goodIn_r _ [5, 6, 7, 8, 9, 4, 10, 51, 52, 53, 54, 55, 56, 57, 58, 59, 60, 61, 62, 63, 64, 65, 66] (by decide +kernel) (by decide +kernel)
set_option maxRecDepth 20000 in
theorem gX5_dancesOn_X5_canBe : GoodIn wsX5_dancesOn (wsV RX5 128 RX5 yX5_canBe wsX5_canBe) := goodIn_app (goodIn_of _ (by decide +kernel)) ggX5_dancesOn_X5_canBe
set_option maxRecDepth 20000 in
theorem ggX5_dancesOn_X5_dances : GoodIn wsX5_dancesOn wsX5_dances := goodIn_r _ [14, 6, 15, 16, 17, 18, 4, 19, 20, 21, 22, 23, 24, 25, 26, 27, 28, 29, 30, 31, 32, 33, 34, 35, 36, 37, 38, 39, 40, 41, 42, 43, 44, 45, 46, 7, 8, 9, 10, 47, 48, 49, 50, 51, 52, 53, 54, 55, 56, 57, 58, 59, 60, 61, 62, 63, 64, 65, 66] (by decide +kernel) (by decide +kernel)
set_option maxRecDepth 20000 in
theorem gX5_dancesOn_X5_dances : GoodIn wsX5_dancesOn (wsV RX5 132 RX5 yX5_dances wsX5_dances) := goodIn_app (goodIn_of _ (by decide +kernel)) ggX5_dancesOn_X5_dances
theorem dX5_dancesOn_0 : decode cX5_dancesOn 0 = .ok (.iconst 0, 1) := by decide +kernel
theorem dX5_dancesOn_1 : decode cX5_dancesOn 1 = .ok (.istore_n 1, 1) := by decide +kernel
theorem dX5_dancesOn_2 : decode cX5_dancesOn 2 = .ok (.iconst 1, 1) := by decide +kernel
theorem dX5_dancesOn_3 : decode cX5_dancesOn 3 = .ok (.istore_n 2, 1) := by decide +kernel
theorem dX5_dancesOn_4 : decode cX5_dancesOn 4 = .ok (.iload_n 2, 1) := by decide +kernel
theorem dX5_dancesOn_5 : decode cX5_dancesOn 5 = .ok (.ifCond .eq 29, 3) := by decide +kernel
theorem dX5_dancesOn_8 : decode cX5_dancesOn 8 = .ok (.aload_n 0, 1) := by decide +kernel
theorem dX5_dancesOn_9 : decode cX5_dancesOn 9 = .ok (.invokevirtual 128, 3) := by decide +kernel
theorem dX5_dancesOn_12 : decode cX5_dancesOn 12 = .ok (.ifCond .eq 22, 3) := by decide +kernel
theorem dX5_dancesOn_15 : decode cX5_dancesOn 15 = .ok (.aload_n 0, 1) := by decide +kernel
theorem dX5_dancesOn_16 : decode cX5_dancesOn 16 = .ok (.invokevirtual 132, 3) := by decide +kernel
theorem dX5_dancesOn_19 : decode cX5_dancesOn 19 = .ok (.ifCond .le 7, 3) := by decide +kernel
theorem dX5_dancesOn_22 : decode cX5_dancesOn 22 = .ok (.iconst 1, 1) := by decide +kernel
theorem dX5_dancesOn_23 : decode cX5_dancesOn 23 = .ok (.goto 4, 3) := by decide +kernel
theorem dX5_dancesOn_26 : decode cX5_dancesOn 26 = .ok (.iconst 0, 1) := by decide +kernel
theorem dX5_dancesOn_27 : decode cX5_dancesOn 27 = .ok (.istore_n 2, 1) := by decide +kernel
theorem dX5_dancesOn_28 : decode cX5_dancesOn 28 = .ok (.iinc 1 1, 3) := by decide +kernel
theorem dX5_dancesOn_31 : decode cX5_dancesOn 31 = .ok (.goto (-27), 3) := by decide +kernel
theorem dX5_dancesOn_34 : decode cX5_dancesOn 34 = .ok (.iload_n 1, 1) := by decide +kernel
theorem dX5_dancesOn_35 : decode cX5_dancesOn 35 = .ok (.ireturn, 1) := by decide +kernel
set_option maxRecDepth 20000 in
theorem ggX5_danceOn_X5_save : GoodIn wsX5_danceOn wsX5_save := goodIn_r _ [5, 6, 7, 8, 66, 67, 68, 69, 70, 71, 72, 73, 74, 75, 76, 77, 78, 79, 80, 81] (by decide +kernel) (by decide +kernel)
set_option maxRecDepth 20000 in
theorem gX5_danceOn_X5_save : GoodIn wsX5_danceOn (wsV RX5 75 RX5 yX5_save wsX5_save) := goodIn_app (goodIn_of _ (by decide +kernel)) ggX5_danceOn_X5_save
set_option maxRecDepth 20000 in
theorem ggX5_danceOn_X5_dancesOn : GoodIn wsX5_danceOn wsX5_dancesOn := goodIn_r _ [12, 13, 14, 15, 4, 16, 8, 17, 18, 19, 20, 21, 22, 23, 24, 25, 26, 27, 28, 29, 30, 31, 32, 33, 34, 35, 36, 37, 38, 39, 40, 41, 42, 43, 44, 45, 46, 47, 48, 49, 50, 51, 52, 53, 54, 55, 56, 57, 58, 59, 60, 66, 67, 68, 69, 70, 71, 72, 73, 74, 75, 76, 77, 78, 79, 80, 81] (by decide +kernel) (by decide +kernel)
set_option maxRecDepth 20000 in
theorem gX5_danceOn_X5_dancesOn : GoodIn wsX5_danceOn (wsV RX5 135 RX5 yX5_dancesOn wsX5_dancesOn) := goodIn_app (goodIn_of _ (by decide +kernel)) ggX5_danceOn_X5_dancesOn
set_option maxRecDepth 20000 in
theorem ggX5_danceOn_X5_fine : GoodIn wsX5_danceOn wsX5_fine := goodIn_r _ [64, 65, 66, 67, 68, 69, 70, 71, 72, 73, 74, 75, 76, 77, 78, 79, 80, 81] (by decide +kernel) (by decide +kernel)
set_option maxRecDepth 20000 in
theorem gX5_danceOn_X5_fine : GoodIn wsX5_danceOn (wsV RX5 82 RX5 yX5_fine wsX5_fine) := goodIn_app (goodIn_of _ (by decide +kernel)) ggX5_danceOn_X5_fine
theorem dX5_danceOn_0 : decode cX5_danceOn 0 = .ok (.aload_n 0, 1) := by decide +kernel
theorem dX5_danceOn_1 : decode cX5_danceOn 1 = .ok (.invokevirtual 75, 3) := by decide +kernel
theorem dX5_danceOn_4 : decode cX5_danceOn 4 = .ok (.aload_n 0, 1) := by decide +kernel
theorem dX5_danceOn_5 : decode cX5_danceOn 5 = .ok (.aload_n 0, 1) := by decide +kernel
theorem dX5_danceOn_6 : decode cX5_danceOn 6 = .ok (.invokevirtual 135, 3) := by decide +kernel
theorem dX5_danceOn_9 : decode cX5_danceOn 9 = .ok (.invokevirtual 82, 3) := by decide +kernel
theorem dX5_danceOn_12 : decode cX5_danceOn 12 = .ok (.ireturn, 1) := by decide +kernel
theorem dX5_parts_0 : decode cX5_parts 0 = .ok (.iconst 0, 1) := by decide +kernel
theorem dX5_parts_1 : decode cX5_parts 1 = .ok (.istore_n 1, 1) := by decide +kernel
theorem dX5_parts_2 : decode cX5_parts 2 = .ok (.iconst 0, 1) := by decide +kernel
theorem dX5_parts_3 : decode cX5_parts 3 = .ok (.istore_n 2, 1) := by decide +kernel
theorem dX5_parts_4 : decode cX5_parts 4 = .ok (.iload_n 2, 1) := by decide +kernel
theorem dX5_parts_5 : decode cX5_parts 5 = .ok (.aload_n 0, 1) := by decide +kernel
theorem dX5_parts_6 : decode cX5_parts 6 = .ok (.getfield 7, 3) := by decide +kernel
theorem dX5_parts_9 : decode cX5_parts 9 = .ok (.bipush 8, 2) := by decide +kernel
theorem dX5_parts_11 : decode cX5_parts 11 = .ok (.iaload, 1) := by decide +kernel
theorem dX5_parts_12 : decode cX5_parts 12 = .ok (.if_icmp .ge 21, 3) := by decide +kernel
theorem dX5_parts_15 : decode cX5_parts 15 = .ok (.iload_n 1, 1) := by decide +kernel
theorem dX5_parts_16 : decode cX5_parts 16 = .ok (.aload_n 0, 1) := by decide +kernel
theorem dX5_parts_17 : decode cX5_parts 17 = .ok (.getfield 7, 3) := by decide +kernel
theorem dX5_parts_20 : decode cX5_parts 20 = .ok (.bipush 20, 2) := by decide +kernel
theorem dX5_parts_22 : decode cX5_parts 22 = .ok (.iload_n 2, 1) := by decide +kernel
theorem dX5_parts_23 : decode cX5_parts 23 = .ok (.iadd, 1) := by decide +kernel
theorem dX5_parts_24 : decode cX5_parts 24 = .ok (.iaload, 1) := by decide +kernel
theorem dX5_parts_25 : decode cX5_parts 25 = .ok (.iadd, 1) := by decide +kernel
theorem dX5_parts_26 : decode cX5_parts 26 = .ok (.istore_n 1, 1) := by decide +kernel
theorem dX5_parts_27 : decode cX5_parts 27 = .ok (.iinc 2 1, 3) := by decide +kernel
theorem dX5_parts_30 : decode cX5_parts 30 = .ok (.goto (-26), 3) := by decide +kernel
theorem dX5_parts_33 : decode cX5_parts 33 = .ok (.iload_n 1, 1) := by decide +kernel
theorem dX5_parts_34 : decode cX5_parts 34 = .ok (.ireturn, 1) := by decide +kernel
set_option maxRecDepth 20000 in
theorem ggX5_share_X5_parts : GoodIn wsX5_share wsX5_parts := goodIn_r _ [6, 1, 7, 8, 9, 10, 11, 12, 13, 14, 15, 16, 17, 18, 19, 20, 21, 22] (by decide +kernel) (by decide +kernel)
set_option maxRecDepth 20000 in
theorem gX5_share_X5_parts : GoodIn wsX5_share (wsV RX5 138 RX5 yX5_parts wsX5_parts) := goodIn_app (goodIn_of _ (by decide +kernel)) ggX5_share_X5_parts
theorem dX5_share_0 : decode cX5_share 0 = .ok (.aload_n 0, 1) := by decide +kernel
theorem dX5_share_1 : decode cX5_share 1 = .ok (.getfield 7, 3) := by decide +kernel
theorem dX5_share_4 : decode cX5_share 4 = .ok (.bipush 7, 2) := by decide +kernel
theorem dX5_share_6 : decode cX5_share 6 = .ok (.iaload, 1) := by decide +kernel
theorem dX5_share_7 : decode cX5_share 7 = .ok (.istore_n 2, 1) := by decide +kernel
theorem dX5_share_8 : decode cX5_share 8 = .ok (.iconst 0, 1) := by decide +kernel
theorem dX5_share_9 : decode cX5_share 9 = .ok (.istore_n 3, 1) := by decide +kernel
theorem dX5_share_10 : decode cX5_share 10 = .ok (.iload_n 3, 1) := by decide +kernel
theorem dX5_share_11 : decode cX5_share 11 = .ok (.aload_n 0, 1) := by decide +kernel
theorem dX5_share_12 : decode cX5_share 12 = .ok (.getfield 7, 3) := by decide +kernel
theorem dX5_share_15 : decode cX5_share 15 = .ok (.bipush 8, 2) := by decide +kernel
theorem dX5_share_17 : decode cX5_share 17 = .ok (.iaload, 1) := by decide +kernel
theorem dX5_share_18 : decode cX5_share 18 = .ok (.if_icmp .ge 34, 3) := by decide +kernel
theorem dX5_share_21 : decode cX5_share 21 = .ok (.iload_n 2, 1) := by decide +kernel
theorem dX5_share_22 : decode cX5_share 22 = .ok (.aload_n 0, 1) := by decide +kernel
theorem dX5_share_23 : decode cX5_share 23 = .ok (.getfield 7, 3) := by decide +kernel
theorem dX5_share_26 : decode cX5_share 26 = .ok (.bipush 7, 2) := by decide +kernel
theorem dX5_share_28 : decode cX5_share 28 = .ok (.iaload, 1) := by decide +kernel
theorem dX5_share_29 : decode cX5_share 29 = .ok (.aload_n 0, 1) := by decide +kernel
theorem dX5_share_30 : decode cX5_share 30 = .ok (.getfield 7, 3) := by decide +kernel
theorem dX5_share_33 : decode cX5_share 33 = .ok (.bipush 20, 2) := by decide +kernel
theorem dX5_share_35 : decode cX5_share 35 = .ok (.iload_n 3, 1) := by decide +kernel
theorem dX5_share_36 : decode cX5_share 36 = .ok (.iadd, 1) := by decide +kernel
theorem dX5_share_37 : decode cX5_share 37 = .ok (.iaload, 1) := by decide +kernel
theorem dX5_share_38 : decode cX5_share 38 = .ok (.imul, 1) := by decide +kernel
theorem dX5_share_39 : decode cX5_share 39 = .ok (.aload_n 0, 1) := by decide +kernel
theorem dX5_share_40 : decode cX5_share 40 = .ok (.invokevirtual 138, 3) := by decide +kernel
theorem dX5_share_43 : decode cX5_share 43 = .ok (.idiv, 1) := by decide +kernel
theorem dX5_share_44 : decode cX5_share 44 = .ok (.isub, 1) := by decide +kernel
theorem dX5_share_45 : decode cX5_share 45 = .ok (.istore_n 2, 1) := by decide +kernel
theorem dX5_share_46 : decode cX5_share 46 = .ok (.iinc 3 1, 3) := by decide +kernel
theorem dX5_share_49 : decode cX5_share 49 = .ok (.goto (-39), 3) := by decide +kernel
theorem dX5_share_52 : decode cX5_share 52 = .ok (.aload_n 0, 1) := by decide +kernel
theorem dX5_share_53 : decode cX5_share 53 = .ok (.getfield 7, 3) := by decide +kernel
theorem dX5_share_56 : decode cX5_share 56 = .ok (.bipush 7, 2) := by decide +kernel
theorem dX5_share_58 : decode cX5_share 58 = .ok (.iaload, 1) := by decide +kernel
theorem dX5_share_59 : decode cX5_share 59 = .ok (.aload_n 0, 1) := by decide +kernel
theorem dX5_share_60 : decode cX5_share 60 = .ok (.getfield 7, 3) := by decide +kernel
theorem dX5_share_63 : decode cX5_share 63 = .ok (.bipush 20, 2) := by decide +kernel
theorem dX5_share_65 : decode cX5_share 65 = .ok (.iload_n 1, 1) := by decide +kernel
theorem dX5_share_66 : decode cX5_share 66 = .ok (.iadd, 1) := by decide +kernel
theorem dX5_share_67 : decode cX5_share 67 = .ok (.iaload, 1) := by decide +kernel
theorem dX5_share_68 : decode cX5_share 68 = .ok (.imul, 1) := by decide +kernel
theorem dX5_share_69 : decode cX5_share 69 = .ok (.aload_n 0, 1) := by decide +kernel
theorem dX5_share_70 : decode cX5_share 70 = .ok (.invokevirtual 138, 3) := by decide +kernel
theorem dX5_share_73 : decode cX5_share 73 = .ok (.idiv, 1) := by decide +kernel
theorem dX5_share_74 : decode cX5_share 74 = .ok (.iload_n 1, 1) := by decide +kernel
theorem dX5_share_75 : decode cX5_share 75 = .ok (.ifCond .ne 7, 3) := by decide +kernel
theorem dX5_share_78 : decode cX5_share 78 = .ok (.iload_n 2, 1) := by decide +kernel
theorem dX5_share_79 : decode cX5_share 79 = .ok (.goto 4, 3) := by decide +kernel
theorem dX5_share_82 : decode cX5_share 82 = .ok (.iconst 0, 1) := by decide +kernel
theorem dX5_share_83 : decode cX5_share 83 = .ok (.iadd, 1) := by decide +kernel
theorem dX5_share_84 : decode cX5_share 84 = .ok (.ireturn, 1) := by decide +kernel
set_option maxRecDepth 20000 in
theorem ggX5_endNight_X5_save : GoodIn wsX5_endNight wsX5_save := goodIn_r _ [6, 7, 8, 1, 33, 34, 35, 36, 37, 38, 39, 40, 41, 42, 43, 44, 45, 46, 47, 48] (by decide +kernel) (by decide +kernel)
set_option maxRecDepth 20000 in
theorem gX5_endNight_X5_save : GoodIn wsX5_endNight (wsV RX5 75 RX5 yX5_save wsX5_save) := goodIn_app (goodIn_of _ (by decide +kernel)) ggX5_endNight_X5_save
set_option maxRecDepth 20000 in
theorem ggX5_endNight_X5_share : GoodIn wsX5_endNight wsX5_share := goodIn_r _ [12, 1, 13, 14, 15, 5, 16, 33, 34, 35, 36, 37, 38, 39, 40, 41, 42, 43, 44, 45, 46, 47, 48] (by decide +kernel) (by decide +kernel)
set_option maxRecDepth 20000 in
theorem gX5_endNight_X5_share : GoodIn wsX5_endNight (wsV RX5 141 RX5 yX5_share wsX5_share) := goodIn_app (goodIn_of _ (by decide +kernel)) ggX5_endNight_X5_share
set_option maxRecDepth 20000 in
theorem ggX5_endNight_X5_isThere : GoodIn wsX5_endNight wsX5_isThere := goodIn_r _ [20, 1, 33, 34, 35, 36, 37, 38, 39, 40, 41, 42, 43, 44, 45, 46, 47, 48] (by decide +kernel) (by decide +kernel)
set_option maxRecDepth 20000 in
theorem gX5_endNight_X5_isThere : GoodIn wsX5_endNight (wsV RX5 104 RX5 yX5_isThere wsX5_isThere) := goodIn_app (goodIn_of _ (by decide +kernel)) ggX5_endNight_X5_isThere
set_option maxRecDepth 20000 in
theorem ggX5_endNight_X5_at : GoodIn wsX5_endNight wsX5_at := goodIn_r _ [23] (by decide +kernel) (by decide +kernel)
set_option maxRecDepth 20000 in
theorem gX5_endNight_X5_at : GoodIn wsX5_endNight (va_wsS RX5 59 yX5_at wsX5_at) := goodIn_app (goodIn_of _ (by decide +kernel)) ggX5_endNight_X5_at
set_option maxRecDepth 20000 in
theorem ggX5_endNight_X5_forgets : GoodIn wsX5_endNight wsX5_forgets := goodIn_r _ [27, 1, 33, 34, 35, 36, 37, 38, 39, 40, 41, 42, 43, 44, 45, 46, 47, 48] (by decide +kernel) (by decide +kernel)
set_option maxRecDepth 20000 in
theorem gX5_endNight_X5_forgets : GoodIn wsX5_endNight (wsV RX5 41 RX5 yX5_forgets wsX5_forgets) := goodIn_app (goodIn_of _ (by decide +kernel)) ggX5_endNight_X5_forgets
set_option maxRecDepth 20000 in
theorem ggX5_endNight_X5_fine : GoodIn wsX5_endNight wsX5_fine := goodIn_r _ [31, 32, 33, 34, 35, 36, 37, 38, 39, 40, 41, 42, 43, 44, 45, 46, 47, 48] (by decide +kernel) (by decide +kernel)
set_option maxRecDepth 20000 in
theorem gX5_endNight_X5_fine : GoodIn wsX5_endNight (wsV RX5 82 RX5 yX5_fine wsX5_fine) := goodIn_app (goodIn_of _ (by decide +kernel)) ggX5_endNight_X5_fine
theorem dX5_endNight_0 : decode cX5_endNight 0 = .ok (.aload_n 0, 1) := by decide +kernel
theorem dX5_endNight_1 : decode cX5_endNight 1 = .ok (.invokevirtual 75, 3) := by decide +kernel
theorem dX5_endNight_4 : decode cX5_endNight 4 = .ok (.aload_n 0, 1) := by decide +kernel
theorem dX5_endNight_5 : decode cX5_endNight 5 = .ok (.getfield 7, 3) := by decide +kernel
theorem dX5_endNight_8 : decode cX5_endNight 8 = .ok (.bipush 7, 2) := by decide +kernel
theorem dX5_endNight_10 : decode cX5_endNight 10 = .ok (.iaload, 1) := by decide +kernel
theorem dX5_endNight_11 : decode cX5_endNight 11 = .ok (.istore_n 1, 1) := by decide +kernel
theorem dX5_endNight_12 : decode cX5_endNight 12 = .ok (.iconst 0, 1) := by decide +kernel
theorem dX5_endNight_13 : decode cX5_endNight 13 = .ok (.istore_n 2, 1) := by decide +kernel
theorem dX5_endNight_14 : decode cX5_endNight 14 = .ok (.iload_n 2, 1) := by decide +kernel
theorem dX5_endNight_15 : decode cX5_endNight 15 = .ok (.aload_n 0, 1) := by decide +kernel
theorem dX5_endNight_16 : decode cX5_endNight 16 = .ok (.getfield 7, 3) := by decide +kernel
theorem dX5_endNight_19 : decode cX5_endNight 19 = .ok (.bipush 8, 2) := by decide +kernel
theorem dX5_endNight_21 : decode cX5_endNight 21 = .ok (.iaload, 1) := by decide +kernel
theorem dX5_endNight_22 : decode cX5_endNight 22 = .ok (.if_icmp .ge 26, 3) := by decide +kernel
theorem dX5_endNight_25 : decode cX5_endNight 25 = .ok (.aload_n 0, 1) := by decide +kernel
theorem dX5_endNight_26 : decode cX5_endNight 26 = .ok (.getfield 7, 3) := by decide +kernel
theorem dX5_endNight_29 : decode cX5_endNight 29 = .ok (.bipush 24, 2) := by decide +kernel
theorem dX5_endNight_31 : decode cX5_endNight 31 = .ok (.iload_n 2, 1) := by decide +kernel
theorem dX5_endNight_32 : decode cX5_endNight 32 = .ok (.iadd, 1) := by decide +kernel
theorem dX5_endNight_33 : decode cX5_endNight 33 = .ok (.dup2, 1) := by decide +kernel
theorem dX5_endNight_34 : decode cX5_endNight 34 = .ok (.iaload, 1) := by decide +kernel
theorem dX5_endNight_35 : decode cX5_endNight 35 = .ok (.aload_n 0, 1) := by decide +kernel
theorem dX5_endNight_36 : decode cX5_endNight 36 = .ok (.iload_n 2, 1) := by decide +kernel
theorem dX5_endNight_37 : decode cX5_endNight 37 = .ok (.invokevirtual 141, 3) := by decide +kernel
theorem dX5_endNight_40 : decode cX5_endNight 40 = .ok (.iadd, 1) := by decide +kernel
theorem dX5_endNight_41 : decode cX5_endNight 41 = .ok (.iastore, 1) := by decide +kernel
theorem dX5_endNight_42 : decode cX5_endNight 42 = .ok (.iinc 2 1, 3) := by decide +kernel
theorem dX5_endNight_45 : decode cX5_endNight 45 = .ok (.goto (-31), 3) := by decide +kernel
theorem dX5_endNight_48 : decode cX5_endNight 48 = .ok (.aload_n 0, 1) := by decide +kernel
theorem dX5_endNight_49 : decode cX5_endNight 49 = .ok (.getfield 7, 3) := by decide +kernel
theorem dX5_endNight_52 : decode cX5_endNight 52 = .ok (.bipush 7, 2) := by decide +kernel
theorem dX5_endNight_54 : decode cX5_endNight 54 = .ok (.iconst 0, 1) := by decide +kernel
theorem dX5_endNight_55 : decode cX5_endNight 55 = .ok (.iastore, 1) := by decide +kernel
theorem dX5_endNight_56 : decode cX5_endNight 56 = .ok (.iconst 0, 1) := by decide +kernel
theorem dX5_endNight_57 : decode cX5_endNight 57 = .ok (.istore_n 2, 1) := by decide +kernel
theorem dX5_endNight_58 : decode cX5_endNight 58 = .ok (.iload_n 2, 1) := by decide +kernel
theorem dX5_endNight_59 : decode cX5_endNight 59 = .ok (.bipush 16, 2) := by decide +kernel
theorem dX5_endNight_61 : decode cX5_endNight 61 = .ok (.if_icmp .ge 39, 3) := by decide +kernel
theorem dX5_endNight_64 : decode cX5_endNight 64 = .ok (.aload_n 0, 1) := by decide +kernel
theorem dX5_endNight_65 : decode cX5_endNight 65 = .ok (.iload_n 2, 1) := by decide +kernel
theorem dX5_endNight_66 : decode cX5_endNight 66 = .ok (.invokevirtual 104, 3) := by decide +kernel
theorem dX5_endNight_69 : decode cX5_endNight 69 = .ok (.ifCond .eq 25, 3) := by decide +kernel
theorem dX5_endNight_72 : decode cX5_endNight 72 = .ok (.aload_n 0, 1) := by decide +kernel
theorem dX5_endNight_73 : decode cX5_endNight 73 = .ok (.getfield 7, 3) := by decide +kernel
theorem dX5_endNight_76 : decode cX5_endNight 76 = .ok (.iload_n 2, 1) := by decide +kernel
theorem dX5_endNight_77 : decode cX5_endNight 77 = .ok (.iconst 3, 1) := by decide +kernel
theorem dX5_endNight_78 : decode cX5_endNight 78 = .ok (.invokestatic 59, 3) := by decide +kernel
theorem dX5_endNight_81 : decode cX5_endNight 81 = .ok (.iconst 1, 1) := by decide +kernel
theorem dX5_endNight_82 : decode cX5_endNight 82 = .ok (.iastore, 1) := by decide +kernel
theorem dX5_endNight_83 : decode cX5_endNight 83 = .ok (.aload_n 0, 1) := by decide +kernel
theorem dX5_endNight_84 : decode cX5_endNight 84 = .ok (.getfield 7, 3) := by decide +kernel
theorem dX5_endNight_87 : decode cX5_endNight 87 = .ok (.iload_n 2, 1) := by decide +kernel
theorem dX5_endNight_88 : decode cX5_endNight 88 = .ok (.iconst 4, 1) := by decide +kernel
theorem dX5_endNight_89 : decode cX5_endNight 89 = .ok (.invokestatic 59, 3) := by decide +kernel
theorem dX5_endNight_92 : decode cX5_endNight 92 = .ok (.iconst 0, 1) := by decide +kernel
theorem dX5_endNight_93 : decode cX5_endNight 93 = .ok (.iastore, 1) := by decide +kernel
theorem dX5_endNight_94 : decode cX5_endNight 94 = .ok (.iinc 2 1, 3) := by decide +kernel
theorem dX5_endNight_97 : decode cX5_endNight 97 = .ok (.goto (-39), 3) := by decide +kernel
theorem dX5_endNight_100 : decode cX5_endNight 100 = .ok (.aload_n 0, 1) := by decide +kernel
theorem dX5_endNight_101 : decode cX5_endNight 101 = .ok (.invokevirtual 41, 3) := by decide +kernel
theorem dX5_endNight_104 : decode cX5_endNight 104 = .ok (.aload_n 0, 1) := by decide +kernel
theorem dX5_endNight_105 : decode cX5_endNight 105 = .ok (.getfield 7, 3) := by decide +kernel
theorem dX5_endNight_108 : decode cX5_endNight 108 = .ok (.iconst 4, 1) := by decide +kernel
theorem dX5_endNight_109 : decode cX5_endNight 109 = .ok (.dup2, 1) := by decide +kernel
theorem dX5_endNight_110 : decode cX5_endNight 110 = .ok (.iaload, 1) := by decide +kernel
theorem dX5_endNight_111 : decode cX5_endNight 111 = .ok (.iconst 1, 1) := by decide +kernel
theorem dX5_endNight_112 : decode cX5_endNight 112 = .ok (.iadd, 1) := by decide +kernel
theorem dX5_endNight_113 : decode cX5_endNight 113 = .ok (.iastore, 1) := by decide +kernel
theorem dX5_endNight_114 : decode cX5_endNight 114 = .ok (.aload_n 0, 1) := by decide +kernel
theorem dX5_endNight_115 : decode cX5_endNight 115 = .ok (.iload_n 1, 1) := by decide +kernel
theorem dX5_endNight_116 : decode cX5_endNight 116 = .ok (.invokevirtual 82, 3) := by decide +kernel
theorem dX5_endNight_119 : decode cX5_endNight 119 = .ok (.ireturn, 1) := by decide +kernel
set_option maxRecDepth 20000 in
theorem ggX5_guestOf_X5_lends : GoodIn wsX5_guestOf wsX5_lends := goodIn_r _ [7, 8, 9, 2, 1, 10, 11, 12, 6, 13, 14, 15, 16, 17, 18, 19, 20, 21, 22, 23, 24, 25, 26, 27, 28, 29, 30, 31, 32, 33, 34, 35, 36] (by decide +kernel) (by decide +kernel)
set_option maxRecDepth 20000 in
theorem gX5_guestOf_X5_lends : GoodIn wsX5_guestOf (wsV RX5 111 RX5 yX5_lends wsX5_lends) := goodIn_app (goodIn_of _ (by decide +kernel)) ggX5_guestOf_X5_lends
set_option maxRecDepth 20000 in
theorem ggX5_guestOf_X5_of : GoodIn wsX5_guestOf wsX5_of := goodIn_r _ [17, 9, 18, 19, 6, 20, 21, 22, 23, 24, 25, 26, 27, 28, 29, 30, 31, 32, 33, 34, 35, 36] (by decide +kernel) (by decide +kernel)
set_option maxRecDepth 20000 in
theorem gX5_guestOf_X5_of : GoodIn wsX5_guestOf (wsV RX5 91 RX5 yX5_of wsX5_of) := goodIn_app (goodIn_of _ (by decide +kernel)) ggX5_guestOf_X5_of
theorem dX5_guestOf_0 : decode cX5_guestOf 0 = .ok (.iload_n 2, 1) := by decide +kernel
theorem dX5_guestOf_1 : decode cX5_guestOf 1 = .ok (.tableswitch 80 4 7 #[31, 53, 71, 71], 31) := by decide +kernel
theorem dX5_guestOf_32 : decode cX5_guestOf 32 = .ok (.aload_n 0, 1) := by decide +kernel
theorem dX5_guestOf_33 : decode cX5_guestOf 33 = .ok (.invokevirtual 111, 3) := by decide +kernel
theorem dX5_guestOf_36 : decode cX5_guestOf 36 = .ok (.ifCond .lt 16, 3) := by decide +kernel
theorem dX5_guestOf_39 : decode cX5_guestOf 39 = .ok (.aload_n 0, 1) := by decide +kernel
theorem dX5_guestOf_40 : decode cX5_guestOf 40 = .ok (.getfield 25, 3) := by decide +kernel
theorem dX5_guestOf_43 : decode cX5_guestOf 43 = .ok (.iload_n 1, 1) := by decide +kernel
theorem dX5_guestOf_44 : decode cX5_guestOf 44 = .ok (.baload, 1) := by decide +kernel
theorem dX5_guestOf_45 : decode cX5_guestOf 45 = .ok (.ifCond .eq 7, 3) := by decide +kernel
theorem dX5_guestOf_48 : decode cX5_guestOf 48 = .ok (.iconst 1, 1) := by decide +kernel
theorem dX5_guestOf_49 : decode cX5_guestOf 49 = .ok (.goto 4, 3) := by decide +kernel
theorem dX5_guestOf_52 : decode cX5_guestOf 52 = .ok (.iconst 0, 1) := by decide +kernel
theorem dX5_guestOf_53 : decode cX5_guestOf 53 = .ok (.ireturn, 1) := by decide +kernel
theorem dX5_guestOf_54 : decode cX5_guestOf 54 = .ok (.aload_n 0, 1) := by decide +kernel
theorem dX5_guestOf_55 : decode cX5_guestOf 55 = .ok (.invokevirtual 111, 3) := by decide +kernel
theorem dX5_guestOf_58 : decode cX5_guestOf 58 = .ok (.ifCond .lt 12, 3) := by decide +kernel
theorem dX5_guestOf_61 : decode cX5_guestOf 61 = .ok (.aload_n 0, 1) := by decide +kernel
theorem dX5_guestOf_62 : decode cX5_guestOf 62 = .ok (.getfield 22, 3) := by decide +kernel
theorem dX5_guestOf_65 : decode cX5_guestOf 65 = .ok (.iload_n 1, 1) := by decide +kernel
theorem dX5_guestOf_66 : decode cX5_guestOf 66 = .ok (.iaload, 1) := by decide +kernel
theorem dX5_guestOf_67 : decode cX5_guestOf 67 = .ok (.goto 4, 3) := by decide +kernel
theorem dX5_guestOf_70 : decode cX5_guestOf 70 = .ok (.iconst 0, 1) := by decide +kernel
theorem dX5_guestOf_71 : decode cX5_guestOf 71 = .ok (.ireturn, 1) := by decide +kernel
theorem dX5_guestOf_72 : decode cX5_guestOf 72 = .ok (.aload_n 0, 1) := by decide +kernel
theorem dX5_guestOf_73 : decode cX5_guestOf 73 = .ok (.iload_n 1, 1) := by decide +kernel
theorem dX5_guestOf_74 : decode cX5_guestOf 74 = .ok (.iload_n 2, 1) := by decide +kernel
theorem dX5_guestOf_75 : decode cX5_guestOf 75 = .ok (.iconst 2, 1) := by decide +kernel
theorem dX5_guestOf_76 : decode cX5_guestOf 76 = .ok (.isub, 1) := by decide +kernel
theorem dX5_guestOf_77 : decode cX5_guestOf 77 = .ok (.invokevirtual 91, 3) := by decide +kernel
theorem dX5_guestOf_80 : decode cX5_guestOf 80 = .ok (.ireturn, 1) := by decide +kernel
theorem dX5_guestOf_81 : decode cX5_guestOf 81 = .ok (.aload_n 0, 1) := by decide +kernel
theorem dX5_guestOf_82 : decode cX5_guestOf 82 = .ok (.iload_n 1, 1) := by decide +kernel
theorem dX5_guestOf_83 : decode cX5_guestOf 83 = .ok (.iload_n 2, 1) := by decide +kernel
theorem dX5_guestOf_84 : decode cX5_guestOf 84 = .ok (.invokevirtual 91, 3) := by decide +kernel
theorem dX5_guestOf_87 : decode cX5_guestOf 87 = .ok (.ireturn, 1) := by decide +kernel
set_option maxRecDepth 20000 in
theorem ggX5_guest_X5_isGuest : GoodIn wsX5_guest wsX5_isGuest := goodIn_r _ [6, 7, 8, 9, 5, 10, 11, 12, 13, 14, 49, 50, 51, 52, 53, 54, 55, 56, 57, 58, 59, 60, 61, 62, 63, 64] (by decide +kernel) (by decide +kernel)
set_option maxRecDepth 20000 in
theorem gX5_guest_X5_isGuest : GoodIn wsX5_guest (wsV RX5 85 RX5 yX5_isGuest wsX5_isGuest) := goodIn_app (goodIn_of _ (by decide +kernel)) ggX5_guest_X5_isGuest
set_option maxRecDepth 20000 in
theorem ggX5_guest_X5_throwing : GoodIn wsX5_guest wsX5_throwing := goodIn_r _ [18, 19, 49, 50, 51, 52, 53, 54, 55, 56, 57, 58, 59, 60, 61, 62, 63, 64] (by decide +kernel) (by decide +kernel)
set_option maxRecDepth 20000 in
theorem gX5_guest_X5_throwing : GoodIn wsX5_guest (wsV RX5 71 RX5 yX5_throwing wsX5_throwing) := goodIn_app (goodIn_of _ (by decide +kernel)) ggX5_guest_X5_throwing
set_option maxRecDepth 20000 in
theorem ggX5_guest_X5_in : GoodIn wsX5_guest wsX5_in := goodIn_r _ [14] (by decide +kernel) (by decide +kernel)
set_option maxRecDepth 20000 in
theorem gX5_guest_X5_in : GoodIn wsX5_guest (va_wsS RX5 55 yX5_in wsX5_in) := goodIn_app (goodIn_of _ (by decide +kernel)) ggX5_guest_X5_in
set_option maxRecDepth 20000 in
theorem ggX5_guest_X5_person : GoodIn wsX5_guest wsX5_person := goodIn_r _ [22] (by decide +kernel) (by decide +kernel)
set_option maxRecDepth 20000 in
theorem gX5_guest_X5_person : GoodIn wsX5_guest (va_wsS RX5 63 yX5_person wsX5_person) := goodIn_app (goodIn_of _ (by decide +kernel)) ggX5_guest_X5_person
set_option maxRecDepth 20000 in
theorem ggX5_guest_X5_guestOf : GoodIn wsX5_guest wsX5_guestOf := goodIn_r _ [26, 27, 28, 29, 30, 31, 5, 32, 33, 11, 34, 35, 36, 37, 38, 39, 40, 41, 42, 43, 44, 49, 50, 51, 52, 53, 54, 55, 56, 57, 58, 59, 60, 61, 62, 63, 64] (by decide +kernel) (by decide +kernel)
set_option maxRecDepth 20000 in
theorem gX5_guest_X5_guestOf : GoodIn wsX5_guest (wsV RX5 146 RX5 yX5_guestOf wsX5_guestOf) := goodIn_app (goodIn_of _ (by decide +kernel)) ggX5_guest_X5_guestOf
set_option maxRecDepth 20000 in
theorem ggX5_guest_X5_fine : GoodIn wsX5_guest wsX5_fine := goodIn_r _ [48, 19, 49, 50, 51, 52, 53, 54, 55, 56, 57, 58, 59, 60, 61, 62, 63, 64] (by decide +kernel) (by decide +kernel)
set_option maxRecDepth 20000 in
theorem gX5_guest_X5_fine : GoodIn wsX5_guest (wsV RX5 82 RX5 yX5_fine wsX5_fine) := goodIn_app (goodIn_of _ (by decide +kernel)) ggX5_guest_X5_fine
theorem dX5_guest_0 : decode cX5_guest 0 = .ok (.aload_n 0, 1) := by decide +kernel
theorem dX5_guest_1 : decode cX5_guest 1 = .ok (.iload_n 1, 1) := by decide +kernel
theorem dX5_guest_2 : decode cX5_guest 2 = .ok (.iload_n 2, 1) := by decide +kernel
theorem dX5_guest_3 : decode cX5_guest 3 = .ok (.invokevirtual 85, 3) := by decide +kernel
theorem dX5_guest_6 : decode cX5_guest 6 = .ok (.ifCond .ne 9, 3) := by decide +kernel
theorem dX5_guest_9 : decode cX5_guest 9 = .ok (.aload_n 0, 1) := by decide +kernel
theorem dX5_guest_10 : decode cX5_guest 10 = .ok (.iconst 1, 1) := by decide +kernel
theorem dX5_guest_11 : decode cX5_guest 11 = .ok (.invokevirtual 71, 3) := by decide +kernel
theorem dX5_guest_14 : decode cX5_guest 14 = .ok (.ireturn, 1) := by decide +kernel
theorem dX5_guest_15 : decode cX5_guest 15 = .ok (.iload_n 3, 1) := by decide +kernel
theorem dX5_guest_16 : decode cX5_guest 16 = .ok (.i2l, 1) := by decide +kernel
theorem dX5_guest_17 : decode cX5_guest 17 = .ok (.lconst 0, 1) := by decide +kernel
theorem dX5_guest_18 : decode cX5_guest 18 = .ok (.ldc2_w 144, 3) := by decide +kernel
theorem dX5_guest_21 : decode cX5_guest 21 = .ok (.invokestatic 55, 3) := by decide +kernel
theorem dX5_guest_24 : decode cX5_guest 24 = .ok (.ifCond .eq 20, 3) := by decide +kernel
theorem dX5_guest_27 : decode cX5_guest 27 = .ok (.aload_n 0, 1) := by decide +kernel
theorem dX5_guest_28 : decode cX5_guest 28 = .ok (.aload_n 0, 1) := by decide +kernel
theorem dX5_guest_29 : decode cX5_guest 29 = .ok (.iload_n 1, 1) := by decide +kernel
theorem dX5_guest_30 : decode cX5_guest 30 = .ok (.iload_n 2, 1) := by decide +kernel
theorem dX5_guest_31 : decode cX5_guest 31 = .ok (.invokestatic 63, 3) := by decide +kernel
theorem dX5_guest_34 : decode cX5_guest 34 = .ok (.iload_n 3, 1) := by decide +kernel
theorem dX5_guest_35 : decode cX5_guest 35 = .ok (.invokevirtual 146, 3) := by decide +kernel
theorem dX5_guest_38 : decode cX5_guest 38 = .ok (.invokevirtual 82, 3) := by decide +kernel
theorem dX5_guest_41 : decode cX5_guest 41 = .ok (.goto 8, 3) := by decide +kernel
theorem dX5_guest_44 : decode cX5_guest 44 = .ok (.aload_n 0, 1) := by decide +kernel
theorem dX5_guest_45 : decode cX5_guest 45 = .ok (.iconst 2, 1) := by decide +kernel
theorem dX5_guest_46 : decode cX5_guest 46 = .ok (.invokevirtual 71, 3) := by decide +kernel
theorem dX5_guest_49 : decode cX5_guest 49 = .ok (.ireturn, 1) := by decide +kernel
set_option maxRecDepth 20000 in
theorem ggX5_valueOf_X5_litOf : GoodIn wsX5_valueOf wsX5_litOf := goodIn_r _ [6, 1, 11, 12, 13, 14, 15, 16, 17, 18, 19, 20, 21, 22, 23, 24, 25, 26] (by decide +kernel) (by decide +kernel)
set_option maxRecDepth 20000 in
theorem gX5_valueOf_X5_litOf : GoodIn wsX5_valueOf (wsV RX5 118 RX5 yX5_litOf wsX5_litOf) := goodIn_app (goodIn_of _ (by decide +kernel)) ggX5_valueOf_X5_litOf
set_option maxRecDepth 20000 in
theorem ggX5_valueOf_X5_parts : GoodIn wsX5_valueOf wsX5_parts := goodIn_r _ [10, 1, 11, 12, 13, 14, 15, 16, 17, 18, 19, 20, 21, 22, 23, 24, 25, 26] (by decide +kernel) (by decide +kernel)
set_option maxRecDepth 20000 in
theorem gX5_valueOf_X5_parts : GoodIn wsX5_valueOf (wsV RX5 138 RX5 yX5_parts wsX5_parts) := goodIn_app (goodIn_of _ (by decide +kernel)) ggX5_valueOf_X5_parts
theorem dX5_valueOf_0 : decode cX5_valueOf 0 = .ok (.iload_n 1, 1) := by decide +kernel
theorem dX5_valueOf_1 : decode cX5_valueOf 1 = .ok (.tableswitch 112 4 13 #[55, 66, 79, 79, 79, 79, 79, 91, 96, 104], 55) := by decide +kernel
theorem dX5_valueOf_56 : decode cX5_valueOf 56 = .ok (.aload_n 0, 1) := by decide +kernel
theorem dX5_valueOf_57 : decode cX5_valueOf 57 = .ok (.aload_n 0, 1) := by decide +kernel
theorem dX5_valueOf_58 : decode cX5_valueOf 58 = .ok (.getfield 7, 3) := by decide +kernel
theorem dX5_valueOf_61 : decode cX5_valueOf 61 = .ok (.iconst 2, 1) := by decide +kernel
theorem dX5_valueOf_62 : decode cX5_valueOf 62 = .ok (.iaload, 1) := by decide +kernel
theorem dX5_valueOf_63 : decode cX5_valueOf 63 = .ok (.invokevirtual 118, 3) := by decide +kernel
theorem dX5_valueOf_66 : decode cX5_valueOf 66 = .ok (.ireturn, 1) := by decide +kernel
theorem dX5_valueOf_67 : decode cX5_valueOf 67 = .ok (.iconst 2, 1) := by decide +kernel
theorem dX5_valueOf_68 : decode cX5_valueOf 68 = .ok (.aload_n 0, 1) := by decide +kernel
theorem dX5_valueOf_69 : decode cX5_valueOf 69 = .ok (.aload_n 0, 1) := by decide +kernel
theorem dX5_valueOf_70 : decode cX5_valueOf 70 = .ok (.getfield 7, 3) := by decide +kernel
theorem dX5_valueOf_73 : decode cX5_valueOf 73 = .ok (.iconst 2, 1) := by decide +kernel
theorem dX5_valueOf_74 : decode cX5_valueOf 74 = .ok (.iaload, 1) := by decide +kernel
theorem dX5_valueOf_75 : decode cX5_valueOf 75 = .ok (.invokevirtual 118, 3) := by decide +kernel
theorem dX5_valueOf_78 : decode cX5_valueOf 78 = .ok (.imul, 1) := by decide +kernel
theorem dX5_valueOf_79 : decode cX5_valueOf 79 = .ok (.ireturn, 1) := by decide +kernel
theorem dX5_valueOf_80 : decode cX5_valueOf 80 = .ok (.aload_n 0, 1) := by decide +kernel
theorem dX5_valueOf_81 : decode cX5_valueOf 81 = .ok (.getfield 7, 3) := by decide +kernel
theorem dX5_valueOf_84 : decode cX5_valueOf 84 = .ok (.iconst 4, 1) := by decide +kernel
theorem dX5_valueOf_85 : decode cX5_valueOf 85 = .ok (.iload_n 1, 1) := by decide +kernel
theorem dX5_valueOf_86 : decode cX5_valueOf 86 = .ok (.iadd, 1) := by decide +kernel
theorem dX5_valueOf_87 : decode cX5_valueOf 87 = .ok (.bipush 6, 2) := by decide +kernel
theorem dX5_valueOf_89 : decode cX5_valueOf 89 = .ok (.isub, 1) := by decide +kernel
theorem dX5_valueOf_90 : decode cX5_valueOf 90 = .ok (.iaload, 1) := by decide +kernel
theorem dX5_valueOf_91 : decode cX5_valueOf 91 = .ok (.ireturn, 1) := by decide +kernel
theorem dX5_valueOf_92 : decode cX5_valueOf 92 = .ok (.aload_n 0, 1) := by decide +kernel
theorem dX5_valueOf_93 : decode cX5_valueOf 93 = .ok (.invokevirtual 138, 3) := by decide +kernel
theorem dX5_valueOf_96 : decode cX5_valueOf 96 = .ok (.ireturn, 1) := by decide +kernel
theorem dX5_valueOf_97 : decode cX5_valueOf 97 = .ok (.aload_n 0, 1) := by decide +kernel
theorem dX5_valueOf_98 : decode cX5_valueOf 98 = .ok (.getfield 7, 3) := by decide +kernel
theorem dX5_valueOf_101 : decode cX5_valueOf 101 = .ok (.bipush 9, 2) := by decide +kernel
theorem dX5_valueOf_103 : decode cX5_valueOf 103 = .ok (.iaload, 1) := by decide +kernel
theorem dX5_valueOf_104 : decode cX5_valueOf 104 = .ok (.ireturn, 1) := by decide +kernel
theorem dX5_valueOf_105 : decode cX5_valueOf 105 = .ok (.aload_n 0, 1) := by decide +kernel
theorem dX5_valueOf_106 : decode cX5_valueOf 106 = .ok (.getfield 7, 3) := by decide +kernel
theorem dX5_valueOf_109 : decode cX5_valueOf 109 = .ok (.bipush 10, 2) := by decide +kernel
theorem dX5_valueOf_111 : decode cX5_valueOf 111 = .ok (.iaload, 1) := by decide +kernel
theorem dX5_valueOf_112 : decode cX5_valueOf 112 = .ok (.ireturn, 1) := by decide +kernel
theorem dX5_valueOf_113 : decode cX5_valueOf 113 = .ok (.aload_n 0, 1) := by decide +kernel
theorem dX5_valueOf_114 : decode cX5_valueOf 114 = .ok (.getfield 7, 3) := by decide +kernel
theorem dX5_valueOf_117 : decode cX5_valueOf 117 = .ok (.iload_n 1, 1) := by decide +kernel
theorem dX5_valueOf_118 : decode cX5_valueOf 118 = .ok (.iaload, 1) := by decide +kernel
theorem dX5_valueOf_119 : decode cX5_valueOf 119 = .ok (.ireturn, 1) := by decide +kernel
set_option maxRecDepth 20000 in
theorem ggX5_value_X5_in : GoodIn wsX5_value wsX5_in := goodIn_r _ [5] (by decide +kernel) (by decide +kernel)
set_option maxRecDepth 20000 in
theorem gX5_value_X5_in : GoodIn wsX5_value (va_wsS RX5 55 yX5_in wsX5_in) := goodIn_app (goodIn_of _ (by decide +kernel)) ggX5_value_X5_in
set_option maxRecDepth 20000 in
theorem ggX5_value_X5_valueOf : GoodIn wsX5_value wsX5_valueOf := goodIn_r _ [9, 10, 11, 12, 13, 4, 14, 15, 16, 17, 18, 28, 29, 30, 31, 32, 33, 34, 35, 36, 37, 38, 39, 40, 41, 42, 43] (by decide +kernel) (by decide +kernel)
set_option maxRecDepth 20000 in
theorem gX5_value_X5_valueOf : GoodIn wsX5_value (wsV RX5 151 RX5 yX5_valueOf wsX5_valueOf) := goodIn_app (goodIn_of _ (by decide +kernel)) ggX5_value_X5_valueOf
set_option maxRecDepth 20000 in
theorem ggX5_value_X5_fine : GoodIn wsX5_value wsX5_fine := goodIn_r _ [22, 23, 28, 29, 30, 31, 32, 33, 34, 35, 36, 37, 38, 39, 40, 41, 42, 43] (by decide +kernel) (by decide +kernel)
set_option maxRecDepth 20000 in
theorem gX5_value_X5_fine : GoodIn wsX5_value (wsV RX5 82 RX5 yX5_fine wsX5_fine) := goodIn_app (goodIn_of _ (by decide +kernel)) ggX5_value_X5_fine
set_option maxRecDepth 20000 in
theorem ggX5_value_X5_throwing : GoodIn wsX5_value wsX5_throwing := goodIn_r _ [27, 23, 28, 29, 30, 31, 32, 33, 34, 35, 36, 37, 38, 39, 40, 41, 42, 43] (by decide +kernel) (by decide +kernel)
set_option maxRecDepth 20000 in
theorem gX5_value_X5_throwing : GoodIn wsX5_value (wsV RX5 71 RX5 yX5_throwing wsX5_throwing) := goodIn_app (goodIn_of _ (by decide +kernel)) ggX5_value_X5_throwing
theorem dX5_value_0 : decode cX5_value 0 = .ok (.iload_n 1, 1) := by decide +kernel
theorem dX5_value_1 : decode cX5_value 1 = .ok (.i2l, 1) := by decide +kernel
theorem dX5_value_2 : decode cX5_value 2 = .ok (.lconst 0, 1) := by decide +kernel
theorem dX5_value_3 : decode cX5_value 3 = .ok (.ldc2_w 149, 3) := by decide +kernel
theorem dX5_value_6 : decode cX5_value 6 = .ok (.invokestatic 55, 3) := by decide +kernel
theorem dX5_value_9 : decode cX5_value 9 = .ok (.ifCond .eq 15, 3) := by decide +kernel
theorem dX5_value_12 : decode cX5_value 12 = .ok (.aload_n 0, 1) := by decide +kernel
theorem dX5_value_13 : decode cX5_value 13 = .ok (.aload_n 0, 1) := by decide +kernel
theorem dX5_value_14 : decode cX5_value 14 = .ok (.iload_n 1, 1) := by decide +kernel
theorem dX5_value_15 : decode cX5_value 15 = .ok (.invokevirtual 151, 3) := by decide +kernel
theorem dX5_value_18 : decode cX5_value 18 = .ok (.invokevirtual 82, 3) := by decide +kernel
theorem dX5_value_21 : decode cX5_value 21 = .ok (.goto 8, 3) := by decide +kernel
theorem dX5_value_24 : decode cX5_value 24 = .ok (.aload_n 0, 1) := by decide +kernel
theorem dX5_value_25 : decode cX5_value 25 = .ok (.iconst 1, 1) := by decide +kernel
theorem dX5_value_26 : decode cX5_value 26 = .ok (.invokevirtual 71, 3) := by decide +kernel
theorem dX5_value_29 : decode cX5_value 29 = .ok (.ireturn, 1) := by decide +kernel
set_option maxRecDepth 20000 in
theorem ggX5_shoesOf_X5_lends : GoodIn wsX5_shoesOf wsX5_lends := goodIn_r _ [7, 1, 2, 8, 9, 10, 11, 12, 6, 13, 14, 15, 16, 17, 18, 19, 20, 21, 22, 23, 24, 25, 26, 27, 28, 29, 30, 31, 32, 33, 34, 35, 36] (by decide +kernel) (by decide +kernel)
set_option maxRecDepth 20000 in
theorem gX5_shoesOf_X5_lends : GoodIn wsX5_shoesOf (wsV RX5 111 RX5 yX5_lends wsX5_lends) := goodIn_app (goodIn_of _ (by decide +kernel)) ggX5_shoesOf_X5_lends
theorem dX5_shoesOf_0 : decode cX5_shoesOf 0 = .ok (.aload_n 0, 1) := by decide +kernel
theorem dX5_shoesOf_1 : decode cX5_shoesOf 1 = .ok (.invokevirtual 111, 3) := by decide +kernel
theorem dX5_shoesOf_4 : decode cX5_shoesOf 4 = .ok (.istore_n 3, 1) := by decide +kernel
theorem dX5_shoesOf_5 : decode cX5_shoesOf 5 = .ok (.iload_n 2, 1) := by decide +kernel
theorem dX5_shoesOf_6 : decode cX5_shoesOf 6 = .ok (.ifCond .eq 16, 3) := by decide +kernel
theorem dX5_shoesOf_9 : decode cX5_shoesOf 9 = .ok (.iload_n 3, 1) := by decide +kernel
theorem dX5_shoesOf_10 : decode cX5_shoesOf 10 = .ok (.ifCond .lt 12, 3) := by decide +kernel
theorem dX5_shoesOf_13 : decode cX5_shoesOf 13 = .ok (.aload_n 0, 1) := by decide +kernel
theorem dX5_shoesOf_14 : decode cX5_shoesOf 14 = .ok (.getfield 19, 3) := by decide +kernel
theorem dX5_shoesOf_17 : decode cX5_shoesOf 17 = .ok (.iload_n 1, 1) := by decide +kernel
theorem dX5_shoesOf_18 : decode cX5_shoesOf 18 = .ok (.iaload, 1) := by decide +kernel
theorem dX5_shoesOf_19 : decode cX5_shoesOf 19 = .ok (.goto 14, 3) := by decide +kernel
theorem dX5_shoesOf_22 : decode cX5_shoesOf 22 = .ok (.aload_n 0, 1) := by decide +kernel
theorem dX5_shoesOf_23 : decode cX5_shoesOf 23 = .ok (.getfield 7, 3) := by decide +kernel
theorem dX5_shoesOf_26 : decode cX5_shoesOf 26 = .ok (.bipush 11, 2) := by decide +kernel
theorem dX5_shoesOf_28 : decode cX5_shoesOf 28 = .ok (.iload_n 1, 1) := by decide +kernel
theorem dX5_shoesOf_29 : decode cX5_shoesOf 29 = .ok (.iadd, 1) := by decide +kernel
theorem dX5_shoesOf_30 : decode cX5_shoesOf 30 = .ok (.iconst 1, 1) := by decide +kernel
theorem dX5_shoesOf_31 : decode cX5_shoesOf 31 = .ok (.isub, 1) := by decide +kernel
theorem dX5_shoesOf_32 : decode cX5_shoesOf 32 = .ok (.iaload, 1) := by decide +kernel
theorem dX5_shoesOf_33 : decode cX5_shoesOf 33 = .ok (.ireturn, 1) := by decide +kernel
set_option maxRecDepth 20000 in
theorem ggX5_shoes_X5_in : GoodIn wsX5_shoes wsX5_in := goodIn_r _ [5] (by decide +kernel) (by decide +kernel)
set_option maxRecDepth 20000 in
theorem gX5_shoes_X5_in : GoodIn wsX5_shoes (va_wsS RX5 55 yX5_in wsX5_in) := goodIn_app (goodIn_of _ (by decide +kernel)) ggX5_shoes_X5_in
set_option maxRecDepth 20000 in
theorem ggX5_shoes_X5_shoesOf : GoodIn wsX5_shoes wsX5_shoesOf := goodIn_r _ [9, 10, 11, 12, 13, 14, 4, 15, 16, 17, 18, 19, 20, 21, 22, 23, 24, 25, 26, 27, 28, 38, 39, 40, 41, 42, 43, 44, 45, 46, 47, 48, 49, 50, 51, 52, 53] (by decide +kernel) (by decide +kernel)
set_option maxRecDepth 20000 in
theorem gX5_shoes_X5_shoesOf : GoodIn wsX5_shoes (wsV RX5 154 RX5 yX5_shoesOf wsX5_shoesOf) := goodIn_app (goodIn_of _ (by decide +kernel)) ggX5_shoes_X5_shoesOf
set_option maxRecDepth 20000 in
theorem ggX5_shoes_X5_fine : GoodIn wsX5_shoes wsX5_fine := goodIn_r _ [32, 33, 38, 39, 40, 41, 42, 43, 44, 45, 46, 47, 48, 49, 50, 51, 52, 53] (by decide +kernel) (by decide +kernel)
set_option maxRecDepth 20000 in
theorem gX5_shoes_X5_fine : GoodIn wsX5_shoes (wsV RX5 82 RX5 yX5_fine wsX5_fine) := goodIn_app (goodIn_of _ (by decide +kernel)) ggX5_shoes_X5_fine
set_option maxRecDepth 20000 in
theorem ggX5_shoes_X5_throwing : GoodIn wsX5_shoes wsX5_throwing := goodIn_r _ [37, 33, 38, 39, 40, 41, 42, 43, 44, 45, 46, 47, 48, 49, 50, 51, 52, 53] (by decide +kernel) (by decide +kernel)
set_option maxRecDepth 20000 in
theorem gX5_shoes_X5_throwing : GoodIn wsX5_shoes (wsV RX5 71 RX5 yX5_throwing wsX5_throwing) := goodIn_app (goodIn_of _ (by decide +kernel)) ggX5_shoes_X5_throwing
theorem dX5_shoes_0 : decode cX5_shoes 0 = .ok (.iload_n 1, 1) := by decide +kernel
theorem dX5_shoes_1 : decode cX5_shoes 1 = .ok (.i2l, 1) := by decide +kernel
theorem dX5_shoes_2 : decode cX5_shoes 2 = .ok (.lconst 1, 1) := by decide +kernel
theorem dX5_shoes_3 : decode cX5_shoes 3 = .ok (.ldc2_w 69, 3) := by decide +kernel
theorem dX5_shoes_6 : decode cX5_shoes 6 = .ok (.invokestatic 55, 3) := by decide +kernel
theorem dX5_shoes_9 : decode cX5_shoes 9 = .ok (.ifCond .eq 16, 3) := by decide +kernel
theorem dX5_shoes_12 : decode cX5_shoes 12 = .ok (.aload_n 0, 1) := by decide +kernel
theorem dX5_shoes_13 : decode cX5_shoes 13 = .ok (.aload_n 0, 1) := by decide +kernel
theorem dX5_shoes_14 : decode cX5_shoes 14 = .ok (.iload_n 1, 1) := by decide +kernel
theorem dX5_shoes_15 : decode cX5_shoes 15 = .ok (.iload_n 2, 1) := by decide +kernel
theorem dX5_shoes_16 : decode cX5_shoes 16 = .ok (.invokevirtual 154, 3) := by decide +kernel
theorem dX5_shoes_19 : decode cX5_shoes 19 = .ok (.invokevirtual 82, 3) := by decide +kernel
theorem dX5_shoes_22 : decode cX5_shoes 22 = .ok (.goto 8, 3) := by decide +kernel
theorem dX5_shoes_25 : decode cX5_shoes 25 = .ok (.aload_n 0, 1) := by decide +kernel
theorem dX5_shoes_26 : decode cX5_shoes 26 = .ok (.iconst 1, 1) := by decide +kernel
theorem dX5_shoes_27 : decode cX5_shoes 27 = .ok (.invokevirtual 71, 3) := by decide +kernel
theorem dX5_shoes_30 : decode cX5_shoes 30 = .ok (.ireturn, 1) := by decide +kernel
set_option maxRecDepth 20000 in
theorem ggX5_fiddlerOf_X5_share : GoodIn wsX5_fiddlerOf wsX5_share := goodIn_r _ [6, 1, 7, 8, 9, 5, 10, 11, 12, 13, 14, 15, 16, 17, 18, 19, 20, 21, 22, 23, 24, 25, 26] (by decide +kernel) (by decide +kernel)
set_option maxRecDepth 20000 in
theorem gX5_fiddlerOf_X5_share : GoodIn wsX5_fiddlerOf (wsV RX5 141 RX5 yX5_share wsX5_share) := goodIn_app (goodIn_of _ (by decide +kernel)) ggX5_fiddlerOf_X5_share
theorem dX5_fiddlerOf_0 : decode cX5_fiddlerOf 0 = .ok (.iload_n 2, 1) := by decide +kernel
theorem dX5_fiddlerOf_1 : decode cX5_fiddlerOf 1 = .ok (.ifCond .ne 15, 3) := by decide +kernel
theorem dX5_fiddlerOf_4 : decode cX5_fiddlerOf 4 = .ok (.aload_n 0, 1) := by decide +kernel
theorem dX5_fiddlerOf_5 : decode cX5_fiddlerOf 5 = .ok (.getfield 7, 3) := by decide +kernel
theorem dX5_fiddlerOf_8 : decode cX5_fiddlerOf 8 = .ok (.bipush 20, 2) := by decide +kernel
theorem dX5_fiddlerOf_10 : decode cX5_fiddlerOf 10 = .ok (.iload_n 1, 1) := by decide +kernel
theorem dX5_fiddlerOf_11 : decode cX5_fiddlerOf 11 = .ok (.iadd, 1) := by decide +kernel
theorem dX5_fiddlerOf_12 : decode cX5_fiddlerOf 12 = .ok (.iaload, 1) := by decide +kernel
theorem dX5_fiddlerOf_13 : decode cX5_fiddlerOf 13 = .ok (.goto 25, 3) := by decide +kernel
theorem dX5_fiddlerOf_16 : decode cX5_fiddlerOf 16 = .ok (.iload_n 2, 1) := by decide +kernel
theorem dX5_fiddlerOf_17 : decode cX5_fiddlerOf 17 = .ok (.iconst 1, 1) := by decide +kernel
theorem dX5_fiddlerOf_18 : decode cX5_fiddlerOf 18 = .ok (.if_icmp .ne 15, 3) := by decide +kernel
theorem dX5_fiddlerOf_21 : decode cX5_fiddlerOf 21 = .ok (.aload_n 0, 1) := by decide +kernel
theorem dX5_fiddlerOf_22 : decode cX5_fiddlerOf 22 = .ok (.getfield 7, 3) := by decide +kernel
theorem dX5_fiddlerOf_25 : decode cX5_fiddlerOf 25 = .ok (.bipush 24, 2) := by decide +kernel
theorem dX5_fiddlerOf_27 : decode cX5_fiddlerOf 27 = .ok (.iload_n 1, 1) := by decide +kernel
theorem dX5_fiddlerOf_28 : decode cX5_fiddlerOf 28 = .ok (.iadd, 1) := by decide +kernel
theorem dX5_fiddlerOf_29 : decode cX5_fiddlerOf 29 = .ok (.iaload, 1) := by decide +kernel
theorem dX5_fiddlerOf_30 : decode cX5_fiddlerOf 30 = .ok (.goto 8, 3) := by decide +kernel
theorem dX5_fiddlerOf_33 : decode cX5_fiddlerOf 33 = .ok (.aload_n 0, 1) := by decide +kernel
theorem dX5_fiddlerOf_34 : decode cX5_fiddlerOf 34 = .ok (.iload_n 1, 1) := by decide +kernel
theorem dX5_fiddlerOf_35 : decode cX5_fiddlerOf 35 = .ok (.invokevirtual 141, 3) := by decide +kernel
theorem dX5_fiddlerOf_38 : decode cX5_fiddlerOf 38 = .ok (.ireturn, 1) := by decide +kernel
set_option maxRecDepth 20000 in
theorem ggX5_fiddler_X5_isFiddler : GoodIn wsX5_fiddler wsX5_isFiddler := goodIn_r _ [6, 7, 8, 9, 5, 10, 32, 33, 34, 35, 36, 37, 38, 39, 40, 41, 42, 43, 44, 45, 46, 47] (by decide +kernel) (by decide +kernel)
set_option maxRecDepth 20000 in
theorem gX5_fiddler_X5_isFiddler : GoodIn wsX5_fiddler (wsV RX5 100 RX5 yX5_isFiddler wsX5_isFiddler) := goodIn_app (goodIn_of _ (by decide +kernel)) ggX5_fiddler_X5_isFiddler
set_option maxRecDepth 20000 in
theorem ggX5_fiddler_X5_throwing : GoodIn wsX5_fiddler wsX5_throwing := goodIn_r _ [14, 15, 32, 33, 34, 35, 36, 37, 38, 39, 40, 41, 42, 43, 44, 45, 46, 47] (by decide +kernel) (by decide +kernel)
set_option maxRecDepth 20000 in
theorem gX5_fiddler_X5_throwing : GoodIn wsX5_fiddler (wsV RX5 71 RX5 yX5_throwing wsX5_throwing) := goodIn_app (goodIn_of _ (by decide +kernel)) ggX5_fiddler_X5_throwing
set_option maxRecDepth 20000 in
theorem ggX5_fiddler_X5_in : GoodIn wsX5_fiddler wsX5_in := goodIn_r _ [10] (by decide +kernel) (by decide +kernel)
set_option maxRecDepth 20000 in
theorem gX5_fiddler_X5_in : GoodIn wsX5_fiddler (va_wsS RX5 55 yX5_in wsX5_in) := goodIn_app (goodIn_of _ (by decide +kernel)) ggX5_fiddler_X5_in
set_option maxRecDepth 20000 in
theorem ggX5_fiddler_X5_fiddlerOf : GoodIn wsX5_fiddler wsX5_fiddlerOf := goodIn_r _ [19, 7, 20, 21, 22, 5, 23, 24, 25, 26, 27, 32, 33, 34, 35, 36, 37, 38, 39, 40, 41, 42, 43, 44, 45, 46, 47] (by decide +kernel) (by decide +kernel)
set_option maxRecDepth 20000 in
theorem gX5_fiddler_X5_fiddlerOf : GoodIn wsX5_fiddler (wsV RX5 160 RX5 yX5_fiddlerOf wsX5_fiddlerOf) := goodIn_app (goodIn_of _ (by decide +kernel)) ggX5_fiddler_X5_fiddlerOf
set_option maxRecDepth 20000 in
theorem ggX5_fiddler_X5_fine : GoodIn wsX5_fiddler wsX5_fine := goodIn_r _ [31, 15, 32, 33, 34, 35, 36, 37, 38, 39, 40, 41, 42, 43, 44, 45, 46, 47] (by decide +kernel) (by decide +kernel)
set_option maxRecDepth 20000 in
theorem gX5_fiddler_X5_fine : GoodIn wsX5_fiddler (wsV RX5 82 RX5 yX5_fine wsX5_fine) := goodIn_app (goodIn_of _ (by decide +kernel)) ggX5_fiddler_X5_fine
theorem dX5_fiddler_0 : decode cX5_fiddler 0 = .ok (.aload_n 0, 1) := by decide +kernel
theorem dX5_fiddler_1 : decode cX5_fiddler 1 = .ok (.iload_n 1, 1) := by decide +kernel
theorem dX5_fiddler_2 : decode cX5_fiddler 2 = .ok (.invokevirtual 100, 3) := by decide +kernel
theorem dX5_fiddler_5 : decode cX5_fiddler 5 = .ok (.ifCond .ne 9, 3) := by decide +kernel
theorem dX5_fiddler_8 : decode cX5_fiddler 8 = .ok (.aload_n 0, 1) := by decide +kernel
theorem dX5_fiddler_9 : decode cX5_fiddler 9 = .ok (.iconst 1, 1) := by decide +kernel
theorem dX5_fiddler_10 : decode cX5_fiddler 10 = .ok (.invokevirtual 71, 3) := by decide +kernel
theorem dX5_fiddler_13 : decode cX5_fiddler 13 = .ok (.ireturn, 1) := by decide +kernel
theorem dX5_fiddler_14 : decode cX5_fiddler 14 = .ok (.iload_n 2, 1) := by decide +kernel
theorem dX5_fiddler_15 : decode cX5_fiddler 15 = .ok (.i2l, 1) := by decide +kernel
theorem dX5_fiddler_16 : decode cX5_fiddler 16 = .ok (.lconst 0, 1) := by decide +kernel
theorem dX5_fiddler_17 : decode cX5_fiddler 17 = .ok (.ldc2_w 158, 3) := by decide +kernel
theorem dX5_fiddler_20 : decode cX5_fiddler 20 = .ok (.invokestatic 55, 3) := by decide +kernel
theorem dX5_fiddler_23 : decode cX5_fiddler 23 = .ok (.ifCond .eq 16, 3) := by decide +kernel
theorem dX5_fiddler_26 : decode cX5_fiddler 26 = .ok (.aload_n 0, 1) := by decide +kernel
theorem dX5_fiddler_27 : decode cX5_fiddler 27 = .ok (.aload_n 0, 1) := by decide +kernel
theorem dX5_fiddler_28 : decode cX5_fiddler 28 = .ok (.iload_n 1, 1) := by decide +kernel
theorem dX5_fiddler_29 : decode cX5_fiddler 29 = .ok (.iload_n 2, 1) := by decide +kernel
theorem dX5_fiddler_30 : decode cX5_fiddler 30 = .ok (.invokevirtual 160, 3) := by decide +kernel
theorem dX5_fiddler_33 : decode cX5_fiddler 33 = .ok (.invokevirtual 82, 3) := by decide +kernel
theorem dX5_fiddler_36 : decode cX5_fiddler 36 = .ok (.goto 8, 3) := by decide +kernel
theorem dX5_fiddler_39 : decode cX5_fiddler 39 = .ok (.aload_n 0, 1) := by decide +kernel
theorem dX5_fiddler_40 : decode cX5_fiddler 40 = .ok (.iconst 2, 1) := by decide +kernel
theorem dX5_fiddler_41 : decode cX5_fiddler 41 = .ok (.invokevirtual 71, 3) := by decide +kernel
theorem dX5_fiddler_44 : decode cX5_fiddler 44 = .ok (.ireturn, 1) := by decide +kernel
set_option maxRecDepth 20000 in
theorem ggX5_danced_X5_isGuest : GoodIn wsX5_danced wsX5_isGuest := goodIn_r _ [6, 7, 8, 9, 5, 10, 1, 11, 12, 13, 23, 24, 25, 26, 27, 28, 29, 30, 31, 32, 33, 34, 35, 36, 37, 38] (by decide +kernel) (by decide +kernel)
set_option maxRecDepth 20000 in
theorem gX5_danced_X5_isGuest : GoodIn wsX5_danced (wsV RX5 85 RX5 yX5_isGuest wsX5_isGuest) := goodIn_app (goodIn_of _ (by decide +kernel)) ggX5_danced_X5_isGuest
set_option maxRecDepth 20000 in
theorem ggX5_danced_X5_fine : GoodIn wsX5_danced wsX5_fine := goodIn_r _ [17, 18, 23, 24, 25, 26, 27, 28, 29, 30, 31, 32, 33, 34, 35, 36, 37, 38] (by decide +kernel) (by decide +kernel)
set_option maxRecDepth 20000 in
theorem gX5_danced_X5_fine : GoodIn wsX5_danced (wsV RX5 82 RX5 yX5_fine wsX5_fine) := goodIn_app (goodIn_of _ (by decide +kernel)) ggX5_danced_X5_fine
set_option maxRecDepth 20000 in
theorem ggX5_danced_X5_throwing : GoodIn wsX5_danced wsX5_throwing := goodIn_r _ [22, 18, 23, 24, 25, 26, 27, 28, 29, 30, 31, 32, 33, 34, 35, 36, 37, 38] (by decide +kernel) (by decide +kernel)
set_option maxRecDepth 20000 in
theorem gX5_danced_X5_throwing : GoodIn wsX5_danced (wsV RX5 71 RX5 yX5_throwing wsX5_throwing) := goodIn_app (goodIn_of _ (by decide +kernel)) ggX5_danced_X5_throwing
theorem dX5_danced_0 : decode cX5_danced 0 = .ok (.aload_n 0, 1) := by decide +kernel
theorem dX5_danced_1 : decode cX5_danced 1 = .ok (.iconst 1, 1) := by decide +kernel
theorem dX5_danced_2 : decode cX5_danced 2 = .ok (.iload_n 1, 1) := by decide +kernel
theorem dX5_danced_3 : decode cX5_danced 3 = .ok (.invokevirtual 85, 3) := by decide +kernel
theorem dX5_danced_6 : decode cX5_danced 6 = .ok (.ifCond .eq 33, 3) := by decide +kernel
theorem dX5_danced_9 : decode cX5_danced 9 = .ok (.aload_n 0, 1) := by decide +kernel
theorem dX5_danced_10 : decode cX5_danced 10 = .ok (.iconst 0, 1) := by decide +kernel
theorem dX5_danced_11 : decode cX5_danced 11 = .ok (.iload_n 2, 1) := by decide +kernel
theorem dX5_danced_12 : decode cX5_danced 12 = .ok (.invokevirtual 85, 3) := by decide +kernel
theorem dX5_danced_15 : decode cX5_danced 15 = .ok (.ifCond .eq 24, 3) := by decide +kernel
theorem dX5_danced_18 : decode cX5_danced 18 = .ok (.aload_n 0, 1) := by decide +kernel
theorem dX5_danced_19 : decode cX5_danced 19 = .ok (.aload_n 0, 1) := by decide +kernel
theorem dX5_danced_20 : decode cX5_danced 20 = .ok (.getfield 7, 3) := by decide +kernel
theorem dX5_danced_23 : decode cX5_danced 23 = .ok (.bipush 28, 2) := by decide +kernel
theorem dX5_danced_25 : decode cX5_danced 25 = .ok (.bipush 8, 2) := by decide +kernel
theorem dX5_danced_27 : decode cX5_danced 27 = .ok (.iload_n 1, 1) := by decide +kernel
theorem dX5_danced_28 : decode cX5_danced 28 = .ok (.imul, 1) := by decide +kernel
theorem dX5_danced_29 : decode cX5_danced 29 = .ok (.iadd, 1) := by decide +kernel
theorem dX5_danced_30 : decode cX5_danced 30 = .ok (.iload_n 2, 1) := by decide +kernel
theorem dX5_danced_31 : decode cX5_danced 31 = .ok (.iadd, 1) := by decide +kernel
theorem dX5_danced_32 : decode cX5_danced 32 = .ok (.iaload, 1) := by decide +kernel
theorem dX5_danced_33 : decode cX5_danced 33 = .ok (.invokevirtual 82, 3) := by decide +kernel
theorem dX5_danced_36 : decode cX5_danced 36 = .ok (.goto 8, 3) := by decide +kernel
theorem dX5_danced_39 : decode cX5_danced 39 = .ok (.aload_n 0, 1) := by decide +kernel
theorem dX5_danced_40 : decode cX5_danced 40 = .ok (.iconst 1, 1) := by decide +kernel
theorem dX5_danced_41 : decode cX5_danced 41 = .ok (.invokevirtual 71, 3) := by decide +kernel
theorem dX5_danced_44 : decode cX5_danced 44 = .ok (.ireturn, 1) := by decide +kernel
set_option maxRecDepth 20000 in
theorem ggX5_partner_X5_in : GoodIn wsX5_partner wsX5_in := goodIn_r _ [5] (by decide +kernel) (by decide +kernel)
set_option maxRecDepth 20000 in
theorem gX5_partner_X5_in : GoodIn wsX5_partner (va_wsS RX5 55 yX5_in wsX5_in) := goodIn_app (goodIn_of _ (by decide +kernel)) ggX5_partner_X5_in
set_option maxRecDepth 20000 in
theorem ggX5_partner_X5_isGuest : GoodIn wsX5_partner wsX5_isGuest := goodIn_r _ [9, 10, 11, 12, 4, 13, 1, 2, 3, 5, 23, 24, 25, 26, 27, 28, 29, 30, 31, 32, 33, 34, 35, 36, 37, 38] (by decide +kernel) (by decide +kernel)
set_option maxRecDepth 20000 in
theorem gX5_partner_X5_isGuest : GoodIn wsX5_partner (wsV RX5 85 RX5 yX5_isGuest wsX5_isGuest) := goodIn_app (goodIn_of _ (by decide +kernel)) ggX5_partner_X5_isGuest
set_option maxRecDepth 20000 in
theorem ggX5_partner_X5_throwing : GoodIn wsX5_partner wsX5_throwing := goodIn_r _ [17, 18, 23, 24, 25, 26, 27, 28, 29, 30, 31, 32, 33, 34, 35, 36, 37, 38] (by decide +kernel) (by decide +kernel)
set_option maxRecDepth 20000 in
theorem gX5_partner_X5_throwing : GoodIn wsX5_partner (wsV RX5 71 RX5 yX5_throwing wsX5_throwing) := goodIn_app (goodIn_of _ (by decide +kernel)) ggX5_partner_X5_throwing
set_option maxRecDepth 20000 in
theorem ggX5_partner_X5_fine : GoodIn wsX5_partner wsX5_fine := goodIn_r _ [22, 18, 23, 24, 25, 26, 27, 28, 29, 30, 31, 32, 33, 34, 35, 36, 37, 38] (by decide +kernel) (by decide +kernel)
set_option maxRecDepth 20000 in
theorem gX5_partner_X5_fine : GoodIn wsX5_partner (wsV RX5 82 RX5 yX5_fine wsX5_fine) := goodIn_app (goodIn_of _ (by decide +kernel)) ggX5_partner_X5_fine
theorem dX5_partner_0 : decode cX5_partner 0 = .ok (.iload_n 1, 1) := by decide +kernel
theorem dX5_partner_1 : decode cX5_partner 1 = .ok (.i2l, 1) := by decide +kernel
theorem dX5_partner_2 : decode cX5_partner 2 = .ok (.lconst 0, 1) := by decide +kernel
theorem dX5_partner_3 : decode cX5_partner 3 = .ok (.aload_n 0, 1) := by decide +kernel
theorem dX5_partner_4 : decode cX5_partner 4 = .ok (.getfield 7, 3) := by decide +kernel
theorem dX5_partner_7 : decode cX5_partner 7 = .ok (.iconst 5, 1) := by decide +kernel
theorem dX5_partner_8 : decode cX5_partner 8 = .ok (.iaload, 1) := by decide +kernel
theorem dX5_partner_9 : decode cX5_partner 9 = .ok (.i2l, 1) := by decide +kernel
theorem dX5_partner_10 : decode cX5_partner 10 = .ok (.lconst 1, 1) := by decide +kernel
theorem dX5_partner_11 : decode cX5_partner 11 = .ok (.lsub, 1) := by decide +kernel
theorem dX5_partner_12 : decode cX5_partner 12 = .ok (.invokestatic 55, 3) := by decide +kernel
theorem dX5_partner_15 : decode cX5_partner 15 = .ok (.ifCond .eq 12, 3) := by decide +kernel
theorem dX5_partner_18 : decode cX5_partner 18 = .ok (.aload_n 0, 1) := by decide +kernel
theorem dX5_partner_19 : decode cX5_partner 19 = .ok (.iconst 1, 1) := by decide +kernel
theorem dX5_partner_20 : decode cX5_partner 20 = .ok (.iload_n 2, 1) := by decide +kernel
theorem dX5_partner_21 : decode cX5_partner 21 = .ok (.invokevirtual 85, 3) := by decide +kernel
theorem dX5_partner_24 : decode cX5_partner 24 = .ok (.ifCond .ne 9, 3) := by decide +kernel
theorem dX5_partner_27 : decode cX5_partner 27 = .ok (.aload_n 0, 1) := by decide +kernel
theorem dX5_partner_28 : decode cX5_partner 28 = .ok (.iconst 1, 1) := by decide +kernel
theorem dX5_partner_29 : decode cX5_partner 29 = .ok (.invokevirtual 71, 3) := by decide +kernel
theorem dX5_partner_32 : decode cX5_partner 32 = .ok (.ireturn, 1) := by decide +kernel
theorem dX5_partner_33 : decode cX5_partner 33 = .ok (.iconst (-1), 1) := by decide +kernel
theorem dX5_partner_34 : decode cX5_partner 34 = .ok (.istore_n 3, 1) := by decide +kernel
theorem dX5_partner_35 : decode cX5_partner 35 = .ok (.iconst 0, 1) := by decide +kernel
theorem dX5_partner_36 : decode cX5_partner 36 = .ok (.istore 4, 2) := by decide +kernel
theorem dX5_partner_38 : decode cX5_partner 38 = .ok (.iload 4, 2) := by decide +kernel
theorem dX5_partner_40 : decode cX5_partner 40 = .ok (.bipush 8, 2) := by decide +kernel
theorem dX5_partner_42 : decode cX5_partner 42 = .ok (.if_icmp .ge 35, 3) := by decide +kernel
theorem dX5_partner_45 : decode cX5_partner 45 = .ok (.aload_n 0, 1) := by decide +kernel
theorem dX5_partner_46 : decode cX5_partner 46 = .ok (.getfield 7, 3) := by decide +kernel
theorem dX5_partner_49 : decode cX5_partner 49 = .ok (.bipush 28, 2) := by decide +kernel
theorem dX5_partner_51 : decode cX5_partner 51 = .ok (.bipush 8, 2) := by decide +kernel
theorem dX5_partner_53 : decode cX5_partner 53 = .ok (.iload_n 2, 1) := by decide +kernel
theorem dX5_partner_54 : decode cX5_partner 54 = .ok (.imul, 1) := by decide +kernel
theorem dX5_partner_55 : decode cX5_partner 55 = .ok (.iadd, 1) := by decide +kernel
theorem dX5_partner_56 : decode cX5_partner 56 = .ok (.iload 4, 2) := by decide +kernel
theorem dX5_partner_58 : decode cX5_partner 58 = .ok (.iadd, 1) := by decide +kernel
theorem dX5_partner_59 : decode cX5_partner 59 = .ok (.iaload, 1) := by decide +kernel
theorem dX5_partner_60 : decode cX5_partner 60 = .ok (.iload_n 1, 1) := by decide +kernel
theorem dX5_partner_61 : decode cX5_partner 61 = .ok (.if_icmp .ne 8, 3) := by decide +kernel
theorem dX5_partner_64 : decode cX5_partner 64 = .ok (.iload 4, 2) := by decide +kernel
theorem dX5_partner_66 : decode cX5_partner 66 = .ok (.goto 4, 3) := by decide +kernel
theorem dX5_partner_69 : decode cX5_partner 69 = .ok (.iload_n 3, 1) := by decide +kernel
theorem dX5_partner_70 : decode cX5_partner 70 = .ok (.istore_n 3, 1) := by decide +kernel
theorem dX5_partner_71 : decode cX5_partner 71 = .ok (.iinc 4 1, 3) := by decide +kernel
theorem dX5_partner_74 : decode cX5_partner 74 = .ok (.goto (-36), 3) := by decide +kernel
theorem dX5_partner_77 : decode cX5_partner 77 = .ok (.aload_n 0, 1) := by decide +kernel
theorem dX5_partner_78 : decode cX5_partner 78 = .ok (.iload_n 3, 1) := by decide +kernel
theorem dX5_partner_79 : decode cX5_partner 79 = .ok (.invokevirtual 82, 3) := by decide +kernel
theorem dX5_partner_82 : decode cX5_partner 82 = .ok (.ireturn, 1) := by decide +kernel
set_option maxRecDepth 20000 in
theorem ggX5_next_X5_isGuest : GoodIn wsX5_next wsX5_isGuest := goodIn_r _ [7, 8, 9, 10, 6, 11, 1, 12, 13, 14, 59, 60, 61, 62, 63, 64, 65, 66, 67, 68, 69, 70, 71, 72, 73, 74] (by decide +kernel) (by decide +kernel)
set_option maxRecDepth 20000 in
theorem gX5_next_X5_isGuest : GoodIn wsX5_next (wsV RX5 85 RX5 yX5_isGuest wsX5_isGuest) := goodIn_app (goodIn_of _ (by decide +kernel)) ggX5_next_X5_isGuest
set_option maxRecDepth 20000 in
theorem ggX5_next_X5_throwing : GoodIn wsX5_next wsX5_throwing := goodIn_r _ [18, 19, 59, 60, 61, 62, 63, 64, 65, 66, 67, 68, 69, 70, 71, 72, 73, 74] (by decide +kernel) (by decide +kernel)
set_option maxRecDepth 20000 in
theorem gX5_next_X5_throwing : GoodIn wsX5_next (wsV RX5 71 RX5 yX5_throwing wsX5_throwing) := goodIn_app (goodIn_of _ (by decide +kernel)) ggX5_next_X5_throwing
set_option maxRecDepth 20000 in
theorem ggX5_next_X5_chooses : GoodIn wsX5_next wsX5_chooses := goodIn_r _ [23, 24, 2, 25, 26, 27, 6, 28, 29, 1, 30, 31, 32, 33, 34, 35, 36, 37, 38, 39, 40, 41, 42, 43, 44, 45, 46, 47, 48, 49, 50, 51, 52, 53, 54, 59, 60, 61, 62, 63, 64, 65, 66, 67, 68, 69, 70, 71, 72, 73, 74] (by decide +kernel) (by decide +kernel)
set_option maxRecDepth 20000 in
theorem gX5_next_X5_chooses : GoodIn wsX5_next (wsV RX5 121 RX5 yX5_chooses wsX5_chooses) := goodIn_app (goodIn_of _ (by decide +kernel)) ggX5_next_X5_chooses
set_option maxRecDepth 20000 in
theorem ggX5_next_X5_fine : GoodIn wsX5_next wsX5_fine := goodIn_r _ [58, 19, 59, 60, 61, 62, 63, 64, 65, 66, 67, 68, 69, 70, 71, 72, 73, 74] (by decide +kernel) (by decide +kernel)
set_option maxRecDepth 20000 in
theorem gX5_next_X5_fine : GoodIn wsX5_next (wsV RX5 82 RX5 yX5_fine wsX5_fine) := goodIn_app (goodIn_of _ (by decide +kernel)) ggX5_next_X5_fine
theorem dX5_next_0 : decode cX5_next 0 = .ok (.aload_n 0, 1) := by decide +kernel
theorem dX5_next_1 : decode cX5_next 1 = .ok (.iconst 1, 1) := by decide +kernel
theorem dX5_next_2 : decode cX5_next 2 = .ok (.iload_n 1, 1) := by decide +kernel
theorem dX5_next_3 : decode cX5_next 3 = .ok (.invokevirtual 85, 3) := by decide +kernel
theorem dX5_next_6 : decode cX5_next 6 = .ok (.ifCond .ne 9, 3) := by decide +kernel
theorem dX5_next_9 : decode cX5_next 9 = .ok (.aload_n 0, 1) := by decide +kernel
theorem dX5_next_10 : decode cX5_next 10 = .ok (.iconst 1, 1) := by decide +kernel
theorem dX5_next_11 : decode cX5_next 11 = .ok (.invokevirtual 71, 3) := by decide +kernel
theorem dX5_next_14 : decode cX5_next 14 = .ok (.ireturn, 1) := by decide +kernel
theorem dX5_next_15 : decode cX5_next 15 = .ok (.aload_n 0, 1) := by decide +kernel
theorem dX5_next_16 : decode cX5_next 16 = .ok (.aload_n 0, 1) := by decide +kernel
theorem dX5_next_17 : decode cX5_next 17 = .ok (.getfield 7, 3) := by decide +kernel
theorem dX5_next_20 : decode cX5_next 20 = .ok (.iconst 2, 1) := by decide +kernel
theorem dX5_next_21 : decode cX5_next 21 = .ok (.iaload, 1) := by decide +kernel
theorem dX5_next_22 : decode cX5_next 22 = .ok (.invokevirtual 121, 3) := by decide +kernel
theorem dX5_next_25 : decode cX5_next 25 = .ok (.istore_n 2, 1) := by decide +kernel
theorem dX5_next_26 : decode cX5_next 26 = .ok (.aload_n 0, 1) := by decide +kernel
theorem dX5_next_27 : decode cX5_next 27 = .ok (.iload_n 2, 1) := by decide +kernel
theorem dX5_next_28 : decode cX5_next 28 = .ok (.ifCond .le 12, 3) := by decide +kernel
theorem dX5_next_31 : decode cX5_next 31 = .ok (.aload_n 0, 1) := by decide +kernel
theorem dX5_next_32 : decode cX5_next 32 = .ok (.getfield 32, 3) := by decide +kernel
theorem dX5_next_35 : decode cX5_next 35 = .ok (.iload_n 1, 1) := by decide +kernel
theorem dX5_next_36 : decode cX5_next 36 = .ok (.iaload, 1) := by decide +kernel
theorem dX5_next_37 : decode cX5_next 37 = .ok (.goto 4, 3) := by decide +kernel
theorem dX5_next_40 : decode cX5_next 40 = .ok (.iconst (-1), 1) := by decide +kernel
theorem dX5_next_41 : decode cX5_next 41 = .ok (.invokevirtual 82, 3) := by decide +kernel
theorem dX5_next_44 : decode cX5_next 44 = .ok (.ireturn, 1) := by decide +kernel
set_option maxRecDepth 20000 in
theorem ggX5_couplesWith_X5_in : GoodIn wsX5_couplesWith wsX5_in := goodIn_r _ [5] (by decide +kernel) (by decide +kernel)
set_option maxRecDepth 20000 in
theorem gX5_couplesWith_X5_in : GoodIn wsX5_couplesWith (va_wsS RX5 55 yX5_in wsX5_in) := goodIn_app (goodIn_of _ (by decide +kernel)) ggX5_couplesWith_X5_in
set_option maxRecDepth 20000 in
theorem ggX5_couplesWith_X5_chooses : GoodIn wsX5_couplesWith wsX5_chooses := goodIn_r _ [9, 10, 11, 12, 13, 14, 4, 15, 16, 17, 18, 19, 20, 21, 22, 23, 24, 25, 26, 27, 28, 29, 30, 31, 32, 33, 34, 35, 36, 37, 38, 39, 40, 41, 42, 52, 53, 54, 55, 56, 57, 58, 59, 60, 61, 62, 63, 64, 65, 66, 67] (by decide +kernel) (by decide +kernel)
set_option maxRecDepth 20000 in
theorem gX5_couplesWith_X5_chooses : GoodIn wsX5_couplesWith (wsV RX5 121 RX5 yX5_chooses wsX5_chooses) := goodIn_app (goodIn_of _ (by decide +kernel)) ggX5_couplesWith_X5_chooses
set_option maxRecDepth 20000 in
theorem ggX5_couplesWith_X5_fine : GoodIn wsX5_couplesWith wsX5_fine := goodIn_r _ [46, 47, 52, 53, 54, 55, 56, 57, 58, 59, 60, 61, 62, 63, 64, 65, 66, 67] (by decide +kernel) (by decide +kernel)
set_option maxRecDepth 20000 in
theorem gX5_couplesWith_X5_fine : GoodIn wsX5_couplesWith (wsV RX5 82 RX5 yX5_fine wsX5_fine) := goodIn_app (goodIn_of _ (by decide +kernel)) ggX5_couplesWith_X5_fine
set_option maxRecDepth 20000 in
theorem ggX5_couplesWith_X5_throwing : GoodIn wsX5_couplesWith wsX5_throwing := goodIn_r _ [51, 47, 52, 53, 54, 55, 56, 57, 58, 59, 60, 61, 62, 63, 64, 65, 66, 67] (by decide +kernel) (by decide +kernel)
set_option maxRecDepth 20000 in
theorem gX5_couplesWith_X5_throwing : GoodIn wsX5_couplesWith (wsV RX5 71 RX5 yX5_throwing wsX5_throwing) := goodIn_app (goodIn_of _ (by decide +kernel)) ggX5_couplesWith_X5_throwing
theorem dX5_couplesWith_0 : decode cX5_couplesWith 0 = .ok (.iload_n 1, 1) := by decide +kernel
theorem dX5_couplesWith_1 : decode cX5_couplesWith 1 = .ok (.i2l, 1) := by decide +kernel
theorem dX5_couplesWith_2 : decode cX5_couplesWith 2 = .ok (.lconst 1, 1) := by decide +kernel
theorem dX5_couplesWith_3 : decode cX5_couplesWith 3 = .ok (.ldc2_w 94, 3) := by decide +kernel
theorem dX5_couplesWith_6 : decode cX5_couplesWith 6 = .ok (.invokestatic 55, 3) := by decide +kernel
theorem dX5_couplesWith_9 : decode cX5_couplesWith 9 = .ok (.ifCond .eq 15, 3) := by decide +kernel
theorem dX5_couplesWith_12 : decode cX5_couplesWith 12 = .ok (.aload_n 0, 1) := by decide +kernel
theorem dX5_couplesWith_13 : decode cX5_couplesWith 13 = .ok (.aload_n 0, 1) := by decide +kernel
theorem dX5_couplesWith_14 : decode cX5_couplesWith 14 = .ok (.iload_n 1, 1) := by decide +kernel
theorem dX5_couplesWith_15 : decode cX5_couplesWith 15 = .ok (.invokevirtual 121, 3) := by decide +kernel
theorem dX5_couplesWith_18 : decode cX5_couplesWith 18 = .ok (.invokevirtual 82, 3) := by decide +kernel
theorem dX5_couplesWith_21 : decode cX5_couplesWith 21 = .ok (.goto 8, 3) := by decide +kernel
theorem dX5_couplesWith_24 : decode cX5_couplesWith 24 = .ok (.aload_n 0, 1) := by decide +kernel
theorem dX5_couplesWith_25 : decode cX5_couplesWith 25 = .ok (.iconst 1, 1) := by decide +kernel
theorem dX5_couplesWith_26 : decode cX5_couplesWith 26 = .ok (.invokevirtual 71, 3) := by decide +kernel
theorem dX5_couplesWith_29 : decode cX5_couplesWith 29 = .ok (.ireturn, 1) := by decide +kernel
set_option maxRecDepth 20000 in
theorem ggX5_dancesLeft_X5_laysAside : GoodIn wsX5_dancesLeft wsX5_laysAside := goodIn_r _ [5, 6, 7, 69, 70, 71, 72, 73, 74, 75, 76, 77, 78, 79, 80, 81, 82, 83, 84] (by decide +kernel) (by decide +kernel)
set_option maxRecDepth 20000 in
theorem gX5_dancesLeft_X5_laysAside : GoodIn wsX5_dancesLeft (wsV RX5 163 RX5 yX5_laysAside wsX5_laysAside) := goodIn_app (goodIn_of _ (by decide +kernel)) ggX5_dancesLeft_X5_laysAside
set_option maxRecDepth 20000 in
theorem ggX5_dancesLeft_X5_dancesOn : GoodIn wsX5_dancesLeft wsX5_dancesOn := goodIn_r _ [11, 12, 13, 14, 4, 15, 7, 16, 17, 18, 19, 20, 21, 22, 23, 24, 25, 26, 27, 28, 29, 30, 31, 32, 33, 34, 35, 36, 37, 38, 39, 40, 41, 42, 43, 44, 45, 46, 47, 48, 49, 50, 51, 52, 53, 54, 55, 56, 57, 58, 59, 69, 70, 71, 72, 73, 74, 75, 76, 77, 78, 79, 80, 81, 82, 83, 84] (by decide +kernel) (by decide +kernel)
set_option maxRecDepth 20000 in
theorem gX5_dancesLeft_X5_dancesOn : GoodIn wsX5_dancesLeft (wsV RX5 135 RX5 yX5_dancesOn wsX5_dancesOn) := goodIn_app (goodIn_of _ (by decide +kernel)) ggX5_dancesLeft_X5_dancesOn
set_option maxRecDepth 20000 in
theorem ggX5_dancesLeft_X5_takesBack : GoodIn wsX5_dancesLeft wsX5_takesBack := goodIn_r _ [63, 7, 6, 69, 70, 71, 72, 73, 74, 75, 76, 77, 78, 79, 80, 81, 82, 83, 84] (by decide +kernel) (by decide +kernel)
set_option maxRecDepth 20000 in
theorem gX5_dancesLeft_X5_takesBack : GoodIn wsX5_dancesLeft (wsV RX5 166 RX5 yX5_takesBack wsX5_takesBack) := goodIn_app (goodIn_of _ (by decide +kernel)) ggX5_dancesLeft_X5_takesBack
set_option maxRecDepth 20000 in
theorem ggX5_dancesLeft_X5_fine : GoodIn wsX5_dancesLeft wsX5_fine := goodIn_r _ [67, 68, 69, 70, 71, 72, 73, 74, 75, 76, 77, 78, 79, 80, 81, 82, 83, 84] (by decide +kernel) (by decide +kernel)
set_option maxRecDepth 20000 in
theorem gX5_dancesLeft_X5_fine : GoodIn wsX5_dancesLeft (wsV RX5 82 RX5 yX5_fine wsX5_fine) := goodIn_app (goodIn_of _ (by decide +kernel)) ggX5_dancesLeft_X5_fine
theorem dX5_dancesLeft_0 : decode cX5_dancesLeft 0 = .ok (.aload_n 0, 1) := by decide +kernel
theorem dX5_dancesLeft_1 : decode cX5_dancesLeft 1 = .ok (.invokevirtual 163, 3) := by decide +kernel
theorem dX5_dancesLeft_4 : decode cX5_dancesLeft 4 = .ok (.aload_n 0, 1) := by decide +kernel
theorem dX5_dancesLeft_5 : decode cX5_dancesLeft 5 = .ok (.invokevirtual 135, 3) := by decide +kernel
theorem dX5_dancesLeft_8 : decode cX5_dancesLeft 8 = .ok (.istore_n 1, 1) := by decide +kernel
theorem dX5_dancesLeft_9 : decode cX5_dancesLeft 9 = .ok (.aload_n 0, 1) := by decide +kernel
theorem dX5_dancesLeft_10 : decode cX5_dancesLeft 10 = .ok (.invokevirtual 166, 3) := by decide +kernel
theorem dX5_dancesLeft_13 : decode cX5_dancesLeft 13 = .ok (.aload_n 0, 1) := by decide +kernel
theorem dX5_dancesLeft_14 : decode cX5_dancesLeft 14 = .ok (.iload_n 1, 1) := by decide +kernel
theorem dX5_dancesLeft_15 : decode cX5_dancesLeft 15 = .ok (.invokevirtual 82, 3) := by decide +kernel
theorem dX5_dancesLeft_18 : decode cX5_dancesLeft 18 = .ok (.ireturn, 1) := by decide +kernel
set_option maxRecDepth 20000 in
theorem ggX5_bestSize_X5_lends : GoodIn wsX5_bestSize wsX5_lends := goodIn_r _ [6, 7, 1, 8, 9, 10, 11, 12, 5, 13, 14, 15, 16, 17, 18, 19, 20, 26, 27, 28, 29, 30, 31, 32, 33, 34, 35, 36, 37, 38, 39, 40, 41] (by decide +kernel) (by decide +kernel)
set_option maxRecDepth 20000 in
theorem gX5_bestSize_X5_lends : GoodIn wsX5_bestSize (wsV RX5 111 RX5 yX5_lends wsX5_lends) := goodIn_app (goodIn_of _ (by decide +kernel)) ggX5_bestSize_X5_lends
set_option maxRecDepth 20000 in
theorem ggX5_bestSize_X5_fine : GoodIn wsX5_bestSize wsX5_fine := goodIn_r _ [24, 25, 26, 27, 28, 29, 30, 31, 32, 33, 34, 35, 36, 37, 38, 39, 40, 41] (by decide +kernel) (by decide +kernel)
set_option maxRecDepth 20000 in
theorem gX5_bestSize_X5_fine : GoodIn wsX5_bestSize (wsV RX5 82 RX5 yX5_fine wsX5_fine) := goodIn_app (goodIn_of _ (by decide +kernel)) ggX5_bestSize_X5_fine
theorem dX5_bestSize_0 : decode cX5_bestSize 0 = .ok (.iconst (-1), 1) := by decide +kernel
theorem dX5_bestSize_1 : decode cX5_bestSize 1 = .ok (.istore_n 1, 1) := by decide +kernel
theorem dX5_bestSize_2 : decode cX5_bestSize 2 = .ok (.aload_n 0, 1) := by decide +kernel
theorem dX5_bestSize_3 : decode cX5_bestSize 3 = .ok (.invokevirtual 111, 3) := by decide +kernel
theorem dX5_bestSize_6 : decode cX5_bestSize 6 = .ok (.istore_n 2, 1) := by decide +kernel
theorem dX5_bestSize_7 : decode cX5_bestSize 7 = .ok (.iconst 1, 1) := by decide +kernel
theorem dX5_bestSize_8 : decode cX5_bestSize 8 = .ok (.istore_n 3, 1) := by decide +kernel
theorem dX5_bestSize_9 : decode cX5_bestSize 9 = .ok (.iload_n 3, 1) := by decide +kernel
theorem dX5_bestSize_10 : decode cX5_bestSize 10 = .ok (.bipush 9, 2) := by decide +kernel
theorem dX5_bestSize_12 : decode cX5_bestSize 12 = .ok (.if_icmp .gt 70, 3) := by decide +kernel
theorem dX5_bestSize_15 : decode cX5_bestSize 15 = .ok (.aload_n 0, 1) := by decide +kernel
theorem dX5_bestSize_16 : decode cX5_bestSize 16 = .ok (.getfield 7, 3) := by decide +kernel
theorem dX5_bestSize_19 : decode cX5_bestSize 19 = .ok (.bipush 11, 2) := by decide +kernel
theorem dX5_bestSize_21 : decode cX5_bestSize 21 = .ok (.iload_n 3, 1) := by decide +kernel
theorem dX5_bestSize_22 : decode cX5_bestSize 22 = .ok (.iadd, 1) := by decide +kernel
theorem dX5_bestSize_23 : decode cX5_bestSize 23 = .ok (.iconst 1, 1) := by decide +kernel
theorem dX5_bestSize_24 : decode cX5_bestSize 24 = .ok (.isub, 1) := by decide +kernel
theorem dX5_bestSize_25 : decode cX5_bestSize 25 = .ok (.dup2, 1) := by decide +kernel
theorem dX5_bestSize_26 : decode cX5_bestSize 26 = .ok (.iaload, 1) := by decide +kernel
theorem dX5_bestSize_27 : decode cX5_bestSize 27 = .ok (.iconst 1, 1) := by decide +kernel
theorem dX5_bestSize_28 : decode cX5_bestSize 28 = .ok (.iadd, 1) := by decide +kernel
theorem dX5_bestSize_29 : decode cX5_bestSize 29 = .ok (.iastore, 1) := by decide +kernel
theorem dX5_bestSize_30 : decode cX5_bestSize 30 = .ok (.aload_n 0, 1) := by decide +kernel
theorem dX5_bestSize_31 : decode cX5_bestSize 31 = .ok (.invokevirtual 111, 3) := by decide +kernel
theorem dX5_bestSize_34 : decode cX5_bestSize 34 = .ok (.istore 4, 2) := by decide +kernel
theorem dX5_bestSize_36 : decode cX5_bestSize 36 = .ok (.aload_n 0, 1) := by decide +kernel
theorem dX5_bestSize_37 : decode cX5_bestSize 37 = .ok (.getfield 7, 3) := by decide +kernel
theorem dX5_bestSize_40 : decode cX5_bestSize 40 = .ok (.bipush 11, 2) := by decide +kernel
theorem dX5_bestSize_42 : decode cX5_bestSize 42 = .ok (.iload_n 3, 1) := by decide +kernel
theorem dX5_bestSize_43 : decode cX5_bestSize 43 = .ok (.iadd, 1) := by decide +kernel
theorem dX5_bestSize_44 : decode cX5_bestSize 44 = .ok (.iconst 1, 1) := by decide +kernel
theorem dX5_bestSize_45 : decode cX5_bestSize 45 = .ok (.isub, 1) := by decide +kernel
theorem dX5_bestSize_46 : decode cX5_bestSize 46 = .ok (.dup2, 1) := by decide +kernel
theorem dX5_bestSize_47 : decode cX5_bestSize 47 = .ok (.iaload, 1) := by decide +kernel
theorem dX5_bestSize_48 : decode cX5_bestSize 48 = .ok (.iconst 1, 1) := by decide +kernel
theorem dX5_bestSize_49 : decode cX5_bestSize 49 = .ok (.isub, 1) := by decide +kernel
theorem dX5_bestSize_50 : decode cX5_bestSize 50 = .ok (.iastore, 1) := by decide +kernel
theorem dX5_bestSize_51 : decode cX5_bestSize 51 = .ok (.iload 4, 2) := by decide +kernel
theorem dX5_bestSize_53 : decode cX5_bestSize 53 = .ok (.iload_n 2, 1) := by decide +kernel
theorem dX5_bestSize_54 : decode cX5_bestSize 54 = .ok (.if_icmp .le 7, 3) := by decide +kernel
theorem dX5_bestSize_57 : decode cX5_bestSize 57 = .ok (.iload_n 3, 1) := by decide +kernel
theorem dX5_bestSize_58 : decode cX5_bestSize 58 = .ok (.goto 4, 3) := by decide +kernel
theorem dX5_bestSize_61 : decode cX5_bestSize 61 = .ok (.iload_n 1, 1) := by decide +kernel
theorem dX5_bestSize_62 : decode cX5_bestSize 62 = .ok (.istore_n 1, 1) := by decide +kernel
theorem dX5_bestSize_63 : decode cX5_bestSize 63 = .ok (.iload 4, 2) := by decide +kernel
theorem dX5_bestSize_65 : decode cX5_bestSize 65 = .ok (.iload_n 2, 1) := by decide +kernel
theorem dX5_bestSize_66 : decode cX5_bestSize 66 = .ok (.if_icmp .le 8, 3) := by decide +kernel
theorem dX5_bestSize_69 : decode cX5_bestSize 69 = .ok (.iload 4, 2) := by decide +kernel
theorem dX5_bestSize_71 : decode cX5_bestSize 71 = .ok (.goto 4, 3) := by decide +kernel
theorem dX5_bestSize_74 : decode cX5_bestSize 74 = .ok (.iload_n 2, 1) := by decide +kernel
theorem dX5_bestSize_75 : decode cX5_bestSize 75 = .ok (.istore_n 2, 1) := by decide +kernel
theorem dX5_bestSize_76 : decode cX5_bestSize 76 = .ok (.iinc 3 1, 3) := by decide +kernel
theorem dX5_bestSize_79 : decode cX5_bestSize 79 = .ok (.goto (-70), 3) := by decide +kernel
theorem dX5_bestSize_82 : decode cX5_bestSize 82 = .ok (.aload_n 0, 1) := by decide +kernel
theorem dX5_bestSize_83 : decode cX5_bestSize 83 = .ok (.iload_n 1, 1) := by decide +kernel
theorem dX5_bestSize_84 : decode cX5_bestSize 84 = .ok (.invokevirtual 82, 3) := by decide +kernel
theorem dX5_bestSize_87 : decode cX5_bestSize 87 = .ok (.ireturn, 1) := by decide +kernel
theorem dX5_share__0 : decode cX5_share_ 0 = .ok (.aload_n 0, 1) := by decide +kernel
theorem dX5_share__1 : decode cX5_share_ 1 = .ok (.iconst 0, 1) := by decide +kernel
theorem dX5_share__2 : decode cX5_share_ 2 = .ok (.putfield 44, 3) := by decide +kernel
theorem dX5_share__5 : decode cX5_share_ 5 = .ok (.iconst 0, 1) := by decide +kernel
theorem dX5_share__6 : decode cX5_share_ 6 = .ok (.istore_n 1, 1) := by decide +kernel
theorem dX5_share__7 : decode cX5_share_ 7 = .ok (.iconst 0, 1) := by decide +kernel
theorem dX5_share__8 : decode cX5_share_ 8 = .ok (.istore_n 2, 1) := by decide +kernel
theorem dX5_share__9 : decode cX5_share_ 9 = .ok (.iload_n 2, 1) := by decide +kernel
theorem dX5_share__10 : decode cX5_share_ 10 = .ok (.bipush 64, 2) := by decide +kernel
theorem dX5_share__12 : decode cX5_share_ 12 = .ok (.if_icmp .ge 30, 3) := by decide +kernel
theorem dX5_share__15 : decode cX5_share_ 15 = .ok (.iload_n 1, 1) := by decide +kernel
theorem dX5_share__16 : decode cX5_share_ 16 = .ok (.aload_n 0, 1) := by decide +kernel
theorem dX5_share__17 : decode cX5_share_ 17 = .ok (.getfield 7, 3) := by decide +kernel
theorem dX5_share__20 : decode cX5_share_ 20 = .ok (.bipush 28, 2) := by decide +kernel
theorem dX5_share__22 : decode cX5_share_ 22 = .ok (.iload_n 2, 1) := by decide +kernel
theorem dX5_share__23 : decode cX5_share_ 23 = .ok (.iadd, 1) := by decide +kernel
theorem dX5_share__24 : decode cX5_share_ 24 = .ok (.iaload, 1) := by decide +kernel
theorem dX5_share__25 : decode cX5_share_ 25 = .ok (.iconst (-1), 1) := by decide +kernel
theorem dX5_share__26 : decode cX5_share_ 26 = .ok (.if_icmp .ne 7, 3) := by decide +kernel
theorem dX5_share__29 : decode cX5_share_ 29 = .ok (.iconst 0, 1) := by decide +kernel
theorem dX5_share__30 : decode cX5_share_ 30 = .ok (.goto 4, 3) := by decide +kernel
theorem dX5_share__33 : decode cX5_share_ 33 = .ok (.iconst 1, 1) := by decide +kernel
theorem dX5_share__34 : decode cX5_share_ 34 = .ok (.iadd, 1) := by decide +kernel
theorem dX5_share__35 : decode cX5_share_ 35 = .ok (.istore_n 1, 1) := by decide +kernel
theorem dX5_share__36 : decode cX5_share_ 36 = .ok (.iinc 2 1, 3) := by decide +kernel
theorem dX5_share__39 : decode cX5_share_ 39 = .ok (.goto (-30), 3) := by decide +kernel
theorem dX5_share__42 : decode cX5_share_ 42 = .ok (.iload_n 1, 1) := by decide +kernel
theorem dX5_share__43 : decode cX5_share_ 43 = .ok (.i2d, 1) := by decide +kernel
theorem dX5_share__44 : decode cX5_share_ 44 = .ok (.dstore_n 2, 1) := by decide +kernel
theorem dX5_share__45 : decode cX5_share_ 45 = .ok (.aload_n 0, 1) := by decide +kernel
theorem dX5_share__46 : decode cX5_share_ 46 = .ok (.getfield 7, 3) := by decide +kernel
theorem dX5_share__49 : decode cX5_share_ 49 = .ok (.iconst 0, 1) := by decide +kernel
theorem dX5_share__50 : decode cX5_share_ 50 = .ok (.iaload, 1) := by decide +kernel
theorem dX5_share__51 : decode cX5_share_ 51 = .ok (.aload_n 0, 1) := by decide +kernel
theorem dX5_share__52 : decode cX5_share_ 52 = .ok (.getfield 7, 3) := by decide +kernel
theorem dX5_share__55 : decode cX5_share_ 55 = .ok (.iconst 1, 1) := by decide +kernel
theorem dX5_share__56 : decode cX5_share_ 56 = .ok (.iaload, 1) := by decide +kernel
theorem dX5_share__57 : decode cX5_share_ 57 = .ok (.imul, 1) := by decide +kernel
theorem dX5_share__58 : decode cX5_share_ 58 = .ok (.i2d, 1) := by decide +kernel
theorem dX5_share__59 : decode cX5_share_ 59 = .ok (.dstore 4, 2) := by decide +kernel
theorem dX5_share__61 : decode cX5_share_ 61 = .ok (.aload_n 0, 1) := by decide +kernel
theorem dX5_share__62 : decode cX5_share_ 62 = .ok (.getfield 7, 3) := by decide +kernel
theorem dX5_share__65 : decode cX5_share_ 65 = .ok (.iconst 0, 1) := by decide +kernel
theorem dX5_share__66 : decode cX5_share_ 66 = .ok (.iaload, 1) := by decide +kernel
theorem dX5_share__67 : decode cX5_share_ 67 = .ok (.aload_n 0, 1) := by decide +kernel
theorem dX5_share__68 : decode cX5_share_ 68 = .ok (.getfield 7, 3) := by decide +kernel
theorem dX5_share__71 : decode cX5_share_ 71 = .ok (.iconst 1, 1) := by decide +kernel
theorem dX5_share__72 : decode cX5_share_ 72 = .ok (.iaload, 1) := by decide +kernel
theorem dX5_share__73 : decode cX5_share_ 73 = .ok (.imul, 1) := by decide +kernel
theorem dX5_share__74 : decode cX5_share_ 74 = .ok (.ifCond .ne 7, 3) := by decide +kernel
theorem dX5_share__77 : decode cX5_share_ 77 = .ok (.dconst 0, 1) := by decide +kernel
theorem dX5_share__78 : decode cX5_share_ 78 = .ok (.goto 7, 3) := by decide +kernel
theorem dX5_share__81 : decode cX5_share_ 81 = .ok (.dload_n 2, 1) := by decide +kernel
theorem dX5_share__82 : decode cX5_share_ 82 = .ok (.dload 4, 2) := by decide +kernel
theorem dX5_share__84 : decode cX5_share_ 84 = .ok (.ddiv, 1) := by decide +kernel
theorem dX5_share__85 : decode cX5_share_ 85 = .ok (.dreturn, 1) := by decide +kernel
set_option maxRecDepth 20000 in
theorem ggX5_append_X5_in : GoodIn wsX5_append wsX5_in := goodIn_r _ [7] (by decide +kernel) (by decide +kernel)
set_option maxRecDepth 20000 in
theorem gX5_append_X5_in : GoodIn wsX5_append (va_wsS RX5 55 yX5_in wsX5_in) := goodIn_app (goodIn_of _ (by decide +kernel)) ggX5_append_X5_in
set_option maxRecDepth 20000 in
theorem ggX5_append_X5_throwing : GoodIn wsX5_append wsX5_throwing := goodIn_r _ [11, 12, 17, 18, 19, 20, 21, 22, 23, 24, 25, 26, 27, 28, 29, 30, 31, 32] (by decide +kernel) (by decide +kernel)
set_option maxRecDepth 20000 in
theorem gX5_append_X5_throwing : GoodIn wsX5_append (wsV RX5 71 RX5 yX5_throwing wsX5_throwing) := goodIn_app (goodIn_of _ (by decide +kernel)) ggX5_append_X5_throwing
set_option maxRecDepth 20000 in
theorem ggX5_append_X5_fine : GoodIn wsX5_append wsX5_fine := goodIn_r _ [16, 12, 17, 18, 19, 20, 21, 22, 23, 24, 25, 26, 27, 28, 29, 30, 31, 32] (by decide +kernel) (by decide +kernel)
set_option maxRecDepth 20000 in
theorem gX5_append_X5_fine : GoodIn wsX5_append (wsV RX5 82 RX5 yX5_fine wsX5_fine) := goodIn_app (goodIn_of _ (by decide +kernel)) ggX5_append_X5_fine
theorem dX5_append_0 : decode cX5_append 0 = .ok (.iload_n 1, 1) := by decide +kernel
theorem dX5_append_1 : decode cX5_append 1 = .ok (.i2l, 1) := by decide +kernel
theorem dX5_append_2 : decode cX5_append 2 = .ok (.lconst 0, 1) := by decide +kernel
theorem dX5_append_3 : decode cX5_append 3 = .ok (.ldc2_w 169, 3) := by decide +kernel
theorem dX5_append_6 : decode cX5_append 6 = .ok (.invokestatic 55, 3) := by decide +kernel
theorem dX5_append_9 : decode cX5_append 9 = .ok (.ifCond .ne 9, 3) := by decide +kernel
theorem dX5_append_12 : decode cX5_append 12 = .ok (.aload_n 0, 1) := by decide +kernel
theorem dX5_append_13 : decode cX5_append 13 = .ok (.iconst 1, 1) := by decide +kernel
theorem dX5_append_14 : decode cX5_append 14 = .ok (.invokevirtual 71, 3) := by decide +kernel
theorem dX5_append_17 : decode cX5_append 17 = .ok (.ireturn, 1) := by decide +kernel
theorem dX5_append_18 : decode cX5_append 18 = .ok (.aload_n 0, 1) := by decide +kernel
theorem dX5_append_19 : decode cX5_append 19 = .ok (.getfield 171, 3) := by decide +kernel
theorem dX5_append_22 : decode cX5_append 22 = .ok (.bipush 100, 2) := by decide +kernel
theorem dX5_append_24 : decode cX5_append 24 = .ok (.if_icmp .ne 9, 3) := by decide +kernel
theorem dX5_append_27 : decode cX5_append 27 = .ok (.aload_n 0, 1) := by decide +kernel
theorem dX5_append_28 : decode cX5_append 28 = .ok (.iconst 2, 1) := by decide +kernel
theorem dX5_append_29 : decode cX5_append 29 = .ok (.invokevirtual 71, 3) := by decide +kernel
theorem dX5_append_32 : decode cX5_append 32 = .ok (.ireturn, 1) := by decide +kernel
theorem dX5_append_33 : decode cX5_append 33 = .ok (.aload_n 0, 1) := by decide +kernel
theorem dX5_append_34 : decode cX5_append 34 = .ok (.getfield 35, 3) := by decide +kernel
theorem dX5_append_37 : decode cX5_append 37 = .ok (.aload_n 0, 1) := by decide +kernel
theorem dX5_append_38 : decode cX5_append 38 = .ok (.getfield 171, 3) := by decide +kernel
theorem dX5_append_41 : decode cX5_append 41 = .ok (.iload_n 1, 1) := by decide +kernel
theorem dX5_append_42 : decode cX5_append 42 = .ok (.iastore, 1) := by decide +kernel
theorem dX5_append_43 : decode cX5_append 43 = .ok (.aload_n 0, 1) := by decide +kernel
theorem dX5_append_44 : decode cX5_append 44 = .ok (.dup, 1) := by decide +kernel
theorem dX5_append_45 : decode cX5_append 45 = .ok (.getfield 171, 3) := by decide +kernel
theorem dX5_append_48 : decode cX5_append 48 = .ok (.iconst 1, 1) := by decide +kernel
theorem dX5_append_49 : decode cX5_append 49 = .ok (.iadd, 1) := by decide +kernel
theorem dX5_append_50 : decode cX5_append 50 = .ok (.putfield 171, 3) := by decide +kernel
theorem dX5_append_53 : decode cX5_append 53 = .ok (.aload_n 0, 1) := by decide +kernel
theorem dX5_append_54 : decode cX5_append 54 = .ok (.aload_n 0, 1) := by decide +kernel
theorem dX5_append_55 : decode cX5_append 55 = .ok (.getfield 171, 3) := by decide +kernel
theorem dX5_append_58 : decode cX5_append 58 = .ok (.invokevirtual 82, 3) := by decide +kernel
theorem dX5_append_61 : decode cX5_append 61 = .ok (.ireturn, 1) := by decide +kernel
set_option maxRecDepth 20000 in
theorem ggX5_clearText_X5_fine : GoodIn wsX5_clearText wsX5_fine := goodIn_r _ [6, 7, 8, 9, 10, 11, 12, 13, 14, 15, 16, 17, 18, 19, 20, 21, 22, 23] (by decide +kernel) (by decide +kernel)
set_option maxRecDepth 20000 in
theorem gX5_clearText_X5_fine : GoodIn wsX5_clearText (wsV RX5 82 RX5 yX5_fine wsX5_fine) := goodIn_app (goodIn_of _ (by decide +kernel)) ggX5_clearText_X5_fine
theorem dX5_clearText_0 : decode cX5_clearText 0 = .ok (.aload_n 0, 1) := by decide +kernel
theorem dX5_clearText_1 : decode cX5_clearText 1 = .ok (.getfield 171, 3) := by decide +kernel
theorem dX5_clearText_4 : decode cX5_clearText 4 = .ok (.istore_n 1, 1) := by decide +kernel
theorem dX5_clearText_5 : decode cX5_clearText 5 = .ok (.aload_n 0, 1) := by decide +kernel
theorem dX5_clearText_6 : decode cX5_clearText 6 = .ok (.iconst 0, 1) := by decide +kernel
theorem dX5_clearText_7 : decode cX5_clearText 7 = .ok (.putfield 171, 3) := by decide +kernel
theorem dX5_clearText_10 : decode cX5_clearText 10 = .ok (.aload_n 0, 1) := by decide +kernel
theorem dX5_clearText_11 : decode cX5_clearText 11 = .ok (.iload_n 1, 1) := by decide +kernel
theorem dX5_clearText_12 : decode cX5_clearText 12 = .ok (.invokevirtual 82, 3) := by decide +kernel
theorem dX5_clearText_15 : decode cX5_clearText 15 = .ok (.ireturn, 1) := by decide +kernel
theorem dX5_here_0 : decode cX5_here 0 = .ok (.aload_n 0, 1) := by decide +kernel
theorem dX5_here_1 : decode cX5_here 1 = .ok (.getfield 174, 3) := by decide +kernel
theorem dX5_here_4 : decode cX5_here 4 = .ok (.aload_n 0, 1) := by decide +kernel
theorem dX5_here_5 : decode cX5_here 5 = .ok (.getfield 171, 3) := by decide +kernel
theorem dX5_here_8 : decode cX5_here 8 = .ok (.if_icmp .ge 15, 3) := by decide +kernel
theorem dX5_here_11 : decode cX5_here 11 = .ok (.aload_n 0, 1) := by decide +kernel
theorem dX5_here_12 : decode cX5_here 12 = .ok (.getfield 35, 3) := by decide +kernel
theorem dX5_here_15 : decode cX5_here 15 = .ok (.aload_n 0, 1) := by decide +kernel
theorem dX5_here_16 : decode cX5_here 16 = .ok (.getfield 174, 3) := by decide +kernel
theorem dX5_here_19 : decode cX5_here 19 = .ok (.iaload, 1) := by decide +kernel
theorem dX5_here_20 : decode cX5_here 20 = .ok (.goto 4, 3) := by decide +kernel
theorem dX5_here_23 : decode cX5_here 23 = .ok (.iconst (-1), 1) := by decide +kernel
theorem dX5_here_24 : decode cX5_here 24 = .ok (.ireturn, 1) := by decide +kernel
set_option maxRecDepth 20000 in
theorem ggX5_passes_X5_here : GoodIn wsX5_passes wsX5_here := goodIn_r _ [6, 1, 7, 8, 9, 10, 11, 12, 13, 14, 15, 16, 17, 18, 19, 20, 21, 22, 23, 24] (by decide +kernel) (by decide +kernel)
set_option maxRecDepth 20000 in
theorem gX5_passes_X5_here : GoodIn wsX5_passes (wsV RX5 177 RX5 yX5_here wsX5_here) := goodIn_app (goodIn_of _ (by decide +kernel)) ggX5_passes_X5_here
theorem dX5_passes_0 : decode cX5_passes 0 = .ok (.aload_n 0, 1) := by decide +kernel
theorem dX5_passes_1 : decode cX5_passes 1 = .ok (.invokevirtual 177, 3) := by decide +kernel
theorem dX5_passes_4 : decode cX5_passes 4 = .ok (.iload_n 1, 1) := by decide +kernel
theorem dX5_passes_5 : decode cX5_passes 5 = .ok (.if_icmp .ne 7, 3) := by decide +kernel
theorem dX5_passes_8 : decode cX5_passes 8 = .ok (.iconst 1, 1) := by decide +kernel
theorem dX5_passes_9 : decode cX5_passes 9 = .ok (.goto 4, 3) := by decide +kernel
theorem dX5_passes_12 : decode cX5_passes 12 = .ok (.iconst 0, 1) := by decide +kernel
theorem dX5_passes_13 : decode cX5_passes 13 = .ok (.istore_n 2, 1) := by decide +kernel
theorem dX5_passes_14 : decode cX5_passes 14 = .ok (.aload_n 0, 1) := by decide +kernel
theorem dX5_passes_15 : decode cX5_passes 15 = .ok (.dup, 1) := by decide +kernel
theorem dX5_passes_16 : decode cX5_passes 16 = .ok (.getfield 174, 3) := by decide +kernel
theorem dX5_passes_19 : decode cX5_passes 19 = .ok (.iload_n 2, 1) := by decide +kernel
theorem dX5_passes_20 : decode cX5_passes 20 = .ok (.ifCond .eq 7, 3) := by decide +kernel
theorem dX5_passes_23 : decode cX5_passes 23 = .ok (.iconst 1, 1) := by decide +kernel
theorem dX5_passes_24 : decode cX5_passes 24 = .ok (.goto 4, 3) := by decide +kernel
theorem dX5_passes_27 : decode cX5_passes 27 = .ok (.iconst 0, 1) := by decide +kernel
theorem dX5_passes_28 : decode cX5_passes 28 = .ok (.iadd, 1) := by decide +kernel
theorem dX5_passes_29 : decode cX5_passes 29 = .ok (.putfield 174, 3) := by decide +kernel
theorem dX5_passes_32 : decode cX5_passes 32 = .ok (.iload_n 2, 1) := by decide +kernel
theorem dX5_passes_33 : decode cX5_passes 33 = .ok (.ireturn, 1) := by decide +kernel
set_option maxRecDepth 20000 in
theorem ggX5_readsTokens_X5_here : GoodIn wsX5_readsTokens wsX5_here := goodIn_r _ [10, 1, 11, 12, 20, 21, 22, 23, 24, 25, 26, 27, 28, 29, 30, 31, 32, 33, 34, 35] (by decide +kernel) (by decide +kernel)
set_option maxRecDepth 20000 in
theorem gX5_readsTokens_X5_here : GoodIn wsX5_readsTokens (wsV RX5 177 RX5 yX5_here wsX5_here) := goodIn_app (goodIn_of _ (by decide +kernel)) ggX5_readsTokens_X5_here
set_option maxRecDepth 20000 in
theorem ggX5_readsTokens_X5_in : GoodIn wsX5_readsTokens wsX5_in := goodIn_r _ [15] (by decide +kernel) (by decide +kernel)
set_option maxRecDepth 20000 in
theorem gX5_readsTokens_X5_in : GoodIn wsX5_readsTokens (va_wsS RX5 55 yX5_in wsX5_in) := goodIn_app (goodIn_of _ (by decide +kernel)) ggX5_readsTokens_X5_in
set_option maxRecDepth 20000 in
theorem ggX5_readsTokens_X5_passes : GoodIn wsX5_readsTokens wsX5_passes := goodIn_r _ [19, 1, 6, 7, 8, 9, 10, 11, 12, 20, 21, 22, 23, 24, 25, 26, 27, 28, 29, 30, 31, 32, 33, 34, 35] (by decide +kernel) (by decide +kernel)
set_option maxRecDepth 20000 in
theorem gX5_readsTokens_X5_passes : GoodIn wsX5_readsTokens (wsV RX5 187 RX5 yX5_passes wsX5_passes) := goodIn_app (goodIn_of _ (by decide +kernel)) ggX5_readsTokens_X5_passes
theorem dX5_readsTokens_0 : decode cX5_readsTokens 0 = .ok (.aload_n 0, 1) := by decide +kernel
theorem dX5_readsTokens_1 : decode cX5_readsTokens 1 = .ok (.getfield 174, 3) := by decide +kernel
theorem dX5_readsTokens_4 : decode cX5_readsTokens 4 = .ok (.istore_n 1, 1) := by decide +kernel
theorem dX5_readsTokens_5 : decode cX5_readsTokens 5 = .ok (.iconst 0, 1) := by decide +kernel
theorem dX5_readsTokens_6 : decode cX5_readsTokens 6 = .ok (.istore_n 2, 1) := by decide +kernel
theorem dX5_readsTokens_7 : decode cX5_readsTokens 7 = .ok (.aload_n 0, 1) := by decide +kernel
theorem dX5_readsTokens_8 : decode cX5_readsTokens 8 = .ok (.invokevirtual 177, 3) := by decide +kernel
theorem dX5_readsTokens_11 : decode cX5_readsTokens 11 = .ok (.i2l, 1) := by decide +kernel
theorem dX5_readsTokens_12 : decode cX5_readsTokens 12 = .ok (.ldc2_w 180, 3) := by decide +kernel
theorem dX5_readsTokens_15 : decode cX5_readsTokens 15 = .ok (.ldc2_w 182, 3) := by decide +kernel
theorem dX5_readsTokens_18 : decode cX5_readsTokens 18 = .ok (.invokestatic 55, 3) := by decide +kernel
theorem dX5_readsTokens_21 : decode cX5_readsTokens 21 = .ok (.ifCond .eq 39, 3) := by decide +kernel
theorem dX5_readsTokens_24 : decode cX5_readsTokens 24 = .ok (.aload_n 0, 1) := by decide +kernel
theorem dX5_readsTokens_25 : decode cX5_readsTokens 25 = .ok (.getfield 174, 3) := by decide +kernel
theorem dX5_readsTokens_28 : decode cX5_readsTokens 28 = .ok (.iload_n 1, 1) := by decide +kernel
theorem dX5_readsTokens_29 : decode cX5_readsTokens 29 = .ok (.iconst 2, 1) := by decide +kernel
theorem dX5_readsTokens_30 : decode cX5_readsTokens 30 = .ok (.iadd, 1) := by decide +kernel
theorem dX5_readsTokens_31 : decode cX5_readsTokens 31 = .ok (.if_icmp .ge 29, 3) := by decide +kernel
theorem dX5_readsTokens_34 : decode cX5_readsTokens 34 = .ok (.bipush 10, 2) := by decide +kernel
theorem dX5_readsTokens_36 : decode cX5_readsTokens 36 = .ok (.iload_n 2, 1) := by decide +kernel
theorem dX5_readsTokens_37 : decode cX5_readsTokens 37 = .ok (.imul, 1) := by decide +kernel
theorem dX5_readsTokens_38 : decode cX5_readsTokens 38 = .ok (.aload_n 0, 1) := by decide +kernel
theorem dX5_readsTokens_39 : decode cX5_readsTokens 39 = .ok (.invokevirtual 177, 3) := by decide +kernel
theorem dX5_readsTokens_42 : decode cX5_readsTokens 42 = .ok (.iadd, 1) := by decide +kernel
theorem dX5_readsTokens_43 : decode cX5_readsTokens 43 = .ok (.bipush 48, 2) := by decide +kernel
theorem dX5_readsTokens_45 : decode cX5_readsTokens 45 = .ok (.isub, 1) := by decide +kernel
theorem dX5_readsTokens_46 : decode cX5_readsTokens 46 = .ok (.istore_n 2, 1) := by decide +kernel
theorem dX5_readsTokens_47 : decode cX5_readsTokens 47 = .ok (.aload_n 0, 1) := by decide +kernel
theorem dX5_readsTokens_48 : decode cX5_readsTokens 48 = .ok (.dup, 1) := by decide +kernel
theorem dX5_readsTokens_49 : decode cX5_readsTokens 49 = .ok (.getfield 174, 3) := by decide +kernel
theorem dX5_readsTokens_52 : decode cX5_readsTokens 52 = .ok (.iconst 1, 1) := by decide +kernel
theorem dX5_readsTokens_53 : decode cX5_readsTokens 53 = .ok (.iadd, 1) := by decide +kernel
theorem dX5_readsTokens_54 : decode cX5_readsTokens 54 = .ok (.putfield 174, 3) := by decide +kernel
theorem dX5_readsTokens_57 : decode cX5_readsTokens 57 = .ok (.goto (-50), 3) := by decide +kernel
theorem dX5_readsTokens_60 : decode cX5_readsTokens 60 = .ok (.aload_n 0, 1) := by decide +kernel
theorem dX5_readsTokens_61 : decode cX5_readsTokens 61 = .ok (.getfield 38, 3) := by decide +kernel
theorem dX5_readsTokens_64 : decode cX5_readsTokens 64 = .ok (.iconst 4, 1) := by decide +kernel
theorem dX5_readsTokens_65 : decode cX5_readsTokens 65 = .ok (.aload_n 0, 1) := by decide +kernel
theorem dX5_readsTokens_66 : decode cX5_readsTokens 66 = .ok (.getfield 184, 3) := by decide +kernel
theorem dX5_readsTokens_69 : decode cX5_readsTokens 69 = .ok (.imul, 1) := by decide +kernel
theorem dX5_readsTokens_70 : decode cX5_readsTokens 70 = .ok (.iconst 1, 1) := by decide +kernel
theorem dX5_readsTokens_71 : decode cX5_readsTokens 71 = .ok (.iadd, 1) := by decide +kernel
theorem dX5_readsTokens_72 : decode cX5_readsTokens 72 = .ok (.iload_n 2, 1) := by decide +kernel
theorem dX5_readsTokens_73 : decode cX5_readsTokens 73 = .ok (.iastore, 1) := by decide +kernel
theorem dX5_readsTokens_74 : decode cX5_readsTokens 74 = .ok (.aload_n 0, 1) := by decide +kernel
theorem dX5_readsTokens_75 : decode cX5_readsTokens 75 = .ok (.getfield 174, 3) := by decide +kernel
theorem dX5_readsTokens_78 : decode cX5_readsTokens 78 = .ok (.iload_n 1, 1) := by decide +kernel
theorem dX5_readsTokens_79 : decode cX5_readsTokens 79 = .ok (.if_icmp .le 16, 3) := by decide +kernel
theorem dX5_readsTokens_82 : decode cX5_readsTokens 82 = .ok (.aload_n 0, 1) := by decide +kernel
theorem dX5_readsTokens_83 : decode cX5_readsTokens 83 = .ok (.bipush 44, 2) := by decide +kernel
theorem dX5_readsTokens_85 : decode cX5_readsTokens 85 = .ok (.invokevirtual 187, 3) := by decide +kernel
theorem dX5_readsTokens_88 : decode cX5_readsTokens 88 = .ok (.ifCond .eq 7, 3) := by decide +kernel
theorem dX5_readsTokens_91 : decode cX5_readsTokens 91 = .ok (.iconst 1, 1) := by decide +kernel
theorem dX5_readsTokens_92 : decode cX5_readsTokens 92 = .ok (.goto 4, 3) := by decide +kernel
theorem dX5_readsTokens_95 : decode cX5_readsTokens 95 = .ok (.iconst 0, 1) := by decide +kernel
theorem dX5_readsTokens_96 : decode cX5_readsTokens 96 = .ok (.ireturn, 1) := by decide +kernel
set_option maxRecDepth 20000 in
theorem ggX5_readsGuest_X5_here : GoodIn wsX5_readsGuest wsX5_here := goodIn_r _ [11, 3, 12, 13, 26, 27, 28, 29, 30, 31, 32, 33, 34, 35, 36, 37, 38, 39, 40, 41] (by decide +kernel) (by decide +kernel)
set_option maxRecDepth 20000 in
theorem gX5_readsGuest_X5_here : GoodIn wsX5_readsGuest (wsV RX5 177 RX5 yX5_here wsX5_here) := goodIn_app (goodIn_of _ (by decide +kernel)) ggX5_readsGuest_X5_here
set_option maxRecDepth 20000 in
theorem ggX5_readsGuest_X5_readsTokens : GoodIn wsX5_readsGuest wsX5_readsTokens := goodIn_r _ [17, 3, 18, 5, 6, 2, 7, 8, 9, 10, 11, 12, 13, 19, 20, 21, 22, 23, 24, 25, 26, 27, 28, 29, 30, 31, 32, 33, 34, 35, 36, 37, 38, 39, 40, 41] (by decide +kernel) (by decide +kernel)
set_option maxRecDepth 20000 in
theorem gX5_readsGuest_X5_readsTokens : GoodIn wsX5_readsGuest (wsV RX5 193 RX5 yX5_readsTokens wsX5_readsTokens) := goodIn_app (goodIn_of _ (by decide +kernel)) ggX5_readsGuest_X5_readsTokens
set_option maxRecDepth 20000 in
theorem ggX5_readsGuest_X5_in : GoodIn wsX5_readsGuest wsX5_in := goodIn_r _ [21] (by decide +kernel) (by decide +kernel)
set_option maxRecDepth 20000 in
theorem gX5_readsGuest_X5_in : GoodIn wsX5_readsGuest (va_wsS RX5 55 yX5_in wsX5_in) := goodIn_app (goodIn_of _ (by decide +kernel)) ggX5_readsGuest_X5_in
set_option maxRecDepth 20000 in
theorem ggX5_readsGuest_X5_passes : GoodIn wsX5_readsGuest wsX5_passes := goodIn_r _ [25, 3, 7, 8, 9, 10, 11, 12, 13, 26, 27, 28, 29, 30, 31, 32, 33, 34, 35, 36, 37, 38, 39, 40, 41] (by decide +kernel) (by decide +kernel)
set_option maxRecDepth 20000 in
theorem gX5_readsGuest_X5_passes : GoodIn wsX5_readsGuest (wsV RX5 187 RX5 yX5_passes wsX5_passes) := goodIn_app (goodIn_of _ (by decide +kernel)) ggX5_readsGuest_X5_passes
theorem dX5_readsGuest_0 : decode cX5_readsGuest 0 = .ok (.aload_n 0, 1) := by decide +kernel
theorem dX5_readsGuest_1 : decode cX5_readsGuest 1 = .ok (.invokevirtual 177, 3) := by decide +kernel
theorem dX5_readsGuest_4 : decode cX5_readsGuest 4 = .ok (.bipush 108, 2) := by decide +kernel
theorem dX5_readsGuest_6 : decode cX5_readsGuest 6 = .ok (.if_icmp .ne 7, 3) := by decide +kernel
theorem dX5_readsGuest_9 : decode cX5_readsGuest 9 = .ok (.iconst 1, 1) := by decide +kernel
theorem dX5_readsGuest_10 : decode cX5_readsGuest 10 = .ok (.goto 4, 3) := by decide +kernel
theorem dX5_readsGuest_13 : decode cX5_readsGuest 13 = .ok (.iconst 0, 1) := by decide +kernel
theorem dX5_readsGuest_14 : decode cX5_readsGuest 14 = .ok (.istore_n 1, 1) := by decide +kernel
theorem dX5_readsGuest_15 : decode cX5_readsGuest 15 = .ok (.iload_n 1, 1) := by decide +kernel
theorem dX5_readsGuest_16 : decode cX5_readsGuest 16 = .ok (.ifCond .eq 10, 3) := by decide +kernel
theorem dX5_readsGuest_19 : decode cX5_readsGuest 19 = .ok (.aload_n 0, 1) := by decide +kernel
theorem dX5_readsGuest_20 : decode cX5_readsGuest 20 = .ok (.getfield 190, 3) := by decide +kernel
theorem dX5_readsGuest_23 : decode cX5_readsGuest 23 = .ok (.goto 12, 3) := by decide +kernel
theorem dX5_readsGuest_26 : decode cX5_readsGuest 26 = .ok (.aload_n 0, 1) := by decide +kernel
theorem dX5_readsGuest_27 : decode cX5_readsGuest 27 = .ok (.getfield 184, 3) := by decide +kernel
theorem dX5_readsGuest_30 : decode cX5_readsGuest 30 = .ok (.aload_n 0, 1) := by decide +kernel
theorem dX5_readsGuest_31 : decode cX5_readsGuest 31 = .ok (.getfield 190, 3) := by decide +kernel
theorem dX5_readsGuest_34 : decode cX5_readsGuest 34 = .ok (.isub, 1) := by decide +kernel
theorem dX5_readsGuest_35 : decode cX5_readsGuest 35 = .ok (.bipush 8, 2) := by decide +kernel
theorem dX5_readsGuest_37 : decode cX5_readsGuest 37 = .ok (.if_icmp .ge 7, 3) := by decide +kernel
theorem dX5_readsGuest_40 : decode cX5_readsGuest 40 = .ok (.iconst 1, 1) := by decide +kernel
theorem dX5_readsGuest_41 : decode cX5_readsGuest 41 = .ok (.goto 4, 3) := by decide +kernel
theorem dX5_readsGuest_44 : decode cX5_readsGuest 44 = .ok (.iconst 0, 1) := by decide +kernel
theorem dX5_readsGuest_45 : decode cX5_readsGuest 45 = .ok (.istore_n 2, 1) := by decide +kernel
theorem dX5_readsGuest_46 : decode cX5_readsGuest 46 = .ok (.iload_n 1, 1) := by decide +kernel
theorem dX5_readsGuest_47 : decode cX5_readsGuest 47 = .ok (.ifCond .ne 12, 3) := by decide +kernel
theorem dX5_readsGuest_50 : decode cX5_readsGuest 50 = .ok (.aload_n 0, 1) := by decide +kernel
theorem dX5_readsGuest_51 : decode cX5_readsGuest 51 = .ok (.invokevirtual 177, 3) := by decide +kernel
theorem dX5_readsGuest_54 : decode cX5_readsGuest 54 = .ok (.bipush 102, 2) := by decide +kernel
theorem dX5_readsGuest_56 : decode cX5_readsGuest 56 = .ok (.if_icmp .ne 7, 3) := by decide +kernel
theorem dX5_readsGuest_59 : decode cX5_readsGuest 59 = .ok (.iload_n 2, 1) := by decide +kernel
theorem dX5_readsGuest_60 : decode cX5_readsGuest 60 = .ok (.ifCond .ne 5, 3) := by decide +kernel
theorem dX5_readsGuest_63 : decode cX5_readsGuest 63 = .ok (.iconst 0, 1) := by decide +kernel
theorem dX5_readsGuest_64 : decode cX5_readsGuest 64 = .ok (.ireturn, 1) := by decide +kernel
theorem dX5_readsGuest_65 : decode cX5_readsGuest 65 = .ok (.aload_n 0, 1) := by decide +kernel
theorem dX5_readsGuest_66 : decode cX5_readsGuest 66 = .ok (.dup, 1) := by decide +kernel
theorem dX5_readsGuest_67 : decode cX5_readsGuest 67 = .ok (.getfield 174, 3) := by decide +kernel
theorem dX5_readsGuest_70 : decode cX5_readsGuest 70 = .ok (.iconst 1, 1) := by decide +kernel
theorem dX5_readsGuest_71 : decode cX5_readsGuest 71 = .ok (.iadd, 1) := by decide +kernel
theorem dX5_readsGuest_72 : decode cX5_readsGuest 72 = .ok (.putfield 174, 3) := by decide +kernel
theorem dX5_readsGuest_75 : decode cX5_readsGuest 75 = .ok (.aload_n 0, 1) := by decide +kernel
theorem dX5_readsGuest_76 : decode cX5_readsGuest 76 = .ok (.invokevirtual 193, 3) := by decide +kernel
theorem dX5_readsGuest_79 : decode cX5_readsGuest 79 = .ok (.ifCond .eq 20, 3) := by decide +kernel
theorem dX5_readsGuest_82 : decode cX5_readsGuest 82 = .ok (.aload_n 0, 1) := by decide +kernel
theorem dX5_readsGuest_83 : decode cX5_readsGuest 83 = .ok (.invokevirtual 177, 3) := by decide +kernel
theorem dX5_readsGuest_86 : decode cX5_readsGuest 86 = .ok (.i2l, 1) := by decide +kernel
theorem dX5_readsGuest_87 : decode cX5_readsGuest 87 = .ok (.ldc2_w 196, 3) := by decide +kernel
theorem dX5_readsGuest_90 : decode cX5_readsGuest 90 = .ok (.ldc2_w 182, 3) := by decide +kernel
theorem dX5_readsGuest_93 : decode cX5_readsGuest 93 = .ok (.invokestatic 55, 3) := by decide +kernel
theorem dX5_readsGuest_96 : decode cX5_readsGuest 96 = .ok (.ifCond .ne 5, 3) := by decide +kernel
theorem dX5_readsGuest_99 : decode cX5_readsGuest 99 = .ok (.iconst 0, 1) := by decide +kernel
theorem dX5_readsGuest_100 : decode cX5_readsGuest 100 = .ok (.ireturn, 1) := by decide +kernel
theorem dX5_readsGuest_101 : decode cX5_readsGuest 101 = .ok (.aload_n 0, 1) := by decide +kernel
theorem dX5_readsGuest_102 : decode cX5_readsGuest 102 = .ok (.getfield 38, 3) := by decide +kernel
theorem dX5_readsGuest_105 : decode cX5_readsGuest 105 = .ok (.iconst 4, 1) := by decide +kernel
theorem dX5_readsGuest_106 : decode cX5_readsGuest 106 = .ok (.aload_n 0, 1) := by decide +kernel
theorem dX5_readsGuest_107 : decode cX5_readsGuest 107 = .ok (.getfield 184, 3) := by decide +kernel
theorem dX5_readsGuest_110 : decode cX5_readsGuest 110 = .ok (.imul, 1) := by decide +kernel
theorem dX5_readsGuest_111 : decode cX5_readsGuest 111 = .ok (.iload_n 1, 1) := by decide +kernel
theorem dX5_readsGuest_112 : decode cX5_readsGuest 112 = .ok (.ifCond .eq 7, 3) := by decide +kernel
theorem dX5_readsGuest_115 : decode cX5_readsGuest 115 = .ok (.iconst 1, 1) := by decide +kernel
theorem dX5_readsGuest_116 : decode cX5_readsGuest 116 = .ok (.goto 4, 3) := by decide +kernel
theorem dX5_readsGuest_119 : decode cX5_readsGuest 119 = .ok (.iconst 0, 1) := by decide +kernel
theorem dX5_readsGuest_120 : decode cX5_readsGuest 120 = .ok (.iastore, 1) := by decide +kernel
theorem dX5_readsGuest_121 : decode cX5_readsGuest 121 = .ok (.aload_n 0, 1) := by decide +kernel
theorem dX5_readsGuest_122 : decode cX5_readsGuest 122 = .ok (.getfield 38, 3) := by decide +kernel
theorem dX5_readsGuest_125 : decode cX5_readsGuest 125 = .ok (.iconst 4, 1) := by decide +kernel
theorem dX5_readsGuest_126 : decode cX5_readsGuest 126 = .ok (.aload_n 0, 1) := by decide +kernel
theorem dX5_readsGuest_127 : decode cX5_readsGuest 127 = .ok (.getfield 184, 3) := by decide +kernel
theorem dX5_readsGuest_130 : decode cX5_readsGuest 130 = .ok (.imul, 1) := by decide +kernel
theorem dX5_readsGuest_131 : decode cX5_readsGuest 131 = .ok (.iconst 2, 1) := by decide +kernel
theorem dX5_readsGuest_132 : decode cX5_readsGuest 132 = .ok (.iadd, 1) := by decide +kernel
theorem dX5_readsGuest_133 : decode cX5_readsGuest 133 = .ok (.aload_n 0, 1) := by decide +kernel
theorem dX5_readsGuest_134 : decode cX5_readsGuest 134 = .ok (.invokevirtual 177, 3) := by decide +kernel
theorem dX5_readsGuest_137 : decode cX5_readsGuest 137 = .ok (.bipush 48, 2) := by decide +kernel
theorem dX5_readsGuest_139 : decode cX5_readsGuest 139 = .ok (.isub, 1) := by decide +kernel
theorem dX5_readsGuest_140 : decode cX5_readsGuest 140 = .ok (.iastore, 1) := by decide +kernel
theorem dX5_readsGuest_141 : decode cX5_readsGuest 141 = .ok (.aload_n 0, 1) := by decide +kernel
theorem dX5_readsGuest_142 : decode cX5_readsGuest 142 = .ok (.dup, 1) := by decide +kernel
theorem dX5_readsGuest_143 : decode cX5_readsGuest 143 = .ok (.getfield 174, 3) := by decide +kernel
theorem dX5_readsGuest_146 : decode cX5_readsGuest 146 = .ok (.iconst 1, 1) := by decide +kernel
theorem dX5_readsGuest_147 : decode cX5_readsGuest 147 = .ok (.iadd, 1) := by decide +kernel
theorem dX5_readsGuest_148 : decode cX5_readsGuest 148 = .ok (.putfield 174, 3) := by decide +kernel
theorem dX5_readsGuest_151 : decode cX5_readsGuest 151 = .ok (.aload_n 0, 1) := by decide +kernel
theorem dX5_readsGuest_152 : decode cX5_readsGuest 152 = .ok (.getfield 38, 3) := by decide +kernel
theorem dX5_readsGuest_155 : decode cX5_readsGuest 155 = .ok (.iconst 4, 1) := by decide +kernel
theorem dX5_readsGuest_156 : decode cX5_readsGuest 156 = .ok (.aload_n 0, 1) := by decide +kernel
theorem dX5_readsGuest_157 : decode cX5_readsGuest 157 = .ok (.getfield 184, 3) := by decide +kernel
theorem dX5_readsGuest_160 : decode cX5_readsGuest 160 = .ok (.imul, 1) := by decide +kernel
theorem dX5_readsGuest_161 : decode cX5_readsGuest 161 = .ok (.iconst 3, 1) := by decide +kernel
theorem dX5_readsGuest_162 : decode cX5_readsGuest 162 = .ok (.iadd, 1) := by decide +kernel
theorem dX5_readsGuest_163 : decode cX5_readsGuest 163 = .ok (.aload_n 0, 1) := by decide +kernel
theorem dX5_readsGuest_164 : decode cX5_readsGuest 164 = .ok (.bipush 45, 2) := by decide +kernel
theorem dX5_readsGuest_166 : decode cX5_readsGuest 166 = .ok (.invokevirtual 187, 3) := by decide +kernel
theorem dX5_readsGuest_169 : decode cX5_readsGuest 169 = .ok (.ifCond .eq 7, 3) := by decide +kernel
theorem dX5_readsGuest_172 : decode cX5_readsGuest 172 = .ok (.iconst 0, 1) := by decide +kernel
theorem dX5_readsGuest_173 : decode cX5_readsGuest 173 = .ok (.goto 4, 3) := by decide +kernel
theorem dX5_readsGuest_176 : decode cX5_readsGuest 176 = .ok (.iconst 1, 1) := by decide +kernel
theorem dX5_readsGuest_177 : decode cX5_readsGuest 177 = .ok (.iastore, 1) := by decide +kernel
theorem dX5_readsGuest_178 : decode cX5_readsGuest 178 = .ok (.aload_n 0, 1) := by decide +kernel
theorem dX5_readsGuest_179 : decode cX5_readsGuest 179 = .ok (.bipush 59, 2) := by decide +kernel
theorem dX5_readsGuest_181 : decode cX5_readsGuest 181 = .ok (.invokevirtual 187, 3) := by decide +kernel
theorem dX5_readsGuest_184 : decode cX5_readsGuest 184 = .ok (.ifCond .ne 5, 3) := by decide +kernel
theorem dX5_readsGuest_187 : decode cX5_readsGuest 187 = .ok (.iconst 0, 1) := by decide +kernel
theorem dX5_readsGuest_188 : decode cX5_readsGuest 188 = .ok (.ireturn, 1) := by decide +kernel
theorem dX5_readsGuest_189 : decode cX5_readsGuest 189 = .ok (.aload_n 0, 1) := by decide +kernel
theorem dX5_readsGuest_190 : decode cX5_readsGuest 190 = .ok (.dup, 1) := by decide +kernel
theorem dX5_readsGuest_191 : decode cX5_readsGuest 191 = .ok (.getfield 184, 3) := by decide +kernel
theorem dX5_readsGuest_194 : decode cX5_readsGuest 194 = .ok (.iconst 1, 1) := by decide +kernel
theorem dX5_readsGuest_195 : decode cX5_readsGuest 195 = .ok (.iadd, 1) := by decide +kernel
theorem dX5_readsGuest_196 : decode cX5_readsGuest 196 = .ok (.putfield 184, 3) := by decide +kernel
theorem dX5_readsGuest_199 : decode cX5_readsGuest 199 = .ok (.aload_n 0, 1) := by decide +kernel
theorem dX5_readsGuest_200 : decode cX5_readsGuest 200 = .ok (.dup, 1) := by decide +kernel
theorem dX5_readsGuest_201 : decode cX5_readsGuest 201 = .ok (.getfield 190, 3) := by decide +kernel
theorem dX5_readsGuest_204 : decode cX5_readsGuest 204 = .ok (.iload_n 1, 1) := by decide +kernel
theorem dX5_readsGuest_205 : decode cX5_readsGuest 205 = .ok (.ifCond .eq 7, 3) := by decide +kernel
theorem dX5_readsGuest_208 : decode cX5_readsGuest 208 = .ok (.iconst 1, 1) := by decide +kernel
theorem dX5_readsGuest_209 : decode cX5_readsGuest 209 = .ok (.goto 4, 3) := by decide +kernel
theorem dX5_readsGuest_212 : decode cX5_readsGuest 212 = .ok (.iconst 0, 1) := by decide +kernel
theorem dX5_readsGuest_213 : decode cX5_readsGuest 213 = .ok (.iadd, 1) := by decide +kernel
theorem dX5_readsGuest_214 : decode cX5_readsGuest 214 = .ok (.putfield 190, 3) := by decide +kernel
theorem dX5_readsGuest_217 : decode cX5_readsGuest 217 = .ok (.iconst 1, 1) := by decide +kernel
theorem dX5_readsGuest_218 : decode cX5_readsGuest 218 = .ok (.ireturn, 1) := by decide +kernel
set_option maxRecDepth 20000 in
theorem ggX5_readsText_X5_readsGuest : GoodIn wsX5_readsText wsX5_readsGuest := goodIn_r _ [9, 3, 2, 1, 10, 11, 12, 13, 14, 15, 8, 16, 4, 17, 18, 19, 20, 21, 22, 23, 24, 25, 26, 27, 28, 29, 30, 31, 32, 33, 34, 35, 36, 37, 38, 39, 40, 41, 42, 43, 44, 45] (by decide +kernel) (by decide +kernel)
set_option maxRecDepth 20000 in
theorem gX5_readsText_X5_readsGuest : GoodIn wsX5_readsText (wsV RX5 198 RX5 yX5_readsGuest wsX5_readsGuest) := goodIn_app (goodIn_of _ (by decide +kernel)) ggX5_readsText_X5_readsGuest
theorem dX5_readsText_0 : decode cX5_readsText 0 = .ok (.aload_n 0, 1) := by decide +kernel
theorem dX5_readsText_1 : decode cX5_readsText 1 = .ok (.iconst 0, 1) := by decide +kernel
theorem dX5_readsText_2 : decode cX5_readsText 2 = .ok (.putfield 174, 3) := by decide +kernel
theorem dX5_readsText_5 : decode cX5_readsText 5 = .ok (.aload_n 0, 1) := by decide +kernel
theorem dX5_readsText_6 : decode cX5_readsText 6 = .ok (.iconst 0, 1) := by decide +kernel
theorem dX5_readsText_7 : decode cX5_readsText 7 = .ok (.putfield 184, 3) := by decide +kernel
theorem dX5_readsText_10 : decode cX5_readsText 10 = .ok (.aload_n 0, 1) := by decide +kernel
theorem dX5_readsText_11 : decode cX5_readsText 11 = .ok (.iconst 0, 1) := by decide +kernel
theorem dX5_readsText_12 : decode cX5_readsText 12 = .ok (.putfield 190, 3) := by decide +kernel
theorem dX5_readsText_15 : decode cX5_readsText 15 = .ok (.iconst 1, 1) := by decide +kernel
theorem dX5_readsText_16 : decode cX5_readsText 16 = .ok (.istore_n 1, 1) := by decide +kernel
theorem dX5_readsText_17 : decode cX5_readsText 17 = .ok (.iload_n 1, 1) := by decide +kernel
theorem dX5_readsText_18 : decode cX5_readsText 18 = .ok (.ifCond .eq 22, 3) := by decide +kernel
theorem dX5_readsText_21 : decode cX5_readsText 21 = .ok (.aload_n 0, 1) := by decide +kernel
theorem dX5_readsText_22 : decode cX5_readsText 22 = .ok (.getfield 174, 3) := by decide +kernel
theorem dX5_readsText_25 : decode cX5_readsText 25 = .ok (.aload_n 0, 1) := by decide +kernel
theorem dX5_readsText_26 : decode cX5_readsText 26 = .ok (.getfield 171, 3) := by decide +kernel
theorem dX5_readsText_29 : decode cX5_readsText 29 = .ok (.if_icmp .ge 11, 3) := by decide +kernel
theorem dX5_readsText_32 : decode cX5_readsText 32 = .ok (.aload_n 0, 1) := by decide +kernel
theorem dX5_readsText_33 : decode cX5_readsText 33 = .ok (.invokevirtual 198, 3) := by decide +kernel
theorem dX5_readsText_36 : decode cX5_readsText 36 = .ok (.istore_n 1, 1) := by decide +kernel
theorem dX5_readsText_37 : decode cX5_readsText 37 = .ok (.goto (-20), 3) := by decide +kernel
theorem dX5_readsText_40 : decode cX5_readsText 40 = .ok (.iload_n 1, 1) := by decide +kernel
theorem dX5_readsText_41 : decode cX5_readsText 41 = .ok (.ireturn, 1) := by decide +kernel
set_option maxRecDepth 20000 in
theorem ggX5_parse_X5_readsText : GoodIn wsX5_parse wsX5_readsText := goodIn_r _ [9, 1, 3, 10, 11, 12, 13, 14, 8, 15, 16, 17, 4, 18, 19, 20, 21, 22, 23, 24, 25, 26, 27, 28, 29, 30, 31, 32, 33, 34, 64, 65, 66, 67, 68, 69, 70, 71, 72, 73, 74, 75, 76, 77, 78, 79] (by decide +kernel) (by decide +kernel)
set_option maxRecDepth 20000 in
theorem gX5_parse_X5_readsText : GoodIn wsX5_parse (wsV RX5 201 RX5 yX5_readsText wsX5_readsText) := goodIn_app (goodIn_of _ (by decide +kernel)) ggX5_parse_X5_readsText
set_option maxRecDepth 20000 in
theorem ggX5_parse_X5_fine : GoodIn wsX5_parse wsX5_fine := goodIn_r _ [38, 39, 64, 65, 66, 67, 68, 69, 70, 71, 72, 73, 74, 75, 76, 77, 78, 79] (by decide +kernel) (by decide +kernel)
set_option maxRecDepth 20000 in
theorem gX5_parse_X5_fine : GoodIn wsX5_parse (wsV RX5 82 RX5 yX5_fine wsX5_fine) := goodIn_app (goodIn_of _ (by decide +kernel)) ggX5_parse_X5_fine
set_option maxRecDepth 20000 in
theorem ggX5_parse_X5_save : GoodIn wsX5_parse wsX5_save := goodIn_r _ [43, 44, 45, 2, 64, 65, 66, 67, 68, 69, 70, 71, 72, 73, 74, 75, 76, 77, 78, 79] (by decide +kernel) (by decide +kernel)
set_option maxRecDepth 20000 in
theorem gX5_parse_X5_save : GoodIn wsX5_parse (wsV RX5 75 RX5 yX5_save wsX5_save) := goodIn_app (goodIn_of _ (by decide +kernel)) ggX5_parse_X5_save
set_option maxRecDepth 20000 in
theorem ggX5_parse_X5_adds : GoodIn wsX5_parse wsX5_adds := goodIn_r _ [49, 2, 50, 51, 52, 8, 53, 54, 55, 56, 57, 58, 59, 64, 65, 66, 67, 68, 69, 70, 71, 72, 73, 74, 75, 76, 77, 78, 79] (by decide +kernel) (by decide +kernel)
set_option maxRecDepth 20000 in
theorem gX5_parse_X5_adds : GoodIn wsX5_parse (wsV RX5 78 RX5 yX5_adds wsX5_adds) := goodIn_app (goodIn_of _ (by decide +kernel)) ggX5_parse_X5_adds
set_option maxRecDepth 20000 in
theorem ggX5_parse_X5_forgets : GoodIn wsX5_parse wsX5_forgets := goodIn_r _ [63, 2, 64, 65, 66, 67, 68, 69, 70, 71, 72, 73, 74, 75, 76, 77, 78, 79] (by decide +kernel) (by decide +kernel)
set_option maxRecDepth 20000 in
theorem gX5_parse_X5_forgets : GoodIn wsX5_parse (wsV RX5 41 RX5 yX5_forgets wsX5_forgets) := goodIn_app (goodIn_of _ (by decide +kernel)) ggX5_parse_X5_forgets
theorem dX5_parse_0 : decode cX5_parse 0 = .ok (.aload_n 0, 1) := by decide +kernel
theorem dX5_parse_1 : decode cX5_parse 1 = .ok (.invokevirtual 201, 3) := by decide +kernel
theorem dX5_parse_4 : decode cX5_parse 4 = .ok (.ifCond .ne 15, 3) := by decide +kernel
theorem dX5_parse_7 : decode cX5_parse 7 = .ok (.aload_n 0, 1) := by decide +kernel
theorem dX5_parse_8 : decode cX5_parse 8 = .ok (.bipush (-10), 2) := by decide +kernel
theorem dX5_parse_10 : decode cX5_parse 10 = .ok (.aload_n 0, 1) := by decide +kernel
theorem dX5_parse_11 : decode cX5_parse 11 = .ok (.getfield 174, 3) := by decide +kernel
theorem dX5_parse_14 : decode cX5_parse 14 = .ok (.isub, 1) := by decide +kernel
theorem dX5_parse_15 : decode cX5_parse 15 = .ok (.invokevirtual 82, 3) := by decide +kernel
theorem dX5_parse_18 : decode cX5_parse 18 = .ok (.ireturn, 1) := by decide +kernel
theorem dX5_parse_19 : decode cX5_parse 19 = .ok (.aload_n 0, 1) := by decide +kernel
theorem dX5_parse_20 : decode cX5_parse 20 = .ok (.invokevirtual 75, 3) := by decide +kernel
theorem dX5_parse_23 : decode cX5_parse 23 = .ok (.iconst 0, 1) := by decide +kernel
theorem dX5_parse_24 : decode cX5_parse 24 = .ok (.istore_n 1, 1) := by decide +kernel
theorem dX5_parse_25 : decode cX5_parse 25 = .ok (.iload_n 1, 1) := by decide +kernel
theorem dX5_parse_26 : decode cX5_parse 26 = .ok (.bipush 96, 2) := by decide +kernel
theorem dX5_parse_28 : decode cX5_parse 28 = .ok (.if_icmp .ge 19, 3) := by decide +kernel
theorem dX5_parse_31 : decode cX5_parse 31 = .ok (.aload_n 0, 1) := by decide +kernel
theorem dX5_parse_32 : decode cX5_parse 32 = .ok (.getfield 7, 3) := by decide +kernel
theorem dX5_parse_35 : decode cX5_parse 35 = .ok (.bipush 92, 2) := by decide +kernel
theorem dX5_parse_37 : decode cX5_parse 37 = .ok (.iload_n 1, 1) := by decide +kernel
theorem dX5_parse_38 : decode cX5_parse 38 = .ok (.iadd, 1) := by decide +kernel
theorem dX5_parse_39 : decode cX5_parse 39 = .ok (.iconst 0, 1) := by decide +kernel
theorem dX5_parse_40 : decode cX5_parse 40 = .ok (.iastore, 1) := by decide +kernel
theorem dX5_parse_41 : decode cX5_parse 41 = .ok (.iinc 1 1, 3) := by decide +kernel
theorem dX5_parse_44 : decode cX5_parse 44 = .ok (.goto (-19), 3) := by decide +kernel
theorem dX5_parse_47 : decode cX5_parse 47 = .ok (.aload_n 0, 1) := by decide +kernel
theorem dX5_parse_48 : decode cX5_parse 48 = .ok (.getfield 7, 3) := by decide +kernel
theorem dX5_parse_51 : decode cX5_parse 51 = .ok (.iconst 0, 1) := by decide +kernel
theorem dX5_parse_52 : decode cX5_parse 52 = .ok (.iconst 0, 1) := by decide +kernel
theorem dX5_parse_53 : decode cX5_parse 53 = .ok (.iastore, 1) := by decide +kernel
theorem dX5_parse_54 : decode cX5_parse 54 = .ok (.aload_n 0, 1) := by decide +kernel
theorem dX5_parse_55 : decode cX5_parse 55 = .ok (.getfield 7, 3) := by decide +kernel
theorem dX5_parse_58 : decode cX5_parse 58 = .ok (.iconst 1, 1) := by decide +kernel
theorem dX5_parse_59 : decode cX5_parse 59 = .ok (.iconst 0, 1) := by decide +kernel
theorem dX5_parse_60 : decode cX5_parse 60 = .ok (.iastore, 1) := by decide +kernel
theorem dX5_parse_61 : decode cX5_parse 61 = .ok (.iconst 0, 1) := by decide +kernel
theorem dX5_parse_62 : decode cX5_parse 62 = .ok (.istore_n 1, 1) := by decide +kernel
theorem dX5_parse_63 : decode cX5_parse 63 = .ok (.iload_n 1, 1) := by decide +kernel
theorem dX5_parse_64 : decode cX5_parse 64 = .ok (.aload_n 0, 1) := by decide +kernel
theorem dX5_parse_65 : decode cX5_parse 65 = .ok (.getfield 184, 3) := by decide +kernel
theorem dX5_parse_68 : decode cX5_parse 68 = .ok (.if_icmp .ge 69, 3) := by decide +kernel
theorem dX5_parse_71 : decode cX5_parse 71 = .ok (.aload_n 0, 1) := by decide +kernel
theorem dX5_parse_72 : decode cX5_parse 72 = .ok (.aload_n 0, 1) := by decide +kernel
theorem dX5_parse_73 : decode cX5_parse 73 = .ok (.getfield 38, 3) := by decide +kernel
theorem dX5_parse_76 : decode cX5_parse 76 = .ok (.iconst 4, 1) := by decide +kernel
theorem dX5_parse_77 : decode cX5_parse 77 = .ok (.iload_n 1, 1) := by decide +kernel
theorem dX5_parse_78 : decode cX5_parse 78 = .ok (.imul, 1) := by decide +kernel
theorem dX5_parse_79 : decode cX5_parse 79 = .ok (.iaload, 1) := by decide +kernel
theorem dX5_parse_80 : decode cX5_parse 80 = .ok (.iconst 1, 1) := by decide +kernel
theorem dX5_parse_81 : decode cX5_parse 81 = .ok (.if_icmp .ne 7, 3) := by decide +kernel
theorem dX5_parse_84 : decode cX5_parse 84 = .ok (.iconst 1, 1) := by decide +kernel
theorem dX5_parse_85 : decode cX5_parse 85 = .ok (.goto 4, 3) := by decide +kernel
theorem dX5_parse_88 : decode cX5_parse 88 = .ok (.iconst 0, 1) := by decide +kernel
theorem dX5_parse_89 : decode cX5_parse 89 = .ok (.aload_n 0, 1) := by decide +kernel
theorem dX5_parse_90 : decode cX5_parse 90 = .ok (.getfield 38, 3) := by decide +kernel
theorem dX5_parse_93 : decode cX5_parse 93 = .ok (.iconst 4, 1) := by decide +kernel
theorem dX5_parse_94 : decode cX5_parse 94 = .ok (.iload_n 1, 1) := by decide +kernel
theorem dX5_parse_95 : decode cX5_parse 95 = .ok (.imul, 1) := by decide +kernel
theorem dX5_parse_96 : decode cX5_parse 96 = .ok (.iconst 1, 1) := by decide +kernel
theorem dX5_parse_97 : decode cX5_parse 97 = .ok (.iadd, 1) := by decide +kernel
theorem dX5_parse_98 : decode cX5_parse 98 = .ok (.iaload, 1) := by decide +kernel
theorem dX5_parse_99 : decode cX5_parse 99 = .ok (.aload_n 0, 1) := by decide +kernel
theorem dX5_parse_100 : decode cX5_parse 100 = .ok (.getfield 38, 3) := by decide +kernel
theorem dX5_parse_103 : decode cX5_parse 103 = .ok (.iconst 4, 1) := by decide +kernel
theorem dX5_parse_104 : decode cX5_parse 104 = .ok (.iload_n 1, 1) := by decide +kernel
theorem dX5_parse_105 : decode cX5_parse 105 = .ok (.imul, 1) := by decide +kernel
theorem dX5_parse_106 : decode cX5_parse 106 = .ok (.iconst 2, 1) := by decide +kernel
theorem dX5_parse_107 : decode cX5_parse 107 = .ok (.iadd, 1) := by decide +kernel
theorem dX5_parse_108 : decode cX5_parse 108 = .ok (.iaload, 1) := by decide +kernel
theorem dX5_parse_109 : decode cX5_parse 109 = .ok (.aload_n 0, 1) := by decide +kernel
theorem dX5_parse_110 : decode cX5_parse 110 = .ok (.getfield 38, 3) := by decide +kernel
theorem dX5_parse_113 : decode cX5_parse 113 = .ok (.iconst 4, 1) := by decide +kernel
theorem dX5_parse_114 : decode cX5_parse 114 = .ok (.iload_n 1, 1) := by decide +kernel
theorem dX5_parse_115 : decode cX5_parse 115 = .ok (.imul, 1) := by decide +kernel
theorem dX5_parse_116 : decode cX5_parse 116 = .ok (.iconst 3, 1) := by decide +kernel
theorem dX5_parse_117 : decode cX5_parse 117 = .ok (.iadd, 1) := by decide +kernel
theorem dX5_parse_118 : decode cX5_parse 118 = .ok (.iaload, 1) := by decide +kernel
theorem dX5_parse_119 : decode cX5_parse 119 = .ok (.iconst 1, 1) := by decide +kernel
theorem dX5_parse_120 : decode cX5_parse 120 = .ok (.if_icmp .ne 7, 3) := by decide +kernel
theorem dX5_parse_123 : decode cX5_parse 123 = .ok (.iconst 1, 1) := by decide +kernel
theorem dX5_parse_124 : decode cX5_parse 124 = .ok (.goto 4, 3) := by decide +kernel
theorem dX5_parse_127 : decode cX5_parse 127 = .ok (.iconst 0, 1) := by decide +kernel
theorem dX5_parse_128 : decode cX5_parse 128 = .ok (.invokevirtual 78, 3) := by decide +kernel
theorem dX5_parse_131 : decode cX5_parse 131 = .ok (.iinc 1 1, 3) := by decide +kernel
theorem dX5_parse_134 : decode cX5_parse 134 = .ok (.goto (-71), 3) := by decide +kernel
theorem dX5_parse_137 : decode cX5_parse 137 = .ok (.aload_n 0, 1) := by decide +kernel
theorem dX5_parse_138 : decode cX5_parse 138 = .ok (.invokevirtual 41, 3) := by decide +kernel
theorem dX5_parse_141 : decode cX5_parse 141 = .ok (.aload_n 0, 1) := by decide +kernel
theorem dX5_parse_142 : decode cX5_parse 142 = .ok (.aload_n 0, 1) := by decide +kernel
theorem dX5_parse_143 : decode cX5_parse 143 = .ok (.getfield 184, 3) := by decide +kernel
theorem dX5_parse_146 : decode cX5_parse 146 = .ok (.invokevirtual 82, 3) := by decide +kernel
theorem dX5_parse_149 : decode cX5_parse 149 = .ok (.ireturn, 1) := by decide +kernel
set_option maxRecDepth 20000 in
theorem ggX5_undo_X5_throwing : GoodIn wsX5_undo wsX5_throwing := goodIn_r _ [8, 9, 14, 15, 16, 17, 18, 19, 20, 21, 22, 23, 24, 25, 26, 27, 28, 29] (by decide +kernel) (by decide +kernel)
set_option maxRecDepth 20000 in
theorem gX5_undo_X5_throwing : GoodIn wsX5_undo (wsV RX5 71 RX5 yX5_throwing wsX5_throwing) := goodIn_app (goodIn_of _ (by decide +kernel)) ggX5_undo_X5_throwing
set_option maxRecDepth 20000 in
theorem ggX5_undo_X5_fine : GoodIn wsX5_undo wsX5_fine := goodIn_r _ [13, 9, 14, 15, 16, 17, 18, 19, 20, 21, 22, 23, 24, 25, 26, 27, 28, 29] (by decide +kernel) (by decide +kernel)
set_option maxRecDepth 20000 in
theorem gX5_undo_X5_fine : GoodIn wsX5_undo (wsV RX5 82 RX5 yX5_fine wsX5_fine) := goodIn_app (goodIn_of _ (by decide +kernel)) ggX5_undo_X5_fine
theorem dX5_undo_0 : decode cX5_undo 0 = .ok (.aload_n 0, 1) := by decide +kernel
theorem dX5_undo_1 : decode cX5_undo 1 = .ok (.getfield 48, 3) := by decide +kernel
theorem dX5_undo_4 : decode cX5_undo 4 = .ok (.ifCond .ne 9, 3) := by decide +kernel
theorem dX5_undo_7 : decode cX5_undo 7 = .ok (.aload_n 0, 1) := by decide +kernel
theorem dX5_undo_8 : decode cX5_undo 8 = .ok (.iconst 1, 1) := by decide +kernel
theorem dX5_undo_9 : decode cX5_undo 9 = .ok (.invokevirtual 71, 3) := by decide +kernel
theorem dX5_undo_12 : decode cX5_undo 12 = .ok (.ireturn, 1) := by decide +kernel
theorem dX5_undo_13 : decode cX5_undo 13 = .ok (.aload_n 0, 1) := by decide +kernel
theorem dX5_undo_14 : decode cX5_undo 14 = .ok (.dup, 1) := by decide +kernel
theorem dX5_undo_15 : decode cX5_undo 15 = .ok (.getfield 48, 3) := by decide +kernel
theorem dX5_undo_18 : decode cX5_undo 18 = .ok (.iconst 1, 1) := by decide +kernel
theorem dX5_undo_19 : decode cX5_undo 19 = .ok (.isub, 1) := by decide +kernel
theorem dX5_undo_20 : decode cX5_undo 20 = .ok (.putfield 48, 3) := by decide +kernel
theorem dX5_undo_23 : decode cX5_undo 23 = .ok (.iconst 0, 1) := by decide +kernel
theorem dX5_undo_24 : decode cX5_undo 24 = .ok (.istore_n 1, 1) := by decide +kernel
theorem dX5_undo_25 : decode cX5_undo 25 = .ok (.iload_n 1, 1) := by decide +kernel
theorem dX5_undo_26 : decode cX5_undo 26 = .ok (.sipush 188, 3) := by decide +kernel
theorem dX5_undo_29 : decode cX5_undo 29 = .ok (.if_icmp .ge 30, 3) := by decide +kernel
theorem dX5_undo_32 : decode cX5_undo 32 = .ok (.aload_n 0, 1) := by decide +kernel
theorem dX5_undo_33 : decode cX5_undo 33 = .ok (.getfield 7, 3) := by decide +kernel
theorem dX5_undo_36 : decode cX5_undo 36 = .ok (.iload_n 1, 1) := by decide +kernel
theorem dX5_undo_37 : decode cX5_undo 37 = .ok (.aload_n 0, 1) := by decide +kernel
theorem dX5_undo_38 : decode cX5_undo 38 = .ok (.getfield 13, 3) := by decide +kernel
theorem dX5_undo_41 : decode cX5_undo 41 = .ok (.sipush 188, 3) := by decide +kernel
theorem dX5_undo_44 : decode cX5_undo 44 = .ok (.aload_n 0, 1) := by decide +kernel
theorem dX5_undo_45 : decode cX5_undo 45 = .ok (.getfield 48, 3) := by decide +kernel
theorem dX5_undo_48 : decode cX5_undo 48 = .ok (.imul, 1) := by decide +kernel
theorem dX5_undo_49 : decode cX5_undo 49 = .ok (.iload_n 1, 1) := by decide +kernel
theorem dX5_undo_50 : decode cX5_undo 50 = .ok (.iadd, 1) := by decide +kernel
theorem dX5_undo_51 : decode cX5_undo 51 = .ok (.iaload, 1) := by decide +kernel
theorem dX5_undo_52 : decode cX5_undo 52 = .ok (.iastore, 1) := by decide +kernel
theorem dX5_undo_53 : decode cX5_undo 53 = .ok (.iinc 1 1, 3) := by decide +kernel
theorem dX5_undo_56 : decode cX5_undo 56 = .ok (.goto (-31), 3) := by decide +kernel
theorem dX5_undo_59 : decode cX5_undo 59 = .ok (.aload_n 0, 1) := by decide +kernel
theorem dX5_undo_60 : decode cX5_undo 60 = .ok (.aload_n 0, 1) := by decide +kernel
theorem dX5_undo_61 : decode cX5_undo 61 = .ok (.getfield 48, 3) := by decide +kernel
theorem dX5_undo_64 : decode cX5_undo 64 = .ok (.invokevirtual 82, 3) := by decide +kernel
theorem dX5_undo_67 : decode cX5_undo 67 = .ok (.ireturn, 1) := by decide +kernel
set_option maxRecDepth 20000 in
theorem ggX5_hashGuests_X5_isThere : GoodIn wsX5_hashGuests wsX5_isThere := goodIn_r _ [6, 7, 26, 27, 28, 29, 30, 31, 32, 33, 34, 35, 36, 37, 38, 39, 40, 41] (by decide +kernel) (by decide +kernel)
set_option maxRecDepth 20000 in
theorem gX5_hashGuests_X5_isThere : GoodIn wsX5_hashGuests (wsV RX5 104 RX5 yX5_isThere wsX5_isThere) := goodIn_app (goodIn_of _ (by decide +kernel)) ggX5_hashGuests_X5_isThere
set_option maxRecDepth 20000 in
theorem ggX5_hashGuests_X5_guestOf : GoodIn wsX5_hashGuests wsX5_guestOf := goodIn_r _ [11, 12, 13, 14, 15, 16, 5, 17, 18, 7, 2, 3, 4, 6, 19, 20, 21, 22, 23, 24, 25, 26, 27, 28, 29, 30, 31, 32, 33, 34, 35, 36, 37, 38, 39, 40, 41] (by decide +kernel) (by decide +kernel)
set_option maxRecDepth 20000 in
theorem gX5_hashGuests_X5_guestOf : GoodIn wsX5_hashGuests (wsV RX5 146 RX5 yX5_guestOf wsX5_guestOf) := goodIn_app (goodIn_of _ (by decide +kernel)) ggX5_hashGuests_X5_guestOf
theorem dX5_hashGuests_0 : decode cX5_hashGuests 0 = .ok (.lload_n 1, 1) := by decide +kernel
theorem dX5_hashGuests_1 : decode cX5_hashGuests 1 = .ok (.lstore_n 3, 1) := by decide +kernel
theorem dX5_hashGuests_2 : decode cX5_hashGuests 2 = .ok (.iconst 0, 1) := by decide +kernel
theorem dX5_hashGuests_3 : decode cX5_hashGuests 3 = .ok (.istore 5, 2) := by decide +kernel
theorem dX5_hashGuests_5 : decode cX5_hashGuests 5 = .ok (.iload 5, 2) := by decide +kernel
theorem dX5_hashGuests_7 : decode cX5_hashGuests 7 = .ok (.bipush 16, 2) := by decide +kernel
theorem dX5_hashGuests_9 : decode cX5_hashGuests 9 = .ok (.if_icmp .ge 50, 3) := by decide +kernel
theorem dX5_hashGuests_12 : decode cX5_hashGuests 12 = .ok (.iconst 0, 1) := by decide +kernel
theorem dX5_hashGuests_13 : decode cX5_hashGuests 13 = .ok (.istore 6, 2) := by decide +kernel
theorem dX5_hashGuests_15 : decode cX5_hashGuests 15 = .ok (.iload 6, 2) := by decide +kernel
theorem dX5_hashGuests_17 : decode cX5_hashGuests 17 = .ok (.bipush 8, 2) := by decide +kernel
theorem dX5_hashGuests_19 : decode cX5_hashGuests 19 = .ok (.if_icmp .ge 34, 3) := by decide +kernel
theorem dX5_hashGuests_22 : decode cX5_hashGuests 22 = .ok (.aload_n 0, 1) := by decide +kernel
theorem dX5_hashGuests_23 : decode cX5_hashGuests 23 = .ok (.iload 5, 2) := by decide +kernel
theorem dX5_hashGuests_25 : decode cX5_hashGuests 25 = .ok (.invokevirtual 104, 3) := by decide +kernel
theorem dX5_hashGuests_28 : decode cX5_hashGuests 28 = .ok (.ifCond .eq 25, 3) := by decide +kernel
theorem dX5_hashGuests_31 : decode cX5_hashGuests 31 = .ok (.ldc2_w 204, 3) := by decide +kernel
theorem dX5_hashGuests_34 : decode cX5_hashGuests 34 = .ok (.lload_n 3, 1) := by decide +kernel
theorem dX5_hashGuests_35 : decode cX5_hashGuests 35 = .ok (.lmul, 1) := by decide +kernel
theorem dX5_hashGuests_36 : decode cX5_hashGuests 36 = .ok (.aload_n 0, 1) := by decide +kernel
theorem dX5_hashGuests_37 : decode cX5_hashGuests 37 = .ok (.iload 5, 2) := by decide +kernel
theorem dX5_hashGuests_39 : decode cX5_hashGuests 39 = .ok (.iload 6, 2) := by decide +kernel
theorem dX5_hashGuests_41 : decode cX5_hashGuests 41 = .ok (.invokevirtual 146, 3) := by decide +kernel
theorem dX5_hashGuests_44 : decode cX5_hashGuests 44 = .ok (.i2l, 1) := by decide +kernel
theorem dX5_hashGuests_45 : decode cX5_hashGuests 45 = .ok (.ladd, 1) := by decide +kernel
theorem dX5_hashGuests_46 : decode cX5_hashGuests 46 = .ok (.lstore_n 3, 1) := by decide +kernel
theorem dX5_hashGuests_47 : decode cX5_hashGuests 47 = .ok (.iinc 6 1, 3) := by decide +kernel
theorem dX5_hashGuests_50 : decode cX5_hashGuests 50 = .ok (.goto (-35), 3) := by decide +kernel
theorem dX5_hashGuests_53 : decode cX5_hashGuests 53 = .ok (.iinc 5 1, 3) := by decide +kernel
theorem dX5_hashGuests_56 : decode cX5_hashGuests 56 = .ok (.goto (-51), 3) := by decide +kernel
theorem dX5_hashGuests_59 : decode cX5_hashGuests 59 = .ok (.lload_n 3, 1) := by decide +kernel
theorem dX5_hashGuests_60 : decode cX5_hashGuests 60 = .ok (.lreturn, 1) := by decide +kernel
set_option maxRecDepth 20000 in
theorem ggX5_digest_X5_valueOf : GoodIn wsX5_digest wsX5_valueOf := goodIn_r _ [12, 5, 13, 14, 15, 11, 16, 17, 18, 19, 20, 72, 73, 74, 75, 76, 77, 78, 79, 80, 81, 82, 83, 84, 85, 86, 87] (by decide +kernel) (by decide +kernel)
set_option maxRecDepth 20000 in
theorem gX5_digest_X5_valueOf : GoodIn wsX5_digest (wsV RX5 151 RX5 yX5_valueOf wsX5_valueOf) := goodIn_app (goodIn_of _ (by decide +kernel)) ggX5_digest_X5_valueOf
set_option maxRecDepth 20000 in
theorem ggX5_digest_X5_shoesOf : GoodIn wsX5_digest wsX5_shoesOf := goodIn_r _ [24, 25, 5, 26, 27, 28, 11, 29, 30, 31, 32, 33, 34, 35, 36, 37, 38, 39, 40, 41, 42, 72, 73, 74, 75, 76, 77, 78, 79, 80, 81, 82, 83, 84, 85, 86, 87] (by decide +kernel) (by decide +kernel)
set_option maxRecDepth 20000 in
theorem gX5_digest_X5_shoesOf : GoodIn wsX5_digest (wsV RX5 154 RX5 yX5_shoesOf wsX5_shoesOf) := goodIn_app (goodIn_of _ (by decide +kernel)) ggX5_digest_X5_shoesOf
set_option maxRecDepth 20000 in
theorem ggX5_digest_X5_hashGuests : GoodIn wsX5_digest wsX5_hashGuests := goodIn_r _ [46, 4, 32, 33, 34, 11, 35, 5, 47, 48, 49, 50, 31, 30, 26, 27, 28, 29, 25, 36, 37, 38, 39, 40, 41, 42, 72, 73, 74, 75, 76, 77, 78, 79, 80, 81, 82, 83, 84, 85, 86, 87] (by decide +kernel) (by decide +kernel)
set_option maxRecDepth 20000 in
theorem gX5_digest_X5_hashGuests : GoodIn wsX5_digest (wsV RX5 208 RX5 yX5_hashGuests wsX5_hashGuests) := goodIn_app (goodIn_of _ (by decide +kernel)) ggX5_digest_X5_hashGuests
set_option maxRecDepth 20000 in
theorem ggX5_digest_X5_chooses : GoodIn wsX5_digest wsX5_chooses := goodIn_r _ [54, 55, 6, 26, 27, 28, 11, 29, 25, 5, 30, 31, 32, 33, 34, 35, 36, 37, 38, 39, 40, 41, 42, 56, 57, 58, 59, 60, 61, 62, 63, 13, 14, 15, 16, 72, 73, 74, 75, 76, 77, 78, 79, 80, 81, 82, 83, 84, 85, 86, 87] (by decide +kernel) (by decide +kernel)
set_option maxRecDepth 20000 in
theorem gX5_digest_X5_chooses : GoodIn wsX5_digest (wsV RX5 121 RX5 yX5_chooses wsX5_chooses) := goodIn_app (goodIn_of _ (by decide +kernel)) ggX5_digest_X5_chooses
set_option maxRecDepth 20000 in
theorem ggX5_digest_X5_fiddlerOf : GoodIn wsX5_digest wsX5_fiddlerOf := goodIn_r _ [67, 5, 68, 69, 70, 11, 71, 17, 18, 19, 20, 72, 73, 74, 75, 76, 77, 78, 79, 80, 81, 82, 83, 84, 85, 86, 87] (by decide +kernel) (by decide +kernel)
set_option maxRecDepth 20000 in
theorem gX5_digest_X5_fiddlerOf : GoodIn wsX5_digest (wsV RX5 160 RX5 yX5_fiddlerOf wsX5_fiddlerOf) := goodIn_app (goodIn_of _ (by decide +kernel)) ggX5_digest_X5_fiddlerOf
theorem dX5_digest_0 : decode cX5_digest 0 = .ok (.aload_n 0, 1) := by decide +kernel
theorem dX5_digest_1 : decode cX5_digest 1 = .ok (.iconst 0, 1) := by decide +kernel
theorem dX5_digest_2 : decode cX5_digest 2 = .ok (.putfield 44, 3) := by decide +kernel
theorem dX5_digest_5 : decode cX5_digest 5 = .ok (.ldc2_w 206, 3) := by decide +kernel
theorem dX5_digest_8 : decode cX5_digest 8 = .ok (.aload_n 0, 1) := by decide +kernel
theorem dX5_digest_9 : decode cX5_digest 9 = .ok (.getfield 171, 3) := by decide +kernel
theorem dX5_digest_12 : decode cX5_digest 12 = .ok (.i2l, 1) := by decide +kernel
theorem dX5_digest_13 : decode cX5_digest 13 = .ok (.ladd, 1) := by decide +kernel
theorem dX5_digest_14 : decode cX5_digest 14 = .ok (.lstore_n 1, 1) := by decide +kernel
theorem dX5_digest_15 : decode cX5_digest 15 = .ok (.iconst 0, 1) := by decide +kernel
theorem dX5_digest_16 : decode cX5_digest 16 = .ok (.istore_n 3, 1) := by decide +kernel
theorem dX5_digest_17 : decode cX5_digest 17 = .ok (.iload_n 3, 1) := by decide +kernel
theorem dX5_digest_18 : decode cX5_digest 18 = .ok (.bipush 14, 2) := by decide +kernel
theorem dX5_digest_20 : decode cX5_digest 20 = .ok (.if_icmp .ge 22, 3) := by decide +kernel
theorem dX5_digest_23 : decode cX5_digest 23 = .ok (.ldc2_w 204, 3) := by decide +kernel
theorem dX5_digest_26 : decode cX5_digest 26 = .ok (.lload_n 1, 1) := by decide +kernel
theorem dX5_digest_27 : decode cX5_digest 27 = .ok (.lmul, 1) := by decide +kernel
theorem dX5_digest_28 : decode cX5_digest 28 = .ok (.aload_n 0, 1) := by decide +kernel
theorem dX5_digest_29 : decode cX5_digest 29 = .ok (.iload_n 3, 1) := by decide +kernel
theorem dX5_digest_30 : decode cX5_digest 30 = .ok (.invokevirtual 151, 3) := by decide +kernel
theorem dX5_digest_33 : decode cX5_digest 33 = .ok (.i2l, 1) := by decide +kernel
theorem dX5_digest_34 : decode cX5_digest 34 = .ok (.ladd, 1) := by decide +kernel
theorem dX5_digest_35 : decode cX5_digest 35 = .ok (.lstore_n 1, 1) := by decide +kernel
theorem dX5_digest_36 : decode cX5_digest 36 = .ok (.iinc 3 1, 3) := by decide +kernel
theorem dX5_digest_39 : decode cX5_digest 39 = .ok (.goto (-22), 3) := by decide +kernel
theorem dX5_digest_42 : decode cX5_digest 42 = .ok (.iconst 1, 1) := by decide +kernel
theorem dX5_digest_43 : decode cX5_digest 43 = .ok (.istore_n 3, 1) := by decide +kernel
theorem dX5_digest_44 : decode cX5_digest 44 = .ok (.iload_n 3, 1) := by decide +kernel
theorem dX5_digest_45 : decode cX5_digest 45 = .ok (.bipush 10, 2) := by decide +kernel
theorem dX5_digest_47 : decode cX5_digest 47 = .ok (.if_icmp .ge 35, 3) := by decide +kernel
theorem dX5_digest_50 : decode cX5_digest 50 = .ok (.ldc2_w 204, 3) := by decide +kernel
theorem dX5_digest_53 : decode cX5_digest 53 = .ok (.ldc2_w 204, 3) := by decide +kernel
theorem dX5_digest_56 : decode cX5_digest 56 = .ok (.lload_n 1, 1) := by decide +kernel
theorem dX5_digest_57 : decode cX5_digest 57 = .ok (.lmul, 1) := by decide +kernel
theorem dX5_digest_58 : decode cX5_digest 58 = .ok (.aload_n 0, 1) := by decide +kernel
theorem dX5_digest_59 : decode cX5_digest 59 = .ok (.iload_n 3, 1) := by decide +kernel
theorem dX5_digest_60 : decode cX5_digest 60 = .ok (.iconst 0, 1) := by decide +kernel
theorem dX5_digest_61 : decode cX5_digest 61 = .ok (.invokevirtual 154, 3) := by decide +kernel
theorem dX5_digest_64 : decode cX5_digest 64 = .ok (.i2l, 1) := by decide +kernel
theorem dX5_digest_65 : decode cX5_digest 65 = .ok (.ladd, 1) := by decide +kernel
theorem dX5_digest_66 : decode cX5_digest 66 = .ok (.lmul, 1) := by decide +kernel
theorem dX5_digest_67 : decode cX5_digest 67 = .ok (.aload_n 0, 1) := by decide +kernel
theorem dX5_digest_68 : decode cX5_digest 68 = .ok (.iload_n 3, 1) := by decide +kernel
theorem dX5_digest_69 : decode cX5_digest 69 = .ok (.iconst 1, 1) := by decide +kernel
theorem dX5_digest_70 : decode cX5_digest 70 = .ok (.invokevirtual 154, 3) := by decide +kernel
theorem dX5_digest_73 : decode cX5_digest 73 = .ok (.i2l, 1) := by decide +kernel
theorem dX5_digest_74 : decode cX5_digest 74 = .ok (.ladd, 1) := by decide +kernel
theorem dX5_digest_75 : decode cX5_digest 75 = .ok (.lstore_n 1, 1) := by decide +kernel
theorem dX5_digest_76 : decode cX5_digest 76 = .ok (.iinc 3 1, 3) := by decide +kernel
theorem dX5_digest_79 : decode cX5_digest 79 = .ok (.goto (-35), 3) := by decide +kernel
theorem dX5_digest_82 : decode cX5_digest 82 = .ok (.aload_n 0, 1) := by decide +kernel
theorem dX5_digest_83 : decode cX5_digest 83 = .ok (.lload_n 1, 1) := by decide +kernel
theorem dX5_digest_84 : decode cX5_digest 84 = .ok (.invokevirtual 208, 3) := by decide +kernel
theorem dX5_digest_87 : decode cX5_digest 87 = .ok (.lstore_n 1, 1) := by decide +kernel
theorem dX5_digest_88 : decode cX5_digest 88 = .ok (.aload_n 0, 1) := by decide +kernel
theorem dX5_digest_89 : decode cX5_digest 89 = .ok (.aload_n 0, 1) := by decide +kernel
theorem dX5_digest_90 : decode cX5_digest 90 = .ok (.getfield 7, 3) := by decide +kernel
theorem dX5_digest_93 : decode cX5_digest 93 = .ok (.iconst 2, 1) := by decide +kernel
theorem dX5_digest_94 : decode cX5_digest 94 = .ok (.iaload, 1) := by decide +kernel
theorem dX5_digest_95 : decode cX5_digest 95 = .ok (.invokevirtual 121, 3) := by decide +kernel
theorem dX5_digest_98 : decode cX5_digest 98 = .ok (.istore_n 3, 1) := by decide +kernel
theorem dX5_digest_99 : decode cX5_digest 99 = .ok (.iconst 0, 1) := by decide +kernel
theorem dX5_digest_100 : decode cX5_digest 100 = .ok (.istore 4, 2) := by decide +kernel
theorem dX5_digest_102 : decode cX5_digest 102 = .ok (.iload 4, 2) := by decide +kernel
theorem dX5_digest_104 : decode cX5_digest 104 = .ok (.aload_n 0, 1) := by decide +kernel
theorem dX5_digest_105 : decode cX5_digest 105 = .ok (.getfield 7, 3) := by decide +kernel
theorem dX5_digest_108 : decode cX5_digest 108 = .ok (.iconst 0, 1) := by decide +kernel
theorem dX5_digest_109 : decode cX5_digest 109 = .ok (.iaload, 1) := by decide +kernel
theorem dX5_digest_110 : decode cX5_digest 110 = .ok (.if_icmp .ge 76, 3) := by decide +kernel
theorem dX5_digest_113 : decode cX5_digest 113 = .ok (.iconst 0, 1) := by decide +kernel
theorem dX5_digest_114 : decode cX5_digest 114 = .ok (.istore 5, 2) := by decide +kernel
theorem dX5_digest_116 : decode cX5_digest 116 = .ok (.iload 5, 2) := by decide +kernel
theorem dX5_digest_118 : decode cX5_digest 118 = .ok (.aload_n 0, 1) := by decide +kernel
theorem dX5_digest_119 : decode cX5_digest 119 = .ok (.getfield 7, 3) := by decide +kernel
theorem dX5_digest_122 : decode cX5_digest 122 = .ok (.iconst 1, 1) := by decide +kernel
theorem dX5_digest_123 : decode cX5_digest 123 = .ok (.iaload, 1) := by decide +kernel
theorem dX5_digest_124 : decode cX5_digest 124 = .ok (.if_icmp .ge 33, 3) := by decide +kernel
theorem dX5_digest_127 : decode cX5_digest 127 = .ok (.ldc2_w 204, 3) := by decide +kernel
theorem dX5_digest_130 : decode cX5_digest 130 = .ok (.lload_n 1, 1) := by decide +kernel
theorem dX5_digest_131 : decode cX5_digest 131 = .ok (.lmul, 1) := by decide +kernel
theorem dX5_digest_132 : decode cX5_digest 132 = .ok (.aload_n 0, 1) := by decide +kernel
theorem dX5_digest_133 : decode cX5_digest 133 = .ok (.getfield 7, 3) := by decide +kernel
theorem dX5_digest_136 : decode cX5_digest 136 = .ok (.bipush 28, 2) := by decide +kernel
theorem dX5_digest_138 : decode cX5_digest 138 = .ok (.bipush 8, 2) := by decide +kernel
theorem dX5_digest_140 : decode cX5_digest 140 = .ok (.iload 4, 2) := by decide +kernel
theorem dX5_digest_142 : decode cX5_digest 142 = .ok (.imul, 1) := by decide +kernel
theorem dX5_digest_143 : decode cX5_digest 143 = .ok (.iadd, 1) := by decide +kernel
theorem dX5_digest_144 : decode cX5_digest 144 = .ok (.iload 5, 2) := by decide +kernel
theorem dX5_digest_146 : decode cX5_digest 146 = .ok (.iadd, 1) := by decide +kernel
theorem dX5_digest_147 : decode cX5_digest 147 = .ok (.iaload, 1) := by decide +kernel
theorem dX5_digest_148 : decode cX5_digest 148 = .ok (.i2l, 1) := by decide +kernel
theorem dX5_digest_149 : decode cX5_digest 149 = .ok (.ladd, 1) := by decide +kernel
theorem dX5_digest_150 : decode cX5_digest 150 = .ok (.lstore_n 1, 1) := by decide +kernel
theorem dX5_digest_151 : decode cX5_digest 151 = .ok (.iinc 5 1, 3) := by decide +kernel
theorem dX5_digest_154 : decode cX5_digest 154 = .ok (.goto (-38), 3) := by decide +kernel
theorem dX5_digest_157 : decode cX5_digest 157 = .ok (.ldc2_w 204, 3) := by decide +kernel
theorem dX5_digest_160 : decode cX5_digest 160 = .ok (.lload_n 1, 1) := by decide +kernel
theorem dX5_digest_161 : decode cX5_digest 161 = .ok (.lmul, 1) := by decide +kernel
theorem dX5_digest_162 : decode cX5_digest 162 = .ok (.iload_n 3, 1) := by decide +kernel
theorem dX5_digest_163 : decode cX5_digest 163 = .ok (.ifCond .le 13, 3) := by decide +kernel
theorem dX5_digest_166 : decode cX5_digest 166 = .ok (.aload_n 0, 1) := by decide +kernel
theorem dX5_digest_167 : decode cX5_digest 167 = .ok (.getfield 32, 3) := by decide +kernel
theorem dX5_digest_170 : decode cX5_digest 170 = .ok (.iload 4, 2) := by decide +kernel
theorem dX5_digest_172 : decode cX5_digest 172 = .ok (.iaload, 1) := by decide +kernel
theorem dX5_digest_173 : decode cX5_digest 173 = .ok (.goto 4, 3) := by decide +kernel
theorem dX5_digest_176 : decode cX5_digest 176 = .ok (.iconst (-1), 1) := by decide +kernel
theorem dX5_digest_177 : decode cX5_digest 177 = .ok (.i2l, 1) := by decide +kernel
theorem dX5_digest_178 : decode cX5_digest 178 = .ok (.ladd, 1) := by decide +kernel
theorem dX5_digest_179 : decode cX5_digest 179 = .ok (.lstore_n 1, 1) := by decide +kernel
theorem dX5_digest_180 : decode cX5_digest 180 = .ok (.iinc 4 1, 3) := by decide +kernel
theorem dX5_digest_183 : decode cX5_digest 183 = .ok (.goto (-81), 3) := by decide +kernel
theorem dX5_digest_186 : decode cX5_digest 186 = .ok (.iconst 0, 1) := by decide +kernel
theorem dX5_digest_187 : decode cX5_digest 187 = .ok (.istore 4, 2) := by decide +kernel
theorem dX5_digest_189 : decode cX5_digest 189 = .ok (.iload 4, 2) := by decide +kernel
theorem dX5_digest_191 : decode cX5_digest 191 = .ok (.iconst 3, 1) := by decide +kernel
theorem dX5_digest_192 : decode cX5_digest 192 = .ok (.aload_n 0, 1) := by decide +kernel
theorem dX5_digest_193 : decode cX5_digest 193 = .ok (.getfield 7, 3) := by decide +kernel
theorem dX5_digest_196 : decode cX5_digest 196 = .ok (.bipush 8, 2) := by decide +kernel
theorem dX5_digest_198 : decode cX5_digest 198 = .ok (.iaload, 1) := by decide +kernel
theorem dX5_digest_199 : decode cX5_digest 199 = .ok (.imul, 1) := by decide +kernel
theorem dX5_digest_200 : decode cX5_digest 200 = .ok (.if_icmp .ge 29, 3) := by decide +kernel
theorem dX5_digest_203 : decode cX5_digest 203 = .ok (.ldc2_w 204, 3) := by decide +kernel
theorem dX5_digest_206 : decode cX5_digest 206 = .ok (.lload_n 1, 1) := by decide +kernel
theorem dX5_digest_207 : decode cX5_digest 207 = .ok (.lmul, 1) := by decide +kernel
theorem dX5_digest_208 : decode cX5_digest 208 = .ok (.aload_n 0, 1) := by decide +kernel
theorem dX5_digest_209 : decode cX5_digest 209 = .ok (.iload 4, 2) := by decide +kernel
theorem dX5_digest_211 : decode cX5_digest 211 = .ok (.iconst 3, 1) := by decide +kernel
theorem dX5_digest_212 : decode cX5_digest 212 = .ok (.idiv, 1) := by decide +kernel
theorem dX5_digest_213 : decode cX5_digest 213 = .ok (.iload 4, 2) := by decide +kernel
theorem dX5_digest_215 : decode cX5_digest 215 = .ok (.iconst 3, 1) := by decide +kernel
theorem dX5_digest_216 : decode cX5_digest 216 = .ok (.irem, 1) := by decide +kernel
theorem dX5_digest_217 : decode cX5_digest 217 = .ok (.invokevirtual 160, 3) := by decide +kernel
theorem dX5_digest_220 : decode cX5_digest 220 = .ok (.i2l, 1) := by decide +kernel
theorem dX5_digest_221 : decode cX5_digest 221 = .ok (.ladd, 1) := by decide +kernel
theorem dX5_digest_222 : decode cX5_digest 222 = .ok (.lstore_n 1, 1) := by decide +kernel
theorem dX5_digest_223 : decode cX5_digest 223 = .ok (.iinc 4 1, 3) := by decide +kernel
theorem dX5_digest_226 : decode cX5_digest 226 = .ok (.goto (-37), 3) := by decide +kernel
theorem dX5_digest_229 : decode cX5_digest 229 = .ok (.ldc2_w 204, 3) := by decide +kernel
theorem dX5_digest_232 : decode cX5_digest 232 = .ok (.lload_n 1, 1) := by decide +kernel
theorem dX5_digest_233 : decode cX5_digest 233 = .ok (.lmul, 1) := by decide +kernel
theorem dX5_digest_234 : decode cX5_digest 234 = .ok (.aload_n 0, 1) := by decide +kernel
theorem dX5_digest_235 : decode cX5_digest 235 = .ok (.getfield 48, 3) := by decide +kernel
theorem dX5_digest_238 : decode cX5_digest 238 = .ok (.i2l, 1) := by decide +kernel
theorem dX5_digest_239 : decode cX5_digest 239 = .ok (.ladd, 1) := by decide +kernel
theorem dX5_digest_240 : decode cX5_digest 240 = .ok (.lreturn, 1) := by decide +kernel
