set_option maxRecDepth 20000 in
theorem ggL_areAlike_X4_dancesLeft : GoodIn wsL_areAlike wsX4_dancesLeft := goodIn_r _ [5, 6, 7, 8, 9, 10, 11, 12, 13, 14, 15, 16, 17, 18, 19, 20, 21, 22, 23, 24, 25, 26, 27, 28, 29, 30, 31, 32, 33, 34, 35, 36, 37, 38, 39, 40, 41, 42, 43, 44, 45, 46, 47, 48, 49, 50, 51, 52, 53, 54, 55, 56, 57, 58, 59, 60, 61, 62, 63, 64, 65, 66, 67, 68, 69, 70, 71, 72, 73, 74, 75, 76, 77, 78, 79, 80, 81, 82, 83, 84, 85, 86, 87, 88, 4, 89, 90, 91, 92, 93, 94, 95, 96, 97, 98, 99, 100, 101, 102, 103, 104, 105, 106, 107, 108, 109, 110, 111, 112, 113, 114, 115, 116, 117, 118, 119, 120, 121, 122, 123, 124, 125, 126, 127, 128, 129, 130, 131, 132, 133, 134, 135, 247, 248, 249, 250, 251, 252, 253, 254, 255, 256, 257, 258, 259, 260, 261, 262, 263, 264, 265, 266, 267, 268, 269, 270, 271, 272, 273, 274, 275, 276, 277, 278, 279, 280, 281] (by decide +kernel) (by decide +kernel)
set_option maxRecDepth 20000 in
theorem gL_areAlike_X4_dancesLeft : GoodIn wsL_areAlike (wsV RL 61 RX4 yX4_dancesLeft wsX4_dancesLeft) := goodIn_app (goodIn_of _ (by decide +kernel)) ggL_areAlike_X4_dancesLeft
set_option maxRecDepth 20000 in
theorem ggL_areAlike_X4_bestSize : GoodIn wsL_areAlike wsX4_bestSize := goodIn_r _ [139, 8, 7, 140, 77, 78, 71, 79, 80, 81, 82, 83, 84, 85, 86, 87, 88, 4, 89, 90, 91, 92, 93, 94, 95, 96, 97, 98, 99, 100, 101, 102, 141, 142, 143, 144, 145, 146, 147, 148, 149, 150, 151, 247, 248, 249, 250, 251, 252, 273, 274, 275, 276, 277, 278, 279, 280, 281, 253, 254, 255, 256, 257, 258, 259, 260, 261, 262, 263, 264, 265, 266, 267, 268, 269, 270, 271, 272] (by decide +kernel) (by decide +kernel)
set_option maxRecDepth 20000 in
theorem gL_areAlike_X4_bestSize : GoodIn wsL_areAlike (wsV RL 64 RX4 yX4_bestSize wsX4_bestSize) := goodIn_app (goodIn_of _ (by decide +kernel)) ggL_areAlike_X4_bestSize
set_option maxRecDepth 20000 in
theorem ggL_areAlike_X4_couplesWith : GoodIn wsL_areAlike wsX4_couplesWith := goodIn_ca (goodIn_r _ [155, 8, 7, 156, 157, 4, 158, 159, 160, 161, 162, 163, 164, 52, 53, 12, 54, 22, 55, 56, 57, 58, 165, 69, 70, 71, 72, 73, 74, 75, 76, 77, 78, 79, 80, 81, 82, 83, 84, 85, 86, 87, 88, 89, 90, 91, 92, 93, 94, 95, 96, 97, 98, 99, 100, 101, 102, 103, 104, 105, 106, 107, 108, 109, 110, 111, 112, 113, 114, 115, 116, 117, 118, 119, 120, 121, 122, 123, 124, 125, 126, 127, 247, 248, 249, 250, 251, 252, 253, 254, 255, 256, 257, 258, 259, 260, 261, 262, 263, 264, 265, 266, 273, 274, 275, 276, 277, 278, 279, 280, 281, 267, 268, 269, 270, 271, 272] (by decide +kernel) (by decide +kernel)) (goodIn_sub (fun _ h => List.mem_cons_of_mem _ (List.mem_append_left _ (List.mem_append_right _ h))) (by decide +kernel))
set_option maxRecDepth 20000 in
theorem gL_areAlike_X4_couplesWith : GoodIn wsL_areAlike (wsV RL 67 RX4 yX4_couplesWith wsX4_couplesWith) := goodIn_app (goodIn_of _ (by decide +kernel)) ggL_areAlike_X4_couplesWith
set_option maxRecDepth 20000 in
theorem ggL_areAlike_X4_value : GoodIn wsL_areAlike wsX4_value := goodIn_ca (goodIn_r _ [169, 7, 156, 157, 4, 158, 159, 160, 161, 162, 163, 170, 171, 172, 12, 173, 14, 174, 15, 21, 22, 28, 29, 27, 24, 30, 23, 51, 52, 53, 54, 55, 56, 57, 58, 64, 65, 66, 67, 175, 176, 177, 178, 179, 180, 181, 182, 31, 88, 89, 183, 184, 185, 186, 25, 247, 248, 249, 250, 251, 252, 253, 254, 255, 256, 257, 258, 259, 260, 261, 262, 263, 264, 265, 266, 267, 268, 269, 270, 271, 272] (by decide +kernel) (by decide +kernel)) (goodIn_sub (fun _ h => List.mem_cons_of_mem _ (List.mem_append_left _ (List.mem_append_right _ h))) (by decide +kernel))
set_option maxRecDepth 20000 in
theorem gL_areAlike_X4_value : GoodIn wsL_areAlike (wsV RL 9 RX4 yX4_value wsX4_value) := goodIn_app (goodIn_of _ (by decide +kernel)) ggL_areAlike_X4_value
set_option maxRecDepth 20000 in
theorem ggL_areAlike_X4_shoes : GoodIn wsL_areAlike wsX4_shoes := goodIn_ca (goodIn_r _ [190, 8, 7, 191, 192, 156, 157, 4, 158, 193, 194, 195, 196, 197, 140, 77, 78, 71, 79, 80, 81, 82, 83, 84, 85, 86, 87, 88, 89, 90, 91, 92, 93, 94, 95, 96, 97, 98, 99, 100, 101, 102, 247, 248, 249, 250, 251, 252, 273, 274, 275, 276, 277, 278, 279, 280, 281, 253, 254, 255, 256, 257, 258, 259, 260, 261, 262, 263, 264, 265, 266, 267, 268, 269, 270, 271, 272] (by decide +kernel) (by decide +kernel)) (goodIn_sub (fun _ h => List.mem_cons_of_mem _ (List.mem_append_right _ h)) (by decide +kernel))
set_option maxRecDepth 20000 in
theorem gL_areAlike_X4_shoes : GoodIn wsL_areAlike (wsV RL 70 RX4 yX4_shoes wsX4_shoes) := goodIn_app (goodIn_of _ (by decide +kernel)) ggL_areAlike_X4_shoes
set_option maxRecDepth 20000 in
theorem ggL_areAlike_X4_guest : GoodIn wsL_areAlike wsX4_guest := goodIn_ca (goodIn_ca (goodIn_r _ [201, 7, 8, 202, 203, 204, 12, 205, 14, 15, 206, 207, 208, 35, 209, 37, 193, 194, 4, 195, 196, 197, 156, 157, 158, 159, 160, 161, 162, 163, 140, 77, 78, 71, 79, 80, 81, 82, 83, 84, 85, 86, 87, 88, 89, 90, 91, 92, 93, 94, 95, 96, 97, 98, 99, 100, 101, 102, 210, 211, 212, 213, 214, 215, 216, 217, 218, 219, 220, 104, 105, 106, 221, 222, 223, 224, 225, 180, 181, 182, 31, 226, 227, 228, 229, 247, 248, 249, 250, 251, 252, 253, 254, 255, 256, 257, 258, 259, 260, 261, 262, 263, 264, 265, 266, 267, 268, 269, 270, 271, 272, 273, 274, 275, 276, 277, 278, 279, 280, 281] (by decide +kernel) (by decide +kernel)) (goodIn_sub (fun _ h => List.mem_cons_of_mem _ (List.mem_append_right _ h)) (by decide +kernel))) (goodIn_sub (fun _ h => List.mem_cons_of_mem _ (List.mem_append_left _ (List.mem_append_right _ h))) (by decide +kernel))
set_option maxRecDepth 20000 in
theorem gL_areAlike_X4_guest : GoodIn wsL_areAlike (wsV RL 28 RX4 yX4_guest wsX4_guest) := goodIn_app (goodIn_of _ (by decide +kernel)) ggL_areAlike_X4_guest
set_option maxRecDepth 20000 in
theorem ggL_areAlike_L_other : GoodIn wsL_areAlike wsL_other := goodIn_r _ [233] (by decide +kernel) (by decide +kernel)
set_option maxRecDepth 20000 in
theorem gL_areAlike_L_other : GoodIn wsL_areAlike (va_wsS RL 25 yL_other wsL_other) := goodIn_app (goodIn_of _ (by decide +kernel)) ggL_areAlike_L_other
set_option maxRecDepth 20000 in
theorem ggL_areAlike_X4_next : GoodIn wsL_areAlike wsX4_next := goodIn_ca (goodIn_r _ [237, 7, 238, 8, 239, 206, 207, 208, 35, 209, 37, 193, 194, 4, 195, 196, 197, 240, 65, 66, 12, 67, 21, 51, 52, 53, 54, 22, 55, 56, 57, 58, 165, 69, 70, 71, 72, 73, 74, 75, 76, 77, 78, 79, 80, 81, 82, 83, 84, 85, 86, 87, 88, 89, 90, 91, 92, 93, 94, 95, 96, 97, 98, 99, 100, 101, 102, 103, 104, 105, 106, 107, 108, 109, 110, 111, 112, 113, 114, 115, 116, 117, 118, 119, 120, 121, 122, 123, 124, 125, 126, 127, 247, 248, 249, 250, 251, 252, 253, 254, 255, 256, 257, 258, 259, 260, 261, 262, 263, 264, 265, 266, 273, 274, 275, 276, 277, 278, 279, 280, 281, 267, 268, 269, 270, 271, 272] (by decide +kernel) (by decide +kernel)) (goodIn_sub (fun _ h => List.mem_cons_of_mem _ (List.mem_append_right _ h)) (by decide +kernel))
set_option maxRecDepth 20000 in
theorem gL_areAlike_X4_next : GoodIn wsL_areAlike (wsV RL 74 RX4 yX4_next wsX4_next) := goodIn_app (goodIn_of _ (by decide +kernel)) ggL_areAlike_X4_next
set_option maxRecDepth 20000 in
theorem ggL_areAlike_X4_danced : GoodIn wsL_areAlike wsX4_danced := goodIn_ca (goodIn_r _ [244, 7, 238, 245, 246, 206, 207, 208, 35, 209, 37, 193, 194, 4, 195, 196, 197, 247, 248, 249, 250, 251, 252, 253, 254, 255, 256, 257, 258, 259, 260, 261, 262, 263, 264, 265, 266, 267, 268, 269, 270, 271, 272] (by decide +kernel) (by decide +kernel)) (goodIn_sub (fun _ h => List.mem_cons_of_mem _ (List.mem_append_right _ h)) (by decide +kernel))
set_option maxRecDepth 20000 in
theorem gL_areAlike_X4_danced : GoodIn wsL_areAlike (wsV RL 77 RX4 yX4_danced wsX4_danced) := goodIn_app (goodIn_of _ (by decide +kernel)) ggL_areAlike_X4_danced
theorem dL_areAlike_0 : decode cL_areAlike 0 = .ok (.aload_n 0, 1) := by decide +kernel
theorem dL_areAlike_1 : decode cL_areAlike 1 = .ok (.invokevirtual 61, 3) := by decide +kernel
theorem dL_areAlike_4 : decode cL_areAlike 4 = .ok (.aload_n 1, 1) := by decide +kernel
theorem dL_areAlike_5 : decode cL_areAlike 5 = .ok (.invokevirtual 61, 3) := by decide +kernel
theorem dL_areAlike_8 : decode cL_areAlike 8 = .ok (.if_icmp .ne 31, 3) := by decide +kernel
theorem dL_areAlike_11 : decode cL_areAlike 11 = .ok (.aload_n 0, 1) := by decide +kernel
theorem dL_areAlike_12 : decode cL_areAlike 12 = .ok (.invokevirtual 64, 3) := by decide +kernel
theorem dL_areAlike_15 : decode cL_areAlike 15 = .ok (.aload_n 1, 1) := by decide +kernel
theorem dL_areAlike_16 : decode cL_areAlike 16 = .ok (.invokevirtual 64, 3) := by decide +kernel
theorem dL_areAlike_19 : decode cL_areAlike 19 = .ok (.if_icmp .ne 20, 3) := by decide +kernel
theorem dL_areAlike_22 : decode cL_areAlike 22 = .ok (.aload_n 0, 1) := by decide +kernel
theorem dL_areAlike_23 : decode cL_areAlike 23 = .ok (.iconst 2, 1) := by decide +kernel
theorem dL_areAlike_24 : decode cL_areAlike 24 = .ok (.invokevirtual 67, 3) := by decide +kernel
theorem dL_areAlike_27 : decode cL_areAlike 27 = .ok (.aload_n 1, 1) := by decide +kernel
theorem dL_areAlike_28 : decode cL_areAlike 28 = .ok (.iconst 2, 1) := by decide +kernel
theorem dL_areAlike_29 : decode cL_areAlike 29 = .ok (.invokevirtual 67, 3) := by decide +kernel
theorem dL_areAlike_32 : decode cL_areAlike 32 = .ok (.if_icmp .ne 7, 3) := by decide +kernel
theorem dL_areAlike_35 : decode cL_areAlike 35 = .ok (.iconst 1, 1) := by decide +kernel
theorem dL_areAlike_36 : decode cL_areAlike 36 = .ok (.goto 4, 3) := by decide +kernel
theorem dL_areAlike_39 : decode cL_areAlike 39 = .ok (.iconst 0, 1) := by decide +kernel
theorem dL_areAlike_40 : decode cL_areAlike 40 = .ok (.istore_n 2, 1) := by decide +kernel
theorem dL_areAlike_41 : decode cL_areAlike 41 = .ok (.iconst 2, 1) := by decide +kernel
theorem dL_areAlike_42 : decode cL_areAlike 42 = .ok (.istore_n 3, 1) := by decide +kernel
theorem dL_areAlike_43 : decode cL_areAlike 43 = .ok (.iload_n 3, 1) := by decide +kernel
theorem dL_areAlike_44 : decode cL_areAlike 44 = .ok (.bipush 14, 2) := by decide +kernel
theorem dL_areAlike_46 : decode cL_areAlike 46 = .ok (.if_icmp .ge 32, 3) := by decide +kernel
theorem dL_areAlike_49 : decode cL_areAlike 49 = .ok (.iload_n 2, 1) := by decide +kernel
theorem dL_areAlike_50 : decode cL_areAlike 50 = .ok (.ifCond .eq 20, 3) := by decide +kernel
theorem dL_areAlike_53 : decode cL_areAlike 53 = .ok (.aload_n 0, 1) := by decide +kernel
theorem dL_areAlike_54 : decode cL_areAlike 54 = .ok (.iload_n 3, 1) := by decide +kernel
theorem dL_areAlike_55 : decode cL_areAlike 55 = .ok (.invokevirtual 9, 3) := by decide +kernel
theorem dL_areAlike_58 : decode cL_areAlike 58 = .ok (.aload_n 1, 1) := by decide +kernel
theorem dL_areAlike_59 : decode cL_areAlike 59 = .ok (.iload_n 3, 1) := by decide +kernel
theorem dL_areAlike_60 : decode cL_areAlike 60 = .ok (.invokevirtual 9, 3) := by decide +kernel
theorem dL_areAlike_63 : decode cL_areAlike 63 = .ok (.if_icmp .ne 7, 3) := by decide +kernel
theorem dL_areAlike_66 : decode cL_areAlike 66 = .ok (.iconst 1, 1) := by decide +kernel
theorem dL_areAlike_67 : decode cL_areAlike 67 = .ok (.goto 4, 3) := by decide +kernel
theorem dL_areAlike_70 : decode cL_areAlike 70 = .ok (.iconst 0, 1) := by decide +kernel
theorem dL_areAlike_71 : decode cL_areAlike 71 = .ok (.istore_n 2, 1) := by decide +kernel
theorem dL_areAlike_72 : decode cL_areAlike 72 = .ok (.iinc 3 1, 3) := by decide +kernel
theorem dL_areAlike_75 : decode cL_areAlike 75 = .ok (.goto (-32), 3) := by decide +kernel
theorem dL_areAlike_78 : decode cL_areAlike 78 = .ok (.iconst 1, 1) := by decide +kernel
theorem dL_areAlike_79 : decode cL_areAlike 79 = .ok (.istore_n 3, 1) := by decide +kernel
theorem dL_areAlike_80 : decode cL_areAlike 80 = .ok (.iload_n 3, 1) := by decide +kernel
theorem dL_areAlike_81 : decode cL_areAlike 81 = .ok (.bipush 10, 2) := by decide +kernel
theorem dL_areAlike_83 : decode cL_areAlike 83 = .ok (.if_icmp .ge 34, 3) := by decide +kernel
theorem dL_areAlike_86 : decode cL_areAlike 86 = .ok (.iload_n 2, 1) := by decide +kernel
theorem dL_areAlike_87 : decode cL_areAlike 87 = .ok (.ifCond .eq 22, 3) := by decide +kernel
theorem dL_areAlike_90 : decode cL_areAlike 90 = .ok (.aload_n 0, 1) := by decide +kernel
theorem dL_areAlike_91 : decode cL_areAlike 91 = .ok (.iload_n 3, 1) := by decide +kernel
theorem dL_areAlike_92 : decode cL_areAlike 92 = .ok (.iconst 1, 1) := by decide +kernel
theorem dL_areAlike_93 : decode cL_areAlike 93 = .ok (.invokevirtual 70, 3) := by decide +kernel
theorem dL_areAlike_96 : decode cL_areAlike 96 = .ok (.aload_n 1, 1) := by decide +kernel
theorem dL_areAlike_97 : decode cL_areAlike 97 = .ok (.iload_n 3, 1) := by decide +kernel
theorem dL_areAlike_98 : decode cL_areAlike 98 = .ok (.iconst 1, 1) := by decide +kernel
theorem dL_areAlike_99 : decode cL_areAlike 99 = .ok (.invokevirtual 70, 3) := by decide +kernel
theorem dL_areAlike_102 : decode cL_areAlike 102 = .ok (.if_icmp .ne 7, 3) := by decide +kernel
theorem dL_areAlike_105 : decode cL_areAlike 105 = .ok (.iconst 1, 1) := by decide +kernel
theorem dL_areAlike_106 : decode cL_areAlike 106 = .ok (.goto 4, 3) := by decide +kernel
theorem dL_areAlike_109 : decode cL_areAlike 109 = .ok (.iconst 0, 1) := by decide +kernel
theorem dL_areAlike_110 : decode cL_areAlike 110 = .ok (.istore_n 2, 1) := by decide +kernel
theorem dL_areAlike_111 : decode cL_areAlike 111 = .ok (.iinc 3 1, 3) := by decide +kernel
theorem dL_areAlike_114 : decode cL_areAlike 114 = .ok (.goto (-34), 3) := by decide +kernel
theorem dL_areAlike_117 : decode cL_areAlike 117 = .ok (.iconst 0, 1) := by decide +kernel
theorem dL_areAlike_118 : decode cL_areAlike 118 = .ok (.istore_n 3, 1) := by decide +kernel
theorem dL_areAlike_119 : decode cL_areAlike 119 = .ok (.iload_n 3, 1) := by decide +kernel
theorem dL_areAlike_120 : decode cL_areAlike 120 = .ok (.bipush 8, 2) := by decide +kernel
theorem dL_areAlike_122 : decode cL_areAlike 122 = .ok (.if_icmp .ge 124, 3) := by decide +kernel
theorem dL_areAlike_125 : decode cL_areAlike 125 = .ok (.iload_n 2, 1) := by decide +kernel
theorem dL_areAlike_126 : decode cL_areAlike 126 = .ok (.ifCond .eq 120, 3) := by decide +kernel
theorem dL_areAlike_129 : decode cL_areAlike 129 = .ok (.iload_n 3, 1) := by decide +kernel
theorem dL_areAlike_130 : decode cL_areAlike 130 = .ok (.iconst 4, 1) := by decide +kernel
theorem dL_areAlike_131 : decode cL_areAlike 131 = .ok (.if_icmp .ge 7, 3) := by decide +kernel
theorem dL_areAlike_134 : decode cL_areAlike 134 = .ok (.iconst 1, 1) := by decide +kernel
theorem dL_areAlike_135 : decode cL_areAlike 135 = .ok (.goto 4, 3) := by decide +kernel
theorem dL_areAlike_138 : decode cL_areAlike 138 = .ok (.iconst 0, 1) := by decide +kernel
theorem dL_areAlike_139 : decode cL_areAlike 139 = .ok (.istore 4, 2) := by decide +kernel
theorem dL_areAlike_141 : decode cL_areAlike 141 = .ok (.iload_n 3, 1) := by decide +kernel
theorem dL_areAlike_142 : decode cL_areAlike 142 = .ok (.iconst 4, 1) := by decide +kernel
theorem dL_areAlike_143 : decode cL_areAlike 143 = .ok (.irem, 1) := by decide +kernel
theorem dL_areAlike_144 : decode cL_areAlike 144 = .ok (.aload_n 0, 1) := by decide +kernel
theorem dL_areAlike_145 : decode cL_areAlike 145 = .ok (.iload 4, 2) := by decide +kernel
theorem dL_areAlike_147 : decode cL_areAlike 147 = .ok (.ifCond .eq 7, 3) := by decide +kernel
theorem dL_areAlike_150 : decode cL_areAlike 150 = .ok (.iconst 0, 1) := by decide +kernel
theorem dL_areAlike_151 : decode cL_areAlike 151 = .ok (.goto 4, 3) := by decide +kernel
theorem dL_areAlike_154 : decode cL_areAlike 154 = .ok (.iconst 1, 1) := by decide +kernel
theorem dL_areAlike_155 : decode cL_areAlike 155 = .ok (.invokevirtual 9, 3) := by decide +kernel
theorem dL_areAlike_158 : decode cL_areAlike 158 = .ok (.if_icmp .ge 82, 3) := by decide +kernel
theorem dL_areAlike_161 : decode cL_areAlike 161 = .ok (.iconst 0, 1) := by decide +kernel
theorem dL_areAlike_162 : decode cL_areAlike 162 = .ok (.istore 5, 2) := by decide +kernel
theorem dL_areAlike_164 : decode cL_areAlike 164 = .ok (.iload 5, 2) := by decide +kernel
theorem dL_areAlike_166 : decode cL_areAlike 166 = .ok (.bipush 8, 2) := by decide +kernel
theorem dL_areAlike_168 : decode cL_areAlike 168 = .ok (.if_icmp .ge 47, 3) := by decide +kernel
theorem dL_areAlike_171 : decode cL_areAlike 171 = .ok (.iload_n 2, 1) := by decide +kernel
theorem dL_areAlike_172 : decode cL_areAlike 172 = .ok (.ifCond .eq 35, 3) := by decide +kernel
theorem dL_areAlike_175 : decode cL_areAlike 175 = .ok (.aload_n 0, 1) := by decide +kernel
theorem dL_areAlike_176 : decode cL_areAlike 176 = .ok (.iload 4, 2) := by decide +kernel
theorem dL_areAlike_178 : decode cL_areAlike 178 = .ok (.iload_n 3, 1) := by decide +kernel
theorem dL_areAlike_179 : decode cL_areAlike 179 = .ok (.iconst 4, 1) := by decide +kernel
theorem dL_areAlike_180 : decode cL_areAlike 180 = .ok (.irem, 1) := by decide +kernel
theorem dL_areAlike_181 : decode cL_areAlike 181 = .ok (.iload 5, 2) := by decide +kernel
theorem dL_areAlike_183 : decode cL_areAlike 183 = .ok (.invokevirtual 28, 3) := by decide +kernel
theorem dL_areAlike_186 : decode cL_areAlike 186 = .ok (.aload_n 1, 1) := by decide +kernel
theorem dL_areAlike_187 : decode cL_areAlike 187 = .ok (.iload 4, 2) := by decide +kernel
theorem dL_areAlike_189 : decode cL_areAlike 189 = .ok (.iload_n 3, 1) := by decide +kernel
theorem dL_areAlike_190 : decode cL_areAlike 190 = .ok (.iconst 4, 1) := by decide +kernel
theorem dL_areAlike_191 : decode cL_areAlike 191 = .ok (.irem, 1) := by decide +kernel
theorem dL_areAlike_192 : decode cL_areAlike 192 = .ok (.invokestatic 25, 3) := by decide +kernel
theorem dL_areAlike_195 : decode cL_areAlike 195 = .ok (.iload 5, 2) := by decide +kernel
theorem dL_areAlike_197 : decode cL_areAlike 197 = .ok (.invokevirtual 28, 3) := by decide +kernel
theorem dL_areAlike_200 : decode cL_areAlike 200 = .ok (.if_icmp .ne 7, 3) := by decide +kernel
theorem dL_areAlike_203 : decode cL_areAlike 203 = .ok (.iconst 1, 1) := by decide +kernel
theorem dL_areAlike_204 : decode cL_areAlike 204 = .ok (.goto 4, 3) := by decide +kernel
theorem dL_areAlike_207 : decode cL_areAlike 207 = .ok (.iconst 0, 1) := by decide +kernel
theorem dL_areAlike_208 : decode cL_areAlike 208 = .ok (.istore_n 2, 1) := by decide +kernel
theorem dL_areAlike_209 : decode cL_areAlike 209 = .ok (.iinc 5 1, 3) := by decide +kernel
theorem dL_areAlike_212 : decode cL_areAlike 212 = .ok (.goto (-48), 3) := by decide +kernel
theorem dL_areAlike_215 : decode cL_areAlike 215 = .ok (.iload_n 2, 1) := by decide +kernel
theorem dL_areAlike_216 : decode cL_areAlike 216 = .ok (.ifCond .eq 22, 3) := by decide +kernel
theorem dL_areAlike_219 : decode cL_areAlike 219 = .ok (.aload_n 1, 1) := by decide +kernel
theorem dL_areAlike_220 : decode cL_areAlike 220 = .ok (.iload 4, 2) := by decide +kernel
theorem dL_areAlike_222 : decode cL_areAlike 222 = .ok (.iconst 2, 1) := by decide +kernel
theorem dL_areAlike_223 : decode cL_areAlike 223 = .ok (.iload_n 3, 1) := by decide +kernel
theorem dL_areAlike_224 : decode cL_areAlike 224 = .ok (.iconst 4, 1) := by decide +kernel
theorem dL_areAlike_225 : decode cL_areAlike 225 = .ok (.irem, 1) := by decide +kernel
theorem dL_areAlike_226 : decode cL_areAlike 226 = .ok (.imul, 1) := by decide +kernel
theorem dL_areAlike_227 : decode cL_areAlike 227 = .ok (.iconst 4, 1) := by decide +kernel
theorem dL_areAlike_228 : decode cL_areAlike 228 = .ok (.invokevirtual 28, 3) := by decide +kernel
theorem dL_areAlike_231 : decode cL_areAlike 231 = .ok (.ifCond .ne 7, 3) := by decide +kernel
theorem dL_areAlike_234 : decode cL_areAlike 234 = .ok (.iconst 1, 1) := by decide +kernel
theorem dL_areAlike_235 : decode cL_areAlike 235 = .ok (.goto 4, 3) := by decide +kernel
theorem dL_areAlike_238 : decode cL_areAlike 238 = .ok (.iconst 0, 1) := by decide +kernel
theorem dL_areAlike_239 : decode cL_areAlike 239 = .ok (.istore_n 2, 1) := by decide +kernel
theorem dL_areAlike_240 : decode cL_areAlike 240 = .ok (.iinc 3 1, 3) := by decide +kernel
theorem dL_areAlike_243 : decode cL_areAlike 243 = .ok (.goto (-124), 3) := by decide +kernel
theorem dL_areAlike_246 : decode cL_areAlike 246 = .ok (.iconst 0, 1) := by decide +kernel
theorem dL_areAlike_247 : decode cL_areAlike 247 = .ok (.istore_n 3, 1) := by decide +kernel
theorem dL_areAlike_248 : decode cL_areAlike 248 = .ok (.iload_n 3, 1) := by decide +kernel
theorem dL_areAlike_249 : decode cL_areAlike 249 = .ok (.aload_n 0, 1) := by decide +kernel
theorem dL_areAlike_250 : decode cL_areAlike 250 = .ok (.iconst 0, 1) := by decide +kernel
theorem dL_areAlike_251 : decode cL_areAlike 251 = .ok (.invokevirtual 9, 3) := by decide +kernel
theorem dL_areAlike_254 : decode cL_areAlike 254 = .ok (.if_icmp .ge 101, 3) := by decide +kernel
theorem dL_areAlike_257 : decode cL_areAlike 257 = .ok (.iload_n 2, 1) := by decide +kernel
theorem dL_areAlike_258 : decode cL_areAlike 258 = .ok (.ifCond .eq 97, 3) := by decide +kernel
theorem dL_areAlike_261 : decode cL_areAlike 261 = .ok (.aload_n 0, 1) := by decide +kernel
theorem dL_areAlike_262 : decode cL_areAlike 262 = .ok (.iload_n 3, 1) := by decide +kernel
theorem dL_areAlike_263 : decode cL_areAlike 263 = .ok (.invokevirtual 74, 3) := by decide +kernel
theorem dL_areAlike_266 : decode cL_areAlike 266 = .ok (.invokestatic 25, 3) := by decide +kernel
theorem dL_areAlike_269 : decode cL_areAlike 269 = .ok (.aload_n 1, 1) := by decide +kernel
theorem dL_areAlike_270 : decode cL_areAlike 270 = .ok (.iload_n 3, 1) := by decide +kernel
theorem dL_areAlike_271 : decode cL_areAlike 271 = .ok (.invokestatic 25, 3) := by decide +kernel
theorem dL_areAlike_274 : decode cL_areAlike 274 = .ok (.invokevirtual 74, 3) := by decide +kernel
theorem dL_areAlike_277 : decode cL_areAlike 277 = .ok (.if_icmp .ne 18, 3) := by decide +kernel
theorem dL_areAlike_280 : decode cL_areAlike 280 = .ok (.aload_n 1, 1) := by decide +kernel
theorem dL_areAlike_281 : decode cL_areAlike 281 = .ok (.iconst 2, 1) := by decide +kernel
theorem dL_areAlike_282 : decode cL_areAlike 282 = .ok (.iload_n 3, 1) := by decide +kernel
theorem dL_areAlike_283 : decode cL_areAlike 283 = .ok (.imul, 1) := by decide +kernel
theorem dL_areAlike_284 : decode cL_areAlike 284 = .ok (.invokevirtual 74, 3) := by decide +kernel
theorem dL_areAlike_287 : decode cL_areAlike 287 = .ok (.iconst (-1), 1) := by decide +kernel
theorem dL_areAlike_288 : decode cL_areAlike 288 = .ok (.if_icmp .ne 7, 3) := by decide +kernel
theorem dL_areAlike_291 : decode cL_areAlike 291 = .ok (.iconst 1, 1) := by decide +kernel
theorem dL_areAlike_292 : decode cL_areAlike 292 = .ok (.goto 4, 3) := by decide +kernel
theorem dL_areAlike_295 : decode cL_areAlike 295 = .ok (.iconst 0, 1) := by decide +kernel
theorem dL_areAlike_296 : decode cL_areAlike 296 = .ok (.istore_n 2, 1) := by decide +kernel
theorem dL_areAlike_297 : decode cL_areAlike 297 = .ok (.iconst 0, 1) := by decide +kernel
theorem dL_areAlike_298 : decode cL_areAlike 298 = .ok (.istore 4, 2) := by decide +kernel
theorem dL_areAlike_300 : decode cL_areAlike 300 = .ok (.iload 4, 2) := by decide +kernel
theorem dL_areAlike_302 : decode cL_areAlike 302 = .ok (.aload_n 0, 1) := by decide +kernel
theorem dL_areAlike_303 : decode cL_areAlike 303 = .ok (.iconst 1, 1) := by decide +kernel
theorem dL_areAlike_304 : decode cL_areAlike 304 = .ok (.invokevirtual 9, 3) := by decide +kernel
theorem dL_areAlike_307 : decode cL_areAlike 307 = .ok (.if_icmp .ge 42, 3) := by decide +kernel
theorem dL_areAlike_310 : decode cL_areAlike 310 = .ok (.iload_n 2, 1) := by decide +kernel
theorem dL_areAlike_311 : decode cL_areAlike 311 = .ok (.ifCond .eq 30, 3) := by decide +kernel
theorem dL_areAlike_314 : decode cL_areAlike 314 = .ok (.aload_n 0, 1) := by decide +kernel
theorem dL_areAlike_315 : decode cL_areAlike 315 = .ok (.iload_n 3, 1) := by decide +kernel
theorem dL_areAlike_316 : decode cL_areAlike 316 = .ok (.iload 4, 2) := by decide +kernel
theorem dL_areAlike_318 : decode cL_areAlike 318 = .ok (.invokevirtual 77, 3) := by decide +kernel
theorem dL_areAlike_321 : decode cL_areAlike 321 = .ok (.aload_n 1, 1) := by decide +kernel
theorem dL_areAlike_322 : decode cL_areAlike 322 = .ok (.iload_n 3, 1) := by decide +kernel
theorem dL_areAlike_323 : decode cL_areAlike 323 = .ok (.invokestatic 25, 3) := by decide +kernel
theorem dL_areAlike_326 : decode cL_areAlike 326 = .ok (.iload 4, 2) := by decide +kernel
theorem dL_areAlike_328 : decode cL_areAlike 328 = .ok (.invokestatic 25, 3) := by decide +kernel
theorem dL_areAlike_331 : decode cL_areAlike 331 = .ok (.invokevirtual 77, 3) := by decide +kernel
theorem dL_areAlike_334 : decode cL_areAlike 334 = .ok (.if_icmp .ne 7, 3) := by decide +kernel
theorem dL_areAlike_337 : decode cL_areAlike 337 = .ok (.iconst 1, 1) := by decide +kernel
theorem dL_areAlike_338 : decode cL_areAlike 338 = .ok (.goto 4, 3) := by decide +kernel
theorem dL_areAlike_341 : decode cL_areAlike 341 = .ok (.iconst 0, 1) := by decide +kernel
theorem dL_areAlike_342 : decode cL_areAlike 342 = .ok (.istore_n 2, 1) := by decide +kernel
theorem dL_areAlike_343 : decode cL_areAlike 343 = .ok (.iinc 4 1, 3) := by decide +kernel
theorem dL_areAlike_346 : decode cL_areAlike 346 = .ok (.goto (-46), 3) := by decide +kernel
theorem dL_areAlike_349 : decode cL_areAlike 349 = .ok (.iinc 3 1, 3) := by decide +kernel
theorem dL_areAlike_352 : decode cL_areAlike 352 = .ok (.goto (-104), 3) := by decide +kernel
theorem dL_areAlike_355 : decode cL_areAlike 355 = .ok (.iload_n 2, 1) := by decide +kernel
theorem dL_areAlike_356 : decode cL_areAlike 356 = .ok (.ireturn, 1) := by decide +kernel
set_option maxRecDepth 20000 in
theorem ggL_isSound_X4_value : GoodIn wsL_isSound wsX4_value := goodIn_ca (goodIn_r _ [5, 6, 7, 8, 4, 9, 10, 11, 12, 13, 14, 15, 16, 17, 18, 19, 20, 21, 22, 23, 24, 25, 26, 27, 28, 29, 30, 31, 32, 33, 34, 35, 36, 37, 38, 39, 40, 41, 42, 43, 44, 45, 46, 47, 48, 49, 50, 51, 52, 53, 54, 55, 56, 57, 58, 170, 171, 172, 173, 174, 175, 176, 177, 178, 179, 180, 181, 182, 183, 184, 185, 186, 187, 188, 189, 190, 191, 192, 193, 194, 195] (by decide +kernel) (by decide +kernel)) (goodIn_sub (fun _ h => List.mem_cons_of_mem _ (List.mem_append_left _ (List.mem_append_right _ h))) (by decide +kernel))
set_option maxRecDepth 20000 in
theorem gL_isSound_X4_value : GoodIn wsL_isSound (wsV RL 9 RX4 yX4_value wsX4_value) := goodIn_app (goodIn_of _ (by decide +kernel)) ggL_isSound_X4_value
set_option maxRecDepth 20000 in
theorem ggL_isSound_X4_guest : GoodIn wsL_isSound wsX4_guest := goodIn_ca (goodIn_ca (goodIn_r _ [62, 6, 63, 64, 65, 66, 18, 67, 20, 22, 68, 69, 70, 71, 72, 73, 74, 75, 4, 76, 77, 78, 7, 8, 9, 10, 11, 12, 13, 14, 79, 80, 81, 82, 83, 84, 85, 86, 87, 88, 89, 90, 91, 52, 53, 92, 93, 94, 95, 96, 97, 98, 99, 100, 101, 102, 103, 104, 105, 106, 107, 108, 109, 110, 111, 112, 113, 114, 115, 116, 117, 118, 119, 120, 121, 122, 123, 48, 49, 50, 51, 124, 125, 126, 127, 170, 171, 172, 173, 174, 175, 176, 177, 178, 179, 180, 181, 182, 183, 184, 185, 186, 187, 188, 189, 190, 191, 192, 193, 194, 195, 196, 197, 198, 199, 200, 201, 202, 203, 204] (by decide +kernel) (by decide +kernel)) (goodIn_sub (fun _ h => List.mem_cons_of_mem _ (List.mem_append_right _ h)) (by decide +kernel))) (goodIn_sub (fun _ h => List.mem_cons_of_mem _ (List.mem_append_left _ (List.mem_append_right _ h))) (by decide +kernel))
set_option maxRecDepth 20000 in
theorem gL_isSound_X4_guest : GoodIn wsL_isSound (wsV RL 28 RX4 yX4_guest wsX4_guest) := goodIn_app (goodIn_of _ (by decide +kernel)) ggL_isSound_X4_guest
set_option maxRecDepth 20000 in
theorem ggL_isSound_X4_danced : GoodIn wsL_isSound wsX4_danced := goodIn_ca (goodIn_r _ [131, 6, 132, 133, 134, 68, 69, 70, 71, 72, 73, 74, 75, 4, 76, 77, 78, 170, 171, 172, 173, 174, 175, 176, 177, 178, 179, 180, 181, 182, 183, 184, 185, 186, 187, 188, 189, 190, 191, 192, 193, 194, 195] (by decide +kernel) (by decide +kernel)) (goodIn_sub (fun _ h => List.mem_cons_of_mem _ (List.mem_append_right _ h)) (by decide +kernel))
set_option maxRecDepth 20000 in
theorem gL_isSound_X4_danced : GoodIn wsL_isSound (wsV RL 77 RX4 yX4_danced wsX4_danced) := goodIn_app (goodIn_of _ (by decide +kernel)) ggL_isSound_X4_danced
set_option maxRecDepth 20000 in
theorem ggL_isSound_X4_couplesWith : GoodIn wsL_isSound wsX4_couplesWith := goodIn_ca (goodIn_r _ [138, 63, 6, 7, 8, 4, 9, 10, 11, 12, 13, 14, 139, 32, 33, 18, 34, 24, 35, 36, 37, 38, 140, 141, 142, 82, 143, 144, 145, 146, 147, 80, 81, 83, 84, 85, 86, 87, 88, 89, 90, 91, 52, 53, 92, 93, 94, 95, 96, 97, 98, 99, 100, 101, 102, 103, 104, 148, 116, 117, 118, 149, 150, 151, 152, 153, 154, 155, 156, 157, 158, 159, 160, 161, 162, 163, 164, 165, 166, 167, 168, 169, 170, 171, 172, 173, 174, 175, 176, 177, 178, 179, 180, 181, 182, 183, 184, 185, 186, 187, 188, 189, 196, 197, 198, 199, 200, 201, 202, 203, 204, 190, 191, 192, 193, 194, 195] (by decide +kernel) (by decide +kernel)) (goodIn_sub (fun _ h => List.mem_cons_of_mem _ (List.mem_append_left _ (List.mem_append_right _ h))) (by decide +kernel))
set_option maxRecDepth 20000 in
theorem gL_isSound_X4_couplesWith : GoodIn wsL_isSound (wsV RL 67 RX4 yX4_couplesWith wsX4_couplesWith) := goodIn_app (goodIn_of _ (by decide +kernel)) ggL_isSound_X4_couplesWith
theorem dL_isSound_0 : decode cL_isSound 0 = .ok (.iconst 0, 1) := by decide +kernel
theorem dL_isSound_1 : decode cL_isSound 1 = .ok (.istore_n 1, 1) := by decide +kernel
theorem dL_isSound_2 : decode cL_isSound 2 = .ok (.iconst 0, 1) := by decide +kernel
theorem dL_isSound_3 : decode cL_isSound 3 = .ok (.istore_n 2, 1) := by decide +kernel
theorem dL_isSound_4 : decode cL_isSound 4 = .ok (.iconst 0, 1) := by decide +kernel
theorem dL_isSound_5 : decode cL_isSound 5 = .ok (.istore_n 3, 1) := by decide +kernel
theorem dL_isSound_6 : decode cL_isSound 6 = .ok (.iload_n 3, 1) := by decide +kernel
theorem dL_isSound_7 : decode cL_isSound 7 = .ok (.aload_n 0, 1) := by decide +kernel
theorem dL_isSound_8 : decode cL_isSound 8 = .ok (.iconst 0, 1) := by decide +kernel
theorem dL_isSound_9 : decode cL_isSound 9 = .ok (.invokevirtual 9, 3) := by decide +kernel
theorem dL_isSound_12 : decode cL_isSound 12 = .ok (.if_icmp .ge 57, 3) := by decide +kernel
theorem dL_isSound_15 : decode cL_isSound 15 = .ok (.iload_n 1, 1) := by decide +kernel
theorem dL_isSound_16 : decode cL_isSound 16 = .ok (.aload_n 0, 1) := by decide +kernel
theorem dL_isSound_17 : decode cL_isSound 17 = .ok (.iconst 1, 1) := by decide +kernel
theorem dL_isSound_18 : decode cL_isSound 18 = .ok (.iload_n 3, 1) := by decide +kernel
theorem dL_isSound_19 : decode cL_isSound 19 = .ok (.bipush 6, 2) := by decide +kernel
theorem dL_isSound_21 : decode cL_isSound 21 = .ok (.invokevirtual 28, 3) := by decide +kernel
theorem dL_isSound_24 : decode cL_isSound 24 = .ok (.iadd, 1) := by decide +kernel
theorem dL_isSound_25 : decode cL_isSound 25 = .ok (.istore_n 1, 1) := by decide +kernel
theorem dL_isSound_26 : decode cL_isSound 26 = .ok (.iconst 0, 1) := by decide +kernel
theorem dL_isSound_27 : decode cL_isSound 27 = .ok (.istore 4, 2) := by decide +kernel
theorem dL_isSound_29 : decode cL_isSound 29 = .ok (.iload 4, 2) := by decide +kernel
theorem dL_isSound_31 : decode cL_isSound 31 = .ok (.aload_n 0, 1) := by decide +kernel
theorem dL_isSound_32 : decode cL_isSound 32 = .ok (.iconst 1, 1) := by decide +kernel
theorem dL_isSound_33 : decode cL_isSound 33 = .ok (.invokevirtual 9, 3) := by decide +kernel
theorem dL_isSound_36 : decode cL_isSound 36 = .ok (.if_icmp .ge 27, 3) := by decide +kernel
theorem dL_isSound_39 : decode cL_isSound 39 = .ok (.iload_n 2, 1) := by decide +kernel
theorem dL_isSound_40 : decode cL_isSound 40 = .ok (.aload_n 0, 1) := by decide +kernel
theorem dL_isSound_41 : decode cL_isSound 41 = .ok (.iload_n 3, 1) := by decide +kernel
theorem dL_isSound_42 : decode cL_isSound 42 = .ok (.iload 4, 2) := by decide +kernel
theorem dL_isSound_44 : decode cL_isSound 44 = .ok (.invokevirtual 77, 3) := by decide +kernel
theorem dL_isSound_47 : decode cL_isSound 47 = .ok (.ifCond .lt 7, 3) := by decide +kernel
theorem dL_isSound_50 : decode cL_isSound 50 = .ok (.iconst 1, 1) := by decide +kernel
theorem dL_isSound_51 : decode cL_isSound 51 = .ok (.goto 4, 3) := by decide +kernel
theorem dL_isSound_54 : decode cL_isSound 54 = .ok (.iconst 0, 1) := by decide +kernel
theorem dL_isSound_55 : decode cL_isSound 55 = .ok (.iadd, 1) := by decide +kernel
theorem dL_isSound_56 : decode cL_isSound 56 = .ok (.istore_n 2, 1) := by decide +kernel
theorem dL_isSound_57 : decode cL_isSound 57 = .ok (.iinc 4 1, 3) := by decide +kernel
theorem dL_isSound_60 : decode cL_isSound 60 = .ok (.goto (-31), 3) := by decide +kernel
theorem dL_isSound_63 : decode cL_isSound 63 = .ok (.iinc 3 1, 3) := by decide +kernel
theorem dL_isSound_66 : decode cL_isSound 66 = .ok (.goto (-60), 3) := by decide +kernel
theorem dL_isSound_69 : decode cL_isSound 69 = .ok (.iconst 0, 1) := by decide +kernel
theorem dL_isSound_70 : decode cL_isSound 70 = .ok (.istore_n 3, 1) := by decide +kernel
theorem dL_isSound_71 : decode cL_isSound 71 = .ok (.iload_n 3, 1) := by decide +kernel
theorem dL_isSound_72 : decode cL_isSound 72 = .ok (.aload_n 0, 1) := by decide +kernel
theorem dL_isSound_73 : decode cL_isSound 73 = .ok (.iconst 1, 1) := by decide +kernel
theorem dL_isSound_74 : decode cL_isSound 74 = .ok (.invokevirtual 9, 3) := by decide +kernel
theorem dL_isSound_77 : decode cL_isSound 77 = .ok (.if_icmp .ge 20, 3) := by decide +kernel
theorem dL_isSound_80 : decode cL_isSound 80 = .ok (.iload_n 1, 1) := by decide +kernel
theorem dL_isSound_81 : decode cL_isSound 81 = .ok (.aload_n 0, 1) := by decide +kernel
theorem dL_isSound_82 : decode cL_isSound 82 = .ok (.iconst 0, 1) := by decide +kernel
theorem dL_isSound_83 : decode cL_isSound 83 = .ok (.iload_n 3, 1) := by decide +kernel
theorem dL_isSound_84 : decode cL_isSound 84 = .ok (.bipush 6, 2) := by decide +kernel
theorem dL_isSound_86 : decode cL_isSound 86 = .ok (.invokevirtual 28, 3) := by decide +kernel
theorem dL_isSound_89 : decode cL_isSound 89 = .ok (.isub, 1) := by decide +kernel
theorem dL_isSound_90 : decode cL_isSound 90 = .ok (.istore_n 1, 1) := by decide +kernel
theorem dL_isSound_91 : decode cL_isSound 91 = .ok (.iinc 3 1, 3) := by decide +kernel
theorem dL_isSound_94 : decode cL_isSound 94 = .ok (.goto (-23), 3) := by decide +kernel
theorem dL_isSound_97 : decode cL_isSound 97 = .ok (.iload_n 1, 1) := by decide +kernel
theorem dL_isSound_98 : decode cL_isSound 98 = .ok (.ifCond .ne 77, 3) := by decide +kernel
theorem dL_isSound_101 : decode cL_isSound 101 = .ok (.iload_n 2, 1) := by decide +kernel
theorem dL_isSound_102 : decode cL_isSound 102 = .ok (.aload_n 0, 1) := by decide +kernel
theorem dL_isSound_103 : decode cL_isSound 103 = .ok (.bipush 8, 2) := by decide +kernel
theorem dL_isSound_105 : decode cL_isSound 105 = .ok (.invokevirtual 9, 3) := by decide +kernel
theorem dL_isSound_108 : decode cL_isSound 108 = .ok (.if_icmp .ne 67, 3) := by decide +kernel
theorem dL_isSound_111 : decode cL_isSound 111 = .ok (.aload_n 0, 1) := by decide +kernel
theorem dL_isSound_112 : decode cL_isSound 112 = .ok (.bipush 9, 2) := by decide +kernel
theorem dL_isSound_114 : decode cL_isSound 114 = .ok (.invokevirtual 9, 3) := by decide +kernel
theorem dL_isSound_117 : decode cL_isSound 117 = .ok (.iconst 2, 1) := by decide +kernel
theorem dL_isSound_118 : decode cL_isSound 118 = .ok (.irem, 1) := by decide +kernel
theorem dL_isSound_119 : decode cL_isSound 119 = .ok (.ifCond .ne 56, 3) := by decide +kernel
theorem dL_isSound_122 : decode cL_isSound 122 = .ok (.aload_n 0, 1) := by decide +kernel
theorem dL_isSound_123 : decode cL_isSound 123 = .ok (.bipush 9, 2) := by decide +kernel
theorem dL_isSound_125 : decode cL_isSound 125 = .ok (.invokevirtual 9, 3) := by decide +kernel
theorem dL_isSound_128 : decode cL_isSound 128 = .ok (.iconst 2, 1) := by decide +kernel
theorem dL_isSound_129 : decode cL_isSound 129 = .ok (.aload_n 0, 1) := by decide +kernel
theorem dL_isSound_130 : decode cL_isSound 130 = .ok (.bipush 8, 2) := by decide +kernel
theorem dL_isSound_132 : decode cL_isSound 132 = .ok (.invokevirtual 9, 3) := by decide +kernel
theorem dL_isSound_135 : decode cL_isSound 135 = .ok (.imul, 1) := by decide +kernel
theorem dL_isSound_136 : decode cL_isSound 136 = .ok (.if_icmp .ne 39, 3) := by decide +kernel
theorem dL_isSound_139 : decode cL_isSound 139 = .ok (.aload_n 0, 1) := by decide +kernel
theorem dL_isSound_140 : decode cL_isSound 140 = .ok (.iconst 5, 1) := by decide +kernel
theorem dL_isSound_141 : decode cL_isSound 141 = .ok (.invokevirtual 9, 3) := by decide +kernel
theorem dL_isSound_144 : decode cL_isSound 144 = .ok (.iconst 2, 1) := by decide +kernel
theorem dL_isSound_145 : decode cL_isSound 145 = .ok (.aload_n 0, 1) := by decide +kernel
theorem dL_isSound_146 : decode cL_isSound 146 = .ok (.iconst 4, 1) := by decide +kernel
theorem dL_isSound_147 : decode cL_isSound 147 = .ok (.invokevirtual 9, 3) := by decide +kernel
theorem dL_isSound_150 : decode cL_isSound 150 = .ok (.imul, 1) := by decide +kernel
theorem dL_isSound_151 : decode cL_isSound 151 = .ok (.if_icmp .ne 24, 3) := by decide +kernel
theorem dL_isSound_154 : decode cL_isSound 154 = .ok (.aload_n 0, 1) := by decide +kernel
theorem dL_isSound_155 : decode cL_isSound 155 = .ok (.aload_n 0, 1) := by decide +kernel
theorem dL_isSound_156 : decode cL_isSound 156 = .ok (.iconst 2, 1) := by decide +kernel
theorem dL_isSound_157 : decode cL_isSound 157 = .ok (.invokevirtual 9, 3) := by decide +kernel
theorem dL_isSound_160 : decode cL_isSound 160 = .ok (.invokevirtual 67, 3) := by decide +kernel
theorem dL_isSound_163 : decode cL_isSound 163 = .ok (.aload_n 0, 1) := by decide +kernel
theorem dL_isSound_164 : decode cL_isSound 164 = .ok (.iconst 5, 1) := by decide +kernel
theorem dL_isSound_165 : decode cL_isSound 165 = .ok (.invokevirtual 9, 3) := by decide +kernel
theorem dL_isSound_168 : decode cL_isSound 168 = .ok (.if_icmp .gt 7, 3) := by decide +kernel
theorem dL_isSound_171 : decode cL_isSound 171 = .ok (.iconst 1, 1) := by decide +kernel
theorem dL_isSound_172 : decode cL_isSound 172 = .ok (.goto 4, 3) := by decide +kernel
theorem dL_isSound_175 : decode cL_isSound 175 = .ok (.iconst 0, 1) := by decide +kernel
theorem dL_isSound_176 : decode cL_isSound 176 = .ok (.ireturn, 1) := by decide +kernel
