theorem dL_cell_0 : decode cL_cell 0 = .ok (.iload_n 1, 1) := by decide +kernel
theorem dL_cell_1 : decode cL_cell 1 = .ok (.aload_n 0, 1) := by decide +kernel
theorem dL_cell_2 : decode cL_cell 2 = .ok (.arraylength, 1) := by decide +kernel
theorem dL_cell_3 : decode cL_cell 3 = .ok (.if_icmp .ge 9, 3) := by decide +kernel
theorem dL_cell_6 : decode cL_cell 6 = .ok (.aload_n 0, 1) := by decide +kernel
theorem dL_cell_7 : decode cL_cell 7 = .ok (.iload_n 1, 1) := by decide +kernel
theorem dL_cell_8 : decode cL_cell 8 = .ok (.iaload, 1) := by decide +kernel
theorem dL_cell_9 : decode cL_cell 9 = .ok (.goto 11, 3) := by decide +kernel
theorem dL_cell_12 : decode cL_cell 12 = .ok (.ldc 7, 2) := by decide +kernel
theorem dL_cell_14 : decode cL_cell 14 = .ok (.iload_n 1, 1) := by decide +kernel
theorem dL_cell_15 : decode cL_cell 15 = .ok (.sipush 601, 3) := by decide +kernel
theorem dL_cell_18 : decode cL_cell 18 = .ok (.iadd, 1) := by decide +kernel
theorem dL_cell_19 : decode cL_cell 19 = .ok (.imul, 1) := by decide +kernel
theorem dL_cell_20 : decode cL_cell 20 = .ok (.ireturn, 1) := by decide +kernel
theorem dL_up_0 : decode cL_up 0 = .ok (.iload_n 0, 1) := by decide +kernel
theorem dL_up_1 : decode cL_up 1 = .ok (.ldc 8, 2) := by decide +kernel
theorem dL_up_3 : decode cL_up 3 = .ok (.iand, 1) := by decide +kernel
theorem dL_up_4 : decode cL_up 4 = .ok (.iload_n 1, 1) := by decide +kernel
theorem dL_up_5 : decode cL_up 5 = .ok (.irem, 1) := by decide +kernel
theorem dL_up_6 : decode cL_up 6 = .ok (.ireturn, 1) := by decide +kernel
theorem dL_other_0 : decode cL_other 0 = .ok (.iload_n 0, 1) := by decide +kernel
theorem dL_other_1 : decode cL_other 1 = .ok (.ifCond .ge 7, 3) := by decide +kernel
theorem dL_other_4 : decode cL_other 4 = .ok (.iload_n 0, 1) := by decide +kernel
theorem dL_other_5 : decode cL_other 5 = .ok (.goto 8, 3) := by decide +kernel
theorem dL_other_8 : decode cL_other 8 = .ok (.iconst 2, 1) := by decide +kernel
theorem dL_other_9 : decode cL_other 9 = .ok (.iload_n 0, 1) := by decide +kernel
theorem dL_other_10 : decode cL_other 10 = .ok (.imul, 1) := by decide +kernel
theorem dL_other_11 : decode cL_other 11 = .ok (.iconst 1, 1) := by decide +kernel
theorem dL_other_12 : decode cL_other 12 = .ok (.iadd, 1) := by decide +kernel
theorem dL_other_13 : decode cL_other 13 = .ok (.ireturn, 1) := by decide +kernel
set_option maxRecDepth 20000 in
theorem ggL_isStep_X4_value : GoodIn wsL_isStep wsX4_value := goodIn_ca (goodIn_r _ [5, 6, 7, 8, 4, 9, 10, 11, 12, 13, 14, 15, 16, 17, 18, 19, 20, 21, 22, 23, 24, 25, 26, 27, 28, 29, 30, 31, 32, 33, 34, 35, 36, 37, 38, 39, 40, 41, 42, 43, 44, 45, 46, 47, 48, 49, 50, 51, 52, 53, 54, 55, 56, 57, 58, 299, 300, 301, 302, 303, 304, 305, 306, 307, 308, 309, 310, 311, 312, 313, 314, 315, 316, 317, 318, 319, 320, 321, 322, 323, 324] (by decide +kernel) (by decide +kernel)) (goodIn_sub (fun _ h => List.mem_cons_of_mem _ (List.mem_append_left _ (List.mem_append_left _ (List.mem_append_right _ h)))) (by decide +kernel))
set_option maxRecDepth 20000 in
theorem gL_isStep_X4_value : GoodIn wsL_isStep (wsV RL 9 RX4 yX4_value wsX4_value) := goodIn_app (goodIn_of _ (by decide +kernel)) ggL_isStep_X4_value
set_option maxRecDepth 20000 in
theorem ggL_isStep_L_up : GoodIn wsL_isStep wsL_up := goodIn_r _ [62, 63] (by decide +kernel) (by decide +kernel)
set_option maxRecDepth 20000 in
theorem gL_isStep_L_up : GoodIn wsL_isStep (va_wsS RL 15 yL_up wsL_up) := goodIn_app (goodIn_of _ (by decide +kernel)) ggL_isStep_L_up
set_option maxRecDepth 20000 in
theorem ggL_isStep_X4_addGuest : GoodIn wsL_isStep wsX4_addGuest := goodIn_ca (goodIn_ca (goodIn_r _ [67, 6, 7, 8, 4, 9, 10, 11, 12, 13, 14, 68, 69, 70, 18, 71, 20, 22, 72, 73, 74, 75, 76, 77, 78, 79, 80, 81, 82, 83, 84, 85, 86, 87, 88, 89, 90, 91, 92, 93, 94, 95, 96, 97, 23, 24, 30, 28, 58, 98, 27, 25, 26, 29, 51, 99, 100, 101, 102, 103, 104, 105, 106, 107, 108, 109, 110, 111, 112, 299, 300, 301, 302, 303, 304, 305, 306, 307, 308, 309, 310, 311, 312, 313, 314, 315, 316, 317, 318, 319, 320, 321, 322, 323, 324] (by decide +kernel) (by decide +kernel)) (goodIn_sub (fun _ h => List.mem_cons_of_mem _ (List.mem_append_left _ (List.mem_append_left _ (List.mem_append_right _ h)))) (by decide +kernel))) (goodIn_sub (fun _ h => List.mem_cons_of_mem _ (List.mem_append_left _ (List.mem_append_right _ h))) (by decide +kernel))
set_option maxRecDepth 20000 in
theorem gL_isStep_X4_addGuest : GoodIn wsL_isStep (wsV RL 21 RX4 yX4_addGuest wsX4_addGuest) := goodIn_app (goodIn_of _ (by decide +kernel)) ggL_isStep_X4_addGuest
set_option maxRecDepth 20000 in
theorem ggL_isStep_L_other : GoodIn wsL_isStep wsL_other := goodIn_r _ [115] (by decide +kernel) (by decide +kernel)
set_option maxRecDepth 20000 in
theorem gL_isStep_L_other : GoodIn wsL_isStep (va_wsS RL 25 yL_other wsL_other) := goodIn_app (goodIn_of _ (by decide +kernel)) ggL_isStep_L_other
set_option maxRecDepth 20000 in
theorem ggL_isStep_X4_guest : GoodIn wsL_isStep wsX4_guest := goodIn_ca (goodIn_ca (goodIn_r _ [119, 6, 120, 68, 69, 70, 18, 71, 20, 22, 121, 122, 123, 75, 124, 77, 125, 126, 4, 127, 128, 129, 7, 8, 9, 10, 11, 12, 13, 14, 130, 131, 132, 133, 134, 135, 136, 137, 138, 139, 140, 141, 142, 52, 53, 143, 144, 145, 146, 147, 148, 149, 150, 151, 152, 153, 154, 155, 156, 157, 158, 159, 160, 161, 162, 163, 164, 165, 166, 167, 168, 169, 170, 171, 172, 173, 174, 48, 49, 50, 51, 175, 176, 177, 178, 299, 300, 301, 302, 303, 304, 305, 306, 307, 308, 309, 310, 311, 312, 313, 314, 315, 316, 317, 318, 319, 320, 321, 322, 323, 324, 325, 326, 327, 328, 329, 330, 331, 332, 333] (by decide +kernel) (by decide +kernel)) (goodIn_sub (fun _ h => List.mem_cons_of_mem _ (List.mem_append_right _ h)) (by decide +kernel))) (goodIn_sub (fun _ h => List.mem_cons_of_mem _ (List.mem_append_left _ (List.mem_append_left _ (List.mem_append_right _ h)))) (by decide +kernel))
set_option maxRecDepth 20000 in
theorem gL_isStep_X4_guest : GoodIn wsL_isStep (wsV RL 28 RX4 yX4_guest wsX4_guest) := goodIn_app (goodIn_of _ (by decide +kernel)) ggL_isStep_X4_guest
set_option maxRecDepth 20000 in
theorem ggL_isStep_X4_giveTokens : GoodIn wsL_isStep wsX4_giveTokens := goodIn_ca (goodIn_ca (goodIn_ca (goodIn_r _ [182, 6, 160, 68, 69, 70, 18, 71, 20, 22, 121, 122, 123, 75, 124, 77, 125, 126, 4, 127, 128, 129, 7, 8, 9, 10, 11, 12, 13, 14, 78, 79, 80, 81, 82, 83, 84, 85, 86, 87, 88, 89, 90, 91, 92, 93, 94, 95, 96, 97, 23, 24, 30, 28, 58, 98, 27, 25, 26, 29, 51, 99, 100, 101, 102, 103, 104, 105, 106, 107, 299, 300, 301, 302, 303, 304, 319, 320, 321, 322, 323, 324, 305, 306, 307, 308, 309, 310, 311, 312, 313, 314, 315, 316, 317, 318] (by decide +kernel) (by decide +kernel)) (goodIn_sub (fun _ h => List.mem_cons_of_mem _ (List.mem_append_right _ h)) (by decide +kernel))) (goodIn_sub (fun _ h => List.mem_cons_of_mem _ (List.mem_append_left _ (List.mem_append_left _ (List.mem_append_right _ h)))) (by decide +kernel))) (goodIn_sub (fun _ h => List.mem_cons_of_mem _ (List.mem_append_left _ (List.mem_append_right _ h))) (by decide +kernel))
set_option maxRecDepth 20000 in
theorem gL_isStep_X4_giveTokens : GoodIn wsL_isStep (wsV RL 32 RX4 yX4_giveTokens wsX4_giveTokens) := goodIn_app (goodIn_of _ (by decide +kernel)) ggL_isStep_X4_giveTokens
set_option maxRecDepth 20000 in
theorem ggL_isStep_X4_setHere : GoodIn wsL_isStep wsX4_setHere := goodIn_ca (goodIn_r _ [186, 6, 163, 68, 69, 70, 18, 71, 20, 22, 121, 122, 123, 75, 124, 77, 125, 126, 4, 127, 128, 129, 83, 84, 85, 86, 87, 88, 89, 90, 91, 92, 93, 94, 95, 96, 97, 23, 24, 30, 28, 58, 98, 27, 25, 26, 29, 51, 99, 100, 101, 102, 103, 104, 105, 106, 107, 165, 52, 53, 299, 300, 301, 302, 303, 304, 319, 320, 321, 322, 323, 324, 305, 306, 307, 308, 309, 310, 311, 312, 313, 314, 315, 316, 317, 318] (by decide +kernel) (by decide +kernel)) (goodIn_sub (fun _ h => List.mem_cons_of_mem _ (List.mem_append_right _ h)) (by decide +kernel))
set_option maxRecDepth 20000 in
theorem gL_isStep_X4_setHere : GoodIn wsL_isStep (wsV RL 35 RX4 yX4_setHere wsX4_setHere) := goodIn_app (goodIn_of _ (by decide +kernel)) ggL_isStep_X4_setHere
set_option maxRecDepth 20000 in
theorem ggL_isStep_X4_setShoes : GoodIn wsL_isStep wsX4_setShoes := goodIn_ca (goodIn_ca (goodIn_r _ [190, 6, 191, 7, 8, 4, 9, 125, 126, 127, 128, 129, 10, 11, 12, 13, 14, 83, 84, 85, 86, 87, 88, 89, 90, 91, 18, 92, 20, 22, 93, 94, 95, 96, 97, 23, 24, 30, 28, 58, 98, 27, 25, 26, 29, 51, 99, 100, 101, 75, 102, 77, 103, 104, 105, 106, 107, 299, 300, 301, 302, 303, 304, 305, 306, 307, 308, 309, 310, 311, 312, 313, 314, 315, 316, 317, 318, 319, 320, 321, 322, 323, 324] (by decide +kernel) (by decide +kernel)) (goodIn_sub (fun _ h => List.mem_cons_of_mem _ (List.mem_append_right _ h)) (by decide +kernel))) (goodIn_sub (fun _ h => List.mem_cons_of_mem _ (List.mem_append_left _ (List.mem_append_left _ (List.mem_append_right _ h)))) (by decide +kernel))
set_option maxRecDepth 20000 in
theorem gL_isStep_X4_setShoes : GoodIn wsL_isStep (wsV RL 39 RX4 yX4_setShoes wsX4_setShoes) := goodIn_app (goodIn_of _ (by decide +kernel)) ggL_isStep_X4_setShoes
set_option maxRecDepth 20000 in
theorem ggL_isStep_X4_setLamps : GoodIn wsL_isStep wsX4_setLamps := goodIn_ca (goodIn_r _ [195, 6, 196, 197, 7, 8, 4, 9, 10, 11, 12, 13, 14, 83, 84, 85, 86, 87, 88, 89, 90, 91, 18, 92, 20, 22, 93, 94, 95, 96, 97, 23, 24, 30, 28, 58, 98, 27, 25, 26, 29, 51, 99, 100, 101, 75, 102, 77, 103, 104, 105, 106, 107, 299, 300, 301, 302, 303, 304, 305, 306, 307, 308, 309, 310, 311, 312, 313, 314, 315, 316, 317, 318, 319, 320, 321, 322, 323, 324] (by decide +kernel) (by decide +kernel)) (goodIn_sub (fun _ h => List.mem_cons_of_mem _ (List.mem_append_left _ (List.mem_append_left _ (List.mem_append_right _ h)))) (by decide +kernel))
set_option maxRecDepth 20000 in
theorem gL_isStep_X4_setLamps : GoodIn wsL_isStep (wsV RL 42 RX4 yX4_setLamps wsX4_setLamps) := goodIn_app (goodIn_of _ (by decide +kernel)) ggL_isStep_X4_setLamps
set_option maxRecDepth 20000 in
theorem ggL_isStep_X4_setFiddlers : GoodIn wsL_isStep wsX4_setFiddlers := goodIn_ca (goodIn_r _ [201, 6, 202, 203, 7, 8, 4, 9, 10, 11, 12, 13, 14, 83, 84, 85, 86, 87, 88, 89, 90, 91, 18, 92, 20, 22, 93, 94, 95, 96, 97, 23, 24, 30, 28, 58, 98, 27, 25, 26, 29, 51, 99, 100, 101, 75, 102, 77, 103, 104, 105, 106, 107, 204, 205, 206, 207, 299, 300, 301, 302, 303, 304, 305, 306, 307, 308, 309, 310, 311, 312, 313, 314, 315, 316, 317, 318, 319, 320, 321, 322, 323, 324] (by decide +kernel) (by decide +kernel)) (goodIn_sub (fun _ h => List.mem_cons_of_mem _ (List.mem_append_left _ (List.mem_append_left _ (List.mem_append_right _ h)))) (by decide +kernel))
set_option maxRecDepth 20000 in
theorem gL_isStep_X4_setFiddlers : GoodIn wsL_isStep (wsV RL 45 RX4 yX4_setFiddlers wsX4_setFiddlers) := goodIn_app (goodIn_of _ (by decide +kernel)) ggL_isStep_X4_setFiddlers
set_option maxRecDepth 20000 in
theorem ggL_isStep_X4_setPart : GoodIn wsL_isStep wsX4_setPart := goodIn_ca (goodIn_ca (goodIn_r _ [211, 6, 203, 212, 213, 214, 18, 215, 28, 125, 126, 4, 127, 128, 129, 7, 8, 9, 10, 11, 12, 13, 14, 83, 84, 85, 86, 87, 88, 89, 90, 91, 92, 20, 22, 93, 94, 95, 96, 97, 23, 24, 30, 58, 98, 27, 25, 26, 29, 51, 99, 100, 101, 75, 102, 77, 103, 104, 105, 106, 107, 299, 300, 301, 302, 303, 304, 305, 306, 307, 308, 309, 310, 311, 312, 313, 314, 315, 316, 317, 318, 319, 320, 321, 322, 323, 324] (by decide +kernel) (by decide +kernel)) (goodIn_sub (fun _ h => List.mem_cons_of_mem _ (List.mem_append_right _ h)) (by decide +kernel))) (goodIn_sub (fun _ h => List.mem_cons_of_mem _ (List.mem_append_left _ (List.mem_append_left _ (List.mem_append_right _ h)))) (by decide +kernel))
set_option maxRecDepth 20000 in
theorem gL_isStep_X4_setPart : GoodIn wsL_isStep (wsV RL 48 RX4 yX4_setPart wsX4_setPart) := goodIn_app (goodIn_of _ (by decide +kernel)) ggL_isStep_X4_setPart
set_option maxRecDepth 20000 in
theorem ggL_isStep_X4_endNight : GoodIn wsL_isStep wsX4_endNight := goodIn_r _ [219, 6, 83, 84, 85, 4, 86, 87, 88, 89, 90, 91, 18, 92, 20, 22, 93, 94, 95, 96, 97, 23, 24, 30, 28, 58, 98, 27, 25, 26, 29, 51, 99, 100, 101, 75, 102, 77, 103, 104, 105, 106, 107, 220, 221, 222, 223, 224, 225, 226, 227, 228, 229, 230, 231, 54, 55, 56, 57, 232, 233, 234, 235, 236, 237, 238, 239, 240, 205, 206, 207, 299, 300, 301, 302, 303, 304, 305, 306, 307, 308, 309, 310, 311, 312, 313, 314, 315, 316, 317, 318, 319, 320, 321, 322, 323, 324] (by decide +kernel) (by decide +kernel)
set_option maxRecDepth 20000 in
theorem gL_isStep_X4_endNight : GoodIn wsL_isStep (wsV RL 51 RX4 yX4_endNight wsX4_endNight) := goodIn_app (goodIn_of _ (by decide +kernel)) ggL_isStep_X4_endNight
set_option maxRecDepth 20000 in
theorem ggL_isStep_X4_danceOn : GoodIn wsL_isStep wsX4_danceOn := goodIn_r _ [244, 6, 120, 83, 84, 85, 4, 86, 87, 88, 89, 90, 91, 18, 92, 20, 22, 93, 94, 95, 96, 97, 23, 24, 30, 28, 58, 98, 27, 25, 26, 29, 51, 99, 100, 101, 75, 102, 77, 103, 104, 105, 106, 107, 245, 246, 247, 248, 249, 250, 251, 252, 31, 32, 33, 34, 35, 36, 37, 38, 253, 254, 255, 256, 257, 39, 40, 41, 42, 258, 259, 260, 133, 261, 262, 263, 264, 265, 131, 132, 134, 135, 136, 137, 138, 139, 140, 141, 142, 52, 53, 143, 144, 145, 146, 147, 148, 149, 150, 151, 152, 153, 154, 155, 266, 167, 168, 169, 267, 268, 269, 270, 271, 272, 273, 274, 275, 276, 277, 205, 206, 207, 278, 279, 280, 281, 282, 283, 284, 285, 286, 287, 288, 289, 290, 291, 292, 299, 300, 301, 302, 303, 304, 305, 306, 307, 308, 309, 310, 311, 312, 313, 314, 315, 316, 317, 318, 319, 320, 321, 322, 323, 324, 325, 326, 327, 328, 329, 330, 331, 332, 333] (by decide +kernel) (by decide +kernel)
set_option maxRecDepth 20000 in
theorem gL_isStep_X4_danceOn : GoodIn wsL_isStep (wsV RL 55 RX4 yX4_danceOn wsX4_danceOn) := goodIn_app (goodIn_of _ (by decide +kernel)) ggL_isStep_X4_danceOn
set_option maxRecDepth 20000 in
theorem ggL_isStep_X4_dance : GoodIn wsL_isStep wsX4_dance := goodIn_ca (goodIn_r _ [296, 6, 120, 297, 250, 251, 18, 252, 23, 26, 31, 32, 33, 34, 24, 35, 36, 37, 38, 78, 79, 4, 80, 81, 82, 83, 84, 85, 86, 87, 88, 89, 90, 91, 92, 20, 22, 93, 94, 95, 96, 97, 30, 28, 58, 98, 27, 25, 29, 51, 99, 100, 101, 75, 102, 77, 103, 104, 105, 106, 107, 298, 254, 255, 256, 257, 39, 40, 41, 42, 258, 259, 260, 133, 261, 262, 263, 264, 265, 131, 132, 134, 135, 136, 137, 138, 139, 140, 141, 142, 52, 53, 143, 144, 145, 146, 147, 148, 149, 150, 151, 152, 153, 154, 155, 266, 167, 168, 169, 267, 268, 269, 270, 271, 272, 273, 274, 275, 276, 277, 205, 206, 207, 278, 279, 280, 281, 282, 283, 284, 285, 286, 287, 288, 289, 290, 291, 292, 299, 300, 301, 302, 303, 304, 305, 306, 307, 308, 309, 310, 311, 312, 313, 314, 315, 316, 317, 318, 319, 320, 321, 322, 323, 324, 325, 326, 327, 328, 329, 330, 331, 332, 333] (by decide +kernel) (by decide +kernel)) (goodIn_sub (fun _ h => List.mem_cons_of_mem _ (List.mem_append_left _ (List.mem_append_right _ h))) (by decide +kernel))
set_option maxRecDepth 20000 in
theorem gL_isStep_X4_dance : GoodIn wsL_isStep (wsV RL 58 RX4 yX4_dance wsX4_dance) := goodIn_app (goodIn_of _ (by decide +kernel)) ggL_isStep_X4_dance
theorem dL_isStep_0 : decode cL_isStep 0 = .ok (.iload_n 2, 1) := by decide +kernel
theorem dL_isStep_1 : decode cL_isStep 1 = .ok (.iconst 4, 1) := by decide +kernel
theorem dL_isStep_2 : decode cL_isStep 2 = .ok (.ishr, 1) := by decide +kernel
theorem dL_isStep_3 : decode cL_isStep 3 = .ok (.istore_n 3, 1) := by decide +kernel
theorem dL_isStep_4 : decode cL_isStep 4 = .ok (.iload_n 3, 1) := by decide +kernel
theorem dL_isStep_5 : decode cL_isStep 5 = .ok (.iconst 1, 1) := by decide +kernel
theorem dL_isStep_6 : decode cL_isStep 6 = .ok (.iand, 1) := by decide +kernel
theorem dL_isStep_7 : decode cL_isStep 7 = .ok (.iconst 1, 1) := by decide +kernel
theorem dL_isStep_8 : decode cL_isStep 8 = .ok (.if_icmp .ne 7, 3) := by decide +kernel
theorem dL_isStep_11 : decode cL_isStep 11 = .ok (.iconst 1, 1) := by decide +kernel
theorem dL_isStep_12 : decode cL_isStep 12 = .ok (.goto 4, 3) := by decide +kernel
theorem dL_isStep_15 : decode cL_isStep 15 = .ok (.iconst 0, 1) := by decide +kernel
theorem dL_isStep_16 : decode cL_isStep 16 = .ok (.istore 4, 2) := by decide +kernel
theorem dL_isStep_18 : decode cL_isStep 18 = .ok (.aload_n 0, 1) := by decide +kernel
theorem dL_isStep_19 : decode cL_isStep 19 = .ok (.iload 4, 2) := by decide +kernel
theorem dL_isStep_21 : decode cL_isStep 21 = .ok (.ifCond .eq 7, 3) := by decide +kernel
theorem dL_isStep_24 : decode cL_isStep 24 = .ok (.iconst 0, 1) := by decide +kernel
theorem dL_isStep_25 : decode cL_isStep 25 = .ok (.goto 4, 3) := by decide +kernel
theorem dL_isStep_28 : decode cL_isStep 28 = .ok (.iconst 1, 1) := by decide +kernel
theorem dL_isStep_29 : decode cL_isStep 29 = .ok (.invokevirtual 9, 3) := by decide +kernel
theorem dL_isStep_32 : decode cL_isStep 32 = .ok (.istore 5, 2) := by decide +kernel
theorem dL_isStep_34 : decode cL_isStep 34 = .ok (.iload 5, 2) := by decide +kernel
theorem dL_isStep_36 : decode cL_isStep 36 = .ok (.ifCond .ne 7, 3) := by decide +kernel
theorem dL_isStep_39 : decode cL_isStep 39 = .ok (.iconst 0, 1) := by decide +kernel
theorem dL_isStep_40 : decode cL_isStep 40 = .ok (.goto 11, 3) := by decide +kernel
theorem dL_isStep_43 : decode cL_isStep 43 = .ok (.iload_n 3, 1) := by decide +kernel
theorem dL_isStep_44 : decode cL_isStep 44 = .ok (.iconst 1, 1) := by decide +kernel
theorem dL_isStep_45 : decode cL_isStep 45 = .ok (.ishr, 1) := by decide +kernel
theorem dL_isStep_46 : decode cL_isStep 46 = .ok (.iload 5, 2) := by decide +kernel
theorem dL_isStep_48 : decode cL_isStep 48 = .ok (.invokestatic 15, 3) := by decide +kernel
theorem dL_isStep_51 : decode cL_isStep 51 = .ok (.istore 6, 2) := by decide +kernel
theorem dL_isStep_53 : decode cL_isStep 53 = .ok (.iload_n 2, 1) := by decide +kernel
theorem dL_isStep_54 : decode cL_isStep 54 = .ok (.bipush 12, 2) := by decide +kernel
theorem dL_isStep_56 : decode cL_isStep 56 = .ok (.invokestatic 15, 3) := by decide +kernel
theorem dL_isStep_59 : decode cL_isStep 59 = .ok (.tableswitch 523 0 9 #[53, 53, 53, 167, 260, 321, 368, 417, 481, 506], 53) := by decide +kernel
theorem dL_isStep_112 : decode cL_isStep 112 = .ok (.iload_n 3, 1) := by decide +kernel
theorem dL_isStep_113 : decode cL_isStep 113 = .ok (.iconst 1, 1) := by decide +kernel
theorem dL_isStep_114 : decode cL_isStep 114 = .ok (.ishr, 1) := by decide +kernel
theorem dL_isStep_115 : decode cL_isStep 115 = .ok (.bipush 9, 2) := by decide +kernel
theorem dL_isStep_117 : decode cL_isStep 117 = .ok (.invokestatic 15, 3) := by decide +kernel
theorem dL_isStep_120 : decode cL_isStep 120 = .ok (.istore 7, 2) := by decide +kernel
theorem dL_isStep_122 : decode cL_isStep 122 = .ok (.iconst 1, 1) := by decide +kernel
theorem dL_isStep_123 : decode cL_isStep 123 = .ok (.iload_n 3, 1) := by decide +kernel
theorem dL_isStep_124 : decode cL_isStep 124 = .ok (.iconst 5, 1) := by decide +kernel
theorem dL_isStep_125 : decode cL_isStep 125 = .ok (.ishr, 1) := by decide +kernel
theorem dL_isStep_126 : decode cL_isStep 126 = .ok (.bipush 9, 2) := by decide +kernel
theorem dL_isStep_128 : decode cL_isStep 128 = .ok (.invokestatic 15, 3) := by decide +kernel
theorem dL_isStep_131 : decode cL_isStep 131 = .ok (.iadd, 1) := by decide +kernel
theorem dL_isStep_132 : decode cL_isStep 132 = .ok (.istore 8, 2) := by decide +kernel
theorem dL_isStep_134 : decode cL_isStep 134 = .ok (.iload_n 3, 1) := by decide +kernel
theorem dL_isStep_135 : decode cL_isStep 135 = .ok (.bipush 9, 2) := by decide +kernel
theorem dL_isStep_137 : decode cL_isStep 137 = .ok (.ishr, 1) := by decide +kernel
theorem dL_isStep_138 : decode cL_isStep 138 = .ok (.iconst 1, 1) := by decide +kernel
theorem dL_isStep_139 : decode cL_isStep 139 = .ok (.iand, 1) := by decide +kernel
theorem dL_isStep_140 : decode cL_isStep 140 = .ok (.iconst 1, 1) := by decide +kernel
theorem dL_isStep_141 : decode cL_isStep 141 = .ok (.if_icmp .ne 7, 3) := by decide +kernel
theorem dL_isStep_144 : decode cL_isStep 144 = .ok (.iconst 1, 1) := by decide +kernel
theorem dL_isStep_145 : decode cL_isStep 145 = .ok (.goto 4, 3) := by decide +kernel
theorem dL_isStep_148 : decode cL_isStep 148 = .ok (.iconst 0, 1) := by decide +kernel
theorem dL_isStep_149 : decode cL_isStep 149 = .ok (.istore 9, 2) := by decide +kernel
theorem dL_isStep_151 : decode cL_isStep 151 = .ok (.iload 5, 2) := by decide +kernel
theorem dL_isStep_153 : decode cL_isStep 153 = .ok (.iconst 4, 1) := by decide +kernel
theorem dL_isStep_154 : decode cL_isStep 154 = .ok (.if_icmp .eq 66, 3) := by decide +kernel
theorem dL_isStep_157 : decode cL_isStep 157 = .ok (.aload_n 1, 1) := by decide +kernel
theorem dL_isStep_158 : decode cL_isStep 158 = .ok (.iload 4, 2) := by decide +kernel
theorem dL_isStep_160 : decode cL_isStep 160 = .ok (.iconst 0, 1) := by decide +kernel
theorem dL_isStep_161 : decode cL_isStep 161 = .ok (.iload 8, 2) := by decide +kernel
theorem dL_isStep_163 : decode cL_isStep 163 = .ok (.iload 9, 2) := by decide +kernel
theorem dL_isStep_165 : decode cL_isStep 165 = .ok (.ifCond .ne 7, 3) := by decide +kernel
theorem dL_isStep_168 : decode cL_isStep 168 = .ok (.iconst 1, 1) := by decide +kernel
theorem dL_isStep_169 : decode cL_isStep 169 = .ok (.goto 4, 3) := by decide +kernel
theorem dL_isStep_172 : decode cL_isStep 172 = .ok (.iconst 0, 1) := by decide +kernel
theorem dL_isStep_173 : decode cL_isStep 173 = .ok (.invokevirtual 21, 3) := by decide +kernel
theorem dL_isStep_176 : decode cL_isStep 176 = .ok (.iconst 2, 1) := by decide +kernel
theorem dL_isStep_177 : decode cL_isStep 177 = .ok (.iload 5, 2) := by decide +kernel
theorem dL_isStep_179 : decode cL_isStep 179 = .ok (.imul, 1) := by decide +kernel
theorem dL_isStep_180 : decode cL_isStep 180 = .ok (.if_icmp .ne 44, 3) := by decide +kernel
theorem dL_isStep_183 : decode cL_isStep 183 = .ok (.aload_n 0, 1) := by decide +kernel
theorem dL_isStep_184 : decode cL_isStep 184 = .ok (.iload 4, 2) := by decide +kernel
theorem dL_isStep_186 : decode cL_isStep 186 = .ok (.iload 7, 2) := by decide +kernel
theorem dL_isStep_188 : decode cL_isStep 188 = .ok (.iload 8, 2) := by decide +kernel
theorem dL_isStep_190 : decode cL_isStep 190 = .ok (.iload 9, 2) := by decide +kernel
theorem dL_isStep_192 : decode cL_isStep 192 = .ok (.invokevirtual 21, 3) := by decide +kernel
theorem dL_isStep_195 : decode cL_isStep 195 = .ok (.iload 5, 2) := by decide +kernel
theorem dL_isStep_197 : decode cL_isStep 197 = .ok (.if_icmp .ne 27, 3) := by decide +kernel
theorem dL_isStep_200 : decode cL_isStep 200 = .ok (.aload_n 1, 1) := by decide +kernel
theorem dL_isStep_201 : decode cL_isStep 201 = .ok (.iload 4, 2) := by decide +kernel
theorem dL_isStep_203 : decode cL_isStep 203 = .ok (.iload 7, 2) := by decide +kernel
theorem dL_isStep_205 : decode cL_isStep 205 = .ok (.iload 8, 2) := by decide +kernel
theorem dL_isStep_207 : decode cL_isStep 207 = .ok (.iload 9, 2) := by decide +kernel
theorem dL_isStep_209 : decode cL_isStep 209 = .ok (.invokevirtual 21, 3) := by decide +kernel
theorem dL_isStep_212 : decode cL_isStep 212 = .ok (.iload 5, 2) := by decide +kernel
theorem dL_isStep_214 : decode cL_isStep 214 = .ok (.invokestatic 25, 3) := by decide +kernel
theorem dL_isStep_217 : decode cL_isStep 217 = .ok (.if_icmp .ne 7, 3) := by decide +kernel
theorem dL_isStep_220 : decode cL_isStep 220 = .ok (.iconst 1, 1) := by decide +kernel
theorem dL_isStep_221 : decode cL_isStep 221 = .ok (.goto 4, 3) := by decide +kernel
theorem dL_isStep_224 : decode cL_isStep 224 = .ok (.iconst 0, 1) := by decide +kernel
theorem dL_isStep_225 : decode cL_isStep 225 = .ok (.ireturn, 1) := by decide +kernel
theorem dL_isStep_226 : decode cL_isStep 226 = .ok (.iload_n 3, 1) := by decide +kernel
theorem dL_isStep_227 : decode cL_isStep 227 = .ok (.iconst 3, 1) := by decide +kernel
theorem dL_isStep_228 : decode cL_isStep 228 = .ok (.ishr, 1) := by decide +kernel
theorem dL_isStep_229 : decode cL_isStep 229 = .ok (.bipush 7, 2) := by decide +kernel
theorem dL_isStep_231 : decode cL_isStep 231 = .ok (.invokestatic 15, 3) := by decide +kernel
theorem dL_isStep_234 : decode cL_isStep 234 = .ok (.iconst 3, 1) := by decide +kernel
theorem dL_isStep_235 : decode cL_isStep 235 = .ok (.isub, 1) := by decide +kernel
theorem dL_isStep_236 : decode cL_isStep 236 = .ok (.istore 7, 2) := by decide +kernel
theorem dL_isStep_238 : decode cL_isStep 238 = .ok (.iload 5, 2) := by decide +kernel
theorem dL_isStep_240 : decode cL_isStep 240 = .ok (.ifCond .le 39, 3) := by decide +kernel
theorem dL_isStep_243 : decode cL_isStep 243 = .ok (.aload_n 0, 1) := by decide +kernel
theorem dL_isStep_244 : decode cL_isStep 244 = .ok (.iload 4, 2) := by decide +kernel
theorem dL_isStep_246 : decode cL_isStep 246 = .ok (.iload 6, 2) := by decide +kernel
theorem dL_isStep_248 : decode cL_isStep 248 = .ok (.iconst 0, 1) := by decide +kernel
theorem dL_isStep_249 : decode cL_isStep 249 = .ok (.invokevirtual 28, 3) := by decide +kernel
theorem dL_isStep_252 : decode cL_isStep 252 = .ok (.iload 7, 2) := by decide +kernel
theorem dL_isStep_254 : decode cL_isStep 254 = .ok (.iadd, 1) := by decide +kernel
theorem dL_isStep_255 : decode cL_isStep 255 = .ok (.ifCond .lt 24, 3) := by decide +kernel
theorem dL_isStep_258 : decode cL_isStep 258 = .ok (.aload_n 0, 1) := by decide +kernel
theorem dL_isStep_259 : decode cL_isStep 259 = .ok (.iload 4, 2) := by decide +kernel
theorem dL_isStep_261 : decode cL_isStep 261 = .ok (.iload 6, 2) := by decide +kernel
theorem dL_isStep_263 : decode cL_isStep 263 = .ok (.iconst 0, 1) := by decide +kernel
theorem dL_isStep_264 : decode cL_isStep 264 = .ok (.invokevirtual 28, 3) := by decide +kernel
theorem dL_isStep_267 : decode cL_isStep 267 = .ok (.iload 7, 2) := by decide +kernel
theorem dL_isStep_269 : decode cL_isStep 269 = .ok (.iadd, 1) := by decide +kernel
theorem dL_isStep_270 : decode cL_isStep 270 = .ok (.bipush 100, 2) := by decide +kernel
theorem dL_isStep_272 : decode cL_isStep 272 = .ok (.if_icmp .ge 7, 3) := by decide +kernel
theorem dL_isStep_275 : decode cL_isStep 275 = .ok (.iconst 1, 1) := by decide +kernel
theorem dL_isStep_276 : decode cL_isStep 276 = .ok (.goto 4, 3) := by decide +kernel
theorem dL_isStep_279 : decode cL_isStep 279 = .ok (.iconst 0, 1) := by decide +kernel
theorem dL_isStep_280 : decode cL_isStep 280 = .ok (.istore 8, 2) := by decide +kernel
theorem dL_isStep_282 : decode cL_isStep 282 = .ok (.iload 8, 2) := by decide +kernel
theorem dL_isStep_284 : decode cL_isStep 284 = .ok (.ifCond .eq 29, 3) := by decide +kernel
theorem dL_isStep_287 : decode cL_isStep 287 = .ok (.aload_n 0, 1) := by decide +kernel
theorem dL_isStep_288 : decode cL_isStep 288 = .ok (.iload 4, 2) := by decide +kernel
theorem dL_isStep_290 : decode cL_isStep 290 = .ok (.iload 6, 2) := by decide +kernel
theorem dL_isStep_292 : decode cL_isStep 292 = .ok (.iload 7, 2) := by decide +kernel
theorem dL_isStep_294 : decode cL_isStep 294 = .ok (.invokevirtual 32, 3) := by decide +kernel
theorem dL_isStep_297 : decode cL_isStep 297 = .ok (.aload_n 1, 1) := by decide +kernel
theorem dL_isStep_298 : decode cL_isStep 298 = .ok (.iload 4, 2) := by decide +kernel
theorem dL_isStep_300 : decode cL_isStep 300 = .ok (.iload 6, 2) := by decide +kernel
theorem dL_isStep_302 : decode cL_isStep 302 = .ok (.invokestatic 25, 3) := by decide +kernel
theorem dL_isStep_305 : decode cL_isStep 305 = .ok (.iload 7, 2) := by decide +kernel
theorem dL_isStep_307 : decode cL_isStep 307 = .ok (.invokevirtual 32, 3) := by decide +kernel
theorem dL_isStep_310 : decode cL_isStep 310 = .ok (.if_icmp .ne 7, 3) := by decide +kernel
theorem dL_isStep_313 : decode cL_isStep 313 = .ok (.iconst 1, 1) := by decide +kernel
theorem dL_isStep_314 : decode cL_isStep 314 = .ok (.goto 4, 3) := by decide +kernel
theorem dL_isStep_317 : decode cL_isStep 317 = .ok (.iconst 0, 1) := by decide +kernel
theorem dL_isStep_318 : decode cL_isStep 318 = .ok (.ireturn, 1) := by decide +kernel
theorem dL_isStep_319 : decode cL_isStep 319 = .ok (.iload 5, 2) := by decide +kernel
theorem dL_isStep_321 : decode cL_isStep 321 = .ok (.ifCond .eq 53, 3) := by decide +kernel
theorem dL_isStep_324 : decode cL_isStep 324 = .ok (.aload_n 0, 1) := by decide +kernel
theorem dL_isStep_325 : decode cL_isStep 325 = .ok (.iload 4, 2) := by decide +kernel
theorem dL_isStep_327 : decode cL_isStep 327 = .ok (.iload 6, 2) := by decide +kernel
theorem dL_isStep_329 : decode cL_isStep 329 = .ok (.iload_n 3, 1) := by decide +kernel
theorem dL_isStep_330 : decode cL_isStep 330 = .ok (.iconst 4, 1) := by decide +kernel
theorem dL_isStep_331 : decode cL_isStep 331 = .ok (.ishr, 1) := by decide +kernel
theorem dL_isStep_332 : decode cL_isStep 332 = .ok (.iconst 1, 1) := by decide +kernel
theorem dL_isStep_333 : decode cL_isStep 333 = .ok (.iand, 1) := by decide +kernel
theorem dL_isStep_334 : decode cL_isStep 334 = .ok (.iconst 1, 1) := by decide +kernel
theorem dL_isStep_335 : decode cL_isStep 335 = .ok (.if_icmp .ne 7, 3) := by decide +kernel
theorem dL_isStep_338 : decode cL_isStep 338 = .ok (.iconst 1, 1) := by decide +kernel
theorem dL_isStep_339 : decode cL_isStep 339 = .ok (.goto 4, 3) := by decide +kernel
theorem dL_isStep_342 : decode cL_isStep 342 = .ok (.iconst 0, 1) := by decide +kernel
theorem dL_isStep_343 : decode cL_isStep 343 = .ok (.invokevirtual 35, 3) := by decide +kernel
theorem dL_isStep_346 : decode cL_isStep 346 = .ok (.aload_n 1, 1) := by decide +kernel
theorem dL_isStep_347 : decode cL_isStep 347 = .ok (.iload 4, 2) := by decide +kernel
theorem dL_isStep_349 : decode cL_isStep 349 = .ok (.iload 6, 2) := by decide +kernel
theorem dL_isStep_351 : decode cL_isStep 351 = .ok (.invokestatic 25, 3) := by decide +kernel
theorem dL_isStep_354 : decode cL_isStep 354 = .ok (.iload_n 3, 1) := by decide +kernel
theorem dL_isStep_355 : decode cL_isStep 355 = .ok (.iconst 4, 1) := by decide +kernel
theorem dL_isStep_356 : decode cL_isStep 356 = .ok (.ishr, 1) := by decide +kernel
theorem dL_isStep_357 : decode cL_isStep 357 = .ok (.iconst 1, 1) := by decide +kernel
theorem dL_isStep_358 : decode cL_isStep 358 = .ok (.iand, 1) := by decide +kernel
theorem dL_isStep_359 : decode cL_isStep 359 = .ok (.iconst 1, 1) := by decide +kernel
theorem dL_isStep_360 : decode cL_isStep 360 = .ok (.if_icmp .ne 7, 3) := by decide +kernel
theorem dL_isStep_363 : decode cL_isStep 363 = .ok (.iconst 1, 1) := by decide +kernel
theorem dL_isStep_364 : decode cL_isStep 364 = .ok (.goto 4, 3) := by decide +kernel
theorem dL_isStep_367 : decode cL_isStep 367 = .ok (.iconst 0, 1) := by decide +kernel
theorem dL_isStep_368 : decode cL_isStep 368 = .ok (.invokevirtual 35, 3) := by decide +kernel
theorem dL_isStep_371 : decode cL_isStep 371 = .ok (.if_icmp .ne 7, 3) := by decide +kernel
theorem dL_isStep_374 : decode cL_isStep 374 = .ok (.iconst 1, 1) := by decide +kernel
theorem dL_isStep_375 : decode cL_isStep 375 = .ok (.goto 4, 3) := by decide +kernel
theorem dL_isStep_378 : decode cL_isStep 378 = .ok (.iconst 0, 1) := by decide +kernel
theorem dL_isStep_379 : decode cL_isStep 379 = .ok (.ireturn, 1) := by decide +kernel
theorem dL_isStep_380 : decode cL_isStep 380 = .ok (.aload_n 0, 1) := by decide +kernel
theorem dL_isStep_381 : decode cL_isStep 381 = .ok (.iconst 1, 1) := by decide +kernel
theorem dL_isStep_382 : decode cL_isStep 382 = .ok (.iload_n 3, 1) := by decide +kernel
theorem dL_isStep_383 : decode cL_isStep 383 = .ok (.bipush 9, 2) := by decide +kernel
theorem dL_isStep_385 : decode cL_isStep 385 = .ok (.invokestatic 15, 3) := by decide +kernel
theorem dL_isStep_388 : decode cL_isStep 388 = .ok (.iadd, 1) := by decide +kernel
theorem dL_isStep_389 : decode cL_isStep 389 = .ok (.iload_n 3, 1) := by decide +kernel
theorem dL_isStep_390 : decode cL_isStep 390 = .ok (.iconst 4, 1) := by decide +kernel
theorem dL_isStep_391 : decode cL_isStep 391 = .ok (.ishr, 1) := by decide +kernel
theorem dL_isStep_392 : decode cL_isStep 392 = .ok (.iconst 5, 1) := by decide +kernel
theorem dL_isStep_393 : decode cL_isStep 393 = .ok (.invokestatic 15, 3) := by decide +kernel
theorem dL_isStep_396 : decode cL_isStep 396 = .ok (.invokevirtual 39, 3) := by decide +kernel
theorem dL_isStep_399 : decode cL_isStep 399 = .ok (.aload_n 1, 1) := by decide +kernel
theorem dL_isStep_400 : decode cL_isStep 400 = .ok (.iconst 1, 1) := by decide +kernel
theorem dL_isStep_401 : decode cL_isStep 401 = .ok (.iload_n 3, 1) := by decide +kernel
theorem dL_isStep_402 : decode cL_isStep 402 = .ok (.bipush 9, 2) := by decide +kernel
theorem dL_isStep_404 : decode cL_isStep 404 = .ok (.invokestatic 15, 3) := by decide +kernel
theorem dL_isStep_407 : decode cL_isStep 407 = .ok (.iadd, 1) := by decide +kernel
theorem dL_isStep_408 : decode cL_isStep 408 = .ok (.iload_n 3, 1) := by decide +kernel
theorem dL_isStep_409 : decode cL_isStep 409 = .ok (.iconst 4, 1) := by decide +kernel
theorem dL_isStep_410 : decode cL_isStep 410 = .ok (.ishr, 1) := by decide +kernel
theorem dL_isStep_411 : decode cL_isStep 411 = .ok (.iconst 5, 1) := by decide +kernel
theorem dL_isStep_412 : decode cL_isStep 412 = .ok (.invokestatic 15, 3) := by decide +kernel
theorem dL_isStep_415 : decode cL_isStep 415 = .ok (.invokevirtual 39, 3) := by decide +kernel
theorem dL_isStep_418 : decode cL_isStep 418 = .ok (.if_icmp .ne 7, 3) := by decide +kernel
theorem dL_isStep_421 : decode cL_isStep 421 = .ok (.iconst 1, 1) := by decide +kernel
theorem dL_isStep_422 : decode cL_isStep 422 = .ok (.goto 4, 3) := by decide +kernel
theorem dL_isStep_425 : decode cL_isStep 425 = .ok (.iconst 0, 1) := by decide +kernel
theorem dL_isStep_426 : decode cL_isStep 426 = .ok (.ireturn, 1) := by decide +kernel
theorem dL_isStep_427 : decode cL_isStep 427 = .ok (.aload_n 0, 1) := by decide +kernel
theorem dL_isStep_428 : decode cL_isStep 428 = .ok (.iconst 1, 1) := by decide +kernel
theorem dL_isStep_429 : decode cL_isStep 429 = .ok (.iload_n 3, 1) := by decide +kernel
theorem dL_isStep_430 : decode cL_isStep 430 = .ok (.bipush 6, 2) := by decide +kernel
theorem dL_isStep_432 : decode cL_isStep 432 = .ok (.invokestatic 15, 3) := by decide +kernel
theorem dL_isStep_435 : decode cL_isStep 435 = .ok (.iadd, 1) := by decide +kernel
theorem dL_isStep_436 : decode cL_isStep 436 = .ok (.iload_n 3, 1) := by decide +kernel
theorem dL_isStep_437 : decode cL_isStep 437 = .ok (.iconst 3, 1) := by decide +kernel
theorem dL_isStep_438 : decode cL_isStep 438 = .ok (.ishr, 1) := by decide +kernel
theorem dL_isStep_439 : decode cL_isStep 439 = .ok (.bipush 100, 2) := by decide +kernel
theorem dL_isStep_441 : decode cL_isStep 441 = .ok (.invokestatic 15, 3) := by decide +kernel
theorem dL_isStep_444 : decode cL_isStep 444 = .ok (.invokevirtual 42, 3) := by decide +kernel
theorem dL_isStep_447 : decode cL_isStep 447 = .ok (.aload_n 1, 1) := by decide +kernel
theorem dL_isStep_448 : decode cL_isStep 448 = .ok (.iconst 1, 1) := by decide +kernel
theorem dL_isStep_449 : decode cL_isStep 449 = .ok (.iload_n 3, 1) := by decide +kernel
theorem dL_isStep_450 : decode cL_isStep 450 = .ok (.bipush 6, 2) := by decide +kernel
theorem dL_isStep_452 : decode cL_isStep 452 = .ok (.invokestatic 15, 3) := by decide +kernel
theorem dL_isStep_455 : decode cL_isStep 455 = .ok (.iadd, 1) := by decide +kernel
theorem dL_isStep_456 : decode cL_isStep 456 = .ok (.iload_n 3, 1) := by decide +kernel
theorem dL_isStep_457 : decode cL_isStep 457 = .ok (.iconst 3, 1) := by decide +kernel
theorem dL_isStep_458 : decode cL_isStep 458 = .ok (.ishr, 1) := by decide +kernel
theorem dL_isStep_459 : decode cL_isStep 459 = .ok (.bipush 100, 2) := by decide +kernel
theorem dL_isStep_461 : decode cL_isStep 461 = .ok (.invokestatic 15, 3) := by decide +kernel
theorem dL_isStep_464 : decode cL_isStep 464 = .ok (.invokevirtual 42, 3) := by decide +kernel
theorem dL_isStep_467 : decode cL_isStep 467 = .ok (.if_icmp .ne 7, 3) := by decide +kernel
theorem dL_isStep_470 : decode cL_isStep 470 = .ok (.iconst 1, 1) := by decide +kernel
theorem dL_isStep_471 : decode cL_isStep 471 = .ok (.goto 4, 3) := by decide +kernel
theorem dL_isStep_474 : decode cL_isStep 474 = .ok (.iconst 0, 1) := by decide +kernel
theorem dL_isStep_475 : decode cL_isStep 475 = .ok (.ireturn, 1) := by decide +kernel
theorem dL_isStep_476 : decode cL_isStep 476 = .ok (.aload_n 0, 1) := by decide +kernel
theorem dL_isStep_477 : decode cL_isStep 477 = .ok (.iconst 1, 1) := by decide +kernel
theorem dL_isStep_478 : decode cL_isStep 478 = .ok (.iload_n 3, 1) := by decide +kernel
theorem dL_isStep_479 : decode cL_isStep 479 = .ok (.iconst 4, 1) := by decide +kernel
theorem dL_isStep_480 : decode cL_isStep 480 = .ok (.invokestatic 15, 3) := by decide +kernel
theorem dL_isStep_483 : decode cL_isStep 483 = .ok (.iadd, 1) := by decide +kernel
theorem dL_isStep_484 : decode cL_isStep 484 = .ok (.invokevirtual 45, 3) := by decide +kernel
theorem dL_isStep_487 : decode cL_isStep 487 = .ok (.aload_n 1, 1) := by decide +kernel
theorem dL_isStep_488 : decode cL_isStep 488 = .ok (.iconst 1, 1) := by decide +kernel
theorem dL_isStep_489 : decode cL_isStep 489 = .ok (.iload_n 3, 1) := by decide +kernel
theorem dL_isStep_490 : decode cL_isStep 490 = .ok (.iconst 4, 1) := by decide +kernel
theorem dL_isStep_491 : decode cL_isStep 491 = .ok (.invokestatic 15, 3) := by decide +kernel
theorem dL_isStep_494 : decode cL_isStep 494 = .ok (.iadd, 1) := by decide +kernel
theorem dL_isStep_495 : decode cL_isStep 495 = .ok (.invokevirtual 45, 3) := by decide +kernel
theorem dL_isStep_498 : decode cL_isStep 498 = .ok (.if_icmp .ne 40, 3) := by decide +kernel
theorem dL_isStep_501 : decode cL_isStep 501 = .ok (.aload_n 0, 1) := by decide +kernel
theorem dL_isStep_502 : decode cL_isStep 502 = .ok (.iconst 0, 1) := by decide +kernel
theorem dL_isStep_503 : decode cL_isStep 503 = .ok (.iconst 1, 1) := by decide +kernel
theorem dL_isStep_504 : decode cL_isStep 504 = .ok (.iload_n 3, 1) := by decide +kernel
theorem dL_isStep_505 : decode cL_isStep 505 = .ok (.iconst 3, 1) := by decide +kernel
theorem dL_isStep_506 : decode cL_isStep 506 = .ok (.ishr, 1) := by decide +kernel
theorem dL_isStep_507 : decode cL_isStep 507 = .ok (.bipush 9, 2) := by decide +kernel
theorem dL_isStep_509 : decode cL_isStep 509 = .ok (.invokestatic 15, 3) := by decide +kernel
theorem dL_isStep_512 : decode cL_isStep 512 = .ok (.iadd, 1) := by decide +kernel
theorem dL_isStep_513 : decode cL_isStep 513 = .ok (.invokevirtual 48, 3) := by decide +kernel
theorem dL_isStep_516 : decode cL_isStep 516 = .ok (.aload_n 1, 1) := by decide +kernel
theorem dL_isStep_517 : decode cL_isStep 517 = .ok (.iconst 0, 1) := by decide +kernel
theorem dL_isStep_518 : decode cL_isStep 518 = .ok (.iconst 1, 1) := by decide +kernel
theorem dL_isStep_519 : decode cL_isStep 519 = .ok (.iload_n 3, 1) := by decide +kernel
theorem dL_isStep_520 : decode cL_isStep 520 = .ok (.iconst 3, 1) := by decide +kernel
theorem dL_isStep_521 : decode cL_isStep 521 = .ok (.ishr, 1) := by decide +kernel
theorem dL_isStep_522 : decode cL_isStep 522 = .ok (.bipush 9, 2) := by decide +kernel
theorem dL_isStep_524 : decode cL_isStep 524 = .ok (.invokestatic 15, 3) := by decide +kernel
theorem dL_isStep_527 : decode cL_isStep 527 = .ok (.iadd, 1) := by decide +kernel
theorem dL_isStep_528 : decode cL_isStep 528 = .ok (.invokevirtual 48, 3) := by decide +kernel
theorem dL_isStep_531 : decode cL_isStep 531 = .ok (.if_icmp .ne 7, 3) := by decide +kernel
theorem dL_isStep_534 : decode cL_isStep 534 = .ok (.iconst 1, 1) := by decide +kernel
theorem dL_isStep_535 : decode cL_isStep 535 = .ok (.goto 4, 3) := by decide +kernel
theorem dL_isStep_538 : decode cL_isStep 538 = .ok (.iconst 0, 1) := by decide +kernel
theorem dL_isStep_539 : decode cL_isStep 539 = .ok (.ireturn, 1) := by decide +kernel
theorem dL_isStep_540 : decode cL_isStep 540 = .ok (.iload_n 3, 1) := by decide +kernel
theorem dL_isStep_541 : decode cL_isStep 541 = .ok (.iconst 3, 1) := by decide +kernel
theorem dL_isStep_542 : decode cL_isStep 542 = .ok (.invokestatic 15, 3) := by decide +kernel
theorem dL_isStep_545 : decode cL_isStep 545 = .ok (.ifCond .gt 14, 3) := by decide +kernel
theorem dL_isStep_548 : decode cL_isStep 548 = .ok (.aload_n 0, 1) := by decide +kernel
theorem dL_isStep_549 : decode cL_isStep 549 = .ok (.invokevirtual 51, 3) := by decide +kernel
theorem dL_isStep_552 : decode cL_isStep 552 = .ok (.aload_n 1, 1) := by decide +kernel
theorem dL_isStep_553 : decode cL_isStep 553 = .ok (.invokevirtual 51, 3) := by decide +kernel
theorem dL_isStep_556 : decode cL_isStep 556 = .ok (.if_icmp .ne 7, 3) := by decide +kernel
theorem dL_isStep_559 : decode cL_isStep 559 = .ok (.iconst 1, 1) := by decide +kernel
theorem dL_isStep_560 : decode cL_isStep 560 = .ok (.goto 4, 3) := by decide +kernel
theorem dL_isStep_563 : decode cL_isStep 563 = .ok (.iconst 0, 1) := by decide +kernel
theorem dL_isStep_564 : decode cL_isStep 564 = .ok (.ireturn, 1) := by decide +kernel
theorem dL_isStep_565 : decode cL_isStep 565 = .ok (.aload_n 0, 1) := by decide +kernel
theorem dL_isStep_566 : decode cL_isStep 566 = .ok (.invokevirtual 55, 3) := by decide +kernel
theorem dL_isStep_569 : decode cL_isStep 569 = .ok (.aload_n 1, 1) := by decide +kernel
theorem dL_isStep_570 : decode cL_isStep 570 = .ok (.invokevirtual 55, 3) := by decide +kernel
theorem dL_isStep_573 : decode cL_isStep 573 = .ok (.if_icmp .ne 7, 3) := by decide +kernel
theorem dL_isStep_576 : decode cL_isStep 576 = .ok (.iconst 1, 1) := by decide +kernel
theorem dL_isStep_577 : decode cL_isStep 577 = .ok (.goto 4, 3) := by decide +kernel
theorem dL_isStep_580 : decode cL_isStep 580 = .ok (.iconst 0, 1) := by decide +kernel
theorem dL_isStep_581 : decode cL_isStep 581 = .ok (.ireturn, 1) := by decide +kernel
theorem dL_isStep_582 : decode cL_isStep 582 = .ok (.aload_n 0, 1) := by decide +kernel
theorem dL_isStep_583 : decode cL_isStep 583 = .ok (.iconst 4, 1) := by decide +kernel
theorem dL_isStep_584 : decode cL_isStep 584 = .ok (.invokevirtual 9, 3) := by decide +kernel
theorem dL_isStep_587 : decode cL_isStep 587 = .ok (.ifCond .eq 25, 3) := by decide +kernel
theorem dL_isStep_590 : decode cL_isStep 590 = .ok (.aload_n 0, 1) := by decide +kernel
theorem dL_isStep_591 : decode cL_isStep 591 = .ok (.bipush 7, 2) := by decide +kernel
theorem dL_isStep_593 : decode cL_isStep 593 = .ok (.invokevirtual 9, 3) := by decide +kernel
theorem dL_isStep_596 : decode cL_isStep 596 = .ok (.bipush 30, 2) := by decide +kernel
theorem dL_isStep_598 : decode cL_isStep 598 = .ok (.if_icmp .eq 14, 3) := by decide +kernel
theorem dL_isStep_601 : decode cL_isStep 601 = .ok (.aload_n 0, 1) := by decide +kernel
theorem dL_isStep_602 : decode cL_isStep 602 = .ok (.invokevirtual 58, 3) := by decide +kernel
theorem dL_isStep_605 : decode cL_isStep 605 = .ok (.aload_n 1, 1) := by decide +kernel
theorem dL_isStep_606 : decode cL_isStep 606 = .ok (.invokevirtual 58, 3) := by decide +kernel
theorem dL_isStep_609 : decode cL_isStep 609 = .ok (.if_icmp .ne 7, 3) := by decide +kernel
theorem dL_isStep_612 : decode cL_isStep 612 = .ok (.iconst 1, 1) := by decide +kernel
theorem dL_isStep_613 : decode cL_isStep 613 = .ok (.goto 4, 3) := by decide +kernel
theorem dL_isStep_616 : decode cL_isStep 616 = .ok (.iconst 0, 1) := by decide +kernel
theorem dL_isStep_617 : decode cL_isStep 617 = .ok (.ireturn, 1) := by decide +kernel
