set_option maxRecDepth 20000 in
theorem ggL_addGuest_X4_addGuest : GoodIn wsL_addGuest wsX4_addGuest := goodIn_ca (goodIn_ca (goodIn_r _ [7, 8, 9, 10, 6, 11, 12, 13, 14, 15, 16, 17, 18, 19, 20, 21, 22, 23, 24, 25, 26, 27, 28, 29, 30, 31, 32, 33, 34, 35, 36, 37, 38, 39, 40, 41, 42, 43, 44, 45, 46, 47, 48, 49, 50, 51, 52, 53, 54, 55, 56, 57, 58, 59, 60, 61, 62, 63, 64, 65, 66, 67, 68, 69, 70, 71, 72, 73, 74, 75, 76, 77, 78, 79, 80, 81, 82, 83, 84, 85, 86, 87, 88, 89, 90, 91, 92, 93, 94, 95, 96, 97, 98, 99, 100] (by decide +kernel) (by decide +kernel)) (goodIn_sub (fun _ h => List.mem_cons_of_mem _ (List.mem_append_left _ (List.mem_append_right _ h))) (by decide +kernel))) (goodIn_sub (fun _ h => List.mem_cons_of_mem _ (List.mem_append_right _ h)) (by decide +kernel))
set_option maxRecDepth 20000 in
theorem gL_addGuest_X4_addGuest : GoodIn wsL_addGuest (wsV RL 7 RX4 yX4_addGuest wsX4_addGuest) := goodIn_app (goodIn_of _ (by decide +kernel)) ggL_addGuest_X4_addGuest
theorem dL_addGuest_0 : decode cL_addGuest 0 = .ok (.aload 5, 2) := by decide +kernel
theorem dL_addGuest_2 : decode cL_addGuest 2 = .ok (.iconst 0, 1) := by decide +kernel
theorem dL_addGuest_3 : decode cL_addGuest 3 = .ok (.aload_n 0, 1) := by decide +kernel
theorem dL_addGuest_4 : decode cL_addGuest 4 = .ok (.iload_n 1, 1) := by decide +kernel
theorem dL_addGuest_5 : decode cL_addGuest 5 = .ok (.iload_n 2, 1) := by decide +kernel
theorem dL_addGuest_6 : decode cL_addGuest 6 = .ok (.iload_n 3, 1) := by decide +kernel
theorem dL_addGuest_7 : decode cL_addGuest 7 = .ok (.iload 4, 2) := by decide +kernel
theorem dL_addGuest_9 : decode cL_addGuest 9 = .ok (.invokevirtual 7, 3) := by decide +kernel
theorem dL_addGuest_12 : decode cL_addGuest 12 = .ok (.i2l, 1) := by decide +kernel
theorem dL_addGuest_13 : decode cL_addGuest 13 = .ok (.lastore, 1) := by decide +kernel
theorem dL_addGuest_14 : decode cL_addGuest 14 = .ok (.goto 11, 3) := by decide +kernel
theorem dL_addGuest_17 : decode cL_addGuest 17 = .ok (.astore 6, 2) := by decide +kernel
theorem dL_addGuest_19 : decode cL_addGuest 19 = .ok (.iconst 1, 1) := by decide +kernel
theorem dL_addGuest_20 : decode cL_addGuest 20 = .ok (.ireturn, 1) := by decide +kernel
theorem dL_addGuest_21 : decode cL_addGuest 21 = .ok (.astore 6, 2) := by decide +kernel
theorem dL_addGuest_23 : decode cL_addGuest 23 = .ok (.iconst 2, 1) := by decide +kernel
theorem dL_addGuest_24 : decode cL_addGuest 24 = .ok (.ireturn, 1) := by decide +kernel
theorem dL_addGuest_25 : decode cL_addGuest 25 = .ok (.iconst 0, 1) := by decide +kernel
theorem dL_addGuest_26 : decode cL_addGuest 26 = .ok (.ireturn, 1) := by decide +kernel
set_option maxRecDepth 20000 in
theorem ggL_giveTokens_X4_giveTokens : GoodIn wsL_giveTokens wsX4_giveTokens := goodIn_ca (goodIn_ca (goodIn_ca (goodIn_r _ [8, 9, 10, 11, 12, 13, 14, 15, 16, 17, 18, 19, 20, 21, 22, 23, 24, 25, 7, 26, 27, 28, 29, 30, 31, 32, 33, 34, 35, 36, 37, 38, 39, 40, 41, 42, 43, 44, 45, 46, 47, 48, 49, 50, 51, 52, 53, 54, 55, 56, 57, 58, 59, 60, 61, 62, 63, 64, 65, 66, 67, 68, 69, 70, 71, 72, 73, 74, 75, 76, 77, 78, 79, 80, 81, 82, 83, 84, 85, 86, 87, 88, 89, 90, 91, 92, 93, 94, 95, 96, 97, 98, 99, 100, 101, 102] (by decide +kernel) (by decide +kernel)) (goodIn_sub (fun _ h => List.mem_cons_of_mem _ (List.mem_append_left _ (List.mem_append_left _ (List.mem_append_right _ h)))) (by decide +kernel))) (goodIn_sub (fun _ h => List.mem_cons_of_mem _ (List.mem_append_left _ (List.mem_append_right _ h))) (by decide +kernel))) (goodIn_sub (fun _ h => List.mem_cons_of_mem _ (List.mem_append_right _ h)) (by decide +kernel))
set_option maxRecDepth 20000 in
theorem gL_giveTokens_X4_giveTokens : GoodIn wsL_giveTokens (wsV RL 17 RX4 yX4_giveTokens wsX4_giveTokens) := goodIn_app (goodIn_of _ (by decide +kernel)) ggL_giveTokens_X4_giveTokens
theorem dL_giveTokens_0 : decode cL_giveTokens 0 = .ok (.aload 4, 2) := by decide +kernel
theorem dL_giveTokens_2 : decode cL_giveTokens 2 = .ok (.iconst 0, 1) := by decide +kernel
theorem dL_giveTokens_3 : decode cL_giveTokens 3 = .ok (.aload_n 0, 1) := by decide +kernel
theorem dL_giveTokens_4 : decode cL_giveTokens 4 = .ok (.iload_n 1, 1) := by decide +kernel
theorem dL_giveTokens_5 : decode cL_giveTokens 5 = .ok (.iload_n 2, 1) := by decide +kernel
theorem dL_giveTokens_6 : decode cL_giveTokens 6 = .ok (.iload_n 3, 1) := by decide +kernel
theorem dL_giveTokens_7 : decode cL_giveTokens 7 = .ok (.invokevirtual 17, 3) := by decide +kernel
theorem dL_giveTokens_10 : decode cL_giveTokens 10 = .ok (.i2l, 1) := by decide +kernel
theorem dL_giveTokens_11 : decode cL_giveTokens 11 = .ok (.lastore, 1) := by decide +kernel
theorem dL_giveTokens_12 : decode cL_giveTokens 12 = .ok (.goto 15, 3) := by decide +kernel
theorem dL_giveTokens_15 : decode cL_giveTokens 15 = .ok (.astore 5, 2) := by decide +kernel
theorem dL_giveTokens_17 : decode cL_giveTokens 17 = .ok (.iconst 1, 1) := by decide +kernel
theorem dL_giveTokens_18 : decode cL_giveTokens 18 = .ok (.ireturn, 1) := by decide +kernel
theorem dL_giveTokens_19 : decode cL_giveTokens 19 = .ok (.astore 5, 2) := by decide +kernel
theorem dL_giveTokens_21 : decode cL_giveTokens 21 = .ok (.iconst 2, 1) := by decide +kernel
theorem dL_giveTokens_22 : decode cL_giveTokens 22 = .ok (.ireturn, 1) := by decide +kernel
theorem dL_giveTokens_23 : decode cL_giveTokens 23 = .ok (.astore 5, 2) := by decide +kernel
theorem dL_giveTokens_25 : decode cL_giveTokens 25 = .ok (.iconst 3, 1) := by decide +kernel
theorem dL_giveTokens_26 : decode cL_giveTokens 26 = .ok (.ireturn, 1) := by decide +kernel
theorem dL_giveTokens_27 : decode cL_giveTokens 27 = .ok (.iconst 0, 1) := by decide +kernel
theorem dL_giveTokens_28 : decode cL_giveTokens 28 = .ok (.ireturn, 1) := by decide +kernel
set_option maxRecDepth 20000 in
theorem ggL_setHere_X4_setHere : GoodIn wsL_setHere wsX4_setHere := goodIn_ca (goodIn_r _ [6, 7, 8, 9, 10, 11, 12, 13, 14, 15, 16, 17, 18, 19, 20, 21, 22, 23, 5, 24, 25, 26, 27, 28, 29, 30, 31, 32, 33, 34, 35, 36, 37, 38, 39, 40, 41, 42, 43, 44, 45, 46, 47, 48, 49, 50, 51, 52, 53, 54, 55, 56, 57, 58, 59, 60, 61, 62, 63, 64, 65, 66, 67, 68, 69, 70, 71, 72, 73, 74, 75, 76, 77, 78, 79, 80, 81, 82, 83, 84, 85, 86, 87, 88, 89, 90] (by decide +kernel) (by decide +kernel)) (goodIn_sub (fun _ h => List.mem_cons_of_mem _ (List.mem_append_right _ h)) (by decide +kernel))
set_option maxRecDepth 20000 in
theorem gL_setHere_X4_setHere : GoodIn wsL_setHere (wsV RL 23 RX4 yX4_setHere wsX4_setHere) := goodIn_app (goodIn_of _ (by decide +kernel)) ggL_setHere_X4_setHere
theorem dL_setHere_0 : decode cL_setHere 0 = .ok (.aload 4, 2) := by decide +kernel
theorem dL_setHere_2 : decode cL_setHere 2 = .ok (.iconst 0, 1) := by decide +kernel
theorem dL_setHere_3 : decode cL_setHere 3 = .ok (.aload_n 0, 1) := by decide +kernel
theorem dL_setHere_4 : decode cL_setHere 4 = .ok (.iload_n 1, 1) := by decide +kernel
theorem dL_setHere_5 : decode cL_setHere 5 = .ok (.iload_n 2, 1) := by decide +kernel
theorem dL_setHere_6 : decode cL_setHere 6 = .ok (.iload_n 3, 1) := by decide +kernel
theorem dL_setHere_7 : decode cL_setHere 7 = .ok (.invokevirtual 23, 3) := by decide +kernel
theorem dL_setHere_10 : decode cL_setHere 10 = .ok (.i2l, 1) := by decide +kernel
theorem dL_setHere_11 : decode cL_setHere 11 = .ok (.lastore, 1) := by decide +kernel
theorem dL_setHere_12 : decode cL_setHere 12 = .ok (.goto 7, 3) := by decide +kernel
theorem dL_setHere_15 : decode cL_setHere 15 = .ok (.astore 5, 2) := by decide +kernel
theorem dL_setHere_17 : decode cL_setHere 17 = .ok (.iconst 1, 1) := by decide +kernel
theorem dL_setHere_18 : decode cL_setHere 18 = .ok (.ireturn, 1) := by decide +kernel
theorem dL_setHere_19 : decode cL_setHere 19 = .ok (.iconst 0, 1) := by decide +kernel
theorem dL_setHere_20 : decode cL_setHere 20 = .ok (.ireturn, 1) := by decide +kernel
set_option maxRecDepth 20000 in
theorem ggL_setShoes_X4_setShoes : GoodIn wsL_setShoes wsX4_setShoes := goodIn_ca (goodIn_ca (goodIn_r _ [7, 8, 9, 10, 11, 6, 12, 13, 14, 15, 16, 17, 18, 19, 20, 21, 22, 23, 24, 25, 26, 27, 28, 29, 30, 31, 32, 33, 34, 35, 36, 37, 38, 39, 40, 41, 42, 43, 44, 45, 46, 47, 48, 49, 50, 51, 52, 53, 54, 55, 56, 57, 58, 59, 60, 61, 62, 63, 64, 65, 66, 67, 68, 69, 70, 71, 72, 73, 74, 75, 76, 77, 78, 79, 80, 81, 82, 83, 84, 85, 86, 87, 88] (by decide +kernel) (by decide +kernel)) (goodIn_sub (fun _ h => List.mem_cons_of_mem _ (List.mem_append_left _ (List.mem_append_right _ h))) (by decide +kernel))) (goodIn_sub (fun _ h => List.mem_cons_of_mem _ (List.mem_append_right _ h)) (by decide +kernel))
set_option maxRecDepth 20000 in
theorem gL_setShoes_X4_setShoes : GoodIn wsL_setShoes (wsV RL 27 RX4 yX4_setShoes wsX4_setShoes) := goodIn_app (goodIn_of _ (by decide +kernel)) ggL_setShoes_X4_setShoes
theorem dL_setShoes_0 : decode cL_setShoes 0 = .ok (.aload_n 3, 1) := by decide +kernel
theorem dL_setShoes_1 : decode cL_setShoes 1 = .ok (.iconst 0, 1) := by decide +kernel
theorem dL_setShoes_2 : decode cL_setShoes 2 = .ok (.aload_n 0, 1) := by decide +kernel
theorem dL_setShoes_3 : decode cL_setShoes 3 = .ok (.iload_n 1, 1) := by decide +kernel
theorem dL_setShoes_4 : decode cL_setShoes 4 = .ok (.iload_n 2, 1) := by decide +kernel
theorem dL_setShoes_5 : decode cL_setShoes 5 = .ok (.invokevirtual 27, 3) := by decide +kernel
theorem dL_setShoes_8 : decode cL_setShoes 8 = .ok (.i2l, 1) := by decide +kernel
theorem dL_setShoes_9 : decode cL_setShoes 9 = .ok (.lastore, 1) := by decide +kernel
theorem dL_setShoes_10 : decode cL_setShoes 10 = .ok (.goto 11, 3) := by decide +kernel
theorem dL_setShoes_13 : decode cL_setShoes 13 = .ok (.astore 4, 2) := by decide +kernel
theorem dL_setShoes_15 : decode cL_setShoes 15 = .ok (.iconst 1, 1) := by decide +kernel
theorem dL_setShoes_16 : decode cL_setShoes 16 = .ok (.ireturn, 1) := by decide +kernel
theorem dL_setShoes_17 : decode cL_setShoes 17 = .ok (.astore 4, 2) := by decide +kernel
theorem dL_setShoes_19 : decode cL_setShoes 19 = .ok (.iconst 2, 1) := by decide +kernel
theorem dL_setShoes_20 : decode cL_setShoes 20 = .ok (.ireturn, 1) := by decide +kernel
theorem dL_setShoes_21 : decode cL_setShoes 21 = .ok (.iconst 0, 1) := by decide +kernel
theorem dL_setShoes_22 : decode cL_setShoes 22 = .ok (.ireturn, 1) := by decide +kernel
set_option maxRecDepth 20000 in
theorem ggL_setLamps_X4_setLamps : GoodIn wsL_setLamps wsX4_setLamps := goodIn_ca (goodIn_r _ [6, 7, 8, 9, 10, 11, 5, 12, 13, 14, 15, 16, 17, 18, 19, 20, 21, 22, 23, 24, 25, 26, 27, 28, 29, 30, 31, 32, 33, 34, 35, 36, 37, 38, 39, 40, 41, 42, 43, 44, 45, 46, 47, 48, 49, 50, 51, 52, 53, 54, 55, 56, 57, 58, 59, 60, 61, 62, 63, 64, 65, 66, 67, 68, 69, 70, 71, 72, 73, 74, 75, 76, 77, 78, 79, 80, 81, 82, 83] (by decide +kernel) (by decide +kernel)) (goodIn_sub (fun _ h => List.mem_cons_of_mem _ (List.mem_append_right _ h)) (by decide +kernel))
set_option maxRecDepth 20000 in
theorem gL_setLamps_X4_setLamps : GoodIn wsL_setLamps (wsV RL 31 RX4 yX4_setLamps wsX4_setLamps) := goodIn_app (goodIn_of _ (by decide +kernel)) ggL_setLamps_X4_setLamps
theorem dL_setLamps_0 : decode cL_setLamps 0 = .ok (.aload_n 3, 1) := by decide +kernel
theorem dL_setLamps_1 : decode cL_setLamps 1 = .ok (.iconst 0, 1) := by decide +kernel
theorem dL_setLamps_2 : decode cL_setLamps 2 = .ok (.aload_n 0, 1) := by decide +kernel
theorem dL_setLamps_3 : decode cL_setLamps 3 = .ok (.iload_n 1, 1) := by decide +kernel
theorem dL_setLamps_4 : decode cL_setLamps 4 = .ok (.iload_n 2, 1) := by decide +kernel
theorem dL_setLamps_5 : decode cL_setLamps 5 = .ok (.invokevirtual 31, 3) := by decide +kernel
theorem dL_setLamps_8 : decode cL_setLamps 8 = .ok (.i2l, 1) := by decide +kernel
theorem dL_setLamps_9 : decode cL_setLamps 9 = .ok (.lastore, 1) := by decide +kernel
theorem dL_setLamps_10 : decode cL_setLamps 10 = .ok (.goto 7, 3) := by decide +kernel
theorem dL_setLamps_13 : decode cL_setLamps 13 = .ok (.astore 4, 2) := by decide +kernel
theorem dL_setLamps_15 : decode cL_setLamps 15 = .ok (.iconst 1, 1) := by decide +kernel
theorem dL_setLamps_16 : decode cL_setLamps 16 = .ok (.ireturn, 1) := by decide +kernel
theorem dL_setLamps_17 : decode cL_setLamps 17 = .ok (.iconst 0, 1) := by decide +kernel
theorem dL_setLamps_18 : decode cL_setLamps 18 = .ok (.ireturn, 1) := by decide +kernel
set_option maxRecDepth 20000 in
theorem ggL_setFiddlers_X4_setFiddlers : GoodIn wsL_setFiddlers wsX4_setFiddlers := goodIn_ca (goodIn_r _ [6, 7, 8, 9, 10, 11, 5, 12, 13, 14, 15, 16, 17, 18, 19, 20, 21, 22, 23, 24, 25, 26, 27, 28, 29, 30, 31, 32, 33, 34, 35, 36, 37, 38, 39, 40, 41, 42, 43, 44, 45, 46, 47, 48, 49, 50, 51, 52, 53, 54, 55, 56, 57, 58, 59, 60, 61, 62, 63, 64, 65, 66, 67, 68, 69, 70, 71, 72, 73, 74, 75, 76, 77, 78, 79, 80, 81, 82, 83, 84, 85, 86, 87] (by decide +kernel) (by decide +kernel)) (goodIn_sub (fun _ h => List.mem_cons_of_mem _ (List.mem_append_right _ h)) (by decide +kernel))
set_option maxRecDepth 20000 in
theorem gL_setFiddlers_X4_setFiddlers : GoodIn wsL_setFiddlers (wsV RL 34 RX4 yX4_setFiddlers wsX4_setFiddlers) := goodIn_app (goodIn_of _ (by decide +kernel)) ggL_setFiddlers_X4_setFiddlers
theorem dL_setFiddlers_0 : decode cL_setFiddlers 0 = .ok (.aload_n 2, 1) := by decide +kernel
theorem dL_setFiddlers_1 : decode cL_setFiddlers 1 = .ok (.iconst 0, 1) := by decide +kernel
theorem dL_setFiddlers_2 : decode cL_setFiddlers 2 = .ok (.aload_n 0, 1) := by decide +kernel
theorem dL_setFiddlers_3 : decode cL_setFiddlers 3 = .ok (.iload_n 1, 1) := by decide +kernel
theorem dL_setFiddlers_4 : decode cL_setFiddlers 4 = .ok (.invokevirtual 34, 3) := by decide +kernel
theorem dL_setFiddlers_7 : decode cL_setFiddlers 7 = .ok (.i2l, 1) := by decide +kernel
theorem dL_setFiddlers_8 : decode cL_setFiddlers 8 = .ok (.lastore, 1) := by decide +kernel
theorem dL_setFiddlers_9 : decode cL_setFiddlers 9 = .ok (.goto 6, 3) := by decide +kernel
theorem dL_setFiddlers_12 : decode cL_setFiddlers 12 = .ok (.astore_n 3, 1) := by decide +kernel
theorem dL_setFiddlers_13 : decode cL_setFiddlers 13 = .ok (.iconst 1, 1) := by decide +kernel
theorem dL_setFiddlers_14 : decode cL_setFiddlers 14 = .ok (.ireturn, 1) := by decide +kernel
theorem dL_setFiddlers_15 : decode cL_setFiddlers 15 = .ok (.iconst 0, 1) := by decide +kernel
theorem dL_setFiddlers_16 : decode cL_setFiddlers 16 = .ok (.ireturn, 1) := by decide +kernel
set_option maxRecDepth 20000 in
theorem ggL_setPart_X4_setPart : GoodIn wsL_setPart wsX4_setPart := goodIn_ca (goodIn_ca (goodIn_r _ [7, 8, 9, 10, 11, 12, 13, 14, 15, 16, 17, 6, 18, 19, 20, 21, 22, 23, 24, 25, 26, 27, 28, 29, 30, 31, 32, 33, 34, 35, 36, 37, 38, 39, 40, 41, 42, 43, 44, 45, 46, 47, 48, 49, 50, 51, 52, 53, 54, 55, 56, 57, 58, 59, 60, 61, 62, 63, 64, 65, 66, 67, 68, 69, 70, 71, 72, 73, 74, 75, 76, 77, 78, 79, 80, 81, 82, 83, 84, 85, 86, 87, 88, 89, 90, 91, 92] (by decide +kernel) (by decide +kernel)) (goodIn_sub (fun _ h => List.mem_cons_of_mem _ (List.mem_append_left _ (List.mem_append_right _ h))) (by decide +kernel))) (goodIn_sub (fun _ h => List.mem_cons_of_mem _ (List.mem_append_right _ h)) (by decide +kernel))
set_option maxRecDepth 20000 in
theorem gL_setPart_X4_setPart : GoodIn wsL_setPart (wsV RL 38 RX4 yX4_setPart wsX4_setPart) := goodIn_app (goodIn_of _ (by decide +kernel)) ggL_setPart_X4_setPart
theorem dL_setPart_0 : decode cL_setPart 0 = .ok (.aload_n 3, 1) := by decide +kernel
theorem dL_setPart_1 : decode cL_setPart 1 = .ok (.iconst 0, 1) := by decide +kernel
theorem dL_setPart_2 : decode cL_setPart 2 = .ok (.aload_n 0, 1) := by decide +kernel
theorem dL_setPart_3 : decode cL_setPart 3 = .ok (.iload_n 1, 1) := by decide +kernel
theorem dL_setPart_4 : decode cL_setPart 4 = .ok (.iload_n 2, 1) := by decide +kernel
theorem dL_setPart_5 : decode cL_setPart 5 = .ok (.invokevirtual 38, 3) := by decide +kernel
theorem dL_setPart_8 : decode cL_setPart 8 = .ok (.i2l, 1) := by decide +kernel
theorem dL_setPart_9 : decode cL_setPart 9 = .ok (.lastore, 1) := by decide +kernel
theorem dL_setPart_10 : decode cL_setPart 10 = .ok (.goto 11, 3) := by decide +kernel
theorem dL_setPart_13 : decode cL_setPart 13 = .ok (.astore 4, 2) := by decide +kernel
theorem dL_setPart_15 : decode cL_setPart 15 = .ok (.iconst 1, 1) := by decide +kernel
theorem dL_setPart_16 : decode cL_setPart 16 = .ok (.ireturn, 1) := by decide +kernel
theorem dL_setPart_17 : decode cL_setPart 17 = .ok (.astore 4, 2) := by decide +kernel
theorem dL_setPart_19 : decode cL_setPart 19 = .ok (.iconst 2, 1) := by decide +kernel
theorem dL_setPart_20 : decode cL_setPart 20 = .ok (.ireturn, 1) := by decide +kernel
theorem dL_setPart_21 : decode cL_setPart 21 = .ok (.iconst 0, 1) := by decide +kernel
theorem dL_setPart_22 : decode cL_setPart 22 = .ok (.ireturn, 1) := by decide +kernel
set_option maxRecDepth 20000 in
theorem ggL_dance_X4_dance : GoodIn wsL_dance wsX4_dance := goodIn_ca (goodIn_r _ [6, 7, 8, 9, 10, 11, 12, 13, 14, 15, 16, 17, 18, 19, 20, 21, 22, 23, 24, 25, 26, 5, 27, 28, 29, 30, 31, 32, 33, 34, 35, 36, 37, 38, 39, 40, 41, 42, 43, 44, 45, 46, 47, 48, 49, 50, 51, 52, 53, 54, 55, 56, 57, 58, 59, 60, 61, 62, 63, 64, 65, 66, 67, 68, 69, 70, 71, 72, 73, 74, 75, 76, 77, 78, 79, 80, 81, 82, 83, 84, 85, 86, 87, 88, 89, 90, 91, 92, 93, 94, 95, 96, 97, 98, 99, 100, 101, 102, 103, 104, 105, 106, 107, 108, 109, 110, 111, 112, 113, 114, 115, 116, 117, 118, 119, 120, 121, 122, 123, 124, 125, 126, 127, 128, 129, 130, 131, 132, 133, 134, 135, 136, 137, 138, 139, 140, 141, 142, 143, 144, 145, 146, 147, 148, 149, 150, 151, 152, 153, 154, 155, 156, 157, 158, 159, 160, 161, 162, 163, 164, 165, 166, 167, 168, 169, 170, 171, 172, 173, 174, 175, 176, 177] (by decide +kernel) (by decide +kernel)) (goodIn_sub (fun _ h => List.mem_cons_of_mem _ (List.mem_append_right _ h)) (by decide +kernel))
set_option maxRecDepth 20000 in
theorem gL_dance_X4_dance : GoodIn wsL_dance (wsV RL 41 RX4 yX4_dance wsX4_dance) := goodIn_app (goodIn_of _ (by decide +kernel)) ggL_dance_X4_dance
theorem dL_dance_0 : decode cL_dance 0 = .ok (.aload_n 1, 1) := by decide +kernel
theorem dL_dance_1 : decode cL_dance 1 = .ok (.iconst 0, 1) := by decide +kernel
theorem dL_dance_2 : decode cL_dance 2 = .ok (.aload_n 0, 1) := by decide +kernel
theorem dL_dance_3 : decode cL_dance 3 = .ok (.invokevirtual 41, 3) := by decide +kernel
theorem dL_dance_6 : decode cL_dance 6 = .ok (.i2l, 1) := by decide +kernel
theorem dL_dance_7 : decode cL_dance 7 = .ok (.lastore, 1) := by decide +kernel
theorem dL_dance_8 : decode cL_dance 8 = .ok (.goto 6, 3) := by decide +kernel
theorem dL_dance_11 : decode cL_dance 11 = .ok (.astore_n 2, 1) := by decide +kernel
theorem dL_dance_12 : decode cL_dance 12 = .ok (.iconst 1, 1) := by decide +kernel
theorem dL_dance_13 : decode cL_dance 13 = .ok (.ireturn, 1) := by decide +kernel
theorem dL_dance_14 : decode cL_dance 14 = .ok (.iconst 0, 1) := by decide +kernel
theorem dL_dance_15 : decode cL_dance 15 = .ok (.ireturn, 1) := by decide +kernel
set_option maxRecDepth 20000 in
theorem ggL_guest_X4_guest : GoodIn wsL_guest wsX4_guest := goodIn_ca (goodIn_ca (goodIn_r _ [7, 8, 9, 10, 11, 12, 13, 14, 15, 16, 17, 18, 19, 20, 21, 22, 23, 24, 6, 25, 26, 27, 28, 29, 30, 31, 32, 33, 34, 35, 36, 37, 38, 39, 40, 41, 42, 43, 44, 45, 46, 47, 48, 49, 50, 51, 52, 53, 54, 55, 56, 57, 58, 59, 60, 61, 62, 63, 64, 65, 66, 67, 68, 69, 70, 71, 72, 73, 74, 75, 76, 77, 78, 79, 80, 81, 82, 83, 84, 85, 86, 87, 88, 89, 90, 91, 92, 93, 94, 95, 96, 97, 98, 99, 100, 101, 102, 103, 104, 105, 106, 107, 108, 109, 110, 111, 112, 113, 114, 115, 116, 117, 118, 119, 120, 121, 122, 123, 124, 125] (by decide +kernel) (by decide +kernel)) (goodIn_sub (fun _ h => List.mem_cons_of_mem _ (List.mem_append_left _ (List.mem_append_right _ h))) (by decide +kernel))) (goodIn_sub (fun _ h => List.mem_cons_of_mem _ (List.mem_append_right _ h)) (by decide +kernel))
set_option maxRecDepth 20000 in
theorem gL_guest_X4_guest : GoodIn wsL_guest (wsV RL 45 RX4 yX4_guest wsX4_guest) := goodIn_app (goodIn_of _ (by decide +kernel)) ggL_guest_X4_guest
theorem dL_guest_0 : decode cL_guest 0 = .ok (.aload 4, 2) := by decide +kernel
theorem dL_guest_2 : decode cL_guest 2 = .ok (.iconst 0, 1) := by decide +kernel
theorem dL_guest_3 : decode cL_guest 3 = .ok (.aload_n 0, 1) := by decide +kernel
theorem dL_guest_4 : decode cL_guest 4 = .ok (.iload_n 1, 1) := by decide +kernel
theorem dL_guest_5 : decode cL_guest 5 = .ok (.iload_n 2, 1) := by decide +kernel
theorem dL_guest_6 : decode cL_guest 6 = .ok (.iload_n 3, 1) := by decide +kernel
theorem dL_guest_7 : decode cL_guest 7 = .ok (.invokevirtual 45, 3) := by decide +kernel
theorem dL_guest_10 : decode cL_guest 10 = .ok (.i2l, 1) := by decide +kernel
theorem dL_guest_11 : decode cL_guest 11 = .ok (.lastore, 1) := by decide +kernel
theorem dL_guest_12 : decode cL_guest 12 = .ok (.goto 11, 3) := by decide +kernel
theorem dL_guest_15 : decode cL_guest 15 = .ok (.astore 5, 2) := by decide +kernel
theorem dL_guest_17 : decode cL_guest 17 = .ok (.iconst 1, 1) := by decide +kernel
theorem dL_guest_18 : decode cL_guest 18 = .ok (.ireturn, 1) := by decide +kernel
theorem dL_guest_19 : decode cL_guest 19 = .ok (.astore 5, 2) := by decide +kernel
theorem dL_guest_21 : decode cL_guest 21 = .ok (.iconst 2, 1) := by decide +kernel
theorem dL_guest_22 : decode cL_guest 22 = .ok (.ireturn, 1) := by decide +kernel
theorem dL_guest_23 : decode cL_guest 23 = .ok (.iconst 0, 1) := by decide +kernel
theorem dL_guest_24 : decode cL_guest 24 = .ok (.ireturn, 1) := by decide +kernel
set_option maxRecDepth 20000 in
theorem ggL_value_X4_value : GoodIn wsL_value wsX4_value := goodIn_ca (goodIn_r _ [6, 7, 8, 9, 5, 10, 11, 12, 13, 14, 15, 16, 17, 18, 19, 20, 21, 22, 23, 24, 25, 26, 27, 28, 29, 30, 31, 32, 33, 34, 35, 36, 37, 38, 39, 40, 41, 42, 43, 44, 45, 46, 47, 48, 49, 50, 51, 52, 53, 54, 55, 56, 57, 58, 59, 60, 61, 62, 63, 64, 65, 66, 67, 68, 69, 70, 71, 72, 73, 74, 75, 76, 77, 78, 79, 80, 81, 82, 83, 84, 85] (by decide +kernel) (by decide +kernel)) (goodIn_sub (fun _ h => List.mem_cons_of_mem _ (List.mem_append_right _ h)) (by decide +kernel))
set_option maxRecDepth 20000 in
theorem gL_value_X4_value : GoodIn wsL_value (wsV RL 48 RX4 yX4_value wsX4_value) := goodIn_app (goodIn_of _ (by decide +kernel)) ggL_value_X4_value
theorem dL_value_0 : decode cL_value 0 = .ok (.aload_n 2, 1) := by decide +kernel
theorem dL_value_1 : decode cL_value 1 = .ok (.iconst 0, 1) := by decide +kernel
theorem dL_value_2 : decode cL_value 2 = .ok (.aload_n 0, 1) := by decide +kernel
theorem dL_value_3 : decode cL_value 3 = .ok (.iload_n 1, 1) := by decide +kernel
theorem dL_value_4 : decode cL_value 4 = .ok (.invokevirtual 48, 3) := by decide +kernel
theorem dL_value_7 : decode cL_value 7 = .ok (.i2l, 1) := by decide +kernel
theorem dL_value_8 : decode cL_value 8 = .ok (.lastore, 1) := by decide +kernel
theorem dL_value_9 : decode cL_value 9 = .ok (.goto 6, 3) := by decide +kernel
theorem dL_value_12 : decode cL_value 12 = .ok (.astore_n 3, 1) := by decide +kernel
theorem dL_value_13 : decode cL_value 13 = .ok (.iconst 1, 1) := by decide +kernel
theorem dL_value_14 : decode cL_value 14 = .ok (.ireturn, 1) := by decide +kernel
theorem dL_value_15 : decode cL_value 15 = .ok (.iconst 0, 1) := by decide +kernel
theorem dL_value_16 : decode cL_value 16 = .ok (.ireturn, 1) := by decide +kernel
set_option maxRecDepth 20000 in
theorem ggL_shoes_X4_shoes : GoodIn wsL_shoes wsX4_shoes := goodIn_ca (goodIn_r _ [6, 7, 8, 9, 10, 11, 12, 5, 13, 14, 15, 16, 17, 18, 19, 20, 21, 22, 23, 24, 25, 26, 27, 28, 29, 30, 31, 32, 33, 34, 35, 36, 37, 38, 39, 40, 41, 42, 43, 44, 45, 46, 47, 48, 49, 50, 51, 52, 53, 54, 55, 56, 57, 58, 59, 60, 61, 62, 63, 64, 65, 66, 67, 68, 69, 70, 71, 72, 73, 74, 75, 76, 77, 78, 79, 80, 81] (by decide +kernel) (by decide +kernel)) (goodIn_sub (fun _ h => List.mem_cons_of_mem _ (List.mem_append_right _ h)) (by decide +kernel))
set_option maxRecDepth 20000 in
theorem gL_shoes_X4_shoes : GoodIn wsL_shoes (wsV RL 51 RX4 yX4_shoes wsX4_shoes) := goodIn_app (goodIn_of _ (by decide +kernel)) ggL_shoes_X4_shoes
theorem dL_shoes_0 : decode cL_shoes 0 = .ok (.aload_n 3, 1) := by decide +kernel
theorem dL_shoes_1 : decode cL_shoes 1 = .ok (.iconst 0, 1) := by decide +kernel
theorem dL_shoes_2 : decode cL_shoes 2 = .ok (.aload_n 0, 1) := by decide +kernel
theorem dL_shoes_3 : decode cL_shoes 3 = .ok (.iload_n 1, 1) := by decide +kernel
theorem dL_shoes_4 : decode cL_shoes 4 = .ok (.iload_n 2, 1) := by decide +kernel
theorem dL_shoes_5 : decode cL_shoes 5 = .ok (.invokevirtual 51, 3) := by decide +kernel
theorem dL_shoes_8 : decode cL_shoes 8 = .ok (.i2l, 1) := by decide +kernel
theorem dL_shoes_9 : decode cL_shoes 9 = .ok (.lastore, 1) := by decide +kernel
theorem dL_shoes_10 : decode cL_shoes 10 = .ok (.goto 7, 3) := by decide +kernel
theorem dL_shoes_13 : decode cL_shoes 13 = .ok (.astore 4, 2) := by decide +kernel
theorem dL_shoes_15 : decode cL_shoes 15 = .ok (.iconst 1, 1) := by decide +kernel
theorem dL_shoes_16 : decode cL_shoes 16 = .ok (.ireturn, 1) := by decide +kernel
theorem dL_shoes_17 : decode cL_shoes 17 = .ok (.iconst 0, 1) := by decide +kernel
theorem dL_shoes_18 : decode cL_shoes 18 = .ok (.ireturn, 1) := by decide +kernel
set_option maxRecDepth 20000 in
theorem ggL_fiddler_X4_fiddler : GoodIn wsL_fiddler wsX4_fiddler := goodIn_ca (goodIn_ca (goodIn_r _ [7, 8, 9, 10, 11, 12, 13, 14, 15, 16, 6, 17, 18, 19, 20, 21, 22, 23, 24, 25, 26, 27, 28, 29, 30, 31, 32, 33, 34, 35, 36, 37, 38, 39, 40, 41, 42, 43, 44, 45, 46, 47, 48, 49, 50, 51, 52, 53, 54, 55, 56, 57, 58, 59, 60, 61, 62, 63, 64, 65, 66] (by decide +kernel) (by decide +kernel)) (goodIn_sub (fun _ h => List.mem_cons_of_mem _ (List.mem_append_left _ (List.mem_append_right _ h))) (by decide +kernel))) (goodIn_sub (fun _ h => List.mem_cons_of_mem _ (List.mem_append_right _ h)) (by decide +kernel))
set_option maxRecDepth 20000 in
theorem gL_fiddler_X4_fiddler : GoodIn wsL_fiddler (wsV RL 55 RX4 yX4_fiddler wsX4_fiddler) := goodIn_app (goodIn_of _ (by decide +kernel)) ggL_fiddler_X4_fiddler
theorem dL_fiddler_0 : decode cL_fiddler 0 = .ok (.aload_n 3, 1) := by decide +kernel
theorem dL_fiddler_1 : decode cL_fiddler 1 = .ok (.iconst 0, 1) := by decide +kernel
theorem dL_fiddler_2 : decode cL_fiddler 2 = .ok (.aload_n 0, 1) := by decide +kernel
theorem dL_fiddler_3 : decode cL_fiddler 3 = .ok (.iload_n 1, 1) := by decide +kernel
theorem dL_fiddler_4 : decode cL_fiddler 4 = .ok (.iload_n 2, 1) := by decide +kernel
theorem dL_fiddler_5 : decode cL_fiddler 5 = .ok (.invokevirtual 55, 3) := by decide +kernel
theorem dL_fiddler_8 : decode cL_fiddler 8 = .ok (.i2l, 1) := by decide +kernel
theorem dL_fiddler_9 : decode cL_fiddler 9 = .ok (.lastore, 1) := by decide +kernel
theorem dL_fiddler_10 : decode cL_fiddler 10 = .ok (.goto 11, 3) := by decide +kernel
theorem dL_fiddler_13 : decode cL_fiddler 13 = .ok (.astore 4, 2) := by decide +kernel
theorem dL_fiddler_15 : decode cL_fiddler 15 = .ok (.iconst 1, 1) := by decide +kernel
theorem dL_fiddler_16 : decode cL_fiddler 16 = .ok (.ireturn, 1) := by decide +kernel
theorem dL_fiddler_17 : decode cL_fiddler 17 = .ok (.astore 4, 2) := by decide +kernel
theorem dL_fiddler_19 : decode cL_fiddler 19 = .ok (.iconst 2, 1) := by decide +kernel
theorem dL_fiddler_20 : decode cL_fiddler 20 = .ok (.ireturn, 1) := by decide +kernel
theorem dL_fiddler_21 : decode cL_fiddler 21 = .ok (.iconst 0, 1) := by decide +kernel
theorem dL_fiddler_22 : decode cL_fiddler 22 = .ok (.ireturn, 1) := by decide +kernel
set_option maxRecDepth 20000 in
theorem ggL_danced_X4_danced : GoodIn wsL_danced wsX4_danced := goodIn_ca (goodIn_r _ [6, 7, 8, 9, 10, 11, 12, 13, 14, 15, 16, 17, 18, 5, 19, 20, 21, 22, 23, 24, 25, 26, 27, 28, 29, 30, 31, 32, 33, 34, 35, 36, 37, 38, 39, 40, 41, 42, 43, 44, 45, 46, 47] (by decide +kernel) (by decide +kernel)) (goodIn_sub (fun _ h => List.mem_cons_of_mem _ (List.mem_append_right _ h)) (by decide +kernel))
set_option maxRecDepth 20000 in
theorem gL_danced_X4_danced : GoodIn wsL_danced (wsV RL 58 RX4 yX4_danced wsX4_danced) := goodIn_app (goodIn_of _ (by decide +kernel)) ggL_danced_X4_danced
theorem dL_danced_0 : decode cL_danced 0 = .ok (.aload_n 3, 1) := by decide +kernel
theorem dL_danced_1 : decode cL_danced 1 = .ok (.iconst 0, 1) := by decide +kernel
theorem dL_danced_2 : decode cL_danced 2 = .ok (.aload_n 0, 1) := by decide +kernel
theorem dL_danced_3 : decode cL_danced 3 = .ok (.iload_n 1, 1) := by decide +kernel
theorem dL_danced_4 : decode cL_danced 4 = .ok (.iload_n 2, 1) := by decide +kernel
theorem dL_danced_5 : decode cL_danced 5 = .ok (.invokevirtual 58, 3) := by decide +kernel
theorem dL_danced_8 : decode cL_danced 8 = .ok (.i2l, 1) := by decide +kernel
theorem dL_danced_9 : decode cL_danced 9 = .ok (.lastore, 1) := by decide +kernel
theorem dL_danced_10 : decode cL_danced 10 = .ok (.goto 7, 3) := by decide +kernel
theorem dL_danced_13 : decode cL_danced 13 = .ok (.astore 4, 2) := by decide +kernel
theorem dL_danced_15 : decode cL_danced 15 = .ok (.iconst 1, 1) := by decide +kernel
theorem dL_danced_16 : decode cL_danced 16 = .ok (.ireturn, 1) := by decide +kernel
theorem dL_danced_17 : decode cL_danced 17 = .ok (.iconst 0, 1) := by decide +kernel
theorem dL_danced_18 : decode cL_danced 18 = .ok (.ireturn, 1) := by decide +kernel
set_option maxRecDepth 20000 in
theorem ggL_partner_X4_partner : GoodIn wsL_partner wsX4_partner := goodIn_ca (goodIn_r _ [6, 7, 8, 9, 10, 11, 5, 12, 13, 14, 15, 16, 17, 18, 19, 20, 21, 22, 23, 24, 25, 26, 27, 28, 29, 30, 31, 32, 33, 34, 35, 36, 37, 38, 39, 40, 41, 42, 43, 44, 45, 46, 47, 48, 49, 50, 51, 52, 53, 54, 55] (by decide +kernel) (by decide +kernel)) (goodIn_sub (fun _ h => List.mem_cons_of_mem _ (List.mem_append_right _ h)) (by decide +kernel))
set_option maxRecDepth 20000 in
theorem gL_partner_X4_partner : GoodIn wsL_partner (wsV RL 61 RX4 yX4_partner wsX4_partner) := goodIn_app (goodIn_of _ (by decide +kernel)) ggL_partner_X4_partner
theorem dL_partner_0 : decode cL_partner 0 = .ok (.aload_n 3, 1) := by decide +kernel
theorem dL_partner_1 : decode cL_partner 1 = .ok (.iconst 0, 1) := by decide +kernel
theorem dL_partner_2 : decode cL_partner 2 = .ok (.aload_n 0, 1) := by decide +kernel
theorem dL_partner_3 : decode cL_partner 3 = .ok (.iload_n 1, 1) := by decide +kernel
theorem dL_partner_4 : decode cL_partner 4 = .ok (.iload_n 2, 1) := by decide +kernel
theorem dL_partner_5 : decode cL_partner 5 = .ok (.invokevirtual 61, 3) := by decide +kernel
theorem dL_partner_8 : decode cL_partner 8 = .ok (.i2l, 1) := by decide +kernel
theorem dL_partner_9 : decode cL_partner 9 = .ok (.lastore, 1) := by decide +kernel
theorem dL_partner_10 : decode cL_partner 10 = .ok (.goto 7, 3) := by decide +kernel
theorem dL_partner_13 : decode cL_partner 13 = .ok (.astore 4, 2) := by decide +kernel
theorem dL_partner_15 : decode cL_partner 15 = .ok (.iconst 1, 1) := by decide +kernel
theorem dL_partner_16 : decode cL_partner 16 = .ok (.ireturn, 1) := by decide +kernel
theorem dL_partner_17 : decode cL_partner 17 = .ok (.iconst 0, 1) := by decide +kernel
theorem dL_partner_18 : decode cL_partner 18 = .ok (.ireturn, 1) := by decide +kernel
set_option maxRecDepth 20000 in
theorem ggL_next_X4_next : GoodIn wsL_next wsX4_next := goodIn_ca (goodIn_r _ [6, 7, 8, 9, 10, 11, 12, 13, 14, 15, 16, 17, 18, 5, 19, 20, 21, 22, 23, 24, 25, 26, 27, 28, 29, 30, 31, 32, 33, 34, 35, 36, 37, 38, 39, 40, 41, 42, 43, 44, 45, 46, 47, 48, 49, 50, 51, 52, 53, 54, 55, 56, 57, 58, 59, 60, 61, 62, 63, 64, 65, 66, 67, 68, 69, 70, 71, 72, 73, 74, 75, 76, 77, 78, 79, 80, 81, 82, 83, 84, 85, 86, 87, 88, 89, 90, 91, 92, 93, 94, 95, 96, 97, 98, 99, 100, 101, 102, 103, 104, 105, 106, 107, 108, 109, 110, 111, 112, 113, 114, 115, 116, 117, 118, 119, 120, 121, 122, 123, 124, 125, 126, 127, 128, 129, 130, 131] (by decide +kernel) (by decide +kernel)) (goodIn_sub (fun _ h => List.mem_cons_of_mem _ (List.mem_append_right _ h)) (by decide +kernel))
set_option maxRecDepth 20000 in
theorem gL_next_X4_next : GoodIn wsL_next (wsV RL 64 RX4 yX4_next wsX4_next) := goodIn_app (goodIn_of _ (by decide +kernel)) ggL_next_X4_next
theorem dL_next_0 : decode cL_next 0 = .ok (.aload_n 2, 1) := by decide +kernel
theorem dL_next_1 : decode cL_next 1 = .ok (.iconst 0, 1) := by decide +kernel
theorem dL_next_2 : decode cL_next 2 = .ok (.aload_n 0, 1) := by decide +kernel
theorem dL_next_3 : decode cL_next 3 = .ok (.iload_n 1, 1) := by decide +kernel
theorem dL_next_4 : decode cL_next 4 = .ok (.invokevirtual 64, 3) := by decide +kernel
theorem dL_next_7 : decode cL_next 7 = .ok (.i2l, 1) := by decide +kernel
theorem dL_next_8 : decode cL_next 8 = .ok (.lastore, 1) := by decide +kernel
theorem dL_next_9 : decode cL_next 9 = .ok (.goto 6, 3) := by decide +kernel
theorem dL_next_12 : decode cL_next 12 = .ok (.astore_n 3, 1) := by decide +kernel
theorem dL_next_13 : decode cL_next 13 = .ok (.iconst 1, 1) := by decide +kernel
theorem dL_next_14 : decode cL_next 14 = .ok (.ireturn, 1) := by decide +kernel
theorem dL_next_15 : decode cL_next 15 = .ok (.iconst 0, 1) := by decide +kernel
theorem dL_next_16 : decode cL_next 16 = .ok (.ireturn, 1) := by decide +kernel
set_option maxRecDepth 20000 in
theorem ggL_couplesWith_X4_couplesWith : GoodIn wsL_couplesWith wsX4_couplesWith := goodIn_ca (goodIn_r _ [6, 7, 8, 9, 10, 5, 11, 12, 13, 14, 15, 16, 17, 18, 19, 20, 21, 22, 23, 24, 25, 26, 27, 28, 29, 30, 31, 32, 33, 34, 35, 36, 37, 38, 39, 40, 41, 42, 43, 44, 45, 46, 47, 48, 49, 50, 51, 52, 53, 54, 55, 56, 57, 58, 59, 60, 61, 62, 63, 64, 65, 66, 67, 68, 69, 70, 71, 72, 73, 74, 75, 76, 77, 78, 79, 80, 81, 82, 83, 84, 85, 86, 87, 88, 89, 90, 91, 92, 93, 94, 95, 96, 97, 98, 99, 100, 101, 102, 103, 104, 105, 106, 107, 108, 109, 110, 111, 112, 113, 114, 115, 116, 117, 118, 119, 120, 121] (by decide +kernel) (by decide +kernel)) (goodIn_sub (fun _ h => List.mem_cons_of_mem _ (List.mem_append_right _ h)) (by decide +kernel))
set_option maxRecDepth 20000 in
theorem gL_couplesWith_X4_couplesWith : GoodIn wsL_couplesWith (wsV RL 67 RX4 yX4_couplesWith wsX4_couplesWith) := goodIn_app (goodIn_of _ (by decide +kernel)) ggL_couplesWith_X4_couplesWith
theorem dL_couplesWith_0 : decode cL_couplesWith 0 = .ok (.aload_n 2, 1) := by decide +kernel
theorem dL_couplesWith_1 : decode cL_couplesWith 1 = .ok (.iconst 0, 1) := by decide +kernel
theorem dL_couplesWith_2 : decode cL_couplesWith 2 = .ok (.aload_n 0, 1) := by decide +kernel
theorem dL_couplesWith_3 : decode cL_couplesWith 3 = .ok (.iload_n 1, 1) := by decide +kernel
theorem dL_couplesWith_4 : decode cL_couplesWith 4 = .ok (.invokevirtual 67, 3) := by decide +kernel
theorem dL_couplesWith_7 : decode cL_couplesWith 7 = .ok (.i2l, 1) := by decide +kernel
theorem dL_couplesWith_8 : decode cL_couplesWith 8 = .ok (.lastore, 1) := by decide +kernel
theorem dL_couplesWith_9 : decode cL_couplesWith 9 = .ok (.goto 6, 3) := by decide +kernel
theorem dL_couplesWith_12 : decode cL_couplesWith 12 = .ok (.astore_n 3, 1) := by decide +kernel
theorem dL_couplesWith_13 : decode cL_couplesWith 13 = .ok (.iconst 1, 1) := by decide +kernel
theorem dL_couplesWith_14 : decode cL_couplesWith 14 = .ok (.ireturn, 1) := by decide +kernel
theorem dL_couplesWith_15 : decode cL_couplesWith 15 = .ok (.iconst 0, 1) := by decide +kernel
theorem dL_couplesWith_16 : decode cL_couplesWith 16 = .ok (.ireturn, 1) := by decide +kernel
set_option maxRecDepth 20000 in
theorem ggL_append_X4_append : GoodIn wsL_append wsX4_append := goodIn_ca (goodIn_ca (goodIn_r _ [7, 8, 9, 10, 11, 6, 12, 13, 14, 15, 16, 17, 18, 19, 20, 21, 22, 23, 24, 25, 26, 27, 28, 29, 30, 31, 32, 33, 34, 35, 36, 37, 38] (by decide +kernel) (by decide +kernel)) (goodIn_sub (fun _ h => List.mem_cons_of_mem _ (List.mem_append_left _ (List.mem_append_right _ h))) (by decide +kernel))) (goodIn_sub (fun _ h => List.mem_cons_of_mem _ (List.mem_append_right _ h)) (by decide +kernel))
set_option maxRecDepth 20000 in
theorem gL_append_X4_append : GoodIn wsL_append (wsV RL 70 RX4 yX4_append wsX4_append) := goodIn_app (goodIn_of _ (by decide +kernel)) ggL_append_X4_append
theorem dL_append_0 : decode cL_append 0 = .ok (.aload_n 2, 1) := by decide +kernel
theorem dL_append_1 : decode cL_append 1 = .ok (.iconst 0, 1) := by decide +kernel
theorem dL_append_2 : decode cL_append 2 = .ok (.aload_n 0, 1) := by decide +kernel
theorem dL_append_3 : decode cL_append 3 = .ok (.iload_n 1, 1) := by decide +kernel
theorem dL_append_4 : decode cL_append 4 = .ok (.invokevirtual 70, 3) := by decide +kernel
theorem dL_append_7 : decode cL_append 7 = .ok (.i2l, 1) := by decide +kernel
theorem dL_append_8 : decode cL_append 8 = .ok (.lastore, 1) := by decide +kernel
theorem dL_append_9 : decode cL_append 9 = .ok (.goto 9, 3) := by decide +kernel
theorem dL_append_12 : decode cL_append 12 = .ok (.astore_n 3, 1) := by decide +kernel
theorem dL_append_13 : decode cL_append 13 = .ok (.iconst 1, 1) := by decide +kernel
theorem dL_append_14 : decode cL_append 14 = .ok (.ireturn, 1) := by decide +kernel
theorem dL_append_15 : decode cL_append 15 = .ok (.astore_n 3, 1) := by decide +kernel
theorem dL_append_16 : decode cL_append 16 = .ok (.iconst 2, 1) := by decide +kernel
theorem dL_append_17 : decode cL_append 17 = .ok (.ireturn, 1) := by decide +kernel
theorem dL_append_18 : decode cL_append 18 = .ok (.iconst 0, 1) := by decide +kernel
theorem dL_append_19 : decode cL_append 19 = .ok (.ireturn, 1) := by decide +kernel
set_option maxRecDepth 20000 in
theorem ggL_undo_X4_undo : GoodIn wsL_undo wsX4_undo := goodIn_ca (goodIn_r _ [6, 7, 8, 9, 10, 11, 5, 12, 13, 14, 15, 16, 17, 18, 19, 20, 21, 22, 23, 24, 25, 26, 27, 28, 29, 30, 31, 32, 33, 34, 35, 36, 37, 38, 39, 40, 41, 42, 43, 44, 45, 46, 47, 48, 49, 50, 51, 52, 53, 54, 55, 56, 57, 58, 59, 60, 61, 62, 63, 64, 65, 66, 67, 68, 69, 70, 71, 72, 73, 74] (by decide +kernel) (by decide +kernel)) (goodIn_sub (fun _ h => List.mem_cons_of_mem _ (List.mem_append_right _ h)) (by decide +kernel))
set_option maxRecDepth 20000 in
theorem gL_undo_X4_undo : GoodIn wsL_undo (wsV RL 73 RX4 yX4_undo wsX4_undo) := goodIn_app (goodIn_of _ (by decide +kernel)) ggL_undo_X4_undo
theorem dL_undo_0 : decode cL_undo 0 = .ok (.aload_n 1, 1) := by decide +kernel
theorem dL_undo_1 : decode cL_undo 1 = .ok (.iconst 0, 1) := by decide +kernel
theorem dL_undo_2 : decode cL_undo 2 = .ok (.aload_n 0, 1) := by decide +kernel
theorem dL_undo_3 : decode cL_undo 3 = .ok (.invokevirtual 73, 3) := by decide +kernel
theorem dL_undo_6 : decode cL_undo 6 = .ok (.i2l, 1) := by decide +kernel
theorem dL_undo_7 : decode cL_undo 7 = .ok (.lastore, 1) := by decide +kernel
theorem dL_undo_8 : decode cL_undo 8 = .ok (.goto 6, 3) := by decide +kernel
theorem dL_undo_11 : decode cL_undo 11 = .ok (.astore_n 2, 1) := by decide +kernel
theorem dL_undo_12 : decode cL_undo 12 = .ok (.iconst 1, 1) := by decide +kernel
theorem dL_undo_13 : decode cL_undo 13 = .ok (.ireturn, 1) := by decide +kernel
theorem dL_undo_14 : decode cL_undo 14 = .ok (.iconst 0, 1) := by decide +kernel
theorem dL_undo_15 : decode cL_undo 15 = .ok (.ireturn, 1) := by decide +kernel
