theorem dX0_init_0 : decode cX0_init 0 = .ok (.aload_n 0, 1) := by decide +kernel
theorem dX0_init_1 : decode cX0_init 1 = .ok (.invokespecial 3, 3) := by decide +kernel
theorem dX0_init_4 : decode cX0_init 4 = .ok (.aload_n 0, 1) := by decide +kernel
theorem dX0_init_5 : decode cX0_init 5 = .ok (.bipush 10, 2) := by decide +kernel
theorem dX0_init_7 : decode cX0_init 7 = .ok (.newarray .int, 2) := by decide +kernel
theorem dX0_init_9 : decode cX0_init 9 = .ok (.putfield 9, 3) := by decide +kernel
theorem dX0_init_12 : decode cX0_init 12 = .ok (.aload_n 0, 1) := by decide +kernel
theorem dX0_init_13 : decode cX0_init 13 = .ok (.bipush 8, 2) := by decide +kernel
theorem dX0_init_15 : decode cX0_init 15 = .ok (.newarray .int, 2) := by decide +kernel
theorem dX0_init_17 : decode cX0_init 17 = .ok (.putfield 15, 3) := by decide +kernel
theorem dX0_init_20 : decode cX0_init 20 = .ok (.aload_n 0, 1) := by decide +kernel
theorem dX0_init_21 : decode cX0_init 21 = .ok (.bipush 8, 2) := by decide +kernel
theorem dX0_init_23 : decode cX0_init 23 = .ok (.newarray .int, 2) := by decide +kernel
theorem dX0_init_25 : decode cX0_init 25 = .ok (.putfield 18, 3) := by decide +kernel
theorem dX0_init_28 : decode cX0_init 28 = .ok (.aload_n 0, 1) := by decide +kernel
theorem dX0_init_29 : decode cX0_init 29 = .ok (.bipush 8, 2) := by decide +kernel
theorem dX0_init_31 : decode cX0_init 31 = .ok (.newarray .int, 2) := by decide +kernel
theorem dX0_init_33 : decode cX0_init 33 = .ok (.putfield 21, 3) := by decide +kernel
theorem dX0_init_36 : decode cX0_init 36 = .ok (.aload_n 0, 1) := by decide +kernel
theorem dX0_init_37 : decode cX0_init 37 = .ok (.bipush 8, 2) := by decide +kernel
theorem dX0_init_39 : decode cX0_init 39 = .ok (.newarray .int, 2) := by decide +kernel
theorem dX0_init_41 : decode cX0_init 41 = .ok (.putfield 24, 3) := by decide +kernel
theorem dX0_init_44 : decode cX0_init 44 = .ok (.aload_n 0, 1) := by decide +kernel
theorem dX0_init_45 : decode cX0_init 45 = .ok (.bipush 8, 2) := by decide +kernel
theorem dX0_init_47 : decode cX0_init 47 = .ok (.newarray .int, 2) := by decide +kernel
theorem dX0_init_49 : decode cX0_init 49 = .ok (.putfield 27, 3) := by decide +kernel
theorem dX0_init_52 : decode cX0_init 52 = .ok (.return_, 1) := by decide +kernel
set_option maxRecDepth 20000 in
theorem ggX0_lendShoes_X4_oneIf : GoodIn wsX0_lendShoes wsX4_oneIf := goodIn_r _ [11] (by decide +kernel) (by decide +kernel)
set_option maxRecDepth 20000 in
theorem gX0_lendShoes_X4_oneIf_n35 : GoodIn wsX0_lendShoes (wsX4_oneIf) := ggX0_lendShoes_X4_oneIf
set_option maxRecDepth 20000 in
theorem ggX0_lendShoes_X0_lendTo : GoodIn wsX0_lendShoes wsX0_lendTo := goodIn_r _ [16, 17, 18, 19, 20, 21, 22, 23, 24, 15, 25, 1, 49, 50, 51, 52, 53, 54, 26, 27, 28, 29, 30, 31, 32, 33, 34] (by decide +kernel) (by decide +kernel)
set_option maxRecDepth 20000 in
theorem gX0_lendShoes_X0_lendTo : GoodIn wsX0_lendShoes (wsV RX0 43 RX0 yX0_lendTo wsX0_lendTo) := goodIn_app (goodIn_of _ (by decide +kernel)) ggX0_lendShoes_X0_lendTo
theorem dX0_lendShoes_0 : decode cX0_lendShoes 0 = .ok (.iconst 1, 1) := by decide +kernel
theorem dX0_lendShoes_1 : decode cX0_lendShoes 1 = .ok (.istore_n 3, 1) := by decide +kernel
theorem dX0_lendShoes_2 : decode cX0_lendShoes 2 = .ok (.iload_n 3, 1) := by decide +kernel
theorem dX0_lendShoes_3 : decode cX0_lendShoes 3 = .ok (.bipush 9, 2) := by decide +kernel
theorem dX0_lendShoes_5 : decode cX0_lendShoes 5 = .ok (.if_icmp .gt 35, 3) := by decide +kernel
theorem dX0_lendShoes_8 : decode cX0_lendShoes 8 = .ok (.aload_n 0, 1) := by decide +kernel
theorem dX0_lendShoes_9 : decode cX0_lendShoes 9 = .ok (.getfield 9, 3) := by decide +kernel
theorem dX0_lendShoes_12 : decode cX0_lendShoes 12 = .ok (.iload_n 3, 1) := by decide +kernel
theorem dX0_lendShoes_13 : decode cX0_lendShoes 13 = .ok (.aload_n 1, 1) := by decide +kernel
theorem dX0_lendShoes_14 : decode cX0_lendShoes 14 = .ok (.getfield 30, 3) := by decide +kernel
theorem dX0_lendShoes_17 : decode cX0_lendShoes 17 = .ok (.iload_n 3, 1) := by decide +kernel
theorem dX0_lendShoes_18 : decode cX0_lendShoes 18 = .ok (.iaload, 1) := by decide +kernel
theorem dX0_lendShoes_19 : decode cX0_lendShoes 19 = .ok (.iload_n 3, 1) := by decide +kernel
theorem dX0_lendShoes_20 : decode cX0_lendShoes 20 = .ok (.iload_n 2, 1) := by decide +kernel
theorem dX0_lendShoes_21 : decode cX0_lendShoes 21 = .ok (.if_icmp .ne 7, 3) := by decide +kernel
theorem dX0_lendShoes_24 : decode cX0_lendShoes 24 = .ok (.iconst 1, 1) := by decide +kernel
theorem dX0_lendShoes_25 : decode cX0_lendShoes 25 = .ok (.goto 4, 3) := by decide +kernel
theorem dX0_lendShoes_28 : decode cX0_lendShoes 28 = .ok (.iconst 0, 1) := by decide +kernel
theorem dX0_lendShoes_29 : decode cX0_lendShoes 29 = .ok (.invokestatic 35, 3) := by decide +kernel
theorem dX0_lendShoes_32 : decode cX0_lendShoes 32 = .ok (.iadd, 1) := by decide +kernel
theorem dX0_lendShoes_33 : decode cX0_lendShoes 33 = .ok (.iastore, 1) := by decide +kernel
theorem dX0_lendShoes_34 : decode cX0_lendShoes 34 = .ok (.iinc 3 1, 3) := by decide +kernel
theorem dX0_lendShoes_37 : decode cX0_lendShoes 37 = .ok (.goto (-35), 3) := by decide +kernel
theorem dX0_lendShoes_40 : decode cX0_lendShoes 40 = .ok (.aload_n 0, 1) := by decide +kernel
theorem dX0_lendShoes_41 : decode cX0_lendShoes 41 = .ok (.aload_n 0, 1) := by decide +kernel
theorem dX0_lendShoes_42 : decode cX0_lendShoes 42 = .ok (.aload_n 1, 1) := by decide +kernel
theorem dX0_lendShoes_43 : decode cX0_lendShoes 43 = .ok (.getfield 39, 3) := by decide +kernel
theorem dX0_lendShoes_46 : decode cX0_lendShoes 46 = .ok (.aload_n 0, 1) := by decide +kernel
theorem dX0_lendShoes_47 : decode cX0_lendShoes 47 = .ok (.getfield 18, 3) := by decide +kernel
theorem dX0_lendShoes_50 : decode cX0_lendShoes 50 = .ok (.invokevirtual 43, 3) := by decide +kernel
theorem dX0_lendShoes_53 : decode cX0_lendShoes 53 = .ok (.putfield 47, 3) := by decide +kernel
theorem dX0_lendShoes_56 : decode cX0_lendShoes 56 = .ok (.aload_n 0, 1) := by decide +kernel
theorem dX0_lendShoes_57 : decode cX0_lendShoes 57 = .ok (.aload_n 0, 1) := by decide +kernel
theorem dX0_lendShoes_58 : decode cX0_lendShoes 58 = .ok (.aload_n 1, 1) := by decide +kernel
theorem dX0_lendShoes_59 : decode cX0_lendShoes 59 = .ok (.getfield 51, 3) := by decide +kernel
theorem dX0_lendShoes_62 : decode cX0_lendShoes 62 = .ok (.aload_n 0, 1) := by decide +kernel
theorem dX0_lendShoes_63 : decode cX0_lendShoes 63 = .ok (.getfield 21, 3) := by decide +kernel
theorem dX0_lendShoes_66 : decode cX0_lendShoes 66 = .ok (.invokevirtual 43, 3) := by decide +kernel
theorem dX0_lendShoes_69 : decode cX0_lendShoes 69 = .ok (.putfield 54, 3) := by decide +kernel
theorem dX0_lendShoes_72 : decode cX0_lendShoes 72 = .ok (.return_, 1) := by decide +kernel
set_option maxRecDepth 20000 in
theorem ggX0_lendTo_X0_lendPair : GoodIn wsX0_lendTo wsX0_lendPair := goodIn_r _ [10, 11, 18, 19, 20, 21, 22, 23, 24, 25, 26] (by decide +kernel) (by decide +kernel)
set_option maxRecDepth 20000 in
theorem gX0_lendTo_X0_lendPair : GoodIn wsX0_lendTo (wsV RX0 75 RX0 yX0_lendPair wsX0_lendPair) := goodIn_app (goodIn_of _ (by decide +kernel)) ggX0_lendTo_X0_lendPair
theorem dX0_lendTo_0 : decode cX0_lendTo 0 = .ok (.iconst 0, 1) := by decide +kernel
theorem dX0_lendTo_1 : decode cX0_lendTo 1 = .ok (.istore_n 3, 1) := by decide +kernel
theorem dX0_lendTo_2 : decode cX0_lendTo 2 = .ok (.iconst 0, 1) := by decide +kernel
theorem dX0_lendTo_3 : decode cX0_lendTo 3 = .ok (.istore 4, 2) := by decide +kernel
theorem dX0_lendTo_5 : decode cX0_lendTo 5 = .ok (.iload 4, 2) := by decide +kernel
theorem dX0_lendTo_7 : decode cX0_lendTo 7 = .ok (.aload_n 1, 1) := by decide +kernel
theorem dX0_lendTo_8 : decode cX0_lendTo 8 = .ok (.getfield 57, 3) := by decide +kernel
theorem dX0_lendTo_11 : decode cX0_lendTo 11 = .ok (.if_icmp .ge 98, 3) := by decide +kernel
theorem dX0_lendTo_14 : decode cX0_lendTo 14 = .ok (.aload_n 1, 1) := by decide +kernel
theorem dX0_lendTo_15 : decode cX0_lendTo 15 = .ok (.getfield 62, 3) := by decide +kernel
theorem dX0_lendTo_18 : decode cX0_lendTo 18 = .ok (.iload 4, 2) := by decide +kernel
theorem dX0_lendTo_20 : decode cX0_lendTo 20 = .ok (.baload, 1) := by decide +kernel
theorem dX0_lendTo_21 : decode cX0_lendTo 21 = .ok (.ifCond .eq 17, 3) := by decide +kernel
theorem dX0_lendTo_24 : decode cX0_lendTo 24 = .ok (.aload_n 1, 1) := by decide +kernel
theorem dX0_lendTo_25 : decode cX0_lendTo 25 = .ok (.getfield 66, 3) := by decide +kernel
theorem dX0_lendTo_28 : decode cX0_lendTo 28 = .ok (.iload 4, 2) := by decide +kernel
theorem dX0_lendTo_30 : decode cX0_lendTo 30 = .ok (.iaload, 1) := by decide +kernel
theorem dX0_lendTo_31 : decode cX0_lendTo 31 = .ok (.ifCond .le 7, 3) := by decide +kernel
theorem dX0_lendTo_34 : decode cX0_lendTo 34 = .ok (.iconst 1, 1) := by decide +kernel
theorem dX0_lendTo_35 : decode cX0_lendTo 35 = .ok (.goto 4, 3) := by decide +kernel
theorem dX0_lendTo_38 : decode cX0_lendTo 38 = .ok (.iconst 0, 1) := by decide +kernel
theorem dX0_lendTo_39 : decode cX0_lendTo 39 = .ok (.istore 5, 2) := by decide +kernel
theorem dX0_lendTo_41 : decode cX0_lendTo 41 = .ok (.aload_n 1, 1) := by decide +kernel
theorem dX0_lendTo_42 : decode cX0_lendTo 42 = .ok (.getfield 69, 3) := by decide +kernel
theorem dX0_lendTo_45 : decode cX0_lendTo 45 = .ok (.iload 4, 2) := by decide +kernel
theorem dX0_lendTo_47 : decode cX0_lendTo 47 = .ok (.baload, 1) := by decide +kernel
theorem dX0_lendTo_48 : decode cX0_lendTo 48 = .ok (.istore 6, 2) := by decide +kernel
theorem dX0_lendTo_50 : decode cX0_lendTo 50 = .ok (.aload_n 2, 1) := by decide +kernel
theorem dX0_lendTo_51 : decode cX0_lendTo 51 = .ok (.iload 4, 2) := by decide +kernel
theorem dX0_lendTo_53 : decode cX0_lendTo 53 = .ok (.iload 5, 2) := by decide +kernel
theorem dX0_lendTo_55 : decode cX0_lendTo 55 = .ok (.ifCond .eq 22, 3) := by decide +kernel
theorem dX0_lendTo_58 : decode cX0_lendTo 58 = .ok (.iload 6, 2) := by decide +kernel
theorem dX0_lendTo_60 : decode cX0_lendTo 60 = .ok (.ifCond .ne 17, 3) := by decide +kernel
theorem dX0_lendTo_63 : decode cX0_lendTo 63 = .ok (.aload_n 0, 1) := by decide +kernel
theorem dX0_lendTo_64 : decode cX0_lendTo 64 = .ok (.aload_n 1, 1) := by decide +kernel
theorem dX0_lendTo_65 : decode cX0_lendTo 65 = .ok (.getfield 72, 3) := by decide +kernel
theorem dX0_lendTo_68 : decode cX0_lendTo 68 = .ok (.iload 4, 2) := by decide +kernel
theorem dX0_lendTo_70 : decode cX0_lendTo 70 = .ok (.iaload, 1) := by decide +kernel
theorem dX0_lendTo_71 : decode cX0_lendTo 71 = .ok (.invokevirtual 75, 3) := by decide +kernel
theorem dX0_lendTo_74 : decode cX0_lendTo 74 = .ok (.goto 4, 3) := by decide +kernel
theorem dX0_lendTo_77 : decode cX0_lendTo 77 = .ok (.iconst 0, 1) := by decide +kernel
theorem dX0_lendTo_78 : decode cX0_lendTo 78 = .ok (.iastore, 1) := by decide +kernel
theorem dX0_lendTo_79 : decode cX0_lendTo 79 = .ok (.iload 5, 2) := by decide +kernel
theorem dX0_lendTo_81 : decode cX0_lendTo 81 = .ok (.ifCond .eq 22, 3) := by decide +kernel
theorem dX0_lendTo_84 : decode cX0_lendTo 84 = .ok (.iload 6, 2) := by decide +kernel
theorem dX0_lendTo_86 : decode cX0_lendTo 86 = .ok (.ifCond .ne 10, 3) := by decide +kernel
theorem dX0_lendTo_89 : decode cX0_lendTo 89 = .ok (.aload_n 2, 1) := by decide +kernel
theorem dX0_lendTo_90 : decode cX0_lendTo 90 = .ok (.iload 4, 2) := by decide +kernel
theorem dX0_lendTo_92 : decode cX0_lendTo 92 = .ok (.iaload, 1) := by decide +kernel
theorem dX0_lendTo_93 : decode cX0_lendTo 93 = .ok (.ifCond .eq 10, 3) := by decide +kernel
theorem dX0_lendTo_96 : decode cX0_lendTo 96 = .ok (.iload_n 3, 1) := by decide +kernel
theorem dX0_lendTo_97 : decode cX0_lendTo 97 = .ok (.iconst 1, 1) := by decide +kernel
theorem dX0_lendTo_98 : decode cX0_lendTo 98 = .ok (.iload 4, 2) := by decide +kernel
theorem dX0_lendTo_100 : decode cX0_lendTo 100 = .ok (.ishl, 1) := by decide +kernel
theorem dX0_lendTo_101 : decode cX0_lendTo 101 = .ok (.ior, 1) := by decide +kernel
theorem dX0_lendTo_102 : decode cX0_lendTo 102 = .ok (.istore_n 3, 1) := by decide +kernel
theorem dX0_lendTo_103 : decode cX0_lendTo 103 = .ok (.iinc 4 1, 3) := by decide +kernel
theorem dX0_lendTo_106 : decode cX0_lendTo 106 = .ok (.goto (-101), 3) := by decide +kernel
theorem dX0_lendTo_109 : decode cX0_lendTo 109 = .ok (.iload_n 3, 1) := by decide +kernel
theorem dX0_lendTo_110 : decode cX0_lendTo 110 = .ok (.ireturn, 1) := by decide +kernel
theorem dX0_lendPair_0 : decode cX0_lendPair 0 = .ok (.aload_n 0, 1) := by decide +kernel
theorem dX0_lendPair_1 : decode cX0_lendPair 1 = .ok (.getfield 9, 3) := by decide +kernel
theorem dX0_lendPair_4 : decode cX0_lendPair 4 = .ok (.iload_n 1, 1) := by decide +kernel
theorem dX0_lendPair_5 : decode cX0_lendPair 5 = .ok (.iaload, 1) := by decide +kernel
theorem dX0_lendPair_6 : decode cX0_lendPair 6 = .ok (.ifCond .le 7, 3) := by decide +kernel
theorem dX0_lendPair_9 : decode cX0_lendPair 9 = .ok (.iload_n 1, 1) := by decide +kernel
theorem dX0_lendPair_10 : decode cX0_lendPair 10 = .ok (.goto 6, 3) := by decide +kernel
theorem dX0_lendPair_13 : decode cX0_lendPair 13 = .ok (.iload_n 1, 1) := by decide +kernel
theorem dX0_lendPair_14 : decode cX0_lendPair 14 = .ok (.iconst 1, 1) := by decide +kernel
theorem dX0_lendPair_15 : decode cX0_lendPair 15 = .ok (.iadd, 1) := by decide +kernel
theorem dX0_lendPair_16 : decode cX0_lendPair 16 = .ok (.istore_n 2, 1) := by decide +kernel
theorem dX0_lendPair_17 : decode cX0_lendPair 17 = .ok (.iload_n 2, 1) := by decide +kernel
theorem dX0_lendPair_18 : decode cX0_lendPair 18 = .ok (.bipush 9, 2) := by decide +kernel
theorem dX0_lendPair_20 : decode cX0_lendPair 20 = .ok (.if_icmp .gt 12, 3) := by decide +kernel
theorem dX0_lendPair_23 : decode cX0_lendPair 23 = .ok (.aload_n 0, 1) := by decide +kernel
theorem dX0_lendPair_24 : decode cX0_lendPair 24 = .ok (.getfield 9, 3) := by decide +kernel
theorem dX0_lendPair_27 : decode cX0_lendPair 27 = .ok (.iload_n 2, 1) := by decide +kernel
theorem dX0_lendPair_28 : decode cX0_lendPair 28 = .ok (.iaload, 1) := by decide +kernel
theorem dX0_lendPair_29 : decode cX0_lendPair 29 = .ok (.ifCond .ne 5, 3) := by decide +kernel
theorem dX0_lendPair_32 : decode cX0_lendPair 32 = .ok (.iconst 0, 1) := by decide +kernel
theorem dX0_lendPair_33 : decode cX0_lendPair 33 = .ok (.ireturn, 1) := by decide +kernel
theorem dX0_lendPair_34 : decode cX0_lendPair 34 = .ok (.aload_n 0, 1) := by decide +kernel
theorem dX0_lendPair_35 : decode cX0_lendPair 35 = .ok (.getfield 9, 3) := by decide +kernel
theorem dX0_lendPair_38 : decode cX0_lendPair 38 = .ok (.iload_n 2, 1) := by decide +kernel
theorem dX0_lendPair_39 : decode cX0_lendPair 39 = .ok (.dup2, 1) := by decide +kernel
theorem dX0_lendPair_40 : decode cX0_lendPair 40 = .ok (.iaload, 1) := by decide +kernel
theorem dX0_lendPair_41 : decode cX0_lendPair 41 = .ok (.iconst 1, 1) := by decide +kernel
theorem dX0_lendPair_42 : decode cX0_lendPair 42 = .ok (.isub, 1) := by decide +kernel
theorem dX0_lendPair_43 : decode cX0_lendPair 43 = .ok (.iastore, 1) := by decide +kernel
theorem dX0_lendPair_44 : decode cX0_lendPair 44 = .ok (.iload_n 2, 1) := by decide +kernel
theorem dX0_lendPair_45 : decode cX0_lendPair 45 = .ok (.ireturn, 1) := by decide +kernel
theorem dX0_lentTo_0 : decode cX0_lentTo 0 = .ok (.iload_n 1, 1) := by decide +kernel
theorem dX0_lentTo_1 : decode cX0_lentTo 1 = .ok (.ifCond .eq 12, 3) := by decide +kernel
theorem dX0_lentTo_4 : decode cX0_lentTo 4 = .ok (.aload_n 0, 1) := by decide +kernel
theorem dX0_lentTo_5 : decode cX0_lentTo 5 = .ok (.getfield 18, 3) := by decide +kernel
theorem dX0_lentTo_8 : decode cX0_lentTo 8 = .ok (.iload_n 2, 1) := by decide +kernel
theorem dX0_lentTo_9 : decode cX0_lentTo 9 = .ok (.iaload, 1) := by decide +kernel
theorem dX0_lentTo_10 : decode cX0_lentTo 10 = .ok (.goto 9, 3) := by decide +kernel
theorem dX0_lentTo_13 : decode cX0_lentTo 13 = .ok (.aload_n 0, 1) := by decide +kernel
theorem dX0_lentTo_14 : decode cX0_lentTo 14 = .ok (.getfield 21, 3) := by decide +kernel
theorem dX0_lentTo_17 : decode cX0_lentTo 17 = .ok (.iload_n 2, 1) := by decide +kernel
theorem dX0_lentTo_18 : decode cX0_lentTo 18 = .ok (.iaload, 1) := by decide +kernel
theorem dX0_lentTo_19 : decode cX0_lentTo 19 = .ok (.ireturn, 1) := by decide +kernel
theorem dX0_isReady_0 : decode cX0_isReady 0 = .ok (.iload_n 1, 1) := by decide +kernel
theorem dX0_isReady_1 : decode cX0_isReady 1 = .ok (.ifCond .eq 10, 3) := by decide +kernel
theorem dX0_isReady_4 : decode cX0_isReady 4 = .ok (.aload_n 0, 1) := by decide +kernel
theorem dX0_isReady_5 : decode cX0_isReady 5 = .ok (.getfield 47, 3) := by decide +kernel
theorem dX0_isReady_8 : decode cX0_isReady 8 = .ok (.goto 7, 3) := by decide +kernel
theorem dX0_isReady_11 : decode cX0_isReady 11 = .ok (.aload_n 0, 1) := by decide +kernel
theorem dX0_isReady_12 : decode cX0_isReady 12 = .ok (.getfield 54, 3) := by decide +kernel
theorem dX0_isReady_15 : decode cX0_isReady 15 = .ok (.iload_n 2, 1) := by decide +kernel
theorem dX0_isReady_16 : decode cX0_isReady 16 = .ok (.ishr, 1) := by decide +kernel
theorem dX0_isReady_17 : decode cX0_isReady 17 = .ok (.iconst 1, 1) := by decide +kernel
theorem dX0_isReady_18 : decode cX0_isReady 18 = .ok (.iand, 1) := by decide +kernel
theorem dX0_isReady_19 : decode cX0_isReady 19 = .ok (.ifCond .eq 7, 3) := by decide +kernel
theorem dX0_isReady_22 : decode cX0_isReady 22 = .ok (.iconst 1, 1) := by decide +kernel
theorem dX0_isReady_23 : decode cX0_isReady 23 = .ok (.goto 4, 3) := by decide +kernel
theorem dX0_isReady_26 : decode cX0_isReady 26 = .ok (.iconst 0, 1) := by decide +kernel
theorem dX0_isReady_27 : decode cX0_isReady 27 = .ok (.ireturn, 1) := by decide +kernel
set_option maxRecDepth 20000 in
theorem ggX0_readyCount_J6_bitCount_0f7a4 : GoodIn wsX0_readyCount wsJ6_bitCount_0f7a4 := goodIn_r _ [6, 7, 8, 9] (by decide +kernel) (by decide +kernel)
set_option maxRecDepth 20000 in
theorem gX0_readyCount_J6_bitCount_0f7a4 : GoodIn wsX0_readyCount (va_wsS RX0 79 yJ6_bitCount_0f7a4 wsJ6_bitCount_0f7a4) := goodIn_app (goodIn_of _ (by decide +kernel)) ggX0_readyCount_J6_bitCount_0f7a4
theorem dX0_readyCount_0 : decode cX0_readyCount 0 = .ok (.aload_n 0, 1) := by decide +kernel
theorem dX0_readyCount_1 : decode cX0_readyCount 1 = .ok (.getfield 47, 3) := by decide +kernel
theorem dX0_readyCount_4 : decode cX0_readyCount 4 = .ok (.invokestatic 79, 3) := by decide +kernel
theorem dX0_readyCount_7 : decode cX0_readyCount 7 = .ok (.aload_n 0, 1) := by decide +kernel
theorem dX0_readyCount_8 : decode cX0_readyCount 8 = .ok (.getfield 54, 3) := by decide +kernel
theorem dX0_readyCount_11 : decode cX0_readyCount 11 = .ok (.invokestatic 79, 3) := by decide +kernel
theorem dX0_readyCount_14 : decode cX0_readyCount 14 = .ok (.iadd, 1) := by decide +kernel
theorem dX0_readyCount_15 : decode cX0_readyCount 15 = .ok (.ireturn, 1) := by decide +kernel
set_option maxRecDepth 20000 in
theorem ggX0_pairUp_X0_lendShoes : GoodIn wsX0_pairUp wsX0_lendShoes := goodIn_r _ [8, 9, 10, 11, 12, 13, 14, 15, 16, 17, 18, 19, 20, 21, 22, 7, 23, 24, 25, 26, 27, 28, 29, 30, 31, 32, 58, 59, 60, 61, 62, 63, 64, 65, 66, 67, 68, 69, 70, 71, 72, 73, 74, 75, 76, 77, 78, 79, 80, 81, 82, 83, 84, 85, 86] (by decide +kernel) (by decide +kernel)
set_option maxRecDepth 20000 in
theorem gX0_pairUp_X0_lendShoes : GoodIn wsX0_pairUp (wsV RX0 84 RX0 yX0_lendShoes wsX0_lendShoes) := goodIn_app (goodIn_of _ (by decide +kernel)) ggX0_pairUp_X0_lendShoes
set_option maxRecDepth 20000 in
theorem ggX0_pairUp_X0_isReady : GoodIn wsX0_pairUp wsX0_isReady := goodIn_r _ [36, 13, 16, 58, 59, 60, 61, 62, 63, 64, 65, 66] (by decide +kernel) (by decide +kernel)
set_option maxRecDepth 20000 in
theorem gX0_pairUp_X0_isReady : GoodIn wsX0_pairUp (wsV RX0 88 RX0 yX0_isReady wsX0_isReady) := goodIn_app (goodIn_of _ (by decide +kernel)) ggX0_pairUp_X0_isReady
set_option maxRecDepth 20000 in
theorem ggX0_pairUp_X0_newFollowers : GoodIn wsX0_pairUp wsX0_newFollowers := goodIn_r _ [40, 33, 34, 35, 7, 36, 13, 16, 58, 59, 60, 61, 62, 63, 64, 65, 66] (by decide +kernel) (by decide +kernel)
set_option maxRecDepth 20000 in
theorem gX0_pairUp_X0_newFollowers : GoodIn wsX0_pairUp (wsV RX0 96 RX0 yX0_newFollowers wsX0_newFollowers) := goodIn_app (goodIn_of _ (by decide +kernel)) ggX0_pairUp_X0_newFollowers
set_option maxRecDepth 20000 in
theorem ggX0_pairUp_X0_mostCouples : GoodIn wsX0_pairUp wsX0_mostCouples := goodIn_r _ [44, 45, 46, 47, 48, 49, 50, 51, 52, 7, 53, 1, 17, 18, 19, 58, 59, 60, 61, 62, 63, 64, 65, 66] (by decide +kernel) (by decide +kernel)
set_option maxRecDepth 20000 in
theorem gX0_pairUp_X0_mostCouples : GoodIn wsX0_pairUp (wsV RX0 100 RX0 yX0_mostCouples wsX0_mostCouples) := goodIn_app (goodIn_of _ (by decide +kernel)) ggX0_pairUp_X0_mostCouples
set_option maxRecDepth 20000 in
theorem ggX0_pairUp_X0_firstFollower : GoodIn wsX0_pairUp wsX0_firstFollower := goodIn_r _ [57, 1, 41, 42, 43, 7, 44, 45, 46, 47, 48, 49, 50, 51, 52, 53, 17, 18, 19, 58, 59, 60, 61, 62, 63, 64, 65, 66] (by decide +kernel) (by decide +kernel)
set_option maxRecDepth 20000 in
theorem gX0_pairUp_X0_firstFollower : GoodIn wsX0_pairUp (wsV RX0 104 RX0 yX0_firstFollower wsX0_firstFollower) := goodIn_app (goodIn_of _ (by decide +kernel)) ggX0_pairUp_X0_firstFollower
theorem dX0_pairUp_0 : decode cX0_pairUp 0 = .ok (.aload_n 0, 1) := by decide +kernel
theorem dX0_pairUp_1 : decode cX0_pairUp 1 = .ok (.aload_n 1, 1) := by decide +kernel
theorem dX0_pairUp_2 : decode cX0_pairUp 2 = .ok (.iconst 0, 1) := by decide +kernel
theorem dX0_pairUp_3 : decode cX0_pairUp 3 = .ok (.invokevirtual 84, 3) := by decide +kernel
theorem dX0_pairUp_6 : decode cX0_pairUp 6 = .ok (.iconst 0, 1) := by decide +kernel
theorem dX0_pairUp_7 : decode cX0_pairUp 7 = .ok (.istore_n 3, 1) := by decide +kernel
theorem dX0_pairUp_8 : decode cX0_pairUp 8 = .ok (.iload_n 3, 1) := by decide +kernel
theorem dX0_pairUp_9 : decode cX0_pairUp 9 = .ok (.bipush 8, 2) := by decide +kernel
theorem dX0_pairUp_11 : decode cX0_pairUp 11 = .ok (.if_icmp .ge 38, 3) := by decide +kernel
theorem dX0_pairUp_14 : decode cX0_pairUp 14 = .ok (.aload_n 0, 1) := by decide +kernel
theorem dX0_pairUp_15 : decode cX0_pairUp 15 = .ok (.getfield 24, 3) := by decide +kernel
theorem dX0_pairUp_18 : decode cX0_pairUp 18 = .ok (.iload_n 3, 1) := by decide +kernel
theorem dX0_pairUp_19 : decode cX0_pairUp 19 = .ok (.aload_n 0, 1) := by decide +kernel
theorem dX0_pairUp_20 : decode cX0_pairUp 20 = .ok (.iconst 1, 1) := by decide +kernel
theorem dX0_pairUp_21 : decode cX0_pairUp 21 = .ok (.iload_n 3, 1) := by decide +kernel
theorem dX0_pairUp_22 : decode cX0_pairUp 22 = .ok (.invokevirtual 88, 3) := by decide +kernel
theorem dX0_pairUp_25 : decode cX0_pairUp 25 = .ok (.ifCond .eq 16, 3) := by decide +kernel
theorem dX0_pairUp_28 : decode cX0_pairUp 28 = .ok (.aload_n 0, 1) := by decide +kernel
theorem dX0_pairUp_29 : decode cX0_pairUp 29 = .ok (.aload_n 1, 1) := by decide +kernel
theorem dX0_pairUp_30 : decode cX0_pairUp 30 = .ok (.getfield 92, 3) := by decide +kernel
theorem dX0_pairUp_33 : decode cX0_pairUp 33 = .ok (.iload_n 3, 1) := by decide +kernel
theorem dX0_pairUp_34 : decode cX0_pairUp 34 = .ok (.aaload, 1) := by decide +kernel
theorem dX0_pairUp_35 : decode cX0_pairUp 35 = .ok (.invokevirtual 96, 3) := by decide +kernel
theorem dX0_pairUp_38 : decode cX0_pairUp 38 = .ok (.goto 4, 3) := by decide +kernel
theorem dX0_pairUp_41 : decode cX0_pairUp 41 = .ok (.iconst 0, 1) := by decide +kernel
theorem dX0_pairUp_42 : decode cX0_pairUp 42 = .ok (.iastore, 1) := by decide +kernel
theorem dX0_pairUp_43 : decode cX0_pairUp 43 = .ok (.iinc 3 1, 3) := by decide +kernel
theorem dX0_pairUp_46 : decode cX0_pairUp 46 = .ok (.goto (-38), 3) := by decide +kernel
theorem dX0_pairUp_49 : decode cX0_pairUp 49 = .ok (.aload_n 0, 1) := by decide +kernel
theorem dX0_pairUp_50 : decode cX0_pairUp 50 = .ok (.iconst 0, 1) := by decide +kernel
theorem dX0_pairUp_51 : decode cX0_pairUp 51 = .ok (.sipush 255, 3) := by decide +kernel
theorem dX0_pairUp_54 : decode cX0_pairUp 54 = .ok (.iload_n 2, 1) := by decide +kernel
theorem dX0_pairUp_55 : decode cX0_pairUp 55 = .ok (.invokevirtual 100, 3) := by decide +kernel
theorem dX0_pairUp_58 : decode cX0_pairUp 58 = .ok (.istore_n 3, 1) := by decide +kernel
theorem dX0_pairUp_59 : decode cX0_pairUp 59 = .ok (.iload_n 3, 1) := by decide +kernel
theorem dX0_pairUp_60 : decode cX0_pairUp 60 = .ok (.istore 4, 2) := by decide +kernel
theorem dX0_pairUp_62 : decode cX0_pairUp 62 = .ok (.sipush 255, 3) := by decide +kernel
theorem dX0_pairUp_65 : decode cX0_pairUp 65 = .ok (.istore 5, 2) := by decide +kernel
theorem dX0_pairUp_67 : decode cX0_pairUp 67 = .ok (.iconst 0, 1) := by decide +kernel
theorem dX0_pairUp_68 : decode cX0_pairUp 68 = .ok (.istore 6, 2) := by decide +kernel
theorem dX0_pairUp_70 : decode cX0_pairUp 70 = .ok (.iload 6, 2) := by decide +kernel
theorem dX0_pairUp_72 : decode cX0_pairUp 72 = .ok (.bipush 8, 2) := by decide +kernel
theorem dX0_pairUp_74 : decode cX0_pairUp 74 = .ok (.if_icmp .ge 59, 3) := by decide +kernel
theorem dX0_pairUp_77 : decode cX0_pairUp 77 = .ok (.iload 4, 2) := by decide +kernel
theorem dX0_pairUp_79 : decode cX0_pairUp 79 = .ok (.ifCond .le 16, 3) := by decide +kernel
theorem dX0_pairUp_82 : decode cX0_pairUp 82 = .ok (.aload_n 0, 1) := by decide +kernel
theorem dX0_pairUp_83 : decode cX0_pairUp 83 = .ok (.iload 6, 2) := by decide +kernel
theorem dX0_pairUp_85 : decode cX0_pairUp 85 = .ok (.iload 5, 2) := by decide +kernel
theorem dX0_pairUp_87 : decode cX0_pairUp 87 = .ok (.iload 4, 2) := by decide +kernel
theorem dX0_pairUp_89 : decode cX0_pairUp 89 = .ok (.invokevirtual 104, 3) := by decide +kernel
theorem dX0_pairUp_92 : decode cX0_pairUp 92 = .ok (.goto 4, 3) := by decide +kernel
theorem dX0_pairUp_95 : decode cX0_pairUp 95 = .ok (.iconst (-1), 1) := by decide +kernel
theorem dX0_pairUp_96 : decode cX0_pairUp 96 = .ok (.istore 7, 2) := by decide +kernel
theorem dX0_pairUp_98 : decode cX0_pairUp 98 = .ok (.aload_n 0, 1) := by decide +kernel
theorem dX0_pairUp_99 : decode cX0_pairUp 99 = .ok (.getfield 15, 3) := by decide +kernel
theorem dX0_pairUp_102 : decode cX0_pairUp 102 = .ok (.iload 6, 2) := by decide +kernel
theorem dX0_pairUp_104 : decode cX0_pairUp 104 = .ok (.iload 7, 2) := by decide +kernel
theorem dX0_pairUp_106 : decode cX0_pairUp 106 = .ok (.iastore, 1) := by decide +kernel
theorem dX0_pairUp_107 : decode cX0_pairUp 107 = .ok (.iload 7, 2) := by decide +kernel
theorem dX0_pairUp_109 : decode cX0_pairUp 109 = .ok (.iconst (-1), 1) := by decide +kernel
theorem dX0_pairUp_110 : decode cX0_pairUp 110 = .ok (.if_icmp .eq 17, 3) := by decide +kernel
theorem dX0_pairUp_113 : decode cX0_pairUp 113 = .ok (.iload 5, 2) := by decide +kernel
theorem dX0_pairUp_115 : decode cX0_pairUp 115 = .ok (.iconst 1, 1) := by decide +kernel
theorem dX0_pairUp_116 : decode cX0_pairUp 116 = .ok (.iload 7, 2) := by decide +kernel
theorem dX0_pairUp_118 : decode cX0_pairUp 118 = .ok (.ishl, 1) := by decide +kernel
theorem dX0_pairUp_119 : decode cX0_pairUp 119 = .ok (.iconst (-1), 1) := by decide +kernel
theorem dX0_pairUp_120 : decode cX0_pairUp 120 = .ok (.ixor, 1) := by decide +kernel
theorem dX0_pairUp_121 : decode cX0_pairUp 121 = .ok (.iand, 1) := by decide +kernel
theorem dX0_pairUp_122 : decode cX0_pairUp 122 = .ok (.istore 5, 2) := by decide +kernel
theorem dX0_pairUp_124 : decode cX0_pairUp 124 = .ok (.iinc 4 (-1), 3) := by decide +kernel
theorem dX0_pairUp_127 : decode cX0_pairUp 127 = .ok (.iinc 6 1, 3) := by decide +kernel
theorem dX0_pairUp_130 : decode cX0_pairUp 130 = .ok (.goto (-60), 3) := by decide +kernel
theorem dX0_pairUp_133 : decode cX0_pairUp 133 = .ok (.iload_n 3, 1) := by decide +kernel
theorem dX0_pairUp_134 : decode cX0_pairUp 134 = .ok (.ireturn, 1) := by decide +kernel
set_option maxRecDepth 20000 in
theorem ggX0_newFollowers_X0_isReady : GoodIn wsX0_newFollowers wsX0_isReady := goodIn_r _ [5, 6, 7, 8, 9, 10, 11, 12, 13, 14, 15, 16] (by decide +kernel) (by decide +kernel)
set_option maxRecDepth 20000 in
theorem gX0_newFollowers_X0_isReady : GoodIn wsX0_newFollowers (wsV RX0 88 RX0 yX0_isReady wsX0_isReady) := goodIn_app (goodIn_of _ (by decide +kernel)) ggX0_newFollowers_X0_isReady
theorem dX0_newFollowers_0 : decode cX0_newFollowers 0 = .ok (.iconst 0, 1) := by decide +kernel
theorem dX0_newFollowers_1 : decode cX0_newFollowers 1 = .ok (.istore_n 2, 1) := by decide +kernel
theorem dX0_newFollowers_2 : decode cX0_newFollowers 2 = .ok (.iconst 0, 1) := by decide +kernel
theorem dX0_newFollowers_3 : decode cX0_newFollowers 3 = .ok (.istore_n 3, 1) := by decide +kernel
theorem dX0_newFollowers_4 : decode cX0_newFollowers 4 = .ok (.iload_n 3, 1) := by decide +kernel
theorem dX0_newFollowers_5 : decode cX0_newFollowers 5 = .ok (.bipush 8, 2) := by decide +kernel
theorem dX0_newFollowers_7 : decode cX0_newFollowers 7 = .ok (.if_icmp .ge 31, 3) := by decide +kernel
theorem dX0_newFollowers_10 : decode cX0_newFollowers 10 = .ok (.aload_n 0, 1) := by decide +kernel
theorem dX0_newFollowers_11 : decode cX0_newFollowers 11 = .ok (.iconst 0, 1) := by decide +kernel
theorem dX0_newFollowers_12 : decode cX0_newFollowers 12 = .ok (.iload_n 3, 1) := by decide +kernel
theorem dX0_newFollowers_13 : decode cX0_newFollowers 13 = .ok (.invokevirtual 88, 3) := by decide +kernel
theorem dX0_newFollowers_16 : decode cX0_newFollowers 16 = .ok (.ifCond .eq 16, 3) := by decide +kernel
theorem dX0_newFollowers_19 : decode cX0_newFollowers 19 = .ok (.aload_n 1, 1) := by decide +kernel
theorem dX0_newFollowers_20 : decode cX0_newFollowers 20 = .ok (.iload_n 3, 1) := by decide +kernel
theorem dX0_newFollowers_21 : decode cX0_newFollowers 21 = .ok (.iaload, 1) := by decide +kernel
theorem dX0_newFollowers_22 : decode cX0_newFollowers 22 = .ok (.iconst (-1), 1) := by decide +kernel
theorem dX0_newFollowers_23 : decode cX0_newFollowers 23 = .ok (.if_icmp .ne 9, 3) := by decide +kernel
theorem dX0_newFollowers_26 : decode cX0_newFollowers 26 = .ok (.iload_n 2, 1) := by decide +kernel
theorem dX0_newFollowers_27 : decode cX0_newFollowers 27 = .ok (.iconst 1, 1) := by decide +kernel
theorem dX0_newFollowers_28 : decode cX0_newFollowers 28 = .ok (.iload_n 3, 1) := by decide +kernel
theorem dX0_newFollowers_29 : decode cX0_newFollowers 29 = .ok (.ishl, 1) := by decide +kernel
theorem dX0_newFollowers_30 : decode cX0_newFollowers 30 = .ok (.ior, 1) := by decide +kernel
theorem dX0_newFollowers_31 : decode cX0_newFollowers 31 = .ok (.istore_n 2, 1) := by decide +kernel
theorem dX0_newFollowers_32 : decode cX0_newFollowers 32 = .ok (.iinc 3 1, 3) := by decide +kernel
theorem dX0_newFollowers_35 : decode cX0_newFollowers 35 = .ok (.goto (-31), 3) := by decide +kernel
theorem dX0_newFollowers_38 : decode cX0_newFollowers 38 = .ok (.iload_n 2, 1) := by decide +kernel
theorem dX0_newFollowers_39 : decode cX0_newFollowers 39 = .ok (.ireturn, 1) := by decide +kernel
set_option maxRecDepth 20000 in
theorem ggX0_firstFollower_X0_mostCouples : GoodIn wsX0_firstFollower wsX0_mostCouples := goodIn_r _ [6, 7, 8, 9, 10, 11, 12, 13, 14, 5, 15, 1, 16, 17, 18, 19, 20, 21, 22, 23, 24, 25, 26, 27] (by decide +kernel) (by decide +kernel)
set_option maxRecDepth 20000 in
theorem gX0_firstFollower_X0_mostCouples : GoodIn wsX0_firstFollower (wsV RX0 100 RX0 yX0_mostCouples wsX0_mostCouples) := goodIn_app (goodIn_of _ (by decide +kernel)) ggX0_firstFollower_X0_mostCouples
theorem dX0_firstFollower_0 : decode cX0_firstFollower 0 = .ok (.iconst 0, 1) := by decide +kernel
theorem dX0_firstFollower_1 : decode cX0_firstFollower 1 = .ok (.istore 4, 2) := by decide +kernel
theorem dX0_firstFollower_3 : decode cX0_firstFollower 3 = .ok (.iload 4, 2) := by decide +kernel
theorem dX0_firstFollower_5 : decode cX0_firstFollower 5 = .ok (.bipush 8, 2) := by decide +kernel
theorem dX0_firstFollower_7 : decode cX0_firstFollower 7 = .ok (.if_icmp .ge 54, 3) := by decide +kernel
theorem dX0_firstFollower_10 : decode cX0_firstFollower 10 = .ok (.iconst 1, 1) := by decide +kernel
theorem dX0_firstFollower_11 : decode cX0_firstFollower 11 = .ok (.iload 4, 2) := by decide +kernel
theorem dX0_firstFollower_13 : decode cX0_firstFollower 13 = .ok (.ishl, 1) := by decide +kernel
theorem dX0_firstFollower_14 : decode cX0_firstFollower 14 = .ok (.istore 5, 2) := by decide +kernel
theorem dX0_firstFollower_16 : decode cX0_firstFollower 16 = .ok (.aload_n 0, 1) := by decide +kernel
theorem dX0_firstFollower_17 : decode cX0_firstFollower 17 = .ok (.getfield 24, 3) := by decide +kernel
theorem dX0_firstFollower_20 : decode cX0_firstFollower 20 = .ok (.iload_n 1, 1) := by decide +kernel
theorem dX0_firstFollower_21 : decode cX0_firstFollower 21 = .ok (.iaload, 1) := by decide +kernel
theorem dX0_firstFollower_22 : decode cX0_firstFollower 22 = .ok (.iload_n 2, 1) := by decide +kernel
theorem dX0_firstFollower_23 : decode cX0_firstFollower 23 = .ok (.iand, 1) := by decide +kernel
theorem dX0_firstFollower_24 : decode cX0_firstFollower 24 = .ok (.iload 5, 2) := by decide +kernel
theorem dX0_firstFollower_26 : decode cX0_firstFollower 26 = .ok (.iand, 1) := by decide +kernel
theorem dX0_firstFollower_27 : decode cX0_firstFollower 27 = .ok (.ifCond .eq 28, 3) := by decide +kernel
theorem dX0_firstFollower_30 : decode cX0_firstFollower 30 = .ok (.aload_n 0, 1) := by decide +kernel
theorem dX0_firstFollower_31 : decode cX0_firstFollower 31 = .ok (.iload_n 1, 1) := by decide +kernel
theorem dX0_firstFollower_32 : decode cX0_firstFollower 32 = .ok (.iconst 1, 1) := by decide +kernel
theorem dX0_firstFollower_33 : decode cX0_firstFollower 33 = .ok (.iadd, 1) := by decide +kernel
theorem dX0_firstFollower_34 : decode cX0_firstFollower 34 = .ok (.iload_n 2, 1) := by decide +kernel
theorem dX0_firstFollower_35 : decode cX0_firstFollower 35 = .ok (.iload 5, 2) := by decide +kernel
theorem dX0_firstFollower_37 : decode cX0_firstFollower 37 = .ok (.iconst (-1), 1) := by decide +kernel
theorem dX0_firstFollower_38 : decode cX0_firstFollower 38 = .ok (.ixor, 1) := by decide +kernel
theorem dX0_firstFollower_39 : decode cX0_firstFollower 39 = .ok (.iand, 1) := by decide +kernel
theorem dX0_firstFollower_40 : decode cX0_firstFollower 40 = .ok (.iload_n 3, 1) := by decide +kernel
theorem dX0_firstFollower_41 : decode cX0_firstFollower 41 = .ok (.iconst 1, 1) := by decide +kernel
theorem dX0_firstFollower_42 : decode cX0_firstFollower 42 = .ok (.isub, 1) := by decide +kernel
theorem dX0_firstFollower_43 : decode cX0_firstFollower 43 = .ok (.invokevirtual 100, 3) := by decide +kernel
theorem dX0_firstFollower_46 : decode cX0_firstFollower 46 = .ok (.iload_n 3, 1) := by decide +kernel
theorem dX0_firstFollower_47 : decode cX0_firstFollower 47 = .ok (.iconst 1, 1) := by decide +kernel
theorem dX0_firstFollower_48 : decode cX0_firstFollower 48 = .ok (.isub, 1) := by decide +kernel
theorem dX0_firstFollower_49 : decode cX0_firstFollower 49 = .ok (.if_icmp .ne 6, 3) := by decide +kernel
theorem dX0_firstFollower_52 : decode cX0_firstFollower 52 = .ok (.iload 4, 2) := by decide +kernel
theorem dX0_firstFollower_54 : decode cX0_firstFollower 54 = .ok (.ireturn, 1) := by decide +kernel
theorem dX0_firstFollower_55 : decode cX0_firstFollower 55 = .ok (.iinc 4 1, 3) := by decide +kernel
theorem dX0_firstFollower_58 : decode cX0_firstFollower 58 = .ok (.goto (-55), 3) := by decide +kernel
theorem dX0_firstFollower_61 : decode cX0_firstFollower 61 = .ok (.iconst (-1), 1) := by decide +kernel
theorem dX0_firstFollower_62 : decode cX0_firstFollower 62 = .ok (.ireturn, 1) := by decide +kernel
set_option maxRecDepth 20000 in
theorem ggX0_mostCouples_J7_fill_53178 : GoodIn wsX0_mostCouples wsJ7_fill_53178 := goodIn_r _ [6] (by decide +kernel) (by decide +kernel)
set_option maxRecDepth 20000 in
theorem gX0_mostCouples_J7_fill_53178 : GoodIn wsX0_mostCouples (va_wsS RX0 107 yJ7_fill_53178 wsJ7_fill_53178) := goodIn_app (goodIn_of _ (by decide +kernel)) ggX0_mostCouples_J7_fill_53178
set_option maxRecDepth 20000 in
theorem ggX0_mostCouples_X0_place : GoodIn wsX0_mostCouples wsX0_place := goodIn_r _ [10, 11, 2, 1, 7, 8, 9, 15, 16, 17, 18, 19, 20, 21, 22, 23] (by decide +kernel) (by decide +kernel)
set_option maxRecDepth 20000 in
theorem gX0_mostCouples_X0_place : GoodIn wsX0_mostCouples (va_wsS RX0 116 yX0_place wsX0_place) := goodIn_app (goodIn_of _ (by decide +kernel)) ggX0_mostCouples_X0_place
set_option maxRecDepth 20000 in
theorem ggX0_mostCouples_X4_oneIf : GoodIn wsX0_mostCouples wsX4_oneIf := goodIn_r _ [14] (by decide +kernel) (by decide +kernel)
set_option maxRecDepth 20000 in
theorem gX0_mostCouples_X4_oneIf_n35 : GoodIn wsX0_mostCouples (wsX4_oneIf) := ggX0_mostCouples_X4_oneIf
theorem dX0_mostCouples_0 : decode cX0_mostCouples 0 = .ok (.aload_n 0, 1) := by decide +kernel
theorem dX0_mostCouples_1 : decode cX0_mostCouples 1 = .ok (.getfield 27, 3) := by decide +kernel
theorem dX0_mostCouples_4 : decode cX0_mostCouples 4 = .ok (.iconst (-1), 1) := by decide +kernel
theorem dX0_mostCouples_5 : decode cX0_mostCouples 5 = .ok (.invokestatic 107, 3) := by decide +kernel
theorem dX0_mostCouples_8 : decode cX0_mostCouples 8 = .ok (.iconst 0, 1) := by decide +kernel
theorem dX0_mostCouples_9 : decode cX0_mostCouples 9 = .ok (.istore 4, 2) := by decide +kernel
theorem dX0_mostCouples_11 : decode cX0_mostCouples 11 = .ok (.iload_n 1, 1) := by decide +kernel
theorem dX0_mostCouples_12 : decode cX0_mostCouples 12 = .ok (.istore 5, 2) := by decide +kernel
theorem dX0_mostCouples_14 : decode cX0_mostCouples 14 = .ok (.iload 5, 2) := by decide +kernel
theorem dX0_mostCouples_16 : decode cX0_mostCouples 16 = .ok (.bipush 8, 2) := by decide +kernel
theorem dX0_mostCouples_18 : decode cX0_mostCouples 18 = .ok (.if_icmp .ge 35, 3) := by decide +kernel
theorem dX0_mostCouples_21 : decode cX0_mostCouples 21 = .ok (.iload 4, 2) := by decide +kernel
theorem dX0_mostCouples_23 : decode cX0_mostCouples 23 = .ok (.iload_n 3, 1) := by decide +kernel
theorem dX0_mostCouples_24 : decode cX0_mostCouples 24 = .ok (.if_icmp .ge 29, 3) := by decide +kernel
theorem dX0_mostCouples_27 : decode cX0_mostCouples 27 = .ok (.aload_n 0, 1) := by decide +kernel
theorem dX0_mostCouples_28 : decode cX0_mostCouples 28 = .ok (.iload_n 2, 1) := by decide +kernel
theorem dX0_mostCouples_29 : decode cX0_mostCouples 29 = .ok (.putfield 113, 3) := by decide +kernel
theorem dX0_mostCouples_32 : decode cX0_mostCouples 32 = .ok (.iload 4, 2) := by decide +kernel
theorem dX0_mostCouples_34 : decode cX0_mostCouples 34 = .ok (.aload_n 0, 1) := by decide +kernel
theorem dX0_mostCouples_35 : decode cX0_mostCouples 35 = .ok (.iload 5, 2) := by decide +kernel
theorem dX0_mostCouples_37 : decode cX0_mostCouples 37 = .ok (.iconst 0, 1) := by decide +kernel
theorem dX0_mostCouples_38 : decode cX0_mostCouples 38 = .ok (.invokestatic 116, 3) := by decide +kernel
theorem dX0_mostCouples_41 : decode cX0_mostCouples 41 = .ok (.invokestatic 35, 3) := by decide +kernel
theorem dX0_mostCouples_44 : decode cX0_mostCouples 44 = .ok (.iadd, 1) := by decide +kernel
theorem dX0_mostCouples_45 : decode cX0_mostCouples 45 = .ok (.istore 4, 2) := by decide +kernel
theorem dX0_mostCouples_47 : decode cX0_mostCouples 47 = .ok (.iinc 5 1, 3) := by decide +kernel
theorem dX0_mostCouples_50 : decode cX0_mostCouples 50 = .ok (.goto (-36), 3) := by decide +kernel
theorem dX0_mostCouples_53 : decode cX0_mostCouples 53 = .ok (.iload 4, 2) := by decide +kernel
theorem dX0_mostCouples_55 : decode cX0_mostCouples 55 = .ok (.ireturn, 1) := by decide +kernel
set_option maxRecDepth 20000 in
theorem ggX0_place_X0_place : GoodIn wsX0_place wsX0_place := goodIn_r _ [0, 1, 2, 3, 4, 5, 6, 7, 8, 9, 10, 11, 12, 13, 14, 15] (by decide +kernel) (by decide +kernel)
set_option maxRecDepth 20000 in
theorem gX0_place_X0_place : GoodIn wsX0_place (va_wsS RX0 116 yX0_place wsX0_place) := goodIn_app (goodIn_of _ (by decide +kernel)) ggX0_place_X0_place
theorem dX0_place_0 : decode cX0_place 0 = .ok (.iload_n 2, 1) := by decide +kernel
theorem dX0_place_1 : decode cX0_place 1 = .ok (.bipush 8, 2) := by decide +kernel
theorem dX0_place_3 : decode cX0_place 3 = .ok (.if_icmp .lt 5, 3) := by decide +kernel
theorem dX0_place_6 : decode cX0_place 6 = .ok (.iconst 0, 1) := by decide +kernel
theorem dX0_place_7 : decode cX0_place 7 = .ok (.ireturn, 1) := by decide +kernel
theorem dX0_place_8 : decode cX0_place 8 = .ok (.iconst 0, 1) := by decide +kernel
theorem dX0_place_9 : decode cX0_place 9 = .ok (.istore_n 3, 1) := by decide +kernel
theorem dX0_place_10 : decode cX0_place 10 = .ok (.iload_n 3, 1) := by decide +kernel
theorem dX0_place_11 : decode cX0_place 11 = .ok (.bipush 8, 2) := by decide +kernel
theorem dX0_place_13 : decode cX0_place 13 = .ok (.if_icmp .ge 79, 3) := by decide +kernel
theorem dX0_place_16 : decode cX0_place 16 = .ok (.iconst 1, 1) := by decide +kernel
theorem dX0_place_17 : decode cX0_place 17 = .ok (.iload_n 3, 1) := by decide +kernel
theorem dX0_place_18 : decode cX0_place 18 = .ok (.ishl, 1) := by decide +kernel
theorem dX0_place_19 : decode cX0_place 19 = .ok (.istore 4, 2) := by decide +kernel
theorem dX0_place_21 : decode cX0_place 21 = .ok (.aload_n 0, 1) := by decide +kernel
theorem dX0_place_22 : decode cX0_place 22 = .ok (.getfield 24, 3) := by decide +kernel
theorem dX0_place_25 : decode cX0_place 25 = .ok (.iload_n 1, 1) := by decide +kernel
theorem dX0_place_26 : decode cX0_place 26 = .ok (.iaload, 1) := by decide +kernel
theorem dX0_place_27 : decode cX0_place 27 = .ok (.aload_n 0, 1) := by decide +kernel
theorem dX0_place_28 : decode cX0_place 28 = .ok (.getfield 113, 3) := by decide +kernel
theorem dX0_place_31 : decode cX0_place 31 = .ok (.iand, 1) := by decide +kernel
theorem dX0_place_32 : decode cX0_place 32 = .ok (.iload 4, 2) := by decide +kernel
theorem dX0_place_34 : decode cX0_place 34 = .ok (.iand, 1) := by decide +kernel
theorem dX0_place_35 : decode cX0_place 35 = .ok (.ifCond .eq 51, 3) := by decide +kernel
theorem dX0_place_38 : decode cX0_place 38 = .ok (.aload_n 0, 1) := by decide +kernel
theorem dX0_place_39 : decode cX0_place 39 = .ok (.dup, 1) := by decide +kernel
theorem dX0_place_40 : decode cX0_place 40 = .ok (.getfield 113, 3) := by decide +kernel
theorem dX0_place_43 : decode cX0_place 43 = .ok (.iload 4, 2) := by decide +kernel
theorem dX0_place_45 : decode cX0_place 45 = .ok (.iconst (-1), 1) := by decide +kernel
theorem dX0_place_46 : decode cX0_place 46 = .ok (.ixor, 1) := by decide +kernel
theorem dX0_place_47 : decode cX0_place 47 = .ok (.iand, 1) := by decide +kernel
theorem dX0_place_48 : decode cX0_place 48 = .ok (.putfield 113, 3) := by decide +kernel
theorem dX0_place_51 : decode cX0_place 51 = .ok (.aload_n 0, 1) := by decide +kernel
theorem dX0_place_52 : decode cX0_place 52 = .ok (.getfield 27, 3) := by decide +kernel
theorem dX0_place_55 : decode cX0_place 55 = .ok (.iload_n 3, 1) := by decide +kernel
theorem dX0_place_56 : decode cX0_place 56 = .ok (.iaload, 1) := by decide +kernel
theorem dX0_place_57 : decode cX0_place 57 = .ok (.istore 5, 2) := by decide +kernel
theorem dX0_place_59 : decode cX0_place 59 = .ok (.iload 5, 2) := by decide +kernel
theorem dX0_place_61 : decode cX0_place 61 = .ok (.iconst (-1), 1) := by decide +kernel
theorem dX0_place_62 : decode cX0_place 62 = .ok (.if_icmp .eq 15, 3) := by decide +kernel
theorem dX0_place_65 : decode cX0_place 65 = .ok (.aload_n 0, 1) := by decide +kernel
theorem dX0_place_66 : decode cX0_place 66 = .ok (.iload 5, 2) := by decide +kernel
theorem dX0_place_68 : decode cX0_place 68 = .ok (.iload_n 2, 1) := by decide +kernel
theorem dX0_place_69 : decode cX0_place 69 = .ok (.iconst 1, 1) := by decide +kernel
theorem dX0_place_70 : decode cX0_place 70 = .ok (.iadd, 1) := by decide +kernel
theorem dX0_place_71 : decode cX0_place 71 = .ok (.invokestatic 116, 3) := by decide +kernel
theorem dX0_place_74 : decode cX0_place 74 = .ok (.ifCond .eq 12, 3) := by decide +kernel
theorem dX0_place_77 : decode cX0_place 77 = .ok (.aload_n 0, 1) := by decide +kernel
theorem dX0_place_78 : decode cX0_place 78 = .ok (.getfield 27, 3) := by decide +kernel
theorem dX0_place_81 : decode cX0_place 81 = .ok (.iload_n 3, 1) := by decide +kernel
theorem dX0_place_82 : decode cX0_place 82 = .ok (.iload_n 1, 1) := by decide +kernel
theorem dX0_place_83 : decode cX0_place 83 = .ok (.iastore, 1) := by decide +kernel
theorem dX0_place_84 : decode cX0_place 84 = .ok (.iconst 1, 1) := by decide +kernel
theorem dX0_place_85 : decode cX0_place 85 = .ok (.ireturn, 1) := by decide +kernel
theorem dX0_place_86 : decode cX0_place 86 = .ok (.iinc 3 1, 3) := by decide +kernel
theorem dX0_place_89 : decode cX0_place 89 = .ok (.goto (-79), 3) := by decide +kernel
theorem dX0_place_92 : decode cX0_place 92 = .ok (.iconst 0, 1) := by decide +kernel
theorem dX0_place_93 : decode cX0_place 93 = .ok (.ireturn, 1) := by decide +kernel
theorem dX1_init_0 : decode cX1_init 0 = .ok (.aload_n 0, 1) := by decide +kernel
theorem dX1_init_1 : decode cX1_init 1 = .ok (.invokespecial 3, 3) := by decide +kernel
theorem dX1_init_4 : decode cX1_init 4 = .ok (.aload_n 0, 1) := by decide +kernel
theorem dX1_init_5 : decode cX1_init 5 = .ok (.bipush 100, 2) := by decide +kernel
theorem dX1_init_7 : decode cX1_init 7 = .ok (.newarray .byte, 2) := by decide +kernel
theorem dX1_init_9 : decode cX1_init 9 = .ok (.putfield 9, 3) := by decide +kernel
theorem dX1_init_12 : decode cX1_init 12 = .ok (.return_, 1) := by decide +kernel
theorem dX2_init_0 : decode cX2_init 0 = .ok (.aload_n 0, 1) := by decide +kernel
theorem dX2_init_1 : decode cX2_init 1 = .ok (.invokespecial 3, 3) := by decide +kernel
theorem dX2_init_4 : decode cX2_init 4 = .ok (.aload_n 0, 1) := by decide +kernel
theorem dX2_init_5 : decode cX2_init 5 = .ok (.bipush 8, 2) := by decide +kernel
theorem dX2_init_7 : decode cX2_init 7 = .ok (.newarray .int, 2) := by decide +kernel
theorem dX2_init_9 : decode cX2_init 9 = .ok (.putfield 9, 3) := by decide +kernel
theorem dX2_init_12 : decode cX2_init 12 = .ok (.aload_n 0, 1) := by decide +kernel
theorem dX2_init_13 : decode cX2_init 13 = .ok (.bipush 8, 2) := by decide +kernel
theorem dX2_init_15 : decode cX2_init 15 = .ok (.newarray .int, 2) := by decide +kernel
theorem dX2_init_17 : decode cX2_init 17 = .ok (.putfield 15, 3) := by decide +kernel
theorem dX2_init_20 : decode cX2_init 20 = .ok (.aload_n 0, 1) := by decide +kernel
theorem dX2_init_21 : decode cX2_init 21 = .ok (.bipush 8, 2) := by decide +kernel
theorem dX2_init_23 : decode cX2_init 23 = .ok (.newarray .boolean, 2) := by decide +kernel
theorem dX2_init_25 : decode cX2_init 25 = .ok (.putfield 18, 3) := by decide +kernel
theorem dX2_init_28 : decode cX2_init 28 = .ok (.aload_n 0, 1) := by decide +kernel
theorem dX2_init_29 : decode cX2_init 29 = .ok (.bipush 8, 2) := by decide +kernel
theorem dX2_init_31 : decode cX2_init 31 = .ok (.newarray .boolean, 2) := by decide +kernel
theorem dX2_init_33 : decode cX2_init 33 = .ok (.putfield 22, 3) := by decide +kernel
theorem dX2_init_36 : decode cX2_init 36 = .ok (.aload_n 0, 1) := by decide +kernel
theorem dX2_init_37 : decode cX2_init 37 = .ok (.bipush 8, 2) := by decide +kernel
theorem dX2_init_39 : decode cX2_init 39 = .ok (.newarray .int, 2) := by decide +kernel
theorem dX2_init_41 : decode cX2_init 41 = .ok (.putfield 25, 3) := by decide +kernel
theorem dX2_init_44 : decode cX2_init 44 = .ok (.return_, 1) := by decide +kernel
theorem dX2_has_0 : decode cX2_has 0 = .ok (.iconst 0, 1) := by decide +kernel
theorem dX2_has_1 : decode cX2_has 1 = .ok (.iload_n 1, 1) := by decide +kernel
theorem dX2_has_2 : decode cX2_has 2 = .ok (.if_icmp .gt 15, 3) := by decide +kernel
theorem dX2_has_5 : decode cX2_has 5 = .ok (.iload_n 1, 1) := by decide +kernel
theorem dX2_has_6 : decode cX2_has 6 = .ok (.aload_n 0, 1) := by decide +kernel
theorem dX2_has_7 : decode cX2_has 7 = .ok (.getfield 28, 3) := by decide +kernel
theorem dX2_has_10 : decode cX2_has 10 = .ok (.if_icmp .ge 7, 3) := by decide +kernel
theorem dX2_has_13 : decode cX2_has 13 = .ok (.iconst 1, 1) := by decide +kernel
theorem dX2_has_14 : decode cX2_has 14 = .ok (.goto 4, 3) := by decide +kernel
theorem dX2_has_17 : decode cX2_has 17 = .ok (.iconst 0, 1) := by decide +kernel
theorem dX2_has_18 : decode cX2_has 18 = .ok (.ireturn, 1) := by decide +kernel
theorem dX2_isFull_0 : decode cX2_isFull 0 = .ok (.aload_n 0, 1) := by decide +kernel
theorem dX2_isFull_1 : decode cX2_isFull 1 = .ok (.getfield 28, 3) := by decide +kernel
theorem dX2_isFull_4 : decode cX2_isFull 4 = .ok (.bipush 8, 2) := by decide +kernel
theorem dX2_isFull_6 : decode cX2_isFull 6 = .ok (.if_icmp .lt 7, 3) := by decide +kernel
theorem dX2_isFull_9 : decode cX2_isFull 9 = .ok (.iconst 1, 1) := by decide +kernel
theorem dX2_isFull_10 : decode cX2_isFull 10 = .ok (.goto 4, 3) := by decide +kernel
theorem dX2_isFull_13 : decode cX2_isFull 13 = .ok (.iconst 0, 1) := by decide +kernel
theorem dX2_isFull_14 : decode cX2_isFull 14 = .ok (.ireturn, 1) := by decide +kernel
set_option maxRecDepth 20000 in
theorem ggX2_add_X2_isFull : GoodIn wsX2_add wsX2_isFull := goodIn_r _ [11, 1, 12, 13, 14, 15, 16, 17] (by decide +kernel) (by decide +kernel)
set_option maxRecDepth 20000 in
theorem gX2_add_X2_isFull : GoodIn wsX2_add (wsV RX2 32 RX2 yX2_isFull wsX2_isFull) := goodIn_app (goodIn_of _ (by decide +kernel)) ggX2_add_X2_isFull
theorem dX2_add_0 : decode cX2_add 0 = .ok (.aload_n 0, 1) := by decide +kernel
theorem dX2_add_1 : decode cX2_add 1 = .ok (.invokevirtual 32, 3) := by decide +kernel
theorem dX2_add_4 : decode cX2_add 4 = .ok (.ifCond .eq 5, 3) := by decide +kernel
theorem dX2_add_7 : decode cX2_add 7 = .ok (.iconst (-1), 1) := by decide +kernel
theorem dX2_add_8 : decode cX2_add 8 = .ok (.ireturn, 1) := by decide +kernel
theorem dX2_add_9 : decode cX2_add 9 = .ok (.aload_n 0, 1) := by decide +kernel
theorem dX2_add_10 : decode cX2_add 10 = .ok (.getfield 28, 3) := by decide +kernel
theorem dX2_add_13 : decode cX2_add 13 = .ok (.istore 4, 2) := by decide +kernel
theorem dX2_add_15 : decode cX2_add 15 = .ok (.aload_n 0, 1) := by decide +kernel
theorem dX2_add_16 : decode cX2_add 16 = .ok (.getfield 9, 3) := by decide +kernel
theorem dX2_add_19 : decode cX2_add 19 = .ok (.iload 4, 2) := by decide +kernel
theorem dX2_add_21 : decode cX2_add 21 = .ok (.iload_n 1, 1) := by decide +kernel
theorem dX2_add_22 : decode cX2_add 22 = .ok (.iastore, 1) := by decide +kernel
theorem dX2_add_23 : decode cX2_add 23 = .ok (.aload_n 0, 1) := by decide +kernel
theorem dX2_add_24 : decode cX2_add 24 = .ok (.getfield 15, 3) := by decide +kernel
theorem dX2_add_27 : decode cX2_add 27 = .ok (.iload 4, 2) := by decide +kernel
theorem dX2_add_29 : decode cX2_add 29 = .ok (.iload_n 2, 1) := by decide +kernel
theorem dX2_add_30 : decode cX2_add 30 = .ok (.iastore, 1) := by decide +kernel
theorem dX2_add_31 : decode cX2_add 31 = .ok (.aload_n 0, 1) := by decide +kernel
theorem dX2_add_32 : decode cX2_add 32 = .ok (.getfield 18, 3) := by decide +kernel
theorem dX2_add_35 : decode cX2_add 35 = .ok (.iload 4, 2) := by decide +kernel
theorem dX2_add_37 : decode cX2_add 37 = .ok (.iload_n 3, 1) := by decide +kernel
theorem dX2_add_38 : decode cX2_add 38 = .ok (.bastore, 1) := by decide +kernel
theorem dX2_add_39 : decode cX2_add 39 = .ok (.aload_n 0, 1) := by decide +kernel
theorem dX2_add_40 : decode cX2_add 40 = .ok (.getfield 22, 3) := by decide +kernel
theorem dX2_add_43 : decode cX2_add 43 = .ok (.iload 4, 2) := by decide +kernel
theorem dX2_add_45 : decode cX2_add 45 = .ok (.iconst 1, 1) := by decide +kernel
theorem dX2_add_46 : decode cX2_add 46 = .ok (.bastore, 1) := by decide +kernel
theorem dX2_add_47 : decode cX2_add 47 = .ok (.aload_n 0, 1) := by decide +kernel
theorem dX2_add_48 : decode cX2_add 48 = .ok (.getfield 25, 3) := by decide +kernel
theorem dX2_add_51 : decode cX2_add 51 = .ok (.iload 4, 2) := by decide +kernel
theorem dX2_add_53 : decode cX2_add 53 = .ok (.iconst 0, 1) := by decide +kernel
theorem dX2_add_54 : decode cX2_add 54 = .ok (.iastore, 1) := by decide +kernel
theorem dX2_add_55 : decode cX2_add 55 = .ok (.aload_n 0, 1) := by decide +kernel
theorem dX2_add_56 : decode cX2_add 56 = .ok (.dup, 1) := by decide +kernel
theorem dX2_add_57 : decode cX2_add 57 = .ok (.getfield 28, 3) := by decide +kernel
theorem dX2_add_60 : decode cX2_add 60 = .ok (.iconst 1, 1) := by decide +kernel
theorem dX2_add_61 : decode cX2_add 61 = .ok (.iadd, 1) := by decide +kernel
theorem dX2_add_62 : decode cX2_add 62 = .ok (.putfield 28, 3) := by decide +kernel
theorem dX2_add_65 : decode cX2_add 65 = .ok (.iload 4, 2) := by decide +kernel
theorem dX2_add_67 : decode cX2_add 67 = .ok (.ireturn, 1) := by decide +kernel
theorem dX2_bookDance_0 : decode cX2_bookDance 0 = .ok (.aload_n 0, 1) := by decide +kernel
theorem dX2_bookDance_1 : decode cX2_bookDance 1 = .ok (.getfield 9, 3) := by decide +kernel
theorem dX2_bookDance_4 : decode cX2_bookDance 4 = .ok (.iload_n 1, 1) := by decide +kernel
theorem dX2_bookDance_5 : decode cX2_bookDance 5 = .ok (.dup2, 1) := by decide +kernel
theorem dX2_bookDance_6 : decode cX2_bookDance 6 = .ok (.iaload, 1) := by decide +kernel
theorem dX2_bookDance_7 : decode cX2_bookDance 7 = .ok (.iconst 1, 1) := by decide +kernel
theorem dX2_bookDance_8 : decode cX2_bookDance 8 = .ok (.isub, 1) := by decide +kernel
theorem dX2_bookDance_9 : decode cX2_bookDance 9 = .ok (.iastore, 1) := by decide +kernel
theorem dX2_bookDance_10 : decode cX2_bookDance 10 = .ok (.aload_n 0, 1) := by decide +kernel
theorem dX2_bookDance_11 : decode cX2_bookDance 11 = .ok (.getfield 25, 3) := by decide +kernel
theorem dX2_bookDance_14 : decode cX2_bookDance 14 = .ok (.iload_n 1, 1) := by decide +kernel
theorem dX2_bookDance_15 : decode cX2_bookDance 15 = .ok (.dup2, 1) := by decide +kernel
theorem dX2_bookDance_16 : decode cX2_bookDance 16 = .ok (.iaload, 1) := by decide +kernel
theorem dX2_bookDance_17 : decode cX2_bookDance 17 = .ok (.iconst 1, 1) := by decide +kernel
theorem dX2_bookDance_18 : decode cX2_bookDance 18 = .ok (.iadd, 1) := by decide +kernel
theorem dX2_bookDance_19 : decode cX2_bookDance 19 = .ok (.iastore, 1) := by decide +kernel
theorem dX2_bookDance_20 : decode cX2_bookDance 20 = .ok (.return_, 1) := by decide +kernel
theorem dX2_callBack_0 : decode cX2_callBack 0 = .ok (.iconst 0, 1) := by decide +kernel
theorem dX2_callBack_1 : decode cX2_callBack 1 = .ok (.istore_n 1, 1) := by decide +kernel
theorem dX2_callBack_2 : decode cX2_callBack 2 = .ok (.iload_n 1, 1) := by decide +kernel
theorem dX2_callBack_3 : decode cX2_callBack 3 = .ok (.aload_n 0, 1) := by decide +kernel
theorem dX2_callBack_4 : decode cX2_callBack 4 = .ok (.getfield 28, 3) := by decide +kernel
theorem dX2_callBack_7 : decode cX2_callBack 7 = .ok (.if_icmp .ge 16, 3) := by decide +kernel
theorem dX2_callBack_10 : decode cX2_callBack 10 = .ok (.aload_n 0, 1) := by decide +kernel
theorem dX2_callBack_11 : decode cX2_callBack 11 = .ok (.getfield 22, 3) := by decide +kernel
theorem dX2_callBack_14 : decode cX2_callBack 14 = .ok (.iload_n 1, 1) := by decide +kernel
theorem dX2_callBack_15 : decode cX2_callBack 15 = .ok (.iconst 1, 1) := by decide +kernel
theorem dX2_callBack_16 : decode cX2_callBack 16 = .ok (.bastore, 1) := by decide +kernel
theorem dX2_callBack_17 : decode cX2_callBack 17 = .ok (.iinc 1 1, 3) := by decide +kernel
theorem dX2_callBack_20 : decode cX2_callBack 20 = .ok (.goto (-18), 3) := by decide +kernel
theorem dX2_callBack_23 : decode cX2_callBack 23 = .ok (.return_, 1) := by decide +kernel
theorem dX2_copyFrom_0 : decode cX2_copyFrom 0 = .ok (.aload_n 0, 1) := by decide +kernel
theorem dX2_copyFrom_1 : decode cX2_copyFrom 1 = .ok (.aload_n 1, 1) := by decide +kernel
theorem dX2_copyFrom_2 : decode cX2_copyFrom 2 = .ok (.getfield 28, 3) := by decide +kernel
theorem dX2_copyFrom_5 : decode cX2_copyFrom 5 = .ok (.putfield 28, 3) := by decide +kernel
theorem dX2_copyFrom_8 : decode cX2_copyFrom 8 = .ok (.iconst 0, 1) := by decide +kernel
theorem dX2_copyFrom_9 : decode cX2_copyFrom 9 = .ok (.istore_n 2, 1) := by decide +kernel
theorem dX2_copyFrom_10 : decode cX2_copyFrom 10 = .ok (.iload_n 2, 1) := by decide +kernel
theorem dX2_copyFrom_11 : decode cX2_copyFrom 11 = .ok (.bipush 8, 2) := by decide +kernel
theorem dX2_copyFrom_13 : decode cX2_copyFrom 13 = .ok (.if_icmp .ge 69, 3) := by decide +kernel
theorem dX2_copyFrom_16 : decode cX2_copyFrom 16 = .ok (.aload_n 0, 1) := by decide +kernel
theorem dX2_copyFrom_17 : decode cX2_copyFrom 17 = .ok (.getfield 9, 3) := by decide +kernel
theorem dX2_copyFrom_20 : decode cX2_copyFrom 20 = .ok (.iload_n 2, 1) := by decide +kernel
theorem dX2_copyFrom_21 : decode cX2_copyFrom 21 = .ok (.aload_n 1, 1) := by decide +kernel
theorem dX2_copyFrom_22 : decode cX2_copyFrom 22 = .ok (.getfield 9, 3) := by decide +kernel
theorem dX2_copyFrom_25 : decode cX2_copyFrom 25 = .ok (.iload_n 2, 1) := by decide +kernel
theorem dX2_copyFrom_26 : decode cX2_copyFrom 26 = .ok (.iaload, 1) := by decide +kernel
theorem dX2_copyFrom_27 : decode cX2_copyFrom 27 = .ok (.iastore, 1) := by decide +kernel
theorem dX2_copyFrom_28 : decode cX2_copyFrom 28 = .ok (.aload_n 0, 1) := by decide +kernel
theorem dX2_copyFrom_29 : decode cX2_copyFrom 29 = .ok (.getfield 15, 3) := by decide +kernel
theorem dX2_copyFrom_32 : decode cX2_copyFrom 32 = .ok (.iload_n 2, 1) := by decide +kernel
theorem dX2_copyFrom_33 : decode cX2_copyFrom 33 = .ok (.aload_n 1, 1) := by decide +kernel
theorem dX2_copyFrom_34 : decode cX2_copyFrom 34 = .ok (.getfield 15, 3) := by decide +kernel
theorem dX2_copyFrom_37 : decode cX2_copyFrom 37 = .ok (.iload_n 2, 1) := by decide +kernel
theorem dX2_copyFrom_38 : decode cX2_copyFrom 38 = .ok (.iaload, 1) := by decide +kernel
theorem dX2_copyFrom_39 : decode cX2_copyFrom 39 = .ok (.iastore, 1) := by decide +kernel
theorem dX2_copyFrom_40 : decode cX2_copyFrom 40 = .ok (.aload_n 0, 1) := by decide +kernel
theorem dX2_copyFrom_41 : decode cX2_copyFrom 41 = .ok (.getfield 18, 3) := by decide +kernel
theorem dX2_copyFrom_44 : decode cX2_copyFrom 44 = .ok (.iload_n 2, 1) := by decide +kernel
theorem dX2_copyFrom_45 : decode cX2_copyFrom 45 = .ok (.aload_n 1, 1) := by decide +kernel
theorem dX2_copyFrom_46 : decode cX2_copyFrom 46 = .ok (.getfield 18, 3) := by decide +kernel
theorem dX2_copyFrom_49 : decode cX2_copyFrom 49 = .ok (.iload_n 2, 1) := by decide +kernel
theorem dX2_copyFrom_50 : decode cX2_copyFrom 50 = .ok (.baload, 1) := by decide +kernel
theorem dX2_copyFrom_51 : decode cX2_copyFrom 51 = .ok (.bastore, 1) := by decide +kernel
theorem dX2_copyFrom_52 : decode cX2_copyFrom 52 = .ok (.aload_n 0, 1) := by decide +kernel
theorem dX2_copyFrom_53 : decode cX2_copyFrom 53 = .ok (.getfield 22, 3) := by decide +kernel
theorem dX2_copyFrom_56 : decode cX2_copyFrom 56 = .ok (.iload_n 2, 1) := by decide +kernel
theorem dX2_copyFrom_57 : decode cX2_copyFrom 57 = .ok (.aload_n 1, 1) := by decide +kernel
theorem dX2_copyFrom_58 : decode cX2_copyFrom 58 = .ok (.getfield 22, 3) := by decide +kernel
theorem dX2_copyFrom_61 : decode cX2_copyFrom 61 = .ok (.iload_n 2, 1) := by decide +kernel
theorem dX2_copyFrom_62 : decode cX2_copyFrom 62 = .ok (.baload, 1) := by decide +kernel
theorem dX2_copyFrom_63 : decode cX2_copyFrom 63 = .ok (.bastore, 1) := by decide +kernel
theorem dX2_copyFrom_64 : decode cX2_copyFrom 64 = .ok (.aload_n 0, 1) := by decide +kernel
theorem dX2_copyFrom_65 : decode cX2_copyFrom 65 = .ok (.getfield 25, 3) := by decide +kernel
theorem dX2_copyFrom_68 : decode cX2_copyFrom 68 = .ok (.iload_n 2, 1) := by decide +kernel
theorem dX2_copyFrom_69 : decode cX2_copyFrom 69 = .ok (.aload_n 1, 1) := by decide +kernel
theorem dX2_copyFrom_70 : decode cX2_copyFrom 70 = .ok (.getfield 25, 3) := by decide +kernel
theorem dX2_copyFrom_73 : decode cX2_copyFrom 73 = .ok (.iload_n 2, 1) := by decide +kernel
theorem dX2_copyFrom_74 : decode cX2_copyFrom 74 = .ok (.iaload, 1) := by decide +kernel
theorem dX2_copyFrom_75 : decode cX2_copyFrom 75 = .ok (.iastore, 1) := by decide +kernel
theorem dX2_copyFrom_76 : decode cX2_copyFrom 76 = .ok (.iinc 2 1, 3) := by decide +kernel
theorem dX2_copyFrom_79 : decode cX2_copyFrom 79 = .ok (.goto (-69), 3) := by decide +kernel
theorem dX2_copyFrom_82 : decode cX2_copyFrom 82 = .ok (.return_, 1) := by decide +kernel
set_option maxRecDepth 20000 in
theorem ggX3_init_X2_init : GoodIn wsX3_init wsX2_init := goodIn_r _ [19, 20, 2, 3, 9, 21, 22, 23, 24, 25, 26, 31, 32, 33, 34, 35, 36] (by decide +kernel) (by decide +kernel)
set_option maxRecDepth 20000 in
theorem gX3_init_X2_init_n11 : GoodIn wsX3_init (wsX2_init) := ggX3_init_X2_init
set_option maxRecDepth 20000 in
theorem ggX3_init_J7_fill_53178 : GoodIn wsX3_init wsJ7_fill_53178 := goodIn_r _ [30] (by decide +kernel) (by decide +kernel)
set_option maxRecDepth 20000 in
theorem gX3_init_J7_fill_53178 : GoodIn wsX3_init (va_wsS RX3 46 yJ7_fill_53178 wsJ7_fill_53178) := goodIn_app (goodIn_of _ (by decide +kernel)) ggX3_init_J7_fill_53178
theorem dX3_init_0 : decode cX3_init 0 = .ok (.aload_n 0, 1) := by decide +kernel
theorem dX3_init_1 : decode cX3_init 1 = .ok (.invokespecial 3, 3) := by decide +kernel
theorem dX3_init_4 : decode cX3_init 4 = .ok (.aload_n 0, 1) := by decide +kernel
theorem dX3_init_5 : decode cX3_init 5 = .ok (.new 9, 3) := by decide +kernel
theorem dX3_init_8 : decode cX3_init 8 = .ok (.dup, 1) := by decide +kernel
theorem dX3_init_9 : decode cX3_init 9 = .ok (.invokespecial 11, 3) := by decide +kernel
theorem dX3_init_12 : decode cX3_init 12 = .ok (.putfield 12, 3) := by decide +kernel
theorem dX3_init_15 : decode cX3_init 15 = .ok (.aload_n 0, 1) := by decide +kernel
theorem dX3_init_16 : decode cX3_init 16 = .ok (.new 9, 3) := by decide +kernel
theorem dX3_init_19 : decode cX3_init 19 = .ok (.dup, 1) := by decide +kernel
theorem dX3_init_20 : decode cX3_init 20 = .ok (.invokespecial 11, 3) := by decide +kernel
theorem dX3_init_23 : decode cX3_init 23 = .ok (.putfield 18, 3) := by decide +kernel
theorem dX3_init_26 : decode cX3_init 26 = .ok (.aload_n 0, 1) := by decide +kernel
theorem dX3_init_27 : decode cX3_init 27 = .ok (.bipush 10, 2) := by decide +kernel
theorem dX3_init_29 : decode cX3_init 29 = .ok (.newarray .int, 2) := by decide +kernel
theorem dX3_init_31 : decode cX3_init 31 = .ok (.putfield 21, 3) := by decide +kernel
theorem dX3_init_34 : decode cX3_init 34 = .ok (.aload_n 0, 1) := by decide +kernel
theorem dX3_init_35 : decode cX3_init 35 = .ok (.iconst 3, 1) := by decide +kernel
theorem dX3_init_36 : decode cX3_init 36 = .ok (.putfield 25, 3) := by decide +kernel
theorem dX3_init_39 : decode cX3_init 39 = .ok (.aload_n 0, 1) := by decide +kernel
theorem dX3_init_40 : decode cX3_init 40 = .ok (.bipush 60, 2) := by decide +kernel
theorem dX3_init_42 : decode cX3_init 42 = .ok (.putfield 29, 3) := by decide +kernel
theorem dX3_init_45 : decode cX3_init 45 = .ok (.aload_n 0, 1) := by decide +kernel
theorem dX3_init_46 : decode cX3_init 46 = .ok (.iconst 2, 1) := by decide +kernel
theorem dX3_init_47 : decode cX3_init 47 = .ok (.putfield 32, 3) := by decide +kernel
theorem dX3_init_50 : decode cX3_init 50 = .ok (.aload_n 0, 1) := by decide +kernel
theorem dX3_init_51 : decode cX3_init 51 = .ok (.iconst 4, 1) := by decide +kernel
theorem dX3_init_52 : decode cX3_init 52 = .ok (.newarray .int, 2) := by decide +kernel
theorem dX3_init_54 : decode cX3_init 54 = .ok (.putfield 35, 3) := by decide +kernel
theorem dX3_init_57 : decode cX3_init 57 = .ok (.aload_n 0, 1) := by decide +kernel
theorem dX3_init_58 : decode cX3_init 58 = .ok (.iconst 4, 1) := by decide +kernel
theorem dX3_init_59 : decode cX3_init 59 = .ok (.newarray .int, 2) := by decide +kernel
theorem dX3_init_61 : decode cX3_init 61 = .ok (.putfield 38, 3) := by decide +kernel
theorem dX3_init_64 : decode cX3_init 64 = .ok (.aload_n 0, 1) := by decide +kernel
theorem dX3_init_65 : decode cX3_init 65 = .ok (.bipush 8, 2) := by decide +kernel
theorem dX3_init_67 : decode cX3_init 67 = .ok (.bipush 8, 2) := by decide +kernel
theorem dX3_init_69 : decode cX3_init 69 = .ok (.multianewarray 41 2, 4) := by decide +kernel
theorem dX3_init_73 : decode cX3_init 73 = .ok (.putfield 43, 3) := by decide +kernel
theorem dX3_init_76 : decode cX3_init 76 = .ok (.aload_n 0, 1) := by decide +kernel
theorem dX3_init_77 : decode cX3_init 77 = .ok (.getfield 21, 3) := by decide +kernel
theorem dX3_init_80 : decode cX3_init 80 = .ok (.iconst 1, 1) := by decide +kernel
theorem dX3_init_81 : decode cX3_init 81 = .ok (.invokestatic 46, 3) := by decide +kernel
theorem dX3_init_84 : decode cX3_init 84 = .ok (.aload_n 0, 1) := by decide +kernel
theorem dX3_init_85 : decode cX3_init 85 = .ok (.getfield 35, 3) := by decide +kernel
theorem dX3_init_88 : decode cX3_init 88 = .ok (.iconst 1, 1) := by decide +kernel
theorem dX3_init_89 : decode cX3_init 89 = .ok (.invokestatic 46, 3) := by decide +kernel
theorem dX3_init_92 : decode cX3_init 92 = .ok (.iconst 0, 1) := by decide +kernel
theorem dX3_init_93 : decode cX3_init 93 = .ok (.istore_n 1, 1) := by decide +kernel
theorem dX3_init_94 : decode cX3_init 94 = .ok (.iload_n 1, 1) := by decide +kernel
theorem dX3_init_95 : decode cX3_init 95 = .ok (.bipush 8, 2) := by decide +kernel
theorem dX3_init_97 : decode cX3_init 97 = .ok (.if_icmp .ge 19, 3) := by decide +kernel
theorem dX3_init_100 : decode cX3_init 100 = .ok (.aload_n 0, 1) := by decide +kernel
theorem dX3_init_101 : decode cX3_init 101 = .ok (.getfield 43, 3) := by decide +kernel
theorem dX3_init_104 : decode cX3_init 104 = .ok (.iload_n 1, 1) := by decide +kernel
theorem dX3_init_105 : decode cX3_init 105 = .ok (.aaload, 1) := by decide +kernel
theorem dX3_init_106 : decode cX3_init 106 = .ok (.iconst (-1), 1) := by decide +kernel
theorem dX3_init_107 : decode cX3_init 107 = .ok (.invokestatic 46, 3) := by decide +kernel
theorem dX3_init_110 : decode cX3_init 110 = .ok (.iinc 1 1, 3) := by decide +kernel
theorem dX3_init_113 : decode cX3_init 113 = .ok (.goto (-19), 3) := by decide +kernel
theorem dX3_init_116 : decode cX3_init 116 = .ok (.return_, 1) := by decide +kernel
theorem dX3_side_0 : decode cX3_side 0 = .ok (.iload_n 1, 1) := by decide +kernel
theorem dX3_side_1 : decode cX3_side 1 = .ok (.ifCond .eq 10, 3) := by decide +kernel
theorem dX3_side_4 : decode cX3_side 4 = .ok (.aload_n 0, 1) := by decide +kernel
theorem dX3_side_5 : decode cX3_side 5 = .ok (.getfield 12, 3) := by decide +kernel
theorem dX3_side_8 : decode cX3_side 8 = .ok (.goto 7, 3) := by decide +kernel
theorem dX3_side_11 : decode cX3_side 11 = .ok (.aload_n 0, 1) := by decide +kernel
theorem dX3_side_12 : decode cX3_side 12 = .ok (.getfield 18, 3) := by decide +kernel
theorem dX3_side_15 : decode cX3_side 15 = .ok (.areturn, 1) := by decide +kernel
theorem dX3_hasFiddler_0 : decode cX3_hasFiddler 0 = .ok (.iconst 0, 1) := by decide +kernel
theorem dX3_hasFiddler_1 : decode cX3_hasFiddler 1 = .ok (.iload_n 1, 1) := by decide +kernel
theorem dX3_hasFiddler_2 : decode cX3_hasFiddler 2 = .ok (.if_icmp .gt 15, 3) := by decide +kernel
theorem dX3_hasFiddler_5 : decode cX3_hasFiddler 5 = .ok (.iload_n 1, 1) := by decide +kernel
theorem dX3_hasFiddler_6 : decode cX3_hasFiddler 6 = .ok (.aload_n 0, 1) := by decide +kernel
theorem dX3_hasFiddler_7 : decode cX3_hasFiddler 7 = .ok (.getfield 32, 3) := by decide +kernel
theorem dX3_hasFiddler_10 : decode cX3_hasFiddler 10 = .ok (.if_icmp .ge 7, 3) := by decide +kernel
theorem dX3_hasFiddler_13 : decode cX3_hasFiddler 13 = .ok (.iconst 1, 1) := by decide +kernel
theorem dX3_hasFiddler_14 : decode cX3_hasFiddler 14 = .ok (.goto 4, 3) := by decide +kernel
theorem dX3_hasFiddler_17 : decode cX3_hasFiddler 17 = .ok (.iconst 0, 1) := by decide +kernel
theorem dX3_hasFiddler_18 : decode cX3_hasFiddler 18 = .ok (.ireturn, 1) := by decide +kernel
theorem dX3_litOf_0 : decode cX3_litOf 0 = .ok (.iload_n 1, 1) := by decide +kernel
theorem dX3_litOf_1 : decode cX3_litOf 1 = .ok (.aload_n 0, 1) := by decide +kernel
theorem dX3_litOf_2 : decode cX3_litOf 2 = .ok (.getfield 29, 3) := by decide +kernel
theorem dX3_litOf_5 : decode cX3_litOf 5 = .ok (.iconst 2, 1) := by decide +kernel
theorem dX3_litOf_6 : decode cX3_litOf 6 = .ok (.idiv, 1) := by decide +kernel
theorem dX3_litOf_7 : decode cX3_litOf 7 = .ok (.invokestatic 52, 3) := by decide +kernel
theorem dX3_litOf_10 : decode cX3_litOf 10 = .ok (.ireturn, 1) := by decide +kernel
set_option maxRecDepth 20000 in
theorem ggX3_room_X3_litOf : GoodIn wsX3_room wsX3_litOf := goodIn_r _ [6, 7, 8, 9, 10, 11, 12, 13, 14, 15, 16, 17, 18, 19, 20, 21, 22, 23, 24, 25] (by decide +kernel) (by decide +kernel)
set_option maxRecDepth 20000 in
theorem gX3_room_X3_litOf : GoodIn wsX3_room (wsV RX3 58 RX3 yX3_litOf wsX3_litOf) := goodIn_app (goodIn_of _ (by decide +kernel)) ggX3_room_X3_litOf
theorem dX3_room_0 : decode cX3_room 0 = .ok (.iconst 2, 1) := by decide +kernel
theorem dX3_room_1 : decode cX3_room 1 = .ok (.aload_n 0, 1) := by decide +kernel
theorem dX3_room_2 : decode cX3_room 2 = .ok (.aload_n 0, 1) := by decide +kernel
theorem dX3_room_3 : decode cX3_room 3 = .ok (.getfield 25, 3) := by decide +kernel
theorem dX3_room_6 : decode cX3_room 6 = .ok (.invokevirtual 58, 3) := by decide +kernel
theorem dX3_room_9 : decode cX3_room 9 = .ok (.imul, 1) := by decide +kernel
theorem dX3_room_10 : decode cX3_room 10 = .ok (.ireturn, 1) := by decide +kernel
set_option maxRecDepth 20000 in
theorem ggX3_isDancePossible_X3_litOf : GoodIn wsX3_isDancePossible wsX3_litOf := goodIn_r _ [7, 8, 9, 10, 11, 12, 13, 14, 15, 16, 17, 18, 19, 20, 21, 22, 23, 24, 25, 26] (by decide +kernel) (by decide +kernel)
set_option maxRecDepth 20000 in
theorem gX3_isDancePossible_X3_litOf : GoodIn wsX3_isDancePossible (wsV RX3 58 RX3 yX3_litOf wsX3_litOf) := goodIn_app (goodIn_of _ (by decide +kernel)) ggX3_isDancePossible_X3_litOf
theorem dX3_isDancePossible_0 : decode cX3_isDancePossible 0 = .ok (.aload_n 0, 1) := by decide +kernel
theorem dX3_isDancePossible_1 : decode cX3_isDancePossible 1 = .ok (.aload_n 0, 1) := by decide +kernel
theorem dX3_isDancePossible_2 : decode cX3_isDancePossible 2 = .ok (.getfield 25, 3) := by decide +kernel
theorem dX3_isDancePossible_5 : decode cX3_isDancePossible 5 = .ok (.invokevirtual 58, 3) := by decide +kernel
theorem dX3_isDancePossible_8 : decode cX3_isDancePossible 8 = .ok (.ifCond .le 16, 3) := by decide +kernel
theorem dX3_isDancePossible_11 : decode cX3_isDancePossible 11 = .ok (.aload_n 0, 1) := by decide +kernel
theorem dX3_isDancePossible_12 : decode cX3_isDancePossible 12 = .ok (.getfield 62, 3) := by decide +kernel
theorem dX3_isDancePossible_15 : decode cX3_isDancePossible 15 = .ok (.bipush 30, 2) := by decide +kernel
theorem dX3_isDancePossible_17 : decode cX3_isDancePossible 17 = .ok (.if_icmp .ge 7, 3) := by decide +kernel
theorem dX3_isDancePossible_20 : decode cX3_isDancePossible 20 = .ok (.iconst 1, 1) := by decide +kernel
theorem dX3_isDancePossible_21 : decode cX3_isDancePossible 21 = .ok (.goto 4, 3) := by decide +kernel
theorem dX3_isDancePossible_24 : decode cX3_isDancePossible 24 = .ok (.iconst 0, 1) := by decide +kernel
theorem dX3_isDancePossible_25 : decode cX3_isDancePossible 25 = .ok (.ireturn, 1) := by decide +kernel
set_option maxRecDepth 20000 in
theorem ggX3_playDance_X3_room : GoodIn wsX3_playDance wsX3_room := goodIn_r _ [10, 2, 11, 12, 13, 9, 14, 3, 15, 16, 17, 18, 105, 106, 107, 108, 109, 110, 111, 112, 113, 114, 115, 116, 117, 118] (by decide +kernel) (by decide +kernel)
set_option maxRecDepth 20000 in
theorem gX3_playDance_X3_room : GoodIn wsX3_playDance (wsV RX3 65 RX3 yX3_room wsX3_room) := goodIn_app (goodIn_of _ (by decide +kernel)) ggX3_playDance_X3_room
set_option maxRecDepth 20000 in
theorem ggX3_playDance_X0_pairUp : GoodIn wsX3_playDance wsX0_pairUp := goodIn_r _ [23, 24, 25, 26, 27, 28, 29, 22, 30, 31, 32, 33, 34, 35, 36, 37, 38, 39, 40, 41, 42, 43, 44, 45, 46, 47, 48, 49, 50, 51, 52, 53, 54, 55, 56, 57, 58, 59, 60, 61, 62, 63, 64, 65, 66, 67, 68, 69, 70, 71, 72, 73, 74, 75, 76, 77, 78, 79, 96, 97, 98, 99, 100, 101, 102, 103, 104, 105, 106, 107, 108, 109, 110, 111, 112, 113, 114, 115, 116, 117, 118, 119, 120, 121, 122, 123, 124] (by decide +kernel) (by decide +kernel)
set_option maxRecDepth 20000 in
theorem gX3_playDance_X0_pairUp : GoodIn wsX3_playDance (wsV RX3 69 RX0 yX0_pairUp wsX0_pairUp) := goodIn_app (goodIn_of _ (by decide +kernel)) ggX3_playDance_X0_pairUp
set_option maxRecDepth 20000 in
theorem ggX3_playDance_X3_bookCouple : GoodIn wsX3_playDance wsX3_bookCouple := goodIn_r _ [83, 84, 5, 85, 86, 87, 88, 89, 90, 91, 92, 93, 94, 95, 105, 106, 107, 108, 109, 110, 111, 112, 113, 114, 115, 116, 117, 118, 119, 120, 121, 122, 123, 124] (by decide +kernel) (by decide +kernel)
set_option maxRecDepth 20000 in
theorem gX3_playDance_X3_bookCouple : GoodIn wsX3_playDance (wsV RX3 78 RX3 yX3_bookCouple wsX3_bookCouple) := goodIn_app (goodIn_of _ (by decide +kernel)) ggX3_playDance_X3_bookCouple
set_option maxRecDepth 20000 in
theorem ggX3_playDance_X3_litOf : GoodIn wsX3_playDance wsX3_litOf := goodIn_r _ [14, 3, 15, 16, 17, 18, 105, 106, 107, 108, 109, 110, 111, 112, 113, 114, 115, 116, 117, 118] (by decide +kernel) (by decide +kernel)
set_option maxRecDepth 20000 in
theorem gX3_playDance_X3_litOf : GoodIn wsX3_playDance (wsV RX3 58 RX3 yX3_litOf wsX3_litOf) := goodIn_app (goodIn_of _ (by decide +kernel)) ggX3_playDance_X3_litOf
theorem dX3_playDance_0 : decode cX3_playDance 0 = .ok (.aload_n 1, 1) := by decide +kernel
theorem dX3_playDance_1 : decode cX3_playDance 1 = .ok (.aload_n 0, 1) := by decide +kernel
theorem dX3_playDance_2 : decode cX3_playDance 2 = .ok (.aload_n 0, 1) := by decide +kernel
theorem dX3_playDance_3 : decode cX3_playDance 3 = .ok (.invokevirtual 65, 3) := by decide +kernel
theorem dX3_playDance_6 : decode cX3_playDance 6 = .ok (.invokevirtual 69, 3) := by decide +kernel
theorem dX3_playDance_9 : decode cX3_playDance 9 = .ok (.istore_n 2, 1) := by decide +kernel
theorem dX3_playDance_10 : decode cX3_playDance 10 = .ok (.iconst 0, 1) := by decide +kernel
theorem dX3_playDance_11 : decode cX3_playDance 11 = .ok (.istore_n 3, 1) := by decide +kernel
theorem dX3_playDance_12 : decode cX3_playDance 12 = .ok (.iload_n 3, 1) := by decide +kernel
theorem dX3_playDance_13 : decode cX3_playDance 13 = .ok (.bipush 8, 2) := by decide +kernel
theorem dX3_playDance_15 : decode cX3_playDance 15 = .ok (.if_icmp .ge 30, 3) := by decide +kernel
theorem dX3_playDance_18 : decode cX3_playDance 18 = .ok (.aload_n 1, 1) := by decide +kernel
theorem dX3_playDance_19 : decode cX3_playDance 19 = .ok (.getfield 75, 3) := by decide +kernel
theorem dX3_playDance_22 : decode cX3_playDance 22 = .ok (.iload_n 3, 1) := by decide +kernel
theorem dX3_playDance_23 : decode cX3_playDance 23 = .ok (.iaload, 1) := by decide +kernel
theorem dX3_playDance_24 : decode cX3_playDance 24 = .ok (.iconst (-1), 1) := by decide +kernel
theorem dX3_playDance_25 : decode cX3_playDance 25 = .ok (.if_icmp .eq 14, 3) := by decide +kernel
theorem dX3_playDance_28 : decode cX3_playDance 28 = .ok (.aload_n 0, 1) := by decide +kernel
theorem dX3_playDance_29 : decode cX3_playDance 29 = .ok (.iload_n 3, 1) := by decide +kernel
theorem dX3_playDance_30 : decode cX3_playDance 30 = .ok (.aload_n 1, 1) := by decide +kernel
theorem dX3_playDance_31 : decode cX3_playDance 31 = .ok (.getfield 75, 3) := by decide +kernel
theorem dX3_playDance_34 : decode cX3_playDance 34 = .ok (.iload_n 3, 1) := by decide +kernel
theorem dX3_playDance_35 : decode cX3_playDance 35 = .ok (.iaload, 1) := by decide +kernel
theorem dX3_playDance_36 : decode cX3_playDance 36 = .ok (.invokevirtual 78, 3) := by decide +kernel
theorem dX3_playDance_39 : decode cX3_playDance 39 = .ok (.iinc 3 1, 3) := by decide +kernel
theorem dX3_playDance_42 : decode cX3_playDance 42 = .ok (.goto (-30), 3) := by decide +kernel
theorem dX3_playDance_45 : decode cX3_playDance 45 = .ok (.iconst 2, 1) := by decide +kernel
theorem dX3_playDance_46 : decode cX3_playDance 46 = .ok (.aload_n 0, 1) := by decide +kernel
theorem dX3_playDance_47 : decode cX3_playDance 47 = .ok (.aload_n 0, 1) := by decide +kernel
theorem dX3_playDance_48 : decode cX3_playDance 48 = .ok (.getfield 25, 3) := by decide +kernel
theorem dX3_playDance_51 : decode cX3_playDance 51 = .ok (.invokevirtual 58, 3) := by decide +kernel
theorem dX3_playDance_54 : decode cX3_playDance 54 = .ok (.imul, 1) := by decide +kernel
theorem dX3_playDance_55 : decode cX3_playDance 55 = .ok (.istore_n 3, 1) := by decide +kernel
theorem dX3_playDance_56 : decode cX3_playDance 56 = .ok (.aload_n 0, 1) := by decide +kernel
theorem dX3_playDance_57 : decode cX3_playDance 57 = .ok (.dup, 1) := by decide +kernel
theorem dX3_playDance_58 : decode cX3_playDance 58 = .ok (.getfield 29, 3) := by decide +kernel
theorem dX3_playDance_61 : decode cX3_playDance 61 = .ok (.iload_n 3, 1) := by decide +kernel
theorem dX3_playDance_62 : decode cX3_playDance 62 = .ok (.isub, 1) := by decide +kernel
theorem dX3_playDance_63 : decode cX3_playDance 63 = .ok (.putfield 29, 3) := by decide +kernel
theorem dX3_playDance_66 : decode cX3_playDance 66 = .ok (.aload_n 0, 1) := by decide +kernel
theorem dX3_playDance_67 : decode cX3_playDance 67 = .ok (.dup, 1) := by decide +kernel
theorem dX3_playDance_68 : decode cX3_playDance 68 = .ok (.getfield 82, 3) := by decide +kernel
theorem dX3_playDance_71 : decode cX3_playDance 71 = .ok (.iload_n 3, 1) := by decide +kernel
theorem dX3_playDance_72 : decode cX3_playDance 72 = .ok (.iadd, 1) := by decide +kernel
theorem dX3_playDance_73 : decode cX3_playDance 73 = .ok (.putfield 82, 3) := by decide +kernel
theorem dX3_playDance_76 : decode cX3_playDance 76 = .ok (.aload_n 0, 1) := by decide +kernel
theorem dX3_playDance_77 : decode cX3_playDance 77 = .ok (.dup, 1) := by decide +kernel
theorem dX3_playDance_78 : decode cX3_playDance 78 = .ok (.getfield 62, 3) := by decide +kernel
theorem dX3_playDance_81 : decode cX3_playDance 81 = .ok (.iconst 1, 1) := by decide +kernel
theorem dX3_playDance_82 : decode cX3_playDance 82 = .ok (.iadd, 1) := by decide +kernel
theorem dX3_playDance_83 : decode cX3_playDance 83 = .ok (.putfield 62, 3) := by decide +kernel
theorem dX3_playDance_86 : decode cX3_playDance 86 = .ok (.iload_n 2, 1) := by decide +kernel
theorem dX3_playDance_87 : decode cX3_playDance 87 = .ok (.ireturn, 1) := by decide +kernel
set_option maxRecDepth 20000 in
theorem ggX3_bookCouple_X2_bookDance : GoodIn wsX3_bookCouple wsX2_bookDance := goodIn_r _ [11, 12, 13, 28, 29, 30, 31, 32, 33] (by decide +kernel) (by decide +kernel)
set_option maxRecDepth 20000 in
theorem gX3_bookCouple_X2_bookDance : GoodIn wsX3_bookCouple (wsV RX3 85 RX2 yX2_bookDance wsX2_bookDance) := goodIn_app (goodIn_of _ (by decide +kernel)) ggX3_bookCouple_X2_bookDance
theorem dX3_bookCouple_0 : decode cX3_bookCouple 0 = .ok (.aload_n 0, 1) := by decide +kernel
theorem dX3_bookCouple_1 : decode cX3_bookCouple 1 = .ok (.getfield 43, 3) := by decide +kernel
theorem dX3_bookCouple_4 : decode cX3_bookCouple 4 = .ok (.iload_n 1, 1) := by decide +kernel
theorem dX3_bookCouple_5 : decode cX3_bookCouple 5 = .ok (.aaload, 1) := by decide +kernel
theorem dX3_bookCouple_6 : decode cX3_bookCouple 6 = .ok (.iload_n 2, 1) := by decide +kernel
theorem dX3_bookCouple_7 : decode cX3_bookCouple 7 = .ok (.aload_n 0, 1) := by decide +kernel
theorem dX3_bookCouple_8 : decode cX3_bookCouple 8 = .ok (.getfield 62, 3) := by decide +kernel
theorem dX3_bookCouple_11 : decode cX3_bookCouple 11 = .ok (.iastore, 1) := by decide +kernel
theorem dX3_bookCouple_12 : decode cX3_bookCouple 12 = .ok (.aload_n 0, 1) := by decide +kernel
theorem dX3_bookCouple_13 : decode cX3_bookCouple 13 = .ok (.getfield 12, 3) := by decide +kernel
theorem dX3_bookCouple_16 : decode cX3_bookCouple 16 = .ok (.iload_n 1, 1) := by decide +kernel
theorem dX3_bookCouple_17 : decode cX3_bookCouple 17 = .ok (.invokevirtual 85, 3) := by decide +kernel
theorem dX3_bookCouple_20 : decode cX3_bookCouple 20 = .ok (.aload_n 0, 1) := by decide +kernel
theorem dX3_bookCouple_21 : decode cX3_bookCouple 21 = .ok (.getfield 18, 3) := by decide +kernel
theorem dX3_bookCouple_24 : decode cX3_bookCouple 24 = .ok (.iload_n 2, 1) := by decide +kernel
theorem dX3_bookCouple_25 : decode cX3_bookCouple 25 = .ok (.invokevirtual 85, 3) := by decide +kernel
theorem dX3_bookCouple_28 : decode cX3_bookCouple 28 = .ok (.aload_n 0, 1) := by decide +kernel
theorem dX3_bookCouple_29 : decode cX3_bookCouple 29 = .ok (.dup, 1) := by decide +kernel
theorem dX3_bookCouple_30 : decode cX3_bookCouple 30 = .ok (.getfield 89, 3) := by decide +kernel
theorem dX3_bookCouple_33 : decode cX3_bookCouple 33 = .ok (.iconst 2, 1) := by decide +kernel
theorem dX3_bookCouple_34 : decode cX3_bookCouple 34 = .ok (.iadd, 1) := by decide +kernel
theorem dX3_bookCouple_35 : decode cX3_bookCouple 35 = .ok (.putfield 89, 3) := by decide +kernel
theorem dX3_bookCouple_38 : decode cX3_bookCouple 38 = .ok (.aload_n 0, 1) := by decide +kernel
theorem dX3_bookCouple_39 : decode cX3_bookCouple 39 = .ok (.dup, 1) := by decide +kernel
theorem dX3_bookCouple_40 : decode cX3_bookCouple 40 = .ok (.getfield 92, 3) := by decide +kernel
theorem dX3_bookCouple_43 : decode cX3_bookCouple 43 = .ok (.iconst 1, 1) := by decide +kernel
theorem dX3_bookCouple_44 : decode cX3_bookCouple 44 = .ok (.iadd, 1) := by decide +kernel
theorem dX3_bookCouple_45 : decode cX3_bookCouple 45 = .ok (.putfield 92, 3) := by decide +kernel
theorem dX3_bookCouple_48 : decode cX3_bookCouple 48 = .ok (.return_, 1) := by decide +kernel
set_option maxRecDepth 20000 in
theorem ggX3_playOn_X3_isDancePossible : GoodIn wsX3_playOn wsX3_isDancePossible := goodIn_r _ [5, 6, 7, 8, 9, 10, 4, 11, 12, 13, 14, 15, 16, 104, 105, 106, 107, 108, 109, 110, 111, 112, 113, 114, 115, 116, 117] (by decide +kernel) (by decide +kernel)
set_option maxRecDepth 20000 in
theorem gX3_playOn_X3_isDancePossible : GoodIn wsX3_playOn (wsV RX3 95 RX3 yX3_isDancePossible wsX3_isDancePossible) := goodIn_app (goodIn_of _ (by decide +kernel)) ggX3_playOn_X3_isDancePossible
set_option maxRecDepth 20000 in
theorem ggX3_playOn_X3_playDance : GoodIn wsX3_playOn wsX3_playDance := goodIn_r _ [20, 21, 6, 12, 22, 7, 23, 24, 25, 4, 26, 8, 9, 10, 11, 13, 14, 15, 16, 27, 28, 29, 30, 31, 32, 33, 34, 35, 36, 37, 38, 39, 40, 41, 42, 43, 44, 45, 46, 47, 48, 49, 50, 51, 52, 53, 54, 55, 56, 57, 58, 59, 60, 61, 62, 63, 64, 65, 66, 67, 68, 69, 70, 71, 72, 73, 74, 75, 76, 77, 78, 79, 80, 81, 82, 83, 84, 85, 86, 87, 88, 89, 90, 91, 92, 93, 94, 95, 96, 97, 98, 99, 100, 101, 102, 103, 118, 119, 120, 121, 122, 123, 124, 125, 126, 104, 105, 106, 107, 108, 109, 110, 111, 112, 113, 114, 115, 116, 117, 127, 128, 129, 130, 131, 132] (by decide +kernel) (by decide +kernel)
set_option maxRecDepth 20000 in
theorem gX3_playOn_X3_playDance : GoodIn wsX3_playOn (wsV RX3 99 RX3 yX3_playDance wsX3_playDance) := goodIn_app (goodIn_of _ (by decide +kernel)) ggX3_playOn_X3_playDance
theorem dX3_playOn_0 : decode cX3_playOn 0 = .ok (.iconst 0, 1) := by decide +kernel
theorem dX3_playOn_1 : decode cX3_playOn 1 = .ok (.istore_n 2, 1) := by decide +kernel
theorem dX3_playOn_2 : decode cX3_playOn 2 = .ok (.iconst 1, 1) := by decide +kernel
theorem dX3_playOn_3 : decode cX3_playOn 3 = .ok (.istore_n 3, 1) := by decide +kernel
theorem dX3_playOn_4 : decode cX3_playOn 4 = .ok (.iload_n 3, 1) := by decide +kernel
theorem dX3_playOn_5 : decode cX3_playOn 5 = .ok (.ifCond .le 28, 3) := by decide +kernel
theorem dX3_playOn_8 : decode cX3_playOn 8 = .ok (.iload_n 2, 1) := by decide +kernel
theorem dX3_playOn_9 : decode cX3_playOn 9 = .ok (.bipush 30, 2) := by decide +kernel
theorem dX3_playOn_11 : decode cX3_playOn 11 = .ok (.if_icmp .ge 22, 3) := by decide +kernel
theorem dX3_playOn_14 : decode cX3_playOn 14 = .ok (.aload_n 0, 1) := by decide +kernel
theorem dX3_playOn_15 : decode cX3_playOn 15 = .ok (.invokevirtual 95, 3) := by decide +kernel
theorem dX3_playOn_18 : decode cX3_playOn 18 = .ok (.ifCond .eq 15, 3) := by decide +kernel
theorem dX3_playOn_21 : decode cX3_playOn 21 = .ok (.aload_n 0, 1) := by decide +kernel
theorem dX3_playOn_22 : decode cX3_playOn 22 = .ok (.aload_n 1, 1) := by decide +kernel
theorem dX3_playOn_23 : decode cX3_playOn 23 = .ok (.invokevirtual 99, 3) := by decide +kernel
theorem dX3_playOn_26 : decode cX3_playOn 26 = .ok (.istore_n 3, 1) := by decide +kernel
theorem dX3_playOn_27 : decode cX3_playOn 27 = .ok (.iinc 2 1, 3) := by decide +kernel
theorem dX3_playOn_30 : decode cX3_playOn 30 = .ok (.goto (-26), 3) := by decide +kernel
theorem dX3_playOn_33 : decode cX3_playOn 33 = .ok (.iload_n 2, 1) := by decide +kernel
theorem dX3_playOn_34 : decode cX3_playOn 34 = .ok (.ireturn, 1) := by decide +kernel
set_option maxRecDepth 20000 in
theorem ggX3_closeNight_X3_cutOf : GoodIn wsX3_closeNight wsX3_cutOf := goodIn_r _ [11, 1, 2, 12, 13, 14, 10, 15, 16, 17, 18, 19, 20, 38, 39, 40, 41, 42, 43, 44, 45, 46, 47, 48, 49, 50, 51] (by decide +kernel) (by decide +kernel)
set_option maxRecDepth 20000 in
theorem gX3_closeNight_X3_cutOf : GoodIn wsX3_closeNight (wsV RX3 103 RX3 yX3_cutOf wsX3_cutOf) := goodIn_app (goodIn_of _ (by decide +kernel)) ggX3_closeNight_X3_cutOf
set_option maxRecDepth 20000 in
theorem ggX3_closeNight_X2_callBack : GoodIn wsX3_closeNight wsX2_callBack := goodIn_r _ [25, 26, 27, 52, 53, 54, 55, 56, 57] (by decide +kernel) (by decide +kernel)
set_option maxRecDepth 20000 in
theorem gX3_closeNight_X2_callBack : GoodIn wsX3_closeNight (wsV RX3 106 RX2 yX2_callBack wsX2_callBack) := goodIn_app (goodIn_of _ (by decide +kernel)) ggX3_closeNight_X2_callBack
set_option maxRecDepth 20000 in
theorem ggX3_closeNight_X3_forgetDances : GoodIn wsX3_closeNight wsX3_forgetDances := goodIn_r _ [31, 32, 33, 34, 35, 36, 37, 38, 39, 40, 41, 42, 43, 44, 45, 46, 47, 48, 49, 50, 51] (by decide +kernel) (by decide +kernel)
set_option maxRecDepth 20000 in
theorem gX3_closeNight_X3_forgetDances : GoodIn wsX3_closeNight (wsV RX3 109 RX3 yX3_forgetDances wsX3_forgetDances) := goodIn_app (goodIn_of _ (by decide +kernel)) ggX3_closeNight_X3_forgetDances
theorem dX3_closeNight_0 : decode cX3_closeNight 0 = .ok (.aload_n 0, 1) := by decide +kernel
theorem dX3_closeNight_1 : decode cX3_closeNight 1 = .ok (.getfield 89, 3) := by decide +kernel
theorem dX3_closeNight_4 : decode cX3_closeNight 4 = .ok (.istore_n 1, 1) := by decide +kernel
theorem dX3_closeNight_5 : decode cX3_closeNight 5 = .ok (.iconst 0, 1) := by decide +kernel
theorem dX3_closeNight_6 : decode cX3_closeNight 6 = .ok (.istore_n 2, 1) := by decide +kernel
theorem dX3_closeNight_7 : decode cX3_closeNight 7 = .ok (.iload_n 2, 1) := by decide +kernel
theorem dX3_closeNight_8 : decode cX3_closeNight 8 = .ok (.aload_n 0, 1) := by decide +kernel
theorem dX3_closeNight_9 : decode cX3_closeNight 9 = .ok (.getfield 32, 3) := by decide +kernel
theorem dX3_closeNight_12 : decode cX3_closeNight 12 = .ok (.if_icmp .ge 23, 3) := by decide +kernel
theorem dX3_closeNight_15 : decode cX3_closeNight 15 = .ok (.aload_n 0, 1) := by decide +kernel
theorem dX3_closeNight_16 : decode cX3_closeNight 16 = .ok (.getfield 38, 3) := by decide +kernel
theorem dX3_closeNight_19 : decode cX3_closeNight 19 = .ok (.iload_n 2, 1) := by decide +kernel
theorem dX3_closeNight_20 : decode cX3_closeNight 20 = .ok (.dup2, 1) := by decide +kernel
theorem dX3_closeNight_21 : decode cX3_closeNight 21 = .ok (.iaload, 1) := by decide +kernel
theorem dX3_closeNight_22 : decode cX3_closeNight 22 = .ok (.aload_n 0, 1) := by decide +kernel
theorem dX3_closeNight_23 : decode cX3_closeNight 23 = .ok (.iload_n 2, 1) := by decide +kernel
theorem dX3_closeNight_24 : decode cX3_closeNight 24 = .ok (.invokevirtual 103, 3) := by decide +kernel
theorem dX3_closeNight_27 : decode cX3_closeNight 27 = .ok (.iadd, 1) := by decide +kernel
theorem dX3_closeNight_28 : decode cX3_closeNight 28 = .ok (.iastore, 1) := by decide +kernel
theorem dX3_closeNight_29 : decode cX3_closeNight 29 = .ok (.iinc 2 1, 3) := by decide +kernel
theorem dX3_closeNight_32 : decode cX3_closeNight 32 = .ok (.goto (-25), 3) := by decide +kernel
theorem dX3_closeNight_35 : decode cX3_closeNight 35 = .ok (.aload_n 0, 1) := by decide +kernel
theorem dX3_closeNight_36 : decode cX3_closeNight 36 = .ok (.iconst 0, 1) := by decide +kernel
theorem dX3_closeNight_37 : decode cX3_closeNight 37 = .ok (.putfield 89, 3) := by decide +kernel
theorem dX3_closeNight_40 : decode cX3_closeNight 40 = .ok (.aload_n 0, 1) := by decide +kernel
theorem dX3_closeNight_41 : decode cX3_closeNight 41 = .ok (.getfield 12, 3) := by decide +kernel
theorem dX3_closeNight_44 : decode cX3_closeNight 44 = .ok (.invokevirtual 106, 3) := by decide +kernel
theorem dX3_closeNight_47 : decode cX3_closeNight 47 = .ok (.aload_n 0, 1) := by decide +kernel
theorem dX3_closeNight_48 : decode cX3_closeNight 48 = .ok (.getfield 18, 3) := by decide +kernel
theorem dX3_closeNight_51 : decode cX3_closeNight 51 = .ok (.invokevirtual 106, 3) := by decide +kernel
theorem dX3_closeNight_54 : decode cX3_closeNight 54 = .ok (.aload_n 0, 1) := by decide +kernel
theorem dX3_closeNight_55 : decode cX3_closeNight 55 = .ok (.invokevirtual 109, 3) := by decide +kernel
theorem dX3_closeNight_58 : decode cX3_closeNight 58 = .ok (.aload_n 0, 1) := by decide +kernel
theorem dX3_closeNight_59 : decode cX3_closeNight 59 = .ok (.dup, 1) := by decide +kernel
theorem dX3_closeNight_60 : decode cX3_closeNight 60 = .ok (.getfield 112, 3) := by decide +kernel
theorem dX3_closeNight_63 : decode cX3_closeNight 63 = .ok (.iconst 1, 1) := by decide +kernel
theorem dX3_closeNight_64 : decode cX3_closeNight 64 = .ok (.iadd, 1) := by decide +kernel
theorem dX3_closeNight_65 : decode cX3_closeNight 65 = .ok (.putfield 112, 3) := by decide +kernel
theorem dX3_closeNight_68 : decode cX3_closeNight 68 = .ok (.iload_n 1, 1) := by decide +kernel
theorem dX3_closeNight_69 : decode cX3_closeNight 69 = .ok (.ireturn, 1) := by decide +kernel
set_option maxRecDepth 20000 in
theorem ggX3_forgetDances_J7_fill_53178 : GoodIn wsX3_forgetDances wsJ7_fill_53178 := goodIn_r _ [6] (by decide +kernel) (by decide +kernel)
set_option maxRecDepth 20000 in
theorem gX3_forgetDances_J7_fill_53178 : GoodIn wsX3_forgetDances (va_wsS RX3 46 yJ7_fill_53178 wsJ7_fill_53178) := goodIn_app (goodIn_of _ (by decide +kernel)) ggX3_forgetDances_J7_fill_53178
theorem dX3_forgetDances_0 : decode cX3_forgetDances 0 = .ok (.aload_n 0, 1) := by decide +kernel
theorem dX3_forgetDances_1 : decode cX3_forgetDances 1 = .ok (.iconst 0, 1) := by decide +kernel
theorem dX3_forgetDances_2 : decode cX3_forgetDances 2 = .ok (.putfield 62, 3) := by decide +kernel
theorem dX3_forgetDances_5 : decode cX3_forgetDances 5 = .ok (.iconst 0, 1) := by decide +kernel
theorem dX3_forgetDances_6 : decode cX3_forgetDances 6 = .ok (.istore_n 1, 1) := by decide +kernel
theorem dX3_forgetDances_7 : decode cX3_forgetDances 7 = .ok (.iload_n 1, 1) := by decide +kernel
theorem dX3_forgetDances_8 : decode cX3_forgetDances 8 = .ok (.bipush 8, 2) := by decide +kernel
theorem dX3_forgetDances_10 : decode cX3_forgetDances 10 = .ok (.if_icmp .ge 19, 3) := by decide +kernel
theorem dX3_forgetDances_13 : decode cX3_forgetDances 13 = .ok (.aload_n 0, 1) := by decide +kernel
theorem dX3_forgetDances_14 : decode cX3_forgetDances 14 = .ok (.getfield 43, 3) := by decide +kernel
theorem dX3_forgetDances_17 : decode cX3_forgetDances 17 = .ok (.iload_n 1, 1) := by decide +kernel
theorem dX3_forgetDances_18 : decode cX3_forgetDances 18 = .ok (.aaload, 1) := by decide +kernel
theorem dX3_forgetDances_19 : decode cX3_forgetDances 19 = .ok (.iconst (-1), 1) := by decide +kernel
theorem dX3_forgetDances_20 : decode cX3_forgetDances 20 = .ok (.invokestatic 46, 3) := by decide +kernel
theorem dX3_forgetDances_23 : decode cX3_forgetDances 23 = .ok (.iinc 1 1, 3) := by decide +kernel
theorem dX3_forgetDances_26 : decode cX3_forgetDances 26 = .ok (.goto (-19), 3) := by decide +kernel
theorem dX3_forgetDances_29 : decode cX3_forgetDances 29 = .ok (.return_, 1) := by decide +kernel
set_option maxRecDepth 20000 in
theorem ggX3_cutOf_X3_plainCutOf : GoodIn wsX3_cutOf wsX3_plainCutOf := goodIn_r _ [7, 1, 8, 9, 10, 11, 6, 12, 2, 13, 14, 15, 16, 17, 18, 19, 20, 21, 22, 23, 24, 25, 26] (by decide +kernel) (by decide +kernel)
set_option maxRecDepth 20000 in
theorem gX3_cutOf_X3_plainCutOf : GoodIn wsX3_cutOf (wsV RX3 115 RX3 yX3_plainCutOf wsX3_plainCutOf) := goodIn_app (goodIn_of _ (by decide +kernel)) ggX3_cutOf_X3_plainCutOf
theorem dX3_cutOf_0 : decode cX3_cutOf 0 = .ok (.iload_n 1, 1) := by decide +kernel
theorem dX3_cutOf_1 : decode cX3_cutOf 1 = .ok (.ifCond .eq 9, 3) := by decide +kernel
theorem dX3_cutOf_4 : decode cX3_cutOf 4 = .ok (.aload_n 0, 1) := by decide +kernel
theorem dX3_cutOf_5 : decode cX3_cutOf 5 = .ok (.iload_n 1, 1) := by decide +kernel
theorem dX3_cutOf_6 : decode cX3_cutOf 6 = .ok (.invokevirtual 115, 3) := by decide +kernel
theorem dX3_cutOf_9 : decode cX3_cutOf 9 = .ok (.ireturn, 1) := by decide +kernel
theorem dX3_cutOf_10 : decode cX3_cutOf 10 = .ok (.aload_n 0, 1) := by decide +kernel
theorem dX3_cutOf_11 : decode cX3_cutOf 11 = .ok (.getfield 89, 3) := by decide +kernel
theorem dX3_cutOf_14 : decode cX3_cutOf 14 = .ok (.istore_n 2, 1) := by decide +kernel
theorem dX3_cutOf_15 : decode cX3_cutOf 15 = .ok (.iconst 1, 1) := by decide +kernel
theorem dX3_cutOf_16 : decode cX3_cutOf 16 = .ok (.istore_n 3, 1) := by decide +kernel
theorem dX3_cutOf_17 : decode cX3_cutOf 17 = .ok (.iload_n 3, 1) := by decide +kernel
theorem dX3_cutOf_18 : decode cX3_cutOf 18 = .ok (.aload_n 0, 1) := by decide +kernel
theorem dX3_cutOf_19 : decode cX3_cutOf 19 = .ok (.getfield 32, 3) := by decide +kernel
theorem dX3_cutOf_22 : decode cX3_cutOf 22 = .ok (.if_icmp .ge 17, 3) := by decide +kernel
theorem dX3_cutOf_25 : decode cX3_cutOf 25 = .ok (.iload_n 2, 1) := by decide +kernel
theorem dX3_cutOf_26 : decode cX3_cutOf 26 = .ok (.aload_n 0, 1) := by decide +kernel
theorem dX3_cutOf_27 : decode cX3_cutOf 27 = .ok (.iload_n 3, 1) := by decide +kernel
theorem dX3_cutOf_28 : decode cX3_cutOf 28 = .ok (.invokevirtual 115, 3) := by decide +kernel
theorem dX3_cutOf_31 : decode cX3_cutOf 31 = .ok (.isub, 1) := by decide +kernel
theorem dX3_cutOf_32 : decode cX3_cutOf 32 = .ok (.istore_n 2, 1) := by decide +kernel
theorem dX3_cutOf_33 : decode cX3_cutOf 33 = .ok (.iinc 3 1, 3) := by decide +kernel
theorem dX3_cutOf_36 : decode cX3_cutOf 36 = .ok (.goto (-19), 3) := by decide +kernel
theorem dX3_cutOf_39 : decode cX3_cutOf 39 = .ok (.iload_n 2, 1) := by decide +kernel
theorem dX3_cutOf_40 : decode cX3_cutOf 40 = .ok (.ireturn, 1) := by decide +kernel
set_option maxRecDepth 20000 in
theorem ggX3_plainCutOf_X3_partsSum : GoodIn wsX3_plainCutOf wsX3_partsSum := goodIn_r _ [7, 8, 2, 9, 10, 11, 12, 13, 14, 15, 16, 17, 18, 19, 20, 21, 22] (by decide +kernel) (by decide +kernel)
set_option maxRecDepth 20000 in
theorem gX3_plainCutOf_X3_partsSum : GoodIn wsX3_plainCutOf (wsV RX3 118 RX3 yX3_partsSum wsX3_partsSum) := goodIn_app (goodIn_of _ (by decide +kernel)) ggX3_plainCutOf_X3_partsSum
theorem dX3_plainCutOf_0 : decode cX3_plainCutOf 0 = .ok (.aload_n 0, 1) := by decide +kernel
theorem dX3_plainCutOf_1 : decode cX3_plainCutOf 1 = .ok (.invokevirtual 118, 3) := by decide +kernel
theorem dX3_plainCutOf_4 : decode cX3_plainCutOf 4 = .ok (.istore_n 2, 1) := by decide +kernel
theorem dX3_plainCutOf_5 : decode cX3_plainCutOf 5 = .ok (.iload_n 2, 1) := by decide +kernel
theorem dX3_plainCutOf_6 : decode cX3_plainCutOf 6 = .ok (.ifCond .le 19, 3) := by decide +kernel
theorem dX3_plainCutOf_9 : decode cX3_plainCutOf 9 = .ok (.aload_n 0, 1) := by decide +kernel
theorem dX3_plainCutOf_10 : decode cX3_plainCutOf 10 = .ok (.getfield 89, 3) := by decide +kernel
theorem dX3_plainCutOf_13 : decode cX3_plainCutOf 13 = .ok (.aload_n 0, 1) := by decide +kernel
theorem dX3_plainCutOf_14 : decode cX3_plainCutOf 14 = .ok (.getfield 35, 3) := by decide +kernel
theorem dX3_plainCutOf_17 : decode cX3_plainCutOf 17 = .ok (.iload_n 1, 1) := by decide +kernel
theorem dX3_plainCutOf_18 : decode cX3_plainCutOf 18 = .ok (.iaload, 1) := by decide +kernel
theorem dX3_plainCutOf_19 : decode cX3_plainCutOf 19 = .ok (.imul, 1) := by decide +kernel
theorem dX3_plainCutOf_20 : decode cX3_plainCutOf 20 = .ok (.iload_n 2, 1) := by decide +kernel
theorem dX3_plainCutOf_21 : decode cX3_plainCutOf 21 = .ok (.idiv, 1) := by decide +kernel
theorem dX3_plainCutOf_22 : decode cX3_plainCutOf 22 = .ok (.goto 4, 3) := by decide +kernel
theorem dX3_plainCutOf_25 : decode cX3_plainCutOf 25 = .ok (.iconst 0, 1) := by decide +kernel
theorem dX3_plainCutOf_26 : decode cX3_plainCutOf 26 = .ok (.ireturn, 1) := by decide +kernel
theorem dX3_partsSum_0 : decode cX3_partsSum 0 = .ok (.iconst 0, 1) := by decide +kernel
theorem dX3_partsSum_1 : decode cX3_partsSum 1 = .ok (.istore_n 1, 1) := by decide +kernel
theorem dX3_partsSum_2 : decode cX3_partsSum 2 = .ok (.iconst 0, 1) := by decide +kernel
theorem dX3_partsSum_3 : decode cX3_partsSum 3 = .ok (.istore_n 2, 1) := by decide +kernel
theorem dX3_partsSum_4 : decode cX3_partsSum 4 = .ok (.iload_n 2, 1) := by decide +kernel
theorem dX3_partsSum_5 : decode cX3_partsSum 5 = .ok (.aload_n 0, 1) := by decide +kernel
theorem dX3_partsSum_6 : decode cX3_partsSum 6 = .ok (.getfield 32, 3) := by decide +kernel
theorem dX3_partsSum_9 : decode cX3_partsSum 9 = .ok (.if_icmp .ge 18, 3) := by decide +kernel
theorem dX3_partsSum_12 : decode cX3_partsSum 12 = .ok (.iload_n 1, 1) := by decide +kernel
theorem dX3_partsSum_13 : decode cX3_partsSum 13 = .ok (.aload_n 0, 1) := by decide +kernel
theorem dX3_partsSum_14 : decode cX3_partsSum 14 = .ok (.getfield 35, 3) := by decide +kernel
theorem dX3_partsSum_17 : decode cX3_partsSum 17 = .ok (.iload_n 2, 1) := by decide +kernel
theorem dX3_partsSum_18 : decode cX3_partsSum 18 = .ok (.iaload, 1) := by decide +kernel
theorem dX3_partsSum_19 : decode cX3_partsSum 19 = .ok (.iadd, 1) := by decide +kernel
theorem dX3_partsSum_20 : decode cX3_partsSum 20 = .ok (.istore_n 1, 1) := by decide +kernel
theorem dX3_partsSum_21 : decode cX3_partsSum 21 = .ok (.iinc 2 1, 3) := by decide +kernel
theorem dX3_partsSum_24 : decode cX3_partsSum 24 = .ok (.goto (-20), 3) := by decide +kernel
theorem dX3_partsSum_27 : decode cX3_partsSum 27 = .ok (.iload_n 1, 1) := by decide +kernel
theorem dX3_partsSum_28 : decode cX3_partsSum 28 = .ok (.ireturn, 1) := by decide +kernel
set_option maxRecDepth 20000 in
theorem ggX3_dancesOfLeader_X4_oneIf : GoodIn wsX3_dancesOfLeader wsX4_oneIf := goodIn_r _ [4] (by decide +kernel) (by decide +kernel)
set_option maxRecDepth 20000 in
theorem gX3_dancesOfLeader_X4_oneIf_n121 : GoodIn wsX3_dancesOfLeader (wsX4_oneIf) := ggX3_dancesOfLeader_X4_oneIf
theorem dX3_dancesOfLeader_0 : decode cX3_dancesOfLeader 0 = .ok (.iconst 0, 1) := by decide +kernel
theorem dX3_dancesOfLeader_1 : decode cX3_dancesOfLeader 1 = .ok (.istore_n 2, 1) := by decide +kernel
theorem dX3_dancesOfLeader_2 : decode cX3_dancesOfLeader 2 = .ok (.iconst 0, 1) := by decide +kernel
theorem dX3_dancesOfLeader_3 : decode cX3_dancesOfLeader 3 = .ok (.istore_n 3, 1) := by decide +kernel
theorem dX3_dancesOfLeader_4 : decode cX3_dancesOfLeader 4 = .ok (.iload_n 3, 1) := by decide +kernel
theorem dX3_dancesOfLeader_5 : decode cX3_dancesOfLeader 5 = .ok (.bipush 8, 2) := by decide +kernel
theorem dX3_dancesOfLeader_7 : decode cX3_dancesOfLeader 7 = .ok (.if_icmp .ge 32, 3) := by decide +kernel
theorem dX3_dancesOfLeader_10 : decode cX3_dancesOfLeader 10 = .ok (.iload_n 2, 1) := by decide +kernel
theorem dX3_dancesOfLeader_11 : decode cX3_dancesOfLeader 11 = .ok (.aload_n 0, 1) := by decide +kernel
theorem dX3_dancesOfLeader_12 : decode cX3_dancesOfLeader 12 = .ok (.getfield 43, 3) := by decide +kernel
theorem dX3_dancesOfLeader_15 : decode cX3_dancesOfLeader 15 = .ok (.iload_n 1, 1) := by decide +kernel
theorem dX3_dancesOfLeader_16 : decode cX3_dancesOfLeader 16 = .ok (.aaload, 1) := by decide +kernel
theorem dX3_dancesOfLeader_17 : decode cX3_dancesOfLeader 17 = .ok (.iload_n 3, 1) := by decide +kernel
theorem dX3_dancesOfLeader_18 : decode cX3_dancesOfLeader 18 = .ok (.iaload, 1) := by decide +kernel
theorem dX3_dancesOfLeader_19 : decode cX3_dancesOfLeader 19 = .ok (.iconst (-1), 1) := by decide +kernel
theorem dX3_dancesOfLeader_20 : decode cX3_dancesOfLeader 20 = .ok (.if_icmp .eq 7, 3) := by decide +kernel
theorem dX3_dancesOfLeader_23 : decode cX3_dancesOfLeader 23 = .ok (.iconst 1, 1) := by decide +kernel
theorem dX3_dancesOfLeader_24 : decode cX3_dancesOfLeader 24 = .ok (.goto 4, 3) := by decide +kernel
theorem dX3_dancesOfLeader_27 : decode cX3_dancesOfLeader 27 = .ok (.iconst 0, 1) := by decide +kernel
theorem dX3_dancesOfLeader_28 : decode cX3_dancesOfLeader 28 = .ok (.invokestatic 121, 3) := by decide +kernel
theorem dX3_dancesOfLeader_31 : decode cX3_dancesOfLeader 31 = .ok (.iadd, 1) := by decide +kernel
theorem dX3_dancesOfLeader_32 : decode cX3_dancesOfLeader 32 = .ok (.istore_n 2, 1) := by decide +kernel
theorem dX3_dancesOfLeader_33 : decode cX3_dancesOfLeader 33 = .ok (.iinc 3 1, 3) := by decide +kernel
theorem dX3_dancesOfLeader_36 : decode cX3_dancesOfLeader 36 = .ok (.goto (-32), 3) := by decide +kernel
theorem dX3_dancesOfLeader_39 : decode cX3_dancesOfLeader 39 = .ok (.iload_n 2, 1) := by decide +kernel
theorem dX3_dancesOfLeader_40 : decode cX3_dancesOfLeader 40 = .ok (.ireturn, 1) := by decide +kernel
set_option maxRecDepth 20000 in
theorem ggX3_dancesOfFollower_X4_oneIf : GoodIn wsX3_dancesOfFollower wsX4_oneIf := goodIn_r _ [4] (by decide +kernel) (by decide +kernel)
set_option maxRecDepth 20000 in
theorem gX3_dancesOfFollower_X4_oneIf_n121 : GoodIn wsX3_dancesOfFollower (wsX4_oneIf) := ggX3_dancesOfFollower_X4_oneIf
theorem dX3_dancesOfFollower_0 : decode cX3_dancesOfFollower 0 = .ok (.iconst 0, 1) := by decide +kernel
theorem dX3_dancesOfFollower_1 : decode cX3_dancesOfFollower 1 = .ok (.istore_n 2, 1) := by decide +kernel
theorem dX3_dancesOfFollower_2 : decode cX3_dancesOfFollower 2 = .ok (.iconst 0, 1) := by decide +kernel
theorem dX3_dancesOfFollower_3 : decode cX3_dancesOfFollower 3 = .ok (.istore_n 3, 1) := by decide +kernel
theorem dX3_dancesOfFollower_4 : decode cX3_dancesOfFollower 4 = .ok (.iload_n 3, 1) := by decide +kernel
theorem dX3_dancesOfFollower_5 : decode cX3_dancesOfFollower 5 = .ok (.bipush 8, 2) := by decide +kernel
theorem dX3_dancesOfFollower_7 : decode cX3_dancesOfFollower 7 = .ok (.if_icmp .ge 32, 3) := by decide +kernel
theorem dX3_dancesOfFollower_10 : decode cX3_dancesOfFollower 10 = .ok (.iload_n 2, 1) := by decide +kernel
theorem dX3_dancesOfFollower_11 : decode cX3_dancesOfFollower 11 = .ok (.aload_n 0, 1) := by decide +kernel
theorem dX3_dancesOfFollower_12 : decode cX3_dancesOfFollower 12 = .ok (.getfield 43, 3) := by decide +kernel
theorem dX3_dancesOfFollower_15 : decode cX3_dancesOfFollower 15 = .ok (.iload_n 3, 1) := by decide +kernel
theorem dX3_dancesOfFollower_16 : decode cX3_dancesOfFollower 16 = .ok (.aaload, 1) := by decide +kernel
theorem dX3_dancesOfFollower_17 : decode cX3_dancesOfFollower 17 = .ok (.iload_n 1, 1) := by decide +kernel
theorem dX3_dancesOfFollower_18 : decode cX3_dancesOfFollower 18 = .ok (.iaload, 1) := by decide +kernel
theorem dX3_dancesOfFollower_19 : decode cX3_dancesOfFollower 19 = .ok (.iconst (-1), 1) := by decide +kernel
theorem dX3_dancesOfFollower_20 : decode cX3_dancesOfFollower 20 = .ok (.if_icmp .eq 7, 3) := by decide +kernel
theorem dX3_dancesOfFollower_23 : decode cX3_dancesOfFollower 23 = .ok (.iconst 1, 1) := by decide +kernel
theorem dX3_dancesOfFollower_24 : decode cX3_dancesOfFollower 24 = .ok (.goto 4, 3) := by decide +kernel
theorem dX3_dancesOfFollower_27 : decode cX3_dancesOfFollower 27 = .ok (.iconst 0, 1) := by decide +kernel
theorem dX3_dancesOfFollower_28 : decode cX3_dancesOfFollower 28 = .ok (.invokestatic 121, 3) := by decide +kernel
theorem dX3_dancesOfFollower_31 : decode cX3_dancesOfFollower 31 = .ok (.iadd, 1) := by decide +kernel
theorem dX3_dancesOfFollower_32 : decode cX3_dancesOfFollower 32 = .ok (.istore_n 2, 1) := by decide +kernel
theorem dX3_dancesOfFollower_33 : decode cX3_dancesOfFollower 33 = .ok (.iinc 3 1, 3) := by decide +kernel
theorem dX3_dancesOfFollower_36 : decode cX3_dancesOfFollower 36 = .ok (.goto (-32), 3) := by decide +kernel
theorem dX3_dancesOfFollower_39 : decode cX3_dancesOfFollower 39 = .ok (.iload_n 2, 1) := by decide +kernel
theorem dX3_dancesOfFollower_40 : decode cX3_dancesOfFollower 40 = .ok (.ireturn, 1) := by decide +kernel
set_option maxRecDepth 20000 in
theorem ggX3_couplesTonight_X3_dancesOfLeader : GoodIn wsX3_couplesTonight wsX3_dancesOfLeader := goodIn_r _ [5, 6, 7, 8, 9, 10, 11, 12, 13, 14, 15, 16, 17, 18, 19, 20, 21, 22, 23] (by decide +kernel) (by decide +kernel)
set_option maxRecDepth 20000 in
theorem gX3_couplesTonight_X3_dancesOfLeader : GoodIn wsX3_couplesTonight (wsV RX3 125 RX3 yX3_dancesOfLeader wsX3_dancesOfLeader) := goodIn_app (goodIn_of _ (by decide +kernel)) ggX3_couplesTonight_X3_dancesOfLeader
theorem dX3_couplesTonight_0 : decode cX3_couplesTonight 0 = .ok (.iconst 0, 1) := by decide +kernel
theorem dX3_couplesTonight_1 : decode cX3_couplesTonight 1 = .ok (.istore_n 1, 1) := by decide +kernel
theorem dX3_couplesTonight_2 : decode cX3_couplesTonight 2 = .ok (.iconst 0, 1) := by decide +kernel
theorem dX3_couplesTonight_3 : decode cX3_couplesTonight 3 = .ok (.istore_n 2, 1) := by decide +kernel
theorem dX3_couplesTonight_4 : decode cX3_couplesTonight 4 = .ok (.iload_n 2, 1) := by decide +kernel
theorem dX3_couplesTonight_5 : decode cX3_couplesTonight 5 = .ok (.bipush 8, 2) := by decide +kernel
theorem dX3_couplesTonight_7 : decode cX3_couplesTonight 7 = .ok (.if_icmp .ge 17, 3) := by decide +kernel
theorem dX3_couplesTonight_10 : decode cX3_couplesTonight 10 = .ok (.iload_n 1, 1) := by decide +kernel
theorem dX3_couplesTonight_11 : decode cX3_couplesTonight 11 = .ok (.aload_n 0, 1) := by decide +kernel
theorem dX3_couplesTonight_12 : decode cX3_couplesTonight 12 = .ok (.iload_n 2, 1) := by decide +kernel
theorem dX3_couplesTonight_13 : decode cX3_couplesTonight 13 = .ok (.invokevirtual 125, 3) := by decide +kernel
theorem dX3_couplesTonight_16 : decode cX3_couplesTonight 16 = .ok (.iadd, 1) := by decide +kernel
theorem dX3_couplesTonight_17 : decode cX3_couplesTonight 17 = .ok (.istore_n 1, 1) := by decide +kernel
theorem dX3_couplesTonight_18 : decode cX3_couplesTonight 18 = .ok (.iinc 2 1, 3) := by decide +kernel
theorem dX3_couplesTonight_21 : decode cX3_couplesTonight 21 = .ok (.goto (-17), 3) := by decide +kernel
theorem dX3_couplesTonight_24 : decode cX3_couplesTonight 24 = .ok (.iload_n 1, 1) := by decide +kernel
theorem dX3_couplesTonight_25 : decode cX3_couplesTonight 25 = .ok (.ireturn, 1) := by decide +kernel
set_option maxRecDepth 20000 in
theorem ggX3_number_X3_litOf : GoodIn wsX3_number wsX3_litOf := goodIn_r _ [16, 5, 17, 18, 19, 20, 42, 43, 44, 45, 46, 47, 48, 49, 50, 51, 52, 53, 54, 55] (by decide +kernel) (by decide +kernel)
set_option maxRecDepth 20000 in
theorem gX3_number_X3_litOf : GoodIn wsX3_number (wsV RX3 58 RX3 yX3_litOf wsX3_litOf) := goodIn_app (goodIn_of _ (by decide +kernel)) ggX3_number_X3_litOf
set_option maxRecDepth 20000 in
theorem ggX3_number_X3_room : GoodIn wsX3_number wsX3_room := goodIn_r _ [24, 4, 12, 13, 14, 15, 16, 5, 17, 18, 19, 20, 42, 43, 44, 45, 46, 47, 48, 49, 50, 51, 52, 53, 54, 55] (by decide +kernel) (by decide +kernel)
set_option maxRecDepth 20000 in
theorem gX3_number_X3_room : GoodIn wsX3_number (wsV RX3 65 RX3 yX3_room wsX3_room) := goodIn_app (goodIn_of _ (by decide +kernel)) ggX3_number_X3_room
set_option maxRecDepth 20000 in
theorem ggX3_number_X3_couplesTonight : GoodIn wsX3_number wsX3_couplesTonight := goodIn_r _ [28, 29, 30, 31, 15, 32, 33, 34, 35, 36, 42, 43, 44, 45, 46, 47, 48, 49, 50, 51, 52, 53, 54, 55] (by decide +kernel) (by decide +kernel)
set_option maxRecDepth 20000 in
theorem gX3_number_X3_couplesTonight : GoodIn wsX3_number (wsV RX3 131 RX3 yX3_couplesTonight wsX3_couplesTonight) := goodIn_app (goodIn_of _ (by decide +kernel)) ggX3_number_X3_couplesTonight
set_option maxRecDepth 20000 in
theorem ggX3_number_X3_partsSum : GoodIn wsX3_number wsX3_partsSum := goodIn_r _ [40, 9, 41, 42, 43, 44, 45, 46, 47, 48, 49, 50, 51, 52, 53, 54, 55] (by decide +kernel) (by decide +kernel)
set_option maxRecDepth 20000 in
theorem gX3_number_X3_partsSum : GoodIn wsX3_number (wsV RX3 118 RX3 yX3_partsSum wsX3_partsSum) := goodIn_app (goodIn_of _ (by decide +kernel)) ggX3_number_X3_partsSum
theorem dX3_number_0 : decode cX3_number 0 = .ok (.iload_n 1, 1) := by decide +kernel
theorem dX3_number_1 : decode cX3_number 1 = .ok (.tableswitch 142 0 12 #[67, 75, 83, 88, 93, 102, 107, 112, 117, 122, 127, 132, 137], 67) := by decide +kernel
theorem dX3_number_68 : decode cX3_number 68 = .ok (.aload_n 0, 1) := by decide +kernel
theorem dX3_number_69 : decode cX3_number 69 = .ok (.getfield 12, 3) := by decide +kernel
theorem dX3_number_72 : decode cX3_number 72 = .ok (.getfield 128, 3) := by decide +kernel
theorem dX3_number_75 : decode cX3_number 75 = .ok (.ireturn, 1) := by decide +kernel
theorem dX3_number_76 : decode cX3_number 76 = .ok (.aload_n 0, 1) := by decide +kernel
theorem dX3_number_77 : decode cX3_number 77 = .ok (.getfield 18, 3) := by decide +kernel
theorem dX3_number_80 : decode cX3_number 80 = .ok (.getfield 128, 3) := by decide +kernel
theorem dX3_number_83 : decode cX3_number 83 = .ok (.ireturn, 1) := by decide +kernel
theorem dX3_number_84 : decode cX3_number 84 = .ok (.aload_n 0, 1) := by decide +kernel
theorem dX3_number_85 : decode cX3_number 85 = .ok (.getfield 25, 3) := by decide +kernel
theorem dX3_number_88 : decode cX3_number 88 = .ok (.ireturn, 1) := by decide +kernel
theorem dX3_number_89 : decode cX3_number 89 = .ok (.aload_n 0, 1) := by decide +kernel
theorem dX3_number_90 : decode cX3_number 90 = .ok (.getfield 29, 3) := by decide +kernel
theorem dX3_number_93 : decode cX3_number 93 = .ok (.ireturn, 1) := by decide +kernel
theorem dX3_number_94 : decode cX3_number 94 = .ok (.aload_n 0, 1) := by decide +kernel
theorem dX3_number_95 : decode cX3_number 95 = .ok (.aload_n 0, 1) := by decide +kernel
theorem dX3_number_96 : decode cX3_number 96 = .ok (.getfield 25, 3) := by decide +kernel
theorem dX3_number_99 : decode cX3_number 99 = .ok (.invokevirtual 58, 3) := by decide +kernel
theorem dX3_number_102 : decode cX3_number 102 = .ok (.ireturn, 1) := by decide +kernel
theorem dX3_number_103 : decode cX3_number 103 = .ok (.aload_n 0, 1) := by decide +kernel
theorem dX3_number_104 : decode cX3_number 104 = .ok (.invokevirtual 65, 3) := by decide +kernel
theorem dX3_number_107 : decode cX3_number 107 = .ok (.ireturn, 1) := by decide +kernel
theorem dX3_number_108 : decode cX3_number 108 = .ok (.aload_n 0, 1) := by decide +kernel
theorem dX3_number_109 : decode cX3_number 109 = .ok (.getfield 112, 3) := by decide +kernel
theorem dX3_number_112 : decode cX3_number 112 = .ok (.ireturn, 1) := by decide +kernel
theorem dX3_number_113 : decode cX3_number 113 = .ok (.aload_n 0, 1) := by decide +kernel
theorem dX3_number_114 : decode cX3_number 114 = .ok (.getfield 62, 3) := by decide +kernel
theorem dX3_number_117 : decode cX3_number 117 = .ok (.ireturn, 1) := by decide +kernel
theorem dX3_number_118 : decode cX3_number 118 = .ok (.aload_n 0, 1) := by decide +kernel
theorem dX3_number_119 : decode cX3_number 119 = .ok (.invokevirtual 131, 3) := by decide +kernel
theorem dX3_number_122 : decode cX3_number 122 = .ok (.ireturn, 1) := by decide +kernel
theorem dX3_number_123 : decode cX3_number 123 = .ok (.aload_n 0, 1) := by decide +kernel
theorem dX3_number_124 : decode cX3_number 124 = .ok (.getfield 89, 3) := by decide +kernel
theorem dX3_number_127 : decode cX3_number 127 = .ok (.ireturn, 1) := by decide +kernel
theorem dX3_number_128 : decode cX3_number 128 = .ok (.aload_n 0, 1) := by decide +kernel
theorem dX3_number_129 : decode cX3_number 129 = .ok (.getfield 32, 3) := by decide +kernel
theorem dX3_number_132 : decode cX3_number 132 = .ok (.ireturn, 1) := by decide +kernel
theorem dX3_number_133 : decode cX3_number 133 = .ok (.aload_n 0, 1) := by decide +kernel
theorem dX3_number_134 : decode cX3_number 134 = .ok (.invokevirtual 118, 3) := by decide +kernel
theorem dX3_number_137 : decode cX3_number 137 = .ok (.ireturn, 1) := by decide +kernel
theorem dX3_number_138 : decode cX3_number 138 = .ok (.aload_n 0, 1) := by decide +kernel
theorem dX3_number_139 : decode cX3_number 139 = .ok (.getfield 92, 3) := by decide +kernel
theorem dX3_number_142 : decode cX3_number 142 = .ok (.ireturn, 1) := by decide +kernel
theorem dX3_number_143 : decode cX3_number 143 = .ok (.aload_n 0, 1) := by decide +kernel
theorem dX3_number_144 : decode cX3_number 144 = .ok (.getfield 82, 3) := by decide +kernel
theorem dX3_number_147 : decode cX3_number 147 = .ok (.ireturn, 1) := by decide +kernel
set_option maxRecDepth 20000 in
theorem ggX3_copyFrom_X2_copyFrom : GoodIn wsX3_copyFrom wsX2_copyFrom := goodIn_r _ [23, 24, 25, 26, 27, 28, 29, 44, 45, 46, 47, 48, 49] (by decide +kernel) (by decide +kernel)
set_option maxRecDepth 20000 in
theorem gX3_copyFrom_X2_copyFrom : GoodIn wsX3_copyFrom (wsV RX3 134 RX2 yX2_copyFrom wsX2_copyFrom) := goodIn_app (goodIn_of _ (by decide +kernel)) ggX3_copyFrom_X2_copyFrom
theorem dX3_copyFrom_0 : decode cX3_copyFrom 0 = .ok (.aload_n 0, 1) := by decide +kernel
theorem dX3_copyFrom_1 : decode cX3_copyFrom 1 = .ok (.getfield 12, 3) := by decide +kernel
theorem dX3_copyFrom_4 : decode cX3_copyFrom 4 = .ok (.aload_n 1, 1) := by decide +kernel
theorem dX3_copyFrom_5 : decode cX3_copyFrom 5 = .ok (.getfield 12, 3) := by decide +kernel
theorem dX3_copyFrom_8 : decode cX3_copyFrom 8 = .ok (.invokevirtual 134, 3) := by decide +kernel
theorem dX3_copyFrom_11 : decode cX3_copyFrom 11 = .ok (.aload_n 0, 1) := by decide +kernel
theorem dX3_copyFrom_12 : decode cX3_copyFrom 12 = .ok (.getfield 18, 3) := by decide +kernel
theorem dX3_copyFrom_15 : decode cX3_copyFrom 15 = .ok (.aload_n 1, 1) := by decide +kernel
theorem dX3_copyFrom_16 : decode cX3_copyFrom 16 = .ok (.getfield 18, 3) := by decide +kernel
theorem dX3_copyFrom_19 : decode cX3_copyFrom 19 = .ok (.invokevirtual 134, 3) := by decide +kernel
theorem dX3_copyFrom_22 : decode cX3_copyFrom 22 = .ok (.aload_n 1, 1) := by decide +kernel
theorem dX3_copyFrom_23 : decode cX3_copyFrom 23 = .ok (.getfield 21, 3) := by decide +kernel
theorem dX3_copyFrom_26 : decode cX3_copyFrom 26 = .ok (.iconst 0, 1) := by decide +kernel
theorem dX3_copyFrom_27 : decode cX3_copyFrom 27 = .ok (.aload_n 0, 1) := by decide +kernel
theorem dX3_copyFrom_28 : decode cX3_copyFrom 28 = .ok (.getfield 21, 3) := by decide +kernel
theorem dX3_copyFrom_31 : decode cX3_copyFrom 31 = .ok (.iconst 0, 1) := by decide +kernel
theorem dX3_copyFrom_32 : decode cX3_copyFrom 32 = .ok (.bipush 10, 2) := by decide +kernel
theorem dX3_copyFrom_34 : decode cX3_copyFrom 34 = .ok (.invokestatic 138, 3) := by decide +kernel
theorem dX3_copyFrom_37 : decode cX3_copyFrom 37 = .ok (.aload_n 0, 1) := by decide +kernel
theorem dX3_copyFrom_38 : decode cX3_copyFrom 38 = .ok (.aload_n 1, 1) := by decide +kernel
theorem dX3_copyFrom_39 : decode cX3_copyFrom 39 = .ok (.getfield 25, 3) := by decide +kernel
theorem dX3_copyFrom_42 : decode cX3_copyFrom 42 = .ok (.putfield 25, 3) := by decide +kernel
theorem dX3_copyFrom_45 : decode cX3_copyFrom 45 = .ok (.aload_n 0, 1) := by decide +kernel
theorem dX3_copyFrom_46 : decode cX3_copyFrom 46 = .ok (.aload_n 1, 1) := by decide +kernel
theorem dX3_copyFrom_47 : decode cX3_copyFrom 47 = .ok (.getfield 29, 3) := by decide +kernel
theorem dX3_copyFrom_50 : decode cX3_copyFrom 50 = .ok (.putfield 29, 3) := by decide +kernel
theorem dX3_copyFrom_53 : decode cX3_copyFrom 53 = .ok (.aload_n 0, 1) := by decide +kernel
theorem dX3_copyFrom_54 : decode cX3_copyFrom 54 = .ok (.aload_n 1, 1) := by decide +kernel
theorem dX3_copyFrom_55 : decode cX3_copyFrom 55 = .ok (.getfield 82, 3) := by decide +kernel
theorem dX3_copyFrom_58 : decode cX3_copyFrom 58 = .ok (.putfield 82, 3) := by decide +kernel
theorem dX3_copyFrom_61 : decode cX3_copyFrom 61 = .ok (.aload_n 0, 1) := by decide +kernel
theorem dX3_copyFrom_62 : decode cX3_copyFrom 62 = .ok (.aload_n 1, 1) := by decide +kernel
theorem dX3_copyFrom_63 : decode cX3_copyFrom 63 = .ok (.getfield 32, 3) := by decide +kernel
theorem dX3_copyFrom_66 : decode cX3_copyFrom 66 = .ok (.putfield 32, 3) := by decide +kernel
theorem dX3_copyFrom_69 : decode cX3_copyFrom 69 = .ok (.aload_n 1, 1) := by decide +kernel
theorem dX3_copyFrom_70 : decode cX3_copyFrom 70 = .ok (.getfield 35, 3) := by decide +kernel
theorem dX3_copyFrom_73 : decode cX3_copyFrom 73 = .ok (.iconst 0, 1) := by decide +kernel
theorem dX3_copyFrom_74 : decode cX3_copyFrom 74 = .ok (.aload_n 0, 1) := by decide +kernel
theorem dX3_copyFrom_75 : decode cX3_copyFrom 75 = .ok (.getfield 35, 3) := by decide +kernel
theorem dX3_copyFrom_78 : decode cX3_copyFrom 78 = .ok (.iconst 0, 1) := by decide +kernel
theorem dX3_copyFrom_79 : decode cX3_copyFrom 79 = .ok (.iconst 4, 1) := by decide +kernel
theorem dX3_copyFrom_80 : decode cX3_copyFrom 80 = .ok (.invokestatic 138, 3) := by decide +kernel
theorem dX3_copyFrom_83 : decode cX3_copyFrom 83 = .ok (.aload_n 1, 1) := by decide +kernel
theorem dX3_copyFrom_84 : decode cX3_copyFrom 84 = .ok (.getfield 38, 3) := by decide +kernel
theorem dX3_copyFrom_87 : decode cX3_copyFrom 87 = .ok (.iconst 0, 1) := by decide +kernel
theorem dX3_copyFrom_88 : decode cX3_copyFrom 88 = .ok (.aload_n 0, 1) := by decide +kernel
theorem dX3_copyFrom_89 : decode cX3_copyFrom 89 = .ok (.getfield 38, 3) := by decide +kernel
theorem dX3_copyFrom_92 : decode cX3_copyFrom 92 = .ok (.iconst 0, 1) := by decide +kernel
theorem dX3_copyFrom_93 : decode cX3_copyFrom 93 = .ok (.iconst 4, 1) := by decide +kernel
theorem dX3_copyFrom_94 : decode cX3_copyFrom 94 = .ok (.invokestatic 138, 3) := by decide +kernel
theorem dX3_copyFrom_97 : decode cX3_copyFrom 97 = .ok (.aload_n 0, 1) := by decide +kernel
theorem dX3_copyFrom_98 : decode cX3_copyFrom 98 = .ok (.aload_n 1, 1) := by decide +kernel
theorem dX3_copyFrom_99 : decode cX3_copyFrom 99 = .ok (.getfield 89, 3) := by decide +kernel
theorem dX3_copyFrom_102 : decode cX3_copyFrom 102 = .ok (.putfield 89, 3) := by decide +kernel
theorem dX3_copyFrom_105 : decode cX3_copyFrom 105 = .ok (.aload_n 0, 1) := by decide +kernel
theorem dX3_copyFrom_106 : decode cX3_copyFrom 106 = .ok (.aload_n 1, 1) := by decide +kernel
theorem dX3_copyFrom_107 : decode cX3_copyFrom 107 = .ok (.getfield 112, 3) := by decide +kernel
theorem dX3_copyFrom_110 : decode cX3_copyFrom 110 = .ok (.putfield 112, 3) := by decide +kernel
theorem dX3_copyFrom_113 : decode cX3_copyFrom 113 = .ok (.aload_n 0, 1) := by decide +kernel
theorem dX3_copyFrom_114 : decode cX3_copyFrom 114 = .ok (.aload_n 1, 1) := by decide +kernel
theorem dX3_copyFrom_115 : decode cX3_copyFrom 115 = .ok (.getfield 62, 3) := by decide +kernel
theorem dX3_copyFrom_118 : decode cX3_copyFrom 118 = .ok (.putfield 62, 3) := by decide +kernel
theorem dX3_copyFrom_121 : decode cX3_copyFrom 121 = .ok (.aload_n 0, 1) := by decide +kernel
theorem dX3_copyFrom_122 : decode cX3_copyFrom 122 = .ok (.aload_n 1, 1) := by decide +kernel
theorem dX3_copyFrom_123 : decode cX3_copyFrom 123 = .ok (.getfield 92, 3) := by decide +kernel
theorem dX3_copyFrom_126 : decode cX3_copyFrom 126 = .ok (.putfield 92, 3) := by decide +kernel
theorem dX3_copyFrom_129 : decode cX3_copyFrom 129 = .ok (.iconst 0, 1) := by decide +kernel
theorem dX3_copyFrom_130 : decode cX3_copyFrom 130 = .ok (.istore_n 2, 1) := by decide +kernel
theorem dX3_copyFrom_131 : decode cX3_copyFrom 131 = .ok (.iload_n 2, 1) := by decide +kernel
theorem dX3_copyFrom_132 : decode cX3_copyFrom 132 = .ok (.bipush 8, 2) := by decide +kernel
theorem dX3_copyFrom_134 : decode cX3_copyFrom 134 = .ok (.if_icmp .ge 28, 3) := by decide +kernel
theorem dX3_copyFrom_137 : decode cX3_copyFrom 137 = .ok (.aload_n 1, 1) := by decide +kernel
theorem dX3_copyFrom_138 : decode cX3_copyFrom 138 = .ok (.getfield 43, 3) := by decide +kernel
theorem dX3_copyFrom_141 : decode cX3_copyFrom 141 = .ok (.iload_n 2, 1) := by decide +kernel
theorem dX3_copyFrom_142 : decode cX3_copyFrom 142 = .ok (.aaload, 1) := by decide +kernel
theorem dX3_copyFrom_143 : decode cX3_copyFrom 143 = .ok (.iconst 0, 1) := by decide +kernel
theorem dX3_copyFrom_144 : decode cX3_copyFrom 144 = .ok (.aload_n 0, 1) := by decide +kernel
theorem dX3_copyFrom_145 : decode cX3_copyFrom 145 = .ok (.getfield 43, 3) := by decide +kernel
theorem dX3_copyFrom_148 : decode cX3_copyFrom 148 = .ok (.iload_n 2, 1) := by decide +kernel
theorem dX3_copyFrom_149 : decode cX3_copyFrom 149 = .ok (.aaload, 1) := by decide +kernel
theorem dX3_copyFrom_150 : decode cX3_copyFrom 150 = .ok (.iconst 0, 1) := by decide +kernel
theorem dX3_copyFrom_151 : decode cX3_copyFrom 151 = .ok (.bipush 8, 2) := by decide +kernel
theorem dX3_copyFrom_153 : decode cX3_copyFrom 153 = .ok (.invokestatic 138, 3) := by decide +kernel
theorem dX3_copyFrom_156 : decode cX3_copyFrom 156 = .ok (.iinc 2 1, 3) := by decide +kernel
theorem dX3_copyFrom_159 : decode cX3_copyFrom 159 = .ok (.goto (-28), 3) := by decide +kernel
theorem dX3_copyFrom_162 : decode cX3_copyFrom 162 = .ok (.return_, 1) := by decide +kernel
set_option maxRecDepth 20000 in
theorem ggX4_init_X3_init : GoodIn wsX4_init wsX3_init := goodIn_r _ [20, 21, 2, 3, 22, 23, 24, 25, 26, 27, 28, 29, 30, 31, 32, 33, 34, 35, 36, 37, 38, 39, 40, 41, 42, 43, 44, 45, 46, 47, 48, 95, 96, 97, 98, 99, 100, 63, 64, 65, 66, 67, 68, 69, 70, 71, 72, 73, 74, 75, 76] (by decide +kernel) (by decide +kernel)
set_option maxRecDepth 20000 in
theorem gX4_init_X3_init : GoodIn wsX4_init (wsX3_init) := ggX4_init_X3_init
set_option maxRecDepth 20000 in
theorem ggX4_init_X0_init : GoodIn wsX4_init wsX0_init := goodIn_r _ [50, 51, 2, 3, 27, 52, 53, 54, 55, 56, 57, 83, 84, 85, 86, 87, 88, 89, 90, 91] (by decide +kernel) (by decide +kernel)
set_option maxRecDepth 20000 in
theorem gX4_init_X0_init_n21 : GoodIn wsX4_init (wsX0_init) := ggX4_init_X0_init
set_option maxRecDepth 20000 in
theorem ggX4_init_X1_init : GoodIn wsX4_init wsX1_init := goodIn_r _ [59, 60, 2, 3, 61, 62, 92, 93, 94] (by decide +kernel) (by decide +kernel)
set_option maxRecDepth 20000 in
theorem gX4_init_X1_init_n28 : GoodIn wsX4_init (wsX1_init) := ggX4_init_X1_init
theorem dX4_init_0 : decode cX4_init 0 = .ok (.aload_n 0, 1) := by decide +kernel
theorem dX4_init_1 : decode cX4_init 1 = .ok (.invokespecial 3, 3) := by decide +kernel
theorem dX4_init_4 : decode cX4_init 4 = .ok (.aload_n 0, 1) := by decide +kernel
theorem dX4_init_5 : decode cX4_init 5 = .ok (.new 9, 3) := by decide +kernel
theorem dX4_init_8 : decode cX4_init 8 = .ok (.dup, 1) := by decide +kernel
theorem dX4_init_9 : decode cX4_init 9 = .ok (.invokespecial 11, 3) := by decide +kernel
theorem dX4_init_12 : decode cX4_init 12 = .ok (.putfield 12, 3) := by decide +kernel
theorem dX4_init_15 : decode cX4_init 15 = .ok (.aload_n 0, 1) := by decide +kernel
theorem dX4_init_16 : decode cX4_init 16 = .ok (.new 9, 3) := by decide +kernel
theorem dX4_init_19 : decode cX4_init 19 = .ok (.dup, 1) := by decide +kernel
theorem dX4_init_20 : decode cX4_init 20 = .ok (.invokespecial 11, 3) := by decide +kernel
theorem dX4_init_23 : decode cX4_init 23 = .ok (.putfield 16, 3) := by decide +kernel
theorem dX4_init_26 : decode cX4_init 26 = .ok (.aload_n 0, 1) := by decide +kernel
theorem dX4_init_27 : decode cX4_init 27 = .ok (.new 19, 3) := by decide +kernel
theorem dX4_init_30 : decode cX4_init 30 = .ok (.dup, 1) := by decide +kernel
theorem dX4_init_31 : decode cX4_init 31 = .ok (.invokespecial 21, 3) := by decide +kernel
theorem dX4_init_34 : decode cX4_init 34 = .ok (.putfield 22, 3) := by decide +kernel
theorem dX4_init_37 : decode cX4_init 37 = .ok (.aload_n 0, 1) := by decide +kernel
theorem dX4_init_38 : decode cX4_init 38 = .ok (.new 26, 3) := by decide +kernel
theorem dX4_init_41 : decode cX4_init 41 = .ok (.dup, 1) := by decide +kernel
theorem dX4_init_42 : decode cX4_init 42 = .ok (.invokespecial 28, 3) := by decide +kernel
theorem dX4_init_45 : decode cX4_init 45 = .ok (.putfield 29, 3) := by decide +kernel
theorem dX4_init_48 : decode cX4_init 48 = .ok (.aload_n 0, 1) := by decide +kernel
theorem dX4_init_49 : decode cX4_init 49 = .ok (.iconst 4, 1) := by decide +kernel
theorem dX4_init_50 : decode cX4_init 50 = .ok (.anewarray 9, 3) := by decide +kernel
theorem dX4_init_53 : decode cX4_init 53 = .ok (.putfield 33, 3) := by decide +kernel
theorem dX4_init_56 : decode cX4_init 56 = .ok (.iconst 0, 1) := by decide +kernel
theorem dX4_init_57 : decode cX4_init 57 = .ok (.istore_n 1, 1) := by decide +kernel
theorem dX4_init_58 : decode cX4_init 58 = .ok (.iload_n 1, 1) := by decide +kernel
theorem dX4_init_59 : decode cX4_init 59 = .ok (.iconst 4, 1) := by decide +kernel
theorem dX4_init_60 : decode cX4_init 60 = .ok (.if_icmp .ge 22, 3) := by decide +kernel
theorem dX4_init_63 : decode cX4_init 63 = .ok (.aload_n 0, 1) := by decide +kernel
theorem dX4_init_64 : decode cX4_init 64 = .ok (.getfield 33, 3) := by decide +kernel
theorem dX4_init_67 : decode cX4_init 67 = .ok (.iload_n 1, 1) := by decide +kernel
theorem dX4_init_68 : decode cX4_init 68 = .ok (.new 9, 3) := by decide +kernel
theorem dX4_init_71 : decode cX4_init 71 = .ok (.dup, 1) := by decide +kernel
theorem dX4_init_72 : decode cX4_init 72 = .ok (.invokespecial 11, 3) := by decide +kernel
theorem dX4_init_75 : decode cX4_init 75 = .ok (.aastore, 1) := by decide +kernel
theorem dX4_init_76 : decode cX4_init 76 = .ok (.iinc 1 1, 3) := by decide +kernel
theorem dX4_init_79 : decode cX4_init 79 = .ok (.goto (-21), 3) := by decide +kernel
theorem dX4_init_82 : decode cX4_init 82 = .ok (.return_, 1) := by decide +kernel
set_option maxRecDepth 20000 in
theorem ggX4_addGuest_X4_isWithin : GoodIn wsX4_addGuest wsX4_isWithin := goodIn_r _ [5] (by decide +kernel) (by decide +kernel)
set_option maxRecDepth 20000 in
theorem gX4_addGuest_X4_isWithin : GoodIn wsX4_addGuest (va_wsS RX4 37 yX4_isWithin wsX4_isWithin) := goodIn_app (goodIn_of _ (by decide +kernel)) ggX4_addGuest_X4_isWithin
set_option maxRecDepth 20000 in
theorem ggX4_addGuest_X4_needArgument : GoodIn wsX4_addGuest wsX4_needArgument := goodIn_ca (goodIn_r _ [8, 9, 10] (by decide +kernel) (by decide +kernel)) (goodIn_sub (fun _ h => List.mem_cons_of_mem _ (List.mem_append_left _ (List.mem_append_right _ h))) (by decide +kernel))
set_option maxRecDepth 20000 in
theorem gX4_addGuest_X4_needArgument : GoodIn wsX4_addGuest (va_wsS RX4 41 yX4_needArgument wsX4_needArgument) := goodIn_app (goodIn_of _ (by decide +kernel)) ggX4_addGuest_X4_needArgument
set_option maxRecDepth 20000 in
theorem ggX4_addGuest_X3_side : GoodIn wsX4_addGuest wsX3_side := goodIn_r _ [15, 16, 17, 75, 76, 77, 78, 79, 80, 81, 82, 83, 84, 85, 86, 87, 88] (by decide +kernel) (by decide +kernel)
set_option maxRecDepth 20000 in
theorem gX4_addGuest_X3_side : GoodIn wsX4_addGuest (wsV RX4 45 RX3 yX3_side wsX3_side) := goodIn_app (goodIn_of _ (by decide +kernel)) ggX4_addGuest_X3_side
set_option maxRecDepth 20000 in
theorem ggX4_addGuest_X2_isFull : GoodIn wsX4_addGuest wsX2_isFull := goodIn_r _ [22, 23, 89, 90, 91, 92, 93, 94] (by decide +kernel) (by decide +kernel)
set_option maxRecDepth 20000 in
theorem gX4_addGuest_X2_isFull : GoodIn wsX4_addGuest (wsV RX4 49 RX2 yX2_isFull wsX2_isFull) := goodIn_app (goodIn_of _ (by decide +kernel)) ggX4_addGuest_X2_isFull
set_option maxRecDepth 20000 in
theorem ggX4_addGuest_X4_needState : GoodIn wsX4_addGuest wsX4_needState := goodIn_ca (goodIn_r _ [26, 27, 28] (by decide +kernel) (by decide +kernel)) (goodIn_sub (fun _ h => List.mem_cons_of_mem _ (List.mem_append_right _ h)) (by decide +kernel))
set_option maxRecDepth 20000 in
theorem gX4_addGuest_X4_needState : GoodIn wsX4_addGuest (va_wsS RX4 55 yX4_needState wsX4_needState) := goodIn_app (goodIn_of _ (by decide +kernel)) ggX4_addGuest_X4_needState
set_option maxRecDepth 20000 in
theorem ggX4_addGuest_X4_saveState : GoodIn wsX4_addGuest wsX4_saveState := goodIn_r _ [32, 33, 34, 1, 35, 36, 37, 14, 38, 16, 17, 39, 40, 41, 42, 43, 44, 45, 46, 47, 48, 49, 50, 51, 52, 53, 54, 55, 56, 57, 21, 58, 23, 59, 60, 61, 62, 63, 69, 70, 71, 72, 73, 74, 75, 76, 77, 78, 79, 80, 81, 82, 83, 84, 85, 86, 87, 88, 89, 90, 91, 92, 93, 94] (by decide +kernel) (by decide +kernel)
set_option maxRecDepth 20000 in
theorem gX4_addGuest_X4_saveState : GoodIn wsX4_addGuest (wsV RX4 58 RX4 yX4_saveState wsX4_saveState) := goodIn_app (goodIn_of _ (by decide +kernel)) ggX4_addGuest_X4_saveState
set_option maxRecDepth 20000 in
theorem ggX4_addGuest_X2_add : GoodIn wsX4_addGuest wsX2_add := goodIn_r _ [67, 23, 59, 60, 61, 62, 63, 68, 19, 20, 21, 22, 89, 90, 91, 92, 93, 94] (by decide +kernel) (by decide +kernel)
set_option maxRecDepth 20000 in
theorem gX4_addGuest_X2_add : GoodIn wsX4_addGuest (wsV RX4 61 RX2 yX2_add wsX2_add) := goodIn_app (goodIn_of _ (by decide +kernel)) ggX4_addGuest_X2_add
theorem dX4_addGuest_0 : decode cX4_addGuest 0 = .ok (.iload_n 2, 1) := by decide +kernel
theorem dX4_addGuest_1 : decode cX4_addGuest 1 = .ok (.iconst 0, 1) := by decide +kernel
theorem dX4_addGuest_2 : decode cX4_addGuest 2 = .ok (.bipush 99, 2) := by decide +kernel
theorem dX4_addGuest_4 : decode cX4_addGuest 4 = .ok (.invokestatic 37, 3) := by decide +kernel
theorem dX4_addGuest_7 : decode cX4_addGuest 7 = .ok (.ifCond .eq 17, 3) := by decide +kernel
theorem dX4_addGuest_10 : decode cX4_addGuest 10 = .ok (.iload_n 3, 1) := by decide +kernel
theorem dX4_addGuest_11 : decode cX4_addGuest 11 = .ok (.iconst 1, 1) := by decide +kernel
theorem dX4_addGuest_12 : decode cX4_addGuest 12 = .ok (.bipush 9, 2) := by decide +kernel
theorem dX4_addGuest_14 : decode cX4_addGuest 14 = .ok (.invokestatic 37, 3) := by decide +kernel
theorem dX4_addGuest_17 : decode cX4_addGuest 17 = .ok (.ifCond .eq 7, 3) := by decide +kernel
theorem dX4_addGuest_20 : decode cX4_addGuest 20 = .ok (.iconst 1, 1) := by decide +kernel
theorem dX4_addGuest_21 : decode cX4_addGuest 21 = .ok (.goto 4, 3) := by decide +kernel
theorem dX4_addGuest_24 : decode cX4_addGuest 24 = .ok (.iconst 0, 1) := by decide +kernel
theorem dX4_addGuest_25 : decode cX4_addGuest 25 = .ok (.invokestatic 41, 3) := by decide +kernel
theorem dX4_addGuest_28 : decode cX4_addGuest 28 = .ok (.aload_n 0, 1) := by decide +kernel
theorem dX4_addGuest_29 : decode cX4_addGuest 29 = .ok (.getfield 12, 3) := by decide +kernel
theorem dX4_addGuest_32 : decode cX4_addGuest 32 = .ok (.iload_n 1, 1) := by decide +kernel
theorem dX4_addGuest_33 : decode cX4_addGuest 33 = .ok (.invokevirtual 45, 3) := by decide +kernel
theorem dX4_addGuest_36 : decode cX4_addGuest 36 = .ok (.invokevirtual 49, 3) := by decide +kernel
theorem dX4_addGuest_39 : decode cX4_addGuest 39 = .ok (.ifCond .ne 7, 3) := by decide +kernel
theorem dX4_addGuest_42 : decode cX4_addGuest 42 = .ok (.iconst 1, 1) := by decide +kernel
theorem dX4_addGuest_43 : decode cX4_addGuest 43 = .ok (.goto 4, 3) := by decide +kernel
theorem dX4_addGuest_46 : decode cX4_addGuest 46 = .ok (.iconst 0, 1) := by decide +kernel
theorem dX4_addGuest_47 : decode cX4_addGuest 47 = .ok (.invokestatic 55, 3) := by decide +kernel
theorem dX4_addGuest_50 : decode cX4_addGuest 50 = .ok (.aload_n 0, 1) := by decide +kernel
theorem dX4_addGuest_51 : decode cX4_addGuest 51 = .ok (.invokevirtual 58, 3) := by decide +kernel
theorem dX4_addGuest_54 : decode cX4_addGuest 54 = .ok (.aload_n 0, 1) := by decide +kernel
theorem dX4_addGuest_55 : decode cX4_addGuest 55 = .ok (.getfield 12, 3) := by decide +kernel
theorem dX4_addGuest_58 : decode cX4_addGuest 58 = .ok (.iload_n 1, 1) := by decide +kernel
theorem dX4_addGuest_59 : decode cX4_addGuest 59 = .ok (.invokevirtual 45, 3) := by decide +kernel
theorem dX4_addGuest_62 : decode cX4_addGuest 62 = .ok (.iload_n 2, 1) := by decide +kernel
theorem dX4_addGuest_63 : decode cX4_addGuest 63 = .ok (.iload_n 3, 1) := by decide +kernel
theorem dX4_addGuest_64 : decode cX4_addGuest 64 = .ok (.iload 4, 2) := by decide +kernel
theorem dX4_addGuest_66 : decode cX4_addGuest 66 = .ok (.invokevirtual 61, 3) := by decide +kernel
theorem dX4_addGuest_69 : decode cX4_addGuest 69 = .ok (.ireturn, 1) := by decide +kernel
set_option maxRecDepth 20000 in
theorem ggX4_giveTokens_X3_side : GoodIn wsX4_giveTokens wsX3_side := goodIn_r _ [7, 8, 9, 82, 83, 84, 85, 86, 87, 88, 89, 90, 91, 92, 93, 94, 95] (by decide +kernel) (by decide +kernel)
set_option maxRecDepth 20000 in
theorem gX4_giveTokens_X3_side : GoodIn wsX4_giveTokens (wsV RX4 45 RX3 yX3_side wsX3_side) := goodIn_app (goodIn_of _ (by decide +kernel)) ggX4_giveTokens_X3_side
set_option maxRecDepth 20000 in
theorem ggX4_giveTokens_X2_has : GoodIn wsX4_giveTokens wsX2_has := goodIn_r _ [14, 15, 76, 77, 78, 79, 80, 81] (by decide +kernel) (by decide +kernel)
set_option maxRecDepth 20000 in
theorem gX4_giveTokens_X2_has : GoodIn wsX4_giveTokens (wsV RX4 65 RX2 yX2_has wsX2_has) := goodIn_app (goodIn_of _ (by decide +kernel)) ggX4_giveTokens_X2_has
set_option maxRecDepth 20000 in
theorem ggX4_giveTokens_X4_needIndex : GoodIn wsX4_giveTokens wsX4_needIndex := goodIn_ca (goodIn_r _ [19, 20, 21] (by decide +kernel) (by decide +kernel)) (goodIn_sub (fun _ h => List.mem_cons_of_mem _ (List.mem_append_left _ (List.mem_append_left _ (List.mem_append_right _ h)))) (by decide +kernel))
set_option maxRecDepth 20000 in
theorem gX4_giveTokens_X4_needIndex : GoodIn wsX4_giveTokens (va_wsS RX4 69 yX4_needIndex wsX4_needIndex) := goodIn_app (goodIn_of _ (by decide +kernel)) ggX4_giveTokens_X4_needIndex
set_option maxRecDepth 20000 in
theorem ggX4_giveTokens_X4_isWithin : GoodIn wsX4_giveTokens wsX4_isWithin := goodIn_r _ [24] (by decide +kernel) (by decide +kernel)
set_option maxRecDepth 20000 in
theorem gX4_giveTokens_X4_isWithin : GoodIn wsX4_giveTokens (va_wsS RX4 37 yX4_isWithin wsX4_isWithin) := goodIn_app (goodIn_of _ (by decide +kernel)) ggX4_giveTokens_X4_isWithin
set_option maxRecDepth 20000 in
theorem ggX4_giveTokens_X4_needArgument : GoodIn wsX4_giveTokens wsX4_needArgument := goodIn_ca (goodIn_r _ [27, 28, 29] (by decide +kernel) (by decide +kernel)) (goodIn_sub (fun _ h => List.mem_cons_of_mem _ (List.mem_append_left _ (List.mem_append_right _ h))) (by decide +kernel))
set_option maxRecDepth 20000 in
theorem gX4_giveTokens_X4_needArgument : GoodIn wsX4_giveTokens (va_wsS RX4 41 yX4_needArgument wsX4_needArgument) := goodIn_app (goodIn_of _ (by decide +kernel)) ggX4_giveTokens_X4_needArgument
set_option maxRecDepth 20000 in
theorem ggX4_giveTokens_X4_needState : GoodIn wsX4_giveTokens wsX4_needState := goodIn_ca (goodIn_r _ [32, 33, 34] (by decide +kernel) (by decide +kernel)) (goodIn_sub (fun _ h => List.mem_cons_of_mem _ (List.mem_append_right _ h)) (by decide +kernel))
set_option maxRecDepth 20000 in
theorem gX4_giveTokens_X4_needState : GoodIn wsX4_giveTokens (va_wsS RX4 55 yX4_needState wsX4_needState) := goodIn_app (goodIn_of _ (by decide +kernel)) ggX4_giveTokens_X4_needState
set_option maxRecDepth 20000 in
theorem ggX4_giveTokens_X4_saveState : GoodIn wsX4_giveTokens wsX4_saveState := goodIn_r _ [38, 39, 40, 1, 41, 42, 43, 6, 44, 8, 9, 45, 46, 47, 48, 49, 50, 51, 52, 53, 54, 55, 56, 57, 58, 59, 60, 61, 62, 63, 13, 64, 15, 65, 66, 67, 68, 69, 70, 71, 72, 73, 74, 75, 82, 83, 84, 85, 86, 87, 88, 89, 90, 91, 92, 93, 94, 95, 76, 77, 78, 79, 80, 81] (by decide +kernel) (by decide +kernel)
set_option maxRecDepth 20000 in
theorem gX4_giveTokens_X4_saveState : GoodIn wsX4_giveTokens (wsV RX4 58 RX4 yX4_saveState wsX4_saveState) := goodIn_app (goodIn_of _ (by decide +kernel)) ggX4_giveTokens_X4_saveState
theorem dX4_giveTokens_0 : decode cX4_giveTokens 0 = .ok (.aload_n 0, 1) := by decide +kernel
theorem dX4_giveTokens_1 : decode cX4_giveTokens 1 = .ok (.getfield 12, 3) := by decide +kernel
theorem dX4_giveTokens_4 : decode cX4_giveTokens 4 = .ok (.iload_n 1, 1) := by decide +kernel
theorem dX4_giveTokens_5 : decode cX4_giveTokens 5 = .ok (.invokevirtual 45, 3) := by decide +kernel
theorem dX4_giveTokens_8 : decode cX4_giveTokens 8 = .ok (.astore 4, 2) := by decide +kernel
theorem dX4_giveTokens_10 : decode cX4_giveTokens 10 = .ok (.aload 4, 2) := by decide +kernel
theorem dX4_giveTokens_12 : decode cX4_giveTokens 12 = .ok (.iload_n 2, 1) := by decide +kernel
theorem dX4_giveTokens_13 : decode cX4_giveTokens 13 = .ok (.invokevirtual 65, 3) := by decide +kernel
theorem dX4_giveTokens_16 : decode cX4_giveTokens 16 = .ok (.invokestatic 69, 3) := by decide +kernel
theorem dX4_giveTokens_19 : decode cX4_giveTokens 19 = .ok (.iload_n 3, 1) := by decide +kernel
theorem dX4_giveTokens_20 : decode cX4_giveTokens 20 = .ok (.bipush (-99), 2) := by decide +kernel
theorem dX4_giveTokens_22 : decode cX4_giveTokens 22 = .ok (.bipush 99, 2) := by decide +kernel
theorem dX4_giveTokens_24 : decode cX4_giveTokens 24 = .ok (.invokestatic 37, 3) := by decide +kernel
theorem dX4_giveTokens_27 : decode cX4_giveTokens 27 = .ok (.invokestatic 41, 3) := by decide +kernel
theorem dX4_giveTokens_30 : decode cX4_giveTokens 30 = .ok (.aload 4, 2) := by decide +kernel
theorem dX4_giveTokens_32 : decode cX4_giveTokens 32 = .ok (.getfield 72, 3) := by decide +kernel
theorem dX4_giveTokens_35 : decode cX4_giveTokens 35 = .ok (.iload_n 2, 1) := by decide +kernel
theorem dX4_giveTokens_36 : decode cX4_giveTokens 36 = .ok (.iaload, 1) := by decide +kernel
theorem dX4_giveTokens_37 : decode cX4_giveTokens 37 = .ok (.iload_n 3, 1) := by decide +kernel
theorem dX4_giveTokens_38 : decode cX4_giveTokens 38 = .ok (.iadd, 1) := by decide +kernel
theorem dX4_giveTokens_39 : decode cX4_giveTokens 39 = .ok (.istore 5, 2) := by decide +kernel
theorem dX4_giveTokens_41 : decode cX4_giveTokens 41 = .ok (.iload 5, 2) := by decide +kernel
theorem dX4_giveTokens_43 : decode cX4_giveTokens 43 = .ok (.iconst 0, 1) := by decide +kernel
theorem dX4_giveTokens_44 : decode cX4_giveTokens 44 = .ok (.bipush 99, 2) := by decide +kernel
theorem dX4_giveTokens_46 : decode cX4_giveTokens 46 = .ok (.invokestatic 37, 3) := by decide +kernel
theorem dX4_giveTokens_49 : decode cX4_giveTokens 49 = .ok (.invokestatic 55, 3) := by decide +kernel
theorem dX4_giveTokens_52 : decode cX4_giveTokens 52 = .ok (.aload_n 0, 1) := by decide +kernel
theorem dX4_giveTokens_53 : decode cX4_giveTokens 53 = .ok (.invokevirtual 58, 3) := by decide +kernel
theorem dX4_giveTokens_56 : decode cX4_giveTokens 56 = .ok (.aload 4, 2) := by decide +kernel
theorem dX4_giveTokens_58 : decode cX4_giveTokens 58 = .ok (.getfield 72, 3) := by decide +kernel
theorem dX4_giveTokens_61 : decode cX4_giveTokens 61 = .ok (.iload_n 2, 1) := by decide +kernel
theorem dX4_giveTokens_62 : decode cX4_giveTokens 62 = .ok (.iload 5, 2) := by decide +kernel
theorem dX4_giveTokens_64 : decode cX4_giveTokens 64 = .ok (.iastore, 1) := by decide +kernel
theorem dX4_giveTokens_65 : decode cX4_giveTokens 65 = .ok (.iload 5, 2) := by decide +kernel
theorem dX4_giveTokens_67 : decode cX4_giveTokens 67 = .ok (.ireturn, 1) := by decide +kernel
set_option maxRecDepth 20000 in
theorem ggX4_setHere_X3_side : GoodIn wsX4_setHere wsX3_side := goodIn_r _ [7, 8, 9, 72, 73, 74, 75, 76, 77, 78, 79, 80, 81, 82, 83, 84, 85] (by decide +kernel) (by decide +kernel)
set_option maxRecDepth 20000 in
theorem gX4_setHere_X3_side : GoodIn wsX4_setHere (wsV RX4 45 RX3 yX3_side wsX3_side) := goodIn_app (goodIn_of _ (by decide +kernel)) ggX4_setHere_X3_side
set_option maxRecDepth 20000 in
theorem ggX4_setHere_X2_has : GoodIn wsX4_setHere wsX2_has := goodIn_r _ [14, 15, 66, 67, 68, 69, 70, 71] (by decide +kernel) (by decide +kernel)
set_option maxRecDepth 20000 in
theorem gX4_setHere_X2_has : GoodIn wsX4_setHere (wsV RX4 65 RX2 yX2_has wsX2_has) := goodIn_app (goodIn_of _ (by decide +kernel)) ggX4_setHere_X2_has
set_option maxRecDepth 20000 in
theorem ggX4_setHere_X4_needIndex : GoodIn wsX4_setHere wsX4_needIndex := goodIn_ca (goodIn_r _ [19, 20, 21] (by decide +kernel) (by decide +kernel)) (goodIn_sub (fun _ h => List.mem_cons_of_mem _ (List.mem_append_right _ h)) (by decide +kernel))
set_option maxRecDepth 20000 in
theorem gX4_setHere_X4_needIndex : GoodIn wsX4_setHere (va_wsS RX4 69 yX4_needIndex wsX4_needIndex) := goodIn_app (goodIn_of _ (by decide +kernel)) ggX4_setHere_X4_needIndex
set_option maxRecDepth 20000 in
theorem ggX4_setHere_X4_saveState : GoodIn wsX4_setHere wsX4_saveState := goodIn_r _ [25, 26, 27, 1, 28, 29, 30, 6, 31, 8, 9, 32, 33, 34, 35, 36, 37, 38, 39, 40, 41, 42, 43, 44, 45, 46, 47, 48, 49, 50, 13, 51, 15, 52, 53, 54, 55, 56, 60, 61, 62, 63, 64, 65, 72, 73, 74, 75, 76, 77, 78, 79, 80, 81, 82, 83, 84, 85, 66, 67, 68, 69, 70, 71] (by decide +kernel) (by decide +kernel)
set_option maxRecDepth 20000 in
theorem gX4_setHere_X4_saveState : GoodIn wsX4_setHere (wsV RX4 58 RX4 yX4_saveState wsX4_saveState) := goodIn_app (goodIn_of _ (by decide +kernel)) ggX4_setHere_X4_saveState
set_option maxRecDepth 20000 in
theorem ggX4_setHere_X4_oneIf : GoodIn wsX4_setHere wsX4_oneIf := goodIn_r _ [59] (by decide +kernel) (by decide +kernel)
set_option maxRecDepth 20000 in
theorem gX4_setHere_X4_oneIf : GoodIn wsX4_setHere (va_wsS RX4 80 yX4_oneIf wsX4_oneIf) := goodIn_app (goodIn_of _ (by decide +kernel)) ggX4_setHere_X4_oneIf
theorem dX4_setHere_0 : decode cX4_setHere 0 = .ok (.aload_n 0, 1) := by decide +kernel
theorem dX4_setHere_1 : decode cX4_setHere 1 = .ok (.getfield 12, 3) := by decide +kernel
theorem dX4_setHere_4 : decode cX4_setHere 4 = .ok (.iload_n 1, 1) := by decide +kernel
theorem dX4_setHere_5 : decode cX4_setHere 5 = .ok (.invokevirtual 45, 3) := by decide +kernel
theorem dX4_setHere_8 : decode cX4_setHere 8 = .ok (.astore 4, 2) := by decide +kernel
theorem dX4_setHere_10 : decode cX4_setHere 10 = .ok (.aload 4, 2) := by decide +kernel
theorem dX4_setHere_12 : decode cX4_setHere 12 = .ok (.iload_n 2, 1) := by decide +kernel
theorem dX4_setHere_13 : decode cX4_setHere 13 = .ok (.invokevirtual 65, 3) := by decide +kernel
theorem dX4_setHere_16 : decode cX4_setHere 16 = .ok (.invokestatic 69, 3) := by decide +kernel
theorem dX4_setHere_19 : decode cX4_setHere 19 = .ok (.aload_n 0, 1) := by decide +kernel
theorem dX4_setHere_20 : decode cX4_setHere 20 = .ok (.invokevirtual 58, 3) := by decide +kernel
theorem dX4_setHere_23 : decode cX4_setHere 23 = .ok (.aload 4, 2) := by decide +kernel
theorem dX4_setHere_25 : decode cX4_setHere 25 = .ok (.getfield 76, 3) := by decide +kernel
theorem dX4_setHere_28 : decode cX4_setHere 28 = .ok (.iload_n 2, 1) := by decide +kernel
theorem dX4_setHere_29 : decode cX4_setHere 29 = .ok (.baload, 1) := by decide +kernel
theorem dX4_setHere_30 : decode cX4_setHere 30 = .ok (.invokestatic 80, 3) := by decide +kernel
theorem dX4_setHere_33 : decode cX4_setHere 33 = .ok (.istore 5, 2) := by decide +kernel
theorem dX4_setHere_35 : decode cX4_setHere 35 = .ok (.aload 4, 2) := by decide +kernel
theorem dX4_setHere_37 : decode cX4_setHere 37 = .ok (.getfield 76, 3) := by decide +kernel
theorem dX4_setHere_40 : decode cX4_setHere 40 = .ok (.iload_n 2, 1) := by decide +kernel
theorem dX4_setHere_41 : decode cX4_setHere 41 = .ok (.iload_n 3, 1) := by decide +kernel
theorem dX4_setHere_42 : decode cX4_setHere 42 = .ok (.bastore, 1) := by decide +kernel
theorem dX4_setHere_43 : decode cX4_setHere 43 = .ok (.iload 5, 2) := by decide +kernel
theorem dX4_setHere_45 : decode cX4_setHere 45 = .ok (.ireturn, 1) := by decide +kernel
set_option maxRecDepth 20000 in
theorem ggX4_setShoes_X4_isWithin : GoodIn wsX4_setShoes wsX4_isWithin := goodIn_r _ [6] (by decide +kernel) (by decide +kernel)
set_option maxRecDepth 20000 in
theorem gX4_setShoes_X4_isWithin : GoodIn wsX4_setShoes (va_wsS RX4 37 yX4_isWithin wsX4_isWithin) := goodIn_app (goodIn_of _ (by decide +kernel)) ggX4_setShoes_X4_isWithin
set_option maxRecDepth 20000 in
theorem ggX4_setShoes_X4_needIndex : GoodIn wsX4_setShoes wsX4_needIndex := goodIn_ca (goodIn_r _ [9, 10, 11] (by decide +kernel) (by decide +kernel)) (goodIn_sub (fun _ h => List.mem_cons_of_mem _ (List.mem_append_left _ (List.mem_append_right _ h))) (by decide +kernel))
set_option maxRecDepth 20000 in
theorem gX4_setShoes_X4_needIndex : GoodIn wsX4_setShoes (va_wsS RX4 69 yX4_needIndex wsX4_needIndex) := goodIn_app (goodIn_of _ (by decide +kernel)) ggX4_setShoes_X4_needIndex
set_option maxRecDepth 20000 in
theorem ggX4_setShoes_X4_needArgument : GoodIn wsX4_setShoes wsX4_needArgument := goodIn_ca (goodIn_r _ [14, 15, 16] (by decide +kernel) (by decide +kernel)) (goodIn_sub (fun _ h => List.mem_cons_of_mem _ (List.mem_append_right _ h)) (by decide +kernel))
set_option maxRecDepth 20000 in
theorem gX4_setShoes_X4_needArgument : GoodIn wsX4_setShoes (va_wsS RX4 41 yX4_needArgument wsX4_needArgument) := goodIn_app (goodIn_of _ (by decide +kernel)) ggX4_setShoes_X4_needArgument
set_option maxRecDepth 20000 in
theorem ggX4_setShoes_X4_saveState : GoodIn wsX4_setShoes wsX4_saveState := goodIn_r _ [20, 21, 22, 1, 23, 24, 25, 26, 27, 28, 29, 30, 31, 32, 33, 34, 35, 36, 37, 38, 39, 40, 41, 42, 43, 44, 45, 46, 47, 48, 49, 50, 51, 52, 53, 54, 55, 56, 57, 58, 59, 60, 61, 62, 63, 64, 65, 66, 67, 68, 69, 70, 71, 72, 73, 74, 75, 76, 77, 78, 79, 80, 81, 82] (by decide +kernel) (by decide +kernel)
set_option maxRecDepth 20000 in
theorem gX4_setShoes_X4_saveState : GoodIn wsX4_setShoes (wsV RX4 58 RX4 yX4_saveState wsX4_saveState) := goodIn_app (goodIn_of _ (by decide +kernel)) ggX4_setShoes_X4_saveState
theorem dX4_setShoes_0 : decode cX4_setShoes 0 = .ok (.iload_n 1, 1) := by decide +kernel
theorem dX4_setShoes_1 : decode cX4_setShoes 1 = .ok (.iconst 1, 1) := by decide +kernel
theorem dX4_setShoes_2 : decode cX4_setShoes 2 = .ok (.bipush 9, 2) := by decide +kernel
theorem dX4_setShoes_4 : decode cX4_setShoes 4 = .ok (.invokestatic 37, 3) := by decide +kernel
theorem dX4_setShoes_7 : decode cX4_setShoes 7 = .ok (.invokestatic 69, 3) := by decide +kernel
theorem dX4_setShoes_10 : decode cX4_setShoes 10 = .ok (.iload_n 2, 1) := by decide +kernel
theorem dX4_setShoes_11 : decode cX4_setShoes 11 = .ok (.iconst 0, 1) := by decide +kernel
theorem dX4_setShoes_12 : decode cX4_setShoes 12 = .ok (.bipush 9, 2) := by decide +kernel
theorem dX4_setShoes_14 : decode cX4_setShoes 14 = .ok (.invokestatic 37, 3) := by decide +kernel
theorem dX4_setShoes_17 : decode cX4_setShoes 17 = .ok (.invokestatic 41, 3) := by decide +kernel
theorem dX4_setShoes_20 : decode cX4_setShoes 20 = .ok (.aload_n 0, 1) := by decide +kernel
theorem dX4_setShoes_21 : decode cX4_setShoes 21 = .ok (.invokevirtual 58, 3) := by decide +kernel
theorem dX4_setShoes_24 : decode cX4_setShoes 24 = .ok (.aload_n 0, 1) := by decide +kernel
theorem dX4_setShoes_25 : decode cX4_setShoes 25 = .ok (.getfield 12, 3) := by decide +kernel
theorem dX4_setShoes_28 : decode cX4_setShoes 28 = .ok (.getfield 84, 3) := by decide +kernel
theorem dX4_setShoes_31 : decode cX4_setShoes 31 = .ok (.iload_n 1, 1) := by decide +kernel
theorem dX4_setShoes_32 : decode cX4_setShoes 32 = .ok (.iaload, 1) := by decide +kernel
theorem dX4_setShoes_33 : decode cX4_setShoes 33 = .ok (.istore_n 3, 1) := by decide +kernel
theorem dX4_setShoes_34 : decode cX4_setShoes 34 = .ok (.aload_n 0, 1) := by decide +kernel
theorem dX4_setShoes_35 : decode cX4_setShoes 35 = .ok (.getfield 12, 3) := by decide +kernel
theorem dX4_setShoes_38 : decode cX4_setShoes 38 = .ok (.getfield 84, 3) := by decide +kernel
theorem dX4_setShoes_41 : decode cX4_setShoes 41 = .ok (.iload_n 1, 1) := by decide +kernel
theorem dX4_setShoes_42 : decode cX4_setShoes 42 = .ok (.iload_n 2, 1) := by decide +kernel
theorem dX4_setShoes_43 : decode cX4_setShoes 43 = .ok (.iastore, 1) := by decide +kernel
theorem dX4_setShoes_44 : decode cX4_setShoes 44 = .ok (.iload_n 3, 1) := by decide +kernel
theorem dX4_setShoes_45 : decode cX4_setShoes 45 = .ok (.ireturn, 1) := by decide +kernel
set_option maxRecDepth 20000 in
theorem ggX4_setLamps_X4_isWithin : GoodIn wsX4_setLamps wsX4_isWithin := goodIn_r _ [7] (by decide +kernel) (by decide +kernel)
set_option maxRecDepth 20000 in
theorem gX4_setLamps_X4_isWithin : GoodIn wsX4_setLamps (va_wsS RX4 37 yX4_isWithin wsX4_isWithin) := goodIn_app (goodIn_of _ (by decide +kernel)) ggX4_setLamps_X4_isWithin
set_option maxRecDepth 20000 in
theorem ggX4_setLamps_X4_needArgument : GoodIn wsX4_setLamps wsX4_needArgument := goodIn_ca (goodIn_r _ [10, 11, 12] (by decide +kernel) (by decide +kernel)) (goodIn_sub (fun _ h => List.mem_cons_of_mem _ (List.mem_append_right _ h)) (by decide +kernel))
set_option maxRecDepth 20000 in
theorem gX4_setLamps_X4_needArgument : GoodIn wsX4_setLamps (va_wsS RX4 41 yX4_needArgument wsX4_needArgument) := goodIn_app (goodIn_of _ (by decide +kernel)) ggX4_setLamps_X4_needArgument
set_option maxRecDepth 20000 in
theorem ggX4_setLamps_X4_saveState : GoodIn wsX4_setLamps wsX4_saveState := goodIn_r _ [16, 17, 18, 1, 19, 20, 21, 22, 23, 24, 25, 26, 27, 28, 29, 30, 31, 32, 33, 34, 35, 36, 37, 38, 39, 40, 41, 42, 43, 44, 45, 46, 47, 48, 49, 50, 51, 52, 53, 54, 55, 56, 57, 58, 59, 60, 61, 62, 63, 64, 65, 66, 67, 68, 69, 70, 71, 72, 73, 74, 75, 76, 77, 78] (by decide +kernel) (by decide +kernel)
set_option maxRecDepth 20000 in
theorem gX4_setLamps_X4_saveState : GoodIn wsX4_setLamps (wsV RX4 58 RX4 yX4_saveState wsX4_saveState) := goodIn_app (goodIn_of _ (by decide +kernel)) ggX4_setLamps_X4_saveState
theorem dX4_setLamps_0 : decode cX4_setLamps 0 = .ok (.iload_n 1, 1) := by decide +kernel
theorem dX4_setLamps_1 : decode cX4_setLamps 1 = .ok (.iconst 1, 1) := by decide +kernel
theorem dX4_setLamps_2 : decode cX4_setLamps 2 = .ok (.bipush 6, 2) := by decide +kernel
theorem dX4_setLamps_4 : decode cX4_setLamps 4 = .ok (.invokestatic 37, 3) := by decide +kernel
theorem dX4_setLamps_7 : decode cX4_setLamps 7 = .ok (.ifCond .eq 18, 3) := by decide +kernel
theorem dX4_setLamps_10 : decode cX4_setLamps 10 = .ok (.iload_n 2, 1) := by decide +kernel
theorem dX4_setLamps_11 : decode cX4_setLamps 11 = .ok (.iconst 0, 1) := by decide +kernel
theorem dX4_setLamps_12 : decode cX4_setLamps 12 = .ok (.sipush 999, 3) := by decide +kernel
theorem dX4_setLamps_15 : decode cX4_setLamps 15 = .ok (.invokestatic 37, 3) := by decide +kernel
theorem dX4_setLamps_18 : decode cX4_setLamps 18 = .ok (.ifCond .eq 7, 3) := by decide +kernel
theorem dX4_setLamps_21 : decode cX4_setLamps 21 = .ok (.iconst 1, 1) := by decide +kernel
theorem dX4_setLamps_22 : decode cX4_setLamps 22 = .ok (.goto 4, 3) := by decide +kernel
theorem dX4_setLamps_25 : decode cX4_setLamps 25 = .ok (.iconst 0, 1) := by decide +kernel
theorem dX4_setLamps_26 : decode cX4_setLamps 26 = .ok (.invokestatic 41, 3) := by decide +kernel
theorem dX4_setLamps_29 : decode cX4_setLamps 29 = .ok (.aload_n 0, 1) := by decide +kernel
theorem dX4_setLamps_30 : decode cX4_setLamps 30 = .ok (.invokevirtual 58, 3) := by decide +kernel
theorem dX4_setLamps_33 : decode cX4_setLamps 33 = .ok (.aload_n 0, 1) := by decide +kernel
theorem dX4_setLamps_34 : decode cX4_setLamps 34 = .ok (.getfield 12, 3) := by decide +kernel
theorem dX4_setLamps_37 : decode cX4_setLamps 37 = .ok (.getfield 87, 3) := by decide +kernel
theorem dX4_setLamps_40 : decode cX4_setLamps 40 = .ok (.istore_n 3, 1) := by decide +kernel
theorem dX4_setLamps_41 : decode cX4_setLamps 41 = .ok (.aload_n 0, 1) := by decide +kernel
theorem dX4_setLamps_42 : decode cX4_setLamps 42 = .ok (.getfield 12, 3) := by decide +kernel
theorem dX4_setLamps_45 : decode cX4_setLamps 45 = .ok (.iload_n 1, 1) := by decide +kernel
theorem dX4_setLamps_46 : decode cX4_setLamps 46 = .ok (.putfield 91, 3) := by decide +kernel
theorem dX4_setLamps_49 : decode cX4_setLamps 49 = .ok (.aload_n 0, 1) := by decide +kernel
theorem dX4_setLamps_50 : decode cX4_setLamps 50 = .ok (.getfield 12, 3) := by decide +kernel
theorem dX4_setLamps_53 : decode cX4_setLamps 53 = .ok (.iload_n 2, 1) := by decide +kernel
theorem dX4_setLamps_54 : decode cX4_setLamps 54 = .ok (.putfield 87, 3) := by decide +kernel
theorem dX4_setLamps_57 : decode cX4_setLamps 57 = .ok (.iload_n 3, 1) := by decide +kernel
theorem dX4_setLamps_58 : decode cX4_setLamps 58 = .ok (.ireturn, 1) := by decide +kernel
set_option maxRecDepth 20000 in
theorem ggX4_setFiddlers_X4_isWithin : GoodIn wsX4_setFiddlers wsX4_isWithin := goodIn_r _ [7] (by decide +kernel) (by decide +kernel)
set_option maxRecDepth 20000 in
theorem gX4_setFiddlers_X4_isWithin : GoodIn wsX4_setFiddlers (va_wsS RX4 37 yX4_isWithin wsX4_isWithin) := goodIn_app (goodIn_of _ (by decide +kernel)) ggX4_setFiddlers_X4_isWithin
set_option maxRecDepth 20000 in
theorem ggX4_setFiddlers_X4_needArgument : GoodIn wsX4_setFiddlers wsX4_needArgument := goodIn_ca (goodIn_r _ [10, 11, 12] (by decide +kernel) (by decide +kernel)) (goodIn_sub (fun _ h => List.mem_cons_of_mem _ (List.mem_append_right _ h)) (by decide +kernel))
set_option maxRecDepth 20000 in
theorem gX4_setFiddlers_X4_needArgument : GoodIn wsX4_setFiddlers (va_wsS RX4 41 yX4_needArgument wsX4_needArgument) := goodIn_app (goodIn_of _ (by decide +kernel)) ggX4_setFiddlers_X4_needArgument
set_option maxRecDepth 20000 in
theorem ggX4_setFiddlers_X4_saveState : GoodIn wsX4_setFiddlers wsX4_saveState := goodIn_r _ [16, 17, 18, 1, 19, 20, 21, 22, 23, 24, 25, 26, 27, 28, 29, 30, 31, 32, 33, 34, 35, 36, 37, 38, 39, 40, 41, 42, 43, 44, 45, 46, 47, 48, 49, 50, 51, 52, 57, 58, 59, 60, 61, 62, 63, 64, 65, 66, 67, 68, 69, 70, 71, 72, 73, 74, 75, 76, 77, 78, 79, 80, 81, 82] (by decide +kernel) (by decide +kernel)
set_option maxRecDepth 20000 in
theorem gX4_setFiddlers_X4_saveState : GoodIn wsX4_setFiddlers (wsV RX4 58 RX4 yX4_saveState wsX4_saveState) := goodIn_app (goodIn_of _ (by decide +kernel)) ggX4_setFiddlers_X4_saveState
set_option maxRecDepth 20000 in
theorem ggX4_setFiddlers_J7_fill_53178 : GoodIn wsX4_setFiddlers wsJ7_fill_53178 := goodIn_r _ [56] (by decide +kernel) (by decide +kernel)
set_option maxRecDepth 20000 in
theorem gX4_setFiddlers_J7_fill_53178 : GoodIn wsX4_setFiddlers (va_wsS RX4 100 yJ7_fill_53178 wsJ7_fill_53178) := goodIn_app (goodIn_of _ (by decide +kernel)) ggX4_setFiddlers_J7_fill_53178
theorem dX4_setFiddlers_0 : decode cX4_setFiddlers 0 = .ok (.iload_n 1, 1) := by decide +kernel
theorem dX4_setFiddlers_1 : decode cX4_setFiddlers 1 = .ok (.iconst 1, 1) := by decide +kernel
theorem dX4_setFiddlers_2 : decode cX4_setFiddlers 2 = .ok (.iconst 4, 1) := by decide +kernel
theorem dX4_setFiddlers_3 : decode cX4_setFiddlers 3 = .ok (.invokestatic 37, 3) := by decide +kernel
theorem dX4_setFiddlers_6 : decode cX4_setFiddlers 6 = .ok (.invokestatic 41, 3) := by decide +kernel
theorem dX4_setFiddlers_9 : decode cX4_setFiddlers 9 = .ok (.aload_n 0, 1) := by decide +kernel
theorem dX4_setFiddlers_10 : decode cX4_setFiddlers 10 = .ok (.invokevirtual 58, 3) := by decide +kernel
theorem dX4_setFiddlers_13 : decode cX4_setFiddlers 13 = .ok (.aload_n 0, 1) := by decide +kernel
theorem dX4_setFiddlers_14 : decode cX4_setFiddlers 14 = .ok (.getfield 12, 3) := by decide +kernel
theorem dX4_setFiddlers_17 : decode cX4_setFiddlers 17 = .ok (.getfield 94, 3) := by decide +kernel
theorem dX4_setFiddlers_20 : decode cX4_setFiddlers 20 = .ok (.istore_n 2, 1) := by decide +kernel
theorem dX4_setFiddlers_21 : decode cX4_setFiddlers 21 = .ok (.aload_n 0, 1) := by decide +kernel
theorem dX4_setFiddlers_22 : decode cX4_setFiddlers 22 = .ok (.getfield 12, 3) := by decide +kernel
theorem dX4_setFiddlers_25 : decode cX4_setFiddlers 25 = .ok (.iload_n 1, 1) := by decide +kernel
theorem dX4_setFiddlers_26 : decode cX4_setFiddlers 26 = .ok (.putfield 94, 3) := by decide +kernel
theorem dX4_setFiddlers_29 : decode cX4_setFiddlers 29 = .ok (.aload_n 0, 1) := by decide +kernel
theorem dX4_setFiddlers_30 : decode cX4_setFiddlers 30 = .ok (.getfield 12, 3) := by decide +kernel
theorem dX4_setFiddlers_33 : decode cX4_setFiddlers 33 = .ok (.getfield 97, 3) := by decide +kernel
theorem dX4_setFiddlers_36 : decode cX4_setFiddlers 36 = .ok (.iconst 1, 1) := by decide +kernel
theorem dX4_setFiddlers_37 : decode cX4_setFiddlers 37 = .ok (.invokestatic 100, 3) := by decide +kernel
theorem dX4_setFiddlers_40 : decode cX4_setFiddlers 40 = .ok (.iload_n 2, 1) := by decide +kernel
theorem dX4_setFiddlers_41 : decode cX4_setFiddlers 41 = .ok (.ireturn, 1) := by decide +kernel
set_option maxRecDepth 20000 in
theorem ggX4_setPart_X3_hasFiddler : GoodIn wsX4_setPart wsX3_hasFiddler := goodIn_r _ [7, 8, 67, 68, 69, 70, 71, 72, 73, 74, 75, 76, 77, 78, 79, 80] (by decide +kernel) (by decide +kernel)
set_option maxRecDepth 20000 in
theorem gX4_setPart_X3_hasFiddler : GoodIn wsX4_setPart (wsV RX4 106 RX3 yX3_hasFiddler wsX3_hasFiddler) := goodIn_app (goodIn_of _ (by decide +kernel)) ggX4_setPart_X3_hasFiddler
set_option maxRecDepth 20000 in
theorem ggX4_setPart_X4_needIndex : GoodIn wsX4_setPart wsX4_needIndex := goodIn_ca (goodIn_r _ [12, 13, 14] (by decide +kernel) (by decide +kernel)) (goodIn_sub (fun _ h => List.mem_cons_of_mem _ (List.mem_append_left _ (List.mem_append_right _ h))) (by decide +kernel))
set_option maxRecDepth 20000 in
theorem gX4_setPart_X4_needIndex : GoodIn wsX4_setPart (va_wsS RX4 69 yX4_needIndex wsX4_needIndex) := goodIn_app (goodIn_of _ (by decide +kernel)) ggX4_setPart_X4_needIndex
set_option maxRecDepth 20000 in
theorem ggX4_setPart_X4_isWithin : GoodIn wsX4_setPart wsX4_isWithin := goodIn_r _ [17] (by decide +kernel) (by decide +kernel)
set_option maxRecDepth 20000 in
theorem gX4_setPart_X4_isWithin : GoodIn wsX4_setPart (va_wsS RX4 37 yX4_isWithin wsX4_isWithin) := goodIn_app (goodIn_of _ (by decide +kernel)) ggX4_setPart_X4_isWithin
set_option maxRecDepth 20000 in
theorem ggX4_setPart_X4_needArgument : GoodIn wsX4_setPart wsX4_needArgument := goodIn_ca (goodIn_r _ [20, 21, 22] (by decide +kernel) (by decide +kernel)) (goodIn_sub (fun _ h => List.mem_cons_of_mem _ (List.mem_append_right _ h)) (by decide +kernel))
set_option maxRecDepth 20000 in
theorem gX4_setPart_X4_needArgument : GoodIn wsX4_setPart (va_wsS RX4 41 yX4_needArgument wsX4_needArgument) := goodIn_app (goodIn_of _ (by decide +kernel)) ggX4_setPart_X4_needArgument
set_option maxRecDepth 20000 in
theorem ggX4_setPart_X4_saveState : GoodIn wsX4_setPart wsX4_saveState := goodIn_r _ [26, 27, 28, 1, 29, 30, 31, 6, 32, 33, 34, 35, 36, 37, 38, 39, 40, 41, 42, 8, 43, 44, 45, 46, 47, 48, 49, 50, 51, 52, 53, 54, 55, 56, 57, 58, 59, 60, 61, 62, 63, 64, 65, 66, 67, 68, 69, 70, 71, 72, 73, 74, 75, 76, 77, 78, 79, 80, 81, 82, 83, 84, 85, 86] (by decide +kernel) (by decide +kernel)
set_option maxRecDepth 20000 in
theorem gX4_setPart_X4_saveState : GoodIn wsX4_setPart (wsV RX4 58 RX4 yX4_saveState wsX4_saveState) := goodIn_app (goodIn_of _ (by decide +kernel)) ggX4_setPart_X4_saveState
theorem dX4_setPart_0 : decode cX4_setPart 0 = .ok (.aload_n 0, 1) := by decide +kernel
theorem dX4_setPart_1 : decode cX4_setPart 1 = .ok (.getfield 12, 3) := by decide +kernel
theorem dX4_setPart_4 : decode cX4_setPart 4 = .ok (.iload_n 1, 1) := by decide +kernel
theorem dX4_setPart_5 : decode cX4_setPart 5 = .ok (.invokevirtual 106, 3) := by decide +kernel
theorem dX4_setPart_8 : decode cX4_setPart 8 = .ok (.invokestatic 69, 3) := by decide +kernel
theorem dX4_setPart_11 : decode cX4_setPart 11 = .ok (.iload_n 2, 1) := by decide +kernel
theorem dX4_setPart_12 : decode cX4_setPart 12 = .ok (.iconst 1, 1) := by decide +kernel
theorem dX4_setPart_13 : decode cX4_setPart 13 = .ok (.bipush 9, 2) := by decide +kernel
theorem dX4_setPart_15 : decode cX4_setPart 15 = .ok (.invokestatic 37, 3) := by decide +kernel
theorem dX4_setPart_18 : decode cX4_setPart 18 = .ok (.invokestatic 41, 3) := by decide +kernel
theorem dX4_setPart_21 : decode cX4_setPart 21 = .ok (.aload_n 0, 1) := by decide +kernel
theorem dX4_setPart_22 : decode cX4_setPart 22 = .ok (.invokevirtual 58, 3) := by decide +kernel
theorem dX4_setPart_25 : decode cX4_setPart 25 = .ok (.aload_n 0, 1) := by decide +kernel
theorem dX4_setPart_26 : decode cX4_setPart 26 = .ok (.getfield 12, 3) := by decide +kernel
theorem dX4_setPart_29 : decode cX4_setPart 29 = .ok (.getfield 97, 3) := by decide +kernel
theorem dX4_setPart_32 : decode cX4_setPart 32 = .ok (.iload_n 1, 1) := by decide +kernel
theorem dX4_setPart_33 : decode cX4_setPart 33 = .ok (.iaload, 1) := by decide +kernel
theorem dX4_setPart_34 : decode cX4_setPart 34 = .ok (.istore_n 3, 1) := by decide +kernel
theorem dX4_setPart_35 : decode cX4_setPart 35 = .ok (.aload_n 0, 1) := by decide +kernel
theorem dX4_setPart_36 : decode cX4_setPart 36 = .ok (.getfield 12, 3) := by decide +kernel
theorem dX4_setPart_39 : decode cX4_setPart 39 = .ok (.getfield 97, 3) := by decide +kernel
theorem dX4_setPart_42 : decode cX4_setPart 42 = .ok (.iload_n 1, 1) := by decide +kernel
theorem dX4_setPart_43 : decode cX4_setPart 43 = .ok (.iload_n 2, 1) := by decide +kernel
theorem dX4_setPart_44 : decode cX4_setPart 44 = .ok (.iastore, 1) := by decide +kernel
theorem dX4_setPart_45 : decode cX4_setPart 45 = .ok (.iload_n 3, 1) := by decide +kernel
theorem dX4_setPart_46 : decode cX4_setPart 46 = .ok (.ireturn, 1) := by decide +kernel
set_option maxRecDepth 20000 in
theorem ggX4_dance_X3_isDancePossible : GoodIn wsX4_dance wsX3_isDancePossible := goodIn_r _ [7, 8, 9, 10, 11, 12, 6, 13, 14, 15, 16, 17, 18, 144, 145, 146, 147, 148, 149, 150, 151, 152, 153, 154, 155, 156, 157] (by decide +kernel) (by decide +kernel)
set_option maxRecDepth 20000 in
theorem gX4_dance_X3_isDancePossible : GoodIn wsX4_dance (wsV RX4 109 RX3 yX3_isDancePossible wsX3_isDancePossible) := goodIn_app (goodIn_of _ (by decide +kernel)) ggX4_dance_X3_isDancePossible
set_option maxRecDepth 20000 in
theorem ggX4_dance_X4_needState : GoodIn wsX4_dance wsX4_needState := goodIn_ca (goodIn_r _ [22, 23, 24] (by decide +kernel) (by decide +kernel)) (goodIn_sub (fun _ h => List.mem_cons_of_mem _ (List.mem_append_right _ h)) (by decide +kernel))
set_option maxRecDepth 20000 in
theorem gX4_dance_X4_needState : GoodIn wsX4_dance (va_wsS RX4 55 yX4_needState wsX4_needState) := goodIn_app (goodIn_of _ (by decide +kernel)) ggX4_dance_X4_needState
set_option maxRecDepth 20000 in
theorem ggX4_dance_X4_saveState : GoodIn wsX4_dance wsX4_saveState := goodIn_r _ [28, 29, 30, 1, 31, 32, 33, 6, 34, 35, 36, 37, 38, 39, 40, 41, 8, 14, 42, 43, 44, 45, 46, 47, 9, 48, 49, 50, 51, 52, 53, 54, 55, 56, 57, 58, 59, 60, 138, 139, 140, 141, 142, 143, 144, 145, 146, 147, 148, 149, 150, 151, 152, 153, 154, 155, 156, 157, 158, 159, 160, 161, 162, 163] (by decide +kernel) (by decide +kernel)
set_option maxRecDepth 20000 in
theorem gX4_dance_X4_saveState : GoodIn wsX4_dance (wsV RX4 58 RX4 yX4_saveState wsX4_saveState) := goodIn_app (goodIn_of _ (by decide +kernel)) ggX4_dance_X4_saveState
set_option maxRecDepth 20000 in
theorem ggX4_dance_X3_playDance : GoodIn wsX4_dance wsX3_playDance := goodIn_r _ [64, 65, 8, 14, 42, 9, 66, 67, 68, 6, 69, 10, 11, 12, 13, 15, 16, 17, 18, 70, 71, 72, 73, 74, 75, 76, 77, 78, 79, 80, 81, 82, 83, 84, 85, 86, 87, 88, 89, 90, 21, 91, 92, 93, 94, 95, 96, 97, 98, 99, 100, 101, 102, 103, 104, 105, 106, 107, 108, 109, 110, 111, 112, 113, 114, 115, 116, 117, 118, 119, 120, 121, 122, 123, 124, 125, 126, 127, 128, 129, 130, 131, 132, 133, 49, 35, 36, 46, 48, 134, 135, 136, 53, 137, 56, 60, 164, 165, 166, 167, 168, 169, 170, 171, 172, 144, 145, 146, 147, 148, 149, 150, 151, 152, 153, 154, 155, 156, 157, 158, 159, 160, 161, 162, 163] (by decide +kernel) (by decide +kernel)
set_option maxRecDepth 20000 in
theorem gX4_dance_X3_playDance : GoodIn wsX4_dance (wsV RX4 112 RX3 yX3_playDance wsX3_playDance) := goodIn_app (goodIn_of _ (by decide +kernel)) ggX4_dance_X3_playDance
theorem dX4_dance_0 : decode cX4_dance 0 = .ok (.aload_n 0, 1) := by decide +kernel
theorem dX4_dance_1 : decode cX4_dance 1 = .ok (.getfield 12, 3) := by decide +kernel
theorem dX4_dance_4 : decode cX4_dance 4 = .ok (.invokevirtual 109, 3) := by decide +kernel
theorem dX4_dance_7 : decode cX4_dance 7 = .ok (.invokestatic 55, 3) := by decide +kernel
theorem dX4_dance_10 : decode cX4_dance 10 = .ok (.aload_n 0, 1) := by decide +kernel
theorem dX4_dance_11 : decode cX4_dance 11 = .ok (.invokevirtual 58, 3) := by decide +kernel
theorem dX4_dance_14 : decode cX4_dance 14 = .ok (.aload_n 0, 1) := by decide +kernel
theorem dX4_dance_15 : decode cX4_dance 15 = .ok (.getfield 12, 3) := by decide +kernel
theorem dX4_dance_18 : decode cX4_dance 18 = .ok (.aload_n 0, 1) := by decide +kernel
theorem dX4_dance_19 : decode cX4_dance 19 = .ok (.getfield 22, 3) := by decide +kernel
theorem dX4_dance_22 : decode cX4_dance 22 = .ok (.invokevirtual 112, 3) := by decide +kernel
theorem dX4_dance_25 : decode cX4_dance 25 = .ok (.ireturn, 1) := by decide +kernel
set_option maxRecDepth 20000 in
theorem ggX4_danceOn_X4_saveState : GoodIn wsX4_danceOn wsX4_saveState := goodIn_r _ [7, 8, 9, 1, 10, 11, 12, 13, 14, 15, 16, 17, 18, 19, 20, 21, 22, 23, 24, 25, 26, 27, 28, 29, 30, 31, 32, 33, 34, 35, 36, 37, 38, 39, 40, 41, 42, 43, 137, 138, 139, 140, 141, 142, 143, 144, 145, 146, 147, 148, 149, 150, 151, 152, 153, 154, 155, 156, 157, 158, 159, 160, 161, 162] (by decide +kernel) (by decide +kernel)
set_option maxRecDepth 20000 in
theorem gX4_danceOn_X4_saveState : GoodIn wsX4_danceOn (wsV RX4 58 RX4 yX4_saveState wsX4_saveState) := goodIn_app (goodIn_of _ (by decide +kernel)) ggX4_danceOn_X4_saveState
set_option maxRecDepth 20000 in
theorem ggX4_danceOn_X3_playOn : GoodIn wsX4_danceOn wsX3_playOn := goodIn_r _ [47, 48, 49, 50, 13, 51, 22, 30, 52, 53, 54, 55, 23, 56, 57, 58, 59, 60, 61, 62, 63, 64, 24, 65, 66, 67, 68, 69, 70, 71, 72, 73, 74, 75, 76, 77, 78, 79, 80, 81, 82, 83, 84, 85, 86, 87, 88, 89, 6, 90, 91, 92, 93, 94, 95, 96, 97, 98, 99, 100, 101, 102, 103, 104, 105, 106, 107, 108, 109, 110, 111, 112, 113, 114, 115, 116, 117, 118, 119, 120, 121, 122, 123, 124, 125, 126, 127, 128, 129, 130, 131, 132, 32, 15, 16, 28, 31, 133, 134, 135, 36, 136, 39, 43, 143, 144, 145, 146, 147, 148, 149, 150, 151, 152, 153, 154, 155, 156, 163, 164, 165, 166, 167, 168, 169, 170, 171, 157, 158, 159, 160, 161, 162] (by decide +kernel) (by decide +kernel)
set_option maxRecDepth 20000 in
theorem gX4_danceOn_X3_playOn : GoodIn wsX4_danceOn (wsV RX4 116 RX3 yX3_playOn wsX3_playOn) := goodIn_app (goodIn_of _ (by decide +kernel)) ggX4_danceOn_X3_playOn
theorem dX4_danceOn_0 : decode cX4_danceOn 0 = .ok (.aload_n 0, 1) := by decide +kernel
theorem dX4_danceOn_1 : decode cX4_danceOn 1 = .ok (.invokevirtual 58, 3) := by decide +kernel
theorem dX4_danceOn_4 : decode cX4_danceOn 4 = .ok (.aload_n 0, 1) := by decide +kernel
theorem dX4_danceOn_5 : decode cX4_danceOn 5 = .ok (.getfield 12, 3) := by decide +kernel
theorem dX4_danceOn_8 : decode cX4_danceOn 8 = .ok (.aload_n 0, 1) := by decide +kernel
theorem dX4_danceOn_9 : decode cX4_danceOn 9 = .ok (.getfield 22, 3) := by decide +kernel
theorem dX4_danceOn_12 : decode cX4_danceOn 12 = .ok (.invokevirtual 116, 3) := by decide +kernel
theorem dX4_danceOn_15 : decode cX4_danceOn 15 = .ok (.ireturn, 1) := by decide +kernel
set_option maxRecDepth 20000 in
theorem ggX4_endNight_X4_saveState : GoodIn wsX4_endNight wsX4_saveState := goodIn_r _ [6, 7, 8, 1, 9, 10, 11, 12, 13, 14, 15, 16, 17, 18, 19, 20, 21, 22, 23, 24, 25, 26, 27, 28, 29, 30, 31, 32, 33, 34, 35, 36, 37, 38, 39, 40, 41, 42, 71, 72, 73, 74, 75, 76, 77, 78, 79, 80, 81, 82, 83, 84, 85, 86, 87, 88, 89, 90, 91, 92, 93, 94, 95, 96] (by decide +kernel) (by decide +kernel)
set_option maxRecDepth 20000 in
theorem gX4_endNight_X4_saveState : GoodIn wsX4_endNight (wsV RX4 58 RX4 yX4_saveState wsX4_saveState) := goodIn_app (goodIn_of _ (by decide +kernel)) ggX4_endNight_X4_saveState
set_option maxRecDepth 20000 in
theorem ggX4_endNight_X3_closeNight : GoodIn wsX4_endNight wsX3_closeNight := goodIn_r _ [46, 27, 24, 26, 14, 15, 28, 47, 48, 49, 12, 50, 51, 52, 53, 54, 25, 55, 56, 57, 58, 59, 60, 61, 35, 62, 37, 41, 63, 64, 65, 66, 29, 31, 67, 68, 69, 70, 77, 78, 79, 80, 81, 82, 83, 84, 85, 86, 87, 88, 89, 90, 91, 92, 93, 94, 95, 96] (by decide +kernel) (by decide +kernel)
set_option maxRecDepth 20000 in
theorem gX4_endNight_X3_closeNight : GoodIn wsX4_endNight (wsV RX4 119 RX3 yX3_closeNight wsX3_closeNight) := goodIn_app (goodIn_of _ (by decide +kernel)) ggX4_endNight_X3_closeNight
theorem dX4_endNight_0 : decode cX4_endNight 0 = .ok (.aload_n 0, 1) := by decide +kernel
theorem dX4_endNight_1 : decode cX4_endNight 1 = .ok (.invokevirtual 58, 3) := by decide +kernel
theorem dX4_endNight_4 : decode cX4_endNight 4 = .ok (.aload_n 0, 1) := by decide +kernel
theorem dX4_endNight_5 : decode cX4_endNight 5 = .ok (.getfield 12, 3) := by decide +kernel
theorem dX4_endNight_8 : decode cX4_endNight 8 = .ok (.invokevirtual 119, 3) := by decide +kernel
theorem dX4_endNight_11 : decode cX4_endNight 11 = .ok (.ireturn, 1) := by decide +kernel
set_option maxRecDepth 20000 in
theorem ggX4_guest_X3_side : GoodIn wsX4_guest wsX3_side := goodIn_r _ [7, 8, 9, 91, 92, 93, 94, 95, 96, 97, 98, 99, 100, 101, 102, 103, 104] (by decide +kernel) (by decide +kernel)
set_option maxRecDepth 20000 in
theorem gX4_guest_X3_side : GoodIn wsX4_guest (wsV RX4 45 RX3 yX3_side wsX3_side) := goodIn_app (goodIn_of _ (by decide +kernel)) ggX4_guest_X3_side
set_option maxRecDepth 20000 in
theorem ggX4_guest_X2_has : GoodIn wsX4_guest wsX2_has := goodIn_r _ [14, 15, 105, 106, 107, 108, 109, 110] (by decide +kernel) (by decide +kernel)
set_option maxRecDepth 20000 in
theorem gX4_guest_X2_has : GoodIn wsX4_guest (wsV RX4 65 RX2 yX2_has wsX2_has) := goodIn_app (goodIn_of _ (by decide +kernel)) ggX4_guest_X2_has
set_option maxRecDepth 20000 in
theorem ggX4_guest_X4_needIndex : GoodIn wsX4_guest wsX4_needIndex := goodIn_ca (goodIn_r _ [19, 20, 21] (by decide +kernel) (by decide +kernel)) (goodIn_sub (fun _ h => List.mem_cons_of_mem _ (List.mem_append_left _ (List.mem_append_right _ h))) (by decide +kernel))
set_option maxRecDepth 20000 in
theorem gX4_guest_X4_needIndex : GoodIn wsX4_guest (va_wsS RX4 69 yX4_needIndex wsX4_needIndex) := goodIn_app (goodIn_of _ (by decide +kernel)) ggX4_guest_X4_needIndex
set_option maxRecDepth 20000 in
theorem ggX4_guest_X4_isWithin : GoodIn wsX4_guest wsX4_isWithin := goodIn_r _ [24] (by decide +kernel) (by decide +kernel)
set_option maxRecDepth 20000 in
theorem gX4_guest_X4_isWithin : GoodIn wsX4_guest (va_wsS RX4 37 yX4_isWithin wsX4_isWithin) := goodIn_app (goodIn_of _ (by decide +kernel)) ggX4_guest_X4_isWithin
set_option maxRecDepth 20000 in
theorem ggX4_guest_X4_needArgument : GoodIn wsX4_guest wsX4_needArgument := goodIn_ca (goodIn_r _ [27, 28, 29] (by decide +kernel) (by decide +kernel)) (goodIn_sub (fun _ h => List.mem_cons_of_mem _ (List.mem_append_right _ h)) (by decide +kernel))
set_option maxRecDepth 20000 in
theorem gX4_guest_X4_needArgument : GoodIn wsX4_guest (va_wsS RX4 41 yX4_needArgument wsX4_needArgument) := goodIn_app (goodIn_of _ (by decide +kernel)) ggX4_guest_X4_needArgument
set_option maxRecDepth 20000 in
theorem ggX4_guest_X0_lendShoes : GoodIn wsX4_guest wsX0_lendShoes := goodIn_r _ [34, 35, 36, 37, 38, 39, 40, 41, 42, 43, 18, 44, 45, 46, 47, 33, 48, 49, 50, 51, 52, 53, 54, 55, 56, 57, 111, 112, 113, 114, 115, 116, 117, 118, 119, 91, 92, 93, 94, 95, 96, 97, 98, 99, 100, 101, 102, 103, 104, 105, 106, 107, 108, 109, 110] (by decide +kernel) (by decide +kernel)
set_option maxRecDepth 20000 in
theorem gX4_guest_X0_lendShoes : GoodIn wsX4_guest (wsV RX4 123 RX0 yX0_lendShoes wsX0_lendShoes) := goodIn_app (goodIn_of _ (by decide +kernel)) ggX4_guest_X0_lendShoes
set_option maxRecDepth 20000 in
theorem ggX4_guest_X4_guestFact : GoodIn wsX4_guest wsX4_guestFact := goodIn_r _ [61, 1, 62, 63, 64, 65, 2, 66, 3, 4, 5, 6, 7, 8, 9, 67, 43, 18, 44, 68, 69, 70, 33, 71, 39, 42, 72, 73, 74, 75, 38, 41, 76, 77, 78, 79, 80, 81, 82, 83, 84, 85, 86, 87, 88, 89, 90, 105, 106, 107, 108, 109, 110, 91, 92, 93, 94, 95, 96, 97, 98, 99, 100, 101, 102, 103, 104, 111, 112, 113, 114, 115, 116, 117, 118, 119] (by decide +kernel) (by decide +kernel)
set_option maxRecDepth 20000 in
theorem gX4_guest_X4_guestFact : GoodIn wsX4_guest (wsV RX4 127 RX4 yX4_guestFact wsX4_guestFact) := goodIn_app (goodIn_of _ (by decide +kernel)) ggX4_guest_X4_guestFact
theorem dX4_guest_0 : decode cX4_guest 0 = .ok (.aload_n 0, 1) := by decide +kernel
theorem dX4_guest_1 : decode cX4_guest 1 = .ok (.getfield 12, 3) := by decide +kernel
theorem dX4_guest_4 : decode cX4_guest 4 = .ok (.iload_n 1, 1) := by decide +kernel
theorem dX4_guest_5 : decode cX4_guest 5 = .ok (.invokevirtual 45, 3) := by decide +kernel
theorem dX4_guest_8 : decode cX4_guest 8 = .ok (.iload_n 2, 1) := by decide +kernel
theorem dX4_guest_9 : decode cX4_guest 9 = .ok (.invokevirtual 65, 3) := by decide +kernel
theorem dX4_guest_12 : decode cX4_guest 12 = .ok (.invokestatic 69, 3) := by decide +kernel
theorem dX4_guest_15 : decode cX4_guest 15 = .ok (.iload_n 3, 1) := by decide +kernel
theorem dX4_guest_16 : decode cX4_guest 16 = .ok (.iconst 0, 1) := by decide +kernel
theorem dX4_guest_17 : decode cX4_guest 17 = .ok (.bipush 7, 2) := by decide +kernel
theorem dX4_guest_19 : decode cX4_guest 19 = .ok (.invokestatic 37, 3) := by decide +kernel
theorem dX4_guest_22 : decode cX4_guest 22 = .ok (.invokestatic 41, 3) := by decide +kernel
theorem dX4_guest_25 : decode cX4_guest 25 = .ok (.aload_n 0, 1) := by decide +kernel
theorem dX4_guest_26 : decode cX4_guest 26 = .ok (.getfield 22, 3) := by decide +kernel
theorem dX4_guest_29 : decode cX4_guest 29 = .ok (.aload_n 0, 1) := by decide +kernel
theorem dX4_guest_30 : decode cX4_guest 30 = .ok (.getfield 12, 3) := by decide +kernel
theorem dX4_guest_33 : decode cX4_guest 33 = .ok (.iconst 0, 1) := by decide +kernel
theorem dX4_guest_34 : decode cX4_guest 34 = .ok (.invokevirtual 123, 3) := by decide +kernel
theorem dX4_guest_37 : decode cX4_guest 37 = .ok (.aload_n 0, 1) := by decide +kernel
theorem dX4_guest_38 : decode cX4_guest 38 = .ok (.iload_n 1, 1) := by decide +kernel
theorem dX4_guest_39 : decode cX4_guest 39 = .ok (.iload_n 2, 1) := by decide +kernel
theorem dX4_guest_40 : decode cX4_guest 40 = .ok (.iload_n 3, 1) := by decide +kernel
theorem dX4_guest_41 : decode cX4_guest 41 = .ok (.invokevirtual 127, 3) := by decide +kernel
theorem dX4_guest_44 : decode cX4_guest 44 = .ok (.ireturn, 1) := by decide +kernel
set_option maxRecDepth 20000 in
theorem ggX4_value_X4_isWithin : GoodIn wsX4_value wsX4_isWithin := goodIn_r _ [5] (by decide +kernel) (by decide +kernel)
set_option maxRecDepth 20000 in
theorem gX4_value_X4_isWithin : GoodIn wsX4_value (va_wsS RX4 37 yX4_isWithin wsX4_isWithin) := goodIn_app (goodIn_of _ (by decide +kernel)) ggX4_value_X4_isWithin
set_option maxRecDepth 20000 in
theorem ggX4_value_X4_needArgument : GoodIn wsX4_value wsX4_needArgument := goodIn_ca (goodIn_r _ [8, 9, 10] (by decide +kernel) (by decide +kernel)) (goodIn_sub (fun _ h => List.mem_cons_of_mem _ (List.mem_append_right _ h)) (by decide +kernel))
set_option maxRecDepth 20000 in
theorem gX4_value_X4_needArgument : GoodIn wsX4_value (va_wsS RX4 41 yX4_needArgument wsX4_needArgument) := goodIn_app (goodIn_of _ (by decide +kernel)) ggX4_value_X4_needArgument
set_option maxRecDepth 20000 in
theorem ggX4_value_X3_number : GoodIn wsX4_value wsX3_number := goodIn_r _ [15, 16, 17, 18, 19, 20, 21, 22, 23, 24, 25, 26, 27, 28, 29, 14, 30, 31, 32, 33, 34, 35, 36, 37, 38, 39, 40, 41, 42, 43, 44, 45, 46, 47, 48, 4, 49, 50, 51, 52, 53, 54, 61, 62, 63, 64, 65, 66, 67, 68, 69, 70, 71, 72, 73, 74, 75, 76, 77, 78, 79, 80] (by decide +kernel) (by decide +kernel)
set_option maxRecDepth 20000 in
theorem gX4_value_X3_number : GoodIn wsX4_value (wsV RX4 131 RX3 yX3_number wsX3_number) := goodIn_app (goodIn_of _ (by decide +kernel)) ggX4_value_X3_number
theorem dX4_value_0 : decode cX4_value 0 = .ok (.iload_n 1, 1) := by decide +kernel
theorem dX4_value_1 : decode cX4_value 1 = .ok (.iconst 0, 1) := by decide +kernel
theorem dX4_value_2 : decode cX4_value 2 = .ok (.bipush 13, 2) := by decide +kernel
theorem dX4_value_4 : decode cX4_value 4 = .ok (.invokestatic 37, 3) := by decide +kernel
theorem dX4_value_7 : decode cX4_value 7 = .ok (.invokestatic 41, 3) := by decide +kernel
theorem dX4_value_10 : decode cX4_value 10 = .ok (.aload_n 0, 1) := by decide +kernel
theorem dX4_value_11 : decode cX4_value 11 = .ok (.getfield 12, 3) := by decide +kernel
theorem dX4_value_14 : decode cX4_value 14 = .ok (.iload_n 1, 1) := by decide +kernel
theorem dX4_value_15 : decode cX4_value 15 = .ok (.invokevirtual 131, 3) := by decide +kernel
theorem dX4_value_18 : decode cX4_value 18 = .ok (.ireturn, 1) := by decide +kernel
set_option maxRecDepth 20000 in
theorem ggX4_shoes_X4_isWithin : GoodIn wsX4_shoes wsX4_isWithin := goodIn_r _ [8] (by decide +kernel) (by decide +kernel)
set_option maxRecDepth 20000 in
theorem gX4_shoes_X4_isWithin : GoodIn wsX4_shoes (va_wsS RX4 37 yX4_isWithin wsX4_isWithin) := goodIn_app (goodIn_of _ (by decide +kernel)) ggX4_shoes_X4_isWithin
set_option maxRecDepth 20000 in
theorem ggX4_shoes_X4_needIndex : GoodIn wsX4_shoes wsX4_needIndex := goodIn_ca (goodIn_r _ [11, 12, 13] (by decide +kernel) (by decide +kernel)) (goodIn_sub (fun _ h => List.mem_cons_of_mem _ (List.mem_append_right _ h)) (by decide +kernel))
set_option maxRecDepth 20000 in
theorem gX4_shoes_X4_needIndex : GoodIn wsX4_shoes (va_wsS RX4 69 yX4_needIndex wsX4_needIndex) := goodIn_app (goodIn_of _ (by decide +kernel)) ggX4_shoes_X4_needIndex
set_option maxRecDepth 20000 in
theorem ggX4_shoes_X0_lendShoes : GoodIn wsX4_shoes wsX0_lendShoes := goodIn_r _ [18, 19, 20, 21, 22, 23, 24, 25, 26, 27, 7, 28, 29, 30, 31, 17, 32, 33, 34, 35, 36, 37, 38, 39, 40, 41, 48, 49, 50, 51, 52, 53, 54, 55, 56, 57, 58, 59, 60, 61, 62, 63, 64, 65, 66, 67, 68, 69, 70, 71, 72, 73, 74, 75, 76] (by decide +kernel) (by decide +kernel)
set_option maxRecDepth 20000 in
theorem gX4_shoes_X0_lendShoes : GoodIn wsX4_shoes (wsV RX4 123 RX0 yX0_lendShoes wsX0_lendShoes) := goodIn_app (goodIn_of _ (by decide +kernel)) ggX4_shoes_X0_lendShoes
theorem dX4_shoes_0 : decode cX4_shoes 0 = .ok (.iload_n 1, 1) := by decide +kernel
theorem dX4_shoes_1 : decode cX4_shoes 1 = .ok (.iconst 1, 1) := by decide +kernel
theorem dX4_shoes_2 : decode cX4_shoes 2 = .ok (.bipush 9, 2) := by decide +kernel
theorem dX4_shoes_4 : decode cX4_shoes 4 = .ok (.invokestatic 37, 3) := by decide +kernel
theorem dX4_shoes_7 : decode cX4_shoes 7 = .ok (.invokestatic 69, 3) := by decide +kernel
theorem dX4_shoes_10 : decode cX4_shoes 10 = .ok (.aload_n 0, 1) := by decide +kernel
theorem dX4_shoes_11 : decode cX4_shoes 11 = .ok (.getfield 22, 3) := by decide +kernel
theorem dX4_shoes_14 : decode cX4_shoes 14 = .ok (.aload_n 0, 1) := by decide +kernel
theorem dX4_shoes_15 : decode cX4_shoes 15 = .ok (.getfield 12, 3) := by decide +kernel
theorem dX4_shoes_18 : decode cX4_shoes 18 = .ok (.iconst 0, 1) := by decide +kernel
theorem dX4_shoes_19 : decode cX4_shoes 19 = .ok (.invokevirtual 123, 3) := by decide +kernel
theorem dX4_shoes_22 : decode cX4_shoes 22 = .ok (.iload_n 2, 1) := by decide +kernel
theorem dX4_shoes_23 : decode cX4_shoes 23 = .ok (.ifCond .eq 15, 3) := by decide +kernel
theorem dX4_shoes_26 : decode cX4_shoes 26 = .ok (.aload_n 0, 1) := by decide +kernel
theorem dX4_shoes_27 : decode cX4_shoes 27 = .ok (.getfield 22, 3) := by decide +kernel
theorem dX4_shoes_30 : decode cX4_shoes 30 = .ok (.getfield 135, 3) := by decide +kernel
theorem dX4_shoes_33 : decode cX4_shoes 33 = .ok (.iload_n 1, 1) := by decide +kernel
theorem dX4_shoes_34 : decode cX4_shoes 34 = .ok (.iaload, 1) := by decide +kernel
theorem dX4_shoes_35 : decode cX4_shoes 35 = .ok (.goto 12, 3) := by decide +kernel
theorem dX4_shoes_38 : decode cX4_shoes 38 = .ok (.aload_n 0, 1) := by decide +kernel
theorem dX4_shoes_39 : decode cX4_shoes 39 = .ok (.getfield 12, 3) := by decide +kernel
theorem dX4_shoes_42 : decode cX4_shoes 42 = .ok (.getfield 84, 3) := by decide +kernel
theorem dX4_shoes_45 : decode cX4_shoes 45 = .ok (.iload_n 1, 1) := by decide +kernel
theorem dX4_shoes_46 : decode cX4_shoes 46 = .ok (.iaload, 1) := by decide +kernel
theorem dX4_shoes_47 : decode cX4_shoes 47 = .ok (.ireturn, 1) := by decide +kernel
set_option maxRecDepth 20000 in
theorem ggX4_danced_X2_has : GoodIn wsX4_danced wsX2_has := goodIn_r _ [9, 10, 37, 38, 39, 40, 41, 42] (by decide +kernel) (by decide +kernel)
set_option maxRecDepth 20000 in
theorem gX4_danced_X2_has : GoodIn wsX4_danced (wsV RX4 65 RX2 yX2_has wsX2_has) := goodIn_app (goodIn_of _ (by decide +kernel)) ggX4_danced_X2_has
set_option maxRecDepth 20000 in
theorem ggX4_danced_X4_needIndex : GoodIn wsX4_danced wsX4_needIndex := goodIn_ca (goodIn_r _ [14, 15, 16] (by decide +kernel) (by decide +kernel)) (goodIn_sub (fun _ h => List.mem_cons_of_mem _ (List.mem_append_right _ h)) (by decide +kernel))
set_option maxRecDepth 20000 in
theorem gX4_danced_X4_needIndex : GoodIn wsX4_danced (va_wsS RX4 69 yX4_needIndex wsX4_needIndex) := goodIn_app (goodIn_of _ (by decide +kernel)) ggX4_danced_X4_needIndex
theorem dX4_danced_0 : decode cX4_danced 0 = .ok (.aload_n 0, 1) := by decide +kernel
theorem dX4_danced_1 : decode cX4_danced 1 = .ok (.getfield 12, 3) := by decide +kernel
theorem dX4_danced_4 : decode cX4_danced 4 = .ok (.getfield 142, 3) := by decide +kernel
theorem dX4_danced_7 : decode cX4_danced 7 = .ok (.iload_n 1, 1) := by decide +kernel
theorem dX4_danced_8 : decode cX4_danced 8 = .ok (.invokevirtual 65, 3) := by decide +kernel
theorem dX4_danced_11 : decode cX4_danced 11 = .ok (.ifCond .eq 21, 3) := by decide +kernel
theorem dX4_danced_14 : decode cX4_danced 14 = .ok (.aload_n 0, 1) := by decide +kernel
theorem dX4_danced_15 : decode cX4_danced 15 = .ok (.getfield 12, 3) := by decide +kernel
theorem dX4_danced_18 : decode cX4_danced 18 = .ok (.getfield 146, 3) := by decide +kernel
theorem dX4_danced_21 : decode cX4_danced 21 = .ok (.iload_n 2, 1) := by decide +kernel
theorem dX4_danced_22 : decode cX4_danced 22 = .ok (.invokevirtual 65, 3) := by decide +kernel
theorem dX4_danced_25 : decode cX4_danced 25 = .ok (.ifCond .eq 7, 3) := by decide +kernel
theorem dX4_danced_28 : decode cX4_danced 28 = .ok (.iconst 1, 1) := by decide +kernel
theorem dX4_danced_29 : decode cX4_danced 29 = .ok (.goto 4, 3) := by decide +kernel
theorem dX4_danced_32 : decode cX4_danced 32 = .ok (.iconst 0, 1) := by decide +kernel
theorem dX4_danced_33 : decode cX4_danced 33 = .ok (.invokestatic 69, 3) := by decide +kernel
theorem dX4_danced_36 : decode cX4_danced 36 = .ok (.aload_n 0, 1) := by decide +kernel
theorem dX4_danced_37 : decode cX4_danced 37 = .ok (.getfield 12, 3) := by decide +kernel
theorem dX4_danced_40 : decode cX4_danced 40 = .ok (.getfield 149, 3) := by decide +kernel
theorem dX4_danced_43 : decode cX4_danced 43 = .ok (.iload_n 1, 1) := by decide +kernel
theorem dX4_danced_44 : decode cX4_danced 44 = .ok (.aaload, 1) := by decide +kernel
theorem dX4_danced_45 : decode cX4_danced 45 = .ok (.iload_n 2, 1) := by decide +kernel
theorem dX4_danced_46 : decode cX4_danced 46 = .ok (.iaload, 1) := by decide +kernel
theorem dX4_danced_47 : decode cX4_danced 47 = .ok (.ireturn, 1) := by decide +kernel
set_option maxRecDepth 20000 in
theorem ggX4_next_X2_has : GoodIn wsX4_next wsX2_has := goodIn_r _ [9, 10, 121, 122, 123, 124, 125, 126] (by decide +kernel) (by decide +kernel)
set_option maxRecDepth 20000 in
theorem gX4_next_X2_has : GoodIn wsX4_next (wsV RX4 65 RX2 yX2_has wsX2_has) := goodIn_app (goodIn_of _ (by decide +kernel)) ggX4_next_X2_has
set_option maxRecDepth 20000 in
theorem ggX4_next_X4_needIndex : GoodIn wsX4_next wsX4_needIndex := goodIn_ca (goodIn_r _ [14, 15, 16] (by decide +kernel) (by decide +kernel)) (goodIn_sub (fun _ h => List.mem_cons_of_mem _ (List.mem_append_right _ h)) (by decide +kernel))
set_option maxRecDepth 20000 in
theorem gX4_next_X4_needIndex : GoodIn wsX4_next (va_wsS RX4 69 yX4_needIndex wsX4_needIndex) := goodIn_app (goodIn_of _ (by decide +kernel)) ggX4_next_X4_needIndex
set_option maxRecDepth 20000 in
theorem ggX4_next_X3_room : GoodIn wsX4_next wsX3_room := goodIn_r _ [21, 22, 23, 24, 25, 20, 26, 27, 28, 29, 30, 31, 98, 99, 100, 101, 102, 103, 104, 105, 106, 107, 108, 109, 110, 111] (by decide +kernel) (by decide +kernel)
set_option maxRecDepth 20000 in
theorem gX4_next_X3_room : GoodIn wsX4_next (wsV RX4 159 RX3 yX3_room wsX3_room) := goodIn_app (goodIn_of _ (by decide +kernel)) ggX4_next_X3_room
set_option maxRecDepth 20000 in
theorem ggX4_next_X0_pairUp : GoodIn wsX4_next wsX0_pairUp := goodIn_r _ [36, 37, 38, 39, 40, 41, 42, 35, 43, 44, 45, 46, 47, 48, 49, 50, 51, 52, 13, 53, 54, 55, 56, 57, 58, 59, 60, 61, 62, 63, 64, 65, 66, 67, 68, 69, 70, 71, 72, 73, 74, 75, 76, 77, 78, 79, 80, 81, 82, 83, 84, 85, 86, 87, 88, 89, 90, 91, 112, 113, 114, 115, 116, 117, 118, 119, 120, 98, 99, 100, 101, 102, 103, 104, 105, 106, 107, 108, 109, 110, 111, 121, 122, 123, 124, 125, 126] (by decide +kernel) (by decide +kernel)
set_option maxRecDepth 20000 in
theorem gX4_next_X0_pairUp : GoodIn wsX4_next (wsV RX4 162 RX0 yX0_pairUp wsX0_pairUp) := goodIn_app (goodIn_of _ (by decide +kernel)) ggX4_next_X0_pairUp
theorem dX4_next_0 : decode cX4_next 0 = .ok (.aload_n 0, 1) := by decide +kernel
theorem dX4_next_1 : decode cX4_next 1 = .ok (.getfield 12, 3) := by decide +kernel
theorem dX4_next_4 : decode cX4_next 4 = .ok (.getfield 142, 3) := by decide +kernel
theorem dX4_next_7 : decode cX4_next 7 = .ok (.iload_n 1, 1) := by decide +kernel
theorem dX4_next_8 : decode cX4_next 8 = .ok (.invokevirtual 65, 3) := by decide +kernel
theorem dX4_next_11 : decode cX4_next 11 = .ok (.invokestatic 69, 3) := by decide +kernel
theorem dX4_next_14 : decode cX4_next 14 = .ok (.aload_n 0, 1) := by decide +kernel
theorem dX4_next_15 : decode cX4_next 15 = .ok (.getfield 22, 3) := by decide +kernel
theorem dX4_next_18 : decode cX4_next 18 = .ok (.aload_n 0, 1) := by decide +kernel
theorem dX4_next_19 : decode cX4_next 19 = .ok (.getfield 12, 3) := by decide +kernel
theorem dX4_next_22 : decode cX4_next 22 = .ok (.aload_n 0, 1) := by decide +kernel
theorem dX4_next_23 : decode cX4_next 23 = .ok (.getfield 12, 3) := by decide +kernel
theorem dX4_next_26 : decode cX4_next 26 = .ok (.invokevirtual 159, 3) := by decide +kernel
theorem dX4_next_29 : decode cX4_next 29 = .ok (.invokevirtual 162, 3) := by decide +kernel
theorem dX4_next_32 : decode cX4_next 32 = .ok (.pop, 1) := by decide +kernel
theorem dX4_next_33 : decode cX4_next 33 = .ok (.aload_n 0, 1) := by decide +kernel
theorem dX4_next_34 : decode cX4_next 34 = .ok (.getfield 22, 3) := by decide +kernel
theorem dX4_next_37 : decode cX4_next 37 = .ok (.getfield 166, 3) := by decide +kernel
theorem dX4_next_40 : decode cX4_next 40 = .ok (.iload_n 1, 1) := by decide +kernel
theorem dX4_next_41 : decode cX4_next 41 = .ok (.iaload, 1) := by decide +kernel
theorem dX4_next_42 : decode cX4_next 42 = .ok (.ireturn, 1) := by decide +kernel
set_option maxRecDepth 20000 in
theorem ggX4_couplesWith_X4_isWithin : GoodIn wsX4_couplesWith wsX4_isWithin := goodIn_r _ [6] (by decide +kernel) (by decide +kernel)
set_option maxRecDepth 20000 in
theorem gX4_couplesWith_X4_isWithin : GoodIn wsX4_couplesWith (va_wsS RX4 37 yX4_isWithin wsX4_isWithin) := goodIn_app (goodIn_of _ (by decide +kernel)) ggX4_couplesWith_X4_isWithin
set_option maxRecDepth 20000 in
theorem ggX4_couplesWith_X4_needArgument : GoodIn wsX4_couplesWith wsX4_needArgument := goodIn_ca (goodIn_r _ [9, 10, 11] (by decide +kernel) (by decide +kernel)) (goodIn_sub (fun _ h => List.mem_cons_of_mem _ (List.mem_append_right _ h)) (by decide +kernel))
set_option maxRecDepth 20000 in
theorem gX4_couplesWith_X4_needArgument : GoodIn wsX4_couplesWith (va_wsS RX4 41 yX4_needArgument wsX4_needArgument) := goodIn_app (goodIn_of _ (by decide +kernel)) ggX4_couplesWith_X4_needArgument
set_option maxRecDepth 20000 in
theorem ggX4_couplesWith_X3_litOf : GoodIn wsX4_couplesWith wsX3_litOf := goodIn_r _ [16, 17, 18, 19, 20, 21, 88, 89, 90, 91, 92, 93, 94, 95, 96, 97, 98, 99, 100, 101] (by decide +kernel) (by decide +kernel)
set_option maxRecDepth 20000 in
theorem gX4_couplesWith_X3_litOf : GoodIn wsX4_couplesWith (wsV RX4 169 RX3 yX3_litOf wsX3_litOf) := goodIn_app (goodIn_of _ (by decide +kernel)) ggX4_couplesWith_X3_litOf
set_option maxRecDepth 20000 in
theorem ggX4_couplesWith_X0_pairUp : GoodIn wsX4_couplesWith wsX0_pairUp := goodIn_r _ [26, 27, 28, 29, 30, 31, 32, 25, 33, 34, 35, 36, 37, 38, 39, 40, 41, 42, 5, 43, 44, 45, 46, 47, 48, 49, 50, 51, 52, 53, 54, 55, 56, 57, 58, 59, 60, 61, 62, 63, 64, 65, 66, 67, 68, 69, 70, 71, 72, 73, 74, 75, 76, 77, 78, 79, 80, 81, 102, 103, 104, 105, 106, 107, 108, 109, 110, 88, 89, 90, 91, 92, 93, 94, 95, 96, 97, 98, 99, 100, 101, 111, 112, 113, 114, 115, 116] (by decide +kernel) (by decide +kernel)
set_option maxRecDepth 20000 in
theorem gX4_couplesWith_X0_pairUp : GoodIn wsX4_couplesWith (wsV RX4 162 RX0 yX0_pairUp wsX0_pairUp) := goodIn_app (goodIn_of _ (by decide +kernel)) ggX4_couplesWith_X0_pairUp
theorem dX4_couplesWith_0 : decode cX4_couplesWith 0 = .ok (.iload_n 1, 1) := by decide +kernel
theorem dX4_couplesWith_1 : decode cX4_couplesWith 1 = .ok (.iconst 1, 1) := by decide +kernel
theorem dX4_couplesWith_2 : decode cX4_couplesWith 2 = .ok (.bipush 6, 2) := by decide +kernel
theorem dX4_couplesWith_4 : decode cX4_couplesWith 4 = .ok (.invokestatic 37, 3) := by decide +kernel
theorem dX4_couplesWith_7 : decode cX4_couplesWith 7 = .ok (.invokestatic 41, 3) := by decide +kernel
theorem dX4_couplesWith_10 : decode cX4_couplesWith 10 = .ok (.aload_n 0, 1) := by decide +kernel
theorem dX4_couplesWith_11 : decode cX4_couplesWith 11 = .ok (.getfield 22, 3) := by decide +kernel
theorem dX4_couplesWith_14 : decode cX4_couplesWith 14 = .ok (.aload_n 0, 1) := by decide +kernel
theorem dX4_couplesWith_15 : decode cX4_couplesWith 15 = .ok (.getfield 12, 3) := by decide +kernel
theorem dX4_couplesWith_18 : decode cX4_couplesWith 18 = .ok (.iconst 2, 1) := by decide +kernel
theorem dX4_couplesWith_19 : decode cX4_couplesWith 19 = .ok (.aload_n 0, 1) := by decide +kernel
theorem dX4_couplesWith_20 : decode cX4_couplesWith 20 = .ok (.getfield 12, 3) := by decide +kernel
theorem dX4_couplesWith_23 : decode cX4_couplesWith 23 = .ok (.iload_n 1, 1) := by decide +kernel
theorem dX4_couplesWith_24 : decode cX4_couplesWith 24 = .ok (.invokevirtual 169, 3) := by decide +kernel
theorem dX4_couplesWith_27 : decode cX4_couplesWith 27 = .ok (.imul, 1) := by decide +kernel
theorem dX4_couplesWith_28 : decode cX4_couplesWith 28 = .ok (.invokevirtual 162, 3) := by decide +kernel
theorem dX4_couplesWith_31 : decode cX4_couplesWith 31 = .ok (.ireturn, 1) := by decide +kernel
set_option maxRecDepth 20000 in
theorem ggX4_dancesLeft_X3_copyFrom : GoodIn wsX4_dancesLeft wsX3_copyFrom := goodIn_r _ [8, 9, 10, 11, 12, 13, 14, 15, 16, 17, 18, 19, 20, 21, 22, 23, 24, 25, 26, 27, 28, 29, 30, 31, 32, 33, 34, 35, 36, 37, 138, 139, 140, 141, 142, 143, 144, 145, 146, 147, 148, 149, 150, 151, 152, 153, 154, 155, 156, 157] (by decide +kernel) (by decide +kernel)
set_option maxRecDepth 20000 in
theorem gX4_dancesLeft_X3_copyFrom : GoodIn wsX4_dancesLeft (wsV RX4 172 RX3 yX3_copyFrom wsX3_copyFrom) := goodIn_app (goodIn_of _ (by decide +kernel)) ggX4_dancesLeft_X3_copyFrom
set_option maxRecDepth 20000 in
theorem ggX4_dancesLeft_X3_playOn : GoodIn wsX4_dancesLeft wsX3_playOn := goodIn_r _ [41, 42, 43, 44, 7, 45, 16, 24, 46, 47, 48, 49, 17, 50, 51, 52, 53, 54, 55, 56, 57, 58, 18, 59, 60, 61, 62, 63, 64, 65, 66, 67, 68, 69, 70, 71, 72, 73, 74, 75, 76, 77, 78, 79, 80, 81, 82, 83, 84, 85, 86, 87, 88, 89, 90, 91, 92, 93, 94, 95, 96, 97, 98, 99, 100, 101, 102, 103, 104, 105, 106, 107, 108, 109, 110, 111, 112, 113, 114, 115, 116, 117, 118, 119, 120, 121, 122, 123, 124, 125, 126, 127, 26, 9, 10, 22, 25, 128, 129, 130, 30, 131, 33, 37, 138, 139, 140, 141, 142, 143, 144, 145, 146, 147, 148, 149, 150, 151, 158, 159, 160, 161, 162, 163, 164, 165, 166, 152, 153, 154, 155, 156, 157] (by decide +kernel) (by decide +kernel)
set_option maxRecDepth 20000 in
theorem gX4_dancesLeft_X3_playOn : GoodIn wsX4_dancesLeft (wsV RX4 116 RX3 yX3_playOn wsX3_playOn) := goodIn_app (goodIn_of _ (by decide +kernel)) ggX4_dancesLeft_X3_playOn
theorem dX4_dancesLeft_0 : decode cX4_dancesLeft 0 = .ok (.aload_n 0, 1) := by decide +kernel
theorem dX4_dancesLeft_1 : decode cX4_dancesLeft 1 = .ok (.getfield 16, 3) := by decide +kernel
theorem dX4_dancesLeft_4 : decode cX4_dancesLeft 4 = .ok (.aload_n 0, 1) := by decide +kernel
theorem dX4_dancesLeft_5 : decode cX4_dancesLeft 5 = .ok (.getfield 12, 3) := by decide +kernel
theorem dX4_dancesLeft_8 : decode cX4_dancesLeft 8 = .ok (.invokevirtual 172, 3) := by decide +kernel
theorem dX4_dancesLeft_11 : decode cX4_dancesLeft 11 = .ok (.aload_n 0, 1) := by decide +kernel
theorem dX4_dancesLeft_12 : decode cX4_dancesLeft 12 = .ok (.getfield 16, 3) := by decide +kernel
theorem dX4_dancesLeft_15 : decode cX4_dancesLeft 15 = .ok (.aload_n 0, 1) := by decide +kernel
theorem dX4_dancesLeft_16 : decode cX4_dancesLeft 16 = .ok (.getfield 22, 3) := by decide +kernel
theorem dX4_dancesLeft_19 : decode cX4_dancesLeft 19 = .ok (.invokevirtual 116, 3) := by decide +kernel
theorem dX4_dancesLeft_22 : decode cX4_dancesLeft 22 = .ok (.ireturn, 1) := by decide +kernel
set_option maxRecDepth 20000 in
theorem ggX4_bestSize_X0_lendShoes : GoodIn wsX4_bestSize wsX0_lendShoes := goodIn_r _ [7, 8, 9, 10, 11, 12, 13, 14, 15, 16, 17, 18, 19, 20, 21, 6, 22, 23, 24, 25, 26, 27, 28, 29, 30, 31, 49, 50, 51, 52, 53, 54, 55, 56, 57, 58, 59, 60, 61, 62, 63, 64, 65, 66, 67, 68, 69, 70, 71, 72, 73, 74, 75, 76, 77] (by decide +kernel) (by decide +kernel)
set_option maxRecDepth 20000 in
theorem gX4_bestSize_X0_lendShoes : GoodIn wsX4_bestSize (wsV RX4 123 RX0 yX0_lendShoes wsX0_lendShoes) := goodIn_app (goodIn_of _ (by decide +kernel)) ggX4_bestSize_X0_lendShoes
set_option maxRecDepth 20000 in
theorem ggX4_bestSize_X0_readyCount : GoodIn wsX4_bestSize wsX0_readyCount := goodIn_r _ [35, 12, 15, 36, 37, 38, 39, 40, 41, 42, 49, 50, 51, 52, 53, 54, 55, 56, 57] (by decide +kernel) (by decide +kernel)
set_option maxRecDepth 20000 in
theorem gX4_bestSize_X0_readyCount : GoodIn wsX4_bestSize (wsV RX4 176 RX0 yX0_readyCount wsX0_readyCount) := goodIn_app (goodIn_of _ (by decide +kernel)) ggX4_bestSize_X0_readyCount
theorem dX4_bestSize_0 : decode cX4_bestSize 0 = .ok (.aload_n 0, 1) := by decide +kernel
theorem dX4_bestSize_1 : decode cX4_bestSize 1 = .ok (.getfield 22, 3) := by decide +kernel
theorem dX4_bestSize_4 : decode cX4_bestSize 4 = .ok (.aload_n 0, 1) := by decide +kernel
theorem dX4_bestSize_5 : decode cX4_bestSize 5 = .ok (.getfield 12, 3) := by decide +kernel
theorem dX4_bestSize_8 : decode cX4_bestSize 8 = .ok (.iconst 0, 1) := by decide +kernel
theorem dX4_bestSize_9 : decode cX4_bestSize 9 = .ok (.invokevirtual 123, 3) := by decide +kernel
theorem dX4_bestSize_12 : decode cX4_bestSize 12 = .ok (.aload_n 0, 1) := by decide +kernel
theorem dX4_bestSize_13 : decode cX4_bestSize 13 = .ok (.getfield 22, 3) := by decide +kernel
theorem dX4_bestSize_16 : decode cX4_bestSize 16 = .ok (.invokevirtual 176, 3) := by decide +kernel
theorem dX4_bestSize_19 : decode cX4_bestSize 19 = .ok (.istore_n 1, 1) := by decide +kernel
theorem dX4_bestSize_20 : decode cX4_bestSize 20 = .ok (.iconst (-1), 1) := by decide +kernel
theorem dX4_bestSize_21 : decode cX4_bestSize 21 = .ok (.istore_n 2, 1) := by decide +kernel
theorem dX4_bestSize_22 : decode cX4_bestSize 22 = .ok (.iconst 1, 1) := by decide +kernel
theorem dX4_bestSize_23 : decode cX4_bestSize 23 = .ok (.istore_n 3, 1) := by decide +kernel
theorem dX4_bestSize_24 : decode cX4_bestSize 24 = .ok (.iload_n 3, 1) := by decide +kernel
theorem dX4_bestSize_25 : decode cX4_bestSize 25 = .ok (.bipush 9, 2) := by decide +kernel
theorem dX4_bestSize_27 : decode cX4_bestSize 27 = .ok (.if_icmp .gt 42, 3) := by decide +kernel
theorem dX4_bestSize_30 : decode cX4_bestSize 30 = .ok (.aload_n 0, 1) := by decide +kernel
theorem dX4_bestSize_31 : decode cX4_bestSize 31 = .ok (.getfield 22, 3) := by decide +kernel
theorem dX4_bestSize_34 : decode cX4_bestSize 34 = .ok (.aload_n 0, 1) := by decide +kernel
theorem dX4_bestSize_35 : decode cX4_bestSize 35 = .ok (.getfield 12, 3) := by decide +kernel
theorem dX4_bestSize_38 : decode cX4_bestSize 38 = .ok (.iload_n 3, 1) := by decide +kernel
theorem dX4_bestSize_39 : decode cX4_bestSize 39 = .ok (.invokevirtual 123, 3) := by decide +kernel
theorem dX4_bestSize_42 : decode cX4_bestSize 42 = .ok (.aload_n 0, 1) := by decide +kernel
theorem dX4_bestSize_43 : decode cX4_bestSize 43 = .ok (.getfield 22, 3) := by decide +kernel
theorem dX4_bestSize_46 : decode cX4_bestSize 46 = .ok (.invokevirtual 176, 3) := by decide +kernel
theorem dX4_bestSize_49 : decode cX4_bestSize 49 = .ok (.iload_n 1, 1) := by decide +kernel
theorem dX4_bestSize_50 : decode cX4_bestSize 50 = .ok (.if_icmp .le 13, 3) := by decide +kernel
theorem dX4_bestSize_53 : decode cX4_bestSize 53 = .ok (.aload_n 0, 1) := by decide +kernel
theorem dX4_bestSize_54 : decode cX4_bestSize 54 = .ok (.getfield 22, 3) := by decide +kernel
theorem dX4_bestSize_57 : decode cX4_bestSize 57 = .ok (.invokevirtual 176, 3) := by decide +kernel
theorem dX4_bestSize_60 : decode cX4_bestSize 60 = .ok (.istore_n 1, 1) := by decide +kernel
theorem dX4_bestSize_61 : decode cX4_bestSize 61 = .ok (.iload_n 3, 1) := by decide +kernel
theorem dX4_bestSize_62 : decode cX4_bestSize 62 = .ok (.istore_n 2, 1) := by decide +kernel
theorem dX4_bestSize_63 : decode cX4_bestSize 63 = .ok (.iinc 3 1, 3) := by decide +kernel
theorem dX4_bestSize_66 : decode cX4_bestSize 66 = .ok (.goto (-42), 3) := by decide +kernel
theorem dX4_bestSize_69 : decode cX4_bestSize 69 = .ok (.iload_n 2, 1) := by decide +kernel
theorem dX4_bestSize_70 : decode cX4_bestSize 70 = .ok (.ireturn, 1) := by decide +kernel
set_option maxRecDepth 20000 in
theorem ggX4_undo_X4_needState : GoodIn wsX4_undo wsX4_needState := goodIn_ca (goodIn_r _ [7, 8, 9] (by decide +kernel) (by decide +kernel)) (goodIn_sub (fun _ h => List.mem_cons_of_mem _ (List.mem_append_right _ h)) (by decide +kernel))
set_option maxRecDepth 20000 in
theorem gX4_undo_X4_needState : GoodIn wsX4_undo (va_wsS RX4 55 yX4_needState wsX4_needState) := goodIn_app (goodIn_of _ (by decide +kernel)) ggX4_undo_X4_needState
set_option maxRecDepth 20000 in
theorem ggX4_undo_X3_copyFrom : GoodIn wsX4_undo wsX3_copyFrom := goodIn_r _ [14, 15, 16, 17, 18, 19, 20, 21, 22, 23, 24, 25, 26, 27, 28, 29, 30, 31, 32, 33, 34, 35, 36, 37, 38, 39, 40, 41, 42, 43, 50, 51, 52, 53, 54, 55, 56, 57, 58, 59, 60, 61, 62, 63, 64, 65, 66, 67, 68, 69] (by decide +kernel) (by decide +kernel)
set_option maxRecDepth 20000 in
theorem gX4_undo_X3_copyFrom : GoodIn wsX4_undo (wsV RX4 172 RX3 yX3_copyFrom wsX3_copyFrom) := goodIn_app (goodIn_of _ (by decide +kernel)) ggX4_undo_X3_copyFrom
theorem dX4_undo_0 : decode cX4_undo 0 = .ok (.aload_n 0, 1) := by decide +kernel
theorem dX4_undo_1 : decode cX4_undo 1 = .ok (.getfield 201, 3) := by decide +kernel
theorem dX4_undo_4 : decode cX4_undo 4 = .ok (.ifCond .le 7, 3) := by decide +kernel
theorem dX4_undo_7 : decode cX4_undo 7 = .ok (.iconst 1, 1) := by decide +kernel
theorem dX4_undo_8 : decode cX4_undo 8 = .ok (.goto 4, 3) := by decide +kernel
theorem dX4_undo_11 : decode cX4_undo 11 = .ok (.iconst 0, 1) := by decide +kernel
theorem dX4_undo_12 : decode cX4_undo 12 = .ok (.invokestatic 55, 3) := by decide +kernel
theorem dX4_undo_15 : decode cX4_undo 15 = .ok (.aload_n 0, 1) := by decide +kernel
theorem dX4_undo_16 : decode cX4_undo 16 = .ok (.dup, 1) := by decide +kernel
theorem dX4_undo_17 : decode cX4_undo 17 = .ok (.getfield 201, 3) := by decide +kernel
theorem dX4_undo_20 : decode cX4_undo 20 = .ok (.iconst 1, 1) := by decide +kernel
theorem dX4_undo_21 : decode cX4_undo 21 = .ok (.isub, 1) := by decide +kernel
theorem dX4_undo_22 : decode cX4_undo 22 = .ok (.putfield 201, 3) := by decide +kernel
theorem dX4_undo_25 : decode cX4_undo 25 = .ok (.aload_n 0, 1) := by decide +kernel
theorem dX4_undo_26 : decode cX4_undo 26 = .ok (.getfield 12, 3) := by decide +kernel
theorem dX4_undo_29 : decode cX4_undo 29 = .ok (.aload_n 0, 1) := by decide +kernel
theorem dX4_undo_30 : decode cX4_undo 30 = .ok (.getfield 33, 3) := by decide +kernel
theorem dX4_undo_33 : decode cX4_undo 33 = .ok (.aload_n 0, 1) := by decide +kernel
theorem dX4_undo_34 : decode cX4_undo 34 = .ok (.getfield 201, 3) := by decide +kernel
theorem dX4_undo_37 : decode cX4_undo 37 = .ok (.aaload, 1) := by decide +kernel
theorem dX4_undo_38 : decode cX4_undo 38 = .ok (.invokevirtual 172, 3) := by decide +kernel
theorem dX4_undo_41 : decode cX4_undo 41 = .ok (.aload_n 0, 1) := by decide +kernel
theorem dX4_undo_42 : decode cX4_undo 42 = .ok (.getfield 201, 3) := by decide +kernel
theorem dX4_undo_45 : decode cX4_undo 45 = .ok (.ireturn, 1) := by decide +kernel
set_option maxRecDepth 20000 in
theorem ggX4_guestFact_X3_side : GoodIn wsX4_guestFact wsX3_side := goodIn_r _ [12, 13, 14, 53, 54, 55, 56, 57, 58, 59, 60, 61, 62, 63, 64, 65, 66] (by decide +kernel) (by decide +kernel)
set_option maxRecDepth 20000 in
theorem gX4_guestFact_X3_side : GoodIn wsX4_guestFact (wsV RX4 45 RX3 yX3_side wsX3_side) := goodIn_app (goodIn_of _ (by decide +kernel)) ggX4_guestFact_X3_side
set_option maxRecDepth 20000 in
theorem ggX4_guestFact_X4_oneIf : GoodIn wsX4_guestFact wsX4_oneIf := goodIn_r _ [18] (by decide +kernel) (by decide +kernel)
set_option maxRecDepth 20000 in
theorem gX4_guestFact_X4_oneIf : GoodIn wsX4_guestFact (va_wsS RX4 80 yX4_oneIf wsX4_oneIf) := goodIn_app (goodIn_of _ (by decide +kernel)) ggX4_guestFact_X4_oneIf
set_option maxRecDepth 20000 in
theorem ggX4_guestFact_X0_isReady : GoodIn wsX4_guestFact wsX0_isReady := goodIn_r _ [23, 24, 25, 67, 68, 69, 70, 71, 72, 73, 74, 75] (by decide +kernel) (by decide +kernel)
set_option maxRecDepth 20000 in
theorem gX4_guestFact_X0_isReady : GoodIn wsX4_guestFact (wsV RX4 226 RX0 yX0_isReady wsX0_isReady) := goodIn_app (goodIn_of _ (by decide +kernel)) ggX4_guestFact_X0_isReady
set_option maxRecDepth 20000 in
theorem ggX4_guestFact_X0_lentTo : GoodIn wsX4_guestFact wsX0_lentTo := goodIn_r _ [29, 30, 31, 67, 68, 69, 70, 71, 72, 73, 74, 75] (by decide +kernel) (by decide +kernel)
set_option maxRecDepth 20000 in
theorem gX4_guestFact_X0_lentTo : GoodIn wsX4_guestFact (wsV RX4 230 RX0 yX0_lentTo wsX0_lentTo) := goodIn_app (goodIn_of _ (by decide +kernel)) ggX4_guestFact_X0_lentTo
set_option maxRecDepth 20000 in
theorem ggX4_guestFact_X3_dancesOfLeader : GoodIn wsX4_guestFact wsX3_dancesOfLeader := goodIn_r _ [35, 36, 16, 17, 18, 53, 54, 55, 56, 57, 58, 59, 60, 61, 62, 63, 64, 65, 66] (by decide +kernel) (by decide +kernel)
set_option maxRecDepth 20000 in
theorem gX4_guestFact_X3_dancesOfLeader : GoodIn wsX4_guestFact (wsV RX4 234 RX3 yX3_dancesOfLeader wsX3_dancesOfLeader) := goodIn_app (goodIn_of _ (by decide +kernel)) ggX4_guestFact_X3_dancesOfLeader
set_option maxRecDepth 20000 in
theorem ggX4_guestFact_X3_dancesOfFollower : GoodIn wsX4_guestFact wsX3_dancesOfFollower := goodIn_r _ [40, 36, 16, 17, 18, 53, 54, 55, 56, 57, 58, 59, 60, 61, 62, 63, 64, 65, 66] (by decide +kernel) (by decide +kernel)
set_option maxRecDepth 20000 in
theorem gX4_guestFact_X3_dancesOfFollower : GoodIn wsX4_guestFact (wsV RX4 237 RX3 yX3_dancesOfFollower wsX3_dancesOfFollower) := goodIn_app (goodIn_of _ (by decide +kernel)) ggX4_guestFact_X3_dancesOfFollower
theorem dX4_guestFact_0 : decode cX4_guestFact 0 = .ok (.aload_n 0, 1) := by decide +kernel
theorem dX4_guestFact_1 : decode cX4_guestFact 1 = .ok (.getfield 12, 3) := by decide +kernel
theorem dX4_guestFact_4 : decode cX4_guestFact 4 = .ok (.iload_n 1, 1) := by decide +kernel
theorem dX4_guestFact_5 : decode cX4_guestFact 5 = .ok (.invokevirtual 45, 3) := by decide +kernel
theorem dX4_guestFact_8 : decode cX4_guestFact 8 = .ok (.astore 4, 2) := by decide +kernel
theorem dX4_guestFact_10 : decode cX4_guestFact 10 = .ok (.iload_n 3, 1) := by decide +kernel
theorem dX4_guestFact_11 : decode cX4_guestFact 11 = .ok (.tableswitch 126 0 6 #[41, 49, 57, 68, 79, 92, 102], 41) := by decide +kernel
theorem dX4_guestFact_52 : decode cX4_guestFact 52 = .ok (.aload 4, 2) := by decide +kernel
theorem dX4_guestFact_54 : decode cX4_guestFact 54 = .ok (.getfield 72, 3) := by decide +kernel
theorem dX4_guestFact_57 : decode cX4_guestFact 57 = .ok (.iload_n 2, 1) := by decide +kernel
theorem dX4_guestFact_58 : decode cX4_guestFact 58 = .ok (.iaload, 1) := by decide +kernel
theorem dX4_guestFact_59 : decode cX4_guestFact 59 = .ok (.ireturn, 1) := by decide +kernel
theorem dX4_guestFact_60 : decode cX4_guestFact 60 = .ok (.aload 4, 2) := by decide +kernel
theorem dX4_guestFact_62 : decode cX4_guestFact 62 = .ok (.getfield 220, 3) := by decide +kernel
theorem dX4_guestFact_65 : decode cX4_guestFact 65 = .ok (.iload_n 2, 1) := by decide +kernel
theorem dX4_guestFact_66 : decode cX4_guestFact 66 = .ok (.iaload, 1) := by decide +kernel
theorem dX4_guestFact_67 : decode cX4_guestFact 67 = .ok (.ireturn, 1) := by decide +kernel
theorem dX4_guestFact_68 : decode cX4_guestFact 68 = .ok (.aload 4, 2) := by decide +kernel
theorem dX4_guestFact_70 : decode cX4_guestFact 70 = .ok (.getfield 223, 3) := by decide +kernel
theorem dX4_guestFact_73 : decode cX4_guestFact 73 = .ok (.iload_n 2, 1) := by decide +kernel
theorem dX4_guestFact_74 : decode cX4_guestFact 74 = .ok (.baload, 1) := by decide +kernel
theorem dX4_guestFact_75 : decode cX4_guestFact 75 = .ok (.invokestatic 80, 3) := by decide +kernel
theorem dX4_guestFact_78 : decode cX4_guestFact 78 = .ok (.ireturn, 1) := by decide +kernel
theorem dX4_guestFact_79 : decode cX4_guestFact 79 = .ok (.aload 4, 2) := by decide +kernel
theorem dX4_guestFact_81 : decode cX4_guestFact 81 = .ok (.getfield 76, 3) := by decide +kernel
theorem dX4_guestFact_84 : decode cX4_guestFact 84 = .ok (.iload_n 2, 1) := by decide +kernel
theorem dX4_guestFact_85 : decode cX4_guestFact 85 = .ok (.baload, 1) := by decide +kernel
theorem dX4_guestFact_86 : decode cX4_guestFact 86 = .ok (.invokestatic 80, 3) := by decide +kernel
theorem dX4_guestFact_89 : decode cX4_guestFact 89 = .ok (.ireturn, 1) := by decide +kernel
theorem dX4_guestFact_90 : decode cX4_guestFact 90 = .ok (.aload_n 0, 1) := by decide +kernel
theorem dX4_guestFact_91 : decode cX4_guestFact 91 = .ok (.getfield 22, 3) := by decide +kernel
theorem dX4_guestFact_94 : decode cX4_guestFact 94 = .ok (.iload_n 1, 1) := by decide +kernel
theorem dX4_guestFact_95 : decode cX4_guestFact 95 = .ok (.iload_n 2, 1) := by decide +kernel
theorem dX4_guestFact_96 : decode cX4_guestFact 96 = .ok (.invokevirtual 226, 3) := by decide +kernel
theorem dX4_guestFact_99 : decode cX4_guestFact 99 = .ok (.invokestatic 80, 3) := by decide +kernel
theorem dX4_guestFact_102 : decode cX4_guestFact 102 = .ok (.ireturn, 1) := by decide +kernel
theorem dX4_guestFact_103 : decode cX4_guestFact 103 = .ok (.aload_n 0, 1) := by decide +kernel
theorem dX4_guestFact_104 : decode cX4_guestFact 104 = .ok (.getfield 22, 3) := by decide +kernel
theorem dX4_guestFact_107 : decode cX4_guestFact 107 = .ok (.iload_n 1, 1) := by decide +kernel
theorem dX4_guestFact_108 : decode cX4_guestFact 108 = .ok (.iload_n 2, 1) := by decide +kernel
theorem dX4_guestFact_109 : decode cX4_guestFact 109 = .ok (.invokevirtual 230, 3) := by decide +kernel
theorem dX4_guestFact_112 : decode cX4_guestFact 112 = .ok (.ireturn, 1) := by decide +kernel
theorem dX4_guestFact_113 : decode cX4_guestFact 113 = .ok (.iload_n 1, 1) := by decide +kernel
theorem dX4_guestFact_114 : decode cX4_guestFact 114 = .ok (.ifCond .eq 14, 3) := by decide +kernel
theorem dX4_guestFact_117 : decode cX4_guestFact 117 = .ok (.aload_n 0, 1) := by decide +kernel
theorem dX4_guestFact_118 : decode cX4_guestFact 118 = .ok (.getfield 12, 3) := by decide +kernel
theorem dX4_guestFact_121 : decode cX4_guestFact 121 = .ok (.iload_n 2, 1) := by decide +kernel
theorem dX4_guestFact_122 : decode cX4_guestFact 122 = .ok (.invokevirtual 234, 3) := by decide +kernel
theorem dX4_guestFact_125 : decode cX4_guestFact 125 = .ok (.goto 11, 3) := by decide +kernel
theorem dX4_guestFact_128 : decode cX4_guestFact 128 = .ok (.aload_n 0, 1) := by decide +kernel
theorem dX4_guestFact_129 : decode cX4_guestFact 129 = .ok (.getfield 12, 3) := by decide +kernel
theorem dX4_guestFact_132 : decode cX4_guestFact 132 = .ok (.iload_n 2, 1) := by decide +kernel
theorem dX4_guestFact_133 : decode cX4_guestFact 133 = .ok (.invokevirtual 237, 3) := by decide +kernel
theorem dX4_guestFact_136 : decode cX4_guestFact 136 = .ok (.ireturn, 1) := by decide +kernel
theorem dX4_guestFact_137 : decode cX4_guestFact 137 = .ok (.aload 4, 2) := by decide +kernel
theorem dX4_guestFact_139 : decode cX4_guestFact 139 = .ok (.getfield 240, 3) := by decide +kernel
theorem dX4_guestFact_142 : decode cX4_guestFact 142 = .ok (.iload_n 2, 1) := by decide +kernel
theorem dX4_guestFact_143 : decode cX4_guestFact 143 = .ok (.iaload, 1) := by decide +kernel
theorem dX4_guestFact_144 : decode cX4_guestFact 144 = .ok (.ireturn, 1) := by decide +kernel
set_option maxRecDepth 20000 in
theorem ggX4_saveState_X3_copyFrom : GoodIn wsX4_saveState wsX3_copyFrom := goodIn_r _ [8, 9, 10, 11, 12, 13, 14, 15, 16, 17, 18, 19, 20, 21, 22, 23, 24, 25, 26, 27, 28, 29, 30, 31, 32, 33, 34, 35, 36, 37, 44, 45, 46, 47, 48, 49, 50, 51, 52, 53, 54, 55, 56, 57, 58, 59, 60, 61, 62, 63] (by decide +kernel) (by decide +kernel)
set_option maxRecDepth 20000 in
theorem gX4_saveState_X3_copyFrom : GoodIn wsX4_saveState (wsV RX4 172 RX3 yX3_copyFrom wsX3_copyFrom) := goodIn_app (goodIn_of _ (by decide +kernel)) ggX4_saveState_X3_copyFrom
theorem dX4_saveState_0 : decode cX4_saveState 0 = .ok (.aload_n 0, 1) := by decide +kernel
theorem dX4_saveState_1 : decode cX4_saveState 1 = .ok (.getfield 201, 3) := by decide +kernel
theorem dX4_saveState_4 : decode cX4_saveState 4 = .ok (.iconst 4, 1) := by decide +kernel
theorem dX4_saveState_5 : decode cX4_saveState 5 = .ok (.if_icmp .ne 54, 3) := by decide +kernel
theorem dX4_saveState_8 : decode cX4_saveState 8 = .ok (.aload_n 0, 1) := by decide +kernel
theorem dX4_saveState_9 : decode cX4_saveState 9 = .ok (.getfield 33, 3) := by decide +kernel
theorem dX4_saveState_12 : decode cX4_saveState 12 = .ok (.iconst 0, 1) := by decide +kernel
theorem dX4_saveState_13 : decode cX4_saveState 13 = .ok (.aaload, 1) := by decide +kernel
theorem dX4_saveState_14 : decode cX4_saveState 14 = .ok (.astore_n 1, 1) := by decide +kernel
theorem dX4_saveState_15 : decode cX4_saveState 15 = .ok (.iconst 1, 1) := by decide +kernel
theorem dX4_saveState_16 : decode cX4_saveState 16 = .ok (.istore_n 2, 1) := by decide +kernel
theorem dX4_saveState_17 : decode cX4_saveState 17 = .ok (.iload_n 2, 1) := by decide +kernel
theorem dX4_saveState_18 : decode cX4_saveState 18 = .ok (.iconst 4, 1) := by decide +kernel
theorem dX4_saveState_19 : decode cX4_saveState 19 = .ok (.if_icmp .ge 23, 3) := by decide +kernel
theorem dX4_saveState_22 : decode cX4_saveState 22 = .ok (.aload_n 0, 1) := by decide +kernel
theorem dX4_saveState_23 : decode cX4_saveState 23 = .ok (.getfield 33, 3) := by decide +kernel
theorem dX4_saveState_26 : decode cX4_saveState 26 = .ok (.iload_n 2, 1) := by decide +kernel
theorem dX4_saveState_27 : decode cX4_saveState 27 = .ok (.iconst 1, 1) := by decide +kernel
theorem dX4_saveState_28 : decode cX4_saveState 28 = .ok (.isub, 1) := by decide +kernel
theorem dX4_saveState_29 : decode cX4_saveState 29 = .ok (.aload_n 0, 1) := by decide +kernel
theorem dX4_saveState_30 : decode cX4_saveState 30 = .ok (.getfield 33, 3) := by decide +kernel
theorem dX4_saveState_33 : decode cX4_saveState 33 = .ok (.iload_n 2, 1) := by decide +kernel
theorem dX4_saveState_34 : decode cX4_saveState 34 = .ok (.aaload, 1) := by decide +kernel
theorem dX4_saveState_35 : decode cX4_saveState 35 = .ok (.aastore, 1) := by decide +kernel
theorem dX4_saveState_36 : decode cX4_saveState 36 = .ok (.iinc 2 1, 3) := by decide +kernel
theorem dX4_saveState_39 : decode cX4_saveState 39 = .ok (.goto (-22), 3) := by decide +kernel
theorem dX4_saveState_42 : decode cX4_saveState 42 = .ok (.aload_n 0, 1) := by decide +kernel
theorem dX4_saveState_43 : decode cX4_saveState 43 = .ok (.getfield 33, 3) := by decide +kernel
theorem dX4_saveState_46 : decode cX4_saveState 46 = .ok (.iconst 3, 1) := by decide +kernel
theorem dX4_saveState_47 : decode cX4_saveState 47 = .ok (.aload_n 1, 1) := by decide +kernel
theorem dX4_saveState_48 : decode cX4_saveState 48 = .ok (.aastore, 1) := by decide +kernel
theorem dX4_saveState_49 : decode cX4_saveState 49 = .ok (.aload_n 0, 1) := by decide +kernel
theorem dX4_saveState_50 : decode cX4_saveState 50 = .ok (.dup, 1) := by decide +kernel
theorem dX4_saveState_51 : decode cX4_saveState 51 = .ok (.getfield 201, 3) := by decide +kernel
theorem dX4_saveState_54 : decode cX4_saveState 54 = .ok (.iconst 1, 1) := by decide +kernel
theorem dX4_saveState_55 : decode cX4_saveState 55 = .ok (.isub, 1) := by decide +kernel
theorem dX4_saveState_56 : decode cX4_saveState 56 = .ok (.putfield 201, 3) := by decide +kernel
theorem dX4_saveState_59 : decode cX4_saveState 59 = .ok (.aload_n 0, 1) := by decide +kernel
theorem dX4_saveState_60 : decode cX4_saveState 60 = .ok (.getfield 33, 3) := by decide +kernel
theorem dX4_saveState_63 : decode cX4_saveState 63 = .ok (.aload_n 0, 1) := by decide +kernel
theorem dX4_saveState_64 : decode cX4_saveState 64 = .ok (.getfield 201, 3) := by decide +kernel
theorem dX4_saveState_67 : decode cX4_saveState 67 = .ok (.aaload, 1) := by decide +kernel
theorem dX4_saveState_68 : decode cX4_saveState 68 = .ok (.aload_n 0, 1) := by decide +kernel
theorem dX4_saveState_69 : decode cX4_saveState 69 = .ok (.getfield 12, 3) := by decide +kernel
theorem dX4_saveState_72 : decode cX4_saveState 72 = .ok (.invokevirtual 172, 3) := by decide +kernel
theorem dX4_saveState_75 : decode cX4_saveState 75 = .ok (.aload_n 0, 1) := by decide +kernel
theorem dX4_saveState_76 : decode cX4_saveState 76 = .ok (.dup, 1) := by decide +kernel
theorem dX4_saveState_77 : decode cX4_saveState 77 = .ok (.getfield 201, 3) := by decide +kernel
theorem dX4_saveState_80 : decode cX4_saveState 80 = .ok (.iconst 1, 1) := by decide +kernel
theorem dX4_saveState_81 : decode cX4_saveState 81 = .ok (.iadd, 1) := by decide +kernel
theorem dX4_saveState_82 : decode cX4_saveState 82 = .ok (.putfield 201, 3) := by decide +kernel
theorem dX4_saveState_85 : decode cX4_saveState 85 = .ok (.return_, 1) := by decide +kernel
theorem dX4_isWithin_0 : decode cX4_isWithin 0 = .ok (.iload_n 1, 1) := by decide +kernel
theorem dX4_isWithin_1 : decode cX4_isWithin 1 = .ok (.iload_n 0, 1) := by decide +kernel
theorem dX4_isWithin_2 : decode cX4_isWithin 2 = .ok (.if_icmp .gt 12, 3) := by decide +kernel
theorem dX4_isWithin_5 : decode cX4_isWithin 5 = .ok (.iload_n 0, 1) := by decide +kernel
theorem dX4_isWithin_6 : decode cX4_isWithin 6 = .ok (.iload_n 2, 1) := by decide +kernel
theorem dX4_isWithin_7 : decode cX4_isWithin 7 = .ok (.if_icmp .gt 7, 3) := by decide +kernel
theorem dX4_isWithin_10 : decode cX4_isWithin 10 = .ok (.iconst 1, 1) := by decide +kernel
theorem dX4_isWithin_11 : decode cX4_isWithin 11 = .ok (.goto 4, 3) := by decide +kernel
theorem dX4_isWithin_14 : decode cX4_isWithin 14 = .ok (.iconst 0, 1) := by decide +kernel
theorem dX4_isWithin_15 : decode cX4_isWithin 15 = .ok (.ireturn, 1) := by decide +kernel
theorem dX4_oneIf_0 : decode cX4_oneIf 0 = .ok (.iload_n 0, 1) := by decide +kernel
theorem dX4_oneIf_1 : decode cX4_oneIf 1 = .ok (.ifCond .eq 7, 3) := by decide +kernel
theorem dX4_oneIf_4 : decode cX4_oneIf 4 = .ok (.iconst 1, 1) := by decide +kernel
theorem dX4_oneIf_5 : decode cX4_oneIf 5 = .ok (.goto 4, 3) := by decide +kernel
theorem dX4_oneIf_8 : decode cX4_oneIf 8 = .ok (.iconst 0, 1) := by decide +kernel
theorem dX4_oneIf_9 : decode cX4_oneIf 9 = .ok (.ireturn, 1) := by decide +kernel
theorem dX4_needIndex_0 : decode cX4_needIndex 0 = .ok (.iload_n 0, 1) := by decide +kernel
theorem dX4_needIndex_1 : decode cX4_needIndex 1 = .ok (.ifCond .ne 13, 3) := by decide +kernel
theorem dX4_needIndex_4 : decode cX4_needIndex 4 = .ok (.new 243, 3) := by decide +kernel
theorem dX4_needIndex_7 : decode cX4_needIndex 7 = .ok (.dup, 1) := by decide +kernel
theorem dX4_needIndex_8 : decode cX4_needIndex 8 = .ok (.ldc 245, 2) := by decide +kernel
theorem dX4_needIndex_10 : decode cX4_needIndex 10 = .ok (.invokespecial 247, 3) := by decide +kernel
theorem dX4_needIndex_13 : decode cX4_needIndex 13 = .ok (.athrow, 1) := by decide +kernel
theorem dX4_needIndex_14 : decode cX4_needIndex 14 = .ok (.return_, 1) := by decide +kernel
theorem dX4_needArgument_0 : decode cX4_needArgument 0 = .ok (.iload_n 0, 1) := by decide +kernel
theorem dX4_needArgument_1 : decode cX4_needArgument 1 = .ok (.ifCond .ne 13, 3) := by decide +kernel
theorem dX4_needArgument_4 : decode cX4_needArgument 4 = .ok (.new 250, 3) := by decide +kernel
theorem dX4_needArgument_7 : decode cX4_needArgument 7 = .ok (.dup, 1) := by decide +kernel
theorem dX4_needArgument_8 : decode cX4_needArgument 8 = .ok (.ldc 252, 2) := by decide +kernel
theorem dX4_needArgument_10 : decode cX4_needArgument 10 = .ok (.invokespecial 254, 3) := by decide +kernel
theorem dX4_needArgument_13 : decode cX4_needArgument 13 = .ok (.athrow, 1) := by decide +kernel
theorem dX4_needArgument_14 : decode cX4_needArgument 14 = .ok (.return_, 1) := by decide +kernel
theorem dX4_needState_0 : decode cX4_needState 0 = .ok (.iload_n 0, 1) := by decide +kernel
theorem dX4_needState_1 : decode cX4_needState 1 = .ok (.ifCond .ne 14, 3) := by decide +kernel
theorem dX4_needState_4 : decode cX4_needState 4 = .ok (.new 255, 3) := by decide +kernel
theorem dX4_needState_7 : decode cX4_needState 7 = .ok (.dup, 1) := by decide +kernel
theorem dX4_needState_8 : decode cX4_needState 8 = .ok (.ldc_w 257, 3) := by decide +kernel
theorem dX4_needState_11 : decode cX4_needState 11 = .ok (.invokespecial 259, 3) := by decide +kernel
theorem dX4_needState_14 : decode cX4_needState 14 = .ok (.athrow, 1) := by decide +kernel
theorem dX4_needState_15 : decode cX4_needState 15 = .ok (.return_, 1) := by decide +kernel
