theorem dX6_countReached_14 : decode cX6_countReached 14 = .ok (.isub, 1) := by decide +kernel
theorem dX6_countReached_15 : decode cX6_countReached 15 = .ok (.ireturn, 1) := by decide +kernel
set_option maxRecDepth 20000 in
theorem ggX6_isReached_X6_drawMatrix : GoodIn wsX6_isReached wsX6_drawMatrix := goodIn_ca (goodIn_r _ [5, 6, 16, 17, 18, 19, 20, 21, 22, 23, 24, 25, 26, 27, 28, 29, 30] (by decide +kernel) (by decide +kernel)) (goodIn_sub (fun _ h => List.mem_cons_of_mem _ (List.mem_append_right _ h)) (by decide +kernel))
set_option maxRecDepth 20000 in
theorem gX6_isReached_X6_drawMatrix : GoodIn wsX6_isReached (wsV RX6 47 RX6 yX6_drawMatrix wsX6_drawMatrix) := goodIn_app (goodIn_of _ (by decide +kernel)) ggX6_isReached_X6_drawMatrix
set_option maxRecDepth 20000 in
theorem ggX6_isReached_X6_follow : GoodIn wsX6_isReached wsX6_follow := goodIn_ca (goodIn_r _ [10, 11, 12, 13, 14, 4, 15, 6, 16, 17, 18, 19, 20] (by decide +kernel) (by decide +kernel)) (goodIn_sub (fun _ h => List.mem_cons_of_mem _ (List.mem_append_right _ h)) (by decide +kernel))
set_option maxRecDepth 20000 in
theorem gX6_isReached_X6_follow : GoodIn wsX6_isReached (wsV RX6 59 RX6 yX6_follow wsX6_follow) := goodIn_app (goodIn_of _ (by decide +kernel)) ggX6_isReached_X6_follow
theorem dX6_isReached_0 : decode cX6_isReached 0 = .ok (.aload_n 0, 1) := by decide +kernel
theorem dX6_isReached_1 : decode cX6_isReached 1 = .ok (.aload_n 1, 1) := by decide +kernel
theorem dX6_isReached_2 : decode cX6_isReached 2 = .ok (.invokevirtual 47, 3) := by decide +kernel
theorem dX6_isReached_5 : decode cX6_isReached 5 = .ok (.aload_n 0, 1) := by decide +kernel
theorem dX6_isReached_6 : decode cX6_isReached 6 = .ok (.iload_n 2, 1) := by decide +kernel
theorem dX6_isReached_7 : decode cX6_isReached 7 = .ok (.invokevirtual 59, 3) := by decide +kernel
theorem dX6_isReached_10 : decode cX6_isReached 10 = .ok (.iconst 1, 1) := by decide +kernel
theorem dX6_isReached_11 : decode cX6_isReached 11 = .ok (.iload_n 3, 1) := by decide +kernel
theorem dX6_isReached_12 : decode cX6_isReached 12 = .ok (.ishl, 1) := by decide +kernel
theorem dX6_isReached_13 : decode cX6_isReached 13 = .ok (.iand, 1) := by decide +kernel
theorem dX6_isReached_14 : decode cX6_isReached 14 = .ok (.ifCond .eq 7, 3) := by decide +kernel
theorem dX6_isReached_17 : decode cX6_isReached 17 = .ok (.iconst 1, 1) := by decide +kernel
theorem dX6_isReached_18 : decode cX6_isReached 18 = .ok (.goto 4, 3) := by decide +kernel
theorem dX6_isReached_21 : decode cX6_isReached 21 = .ok (.iconst 0, 1) := by decide +kernel
theorem dX6_isReached_22 : decode cX6_isReached 22 = .ok (.ireturn, 1) := by decide +kernel
set_option maxRecDepth 20000 in
theorem ggX6_countReachedByRounds_X6_drawMatrix : GoodIn wsX6_countReachedByRounds wsX6_drawMatrix := goodIn_ca (goodIn_r _ [6, 7, 27, 28, 29, 30, 31, 32, 33, 34, 35, 36, 37, 38, 39, 40, 41] (by decide +kernel) (by decide +kernel)) (goodIn_sub (fun _ h => List.mem_cons_of_mem _ (List.mem_append_right _ h)) (by decide +kernel))
set_option maxRecDepth 20000 in
theorem gX6_countReachedByRounds_X6_drawMatrix : GoodIn wsX6_countReachedByRounds (wsV RX6 47 RX6 yX6_drawMatrix wsX6_drawMatrix) := goodIn_app (goodIn_of _ (by decide +kernel)) ggX6_countReachedByRounds_X6_drawMatrix
set_option maxRecDepth 20000 in
theorem ggX6_countReachedByRounds_X6_startSets : GoodIn wsX6_countReachedByRounds wsX6_startSets := goodIn_ca (goodIn_r _ [11, 1, 12, 13, 14, 5, 15, 7, 27, 28, 29, 30, 31] (by decide +kernel) (by decide +kernel)) (goodIn_sub (fun _ h => List.mem_cons_of_mem _ (List.mem_append_right _ h)) (by decide +kernel))
set_option maxRecDepth 20000 in
theorem gX6_countReachedByRounds_X6_startSets : GoodIn wsX6_countReachedByRounds (wsV RX6 68 RX6 yX6_startSets wsX6_startSets) := goodIn_app (goodIn_of _ (by decide +kernel)) ggX6_countReachedByRounds_X6_startSets
set_option maxRecDepth 20000 in
theorem ggX6_countReachedByRounds_X6_joinSets : GoodIn wsX6_countReachedByRounds wsX6_joinSets := goodIn_ca (goodIn_r _ [19, 1, 27, 28, 29, 30, 31] (by decide +kernel) (by decide +kernel)) (goodIn_sub (fun _ h => List.mem_cons_of_mem _ (List.mem_append_right _ h)) (by decide +kernel))
set_option maxRecDepth 20000 in
theorem gX6_countReachedByRounds_X6_joinSets : GoodIn wsX6_countReachedByRounds (wsV RX6 71 RX6 yX6_joinSets wsX6_joinSets) := goodIn_app (goodIn_of _ (by decide +kernel)) ggX6_countReachedByRounds_X6_joinSets
set_option maxRecDepth 20000 in
theorem ggX6_countReachedByRounds_J6_bitCount_0f7a4 : GoodIn wsX6_countReachedByRounds wsJ6_bitCount_0f7a4 := goodIn_r _ [23, 24, 25, 26] (by decide +kernel) (by decide +kernel)
set_option maxRecDepth 20000 in
theorem gX6_countReachedByRounds_J6_bitCount_0f7a4 : GoodIn wsX6_countReachedByRounds (va_wsS RX6 63 yJ6_bitCount_0f7a4 wsJ6_bitCount_0f7a4) := goodIn_app (goodIn_of _ (by decide +kernel)) ggX6_countReachedByRounds_J6_bitCount_0f7a4
theorem dX6_countReachedByRounds_0 : decode cX6_countReachedByRounds 0 = .ok (.aload_n 0, 1) := by decide +kernel
theorem dX6_countReachedByRounds_1 : decode cX6_countReachedByRounds 1 = .ok (.aload_n 1, 1) := by decide +kernel
theorem dX6_countReachedByRounds_2 : decode cX6_countReachedByRounds 2 = .ok (.invokevirtual 47, 3) := by decide +kernel
theorem dX6_countReachedByRounds_5 : decode cX6_countReachedByRounds 5 = .ok (.aload_n 0, 1) := by decide +kernel
theorem dX6_countReachedByRounds_6 : decode cX6_countReachedByRounds 6 = .ok (.invokevirtual 68, 3) := by decide +kernel
theorem dX6_countReachedByRounds_9 : decode cX6_countReachedByRounds 9 = .ok (.iconst 1, 1) := by decide +kernel
theorem dX6_countReachedByRounds_10 : decode cX6_countReachedByRounds 10 = .ok (.istore_n 3, 1) := by decide +kernel
theorem dX6_countReachedByRounds_11 : decode cX6_countReachedByRounds 11 = .ok (.iconst 0, 1) := by decide +kernel
theorem dX6_countReachedByRounds_12 : decode cX6_countReachedByRounds 12 = .ok (.istore 4, 2) := by decide +kernel
theorem dX6_countReachedByRounds_14 : decode cX6_countReachedByRounds 14 = .ok (.iload_n 3, 1) := by decide +kernel
theorem dX6_countReachedByRounds_15 : decode cX6_countReachedByRounds 15 = .ok (.ifCond .eq 21, 3) := by decide +kernel
theorem dX6_countReachedByRounds_18 : decode cX6_countReachedByRounds 18 = .ok (.iload 4, 2) := by decide +kernel
theorem dX6_countReachedByRounds_20 : decode cX6_countReachedByRounds 20 = .ok (.bipush 64, 2) := by decide +kernel
theorem dX6_countReachedByRounds_22 : decode cX6_countReachedByRounds 22 = .ok (.if_icmp .gt 14, 3) := by decide +kernel
theorem dX6_countReachedByRounds_25 : decode cX6_countReachedByRounds 25 = .ok (.aload_n 0, 1) := by decide +kernel
theorem dX6_countReachedByRounds_26 : decode cX6_countReachedByRounds 26 = .ok (.invokevirtual 71, 3) := by decide +kernel
theorem dX6_countReachedByRounds_29 : decode cX6_countReachedByRounds 29 = .ok (.istore_n 3, 1) := by decide +kernel
theorem dX6_countReachedByRounds_30 : decode cX6_countReachedByRounds 30 = .ok (.iinc 4 1, 3) := by decide +kernel
theorem dX6_countReachedByRounds_33 : decode cX6_countReachedByRounds 33 = .ok (.goto (-19), 3) := by decide +kernel
theorem dX6_countReachedByRounds_36 : decode cX6_countReachedByRounds 36 = .ok (.aload_n 0, 1) := by decide +kernel
theorem dX6_countReachedByRounds_37 : decode cX6_countReachedByRounds 37 = .ok (.getfield 24, 3) := by decide +kernel
theorem dX6_countReachedByRounds_40 : decode cX6_countReachedByRounds 40 = .ok (.iload_n 2, 1) := by decide +kernel
theorem dX6_countReachedByRounds_41 : decode cX6_countReachedByRounds 41 = .ok (.iaload, 1) := by decide +kernel
theorem dX6_countReachedByRounds_42 : decode cX6_countReachedByRounds 42 = .ok (.iconst 1, 1) := by decide +kernel
theorem dX6_countReachedByRounds_43 : decode cX6_countReachedByRounds 43 = .ok (.iload_n 2, 1) := by decide +kernel
theorem dX6_countReachedByRounds_44 : decode cX6_countReachedByRounds 44 = .ok (.ishl, 1) := by decide +kernel
theorem dX6_countReachedByRounds_45 : decode cX6_countReachedByRounds 45 = .ok (.iconst (-1), 1) := by decide +kernel
theorem dX6_countReachedByRounds_46 : decode cX6_countReachedByRounds 46 = .ok (.ixor, 1) := by decide +kernel
theorem dX6_countReachedByRounds_47 : decode cX6_countReachedByRounds 47 = .ok (.iand, 1) := by decide +kernel
theorem dX6_countReachedByRounds_48 : decode cX6_countReachedByRounds 48 = .ok (.invokestatic 63, 3) := by decide +kernel
theorem dX6_countReachedByRounds_51 : decode cX6_countReachedByRounds 51 = .ok (.ireturn, 1) := by decide +kernel
theorem dX6_drawMatrix_0 : decode cX6_drawMatrix 0 = .ok (.iconst 0, 1) := by decide +kernel
theorem dX6_drawMatrix_1 : decode cX6_drawMatrix 1 = .ok (.istore_n 2, 1) := by decide +kernel
theorem dX6_drawMatrix_2 : decode cX6_drawMatrix 2 = .ok (.iload_n 2, 1) := by decide +kernel
theorem dX6_drawMatrix_3 : decode cX6_drawMatrix 3 = .ok (.bipush 64, 2) := by decide +kernel
theorem dX6_drawMatrix_5 : decode cX6_drawMatrix 5 = .ok (.if_icmp .ge 29, 3) := by decide +kernel
theorem dX6_drawMatrix_8 : decode cX6_drawMatrix 8 = .ok (.aload_n 0, 1) := by decide +kernel
theorem dX6_drawMatrix_9 : decode cX6_drawMatrix 9 = .ok (.getfield 9, 3) := by decide +kernel
theorem dX6_drawMatrix_12 : decode cX6_drawMatrix 12 = .ok (.iload_n 2, 1) := by decide +kernel
theorem dX6_drawMatrix_13 : decode cX6_drawMatrix 13 = .ok (.aload_n 1, 1) := by decide +kernel
theorem dX6_drawMatrix_14 : decode cX6_drawMatrix 14 = .ok (.getfield 75, 3) := by decide +kernel
theorem dX6_drawMatrix_17 : decode cX6_drawMatrix 17 = .ok (.iload_n 2, 1) := by decide +kernel
theorem dX6_drawMatrix_18 : decode cX6_drawMatrix 18 = .ok (.iaload, 1) := by decide +kernel
theorem dX6_drawMatrix_19 : decode cX6_drawMatrix 19 = .ok (.ifCond .le 7, 3) := by decide +kernel
theorem dX6_drawMatrix_22 : decode cX6_drawMatrix 22 = .ok (.iconst 1, 1) := by decide +kernel
theorem dX6_drawMatrix_23 : decode cX6_drawMatrix 23 = .ok (.goto 4, 3) := by decide +kernel
theorem dX6_drawMatrix_26 : decode cX6_drawMatrix 26 = .ok (.iconst 0, 1) := by decide +kernel
theorem dX6_drawMatrix_27 : decode cX6_drawMatrix 27 = .ok (.iastore, 1) := by decide +kernel
theorem dX6_drawMatrix_28 : decode cX6_drawMatrix 28 = .ok (.iinc 2 1, 3) := by decide +kernel
theorem dX6_drawMatrix_31 : decode cX6_drawMatrix 31 = .ok (.goto (-29), 3) := by decide +kernel
theorem dX6_drawMatrix_34 : decode cX6_drawMatrix 34 = .ok (.return_, 1) := by decide +kernel
theorem dX6_owes_0 : decode cX6_owes 0 = .ok (.aload_n 0, 1) := by decide +kernel
theorem dX6_owes_1 : decode cX6_owes 1 = .ok (.getfield 9, 3) := by decide +kernel
theorem dX6_owes_4 : decode cX6_owes 4 = .ok (.iload_n 1, 1) := by decide +kernel
theorem dX6_owes_5 : decode cX6_owes 5 = .ok (.bipush 8, 2) := by decide +kernel
theorem dX6_owes_7 : decode cX6_owes 7 = .ok (.imul, 1) := by decide +kernel
theorem dX6_owes_8 : decode cX6_owes 8 = .ok (.iload_n 2, 1) := by decide +kernel
theorem dX6_owes_9 : decode cX6_owes 9 = .ok (.iadd, 1) := by decide +kernel
theorem dX6_owes_10 : decode cX6_owes 10 = .ok (.iaload, 1) := by decide +kernel
theorem dX6_owes_11 : decode cX6_owes 11 = .ok (.iconst 1, 1) := by decide +kernel
theorem dX6_owes_12 : decode cX6_owes 12 = .ok (.if_icmp .ne 7, 3) := by decide +kernel
theorem dX6_owes_15 : decode cX6_owes 15 = .ok (.iconst 1, 1) := by decide +kernel
theorem dX6_owes_16 : decode cX6_owes 16 = .ok (.goto 4, 3) := by decide +kernel
theorem dX6_owes_19 : decode cX6_owes 19 = .ok (.iconst 0, 1) := by decide +kernel
theorem dX6_owes_20 : decode cX6_owes 20 = .ok (.ireturn, 1) := by decide +kernel
set_option maxRecDepth 20000 in
theorem ggX6_follow_X6_owes : GoodIn wsX6_follow wsX6_owes := goodIn_ca (goodIn_r _ [6, 7, 8, 9, 10, 11, 12] (by decide +kernel) (by decide +kernel)) (goodIn_sub (fun _ h => List.mem_cons_of_mem _ (List.mem_append_right _ h)) (by decide +kernel))
set_option maxRecDepth 20000 in
theorem gX6_follow_X6_owes : GoodIn wsX6_follow (wsV RX6 51 RX6 yX6_owes wsX6_owes) := goodIn_app (goodIn_of _ (by decide +kernel)) ggX6_follow_X6_owes
theorem dX6_follow_0 : decode cX6_follow 0 = .ok (.iconst 1, 1) := by decide +kernel
theorem dX6_follow_1 : decode cX6_follow 1 = .ok (.iload_n 1, 1) := by decide +kernel
theorem dX6_follow_2 : decode cX6_follow 2 = .ok (.ishl, 1) := by decide +kernel
theorem dX6_follow_3 : decode cX6_follow 3 = .ok (.istore_n 2, 1) := by decide +kernel
theorem dX6_follow_4 : decode cX6_follow 4 = .ok (.iconst 1, 1) := by decide +kernel
theorem dX6_follow_5 : decode cX6_follow 5 = .ok (.istore_n 3, 1) := by decide +kernel
theorem dX6_follow_6 : decode cX6_follow 6 = .ok (.aload_n 0, 1) := by decide +kernel
theorem dX6_follow_7 : decode cX6_follow 7 = .ok (.getfield 21, 3) := by decide +kernel
theorem dX6_follow_10 : decode cX6_follow 10 = .ok (.iconst 0, 1) := by decide +kernel
theorem dX6_follow_11 : decode cX6_follow 11 = .ok (.iload_n 1, 1) := by decide +kernel
theorem dX6_follow_12 : decode cX6_follow 12 = .ok (.iastore, 1) := by decide +kernel
theorem dX6_follow_13 : decode cX6_follow 13 = .ok (.iconst 0, 1) := by decide +kernel
theorem dX6_follow_14 : decode cX6_follow 14 = .ok (.istore 4, 2) := by decide +kernel
theorem dX6_follow_16 : decode cX6_follow 16 = .ok (.iload 4, 2) := by decide +kernel
theorem dX6_follow_18 : decode cX6_follow 18 = .ok (.iload_n 3, 1) := by decide +kernel
theorem dX6_follow_19 : decode cX6_follow 19 = .ok (.if_icmp .ge 93, 3) := by decide +kernel
theorem dX6_follow_22 : decode cX6_follow 22 = .ok (.iload 4, 2) := by decide +kernel
theorem dX6_follow_24 : decode cX6_follow 24 = .ok (.bipush 8, 2) := by decide +kernel
theorem dX6_follow_26 : decode cX6_follow 26 = .ok (.if_icmp .ge 86, 3) := by decide +kernel
theorem dX6_follow_29 : decode cX6_follow 29 = .ok (.iconst 0, 1) := by decide +kernel
theorem dX6_follow_30 : decode cX6_follow 30 = .ok (.istore 5, 2) := by decide +kernel
theorem dX6_follow_32 : decode cX6_follow 32 = .ok (.iload 5, 2) := by decide +kernel
theorem dX6_follow_34 : decode cX6_follow 34 = .ok (.bipush 8, 2) := by decide +kernel
theorem dX6_follow_36 : decode cX6_follow 36 = .ok (.if_icmp .ge 70, 3) := by decide +kernel
theorem dX6_follow_39 : decode cX6_follow 39 = .ok (.iload_n 2, 1) := by decide +kernel
theorem dX6_follow_40 : decode cX6_follow 40 = .ok (.iconst 1, 1) := by decide +kernel
theorem dX6_follow_41 : decode cX6_follow 41 = .ok (.iload 5, 2) := by decide +kernel
theorem dX6_follow_43 : decode cX6_follow 43 = .ok (.ishl, 1) := by decide +kernel
theorem dX6_follow_44 : decode cX6_follow 44 = .ok (.iand, 1) := by decide +kernel
theorem dX6_follow_45 : decode cX6_follow 45 = .ok (.ifCond .ne 7, 3) := by decide +kernel
theorem dX6_follow_48 : decode cX6_follow 48 = .ok (.iconst 1, 1) := by decide +kernel
theorem dX6_follow_49 : decode cX6_follow 49 = .ok (.goto 4, 3) := by decide +kernel
theorem dX6_follow_52 : decode cX6_follow 52 = .ok (.iconst 0, 1) := by decide +kernel
theorem dX6_follow_53 : decode cX6_follow 53 = .ok (.istore 6, 2) := by decide +kernel
theorem dX6_follow_55 : decode cX6_follow 55 = .ok (.iload 6, 2) := by decide +kernel
theorem dX6_follow_57 : decode cX6_follow 57 = .ok (.ifCond .eq 43, 3) := by decide +kernel
theorem dX6_follow_60 : decode cX6_follow 60 = .ok (.aload_n 0, 1) := by decide +kernel
theorem dX6_follow_61 : decode cX6_follow 61 = .ok (.aload_n 0, 1) := by decide +kernel
theorem dX6_follow_62 : decode cX6_follow 62 = .ok (.getfield 21, 3) := by decide +kernel
theorem dX6_follow_65 : decode cX6_follow 65 = .ok (.iload 4, 2) := by decide +kernel
theorem dX6_follow_67 : decode cX6_follow 67 = .ok (.iaload, 1) := by decide +kernel
theorem dX6_follow_68 : decode cX6_follow 68 = .ok (.iload 5, 2) := by decide +kernel
theorem dX6_follow_70 : decode cX6_follow 70 = .ok (.invokevirtual 51, 3) := by decide +kernel
theorem dX6_follow_73 : decode cX6_follow 73 = .ok (.ifCond .eq 27, 3) := by decide +kernel
theorem dX6_follow_76 : decode cX6_follow 76 = .ok (.iload_n 3, 1) := by decide +kernel
theorem dX6_follow_77 : decode cX6_follow 77 = .ok (.bipush 8, 2) := by decide +kernel
theorem dX6_follow_79 : decode cX6_follow 79 = .ok (.if_icmp .ge 21, 3) := by decide +kernel
theorem dX6_follow_82 : decode cX6_follow 82 = .ok (.iload_n 2, 1) := by decide +kernel
theorem dX6_follow_83 : decode cX6_follow 83 = .ok (.iconst 1, 1) := by decide +kernel
theorem dX6_follow_84 : decode cX6_follow 84 = .ok (.iload 5, 2) := by decide +kernel
theorem dX6_follow_86 : decode cX6_follow 86 = .ok (.ishl, 1) := by decide +kernel
theorem dX6_follow_87 : decode cX6_follow 87 = .ok (.ior, 1) := by decide +kernel
theorem dX6_follow_88 : decode cX6_follow 88 = .ok (.istore_n 2, 1) := by decide +kernel
theorem dX6_follow_89 : decode cX6_follow 89 = .ok (.aload_n 0, 1) := by decide +kernel
theorem dX6_follow_90 : decode cX6_follow 90 = .ok (.getfield 21, 3) := by decide +kernel
theorem dX6_follow_93 : decode cX6_follow 93 = .ok (.iload_n 3, 1) := by decide +kernel
theorem dX6_follow_94 : decode cX6_follow 94 = .ok (.iload 5, 2) := by decide +kernel
theorem dX6_follow_96 : decode cX6_follow 96 = .ok (.iastore, 1) := by decide +kernel
theorem dX6_follow_97 : decode cX6_follow 97 = .ok (.iinc 3 1, 3) := by decide +kernel
theorem dX6_follow_100 : decode cX6_follow 100 = .ok (.iinc 5 1, 3) := by decide +kernel
theorem dX6_follow_103 : decode cX6_follow 103 = .ok (.goto (-71), 3) := by decide +kernel
theorem dX6_follow_106 : decode cX6_follow 106 = .ok (.iinc 4 1, 3) := by decide +kernel
theorem dX6_follow_109 : decode cX6_follow 109 = .ok (.goto (-93), 3) := by decide +kernel
theorem dX6_follow_112 : decode cX6_follow 112 = .ok (.iload_n 2, 1) := by decide +kernel
theorem dX6_follow_113 : decode cX6_follow 113 = .ok (.ireturn, 1) := by decide +kernel
set_option maxRecDepth 20000 in
theorem ggX6_startSets_X6_owes : GoodIn wsX6_startSets wsX6_owes := goodIn_ca (goodIn_r _ [6, 7, 8, 9, 10, 11, 12] (by decide +kernel) (by decide +kernel)) (goodIn_sub (fun _ h => List.mem_cons_of_mem _ (List.mem_append_right _ h)) (by decide +kernel))
set_option maxRecDepth 20000 in
theorem gX6_startSets_X6_owes : GoodIn wsX6_startSets (wsV RX6 51 RX6 yX6_owes wsX6_owes) := goodIn_app (goodIn_of _ (by decide +kernel)) ggX6_startSets_X6_owes
theorem dX6_startSets_0 : decode cX6_startSets 0 = .ok (.iconst 0, 1) := by decide +kernel
theorem dX6_startSets_1 : decode cX6_startSets 1 = .ok (.istore_n 1, 1) := by decide +kernel
theorem dX6_startSets_2 : decode cX6_startSets 2 = .ok (.iload_n 1, 1) := by decide +kernel
theorem dX6_startSets_3 : decode cX6_startSets 3 = .ok (.bipush 8, 2) := by decide +kernel
theorem dX6_startSets_5 : decode cX6_startSets 5 = .ok (.if_icmp .ge 51, 3) := by decide +kernel
theorem dX6_startSets_8 : decode cX6_startSets 8 = .ok (.aload_n 0, 1) := by decide +kernel
theorem dX6_startSets_9 : decode cX6_startSets 9 = .ok (.getfield 24, 3) := by decide +kernel
theorem dX6_startSets_12 : decode cX6_startSets 12 = .ok (.iload_n 1, 1) := by decide +kernel
theorem dX6_startSets_13 : decode cX6_startSets 13 = .ok (.iconst 0, 1) := by decide +kernel
theorem dX6_startSets_14 : decode cX6_startSets 14 = .ok (.iastore, 1) := by decide +kernel
theorem dX6_startSets_15 : decode cX6_startSets 15 = .ok (.iconst 0, 1) := by decide +kernel
theorem dX6_startSets_16 : decode cX6_startSets 16 = .ok (.istore_n 2, 1) := by decide +kernel
theorem dX6_startSets_17 : decode cX6_startSets 17 = .ok (.iload_n 2, 1) := by decide +kernel
theorem dX6_startSets_18 : decode cX6_startSets 18 = .ok (.bipush 8, 2) := by decide +kernel
theorem dX6_startSets_20 : decode cX6_startSets 20 = .ok (.if_icmp .ge 30, 3) := by decide +kernel
theorem dX6_startSets_23 : decode cX6_startSets 23 = .ok (.aload_n 0, 1) := by decide +kernel
theorem dX6_startSets_24 : decode cX6_startSets 24 = .ok (.iload_n 1, 1) := by decide +kernel
theorem dX6_startSets_25 : decode cX6_startSets 25 = .ok (.iload_n 2, 1) := by decide +kernel
theorem dX6_startSets_26 : decode cX6_startSets 26 = .ok (.invokevirtual 51, 3) := by decide +kernel
theorem dX6_startSets_29 : decode cX6_startSets 29 = .ok (.ifCond .eq 15, 3) := by decide +kernel
theorem dX6_startSets_32 : decode cX6_startSets 32 = .ok (.aload_n 0, 1) := by decide +kernel
theorem dX6_startSets_33 : decode cX6_startSets 33 = .ok (.getfield 24, 3) := by decide +kernel
theorem dX6_startSets_36 : decode cX6_startSets 36 = .ok (.iload_n 1, 1) := by decide +kernel
theorem dX6_startSets_37 : decode cX6_startSets 37 = .ok (.dup2, 1) := by decide +kernel
theorem dX6_startSets_38 : decode cX6_startSets 38 = .ok (.iaload, 1) := by decide +kernel
theorem dX6_startSets_39 : decode cX6_startSets 39 = .ok (.iconst 1, 1) := by decide +kernel
theorem dX6_startSets_40 : decode cX6_startSets 40 = .ok (.iload_n 2, 1) := by decide +kernel
theorem dX6_startSets_41 : decode cX6_startSets 41 = .ok (.ishl, 1) := by decide +kernel
theorem dX6_startSets_42 : decode cX6_startSets 42 = .ok (.ior, 1) := by decide +kernel
theorem dX6_startSets_43 : decode cX6_startSets 43 = .ok (.iastore, 1) := by decide +kernel
theorem dX6_startSets_44 : decode cX6_startSets 44 = .ok (.iinc 2 1, 3) := by decide +kernel
theorem dX6_startSets_47 : decode cX6_startSets 47 = .ok (.goto (-30), 3) := by decide +kernel
theorem dX6_startSets_50 : decode cX6_startSets 50 = .ok (.iinc 1 1, 3) := by decide +kernel
theorem dX6_startSets_53 : decode cX6_startSets 53 = .ok (.goto (-51), 3) := by decide +kernel
theorem dX6_startSets_56 : decode cX6_startSets 56 = .ok (.return_, 1) := by decide +kernel
theorem dX6_joinSets_0 : decode cX6_joinSets 0 = .ok (.iconst 0, 1) := by decide +kernel
theorem dX6_joinSets_1 : decode cX6_joinSets 1 = .ok (.istore_n 1, 1) := by decide +kernel
theorem dX6_joinSets_2 : decode cX6_joinSets 2 = .ok (.iconst 0, 1) := by decide +kernel
theorem dX6_joinSets_3 : decode cX6_joinSets 3 = .ok (.istore_n 2, 1) := by decide +kernel
theorem dX6_joinSets_4 : decode cX6_joinSets 4 = .ok (.iload_n 2, 1) := by decide +kernel
theorem dX6_joinSets_5 : decode cX6_joinSets 5 = .ok (.bipush 8, 2) := by decide +kernel
theorem dX6_joinSets_7 : decode cX6_joinSets 7 = .ok (.if_icmp .ge 75, 3) := by decide +kernel
theorem dX6_joinSets_10 : decode cX6_joinSets 10 = .ok (.aload_n 0, 1) := by decide +kernel
theorem dX6_joinSets_11 : decode cX6_joinSets 11 = .ok (.getfield 24, 3) := by decide +kernel
theorem dX6_joinSets_14 : decode cX6_joinSets 14 = .ok (.iload_n 2, 1) := by decide +kernel
theorem dX6_joinSets_15 : decode cX6_joinSets 15 = .ok (.iaload, 1) := by decide +kernel
theorem dX6_joinSets_16 : decode cX6_joinSets 16 = .ok (.istore_n 3, 1) := by decide +kernel
theorem dX6_joinSets_17 : decode cX6_joinSets 17 = .ok (.iconst 0, 1) := by decide +kernel
theorem dX6_joinSets_18 : decode cX6_joinSets 18 = .ok (.istore 4, 2) := by decide +kernel
theorem dX6_joinSets_20 : decode cX6_joinSets 20 = .ok (.iload 4, 2) := by decide +kernel
theorem dX6_joinSets_22 : decode cX6_joinSets 22 = .ok (.bipush 8, 2) := by decide +kernel
theorem dX6_joinSets_24 : decode cX6_joinSets 24 = .ok (.if_icmp .ge 33, 3) := by decide +kernel
theorem dX6_joinSets_27 : decode cX6_joinSets 27 = .ok (.aload_n 0, 1) := by decide +kernel
theorem dX6_joinSets_28 : decode cX6_joinSets 28 = .ok (.getfield 24, 3) := by decide +kernel
theorem dX6_joinSets_31 : decode cX6_joinSets 31 = .ok (.iload_n 2, 1) := by decide +kernel
theorem dX6_joinSets_32 : decode cX6_joinSets 32 = .ok (.iaload, 1) := by decide +kernel
theorem dX6_joinSets_33 : decode cX6_joinSets 33 = .ok (.iconst 1, 1) := by decide +kernel
theorem dX6_joinSets_34 : decode cX6_joinSets 34 = .ok (.iload 4, 2) := by decide +kernel
theorem dX6_joinSets_36 : decode cX6_joinSets 36 = .ok (.ishl, 1) := by decide +kernel
theorem dX6_joinSets_37 : decode cX6_joinSets 37 = .ok (.iand, 1) := by decide +kernel
theorem dX6_joinSets_38 : decode cX6_joinSets 38 = .ok (.ifCond .eq 13, 3) := by decide +kernel
theorem dX6_joinSets_41 : decode cX6_joinSets 41 = .ok (.iload_n 3, 1) := by decide +kernel
theorem dX6_joinSets_42 : decode cX6_joinSets 42 = .ok (.aload_n 0, 1) := by decide +kernel
theorem dX6_joinSets_43 : decode cX6_joinSets 43 = .ok (.getfield 24, 3) := by decide +kernel
theorem dX6_joinSets_46 : decode cX6_joinSets 46 = .ok (.iload 4, 2) := by decide +kernel
theorem dX6_joinSets_48 : decode cX6_joinSets 48 = .ok (.iaload, 1) := by decide +kernel
theorem dX6_joinSets_49 : decode cX6_joinSets 49 = .ok (.ior, 1) := by decide +kernel
theorem dX6_joinSets_50 : decode cX6_joinSets 50 = .ok (.istore_n 3, 1) := by decide +kernel
theorem dX6_joinSets_51 : decode cX6_joinSets 51 = .ok (.iinc 4 1, 3) := by decide +kernel
theorem dX6_joinSets_54 : decode cX6_joinSets 54 = .ok (.goto (-34), 3) := by decide +kernel
theorem dX6_joinSets_57 : decode cX6_joinSets 57 = .ok (.iload_n 3, 1) := by decide +kernel
theorem dX6_joinSets_58 : decode cX6_joinSets 58 = .ok (.aload_n 0, 1) := by decide +kernel
theorem dX6_joinSets_59 : decode cX6_joinSets 59 = .ok (.getfield 24, 3) := by decide +kernel
theorem dX6_joinSets_62 : decode cX6_joinSets 62 = .ok (.iload_n 2, 1) := by decide +kernel
theorem dX6_joinSets_63 : decode cX6_joinSets 63 = .ok (.iaload, 1) := by decide +kernel
theorem dX6_joinSets_64 : decode cX6_joinSets 64 = .ok (.if_icmp .eq 12, 3) := by decide +kernel
theorem dX6_joinSets_67 : decode cX6_joinSets 67 = .ok (.aload_n 0, 1) := by decide +kernel
theorem dX6_joinSets_68 : decode cX6_joinSets 68 = .ok (.getfield 24, 3) := by decide +kernel
theorem dX6_joinSets_71 : decode cX6_joinSets 71 = .ok (.iload_n 2, 1) := by decide +kernel
theorem dX6_joinSets_72 : decode cX6_joinSets 72 = .ok (.iload_n 3, 1) := by decide +kernel
theorem dX6_joinSets_73 : decode cX6_joinSets 73 = .ok (.iastore, 1) := by decide +kernel
theorem dX6_joinSets_74 : decode cX6_joinSets 74 = .ok (.iconst 1, 1) := by decide +kernel
theorem dX6_joinSets_75 : decode cX6_joinSets 75 = .ok (.istore_n 1, 1) := by decide +kernel
theorem dX6_joinSets_76 : decode cX6_joinSets 76 = .ok (.iinc 2 1, 3) := by decide +kernel
theorem dX6_joinSets_79 : decode cX6_joinSets 79 = .ok (.goto (-75), 3) := by decide +kernel
theorem dX6_joinSets_82 : decode cX6_joinSets 82 = .ok (.iload_n 1, 1) := by decide +kernel
theorem dX6_joinSets_83 : decode cX6_joinSets 83 = .ok (.ireturn, 1) := by decide +kernel
theorem dX7_init_0 : decode cX7_init 0 = .ok (.aload_n 0, 1) := by decide +kernel
theorem dX7_init_1 : decode cX7_init 1 = .ok (.invokespecial 3, 3) := by decide +kernel
theorem dX7_init_4 : decode cX7_init 4 = .ok (.aload_n 0, 1) := by decide +kernel
theorem dX7_init_5 : decode cX7_init 5 = .ok (.bipush 8, 2) := by decide +kernel
theorem dX7_init_7 : decode cX7_init 7 = .ok (.newarray .int, 2) := by decide +kernel
theorem dX7_init_9 : decode cX7_init 9 = .ok (.putfield 9, 3) := by decide +kernel
theorem dX7_init_12 : decode cX7_init 12 = .ok (.aload_n 0, 1) := by decide +kernel
theorem dX7_init_13 : decode cX7_init 13 = .ok (.bipush 8, 2) := by decide +kernel
theorem dX7_init_15 : decode cX7_init 15 = .ok (.newarray .int, 2) := by decide +kernel
theorem dX7_init_17 : decode cX7_init 17 = .ok (.putfield 15, 3) := by decide +kernel
theorem dX7_init_20 : decode cX7_init 20 = .ok (.return_, 1) := by decide +kernel
set_option maxRecDepth 20000 in
theorem ggX7_settle_X5_lossOf : GoodIn wsX7_settle wsX5_lossOf := goodIn_ca (goodIn_r _ [6, 7, 8, 9, 5, 10, 11, 12, 13, 14, 15, 16, 17, 18, 19, 20, 21, 22, 23, 24, 25, 26, 53, 54, 55, 56, 57, 58, 59, 60, 61, 62] (by decide +kernel) (by decide +kernel)) (goodIn_sub (fun _ h => List.mem_cons_of_mem _ (List.mem_append_left _ (List.mem_append_right _ h))) (by decide +kernel))
set_option maxRecDepth 20000 in
theorem gX7_settle_X5_lossOf : GoodIn wsX7_settle (wsV RX7 18 RX5 yX5_lossOf wsX5_lossOf) := goodIn_app (goodIn_of _ (by decide +kernel)) ggX7_settle_X5_lossOf
set_option maxRecDepth 20000 in
theorem ggX7_settle_X7_divide : GoodIn wsX7_settle wsX7_divide := goodIn_ca (goodIn_ca (goodIn_r _ [31, 1, 32, 33, 34, 35, 36, 37, 8, 9, 5, 10, 11, 12, 13, 14, 15, 38, 17, 18, 19, 20, 21, 22, 23, 24, 25, 26, 39, 40, 41, 42, 30, 43, 63, 64, 53, 54, 55, 56, 57, 58, 59, 60, 61, 62] (by decide +kernel) (by decide +kernel)) (goodIn_sub (fun _ h => List.mem_cons_of_mem _ (List.mem_append_right _ h)) (by decide +kernel))) (goodIn_sub (fun _ h => List.mem_cons_of_mem _ (List.mem_append_left _ (List.mem_append_right _ h))) (by decide +kernel))
set_option maxRecDepth 20000 in
theorem gX7_settle_X7_divide : GoodIn wsX7_settle (wsV RX7 24 RX7 yX7_divide wsX7_divide) := goodIn_app (goodIn_of _ (by decide +kernel)) ggX7_settle_X7_divide
set_option maxRecDepth 20000 in
theorem ggX7_settle_X5_forgiveDebts : GoodIn wsX7_settle wsX5_forgiveDebts := goodIn_ca (goodIn_r _ [47, 11, 12, 13, 5, 14, 15, 48, 49, 50, 51, 52, 53, 54, 55, 56, 57, 58, 59, 60, 61, 62] (by decide +kernel) (by decide +kernel)) (goodIn_sub (fun _ h => List.mem_cons_of_mem _ (List.mem_append_left _ (List.mem_append_right _ h))) (by decide +kernel))
set_option maxRecDepth 20000 in
theorem gX7_settle_X5_forgiveDebts : GoodIn wsX7_settle (wsV RX7 34 RX5 yX5_forgiveDebts wsX5_forgiveDebts) := goodIn_app (goodIn_of _ (by decide +kernel)) ggX7_settle_X5_forgiveDebts
theorem dX7_settle_0 : decode cX7_settle 0 = .ok (.aload_n 1, 1) := by decide +kernel
theorem dX7_settle_1 : decode cX7_settle 1 = .ok (.iload_n 2, 1) := by decide +kernel
theorem dX7_settle_2 : decode cX7_settle 2 = .ok (.invokevirtual 18, 3) := by decide +kernel
theorem dX7_settle_5 : decode cX7_settle 5 = .ok (.istore_n 3, 1) := by decide +kernel
theorem dX7_settle_6 : decode cX7_settle 6 = .ok (.aload_n 0, 1) := by decide +kernel
theorem dX7_settle_7 : decode cX7_settle 7 = .ok (.aload_n 1, 1) := by decide +kernel
theorem dX7_settle_8 : decode cX7_settle 8 = .ok (.iload_n 2, 1) := by decide +kernel
theorem dX7_settle_9 : decode cX7_settle 9 = .ok (.invokevirtual 24, 3) := by decide +kernel
theorem dX7_settle_12 : decode cX7_settle 12 = .ok (.iconst 0, 1) := by decide +kernel
theorem dX7_settle_13 : decode cX7_settle 13 = .ok (.istore 4, 2) := by decide +kernel
theorem dX7_settle_15 : decode cX7_settle 15 = .ok (.iload 4, 2) := by decide +kernel
theorem dX7_settle_17 : decode cX7_settle 17 = .ok (.bipush 8, 2) := by decide +kernel
theorem dX7_settle_19 : decode cX7_settle 19 = .ok (.if_icmp .ge 26, 3) := by decide +kernel
theorem dX7_settle_22 : decode cX7_settle 22 = .ok (.aload_n 1, 1) := by decide +kernel
theorem dX7_settle_23 : decode cX7_settle 23 = .ok (.getfield 28, 3) := by decide +kernel
theorem dX7_settle_26 : decode cX7_settle 26 = .ok (.iload 4, 2) := by decide +kernel
theorem dX7_settle_28 : decode cX7_settle 28 = .ok (.dup2, 1) := by decide +kernel
theorem dX7_settle_29 : decode cX7_settle 29 = .ok (.iaload, 1) := by decide +kernel
theorem dX7_settle_30 : decode cX7_settle 30 = .ok (.aload_n 0, 1) := by decide +kernel
theorem dX7_settle_31 : decode cX7_settle 31 = .ok (.getfield 9, 3) := by decide +kernel
theorem dX7_settle_34 : decode cX7_settle 34 = .ok (.iload 4, 2) := by decide +kernel
theorem dX7_settle_36 : decode cX7_settle 36 = .ok (.iaload, 1) := by decide +kernel
theorem dX7_settle_37 : decode cX7_settle 37 = .ok (.iadd, 1) := by decide +kernel
theorem dX7_settle_38 : decode cX7_settle 38 = .ok (.iastore, 1) := by decide +kernel
theorem dX7_settle_39 : decode cX7_settle 39 = .ok (.iinc 4 1, 3) := by decide +kernel
theorem dX7_settle_42 : decode cX7_settle 42 = .ok (.goto (-27), 3) := by decide +kernel
theorem dX7_settle_45 : decode cX7_settle 45 = .ok (.aload_n 1, 1) := by decide +kernel
theorem dX7_settle_46 : decode cX7_settle 46 = .ok (.getfield 28, 3) := by decide +kernel
theorem dX7_settle_49 : decode cX7_settle 49 = .ok (.iload_n 2, 1) := by decide +kernel
theorem dX7_settle_50 : decode cX7_settle 50 = .ok (.iconst 0, 1) := by decide +kernel
theorem dX7_settle_51 : decode cX7_settle 51 = .ok (.iastore, 1) := by decide +kernel
theorem dX7_settle_52 : decode cX7_settle 52 = .ok (.aload_n 1, 1) := by decide +kernel
theorem dX7_settle_53 : decode cX7_settle 53 = .ok (.getfield 31, 3) := by decide +kernel
theorem dX7_settle_56 : decode cX7_settle 56 = .ok (.iload_n 2, 1) := by decide +kernel
theorem dX7_settle_57 : decode cX7_settle 57 = .ok (.iconst 0, 1) := by decide +kernel
theorem dX7_settle_58 : decode cX7_settle 58 = .ok (.iastore, 1) := by decide +kernel
theorem dX7_settle_59 : decode cX7_settle 59 = .ok (.aload_n 1, 1) := by decide +kernel
theorem dX7_settle_60 : decode cX7_settle 60 = .ok (.iload_n 2, 1) := by decide +kernel
theorem dX7_settle_61 : decode cX7_settle 61 = .ok (.invokevirtual 34, 3) := by decide +kernel
theorem dX7_settle_64 : decode cX7_settle 64 = .ok (.aload_n 1, 1) := by decide +kernel
theorem dX7_settle_65 : decode cX7_settle 65 = .ok (.getfield 38, 3) := by decide +kernel
theorem dX7_settle_68 : decode cX7_settle 68 = .ok (.iload_n 2, 1) := by decide +kernel
theorem dX7_settle_69 : decode cX7_settle 69 = .ok (.iconst 1, 1) := by decide +kernel
theorem dX7_settle_70 : decode cX7_settle 70 = .ok (.bastore, 1) := by decide +kernel
theorem dX7_settle_71 : decode cX7_settle 71 = .ok (.aload_n 1, 1) := by decide +kernel
theorem dX7_settle_72 : decode cX7_settle 72 = .ok (.dup, 1) := by decide +kernel
theorem dX7_settle_73 : decode cX7_settle 73 = .ok (.getfield 42, 3) := by decide +kernel
theorem dX7_settle_76 : decode cX7_settle 76 = .ok (.iload_n 3, 1) := by decide +kernel
theorem dX7_settle_77 : decode cX7_settle 77 = .ok (.iadd, 1) := by decide +kernel
theorem dX7_settle_78 : decode cX7_settle 78 = .ok (.putfield 42, 3) := by decide +kernel
theorem dX7_settle_81 : decode cX7_settle 81 = .ok (.iload_n 3, 1) := by decide +kernel
theorem dX7_settle_82 : decode cX7_settle 82 = .ok (.ireturn, 1) := by decide +kernel
set_option maxRecDepth 20000 in
theorem ggX7_shareOf_X7_divide : GoodIn wsX7_shareOf wsX7_divide := goodIn_ca (goodIn_ca (goodIn_r _ [6, 1, 7, 8, 9, 10, 11, 12, 13, 14, 15, 16, 17, 18, 19, 20, 21, 22, 23, 24, 25, 26, 27, 28, 29, 30, 31, 32, 33, 34, 35, 36, 5, 37, 38, 39, 40, 41, 42, 43, 44, 45, 46, 47, 48, 49] (by decide +kernel) (by decide +kernel)) (goodIn_sub (fun _ h => List.mem_cons_of_mem _ (List.mem_append_right _ h)) (by decide +kernel))) (goodIn_sub (fun _ h => List.mem_cons_of_mem _ (List.mem_append_left _ (List.mem_append_right _ h))) (by decide +kernel))
set_option maxRecDepth 20000 in
theorem gX7_shareOf_X7_divide : GoodIn wsX7_shareOf (wsV RX7 24 RX7 yX7_divide wsX7_divide) := goodIn_app (goodIn_of _ (by decide +kernel)) ggX7_shareOf_X7_divide
theorem dX7_shareOf_0 : decode cX7_shareOf 0 = .ok (.aload_n 0, 1) := by decide +kernel
theorem dX7_shareOf_1 : decode cX7_shareOf 1 = .ok (.aload_n 1, 1) := by decide +kernel
theorem dX7_shareOf_2 : decode cX7_shareOf 2 = .ok (.iload_n 2, 1) := by decide +kernel
theorem dX7_shareOf_3 : decode cX7_shareOf 3 = .ok (.invokevirtual 24, 3) := by decide +kernel
theorem dX7_shareOf_6 : decode cX7_shareOf 6 = .ok (.aload_n 0, 1) := by decide +kernel
theorem dX7_shareOf_7 : decode cX7_shareOf 7 = .ok (.getfield 9, 3) := by decide +kernel
theorem dX7_shareOf_10 : decode cX7_shareOf 10 = .ok (.iload_n 3, 1) := by decide +kernel
theorem dX7_shareOf_11 : decode cX7_shareOf 11 = .ok (.iaload, 1) := by decide +kernel
theorem dX7_shareOf_12 : decode cX7_shareOf 12 = .ok (.ireturn, 1) := by decide +kernel
set_option maxRecDepth 20000 in
theorem ggX7_divide_J7_fill_53178 : GoodIn wsX7_divide wsJ7_fill_53178 := goodIn_r _ [6] (by decide +kernel) (by decide +kernel)
set_option maxRecDepth 20000 in
theorem gX7_divide_J7_fill_53178 : GoodIn wsX7_divide (va_wsS RX7 46 yJ7_fill_53178 wsJ7_fill_53178) := goodIn_app (goodIn_of _ (by decide +kernel)) ggX7_divide_J7_fill_53178
set_option maxRecDepth 20000 in
theorem ggX7_divide_X5_debitOf : GoodIn wsX7_divide wsX5_debitOf := goodIn_ca (goodIn_r _ [11, 12, 13, 14, 10, 15, 16, 36, 37, 38, 39, 40, 41, 42, 43, 44, 45] (by decide +kernel) (by decide +kernel)) (goodIn_sub (fun _ h => List.mem_cons_of_mem _ (List.mem_append_right _ h)) (by decide +kernel))
set_option maxRecDepth 20000 in
theorem gX7_divide_X5_debitOf : GoodIn wsX7_divide (wsV RX7 52 RX5 yX5_debitOf wsX5_debitOf) := goodIn_app (goodIn_of _ (by decide +kernel)) ggX7_divide_X5_debitOf
set_option maxRecDepth 20000 in
theorem ggX7_divide_X5_meansOf : GoodIn wsX7_divide wsX5_meansOf := goodIn_ca (goodIn_r _ [20, 21, 22, 23, 24, 10, 25, 26, 27, 36, 37, 38, 39, 40, 41, 42, 43, 44, 45] (by decide +kernel) (by decide +kernel)) (goodIn_sub (fun _ h => List.mem_cons_of_mem _ (List.mem_append_right _ h)) (by decide +kernel))
set_option maxRecDepth 20000 in
theorem gX7_divide_X5_meansOf : GoodIn wsX7_divide (wsV RX7 55 RX5 yX5_meansOf wsX5_meansOf) := goodIn_app (goodIn_of _ (by decide +kernel)) ggX7_divide_X5_meansOf
set_option maxRecDepth 20000 in
theorem ggX7_divide_X5_amountOwed : GoodIn wsX7_divide wsX5_amountOwed := goodIn_ca (goodIn_r _ [15, 16, 36, 37, 38, 39, 40, 41, 42, 43, 44, 45] (by decide +kernel) (by decide +kernel)) (goodIn_sub (fun _ h => List.mem_cons_of_mem _ (List.mem_append_right _ h)) (by decide +kernel))
set_option maxRecDepth 20000 in
theorem gX7_divide_X5_amountOwed : GoodIn wsX7_divide (wsV RX7 58 RX5 yX5_amountOwed wsX5_amountOwed) := goodIn_app (goodIn_of _ (by decide +kernel)) ggX7_divide_X5_amountOwed
set_option maxRecDepth 20000 in
theorem ggX7_divide_X7_giveOneByOne : GoodIn wsX7_divide wsX7_giveOneByOne := goodIn_ca (goodIn_r _ [33, 2, 1, 34, 35] (by decide +kernel) (by decide +kernel)) (goodIn_sub (fun _ h => List.mem_cons_of_mem _ (List.mem_append_right _ h)) (by decide +kernel))
set_option maxRecDepth 20000 in
theorem gX7_divide_X7_giveOneByOne : GoodIn wsX7_divide (wsV RX7 62 RX7 yX7_giveOneByOne wsX7_giveOneByOne) := goodIn_app (goodIn_of _ (by decide +kernel)) ggX7_divide_X7_giveOneByOne
theorem dX7_divide_0 : decode cX7_divide 0 = .ok (.aload_n 0, 1) := by decide +kernel
theorem dX7_divide_1 : decode cX7_divide 1 = .ok (.getfield 9, 3) := by decide +kernel
theorem dX7_divide_4 : decode cX7_divide 4 = .ok (.iconst 0, 1) := by decide +kernel
theorem dX7_divide_5 : decode cX7_divide 5 = .ok (.invokestatic 46, 3) := by decide +kernel
theorem dX7_divide_8 : decode cX7_divide 8 = .ok (.aload_n 1, 1) := by decide +kernel
theorem dX7_divide_9 : decode cX7_divide 9 = .ok (.iload_n 2, 1) := by decide +kernel
theorem dX7_divide_10 : decode cX7_divide 10 = .ok (.invokevirtual 52, 3) := by decide +kernel
theorem dX7_divide_13 : decode cX7_divide 13 = .ok (.istore_n 3, 1) := by decide +kernel
theorem dX7_divide_14 : decode cX7_divide 14 = .ok (.iload_n 3, 1) := by decide +kernel
theorem dX7_divide_15 : decode cX7_divide 15 = .ok (.ifCond .gt 4, 3) := by decide +kernel
theorem dX7_divide_18 : decode cX7_divide 18 = .ok (.return_, 1) := by decide +kernel
theorem dX7_divide_19 : decode cX7_divide 19 = .ok (.aload_n 1, 1) := by decide +kernel
theorem dX7_divide_20 : decode cX7_divide 20 = .ok (.iload_n 2, 1) := by decide +kernel
theorem dX7_divide_21 : decode cX7_divide 21 = .ok (.invokevirtual 55, 3) := by decide +kernel
theorem dX7_divide_24 : decode cX7_divide 24 = .ok (.istore 4, 2) := by decide +kernel
theorem dX7_divide_26 : decode cX7_divide 26 = .ok (.iload 4, 2) := by decide +kernel
theorem dX7_divide_28 : decode cX7_divide 28 = .ok (.istore 5, 2) := by decide +kernel
theorem dX7_divide_30 : decode cX7_divide 30 = .ok (.iconst 0, 1) := by decide +kernel
theorem dX7_divide_31 : decode cX7_divide 31 = .ok (.istore 6, 2) := by decide +kernel
theorem dX7_divide_33 : decode cX7_divide 33 = .ok (.iload 6, 2) := by decide +kernel
theorem dX7_divide_35 : decode cX7_divide 35 = .ok (.bipush 8, 2) := by decide +kernel
theorem dX7_divide_37 : decode cX7_divide 37 = .ok (.if_icmp .ge 55, 3) := by decide +kernel
theorem dX7_divide_40 : decode cX7_divide 40 = .ok (.iload 4, 2) := by decide +kernel
theorem dX7_divide_42 : decode cX7_divide 42 = .ok (.aload_n 1, 1) := by decide +kernel
theorem dX7_divide_43 : decode cX7_divide 43 = .ok (.iload_n 2, 1) := by decide +kernel
theorem dX7_divide_44 : decode cX7_divide 44 = .ok (.iload 6, 2) := by decide +kernel
theorem dX7_divide_46 : decode cX7_divide 46 = .ok (.invokevirtual 58, 3) := by decide +kernel
theorem dX7_divide_49 : decode cX7_divide 49 = .ok (.imul, 1) := by decide +kernel
theorem dX7_divide_50 : decode cX7_divide 50 = .ok (.istore 7, 2) := by decide +kernel
theorem dX7_divide_52 : decode cX7_divide 52 = .ok (.aload_n 0, 1) := by decide +kernel
theorem dX7_divide_53 : decode cX7_divide 53 = .ok (.getfield 9, 3) := by decide +kernel
theorem dX7_divide_56 : decode cX7_divide 56 = .ok (.iload 6, 2) := by decide +kernel
theorem dX7_divide_58 : decode cX7_divide 58 = .ok (.iload 7, 2) := by decide +kernel
theorem dX7_divide_60 : decode cX7_divide 60 = .ok (.iload_n 3, 1) := by decide +kernel
theorem dX7_divide_61 : decode cX7_divide 61 = .ok (.idiv, 1) := by decide +kernel
theorem dX7_divide_62 : decode cX7_divide 62 = .ok (.iastore, 1) := by decide +kernel
theorem dX7_divide_63 : decode cX7_divide 63 = .ok (.aload_n 0, 1) := by decide +kernel
theorem dX7_divide_64 : decode cX7_divide 64 = .ok (.getfield 15, 3) := by decide +kernel
theorem dX7_divide_67 : decode cX7_divide 67 = .ok (.iload 6, 2) := by decide +kernel
theorem dX7_divide_69 : decode cX7_divide 69 = .ok (.iload 7, 2) := by decide +kernel
theorem dX7_divide_71 : decode cX7_divide 71 = .ok (.iload_n 3, 1) := by decide +kernel
theorem dX7_divide_72 : decode cX7_divide 72 = .ok (.irem, 1) := by decide +kernel
theorem dX7_divide_73 : decode cX7_divide 73 = .ok (.iastore, 1) := by decide +kernel
theorem dX7_divide_74 : decode cX7_divide 74 = .ok (.iload 5, 2) := by decide +kernel
theorem dX7_divide_76 : decode cX7_divide 76 = .ok (.aload_n 0, 1) := by decide +kernel
theorem dX7_divide_77 : decode cX7_divide 77 = .ok (.getfield 9, 3) := by decide +kernel
theorem dX7_divide_80 : decode cX7_divide 80 = .ok (.iload 6, 2) := by decide +kernel
theorem dX7_divide_82 : decode cX7_divide 82 = .ok (.iaload, 1) := by decide +kernel
theorem dX7_divide_83 : decode cX7_divide 83 = .ok (.isub, 1) := by decide +kernel
theorem dX7_divide_84 : decode cX7_divide 84 = .ok (.istore 5, 2) := by decide +kernel
theorem dX7_divide_86 : decode cX7_divide 86 = .ok (.iinc 6 1, 3) := by decide +kernel
theorem dX7_divide_89 : decode cX7_divide 89 = .ok (.goto (-56), 3) := by decide +kernel
theorem dX7_divide_92 : decode cX7_divide 92 = .ok (.aload_n 0, 1) := by decide +kernel
theorem dX7_divide_93 : decode cX7_divide 93 = .ok (.iload 5, 2) := by decide +kernel
theorem dX7_divide_95 : decode cX7_divide 95 = .ok (.invokevirtual 62, 3) := by decide +kernel
theorem dX7_divide_98 : decode cX7_divide 98 = .ok (.return_, 1) := by decide +kernel
theorem dX7_giveOneByOne_0 : decode cX7_giveOneByOne 0 = .ok (.iconst 0, 1) := by decide +kernel
theorem dX7_giveOneByOne_1 : decode cX7_giveOneByOne 1 = .ok (.istore_n 2, 1) := by decide +kernel
theorem dX7_giveOneByOne_2 : decode cX7_giveOneByOne 2 = .ok (.iload_n 2, 1) := by decide +kernel
theorem dX7_giveOneByOne_3 : decode cX7_giveOneByOne 3 = .ok (.iload_n 1, 1) := by decide +kernel
theorem dX7_giveOneByOne_4 : decode cX7_giveOneByOne 4 = .ok (.if_icmp .ge 63, 3) := by decide +kernel
theorem dX7_giveOneByOne_7 : decode cX7_giveOneByOne 7 = .ok (.iconst 0, 1) := by decide +kernel
theorem dX7_giveOneByOne_8 : decode cX7_giveOneByOne 8 = .ok (.istore_n 3, 1) := by decide +kernel
theorem dX7_giveOneByOne_9 : decode cX7_giveOneByOne 9 = .ok (.iconst 1, 1) := by decide +kernel
theorem dX7_giveOneByOne_10 : decode cX7_giveOneByOne 10 = .ok (.istore 4, 2) := by decide +kernel
theorem dX7_giveOneByOne_12 : decode cX7_giveOneByOne 12 = .ok (.iload 4, 2) := by decide +kernel
theorem dX7_giveOneByOne_14 : decode cX7_giveOneByOne 14 = .ok (.bipush 8, 2) := by decide +kernel
theorem dX7_giveOneByOne_16 : decode cX7_giveOneByOne 16 = .ok (.if_icmp .ge 28, 3) := by decide +kernel
theorem dX7_giveOneByOne_19 : decode cX7_giveOneByOne 19 = .ok (.aload_n 0, 1) := by decide +kernel
theorem dX7_giveOneByOne_20 : decode cX7_giveOneByOne 20 = .ok (.getfield 15, 3) := by decide +kernel
theorem dX7_giveOneByOne_23 : decode cX7_giveOneByOne 23 = .ok (.iload 4, 2) := by decide +kernel
theorem dX7_giveOneByOne_25 : decode cX7_giveOneByOne 25 = .ok (.iaload, 1) := by decide +kernel
theorem dX7_giveOneByOne_26 : decode cX7_giveOneByOne 26 = .ok (.aload_n 0, 1) := by decide +kernel
theorem dX7_giveOneByOne_27 : decode cX7_giveOneByOne 27 = .ok (.getfield 15, 3) := by decide +kernel
theorem dX7_giveOneByOne_30 : decode cX7_giveOneByOne 30 = .ok (.iload_n 3, 1) := by decide +kernel
theorem dX7_giveOneByOne_31 : decode cX7_giveOneByOne 31 = .ok (.iaload, 1) := by decide +kernel
theorem dX7_giveOneByOne_32 : decode cX7_giveOneByOne 32 = .ok (.if_icmp .le 6, 3) := by decide +kernel
theorem dX7_giveOneByOne_35 : decode cX7_giveOneByOne 35 = .ok (.iload 4, 2) := by decide +kernel
theorem dX7_giveOneByOne_37 : decode cX7_giveOneByOne 37 = .ok (.istore_n 3, 1) := by decide +kernel
theorem dX7_giveOneByOne_38 : decode cX7_giveOneByOne 38 = .ok (.iinc 4 1, 3) := by decide +kernel
theorem dX7_giveOneByOne_41 : decode cX7_giveOneByOne 41 = .ok (.goto (-29), 3) := by decide +kernel
theorem dX7_giveOneByOne_44 : decode cX7_giveOneByOne 44 = .ok (.aload_n 0, 1) := by decide +kernel
theorem dX7_giveOneByOne_45 : decode cX7_giveOneByOne 45 = .ok (.getfield 9, 3) := by decide +kernel
theorem dX7_giveOneByOne_48 : decode cX7_giveOneByOne 48 = .ok (.iload_n 3, 1) := by decide +kernel
theorem dX7_giveOneByOne_49 : decode cX7_giveOneByOne 49 = .ok (.dup2, 1) := by decide +kernel
theorem dX7_giveOneByOne_50 : decode cX7_giveOneByOne 50 = .ok (.iaload, 1) := by decide +kernel
theorem dX7_giveOneByOne_51 : decode cX7_giveOneByOne 51 = .ok (.iconst 1, 1) := by decide +kernel
theorem dX7_giveOneByOne_52 : decode cX7_giveOneByOne 52 = .ok (.iadd, 1) := by decide +kernel
theorem dX7_giveOneByOne_53 : decode cX7_giveOneByOne 53 = .ok (.iastore, 1) := by decide +kernel
theorem dX7_giveOneByOne_54 : decode cX7_giveOneByOne 54 = .ok (.aload_n 0, 1) := by decide +kernel
theorem dX7_giveOneByOne_55 : decode cX7_giveOneByOne 55 = .ok (.getfield 15, 3) := by decide +kernel
theorem dX7_giveOneByOne_58 : decode cX7_giveOneByOne 58 = .ok (.iload_n 3, 1) := by decide +kernel
theorem dX7_giveOneByOne_59 : decode cX7_giveOneByOne 59 = .ok (.iconst 0, 1) := by decide +kernel
theorem dX7_giveOneByOne_60 : decode cX7_giveOneByOne 60 = .ok (.iastore, 1) := by decide +kernel
theorem dX7_giveOneByOne_61 : decode cX7_giveOneByOne 61 = .ok (.iinc 2 1, 3) := by decide +kernel
theorem dX7_giveOneByOne_64 : decode cX7_giveOneByOne 64 = .ok (.goto (-62), 3) := by decide +kernel
theorem dX7_giveOneByOne_67 : decode cX7_giveOneByOne 67 = .ok (.return_, 1) := by decide +kernel
set_option maxRecDepth 20000 in
theorem ggX9_onMember_X5_hasMember : GoodIn wsX9_onMember wsX5_hasMember := goodIn_r _ [7, 8, 9, 10, 11, 12, 13, 14, 15, 16, 17, 18] (by decide +kernel) (by decide +kernel)
set_option maxRecDepth 20000 in
theorem gX9_onMember_X5_hasMember : GoodIn wsX9_onMember (wsV RX9 9 RX5 yX5_hasMember wsX5_hasMember) := goodIn_app (goodIn_of _ (by decide +kernel)) ggX9_onMember_X5_hasMember
theorem dX9_onMember_0 : decode cX9_onMember 0 = .ok (.aload_n 0, 1) := by decide +kernel
theorem dX9_onMember_1 : decode cX9_onMember 1 = .ok (.iload_n 1, 1) := by decide +kernel
theorem dX9_onMember_2 : decode cX9_onMember 2 = .ok (.invokevirtual 9, 3) := by decide +kernel
theorem dX9_onMember_5 : decode cX9_onMember 5 = .ok (.ifCond .eq 9, 3) := by decide +kernel
theorem dX9_onMember_8 : decode cX9_onMember 8 = .ok (.getstatic 15, 3) := by decide +kernel
theorem dX9_onMember_11 : decode cX9_onMember 11 = .ok (.goto 6, 3) := by decide +kernel
theorem dX9_onMember_14 : decode cX9_onMember 14 = .ok (.getstatic 21, 3) := by decide +kernel
theorem dX9_onMember_17 : decode cX9_onMember 17 = .ok (.areturn, 1) := by decide +kernel
set_option maxRecDepth 20000 in
theorem ggX9_onPair_X5_hasMember : GoodIn wsX9_onPair wsX5_hasMember := goodIn_r _ [8, 9, 10, 11, 12, 13, 14, 15, 16, 17, 18, 19] (by decide +kernel) (by decide +kernel)
set_option maxRecDepth 20000 in
theorem gX9_onPair_X5_hasMember : GoodIn wsX9_onPair (wsV RX9 9 RX5 yX5_hasMember wsX5_hasMember) := goodIn_app (goodIn_of _ (by decide +kernel)) ggX9_onPair_X5_hasMember
theorem dX9_onPair_0 : decode cX9_onPair 0 = .ok (.aload_n 0, 1) := by decide +kernel
theorem dX9_onPair_1 : decode cX9_onPair 1 = .ok (.iload_n 1, 1) := by decide +kernel
theorem dX9_onPair_2 : decode cX9_onPair 2 = .ok (.invokevirtual 9, 3) := by decide +kernel
theorem dX9_onPair_5 : decode cX9_onPair 5 = .ok (.ifCond .eq 11, 3) := by decide +kernel
theorem dX9_onPair_8 : decode cX9_onPair 8 = .ok (.aload_n 0, 1) := by decide +kernel
theorem dX9_onPair_9 : decode cX9_onPair 9 = .ok (.iload_n 2, 1) := by decide +kernel
theorem dX9_onPair_10 : decode cX9_onPair 10 = .ok (.invokevirtual 9, 3) := by decide +kernel
theorem dX9_onPair_13 : decode cX9_onPair 13 = .ok (.ifCond .ne 7, 3) := by decide +kernel
theorem dX9_onPair_16 : decode cX9_onPair 16 = .ok (.getstatic 21, 3) := by decide +kernel
theorem dX9_onPair_19 : decode cX9_onPair 19 = .ok (.areturn, 1) := by decide +kernel
theorem dX9_onPair_20 : decode cX9_onPair 20 = .ok (.iload_n 1, 1) := by decide +kernel
theorem dX9_onPair_21 : decode cX9_onPair 21 = .ok (.iload_n 2, 1) := by decide +kernel
theorem dX9_onPair_22 : decode cX9_onPair 22 = .ok (.if_icmp .ne 9, 3) := by decide +kernel
theorem dX9_onPair_25 : decode cX9_onPair 25 = .ok (.getstatic 24, 3) := by decide +kernel
theorem dX9_onPair_28 : decode cX9_onPair 28 = .ok (.goto 6, 3) := by decide +kernel
theorem dX9_onPair_31 : decode cX9_onPair 31 = .ok (.getstatic 15, 3) := by decide +kernel
theorem dX9_onPair_34 : decode cX9_onPair 34 = .ok (.areturn, 1) := by decide +kernel
theorem dX9_onJoining_0 : decode cX9_onJoining 0 = .ok (.aload_n 0, 1) := by decide +kernel
theorem dX9_onJoining_1 : decode cX9_onJoining 1 = .ok (.getfield 27, 3) := by decide +kernel
theorem dX9_onJoining_4 : decode cX9_onJoining 4 = .ok (.bipush 8, 2) := by decide +kernel
theorem dX9_onJoining_6 : decode cX9_onJoining 6 = .ok (.if_icmp .ge 9, 3) := by decide +kernel
theorem dX9_onJoining_9 : decode cX9_onJoining 9 = .ok (.getstatic 15, 3) := by decide +kernel
theorem dX9_onJoining_12 : decode cX9_onJoining 12 = .ok (.goto 6, 3) := by decide +kernel
theorem dX9_onJoining_15 : decode cX9_onJoining 15 = .ok (.getstatic 31, 3) := by decide +kernel
theorem dX9_onJoining_18 : decode cX9_onJoining 18 = .ok (.areturn, 1) := by decide +kernel
set_option maxRecDepth 20000 in
theorem ggX9_onDebt_X9_onPairAndAmount : GoodIn wsX9_onDebt wsX9_onPairAndAmount := goodIn_r _ [7, 1, 8, 9, 10, 6, 11, 12, 13, 14, 15, 16, 17, 18, 19, 20, 21, 31, 32, 33, 34, 35, 36, 37, 38, 39, 40] (by decide +kernel) (by decide +kernel)
set_option maxRecDepth 20000 in
theorem gX9_onDebt_X9_onPairAndAmount : GoodIn wsX9_onDebt (va_wsS RX9 34 yX9_onPairAndAmount wsX9_onPairAndAmount) := goodIn_app (goodIn_of _ (by decide +kernel)) ggX9_onDebt_X9_onPairAndAmount
set_option maxRecDepth 20000 in
theorem ggX9_onDebt_X5_debitOf : GoodIn wsX9_onDebt wsX5_debitOf := goodIn_ca (goodIn_r _ [25, 26, 27, 28, 16, 29, 30, 31, 32, 33, 34, 35, 36, 37, 38, 39, 40] (by decide +kernel) (by decide +kernel)) (goodIn_sub (fun _ h => List.mem_cons_of_mem _ (List.mem_append_right _ h)) (by decide +kernel))
set_option maxRecDepth 20000 in
theorem gX9_onDebt_X5_debitOf : GoodIn wsX9_onDebt (wsV RX9 44 RX5 yX5_debitOf wsX5_debitOf) := goodIn_app (goodIn_of _ (by decide +kernel)) ggX9_onDebt_X5_debitOf
theorem dX9_onDebt_0 : decode cX9_onDebt 0 = .ok (.aload_n 0, 1) := by decide +kernel
theorem dX9_onDebt_1 : decode cX9_onDebt 1 = .ok (.iload_n 1, 1) := by decide +kernel
theorem dX9_onDebt_2 : decode cX9_onDebt 2 = .ok (.iload_n 2, 1) := by decide +kernel
theorem dX9_onDebt_3 : decode cX9_onDebt 3 = .ok (.iload_n 3, 1) := by decide +kernel
theorem dX9_onDebt_4 : decode cX9_onDebt 4 = .ok (.invokestatic 34, 3) := by decide +kernel
theorem dX9_onDebt_7 : decode cX9_onDebt 7 = .ok (.astore 4, 2) := by decide +kernel
theorem dX9_onDebt_9 : decode cX9_onDebt 9 = .ok (.aload 4, 2) := by decide +kernel
theorem dX9_onDebt_11 : decode cX9_onDebt 11 = .ok (.getstatic 15, 3) := by decide +kernel
theorem dX9_onDebt_14 : decode cX9_onDebt 14 = .ok (.if_acmp .eq 6, 3) := by decide +kernel
theorem dX9_onDebt_17 : decode cX9_onDebt 17 = .ok (.aload 4, 2) := by decide +kernel
theorem dX9_onDebt_19 : decode cX9_onDebt 19 = .ok (.areturn, 1) := by decide +kernel
theorem dX9_onDebt_20 : decode cX9_onDebt 20 = .ok (.aload_n 0, 1) := by decide +kernel
theorem dX9_onDebt_21 : decode cX9_onDebt 21 = .ok (.getfield 40, 3) := by decide +kernel
theorem dX9_onDebt_24 : decode cX9_onDebt 24 = .ok (.iload_n 1, 1) := by decide +kernel
theorem dX9_onDebt_25 : decode cX9_onDebt 25 = .ok (.baload, 1) := by decide +kernel
theorem dX9_onDebt_26 : decode cX9_onDebt 26 = .ok (.ifCond .eq 7, 3) := by decide +kernel
theorem dX9_onDebt_29 : decode cX9_onDebt 29 = .ok (.getstatic 31, 3) := by decide +kernel
theorem dX9_onDebt_32 : decode cX9_onDebt 32 = .ok (.areturn, 1) := by decide +kernel
theorem dX9_onDebt_33 : decode cX9_onDebt 33 = .ok (.aload_n 0, 1) := by decide +kernel
theorem dX9_onDebt_34 : decode cX9_onDebt 34 = .ok (.iload_n 1, 1) := by decide +kernel
theorem dX9_onDebt_35 : decode cX9_onDebt 35 = .ok (.invokevirtual 44, 3) := by decide +kernel
theorem dX9_onDebt_38 : decode cX9_onDebt 38 = .ok (.iload_n 3, 1) := by decide +kernel
theorem dX9_onDebt_39 : decode cX9_onDebt 39 = .ok (.iadd, 1) := by decide +kernel
theorem dX9_onDebt_40 : decode cX9_onDebt 40 = .ok (.aload_n 0, 1) := by decide +kernel
theorem dX9_onDebt_41 : decode cX9_onDebt 41 = .ok (.getfield 48, 3) := by decide +kernel
theorem dX9_onDebt_44 : decode cX9_onDebt 44 = .ok (.iload_n 1, 1) := by decide +kernel
theorem dX9_onDebt_45 : decode cX9_onDebt 45 = .ok (.iaload, 1) := by decide +kernel
theorem dX9_onDebt_46 : decode cX9_onDebt 46 = .ok (.if_icmp .le 7, 3) := by decide +kernel
theorem dX9_onDebt_49 : decode cX9_onDebt 49 = .ok (.iconst 1, 1) := by decide +kernel
theorem dX9_onDebt_50 : decode cX9_onDebt 50 = .ok (.goto 4, 3) := by decide +kernel
theorem dX9_onDebt_53 : decode cX9_onDebt 53 = .ok (.iconst 0, 1) := by decide +kernel
theorem dX9_onDebt_54 : decode cX9_onDebt 54 = .ok (.istore 5, 2) := by decide +kernel
theorem dX9_onDebt_56 : decode cX9_onDebt 56 = .ok (.iload 5, 2) := by decide +kernel
theorem dX9_onDebt_58 : decode cX9_onDebt 58 = .ok (.ifCond .eq 9, 3) := by decide +kernel
theorem dX9_onDebt_61 : decode cX9_onDebt 61 = .ok (.getstatic 52, 3) := by decide +kernel
theorem dX9_onDebt_64 : decode cX9_onDebt 64 = .ok (.goto 6, 3) := by decide +kernel
theorem dX9_onDebt_67 : decode cX9_onDebt 67 = .ok (.getstatic 15, 3) := by decide +kernel
theorem dX9_onDebt_70 : decode cX9_onDebt 70 = .ok (.areturn, 1) := by decide +kernel
set_option maxRecDepth 20000 in
theorem ggX9_onPayment_X9_onPairAndAmount : GoodIn wsX9_onPayment wsX9_onPairAndAmount := goodIn_r _ [7, 1, 8, 9, 10, 6, 11, 12, 13, 14, 15, 16, 17, 18, 19, 20, 21, 27, 28, 29, 30, 31, 32, 33, 34, 35, 36] (by decide +kernel) (by decide +kernel)
set_option maxRecDepth 20000 in
theorem gX9_onPayment_X9_onPairAndAmount : GoodIn wsX9_onPayment (va_wsS RX9 34 yX9_onPairAndAmount wsX9_onPairAndAmount) := goodIn_app (goodIn_of _ (by decide +kernel)) ggX9_onPayment_X9_onPairAndAmount
set_option maxRecDepth 20000 in
theorem ggX9_onPayment_X5_amountOwed : GoodIn wsX9_onPayment wsX5_amountOwed := goodIn_ca (goodIn_r _ [25, 26, 27, 28, 29, 30, 31, 32, 33, 34, 35, 36] (by decide +kernel) (by decide +kernel)) (goodIn_sub (fun _ h => List.mem_cons_of_mem _ (List.mem_append_right _ h)) (by decide +kernel))
set_option maxRecDepth 20000 in
theorem gX9_onPayment_X5_amountOwed : GoodIn wsX9_onPayment (wsV RX9 55 RX5 yX5_amountOwed wsX5_amountOwed) := goodIn_app (goodIn_of _ (by decide +kernel)) ggX9_onPayment_X5_amountOwed
theorem dX9_onPayment_0 : decode cX9_onPayment 0 = .ok (.aload_n 0, 1) := by decide +kernel
theorem dX9_onPayment_1 : decode cX9_onPayment 1 = .ok (.iload_n 1, 1) := by decide +kernel
theorem dX9_onPayment_2 : decode cX9_onPayment 2 = .ok (.iload_n 2, 1) := by decide +kernel
theorem dX9_onPayment_3 : decode cX9_onPayment 3 = .ok (.iload_n 3, 1) := by decide +kernel
theorem dX9_onPayment_4 : decode cX9_onPayment 4 = .ok (.invokestatic 34, 3) := by decide +kernel
theorem dX9_onPayment_7 : decode cX9_onPayment 7 = .ok (.astore 4, 2) := by decide +kernel
theorem dX9_onPayment_9 : decode cX9_onPayment 9 = .ok (.aload 4, 2) := by decide +kernel
theorem dX9_onPayment_11 : decode cX9_onPayment 11 = .ok (.getstatic 15, 3) := by decide +kernel
theorem dX9_onPayment_14 : decode cX9_onPayment 14 = .ok (.if_acmp .eq 6, 3) := by decide +kernel
theorem dX9_onPayment_17 : decode cX9_onPayment 17 = .ok (.aload 4, 2) := by decide +kernel
theorem dX9_onPayment_19 : decode cX9_onPayment 19 = .ok (.areturn, 1) := by decide +kernel
theorem dX9_onPayment_20 : decode cX9_onPayment 20 = .ok (.aload_n 0, 1) := by decide +kernel
theorem dX9_onPayment_21 : decode cX9_onPayment 21 = .ok (.iload_n 1, 1) := by decide +kernel
theorem dX9_onPayment_22 : decode cX9_onPayment 22 = .ok (.iload_n 2, 1) := by decide +kernel
theorem dX9_onPayment_23 : decode cX9_onPayment 23 = .ok (.invokevirtual 55, 3) := by decide +kernel
theorem dX9_onPayment_26 : decode cX9_onPayment 26 = .ok (.iload_n 3, 1) := by decide +kernel
theorem dX9_onPayment_27 : decode cX9_onPayment 27 = .ok (.if_icmp .ge 7, 3) := by decide +kernel
theorem dX9_onPayment_30 : decode cX9_onPayment 30 = .ok (.getstatic 31, 3) := by decide +kernel
theorem dX9_onPayment_33 : decode cX9_onPayment 33 = .ok (.areturn, 1) := by decide +kernel
theorem dX9_onPayment_34 : decode cX9_onPayment 34 = .ok (.aload_n 0, 1) := by decide +kernel
theorem dX9_onPayment_35 : decode cX9_onPayment 35 = .ok (.getfield 59, 3) := by decide +kernel
theorem dX9_onPayment_38 : decode cX9_onPayment 38 = .ok (.iload_n 1, 1) := by decide +kernel
theorem dX9_onPayment_39 : decode cX9_onPayment 39 = .ok (.iaload, 1) := by decide +kernel
theorem dX9_onPayment_40 : decode cX9_onPayment 40 = .ok (.iload_n 3, 1) := by decide +kernel
theorem dX9_onPayment_41 : decode cX9_onPayment 41 = .ok (.if_icmp .ge 9, 3) := by decide +kernel
theorem dX9_onPayment_44 : decode cX9_onPayment 44 = .ok (.getstatic 52, 3) := by decide +kernel
theorem dX9_onPayment_47 : decode cX9_onPayment 47 = .ok (.goto 6, 3) := by decide +kernel
theorem dX9_onPayment_50 : decode cX9_onPayment 50 = .ok (.getstatic 15, 3) := by decide +kernel
theorem dX9_onPayment_53 : decode cX9_onPayment 53 = .ok (.areturn, 1) := by decide +kernel
set_option maxRecDepth 20000 in
theorem ggX9_onPairAndAmount_X9_onPair : GoodIn wsX9_onPairAndAmount wsX9_onPair := goodIn_r _ [6, 7, 2, 1, 8, 9, 10, 11, 12, 13, 17, 18, 19, 20, 21, 22, 23, 24, 25, 26] (by decide +kernel) (by decide +kernel)
set_option maxRecDepth 20000 in
theorem gX9_onPairAndAmount_X9_onPair : GoodIn wsX9_onPairAndAmount (va_wsS RX9 62 yX9_onPair wsX9_onPair) := goodIn_app (goodIn_of _ (by decide +kernel)) ggX9_onPairAndAmount_X9_onPair
set_option maxRecDepth 20000 in
theorem ggX9_onPairAndAmount_X9_isAmount : GoodIn wsX9_onPairAndAmount wsX9_isAmount := goodIn_r _ [16] (by decide +kernel) (by decide +kernel)
set_option maxRecDepth 20000 in
theorem gX9_onPairAndAmount_X9_isAmount : GoodIn wsX9_onPairAndAmount (va_wsS RX9 66 yX9_isAmount wsX9_isAmount) := goodIn_app (goodIn_of _ (by decide +kernel)) ggX9_onPairAndAmount_X9_isAmount
theorem dX9_onPairAndAmount_0 : decode cX9_onPairAndAmount 0 = .ok (.aload_n 0, 1) := by decide +kernel
theorem dX9_onPairAndAmount_1 : decode cX9_onPairAndAmount 1 = .ok (.iload_n 1, 1) := by decide +kernel
theorem dX9_onPairAndAmount_2 : decode cX9_onPairAndAmount 2 = .ok (.iload_n 2, 1) := by decide +kernel
theorem dX9_onPairAndAmount_3 : decode cX9_onPairAndAmount 3 = .ok (.invokestatic 62, 3) := by decide +kernel
theorem dX9_onPairAndAmount_6 : decode cX9_onPairAndAmount 6 = .ok (.astore 4, 2) := by decide +kernel
theorem dX9_onPairAndAmount_8 : decode cX9_onPairAndAmount 8 = .ok (.aload 4, 2) := by decide +kernel
theorem dX9_onPairAndAmount_10 : decode cX9_onPairAndAmount 10 = .ok (.getstatic 15, 3) := by decide +kernel
theorem dX9_onPairAndAmount_13 : decode cX9_onPairAndAmount 13 = .ok (.if_acmp .eq 6, 3) := by decide +kernel
theorem dX9_onPairAndAmount_16 : decode cX9_onPairAndAmount 16 = .ok (.aload 4, 2) := by decide +kernel
theorem dX9_onPairAndAmount_18 : decode cX9_onPairAndAmount 18 = .ok (.areturn, 1) := by decide +kernel
theorem dX9_onPairAndAmount_19 : decode cX9_onPairAndAmount 19 = .ok (.iload_n 3, 1) := by decide +kernel
theorem dX9_onPairAndAmount_20 : decode cX9_onPairAndAmount 20 = .ok (.invokestatic 66, 3) := by decide +kernel
theorem dX9_onPairAndAmount_23 : decode cX9_onPairAndAmount 23 = .ok (.ifCond .eq 9, 3) := by decide +kernel
theorem dX9_onPairAndAmount_26 : decode cX9_onPairAndAmount 26 = .ok (.getstatic 15, 3) := by decide +kernel
theorem dX9_onPairAndAmount_29 : decode cX9_onPairAndAmount 29 = .ok (.goto 6, 3) := by decide +kernel
theorem dX9_onPairAndAmount_32 : decode cX9_onPairAndAmount 32 = .ok (.getstatic 24, 3) := by decide +kernel
theorem dX9_onPairAndAmount_35 : decode cX9_onPairAndAmount 35 = .ok (.areturn, 1) := by decide +kernel
set_option maxRecDepth 20000 in
theorem ggX9_onTriangle_X5_hasMember : GoodIn wsX9_onTriangle wsX5_hasMember := goodIn_r _ [9, 10, 16, 17, 18, 19, 20, 21, 22, 23, 24, 25] (by decide +kernel) (by decide +kernel)
set_option maxRecDepth 20000 in
theorem gX9_onTriangle_X5_hasMember : GoodIn wsX9_onTriangle (wsV RX9 9 RX5 yX5_hasMember wsX5_hasMember) := goodIn_app (goodIn_of _ (by decide +kernel)) ggX9_onTriangle_X5_hasMember
set_option maxRecDepth 20000 in
theorem ggX9_onTriangle_X5_amountOwed : GoodIn wsX9_onTriangle wsX5_amountOwed := goodIn_ca (goodIn_r _ [14, 15, 16, 17, 18, 19, 20, 21, 22, 23, 24, 25] (by decide +kernel) (by decide +kernel)) (goodIn_sub (fun _ h => List.mem_cons_of_mem _ (List.mem_append_right _ h)) (by decide +kernel))
set_option maxRecDepth 20000 in
theorem gX9_onTriangle_X5_amountOwed : GoodIn wsX9_onTriangle (wsV RX9 55 RX5 yX5_amountOwed wsX5_amountOwed) := goodIn_app (goodIn_of _ (by decide +kernel)) ggX9_onTriangle_X5_amountOwed
theorem dX9_onTriangle_0 : decode cX9_onTriangle 0 = .ok (.aload_n 0, 1) := by decide +kernel
theorem dX9_onTriangle_1 : decode cX9_onTriangle 1 = .ok (.iload_n 1, 1) := by decide +kernel
theorem dX9_onTriangle_2 : decode cX9_onTriangle 2 = .ok (.invokevirtual 9, 3) := by decide +kernel
theorem dX9_onTriangle_5 : decode cX9_onTriangle 5 = .ok (.ifCond .eq 19, 3) := by decide +kernel
theorem dX9_onTriangle_8 : decode cX9_onTriangle 8 = .ok (.aload_n 0, 1) := by decide +kernel
theorem dX9_onTriangle_9 : decode cX9_onTriangle 9 = .ok (.iload_n 2, 1) := by decide +kernel
theorem dX9_onTriangle_10 : decode cX9_onTriangle 10 = .ok (.invokevirtual 9, 3) := by decide +kernel
theorem dX9_onTriangle_13 : decode cX9_onTriangle 13 = .ok (.ifCond .eq 11, 3) := by decide +kernel
theorem dX9_onTriangle_16 : decode cX9_onTriangle 16 = .ok (.aload_n 0, 1) := by decide +kernel
theorem dX9_onTriangle_17 : decode cX9_onTriangle 17 = .ok (.iload_n 3, 1) := by decide +kernel
theorem dX9_onTriangle_18 : decode cX9_onTriangle 18 = .ok (.invokevirtual 9, 3) := by decide +kernel
theorem dX9_onTriangle_21 : decode cX9_onTriangle 21 = .ok (.ifCond .ne 7, 3) := by decide +kernel
theorem dX9_onTriangle_24 : decode cX9_onTriangle 24 = .ok (.getstatic 21, 3) := by decide +kernel
theorem dX9_onTriangle_27 : decode cX9_onTriangle 27 = .ok (.areturn, 1) := by decide +kernel
theorem dX9_onTriangle_28 : decode cX9_onTriangle 28 = .ok (.iload_n 1, 1) := by decide +kernel
theorem dX9_onTriangle_29 : decode cX9_onTriangle 29 = .ok (.iload_n 2, 1) := by decide +kernel
theorem dX9_onTriangle_30 : decode cX9_onTriangle 30 = .ok (.if_icmp .eq 13, 3) := by decide +kernel
theorem dX9_onTriangle_33 : decode cX9_onTriangle 33 = .ok (.iload_n 2, 1) := by decide +kernel
theorem dX9_onTriangle_34 : decode cX9_onTriangle 34 = .ok (.iload_n 3, 1) := by decide +kernel
theorem dX9_onTriangle_35 : decode cX9_onTriangle 35 = .ok (.if_icmp .eq 8, 3) := by decide +kernel
theorem dX9_onTriangle_38 : decode cX9_onTriangle 38 = .ok (.iload_n 3, 1) := by decide +kernel
theorem dX9_onTriangle_39 : decode cX9_onTriangle 39 = .ok (.iload_n 1, 1) := by decide +kernel
theorem dX9_onTriangle_40 : decode cX9_onTriangle 40 = .ok (.if_icmp .ne 7, 3) := by decide +kernel
theorem dX9_onTriangle_43 : decode cX9_onTriangle 43 = .ok (.getstatic 24, 3) := by decide +kernel
theorem dX9_onTriangle_46 : decode cX9_onTriangle 46 = .ok (.areturn, 1) := by decide +kernel
theorem dX9_onTriangle_47 : decode cX9_onTriangle 47 = .ok (.aload_n 0, 1) := by decide +kernel
theorem dX9_onTriangle_48 : decode cX9_onTriangle 48 = .ok (.iload_n 1, 1) := by decide +kernel
theorem dX9_onTriangle_49 : decode cX9_onTriangle 49 = .ok (.iload_n 2, 1) := by decide +kernel
theorem dX9_onTriangle_50 : decode cX9_onTriangle 50 = .ok (.invokevirtual 55, 3) := by decide +kernel
theorem dX9_onTriangle_53 : decode cX9_onTriangle 53 = .ok (.ifCond .le 25, 3) := by decide +kernel
theorem dX9_onTriangle_56 : decode cX9_onTriangle 56 = .ok (.aload_n 0, 1) := by decide +kernel
theorem dX9_onTriangle_57 : decode cX9_onTriangle 57 = .ok (.iload_n 2, 1) := by decide +kernel
theorem dX9_onTriangle_58 : decode cX9_onTriangle 58 = .ok (.iload_n 3, 1) := by decide +kernel
theorem dX9_onTriangle_59 : decode cX9_onTriangle 59 = .ok (.invokevirtual 55, 3) := by decide +kernel
theorem dX9_onTriangle_62 : decode cX9_onTriangle 62 = .ok (.ifCond .le 16, 3) := by decide +kernel
theorem dX9_onTriangle_65 : decode cX9_onTriangle 65 = .ok (.aload_n 0, 1) := by decide +kernel
theorem dX9_onTriangle_66 : decode cX9_onTriangle 66 = .ok (.iload_n 3, 1) := by decide +kernel
theorem dX9_onTriangle_67 : decode cX9_onTriangle 67 = .ok (.iload_n 1, 1) := by decide +kernel
theorem dX9_onTriangle_68 : decode cX9_onTriangle 68 = .ok (.invokevirtual 55, 3) := by decide +kernel
theorem dX9_onTriangle_71 : decode cX9_onTriangle 71 = .ok (.ifCond .le 7, 3) := by decide +kernel
theorem dX9_onTriangle_74 : decode cX9_onTriangle 74 = .ok (.iconst 1, 1) := by decide +kernel
theorem dX9_onTriangle_75 : decode cX9_onTriangle 75 = .ok (.goto 4, 3) := by decide +kernel
theorem dX9_onTriangle_78 : decode cX9_onTriangle 78 = .ok (.iconst 0, 1) := by decide +kernel
theorem dX9_onTriangle_79 : decode cX9_onTriangle 79 = .ok (.istore 4, 2) := by decide +kernel
theorem dX9_onTriangle_81 : decode cX9_onTriangle 81 = .ok (.iload 4, 2) := by decide +kernel
theorem dX9_onTriangle_83 : decode cX9_onTriangle 83 = .ok (.ifCond .eq 9, 3) := by decide +kernel
theorem dX9_onTriangle_86 : decode cX9_onTriangle 86 = .ok (.getstatic 15, 3) := by decide +kernel
theorem dX9_onTriangle_89 : decode cX9_onTriangle 89 = .ok (.goto 6, 3) := by decide +kernel
theorem dX9_onTriangle_92 : decode cX9_onTriangle 92 = .ok (.getstatic 31, 3) := by decide +kernel
theorem dX9_onTriangle_95 : decode cX9_onTriangle 95 = .ok (.areturn, 1) := by decide +kernel
set_option maxRecDepth 20000 in
theorem ggX9_onPledge_X5_hasMember : GoodIn wsX9_onPledge wsX5_hasMember := goodIn_r _ [9, 10, 15, 16, 17, 18, 19, 20, 21, 22, 23, 24] (by decide +kernel) (by decide +kernel)
set_option maxRecDepth 20000 in
theorem gX9_onPledge_X5_hasMember : GoodIn wsX9_onPledge (wsV RX9 9 RX5 yX5_hasMember wsX5_hasMember) := goodIn_app (goodIn_of _ (by decide +kernel)) ggX9_onPledge_X5_hasMember
set_option maxRecDepth 20000 in
theorem ggX9_onPledge_X9_isAmount : GoodIn wsX9_onPledge wsX9_isAmount := goodIn_r _ [14] (by decide +kernel) (by decide +kernel)
set_option maxRecDepth 20000 in
theorem gX9_onPledge_X9_isAmount : GoodIn wsX9_onPledge (va_wsS RX9 66 yX9_isAmount wsX9_isAmount) := goodIn_app (goodIn_of _ (by decide +kernel)) ggX9_onPledge_X9_isAmount
theorem dX9_onPledge_0 : decode cX9_onPledge 0 = .ok (.aload_n 0, 1) := by decide +kernel
theorem dX9_onPledge_1 : decode cX9_onPledge 1 = .ok (.iload_n 1, 1) := by decide +kernel
theorem dX9_onPledge_2 : decode cX9_onPledge 2 = .ok (.invokevirtual 9, 3) := by decide +kernel
theorem dX9_onPledge_5 : decode cX9_onPledge 5 = .ok (.ifCond .ne 7, 3) := by decide +kernel
theorem dX9_onPledge_8 : decode cX9_onPledge 8 = .ok (.getstatic 21, 3) := by decide +kernel
theorem dX9_onPledge_11 : decode cX9_onPledge 11 = .ok (.areturn, 1) := by decide +kernel
theorem dX9_onPledge_12 : decode cX9_onPledge 12 = .ok (.iload_n 2, 1) := by decide +kernel
theorem dX9_onPledge_13 : decode cX9_onPledge 13 = .ok (.invokestatic 66, 3) := by decide +kernel
theorem dX9_onPledge_16 : decode cX9_onPledge 16 = .ok (.ifCond .ne 7, 3) := by decide +kernel
theorem dX9_onPledge_19 : decode cX9_onPledge 19 = .ok (.getstatic 24, 3) := by decide +kernel
theorem dX9_onPledge_22 : decode cX9_onPledge 22 = .ok (.areturn, 1) := by decide +kernel
theorem dX9_onPledge_23 : decode cX9_onPledge 23 = .ok (.aload_n 0, 1) := by decide +kernel
theorem dX9_onPledge_24 : decode cX9_onPledge 24 = .ok (.getfield 69, 3) := by decide +kernel
theorem dX9_onPledge_27 : decode cX9_onPledge 27 = .ok (.iload_n 1, 1) := by decide +kernel
theorem dX9_onPledge_28 : decode cX9_onPledge 28 = .ok (.iaload, 1) := by decide +kernel
theorem dX9_onPledge_29 : decode cX9_onPledge 29 = .ok (.iload_n 2, 1) := by decide +kernel
theorem dX9_onPledge_30 : decode cX9_onPledge 30 = .ok (.iadd, 1) := by decide +kernel
theorem dX9_onPledge_31 : decode cX9_onPledge 31 = .ok (.bipush 99, 2) := by decide +kernel
theorem dX9_onPledge_33 : decode cX9_onPledge 33 = .ok (.if_icmp .le 7, 3) := by decide +kernel
theorem dX9_onPledge_36 : decode cX9_onPledge 36 = .ok (.iconst 1, 1) := by decide +kernel
theorem dX9_onPledge_37 : decode cX9_onPledge 37 = .ok (.goto 4, 3) := by decide +kernel
theorem dX9_onPledge_40 : decode cX9_onPledge 40 = .ok (.iconst 0, 1) := by decide +kernel
theorem dX9_onPledge_41 : decode cX9_onPledge 41 = .ok (.istore_n 3, 1) := by decide +kernel
theorem dX9_onPledge_42 : decode cX9_onPledge 42 = .ok (.iload_n 3, 1) := by decide +kernel
theorem dX9_onPledge_43 : decode cX9_onPledge 43 = .ok (.ifCond .eq 9, 3) := by decide +kernel
theorem dX9_onPledge_46 : decode cX9_onPledge 46 = .ok (.getstatic 31, 3) := by decide +kernel
theorem dX9_onPledge_49 : decode cX9_onPledge 49 = .ok (.goto 6, 3) := by decide +kernel
theorem dX9_onPledge_52 : decode cX9_onPledge 52 = .ok (.getstatic 15, 3) := by decide +kernel
theorem dX9_onPledge_55 : decode cX9_onPledge 55 = .ok (.areturn, 1) := by decide +kernel
set_option maxRecDepth 20000 in
theorem ggX9_onLimit_X5_hasMember : GoodIn wsX9_onLimit wsX5_hasMember := goodIn_r _ [9, 10, 20, 21, 22, 23, 24, 25, 26, 27, 28, 29] (by decide +kernel) (by decide +kernel)
set_option maxRecDepth 20000 in
theorem gX9_onLimit_X5_hasMember : GoodIn wsX9_onLimit (wsV RX9 9 RX5 yX5_hasMember wsX5_hasMember) := goodIn_app (goodIn_of _ (by decide +kernel)) ggX9_onLimit_X5_hasMember
set_option maxRecDepth 20000 in
theorem ggX9_onLimit_X5_debitOf : GoodIn wsX9_onLimit wsX5_debitOf := goodIn_ca (goodIn_r _ [14, 15, 16, 17, 8, 18, 19, 20, 21, 22, 23, 24, 25, 26, 27, 28, 29] (by decide +kernel) (by decide +kernel)) (goodIn_sub (fun _ h => List.mem_cons_of_mem _ (List.mem_append_right _ h)) (by decide +kernel))
set_option maxRecDepth 20000 in
theorem gX9_onLimit_X5_debitOf : GoodIn wsX9_onLimit (wsV RX9 44 RX5 yX5_debitOf wsX5_debitOf) := goodIn_app (goodIn_of _ (by decide +kernel)) ggX9_onLimit_X5_debitOf
theorem dX9_onLimit_0 : decode cX9_onLimit 0 = .ok (.aload_n 0, 1) := by decide +kernel
theorem dX9_onLimit_1 : decode cX9_onLimit 1 = .ok (.iload_n 1, 1) := by decide +kernel
theorem dX9_onLimit_2 : decode cX9_onLimit 2 = .ok (.invokevirtual 9, 3) := by decide +kernel
theorem dX9_onLimit_5 : decode cX9_onLimit 5 = .ok (.ifCond .ne 7, 3) := by decide +kernel
theorem dX9_onLimit_8 : decode cX9_onLimit 8 = .ok (.getstatic 21, 3) := by decide +kernel
theorem dX9_onLimit_11 : decode cX9_onLimit 11 = .ok (.areturn, 1) := by decide +kernel
theorem dX9_onLimit_12 : decode cX9_onLimit 12 = .ok (.iload_n 2, 1) := by decide +kernel
theorem dX9_onLimit_13 : decode cX9_onLimit 13 = .ok (.ifCond .lt 10, 3) := by decide +kernel
theorem dX9_onLimit_16 : decode cX9_onLimit 16 = .ok (.iload_n 2, 1) := by decide +kernel
theorem dX9_onLimit_17 : decode cX9_onLimit 17 = .ok (.sipush 500, 3) := by decide +kernel
theorem dX9_onLimit_20 : decode cX9_onLimit 20 = .ok (.if_icmp .le 7, 3) := by decide +kernel
theorem dX9_onLimit_23 : decode cX9_onLimit 23 = .ok (.getstatic 24, 3) := by decide +kernel
theorem dX9_onLimit_26 : decode cX9_onLimit 26 = .ok (.areturn, 1) := by decide +kernel
theorem dX9_onLimit_27 : decode cX9_onLimit 27 = .ok (.aload_n 0, 1) := by decide +kernel
theorem dX9_onLimit_28 : decode cX9_onLimit 28 = .ok (.iload_n 1, 1) := by decide +kernel
theorem dX9_onLimit_29 : decode cX9_onLimit 29 = .ok (.invokevirtual 44, 3) := by decide +kernel
theorem dX9_onLimit_32 : decode cX9_onLimit 32 = .ok (.iload_n 2, 1) := by decide +kernel
theorem dX9_onLimit_33 : decode cX9_onLimit 33 = .ok (.if_icmp .le 9, 3) := by decide +kernel
theorem dX9_onLimit_36 : decode cX9_onLimit 36 = .ok (.getstatic 31, 3) := by decide +kernel
theorem dX9_onLimit_39 : decode cX9_onLimit 39 = .ok (.goto 6, 3) := by decide +kernel
theorem dX9_onLimit_42 : decode cX9_onLimit 42 = .ok (.getstatic 15, 3) := by decide +kernel
theorem dX9_onLimit_45 : decode cX9_onLimit 45 = .ok (.areturn, 1) := by decide +kernel
theorem dX9_onHaircut_0 : decode cX9_onHaircut 0 = .ok (.iload_n 0, 1) := by decide +kernel
theorem dX9_onHaircut_1 : decode cX9_onHaircut 1 = .ok (.ifCond .lt 9, 3) := by decide +kernel
theorem dX9_onHaircut_4 : decode cX9_onHaircut 4 = .ok (.iload_n 0, 1) := by decide +kernel
theorem dX9_onHaircut_5 : decode cX9_onHaircut 5 = .ok (.bipush 90, 2) := by decide +kernel
theorem dX9_onHaircut_7 : decode cX9_onHaircut 7 = .ok (.if_icmp .le 9, 3) := by decide +kernel
theorem dX9_onHaircut_10 : decode cX9_onHaircut 10 = .ok (.getstatic 24, 3) := by decide +kernel
theorem dX9_onHaircut_13 : decode cX9_onHaircut 13 = .ok (.goto 6, 3) := by decide +kernel
theorem dX9_onHaircut_16 : decode cX9_onHaircut 16 = .ok (.getstatic 15, 3) := by decide +kernel
theorem dX9_onHaircut_19 : decode cX9_onHaircut 19 = .ok (.areturn, 1) := by decide +kernel
set_option maxRecDepth 20000 in
theorem ggX9_onDefault_X5_hasMember : GoodIn wsX9_onDefault wsX5_hasMember := goodIn_r _ [8, 9, 34, 35, 36, 37, 38, 39, 40, 41, 42, 43] (by decide +kernel) (by decide +kernel)
set_option maxRecDepth 20000 in
theorem gX9_onDefault_X5_hasMember : GoodIn wsX9_onDefault (wsV RX9 9 RX5 yX5_hasMember wsX5_hasMember) := goodIn_app (goodIn_of _ (by decide +kernel)) ggX9_onDefault_X5_hasMember
set_option maxRecDepth 20000 in
theorem ggX9_onDefault_X5_lossOf : GoodIn wsX9_onDefault wsX5_lossOf := goodIn_ca (goodIn_r _ [13, 14, 15, 16, 7, 17, 18, 19, 20, 21, 22, 23, 24, 25, 26, 27, 28, 29, 30, 31, 32, 33, 34, 35, 36, 37, 38, 39, 40, 41, 42, 43] (by decide +kernel) (by decide +kernel)) (goodIn_sub (fun _ h => List.mem_cons_of_mem _ (List.mem_append_right _ h)) (by decide +kernel))
set_option maxRecDepth 20000 in
theorem gX9_onDefault_X5_lossOf : GoodIn wsX9_onDefault (wsV RX9 72 RX5 yX5_lossOf wsX5_lossOf) := goodIn_app (goodIn_of _ (by decide +kernel)) ggX9_onDefault_X5_lossOf
theorem dX9_onDefault_0 : decode cX9_onDefault 0 = .ok (.aload_n 0, 1) := by decide +kernel
theorem dX9_onDefault_1 : decode cX9_onDefault 1 = .ok (.iload_n 1, 1) := by decide +kernel
theorem dX9_onDefault_2 : decode cX9_onDefault 2 = .ok (.invokevirtual 9, 3) := by decide +kernel
theorem dX9_onDefault_5 : decode cX9_onDefault 5 = .ok (.ifCond .ne 7, 3) := by decide +kernel
theorem dX9_onDefault_8 : decode cX9_onDefault 8 = .ok (.getstatic 21, 3) := by decide +kernel
theorem dX9_onDefault_11 : decode cX9_onDefault 11 = .ok (.areturn, 1) := by decide +kernel
theorem dX9_onDefault_12 : decode cX9_onDefault 12 = .ok (.aload_n 0, 1) := by decide +kernel
theorem dX9_onDefault_13 : decode cX9_onDefault 13 = .ok (.getfield 40, 3) := by decide +kernel
theorem dX9_onDefault_16 : decode cX9_onDefault 16 = .ok (.iload_n 1, 1) := by decide +kernel
theorem dX9_onDefault_17 : decode cX9_onDefault 17 = .ok (.baload, 1) := by decide +kernel
theorem dX9_onDefault_18 : decode cX9_onDefault 18 = .ok (.ifCond .ne 15, 3) := by decide +kernel
theorem dX9_onDefault_21 : decode cX9_onDefault 21 = .ok (.aload_n 0, 1) := by decide +kernel
theorem dX9_onDefault_22 : decode cX9_onDefault 22 = .ok (.iload_n 1, 1) := by decide +kernel
theorem dX9_onDefault_23 : decode cX9_onDefault 23 = .ok (.invokevirtual 72, 3) := by decide +kernel
theorem dX9_onDefault_26 : decode cX9_onDefault 26 = .ok (.ifCond .le 7, 3) := by decide +kernel
theorem dX9_onDefault_29 : decode cX9_onDefault 29 = .ok (.iconst 1, 1) := by decide +kernel
theorem dX9_onDefault_30 : decode cX9_onDefault 30 = .ok (.goto 4, 3) := by decide +kernel
theorem dX9_onDefault_33 : decode cX9_onDefault 33 = .ok (.iconst 0, 1) := by decide +kernel
theorem dX9_onDefault_34 : decode cX9_onDefault 34 = .ok (.istore_n 2, 1) := by decide +kernel
theorem dX9_onDefault_35 : decode cX9_onDefault 35 = .ok (.iload_n 2, 1) := by decide +kernel
theorem dX9_onDefault_36 : decode cX9_onDefault 36 = .ok (.ifCond .eq 9, 3) := by decide +kernel
theorem dX9_onDefault_39 : decode cX9_onDefault 39 = .ok (.getstatic 15, 3) := by decide +kernel
theorem dX9_onDefault_42 : decode cX9_onDefault 42 = .ok (.goto 6, 3) := by decide +kernel
theorem dX9_onDefault_45 : decode cX9_onDefault 45 = .ok (.getstatic 31, 3) := by decide +kernel
theorem dX9_onDefault_48 : decode cX9_onDefault 48 = .ok (.areturn, 1) := by decide +kernel
theorem dX9_isAmount_0 : decode cX9_isAmount 0 = .ok (.iload_n 0, 1) := by decide +kernel
theorem dX9_isAmount_1 : decode cX9_isAmount 1 = .ok (.iconst 1, 1) := by decide +kernel
theorem dX9_isAmount_2 : decode cX9_isAmount 2 = .ok (.if_icmp .lt 13, 3) := by decide +kernel
theorem dX9_isAmount_5 : decode cX9_isAmount 5 = .ok (.iload_n 0, 1) := by decide +kernel
theorem dX9_isAmount_6 : decode cX9_isAmount 6 = .ok (.bipush 99, 2) := by decide +kernel
theorem dX9_isAmount_8 : decode cX9_isAmount 8 = .ok (.if_icmp .gt 7, 3) := by decide +kernel
theorem dX9_isAmount_11 : decode cX9_isAmount 11 = .ok (.iconst 1, 1) := by decide +kernel
theorem dX9_isAmount_12 : decode cX9_isAmount 12 = .ok (.goto 4, 3) := by decide +kernel
theorem dX9_isAmount_15 : decode cX9_isAmount 15 = .ok (.iconst 0, 1) := by decide +kernel
theorem dX9_isAmount_16 : decode cX9_isAmount 16 = .ok (.ireturn, 1) := by decide +kernel
set_option maxRecDepth 20000 in
theorem ggX10_init_X5_init : GoodIn wsX10_init wsX5_init := goodIn_r _ [38, 39, 2, 3, 40, 41, 42, 43, 44, 45, 46, 47, 48, 49, 50, 51, 111, 112, 113, 114, 115, 116, 117, 118, 119, 120] (by decide +kernel) (by decide +kernel)
set_option maxRecDepth 20000 in
theorem gX10_init_X5_init_n9 : GoodIn wsX10_init (wsX5_init) := ggX10_init_X5_init
set_option maxRecDepth 20000 in
theorem ggX10_init_X1_init : GoodIn wsX10_init wsX1_init := goodIn_r _ [53, 54, 2, 3, 40, 55, 56, 57, 58, 133, 134, 135, 136] (by decide +kernel) (by decide +kernel)
set_option maxRecDepth 20000 in
theorem gX10_init_X1_init_n24 : GoodIn wsX10_init (wsX1_init) := ggX10_init_X1_init
set_option maxRecDepth 20000 in
theorem ggX10_init_X7_init : GoodIn wsX10_init wsX7_init := goodIn_r _ [60, 61, 2, 3, 40, 62, 63, 137, 138] (by decide +kernel) (by decide +kernel)
set_option maxRecDepth 20000 in
theorem gX10_init_X7_init_n31 : GoodIn wsX10_init (wsX7_init) := ggX10_init_X7_init
set_option maxRecDepth 20000 in
theorem ggX10_init_X6_init : GoodIn wsX10_init wsX6_init := goodIn_r _ [65, 66, 2, 3, 40, 67, 68, 69, 70, 71, 139, 140, 141, 142, 143] (by decide +kernel) (by decide +kernel)
set_option maxRecDepth 20000 in
theorem gX10_init_X6_init_n38 : GoodIn wsX10_init (wsX6_init) := ggX10_init_X6_init
set_option maxRecDepth 20000 in
theorem ggX10_init_X4_init : GoodIn wsX10_init wsX4_init := goodIn_r _ [74, 75, 2, 3, 76, 77, 78, 79, 5, 6, 37, 38, 39, 40, 41, 42, 43, 44, 45, 46, 47, 48, 49, 50, 51, 144, 145, 146, 111, 112, 113, 114, 115, 116, 117, 118, 119, 120] (by decide +kernel) (by decide +kernel)
set_option maxRecDepth 20000 in
theorem gX10_init_X4_init : GoodIn wsX10_init (wsX4_init) := ggX10_init_X4_init
set_option maxRecDepth 20000 in
theorem ggX10_init_X3_init : GoodIn wsX10_init wsX3_init := goodIn_r _ [81, 82, 2, 3, 83, 84, 40, 85, 86, 87, 88, 89, 90, 147, 148, 149, 150, 151, 152, 153] (by decide +kernel) (by decide +kernel)
set_option maxRecDepth 20000 in
theorem gX10_init_X3_init_n52 : GoodIn wsX10_init (wsX3_init) := ggX10_init_X3_init
set_option maxRecDepth 20000 in
theorem ggX10_init_J4_init_da8c8 : GoodIn wsX10_init wsJ4_init_da8c8 := goodIn_r _ [93, 94, 95, 96, 97, 98, 2, 3, 99, 100, 101, 102, 103, 104, 105, 106, 107, 108, 109, 110, 154, 155, 156, 157] (by decide +kernel) (by decide +kernel)
set_option maxRecDepth 20000 in
theorem gX10_init_J4_init_da8c8 : GoodIn wsX10_init (wsJ4_init_da8c8) := ggX10_init_J4_init_da8c8
theorem dX10_init_0 : decode cX10_init 0 = .ok (.aload_n 0, 1) := by decide +kernel
theorem dX10_init_1 : decode cX10_init 1 = .ok (.invokespecial 1, 3) := by decide +kernel
theorem dX10_init_4 : decode cX10_init 4 = .ok (.aload_n 0, 1) := by decide +kernel
theorem dX10_init_5 : decode cX10_init 5 = .ok (.new 7, 3) := by decide +kernel
theorem dX10_init_8 : decode cX10_init 8 = .ok (.dup, 1) := by decide +kernel
theorem dX10_init_9 : decode cX10_init 9 = .ok (.invokespecial 9, 3) := by decide +kernel
theorem dX10_init_12 : decode cX10_init 12 = .ok (.putfield 10, 3) := by decide +kernel
theorem dX10_init_15 : decode cX10_init 15 = .ok (.aload_n 0, 1) := by decide +kernel
theorem dX10_init_16 : decode cX10_init 16 = .ok (.new 7, 3) := by decide +kernel
theorem dX10_init_19 : decode cX10_init 19 = .ok (.dup, 1) := by decide +kernel
theorem dX10_init_20 : decode cX10_init 20 = .ok (.invokespecial 9, 3) := by decide +kernel
theorem dX10_init_23 : decode cX10_init 23 = .ok (.putfield 16, 3) := by decide +kernel
theorem dX10_init_26 : decode cX10_init 26 = .ok (.aload_n 0, 1) := by decide +kernel
theorem dX10_init_27 : decode cX10_init 27 = .ok (.new 7, 3) := by decide +kernel
theorem dX10_init_30 : decode cX10_init 30 = .ok (.dup, 1) := by decide +kernel
theorem dX10_init_31 : decode cX10_init 31 = .ok (.invokespecial 9, 3) := by decide +kernel
theorem dX10_init_34 : decode cX10_init 34 = .ok (.putfield 19, 3) := by decide +kernel
theorem dX10_init_37 : decode cX10_init 37 = .ok (.aload_n 0, 1) := by decide +kernel
theorem dX10_init_38 : decode cX10_init 38 = .ok (.new 22, 3) := by decide +kernel
theorem dX10_init_41 : decode cX10_init 41 = .ok (.dup, 1) := by decide +kernel
theorem dX10_init_42 : decode cX10_init 42 = .ok (.invokespecial 24, 3) := by decide +kernel
theorem dX10_init_45 : decode cX10_init 45 = .ok (.putfield 25, 3) := by decide +kernel
theorem dX10_init_48 : decode cX10_init 48 = .ok (.aload_n 0, 1) := by decide +kernel
theorem dX10_init_49 : decode cX10_init 49 = .ok (.new 29, 3) := by decide +kernel
theorem dX10_init_52 : decode cX10_init 52 = .ok (.dup, 1) := by decide +kernel
theorem dX10_init_53 : decode cX10_init 53 = .ok (.invokespecial 31, 3) := by decide +kernel
theorem dX10_init_56 : decode cX10_init 56 = .ok (.putfield 32, 3) := by decide +kernel
theorem dX10_init_59 : decode cX10_init 59 = .ok (.aload_n 0, 1) := by decide +kernel
theorem dX10_init_60 : decode cX10_init 60 = .ok (.new 36, 3) := by decide +kernel
theorem dX10_init_63 : decode cX10_init 63 = .ok (.dup, 1) := by decide +kernel
theorem dX10_init_64 : decode cX10_init 64 = .ok (.invokespecial 38, 3) := by decide +kernel
theorem dX10_init_67 : decode cX10_init 67 = .ok (.putfield 39, 3) := by decide +kernel
theorem dX10_init_70 : decode cX10_init 70 = .ok (.aload_n 0, 1) := by decide +kernel
theorem dX10_init_71 : decode cX10_init 71 = .ok (.new 43, 3) := by decide +kernel
theorem dX10_init_74 : decode cX10_init 74 = .ok (.dup, 1) := by decide +kernel
theorem dX10_init_75 : decode cX10_init 75 = .ok (.invokespecial 45, 3) := by decide +kernel
theorem dX10_init_78 : decode cX10_init 78 = .ok (.putfield 46, 3) := by decide +kernel
theorem dX10_init_81 : decode cX10_init 81 = .ok (.aload_n 0, 1) := by decide +kernel
theorem dX10_init_82 : decode cX10_init 82 = .ok (.new 50, 3) := by decide +kernel
theorem dX10_init_85 : decode cX10_init 85 = .ok (.dup, 1) := by decide +kernel
theorem dX10_init_86 : decode cX10_init 86 = .ok (.invokespecial 52, 3) := by decide +kernel
theorem dX10_init_89 : decode cX10_init 89 = .ok (.putfield 53, 3) := by decide +kernel
theorem dX10_init_92 : decode cX10_init 92 = .ok (.aload_n 0, 1) := by decide +kernel
theorem dX10_init_93 : decode cX10_init 93 = .ok (.new 57, 3) := by decide +kernel
theorem dX10_init_96 : decode cX10_init 96 = .ok (.dup, 1) := by decide +kernel
theorem dX10_init_97 : decode cX10_init 97 = .ok (.invokespecial 59, 3) := by decide +kernel
theorem dX10_init_100 : decode cX10_init 100 = .ok (.putfield 60, 3) := by decide +kernel
theorem dX10_init_103 : decode cX10_init 103 = .ok (.aload_n 0, 1) := by decide +kernel
theorem dX10_init_104 : decode cX10_init 104 = .ok (.iconst 0, 1) := by decide +kernel
theorem dX10_init_105 : decode cX10_init 105 = .ok (.putfield 64, 3) := by decide +kernel
theorem dX10_init_108 : decode cX10_init 108 = .ok (.aload_n 0, 1) := by decide +kernel
theorem dX10_init_109 : decode cX10_init 109 = .ok (.iconst (-1), 1) := by decide +kernel
theorem dX10_init_110 : decode cX10_init 110 = .ok (.putfield 68, 3) := by decide +kernel
theorem dX10_init_113 : decode cX10_init 113 = .ok (.aload_n 0, 1) := by decide +kernel
theorem dX10_init_114 : decode cX10_init 114 = .ok (.iconst (-1), 1) := by decide +kernel
theorem dX10_init_115 : decode cX10_init 115 = .ok (.putfield 72, 3) := by decide +kernel
theorem dX10_init_118 : decode cX10_init 118 = .ok (.return_, 1) := by decide +kernel
set_option maxRecDepth 20000 in
theorem ggX10_addMember_X9_onJoining : GoodIn wsX10_addMember wsX9_onJoining := goodIn_r _ [6, 7, 8, 72, 73, 74, 75, 76, 77, 78, 79, 80, 81] (by decide +kernel) (by decide +kernel)
set_option maxRecDepth 20000 in
theorem gX10_addMember_X9_onJoining : GoodIn wsX10_addMember (va_wsS RX10 75 yX9_onJoining wsX9_onJoining) := goodIn_app (goodIn_of _ (by decide +kernel)) ggX10_addMember_X9_onJoining
set_option maxRecDepth 20000 in
theorem ggX10_addMember_X10_throwIfRefused : GoodIn wsX10_addMember wsX10_throwIfRefused := goodIn_ca (goodIn_ca (goodIn_ca (goodIn_ca (goodIn_r _ [12, 13, 14, 15, 16, 17, 18, 19, 20, 21, 22, 23, 24] (by decide +kernel) (by decide +kernel)) (goodIn_sub (fun _ h => List.mem_cons_of_mem _ (List.mem_append_left _ (List.mem_append_left _ (List.mem_append_left _ (List.mem_append_left _ (List.mem_append_right _ h)))))) (by decide +kernel))) (goodIn_sub (fun _ h => List.mem_cons_of_mem _ (List.mem_append_left _ (List.mem_append_left _ (List.mem_append_left _ (List.mem_append_right _ h))))) (by decide +kernel))) (goodIn_sub (fun _ h => List.mem_cons_of_mem _ (List.mem_append_left _ (List.mem_append_left _ (List.mem_append_right _ h)))) (by decide +kernel))) (goodIn_sub (fun _ h => List.mem_cons_of_mem _ (List.mem_append_left _ (List.mem_append_right _ h))) (by decide +kernel))
set_option maxRecDepth 20000 in
theorem gX10_addMember_X10_throwIfRefused : GoodIn wsX10_addMember (va_wsS RX10 81 yX10_throwIfRefused wsX10_throwIfRefused) := goodIn_app (goodIn_of _ (by decide +kernel)) ggX10_addMember_X10_throwIfRefused
set_option maxRecDepth 20000 in
theorem ggX10_addMember_X4_keep : GoodIn wsX10_addMember wsX4_keep := goodIn_ca (goodIn_r _ [29, 30, 31, 32, 33, 34, 35, 36, 37, 38, 39, 40, 41, 42, 43, 44, 45, 46, 47, 48, 49, 50, 51, 52, 53, 54, 55, 82, 83, 84, 72, 73, 74, 75, 76, 77, 78, 79, 80, 81] (by decide +kernel) (by decide +kernel)) (goodIn_sub (fun _ h => List.mem_cons_of_mem _ (List.mem_append_right _ h)) (by decide +kernel))
set_option maxRecDepth 20000 in
theorem gX10_addMember_X4_keep : GoodIn wsX10_addMember (wsV RX10 85 RX4 yX4_keep wsX4_keep) := goodIn_app (goodIn_of _ (by decide +kernel)) ggX10_addMember_X4_keep
set_option maxRecDepth 20000 in
theorem ggX10_addMember_X5_join : GoodIn wsX10_addMember wsX5_join := goodIn_ca (goodIn_r _ [59, 52, 47, 49, 72, 73, 74, 75, 76, 77, 78, 79, 80, 81] (by decide +kernel) (by decide +kernel)) (goodIn_sub (fun _ h => List.mem_cons_of_mem _ (List.mem_append_right _ h)) (by decide +kernel))
set_option maxRecDepth 20000 in
theorem gX10_addMember_X5_join : GoodIn wsX10_addMember (wsV RX10 89 RX5 yX5_join wsX5_join) := goodIn_app (goodIn_of _ (by decide +kernel)) ggX10_addMember_X5_join
theorem dX10_addMember_0 : decode cX10_addMember 0 = .ok (.aload_n 0, 1) := by decide +kernel
theorem dX10_addMember_1 : decode cX10_addMember 1 = .ok (.getfield 10, 3) := by decide +kernel
theorem dX10_addMember_4 : decode cX10_addMember 4 = .ok (.invokestatic 75, 3) := by decide +kernel
theorem dX10_addMember_7 : decode cX10_addMember 7 = .ok (.invokestatic 81, 3) := by decide +kernel
theorem dX10_addMember_10 : decode cX10_addMember 10 = .ok (.aload_n 0, 1) := by decide +kernel
theorem dX10_addMember_11 : decode cX10_addMember 11 = .ok (.getfield 46, 3) := by decide +kernel
theorem dX10_addMember_14 : decode cX10_addMember 14 = .ok (.aload_n 0, 1) := by decide +kernel
theorem dX10_addMember_15 : decode cX10_addMember 15 = .ok (.getfield 10, 3) := by decide +kernel
theorem dX10_addMember_18 : decode cX10_addMember 18 = .ok (.invokevirtual 85, 3) := by decide +kernel
theorem dX10_addMember_21 : decode cX10_addMember 21 = .ok (.aload_n 0, 1) := by decide +kernel
theorem dX10_addMember_22 : decode cX10_addMember 22 = .ok (.getfield 10, 3) := by decide +kernel
theorem dX10_addMember_25 : decode cX10_addMember 25 = .ok (.invokevirtual 89, 3) := by decide +kernel
theorem dX10_addMember_28 : decode cX10_addMember 28 = .ok (.ireturn, 1) := by decide +kernel
set_option maxRecDepth 20000 in
theorem ggX10_addDebt_X9_onDebt : GoodIn wsX10_addDebt wsX9_onDebt := goodIn_ca (goodIn_r _ [6, 7, 8, 9, 10, 11, 5, 12, 13, 14, 15, 16, 17, 18, 19, 20, 21, 22, 23, 24, 25, 26, 27, 28, 29, 30, 31, 32, 33, 34, 35, 96, 97, 98, 99, 100, 101, 102, 103, 104, 105] (by decide +kernel) (by decide +kernel)) (goodIn_sub (fun _ h => List.mem_cons_of_mem _ (List.mem_append_left _ (List.mem_append_left _ (List.mem_append_left _ (List.mem_append_left _ (List.mem_append_right _ h)))))) (by decide +kernel))
set_option maxRecDepth 20000 in
theorem gX10_addDebt_X9_onDebt : GoodIn wsX10_addDebt (va_wsS RX10 93 yX9_onDebt wsX9_onDebt) := goodIn_app (goodIn_of _ (by decide +kernel)) ggX10_addDebt_X9_onDebt
set_option maxRecDepth 20000 in
theorem ggX10_addDebt_X10_throwIfRefused : GoodIn wsX10_addDebt wsX10_throwIfRefused := goodIn_ca (goodIn_ca (goodIn_ca (goodIn_ca (goodIn_r _ [39, 40, 41, 42, 43, 44, 45, 46, 47, 48, 49, 50, 51] (by decide +kernel) (by decide +kernel)) (goodIn_sub (fun _ h => List.mem_cons_of_mem _ (List.mem_append_left _ (List.mem_append_left _ (List.mem_append_left _ (List.mem_append_right _ h))))) (by decide +kernel))) (goodIn_sub (fun _ h => List.mem_cons_of_mem _ (List.mem_append_left _ (List.mem_append_left _ (List.mem_append_right _ h)))) (by decide +kernel))) (goodIn_sub (fun _ h => List.mem_cons_of_mem _ (List.mem_append_left _ (List.mem_append_right _ h))) (by decide +kernel))) (goodIn_sub (fun _ h => List.mem_cons_of_mem _ (List.mem_append_right _ h)) (by decide +kernel))
set_option maxRecDepth 20000 in
theorem gX10_addDebt_X10_throwIfRefused : GoodIn wsX10_addDebt (va_wsS RX10 81 yX10_throwIfRefused wsX10_throwIfRefused) := goodIn_app (goodIn_of _ (by decide +kernel)) ggX10_addDebt_X10_throwIfRefused
set_option maxRecDepth 20000 in
theorem ggX10_addDebt_X4_keep : GoodIn wsX10_addDebt wsX4_keep := goodIn_ca (goodIn_r _ [56, 57, 58, 59, 60, 61, 62, 63, 64, 65, 66, 21, 67, 35, 68, 69, 70, 71, 72, 73, 74, 75, 76, 23, 77, 78, 79, 106, 107, 108, 96, 97, 98, 99, 100, 101, 102, 103, 104, 105] (by decide +kernel) (by decide +kernel)) (goodIn_sub (fun _ h => List.mem_cons_of_mem _ (List.mem_append_left _ (List.mem_append_left _ (List.mem_append_left _ (List.mem_append_left _ (List.mem_append_right _ h)))))) (by decide +kernel))
set_option maxRecDepth 20000 in
theorem gX10_addDebt_X4_keep : GoodIn wsX10_addDebt (wsV RX10 85 RX4 yX4_keep wsX4_keep) := goodIn_app (goodIn_of _ (by decide +kernel)) ggX10_addDebt_X4_keep
set_option maxRecDepth 20000 in
theorem ggX10_addDebt_X5_changeDebt : GoodIn wsX10_addDebt wsX5_changeDebt := goodIn_ca (goodIn_r _ [83, 35, 75, 31, 32, 33, 21, 34, 96, 97, 98, 99, 100, 101, 102, 103, 104, 105] (by decide +kernel) (by decide +kernel)) (goodIn_sub (fun _ h => List.mem_cons_of_mem _ (List.mem_append_left _ (List.mem_append_left _ (List.mem_append_left _ (List.mem_append_left _ (List.mem_append_right _ h)))))) (by decide +kernel))
set_option maxRecDepth 20000 in
theorem gX10_addDebt_X5_changeDebt : GoodIn wsX10_addDebt (wsV RX10 97 RX5 yX5_changeDebt wsX5_changeDebt) := goodIn_app (goodIn_of _ (by decide +kernel)) ggX10_addDebt_X5_changeDebt
theorem dX10_addDebt_0 : decode cX10_addDebt 0 = .ok (.aload_n 0, 1) := by decide +kernel
theorem dX10_addDebt_1 : decode cX10_addDebt 1 = .ok (.getfield 10, 3) := by decide +kernel
theorem dX10_addDebt_4 : decode cX10_addDebt 4 = .ok (.iload_n 1, 1) := by decide +kernel
theorem dX10_addDebt_5 : decode cX10_addDebt 5 = .ok (.iload_n 2, 1) := by decide +kernel
theorem dX10_addDebt_6 : decode cX10_addDebt 6 = .ok (.iload_n 3, 1) := by decide +kernel
theorem dX10_addDebt_7 : decode cX10_addDebt 7 = .ok (.invokestatic 93, 3) := by decide +kernel
theorem dX10_addDebt_10 : decode cX10_addDebt 10 = .ok (.invokestatic 81, 3) := by decide +kernel
theorem dX10_addDebt_13 : decode cX10_addDebt 13 = .ok (.aload_n 0, 1) := by decide +kernel
theorem dX10_addDebt_14 : decode cX10_addDebt 14 = .ok (.getfield 46, 3) := by decide +kernel
theorem dX10_addDebt_17 : decode cX10_addDebt 17 = .ok (.aload_n 0, 1) := by decide +kernel
theorem dX10_addDebt_18 : decode cX10_addDebt 18 = .ok (.getfield 10, 3) := by decide +kernel
theorem dX10_addDebt_21 : decode cX10_addDebt 21 = .ok (.invokevirtual 85, 3) := by decide +kernel
theorem dX10_addDebt_24 : decode cX10_addDebt 24 = .ok (.aload_n 0, 1) := by decide +kernel
theorem dX10_addDebt_25 : decode cX10_addDebt 25 = .ok (.getfield 10, 3) := by decide +kernel
theorem dX10_addDebt_28 : decode cX10_addDebt 28 = .ok (.iload_n 1, 1) := by decide +kernel
theorem dX10_addDebt_29 : decode cX10_addDebt 29 = .ok (.iload_n 2, 1) := by decide +kernel
theorem dX10_addDebt_30 : decode cX10_addDebt 30 = .ok (.iload_n 3, 1) := by decide +kernel
theorem dX10_addDebt_31 : decode cX10_addDebt 31 = .ok (.invokevirtual 97, 3) := by decide +kernel
theorem dX10_addDebt_34 : decode cX10_addDebt 34 = .ok (.ireturn, 1) := by decide +kernel
set_option maxRecDepth 20000 in
theorem ggX10_pay_X9_onPayment : GoodIn wsX10_pay wsX9_onPayment := goodIn_ca (goodIn_r _ [6, 7, 8, 9, 10, 11, 5, 12, 13, 14, 15, 16, 17, 18, 19, 20, 21, 22, 23, 24, 25, 26, 27, 28, 29, 30, 31, 97, 98, 99, 100, 101, 102, 103, 104, 105, 106] (by decide +kernel) (by decide +kernel)) (goodIn_sub (fun _ h => List.mem_cons_of_mem _ (List.mem_append_left _ (List.mem_append_left _ (List.mem_append_left _ (List.mem_append_left _ (List.mem_append_right _ h)))))) (by decide +kernel))
set_option maxRecDepth 20000 in
theorem gX10_pay_X9_onPayment : GoodIn wsX10_pay (va_wsS RX10 101 yX9_onPayment wsX9_onPayment) := goodIn_app (goodIn_of _ (by decide +kernel)) ggX10_pay_X9_onPayment
set_option maxRecDepth 20000 in
theorem ggX10_pay_X10_throwIfRefused : GoodIn wsX10_pay wsX10_throwIfRefused := goodIn_ca (goodIn_ca (goodIn_ca (goodIn_ca (goodIn_r _ [35, 36, 37, 38, 39, 40, 41, 42, 43, 44, 45, 46, 47] (by decide +kernel) (by decide +kernel)) (goodIn_sub (fun _ h => List.mem_cons_of_mem _ (List.mem_append_left _ (List.mem_append_left _ (List.mem_append_left _ (List.mem_append_right _ h))))) (by decide +kernel))) (goodIn_sub (fun _ h => List.mem_cons_of_mem _ (List.mem_append_left _ (List.mem_append_left _ (List.mem_append_right _ h)))) (by decide +kernel))) (goodIn_sub (fun _ h => List.mem_cons_of_mem _ (List.mem_append_left _ (List.mem_append_right _ h))) (by decide +kernel))) (goodIn_sub (fun _ h => List.mem_cons_of_mem _ (List.mem_append_right _ h)) (by decide +kernel))
set_option maxRecDepth 20000 in
theorem gX10_pay_X10_throwIfRefused : GoodIn wsX10_pay (va_wsS RX10 81 yX10_throwIfRefused wsX10_throwIfRefused) := goodIn_app (goodIn_of _ (by decide +kernel)) ggX10_pay_X10_throwIfRefused
set_option maxRecDepth 20000 in
theorem ggX10_pay_X4_keep : GoodIn wsX10_pay wsX4_keep := goodIn_ca (goodIn_r _ [52, 53, 54, 55, 56, 57, 58, 59, 60, 61, 62, 21, 63, 31, 64, 65, 66, 67, 68, 69, 70, 71, 72, 23, 73, 74, 75, 107, 108, 109, 97, 98, 99, 100, 101, 102, 103, 104, 105, 106] (by decide +kernel) (by decide +kernel)) (goodIn_sub (fun _ h => List.mem_cons_of_mem _ (List.mem_append_left _ (List.mem_append_left _ (List.mem_append_left _ (List.mem_append_left _ (List.mem_append_right _ h)))))) (by decide +kernel))
set_option maxRecDepth 20000 in
theorem gX10_pay_X4_keep : GoodIn wsX10_pay (wsV RX10 85 RX4 yX4_keep wsX4_keep) := goodIn_app (goodIn_of _ (by decide +kernel)) ggX10_pay_X4_keep
set_option maxRecDepth 20000 in
theorem ggX10_pay_X5_payDebt : GoodIn wsX10_pay wsX5_payDebt := goodIn_ca (goodIn_r _ [79, 68, 80, 81, 82, 21, 83, 31, 71, 84, 28, 29, 30, 97, 98, 99, 100, 101, 102, 103, 104, 105, 106] (by decide +kernel) (by decide +kernel)) (goodIn_sub (fun _ h => List.mem_cons_of_mem _ (List.mem_append_left _ (List.mem_append_left _ (List.mem_append_left _ (List.mem_append_left _ (List.mem_append_right _ h)))))) (by decide +kernel))
set_option maxRecDepth 20000 in
theorem gX10_pay_X5_payDebt : GoodIn wsX10_pay (wsV RX10 104 RX5 yX5_payDebt wsX5_payDebt) := goodIn_app (goodIn_of _ (by decide +kernel)) ggX10_pay_X5_payDebt
theorem dX10_pay_0 : decode cX10_pay 0 = .ok (.aload_n 0, 1) := by decide +kernel
theorem dX10_pay_1 : decode cX10_pay 1 = .ok (.getfield 10, 3) := by decide +kernel
theorem dX10_pay_4 : decode cX10_pay 4 = .ok (.iload_n 1, 1) := by decide +kernel
theorem dX10_pay_5 : decode cX10_pay 5 = .ok (.iload_n 2, 1) := by decide +kernel
theorem dX10_pay_6 : decode cX10_pay 6 = .ok (.iload_n 3, 1) := by decide +kernel
theorem dX10_pay_7 : decode cX10_pay 7 = .ok (.invokestatic 101, 3) := by decide +kernel
theorem dX10_pay_10 : decode cX10_pay 10 = .ok (.invokestatic 81, 3) := by decide +kernel
theorem dX10_pay_13 : decode cX10_pay 13 = .ok (.aload_n 0, 1) := by decide +kernel
theorem dX10_pay_14 : decode cX10_pay 14 = .ok (.getfield 46, 3) := by decide +kernel
theorem dX10_pay_17 : decode cX10_pay 17 = .ok (.aload_n 0, 1) := by decide +kernel
theorem dX10_pay_18 : decode cX10_pay 18 = .ok (.getfield 10, 3) := by decide +kernel
theorem dX10_pay_21 : decode cX10_pay 21 = .ok (.invokevirtual 85, 3) := by decide +kernel
theorem dX10_pay_24 : decode cX10_pay 24 = .ok (.aload_n 0, 1) := by decide +kernel
theorem dX10_pay_25 : decode cX10_pay 25 = .ok (.getfield 10, 3) := by decide +kernel
theorem dX10_pay_28 : decode cX10_pay 28 = .ok (.iload_n 1, 1) := by decide +kernel
theorem dX10_pay_29 : decode cX10_pay 29 = .ok (.iload_n 2, 1) := by decide +kernel
theorem dX10_pay_30 : decode cX10_pay 30 = .ok (.iload_n 3, 1) := by decide +kernel
theorem dX10_pay_31 : decode cX10_pay 31 = .ok (.invokevirtual 104, 3) := by decide +kernel
theorem dX10_pay_34 : decode cX10_pay 34 = .ok (.ireturn, 1) := by decide +kernel
set_option maxRecDepth 20000 in
theorem ggX10_netPair_X9_onPair : GoodIn wsX10_netPair wsX9_onPair := goodIn_r _ [6, 7, 8, 9, 10, 11, 12, 13, 14, 15, 86, 87, 88, 89, 90, 91, 92, 93, 94, 95] (by decide +kernel) (by decide +kernel)
set_option maxRecDepth 20000 in
theorem gX10_netPair_X9_onPair : GoodIn wsX10_netPair (va_wsS RX10 107 yX9_onPair wsX9_onPair) := goodIn_app (goodIn_of _ (by decide +kernel)) ggX10_netPair_X9_onPair
set_option maxRecDepth 20000 in
theorem ggX10_netPair_X10_throwIfRefused : GoodIn wsX10_netPair wsX10_throwIfRefused := goodIn_ca (goodIn_ca (goodIn_ca (goodIn_ca (goodIn_r _ [19, 20, 21, 22, 23, 24, 25, 26, 27, 28, 29, 30, 31] (by decide +kernel) (by decide +kernel)) (goodIn_sub (fun _ h => List.mem_cons_of_mem _ (List.mem_append_left _ (List.mem_append_left _ (List.mem_append_left _ (List.mem_append_left _ (List.mem_append_right _ h)))))) (by decide +kernel))) (goodIn_sub (fun _ h => List.mem_cons_of_mem _ (List.mem_append_left _ (List.mem_append_left _ (List.mem_append_left _ (List.mem_append_right _ h))))) (by decide +kernel))) (goodIn_sub (fun _ h => List.mem_cons_of_mem _ (List.mem_append_left _ (List.mem_append_left _ (List.mem_append_right _ h)))) (by decide +kernel))) (goodIn_sub (fun _ h => List.mem_cons_of_mem _ (List.mem_append_left _ (List.mem_append_right _ h))) (by decide +kernel))
set_option maxRecDepth 20000 in
theorem gX10_netPair_X10_throwIfRefused : GoodIn wsX10_netPair (va_wsS RX10 81 yX10_throwIfRefused wsX10_throwIfRefused) := goodIn_app (goodIn_of _ (by decide +kernel)) ggX10_netPair_X10_throwIfRefused
set_option maxRecDepth 20000 in
theorem ggX10_netPair_X4_keep : GoodIn wsX10_netPair wsX4_keep := goodIn_ca (goodIn_r _ [36, 37, 38, 39, 40, 41, 42, 43, 44, 45, 46, 13, 47, 48, 49, 50, 51, 52, 53, 54, 55, 56, 57, 15, 58, 59, 60, 96, 97, 98, 86, 87, 88, 89, 90, 91, 92, 93, 94, 95] (by decide +kernel) (by decide +kernel)) (goodIn_sub (fun _ h => List.mem_cons_of_mem _ (List.mem_append_right _ h)) (by decide +kernel))
set_option maxRecDepth 20000 in
theorem gX10_netPair_X4_keep : GoodIn wsX10_netPair (wsV RX10 85 RX4 yX4_keep wsX4_keep) := goodIn_app (goodIn_of _ (by decide +kernel)) ggX10_netPair_X4_keep
set_option maxRecDepth 20000 in
theorem ggX10_netPair_X5_netTwo : GoodIn wsX10_netPair wsX5_netTwo := goodIn_ca (goodIn_r _ [64, 65, 41, 42, 43, 59, 66, 67, 68, 13, 69, 48, 70, 71, 72, 73, 56, 86, 87, 88, 89, 90, 91, 92, 93, 94, 95] (by decide +kernel) (by decide +kernel)) (goodIn_sub (fun _ h => List.mem_cons_of_mem _ (List.mem_append_right _ h)) (by decide +kernel))
set_option maxRecDepth 20000 in
theorem gX10_netPair_X5_netTwo : GoodIn wsX10_netPair (wsV RX10 111 RX5 yX5_netTwo wsX5_netTwo) := goodIn_app (goodIn_of _ (by decide +kernel)) ggX10_netPair_X5_netTwo
theorem dX10_netPair_0 : decode cX10_netPair 0 = .ok (.aload_n 0, 1) := by decide +kernel
theorem dX10_netPair_1 : decode cX10_netPair 1 = .ok (.getfield 10, 3) := by decide +kernel
theorem dX10_netPair_4 : decode cX10_netPair 4 = .ok (.iload_n 1, 1) := by decide +kernel
theorem dX10_netPair_5 : decode cX10_netPair 5 = .ok (.iload_n 2, 1) := by decide +kernel
theorem dX10_netPair_6 : decode cX10_netPair 6 = .ok (.invokestatic 107, 3) := by decide +kernel
theorem dX10_netPair_9 : decode cX10_netPair 9 = .ok (.invokestatic 81, 3) := by decide +kernel
theorem dX10_netPair_12 : decode cX10_netPair 12 = .ok (.aload_n 0, 1) := by decide +kernel
theorem dX10_netPair_13 : decode cX10_netPair 13 = .ok (.getfield 46, 3) := by decide +kernel
theorem dX10_netPair_16 : decode cX10_netPair 16 = .ok (.aload_n 0, 1) := by decide +kernel
theorem dX10_netPair_17 : decode cX10_netPair 17 = .ok (.getfield 10, 3) := by decide +kernel
theorem dX10_netPair_20 : decode cX10_netPair 20 = .ok (.invokevirtual 85, 3) := by decide +kernel
theorem dX10_netPair_23 : decode cX10_netPair 23 = .ok (.aload_n 0, 1) := by decide +kernel
theorem dX10_netPair_24 : decode cX10_netPair 24 = .ok (.getfield 10, 3) := by decide +kernel
theorem dX10_netPair_27 : decode cX10_netPair 27 = .ok (.iload_n 1, 1) := by decide +kernel
theorem dX10_netPair_28 : decode cX10_netPair 28 = .ok (.iload_n 2, 1) := by decide +kernel
theorem dX10_netPair_29 : decode cX10_netPair 29 = .ok (.invokevirtual 111, 3) := by decide +kernel
theorem dX10_netPair_32 : decode cX10_netPair 32 = .ok (.ireturn, 1) := by decide +kernel
set_option maxRecDepth 20000 in
theorem ggX10_netTriangle_X9_onTriangle : GoodIn wsX10_netTriangle wsX9_onTriangle := goodIn_ca (goodIn_r _ [6, 7, 8, 9, 10, 11, 12, 13, 14, 15, 16, 17, 18, 19, 20, 21, 88, 89, 90, 91, 92, 93, 94, 95, 96, 97] (by decide +kernel) (by decide +kernel)) (goodIn_sub (fun _ h => List.mem_cons_of_mem _ (List.mem_append_left _ (List.mem_append_left _ (List.mem_append_left _ (List.mem_append_left _ (List.mem_append_right _ h)))))) (by decide +kernel))
set_option maxRecDepth 20000 in
theorem gX10_netTriangle_X9_onTriangle : GoodIn wsX10_netTriangle (va_wsS RX10 115 yX9_onTriangle wsX9_onTriangle) := goodIn_app (goodIn_of _ (by decide +kernel)) ggX10_netTriangle_X9_onTriangle
set_option maxRecDepth 20000 in
theorem ggX10_netTriangle_X10_throwIfRefused : GoodIn wsX10_netTriangle wsX10_throwIfRefused := goodIn_ca (goodIn_ca (goodIn_ca (goodIn_ca (goodIn_r _ [25, 26, 27, 28, 29, 30, 31, 32, 33, 34, 35, 36, 37] (by decide +kernel) (by decide +kernel)) (goodIn_sub (fun _ h => List.mem_cons_of_mem _ (List.mem_append_left _ (List.mem_append_left _ (List.mem_append_left _ (List.mem_append_right _ h))))) (by decide +kernel))) (goodIn_sub (fun _ h => List.mem_cons_of_mem _ (List.mem_append_left _ (List.mem_append_left _ (List.mem_append_right _ h)))) (by decide +kernel))) (goodIn_sub (fun _ h => List.mem_cons_of_mem _ (List.mem_append_left _ (List.mem_append_right _ h))) (by decide +kernel))) (goodIn_sub (fun _ h => List.mem_cons_of_mem _ (List.mem_append_right _ h)) (by decide +kernel))
set_option maxRecDepth 20000 in
theorem gX10_netTriangle_X10_throwIfRefused : GoodIn wsX10_netTriangle (va_wsS RX10 81 yX10_throwIfRefused wsX10_throwIfRefused) := goodIn_app (goodIn_of _ (by decide +kernel)) ggX10_netTriangle_X10_throwIfRefused
set_option maxRecDepth 20000 in
theorem ggX10_netTriangle_X4_keep : GoodIn wsX10_netTriangle wsX4_keep := goodIn_ca (goodIn_r _ [42, 43, 44, 45, 46, 47, 48, 49, 50, 51, 52, 14, 53, 21, 54, 55, 56, 57, 58, 59, 60, 61, 62, 16, 63, 64, 65, 98, 99, 100, 88, 89, 90, 91, 92, 93, 94, 95, 96, 97] (by decide +kernel) (by decide +kernel)) (goodIn_sub (fun _ h => List.mem_cons_of_mem _ (List.mem_append_left _ (List.mem_append_left _ (List.mem_append_left _ (List.mem_append_left _ (List.mem_append_right _ h)))))) (by decide +kernel))
set_option maxRecDepth 20000 in
theorem gX10_netTriangle_X4_keep : GoodIn wsX10_netTriangle (wsV RX10 85 RX4 yX4_keep wsX4_keep) := goodIn_app (goodIn_of _ (by decide +kernel)) ggX10_netTriangle_X4_keep
set_option maxRecDepth 20000 in
theorem ggX10_netTriangle_X5_netThree : GoodIn wsX10_netTriangle wsX5_netThree := goodIn_ca (goodIn_r _ [69, 70, 47, 48, 49, 64, 71, 18, 19, 14, 20, 21, 72, 73, 74, 75, 61, 88, 89, 90, 91, 92, 93, 94, 95, 96, 97] (by decide +kernel) (by decide +kernel)) (goodIn_sub (fun _ h => List.mem_cons_of_mem _ (List.mem_append_left _ (List.mem_append_left _ (List.mem_append_left _ (List.mem_append_left _ (List.mem_append_right _ h)))))) (by decide +kernel))
set_option maxRecDepth 20000 in
theorem gX10_netTriangle_X5_netThree : GoodIn wsX10_netTriangle (wsV RX10 118 RX5 yX5_netThree wsX5_netThree) := goodIn_app (goodIn_of _ (by decide +kernel)) ggX10_netTriangle_X5_netThree
theorem dX10_netTriangle_0 : decode cX10_netTriangle 0 = .ok (.aload_n 0, 1) := by decide +kernel
theorem dX10_netTriangle_1 : decode cX10_netTriangle 1 = .ok (.getfield 10, 3) := by decide +kernel
theorem dX10_netTriangle_4 : decode cX10_netTriangle 4 = .ok (.iload_n 1, 1) := by decide +kernel
theorem dX10_netTriangle_5 : decode cX10_netTriangle 5 = .ok (.iload_n 2, 1) := by decide +kernel
theorem dX10_netTriangle_6 : decode cX10_netTriangle 6 = .ok (.iload_n 3, 1) := by decide +kernel
theorem dX10_netTriangle_7 : decode cX10_netTriangle 7 = .ok (.invokestatic 115, 3) := by decide +kernel
theorem dX10_netTriangle_10 : decode cX10_netTriangle 10 = .ok (.invokestatic 81, 3) := by decide +kernel
theorem dX10_netTriangle_13 : decode cX10_netTriangle 13 = .ok (.aload_n 0, 1) := by decide +kernel
theorem dX10_netTriangle_14 : decode cX10_netTriangle 14 = .ok (.getfield 46, 3) := by decide +kernel
theorem dX10_netTriangle_17 : decode cX10_netTriangle 17 = .ok (.aload_n 0, 1) := by decide +kernel
theorem dX10_netTriangle_18 : decode cX10_netTriangle 18 = .ok (.getfield 10, 3) := by decide +kernel
theorem dX10_netTriangle_21 : decode cX10_netTriangle 21 = .ok (.invokevirtual 85, 3) := by decide +kernel
theorem dX10_netTriangle_24 : decode cX10_netTriangle 24 = .ok (.aload_n 0, 1) := by decide +kernel
theorem dX10_netTriangle_25 : decode cX10_netTriangle 25 = .ok (.getfield 10, 3) := by decide +kernel
theorem dX10_netTriangle_28 : decode cX10_netTriangle 28 = .ok (.iload_n 1, 1) := by decide +kernel
theorem dX10_netTriangle_29 : decode cX10_netTriangle 29 = .ok (.iload_n 2, 1) := by decide +kernel
theorem dX10_netTriangle_30 : decode cX10_netTriangle 30 = .ok (.iload_n 3, 1) := by decide +kernel
theorem dX10_netTriangle_31 : decode cX10_netTriangle 31 = .ok (.invokevirtual 118, 3) := by decide +kernel
theorem dX10_netTriangle_34 : decode cX10_netTriangle 34 = .ok (.ireturn, 1) := by decide +kernel
set_option maxRecDepth 20000 in
theorem ggX10_clearAll_X4_keep : GoodIn wsX10_clearAll wsX4_keep := goodIn_ca (goodIn_r _ [8, 9, 10, 11, 12, 13, 14, 15, 16, 17, 18, 19, 20, 21, 22, 23, 24, 25, 26, 27, 28, 29, 30, 31, 32, 33, 34, 90, 91, 92, 93, 94, 95, 96, 97, 98, 99, 100, 101, 102] (by decide +kernel) (by decide +kernel)) (goodIn_sub (fun _ h => List.mem_cons_of_mem _ (List.mem_append_right _ h)) (by decide +kernel))
set_option maxRecDepth 20000 in
theorem gX10_clearAll_X4_keep : GoodIn wsX10_clearAll (wsV RX10 85 RX4 yX4_keep wsX4_keep) := goodIn_app (goodIn_of _ (by decide +kernel)) ggX10_clearAll_X4_keep
set_option maxRecDepth 20000 in
theorem ggX10_clearAll_X1_replaceDebts : GoodIn wsX10_clearAll wsX1_replaceDebts := goodIn_ca (goodIn_r _ [39, 40, 41, 42, 43, 44, 45, 38, 46, 47, 48, 49, 50, 19, 51, 52, 53, 54, 55, 56, 57, 58, 59, 21, 60, 61, 62, 63, 64, 65, 66, 67, 68, 69, 70, 71, 29, 72, 73, 74, 75, 76, 13, 14, 15, 77, 103, 104, 105, 106, 93, 94, 95, 96, 97, 98, 99, 100, 101, 102] (by decide +kernel) (by decide +kernel)) (goodIn_sub (fun _ h => List.mem_cons_of_mem _ (List.mem_append_right _ h)) (by decide +kernel))
set_option maxRecDepth 20000 in
theorem gX10_clearAll_X1_replaceDebts : GoodIn wsX10_clearAll (wsV RX10 121 RX1 yX1_replaceDebts wsX1_replaceDebts) := goodIn_app (goodIn_of _ (by decide +kernel)) ggX10_clearAll_X1_replaceDebts
theorem dX10_clearAll_0 : decode cX10_clearAll 0 = .ok (.aload_n 0, 1) := by decide +kernel
theorem dX10_clearAll_1 : decode cX10_clearAll 1 = .ok (.getfield 46, 3) := by decide +kernel
theorem dX10_clearAll_4 : decode cX10_clearAll 4 = .ok (.aload_n 0, 1) := by decide +kernel
theorem dX10_clearAll_5 : decode cX10_clearAll 5 = .ok (.getfield 10, 3) := by decide +kernel
theorem dX10_clearAll_8 : decode cX10_clearAll 8 = .ok (.invokevirtual 85, 3) := by decide +kernel
theorem dX10_clearAll_11 : decode cX10_clearAll 11 = .ok (.aload_n 0, 1) := by decide +kernel
theorem dX10_clearAll_12 : decode cX10_clearAll 12 = .ok (.getfield 25, 3) := by decide +kernel
theorem dX10_clearAll_15 : decode cX10_clearAll 15 = .ok (.aload_n 0, 1) := by decide +kernel
theorem dX10_clearAll_16 : decode cX10_clearAll 16 = .ok (.getfield 10, 3) := by decide +kernel
theorem dX10_clearAll_19 : decode cX10_clearAll 19 = .ok (.invokevirtual 121, 3) := by decide +kernel
theorem dX10_clearAll_22 : decode cX10_clearAll 22 = .ok (.ireturn, 1) := by decide +kernel
set_option maxRecDepth 20000 in
theorem ggX10_pledge_X9_onPledge : GoodIn wsX10_pledge wsX9_onPledge := goodIn_ca (goodIn_r _ [6, 7, 8, 9, 10, 11, 12, 13, 14, 15, 16, 17, 18, 5, 19, 81, 82, 83, 84, 85, 86, 87, 88, 89, 90] (by decide +kernel) (by decide +kernel)) (goodIn_sub (fun _ h => List.mem_cons_of_mem _ (List.mem_append_left _ (List.mem_append_left _ (List.mem_append_left _ (List.mem_append_left _ (List.mem_append_right _ h)))))) (by decide +kernel))
set_option maxRecDepth 20000 in
theorem gX10_pledge_X9_onPledge : GoodIn wsX10_pledge (va_wsS RX10 125 yX9_onPledge wsX9_onPledge) := goodIn_app (goodIn_of _ (by decide +kernel)) ggX10_pledge_X9_onPledge
set_option maxRecDepth 20000 in
theorem ggX10_pledge_X10_throwIfRefused : GoodIn wsX10_pledge wsX10_throwIfRefused := goodIn_ca (goodIn_ca (goodIn_ca (goodIn_ca (goodIn_r _ [23, 24, 25, 26, 27, 28, 29, 30, 31, 32, 33, 34, 35] (by decide +kernel) (by decide +kernel)) (goodIn_sub (fun _ h => List.mem_cons_of_mem _ (List.mem_append_left _ (List.mem_append_left _ (List.mem_append_left _ (List.mem_append_right _ h))))) (by decide +kernel))) (goodIn_sub (fun _ h => List.mem_cons_of_mem _ (List.mem_append_left _ (List.mem_append_left _ (List.mem_append_right _ h)))) (by decide +kernel))) (goodIn_sub (fun _ h => List.mem_cons_of_mem _ (List.mem_append_left _ (List.mem_append_right _ h))) (by decide +kernel))) (goodIn_sub (fun _ h => List.mem_cons_of_mem _ (List.mem_append_right _ h)) (by decide +kernel))
set_option maxRecDepth 20000 in
theorem gX10_pledge_X10_throwIfRefused : GoodIn wsX10_pledge (va_wsS RX10 81 yX10_throwIfRefused wsX10_throwIfRefused) := goodIn_app (goodIn_of _ (by decide +kernel)) ggX10_pledge_X10_throwIfRefused
set_option maxRecDepth 20000 in
theorem ggX10_pledge_X4_keep : GoodIn wsX10_pledge wsX4_keep := goodIn_ca (goodIn_r _ [40, 41, 42, 43, 44, 45, 46, 47, 48, 49, 50, 14, 51, 52, 53, 54, 55, 56, 57, 58, 59, 60, 61, 16, 62, 63, 64, 91, 92, 93, 81, 82, 83, 84, 85, 86, 87, 88, 89, 90] (by decide +kernel) (by decide +kernel)) (goodIn_sub (fun _ h => List.mem_cons_of_mem _ (List.mem_append_left _ (List.mem_append_left _ (List.mem_append_left _ (List.mem_append_left _ (List.mem_append_right _ h)))))) (by decide +kernel))
set_option maxRecDepth 20000 in
theorem gX10_pledge_X4_keep : GoodIn wsX10_pledge (wsV RX10 85 RX4 yX4_keep wsX4_keep) := goodIn_app (goodIn_of _ (by decide +kernel)) ggX10_pledge_X4_keep
set_option maxRecDepth 20000 in
theorem ggX10_pledge_X5_addCollateral : GoodIn wsX10_pledge wsX5_addCollateral := goodIn_ca (goodIn_r _ [68, 58, 81, 82, 83, 84, 85, 86, 87, 88, 89, 90] (by decide +kernel) (by decide +kernel)) (goodIn_sub (fun _ h => List.mem_cons_of_mem _ (List.mem_append_left _ (List.mem_append_left _ (List.mem_append_left _ (List.mem_append_left _ (List.mem_append_right _ h)))))) (by decide +kernel))
set_option maxRecDepth 20000 in
theorem gX10_pledge_X5_addCollateral : GoodIn wsX10_pledge (wsV RX10 128 RX5 yX5_addCollateral wsX5_addCollateral) := goodIn_app (goodIn_of _ (by decide +kernel)) ggX10_pledge_X5_addCollateral
theorem dX10_pledge_0 : decode cX10_pledge 0 = .ok (.aload_n 0, 1) := by decide +kernel
theorem dX10_pledge_1 : decode cX10_pledge 1 = .ok (.getfield 10, 3) := by decide +kernel
theorem dX10_pledge_4 : decode cX10_pledge 4 = .ok (.iload_n 1, 1) := by decide +kernel
theorem dX10_pledge_5 : decode cX10_pledge 5 = .ok (.iload_n 2, 1) := by decide +kernel
theorem dX10_pledge_6 : decode cX10_pledge 6 = .ok (.invokestatic 125, 3) := by decide +kernel
theorem dX10_pledge_9 : decode cX10_pledge 9 = .ok (.invokestatic 81, 3) := by decide +kernel
theorem dX10_pledge_12 : decode cX10_pledge 12 = .ok (.aload_n 0, 1) := by decide +kernel
theorem dX10_pledge_13 : decode cX10_pledge 13 = .ok (.getfield 46, 3) := by decide +kernel
theorem dX10_pledge_16 : decode cX10_pledge 16 = .ok (.aload_n 0, 1) := by decide +kernel
theorem dX10_pledge_17 : decode cX10_pledge 17 = .ok (.getfield 10, 3) := by decide +kernel
theorem dX10_pledge_20 : decode cX10_pledge 20 = .ok (.invokevirtual 85, 3) := by decide +kernel
theorem dX10_pledge_23 : decode cX10_pledge 23 = .ok (.aload_n 0, 1) := by decide +kernel
theorem dX10_pledge_24 : decode cX10_pledge 24 = .ok (.getfield 10, 3) := by decide +kernel
theorem dX10_pledge_27 : decode cX10_pledge 27 = .ok (.iload_n 1, 1) := by decide +kernel
theorem dX10_pledge_28 : decode cX10_pledge 28 = .ok (.iload_n 2, 1) := by decide +kernel
theorem dX10_pledge_29 : decode cX10_pledge 29 = .ok (.invokevirtual 128, 3) := by decide +kernel
theorem dX10_pledge_32 : decode cX10_pledge 32 = .ok (.ireturn, 1) := by decide +kernel
set_option maxRecDepth 20000 in
theorem ggX10_setLimit_X9_onLimit : GoodIn wsX10_setLimit wsX9_onLimit := goodIn_ca (goodIn_r _ [6, 7, 8, 9, 10, 11, 12, 13, 14, 15, 16, 17, 18, 19, 20, 21, 22, 23, 24, 25, 86, 87, 88, 89, 90, 91, 92, 93, 94, 95] (by decide +kernel) (by decide +kernel)) (goodIn_sub (fun _ h => List.mem_cons_of_mem _ (List.mem_append_left _ (List.mem_append_left _ (List.mem_append_left _ (List.mem_append_left _ (List.mem_append_right _ h)))))) (by decide +kernel))
set_option maxRecDepth 20000 in
theorem gX10_setLimit_X9_onLimit : GoodIn wsX10_setLimit (va_wsS RX10 131 yX9_onLimit wsX9_onLimit) := goodIn_app (goodIn_of _ (by decide +kernel)) ggX10_setLimit_X9_onLimit
set_option maxRecDepth 20000 in
theorem ggX10_setLimit_X10_throwIfRefused : GoodIn wsX10_setLimit wsX10_throwIfRefused := goodIn_ca (goodIn_ca (goodIn_ca (goodIn_ca (goodIn_r _ [29, 30, 31, 32, 33, 34, 35, 36, 37, 38, 39, 40, 41] (by decide +kernel) (by decide +kernel)) (goodIn_sub (fun _ h => List.mem_cons_of_mem _ (List.mem_append_left _ (List.mem_append_left _ (List.mem_append_left _ (List.mem_append_right _ h))))) (by decide +kernel))) (goodIn_sub (fun _ h => List.mem_cons_of_mem _ (List.mem_append_left _ (List.mem_append_left _ (List.mem_append_right _ h)))) (by decide +kernel))) (goodIn_sub (fun _ h => List.mem_cons_of_mem _ (List.mem_append_left _ (List.mem_append_right _ h))) (by decide +kernel))) (goodIn_sub (fun _ h => List.mem_cons_of_mem _ (List.mem_append_right _ h)) (by decide +kernel))
set_option maxRecDepth 20000 in
theorem gX10_setLimit_X10_throwIfRefused : GoodIn wsX10_setLimit (va_wsS RX10 81 yX10_throwIfRefused wsX10_throwIfRefused) := goodIn_app (goodIn_of _ (by decide +kernel)) ggX10_setLimit_X10_throwIfRefused
set_option maxRecDepth 20000 in
theorem ggX10_setLimit_X4_keep : GoodIn wsX10_setLimit wsX4_keep := goodIn_ca (goodIn_r _ [46, 47, 48, 49, 50, 51, 52, 53, 54, 55, 56, 14, 57, 25, 58, 59, 60, 61, 62, 63, 64, 65, 66, 16, 67, 68, 69, 96, 97, 98, 86, 87, 88, 89, 90, 91, 92, 93, 94, 95] (by decide +kernel) (by decide +kernel)) (goodIn_sub (fun _ h => List.mem_cons_of_mem _ (List.mem_append_left _ (List.mem_append_left _ (List.mem_append_left _ (List.mem_append_left _ (List.mem_append_right _ h)))))) (by decide +kernel))
set_option maxRecDepth 20000 in
theorem gX10_setLimit_X4_keep : GoodIn wsX10_setLimit (wsV RX10 85 RX4 yX4_keep wsX4_keep) := goodIn_app (goodIn_of _ (by decide +kernel)) ggX10_setLimit_X4_keep
set_option maxRecDepth 20000 in
theorem ggX10_setLimit_X5_exchangeLimit : GoodIn wsX10_setLimit wsX5_exchangeLimit := goodIn_ca (goodIn_r _ [73, 64, 86, 87, 88, 89, 90, 91, 92, 93, 94, 95] (by decide +kernel) (by decide +kernel)) (goodIn_sub (fun _ h => List.mem_cons_of_mem _ (List.mem_append_left _ (List.mem_append_left _ (List.mem_append_left _ (List.mem_append_left _ (List.mem_append_right _ h)))))) (by decide +kernel))
set_option maxRecDepth 20000 in
theorem gX10_setLimit_X5_exchangeLimit : GoodIn wsX10_setLimit (wsV RX10 134 RX5 yX5_exchangeLimit wsX5_exchangeLimit) := goodIn_app (goodIn_of _ (by decide +kernel)) ggX10_setLimit_X5_exchangeLimit
theorem dX10_setLimit_0 : decode cX10_setLimit 0 = .ok (.aload_n 0, 1) := by decide +kernel
theorem dX10_setLimit_1 : decode cX10_setLimit 1 = .ok (.getfield 10, 3) := by decide +kernel
theorem dX10_setLimit_4 : decode cX10_setLimit 4 = .ok (.iload_n 1, 1) := by decide +kernel
theorem dX10_setLimit_5 : decode cX10_setLimit 5 = .ok (.iload_n 2, 1) := by decide +kernel
theorem dX10_setLimit_6 : decode cX10_setLimit 6 = .ok (.invokestatic 131, 3) := by decide +kernel
theorem dX10_setLimit_9 : decode cX10_setLimit 9 = .ok (.invokestatic 81, 3) := by decide +kernel
theorem dX10_setLimit_12 : decode cX10_setLimit 12 = .ok (.aload_n 0, 1) := by decide +kernel
theorem dX10_setLimit_13 : decode cX10_setLimit 13 = .ok (.getfield 46, 3) := by decide +kernel
theorem dX10_setLimit_16 : decode cX10_setLimit 16 = .ok (.aload_n 0, 1) := by decide +kernel
theorem dX10_setLimit_17 : decode cX10_setLimit 17 = .ok (.getfield 10, 3) := by decide +kernel
theorem dX10_setLimit_20 : decode cX10_setLimit 20 = .ok (.invokevirtual 85, 3) := by decide +kernel
theorem dX10_setLimit_23 : decode cX10_setLimit 23 = .ok (.aload_n 0, 1) := by decide +kernel
theorem dX10_setLimit_24 : decode cX10_setLimit 24 = .ok (.getfield 10, 3) := by decide +kernel
theorem dX10_setLimit_27 : decode cX10_setLimit 27 = .ok (.iload_n 1, 1) := by decide +kernel
theorem dX10_setLimit_28 : decode cX10_setLimit 28 = .ok (.iload_n 2, 1) := by decide +kernel
theorem dX10_setLimit_29 : decode cX10_setLimit 29 = .ok (.invokevirtual 134, 3) := by decide +kernel
theorem dX10_setLimit_32 : decode cX10_setLimit 32 = .ok (.ireturn, 1) := by decide +kernel
set_option maxRecDepth 20000 in
theorem ggX10_setHaircut_X9_onHaircut : GoodIn wsX10_setHaircut wsX9_onHaircut := goodIn_r _ [6, 7, 8] (by decide +kernel) (by decide +kernel)
set_option maxRecDepth 20000 in
theorem gX10_setHaircut_X9_onHaircut : GoodIn wsX10_setHaircut (va_wsS RX10 137 yX9_onHaircut wsX9_onHaircut) := goodIn_app (goodIn_of _ (by decide +kernel)) ggX10_setHaircut_X9_onHaircut
set_option maxRecDepth 20000 in
theorem ggX10_setHaircut_X10_throwIfRefused : GoodIn wsX10_setHaircut wsX10_throwIfRefused := goodIn_ca (goodIn_ca (goodIn_ca (goodIn_ca (goodIn_r _ [12, 13, 14, 15, 16, 17, 18, 19, 20, 21, 22, 23, 24] (by decide +kernel) (by decide +kernel)) (goodIn_sub (fun _ h => List.mem_cons_of_mem _ (List.mem_append_left _ (List.mem_append_left _ (List.mem_append_left _ (List.mem_append_left _ (List.mem_append_right _ h)))))) (by decide +kernel))) (goodIn_sub (fun _ h => List.mem_cons_of_mem _ (List.mem_append_left _ (List.mem_append_left _ (List.mem_append_left _ (List.mem_append_right _ h))))) (by decide +kernel))) (goodIn_sub (fun _ h => List.mem_cons_of_mem _ (List.mem_append_left _ (List.mem_append_left _ (List.mem_append_right _ h)))) (by decide +kernel))) (goodIn_sub (fun _ h => List.mem_cons_of_mem _ (List.mem_append_left _ (List.mem_append_right _ h))) (by decide +kernel))
set_option maxRecDepth 20000 in
theorem gX10_setHaircut_X10_throwIfRefused : GoodIn wsX10_setHaircut (va_wsS RX10 81 yX10_throwIfRefused wsX10_throwIfRefused) := goodIn_app (goodIn_of _ (by decide +kernel)) ggX10_setHaircut_X10_throwIfRefused
set_option maxRecDepth 20000 in
theorem ggX10_setHaircut_X4_keep : GoodIn wsX10_setHaircut wsX4_keep := goodIn_ca (goodIn_r _ [29, 30, 31, 32, 33, 34, 35, 36, 37, 38, 39, 40, 41, 42, 43, 44, 45, 46, 47, 48, 49, 50, 51, 52, 53, 54, 55, 72, 73, 74, 75, 76, 77, 78, 79, 80, 81, 82, 83, 84] (by decide +kernel) (by decide +kernel)) (goodIn_sub (fun _ h => List.mem_cons_of_mem _ (List.mem_append_right _ h)) (by decide +kernel))
set_option maxRecDepth 20000 in
theorem gX10_setHaircut_X4_keep : GoodIn wsX10_setHaircut (wsV RX10 85 RX4 yX4_keep wsX4_keep) := goodIn_app (goodIn_of _ (by decide +kernel)) ggX10_setHaircut_X4_keep
set_option maxRecDepth 20000 in
theorem ggX10_setHaircut_X5_exchangeHaircut : GoodIn wsX10_setHaircut wsX5_exchangeHaircut := goodIn_r _ [59, 53, 75, 76, 77, 78, 79, 80, 81, 82, 83, 84] (by decide +kernel) (by decide +kernel)
set_option maxRecDepth 20000 in
theorem gX10_setHaircut_X5_exchangeHaircut : GoodIn wsX10_setHaircut (wsV RX10 141 RX5 yX5_exchangeHaircut wsX5_exchangeHaircut) := goodIn_app (goodIn_of _ (by decide +kernel)) ggX10_setHaircut_X5_exchangeHaircut
theorem dX10_setHaircut_0 : decode cX10_setHaircut 0 = .ok (.iload_n 1, 1) := by decide +kernel
theorem dX10_setHaircut_1 : decode cX10_setHaircut 1 = .ok (.invokestatic 137, 3) := by decide +kernel
theorem dX10_setHaircut_4 : decode cX10_setHaircut 4 = .ok (.invokestatic 81, 3) := by decide +kernel
theorem dX10_setHaircut_7 : decode cX10_setHaircut 7 = .ok (.aload_n 0, 1) := by decide +kernel
theorem dX10_setHaircut_8 : decode cX10_setHaircut 8 = .ok (.getfield 46, 3) := by decide +kernel
theorem dX10_setHaircut_11 : decode cX10_setHaircut 11 = .ok (.aload_n 0, 1) := by decide +kernel
theorem dX10_setHaircut_12 : decode cX10_setHaircut 12 = .ok (.getfield 10, 3) := by decide +kernel
theorem dX10_setHaircut_15 : decode cX10_setHaircut 15 = .ok (.invokevirtual 85, 3) := by decide +kernel
theorem dX10_setHaircut_18 : decode cX10_setHaircut 18 = .ok (.aload_n 0, 1) := by decide +kernel
theorem dX10_setHaircut_19 : decode cX10_setHaircut 19 = .ok (.getfield 10, 3) := by decide +kernel
theorem dX10_setHaircut_22 : decode cX10_setHaircut 22 = .ok (.iload_n 1, 1) := by decide +kernel
theorem dX10_setHaircut_23 : decode cX10_setHaircut 23 = .ok (.invokevirtual 141, 3) := by decide +kernel
theorem dX10_setHaircut_26 : decode cX10_setHaircut 26 = .ok (.ireturn, 1) := by decide +kernel
set_option maxRecDepth 20000 in
theorem ggX10_declareDefault_X9_onDefault : GoodIn wsX10_declareDefault wsX9_onDefault := goodIn_ca (goodIn_r _ [7, 8, 9, 10, 11, 12, 13, 14, 15, 16, 17, 18, 19, 20, 21, 22, 23, 24, 25, 26, 27, 28, 29, 30, 31, 32, 33, 34, 35, 36, 37, 38, 39, 40, 125, 126, 127, 128, 129, 130, 131, 132, 133, 134] (by decide +kernel) (by decide +kernel)) (goodIn_sub (fun _ h => List.mem_cons_of_mem _ (List.mem_append_left _ (List.mem_append_left _ (List.mem_append_left _ (List.mem_append_left _ (List.mem_append_left _ (List.mem_append_right _ h))))))) (by decide +kernel))
set_option maxRecDepth 20000 in
theorem gX10_declareDefault_X9_onDefault : GoodIn wsX10_declareDefault (va_wsS RX10 145 yX9_onDefault wsX9_onDefault) := goodIn_app (goodIn_of _ (by decide +kernel)) ggX10_declareDefault_X9_onDefault
set_option maxRecDepth 20000 in
theorem ggX10_declareDefault_X10_throwIfRefused : GoodIn wsX10_declareDefault wsX10_throwIfRefused := goodIn_ca (goodIn_ca (goodIn_ca (goodIn_ca (goodIn_r _ [44, 45, 46, 47, 48, 49, 50, 51, 52, 53, 54, 55, 56] (by decide +kernel) (by decide +kernel)) (goodIn_sub (fun _ h => List.mem_cons_of_mem _ (List.mem_append_left _ (List.mem_append_left _ (List.mem_append_left _ (List.mem_append_left _ (List.mem_append_right _ h)))))) (by decide +kernel))) (goodIn_sub (fun _ h => List.mem_cons_of_mem _ (List.mem_append_left _ (List.mem_append_left _ (List.mem_append_left _ (List.mem_append_right _ h))))) (by decide +kernel))) (goodIn_sub (fun _ h => List.mem_cons_of_mem _ (List.mem_append_left _ (List.mem_append_left _ (List.mem_append_right _ h)))) (by decide +kernel))) (goodIn_sub (fun _ h => List.mem_cons_of_mem _ (List.mem_append_left _ (List.mem_append_right _ h))) (by decide +kernel))
set_option maxRecDepth 20000 in
theorem gX10_declareDefault_X10_throwIfRefused : GoodIn wsX10_declareDefault (va_wsS RX10 81 yX10_throwIfRefused wsX10_throwIfRefused) := goodIn_app (goodIn_of _ (by decide +kernel)) ggX10_declareDefault_X10_throwIfRefused
set_option maxRecDepth 20000 in
theorem ggX10_declareDefault_X4_keep : GoodIn wsX10_declareDefault wsX4_keep := goodIn_ca (goodIn_r _ [61, 62, 63, 64, 65, 66, 67, 68, 69, 70, 71, 14, 72, 29, 73, 74, 75, 76, 34, 39, 77, 78, 79, 16, 40, 80, 81, 135, 136, 137, 125, 126, 127, 128, 129, 130, 131, 132, 133, 134] (by decide +kernel) (by decide +kernel)) (goodIn_sub (fun _ h => List.mem_cons_of_mem _ (List.mem_append_left _ (List.mem_append_left _ (List.mem_append_left _ (List.mem_append_left _ (List.mem_append_left _ (List.mem_append_right _ h))))))) (by decide +kernel))
set_option maxRecDepth 20000 in
theorem gX10_declareDefault_X4_keep : GoodIn wsX10_declareDefault (wsV RX10 85 RX4 yX4_keep wsX4_keep) := goodIn_app (goodIn_of _ (by decide +kernel)) ggX10_declareDefault_X4_keep
set_option maxRecDepth 20000 in
theorem ggX10_declareDefault_X7_settle : GoodIn wsX10_declareDefault wsX7_settle := goodIn_ca (goodIn_ca (goodIn_r _ [86, 87, 88, 18, 19, 14, 20, 21, 22, 23, 24, 25, 26, 27, 28, 29, 30, 31, 32, 33, 34, 35, 36, 37, 38, 39, 40, 89, 90, 91, 85, 92, 93, 94, 95, 96, 97, 98, 99, 100, 101, 102, 103, 104, 105, 106, 107, 108, 109, 110, 111, 112, 78, 125, 126, 127, 128, 129, 130, 131, 132, 133, 134, 138, 139] (by decide +kernel) (by decide +kernel)) (goodIn_sub (fun _ h => List.mem_cons_of_mem _ (List.mem_append_left _ (List.mem_append_left _ (List.mem_append_left _ (List.mem_append_left _ (List.mem_append_left _ (List.mem_append_right _ h))))))) (by decide +kernel))) (goodIn_sub (fun _ h => List.mem_cons_of_mem _ (List.mem_append_right _ h)) (by decide +kernel))
set_option maxRecDepth 20000 in
theorem gX10_declareDefault_X7_settle : GoodIn wsX10_declareDefault (wsV RX10 149 RX7 yX7_settle wsX7_settle) := goodIn_app (goodIn_of _ (by decide +kernel)) ggX10_declareDefault_X7_settle
theorem dX10_declareDefault_0 : decode cX10_declareDefault 0 = .ok (.aload_n 0, 1) := by decide +kernel
theorem dX10_declareDefault_1 : decode cX10_declareDefault 1 = .ok (.getfield 10, 3) := by decide +kernel
theorem dX10_declareDefault_4 : decode cX10_declareDefault 4 = .ok (.iload_n 1, 1) := by decide +kernel
theorem dX10_declareDefault_5 : decode cX10_declareDefault 5 = .ok (.invokestatic 145, 3) := by decide +kernel
theorem dX10_declareDefault_8 : decode cX10_declareDefault 8 = .ok (.invokestatic 81, 3) := by decide +kernel
theorem dX10_declareDefault_11 : decode cX10_declareDefault 11 = .ok (.aload_n 0, 1) := by decide +kernel
theorem dX10_declareDefault_12 : decode cX10_declareDefault 12 = .ok (.getfield 46, 3) := by decide +kernel
theorem dX10_declareDefault_15 : decode cX10_declareDefault 15 = .ok (.aload_n 0, 1) := by decide +kernel
theorem dX10_declareDefault_16 : decode cX10_declareDefault 16 = .ok (.getfield 10, 3) := by decide +kernel
theorem dX10_declareDefault_19 : decode cX10_declareDefault 19 = .ok (.invokevirtual 85, 3) := by decide +kernel
theorem dX10_declareDefault_22 : decode cX10_declareDefault 22 = .ok (.aload_n 0, 1) := by decide +kernel
theorem dX10_declareDefault_23 : decode cX10_declareDefault 23 = .ok (.getfield 32, 3) := by decide +kernel
theorem dX10_declareDefault_26 : decode cX10_declareDefault 26 = .ok (.aload_n 0, 1) := by decide +kernel
theorem dX10_declareDefault_27 : decode cX10_declareDefault 27 = .ok (.getfield 10, 3) := by decide +kernel
theorem dX10_declareDefault_30 : decode cX10_declareDefault 30 = .ok (.iload_n 1, 1) := by decide +kernel
theorem dX10_declareDefault_31 : decode cX10_declareDefault 31 = .ok (.invokevirtual 149, 3) := by decide +kernel
theorem dX10_declareDefault_34 : decode cX10_declareDefault 34 = .ok (.ireturn, 1) := by decide +kernel
theorem dX10_memberCount_0 : decode cX10_memberCount 0 = .ok (.aload_n 0, 1) := by decide +kernel
theorem dX10_memberCount_1 : decode cX10_memberCount 1 = .ok (.getfield 10, 3) := by decide +kernel
theorem dX10_memberCount_4 : decode cX10_memberCount 4 = .ok (.getfield 153, 3) := by decide +kernel
theorem dX10_memberCount_7 : decode cX10_memberCount 7 = .ok (.ireturn, 1) := by decide +kernel
set_option maxRecDepth 20000 in
theorem ggX10_coins_X9_onMember : GoodIn wsX10_coins wsX9_onMember := goodIn_r _ [5, 6, 7, 8, 9, 10, 11, 12, 13, 42, 43, 44, 45, 46, 47, 48, 49, 50, 51] (by decide +kernel) (by decide +kernel)
set_option maxRecDepth 20000 in
theorem gX10_coins_X9_onMember : GoodIn wsX10_coins (va_wsS RX10 156 yX9_onMember wsX9_onMember) := goodIn_app (goodIn_of _ (by decide +kernel)) ggX10_coins_X9_onMember
set_option maxRecDepth 20000 in
theorem ggX10_coins_X10_throwIfRefused : GoodIn wsX10_coins wsX10_throwIfRefused := goodIn_ca (goodIn_ca (goodIn_ca (goodIn_ca (goodIn_r _ [17, 18, 19, 20, 21, 22, 23, 24, 25, 26, 27, 28, 29] (by decide +kernel) (by decide +kernel)) (goodIn_sub (fun _ h => List.mem_cons_of_mem _ (List.mem_append_left _ (List.mem_append_left _ (List.mem_append_left _ (List.mem_append_right _ h))))) (by decide +kernel))) (goodIn_sub (fun _ h => List.mem_cons_of_mem _ (List.mem_append_left _ (List.mem_append_left _ (List.mem_append_right _ h)))) (by decide +kernel))) (goodIn_sub (fun _ h => List.mem_cons_of_mem _ (List.mem_append_left _ (List.mem_append_right _ h))) (by decide +kernel))) (goodIn_sub (fun _ h => List.mem_cons_of_mem _ (List.mem_append_right _ h)) (by decide +kernel))
set_option maxRecDepth 20000 in
theorem gX10_coins_X10_throwIfRefused : GoodIn wsX10_coins (va_wsS RX10 81 yX10_throwIfRefused wsX10_throwIfRefused) := goodIn_app (goodIn_of _ (by decide +kernel)) ggX10_coins_X10_throwIfRefused
theorem dX10_coins_0 : decode cX10_coins 0 = .ok (.aload_n 0, 1) := by decide +kernel
theorem dX10_coins_1 : decode cX10_coins 1 = .ok (.getfield 10, 3) := by decide +kernel
theorem dX10_coins_4 : decode cX10_coins 4 = .ok (.iload_n 1, 1) := by decide +kernel
theorem dX10_coins_5 : decode cX10_coins 5 = .ok (.invokestatic 156, 3) := by decide +kernel
theorem dX10_coins_8 : decode cX10_coins 8 = .ok (.invokestatic 81, 3) := by decide +kernel
theorem dX10_coins_11 : decode cX10_coins 11 = .ok (.aload_n 0, 1) := by decide +kernel
theorem dX10_coins_12 : decode cX10_coins 12 = .ok (.getfield 10, 3) := by decide +kernel
theorem dX10_coins_15 : decode cX10_coins 15 = .ok (.getfield 159, 3) := by decide +kernel
theorem dX10_coins_18 : decode cX10_coins 18 = .ok (.iload_n 1, 1) := by decide +kernel
theorem dX10_coins_19 : decode cX10_coins 19 = .ok (.iaload, 1) := by decide +kernel
theorem dX10_coins_20 : decode cX10_coins 20 = .ok (.ireturn, 1) := by decide +kernel
set_option maxRecDepth 20000 in
theorem ggX10_collateral_X9_onMember : GoodIn wsX10_collateral wsX9_onMember := goodIn_r _ [5, 6, 7, 8, 9, 10, 11, 12, 13, 42, 43, 44, 45, 46, 47, 48, 49, 50, 51] (by decide +kernel) (by decide +kernel)
set_option maxRecDepth 20000 in
theorem gX10_collateral_X9_onMember : GoodIn wsX10_collateral (va_wsS RX10 156 yX9_onMember wsX9_onMember) := goodIn_app (goodIn_of _ (by decide +kernel)) ggX10_collateral_X9_onMember
set_option maxRecDepth 20000 in
theorem ggX10_collateral_X10_throwIfRefused : GoodIn wsX10_collateral wsX10_throwIfRefused := goodIn_ca (goodIn_ca (goodIn_ca (goodIn_ca (goodIn_r _ [17, 18, 19, 20, 21, 22, 23, 24, 25, 26, 27, 28, 29] (by decide +kernel) (by decide +kernel)) (goodIn_sub (fun _ h => List.mem_cons_of_mem _ (List.mem_append_left _ (List.mem_append_left _ (List.mem_append_left _ (List.mem_append_right _ h))))) (by decide +kernel))) (goodIn_sub (fun _ h => List.mem_cons_of_mem _ (List.mem_append_left _ (List.mem_append_left _ (List.mem_append_right _ h)))) (by decide +kernel))) (goodIn_sub (fun _ h => List.mem_cons_of_mem _ (List.mem_append_left _ (List.mem_append_right _ h))) (by decide +kernel))) (goodIn_sub (fun _ h => List.mem_cons_of_mem _ (List.mem_append_right _ h)) (by decide +kernel))
set_option maxRecDepth 20000 in
theorem gX10_collateral_X10_throwIfRefused : GoodIn wsX10_collateral (va_wsS RX10 81 yX10_throwIfRefused wsX10_throwIfRefused) := goodIn_app (goodIn_of _ (by decide +kernel)) ggX10_collateral_X10_throwIfRefused
theorem dX10_collateral_0 : decode cX10_collateral 0 = .ok (.aload_n 0, 1) := by decide +kernel
theorem dX10_collateral_1 : decode cX10_collateral 1 = .ok (.getfield 10, 3) := by decide +kernel
theorem dX10_collateral_4 : decode cX10_collateral 4 = .ok (.iload_n 1, 1) := by decide +kernel
theorem dX10_collateral_5 : decode cX10_collateral 5 = .ok (.invokestatic 156, 3) := by decide +kernel
theorem dX10_collateral_8 : decode cX10_collateral 8 = .ok (.invokestatic 81, 3) := by decide +kernel
theorem dX10_collateral_11 : decode cX10_collateral 11 = .ok (.aload_n 0, 1) := by decide +kernel
theorem dX10_collateral_12 : decode cX10_collateral 12 = .ok (.getfield 10, 3) := by decide +kernel
theorem dX10_collateral_15 : decode cX10_collateral 15 = .ok (.getfield 163, 3) := by decide +kernel
theorem dX10_collateral_18 : decode cX10_collateral 18 = .ok (.iload_n 1, 1) := by decide +kernel
theorem dX10_collateral_19 : decode cX10_collateral 19 = .ok (.iaload, 1) := by decide +kernel
theorem dX10_collateral_20 : decode cX10_collateral 20 = .ok (.ireturn, 1) := by decide +kernel
set_option maxRecDepth 20000 in
theorem ggX10_cover_X9_onMember : GoodIn wsX10_cover wsX9_onMember := goodIn_r _ [5, 6, 7, 8, 9, 10, 11, 12, 13, 48, 49, 50, 51, 52, 53, 54, 55, 56, 57] (by decide +kernel) (by decide +kernel)
set_option maxRecDepth 20000 in
theorem gX10_cover_X9_onMember : GoodIn wsX10_cover (va_wsS RX10 156 yX9_onMember wsX9_onMember) := goodIn_app (goodIn_of _ (by decide +kernel)) ggX10_cover_X9_onMember
set_option maxRecDepth 20000 in
theorem ggX10_cover_X10_throwIfRefused : GoodIn wsX10_cover wsX10_throwIfRefused := goodIn_ca (goodIn_ca (goodIn_ca (goodIn_ca (goodIn_r _ [17, 18, 19, 20, 21, 22, 23, 24, 25, 26, 27, 28, 29] (by decide +kernel) (by decide +kernel)) (goodIn_sub (fun _ h => List.mem_cons_of_mem _ (List.mem_append_left _ (List.mem_append_left _ (List.mem_append_left _ (List.mem_append_left _ (List.mem_append_right _ h)))))) (by decide +kernel))) (goodIn_sub (fun _ h => List.mem_cons_of_mem _ (List.mem_append_left _ (List.mem_append_left _ (List.mem_append_left _ (List.mem_append_right _ h))))) (by decide +kernel))) (goodIn_sub (fun _ h => List.mem_cons_of_mem _ (List.mem_append_left _ (List.mem_append_left _ (List.mem_append_right _ h)))) (by decide +kernel))) (goodIn_sub (fun _ h => List.mem_cons_of_mem _ (List.mem_append_left _ (List.mem_append_right _ h))) (by decide +kernel))
set_option maxRecDepth 20000 in
theorem gX10_cover_X10_throwIfRefused : GoodIn wsX10_cover (va_wsS RX10 81 yX10_throwIfRefused wsX10_throwIfRefused) := goodIn_app (goodIn_of _ (by decide +kernel)) ggX10_cover_X10_throwIfRefused
set_option maxRecDepth 20000 in
theorem ggX10_cover_X5_coverOf : GoodIn wsX10_cover wsX5_coverOf := goodIn_ca (goodIn_r _ [33, 34, 35, 48, 49, 50, 51, 52, 53, 54, 55, 56, 57] (by decide +kernel) (by decide +kernel)) (goodIn_sub (fun _ h => List.mem_cons_of_mem _ (List.mem_append_right _ h)) (by decide +kernel))
set_option maxRecDepth 20000 in
theorem gX10_cover_X5_coverOf : GoodIn wsX10_cover (wsV RX10 166 RX5 yX5_coverOf wsX5_coverOf) := goodIn_app (goodIn_of _ (by decide +kernel)) ggX10_cover_X5_coverOf
theorem dX10_cover_0 : decode cX10_cover 0 = .ok (.aload_n 0, 1) := by decide +kernel
theorem dX10_cover_1 : decode cX10_cover 1 = .ok (.getfield 10, 3) := by decide +kernel
theorem dX10_cover_4 : decode cX10_cover 4 = .ok (.iload_n 1, 1) := by decide +kernel
theorem dX10_cover_5 : decode cX10_cover 5 = .ok (.invokestatic 156, 3) := by decide +kernel
theorem dX10_cover_8 : decode cX10_cover 8 = .ok (.invokestatic 81, 3) := by decide +kernel
theorem dX10_cover_11 : decode cX10_cover 11 = .ok (.aload_n 0, 1) := by decide +kernel
theorem dX10_cover_12 : decode cX10_cover 12 = .ok (.getfield 10, 3) := by decide +kernel
theorem dX10_cover_15 : decode cX10_cover 15 = .ok (.iload_n 1, 1) := by decide +kernel
theorem dX10_cover_16 : decode cX10_cover 16 = .ok (.invokevirtual 166, 3) := by decide +kernel
theorem dX10_cover_19 : decode cX10_cover 19 = .ok (.ireturn, 1) := by decide +kernel
set_option maxRecDepth 20000 in
theorem ggX10_limit_X9_onMember : GoodIn wsX10_limit wsX9_onMember := goodIn_r _ [5, 6, 7, 8, 9, 10, 11, 12, 13, 42, 43, 44, 45, 46, 47, 48, 49, 50, 51] (by decide +kernel) (by decide +kernel)
set_option maxRecDepth 20000 in
theorem gX10_limit_X9_onMember : GoodIn wsX10_limit (va_wsS RX10 156 yX9_onMember wsX9_onMember) := goodIn_app (goodIn_of _ (by decide +kernel)) ggX10_limit_X9_onMember
set_option maxRecDepth 20000 in
theorem ggX10_limit_X10_throwIfRefused : GoodIn wsX10_limit wsX10_throwIfRefused := goodIn_ca (goodIn_ca (goodIn_ca (goodIn_ca (goodIn_r _ [17, 18, 19, 20, 21, 22, 23, 24, 25, 26, 27, 28, 29] (by decide +kernel) (by decide +kernel)) (goodIn_sub (fun _ h => List.mem_cons_of_mem _ (List.mem_append_left _ (List.mem_append_left _ (List.mem_append_left _ (List.mem_append_right _ h))))) (by decide +kernel))) (goodIn_sub (fun _ h => List.mem_cons_of_mem _ (List.mem_append_left _ (List.mem_append_left _ (List.mem_append_right _ h)))) (by decide +kernel))) (goodIn_sub (fun _ h => List.mem_cons_of_mem _ (List.mem_append_left _ (List.mem_append_right _ h))) (by decide +kernel))) (goodIn_sub (fun _ h => List.mem_cons_of_mem _ (List.mem_append_right _ h)) (by decide +kernel))
set_option maxRecDepth 20000 in
theorem gX10_limit_X10_throwIfRefused : GoodIn wsX10_limit (va_wsS RX10 81 yX10_throwIfRefused wsX10_throwIfRefused) := goodIn_app (goodIn_of _ (by decide +kernel)) ggX10_limit_X10_throwIfRefused
theorem dX10_limit_0 : decode cX10_limit 0 = .ok (.aload_n 0, 1) := by decide +kernel
theorem dX10_limit_1 : decode cX10_limit 1 = .ok (.getfield 10, 3) := by decide +kernel
theorem dX10_limit_4 : decode cX10_limit 4 = .ok (.iload_n 1, 1) := by decide +kernel
theorem dX10_limit_5 : decode cX10_limit 5 = .ok (.invokestatic 156, 3) := by decide +kernel
theorem dX10_limit_8 : decode cX10_limit 8 = .ok (.invokestatic 81, 3) := by decide +kernel
theorem dX10_limit_11 : decode cX10_limit 11 = .ok (.aload_n 0, 1) := by decide +kernel
theorem dX10_limit_12 : decode cX10_limit 12 = .ok (.getfield 10, 3) := by decide +kernel
theorem dX10_limit_15 : decode cX10_limit 15 = .ok (.getfield 169, 3) := by decide +kernel
theorem dX10_limit_18 : decode cX10_limit 18 = .ok (.iload_n 1, 1) := by decide +kernel
theorem dX10_limit_19 : decode cX10_limit 19 = .ok (.iaload, 1) := by decide +kernel
theorem dX10_limit_20 : decode cX10_limit 20 = .ok (.ireturn, 1) := by decide +kernel
set_option maxRecDepth 20000 in
theorem ggX10_isInDefault_X9_onMember : GoodIn wsX10_isInDefault wsX9_onMember := goodIn_r _ [5, 6, 7, 8, 9, 10, 11, 12, 13, 42, 43, 44, 45, 46, 47, 48, 49, 50, 51] (by decide +kernel) (by decide +kernel)
set_option maxRecDepth 20000 in
theorem gX10_isInDefault_X9_onMember : GoodIn wsX10_isInDefault (va_wsS RX10 156 yX9_onMember wsX9_onMember) := goodIn_app (goodIn_of _ (by decide +kernel)) ggX10_isInDefault_X9_onMember
set_option maxRecDepth 20000 in
theorem ggX10_isInDefault_X10_throwIfRefused : GoodIn wsX10_isInDefault wsX10_throwIfRefused := goodIn_ca (goodIn_ca (goodIn_ca (goodIn_ca (goodIn_r _ [17, 18, 19, 20, 21, 22, 23, 24, 25, 26, 27, 28, 29] (by decide +kernel) (by decide +kernel)) (goodIn_sub (fun _ h => List.mem_cons_of_mem _ (List.mem_append_left _ (List.mem_append_left _ (List.mem_append_left _ (List.mem_append_right _ h))))) (by decide +kernel))) (goodIn_sub (fun _ h => List.mem_cons_of_mem _ (List.mem_append_left _ (List.mem_append_left _ (List.mem_append_right _ h)))) (by decide +kernel))) (goodIn_sub (fun _ h => List.mem_cons_of_mem _ (List.mem_append_left _ (List.mem_append_right _ h))) (by decide +kernel))) (goodIn_sub (fun _ h => List.mem_cons_of_mem _ (List.mem_append_right _ h)) (by decide +kernel))
set_option maxRecDepth 20000 in
theorem gX10_isInDefault_X10_throwIfRefused : GoodIn wsX10_isInDefault (va_wsS RX10 81 yX10_throwIfRefused wsX10_throwIfRefused) := goodIn_app (goodIn_of _ (by decide +kernel)) ggX10_isInDefault_X10_throwIfRefused
theorem dX10_isInDefault_0 : decode cX10_isInDefault 0 = .ok (.aload_n 0, 1) := by decide +kernel
theorem dX10_isInDefault_1 : decode cX10_isInDefault 1 = .ok (.getfield 10, 3) := by decide +kernel
theorem dX10_isInDefault_4 : decode cX10_isInDefault 4 = .ok (.iload_n 1, 1) := by decide +kernel
theorem dX10_isInDefault_5 : decode cX10_isInDefault 5 = .ok (.invokestatic 156, 3) := by decide +kernel
theorem dX10_isInDefault_8 : decode cX10_isInDefault 8 = .ok (.invokestatic 81, 3) := by decide +kernel
theorem dX10_isInDefault_11 : decode cX10_isInDefault 11 = .ok (.aload_n 0, 1) := by decide +kernel
theorem dX10_isInDefault_12 : decode cX10_isInDefault 12 = .ok (.getfield 10, 3) := by decide +kernel
theorem dX10_isInDefault_15 : decode cX10_isInDefault 15 = .ok (.getfield 172, 3) := by decide +kernel
theorem dX10_isInDefault_18 : decode cX10_isInDefault 18 = .ok (.iload_n 1, 1) := by decide +kernel
theorem dX10_isInDefault_19 : decode cX10_isInDefault 19 = .ok (.baload, 1) := by decide +kernel
theorem dX10_isInDefault_20 : decode cX10_isInDefault 20 = .ok (.ireturn, 1) := by decide +kernel
theorem dX10_haircut_0 : decode cX10_haircut 0 = .ok (.aload_n 0, 1) := by decide +kernel
theorem dX10_haircut_1 : decode cX10_haircut 1 = .ok (.getfield 10, 3) := by decide +kernel
