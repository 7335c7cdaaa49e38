theorem dX1_init_0 : decode cX1_init 0 = .ok (.aload_n 0, 1) := by decide +kernel
theorem dX1_init_1 : decode cX1_init 1 = .ok (.invokespecial 3, 3) := by decide +kernel
theorem dX1_init_4 : decode cX1_init 4 = .ok (.aload_n 0, 1) := by decide +kernel
theorem dX1_init_5 : decode cX1_init 5 = .ok (.bipush 8, 2) := by decide +kernel
theorem dX1_init_7 : decode cX1_init 7 = .ok (.newarray .int, 2) := by decide +kernel
theorem dX1_init_9 : decode cX1_init 9 = .ok (.putfield 9, 3) := by decide +kernel
theorem dX1_init_12 : decode cX1_init 12 = .ok (.aload_n 0, 1) := by decide +kernel
theorem dX1_init_13 : decode cX1_init 13 = .ok (.iconst 0, 1) := by decide +kernel
theorem dX1_init_14 : decode cX1_init 14 = .ok (.putfield 15, 3) := by decide +kernel
theorem dX1_init_17 : decode cX1_init 17 = .ok (.aload_n 0, 1) := by decide +kernel
theorem dX1_init_18 : decode cX1_init 18 = .ok (.iconst 0, 1) := by decide +kernel
theorem dX1_init_19 : decode cX1_init 19 = .ok (.putfield 19, 3) := by decide +kernel
theorem dX1_init_22 : decode cX1_init 22 = .ok (.aload_n 0, 1) := by decide +kernel
theorem dX1_init_23 : decode cX1_init 23 = .ok (.iconst 0, 1) := by decide +kernel
theorem dX1_init_24 : decode cX1_init 24 = .ok (.putfield 22, 3) := by decide +kernel
theorem dX1_init_27 : decode cX1_init 27 = .ok (.return_, 1) := by decide +kernel
set_option maxRecDepth 20000 in
theorem ggX1_replaceDebts_X1_openPositions : GoodIn wsX1_replaceDebts wsX1_openPositions := goodIn_ca (goodIn_r _ [8, 9, 10, 11, 12, 13, 14, 15, 16, 17, 18, 19, 20, 21, 22, 23, 24, 25, 26, 27, 46, 47, 48, 49, 50, 51, 52, 53, 54, 55, 56, 57, 58, 59] (by decide +kernel) (by decide +kernel)) (goodIn_sub (fun _ h => List.mem_cons_of_mem _ (List.mem_append_right _ h)) (by decide +kernel))
set_option maxRecDepth 20000 in
theorem gX1_replaceDebts_X1_openPositions : GoodIn wsX1_replaceDebts (wsV RX1 25 RX1 yX1_openPositions wsX1_openPositions) := goodIn_app (goodIn_of _ (by decide +kernel)) ggX1_replaceDebts_X1_openPositions
set_option maxRecDepth 20000 in
theorem ggX1_replaceDebts_X5_forgiveDebts : GoodIn wsX1_replaceDebts wsX5_forgiveDebts := goodIn_ca (goodIn_r _ [31, 19, 20, 21, 13, 22, 23, 32, 33, 34, 35, 36, 50, 51, 52, 53, 54, 55, 56, 57, 58, 59] (by decide +kernel) (by decide +kernel)) (goodIn_sub (fun _ h => List.mem_cons_of_mem _ (List.mem_append_right _ h)) (by decide +kernel))
set_option maxRecDepth 20000 in
theorem gX1_replaceDebts_X5_forgiveDebts : GoodIn wsX1_replaceDebts (wsV RX1 29 RX5 yX5_forgiveDebts wsX5_forgiveDebts) := goodIn_app (goodIn_of _ (by decide +kernel)) ggX1_replaceDebts_X5_forgiveDebts
set_option maxRecDepth 20000 in
theorem ggX1_replaceDebts_X1_findDebt : GoodIn wsX1_replaceDebts wsX1_findDebt := goodIn_ca (goodIn_r _ [40, 1, 2, 9, 41, 42, 43, 44, 3, 46, 47, 48, 49] (by decide +kernel) (by decide +kernel)) (goodIn_sub (fun _ h => List.mem_cons_of_mem _ (List.mem_append_right _ h)) (by decide +kernel))
set_option maxRecDepth 20000 in
theorem gX1_replaceDebts_X1_findDebt : GoodIn wsX1_replaceDebts (wsV RX1 35 RX1 yX1_findDebt wsX1_findDebt) := goodIn_app (goodIn_of _ (by decide +kernel)) ggX1_replaceDebts_X1_findDebt
set_option maxRecDepth 20000 in
theorem ggX1_replaceDebts_X5_changeDebt : GoodIn wsX1_replaceDebts wsX5_changeDebt := goodIn_ca (goodIn_r _ [35, 23, 36, 19, 20, 21, 13, 22, 50, 51, 52, 53, 54, 55, 56, 57, 58, 59] (by decide +kernel) (by decide +kernel)) (goodIn_sub (fun _ h => List.mem_cons_of_mem _ (List.mem_append_right _ h)) (by decide +kernel))
set_option maxRecDepth 20000 in
theorem gX1_replaceDebts_X5_changeDebt : GoodIn wsX1_replaceDebts (wsV RX1 39 RX5 yX5_changeDebt wsX5_changeDebt) := goodIn_app (goodIn_of _ (by decide +kernel)) ggX1_replaceDebts_X5_changeDebt
theorem dX1_replaceDebts_0 : decode cX1_replaceDebts 0 = .ok (.aload_n 0, 1) := by decide +kernel
theorem dX1_replaceDebts_1 : decode cX1_replaceDebts 1 = .ok (.aload_n 1, 1) := by decide +kernel
theorem dX1_replaceDebts_2 : decode cX1_replaceDebts 2 = .ok (.invokevirtual 25, 3) := by decide +kernel
theorem dX1_replaceDebts_5 : decode cX1_replaceDebts 5 = .ok (.iconst 0, 1) := by decide +kernel
theorem dX1_replaceDebts_6 : decode cX1_replaceDebts 6 = .ok (.istore_n 2, 1) := by decide +kernel
theorem dX1_replaceDebts_7 : decode cX1_replaceDebts 7 = .ok (.iload_n 2, 1) := by decide +kernel
theorem dX1_replaceDebts_8 : decode cX1_replaceDebts 8 = .ok (.bipush 8, 2) := by decide +kernel
theorem dX1_replaceDebts_10 : decode cX1_replaceDebts 10 = .ok (.if_icmp .ge 14, 3) := by decide +kernel
theorem dX1_replaceDebts_13 : decode cX1_replaceDebts 13 = .ok (.aload_n 1, 1) := by decide +kernel
theorem dX1_replaceDebts_14 : decode cX1_replaceDebts 14 = .ok (.iload_n 2, 1) := by decide +kernel
theorem dX1_replaceDebts_15 : decode cX1_replaceDebts 15 = .ok (.invokevirtual 29, 3) := by decide +kernel
theorem dX1_replaceDebts_18 : decode cX1_replaceDebts 18 = .ok (.iinc 2 1, 3) := by decide +kernel
theorem dX1_replaceDebts_21 : decode cX1_replaceDebts 21 = .ok (.goto (-14), 3) := by decide +kernel
theorem dX1_replaceDebts_24 : decode cX1_replaceDebts 24 = .ok (.iconst 0, 1) := by decide +kernel
theorem dX1_replaceDebts_25 : decode cX1_replaceDebts 25 = .ok (.istore_n 2, 1) := by decide +kernel
theorem dX1_replaceDebts_26 : decode cX1_replaceDebts 26 = .ok (.iload_n 2, 1) := by decide +kernel
theorem dX1_replaceDebts_27 : decode cX1_replaceDebts 27 = .ok (.bipush 8, 2) := by decide +kernel
theorem dX1_replaceDebts_29 : decode cX1_replaceDebts 29 = .ok (.if_icmp .ge 33, 3) := by decide +kernel
theorem dX1_replaceDebts_32 : decode cX1_replaceDebts 32 = .ok (.aload_n 0, 1) := by decide +kernel
theorem dX1_replaceDebts_33 : decode cX1_replaceDebts 33 = .ok (.invokevirtual 35, 3) := by decide +kernel
theorem dX1_replaceDebts_36 : decode cX1_replaceDebts 36 = .ok (.ifCond .eq 26, 3) := by decide +kernel
theorem dX1_replaceDebts_39 : decode cX1_replaceDebts 39 = .ok (.aload_n 1, 1) := by decide +kernel
theorem dX1_replaceDebts_40 : decode cX1_replaceDebts 40 = .ok (.aload_n 0, 1) := by decide +kernel
theorem dX1_replaceDebts_41 : decode cX1_replaceDebts 41 = .ok (.getfield 15, 3) := by decide +kernel
theorem dX1_replaceDebts_44 : decode cX1_replaceDebts 44 = .ok (.aload_n 0, 1) := by decide +kernel
theorem dX1_replaceDebts_45 : decode cX1_replaceDebts 45 = .ok (.getfield 19, 3) := by decide +kernel
theorem dX1_replaceDebts_48 : decode cX1_replaceDebts 48 = .ok (.aload_n 0, 1) := by decide +kernel
theorem dX1_replaceDebts_49 : decode cX1_replaceDebts 49 = .ok (.getfield 22, 3) := by decide +kernel
theorem dX1_replaceDebts_52 : decode cX1_replaceDebts 52 = .ok (.invokevirtual 39, 3) := by decide +kernel
theorem dX1_replaceDebts_55 : decode cX1_replaceDebts 55 = .ok (.pop, 1) := by decide +kernel
theorem dX1_replaceDebts_56 : decode cX1_replaceDebts 56 = .ok (.iinc 2 1, 3) := by decide +kernel
theorem dX1_replaceDebts_59 : decode cX1_replaceDebts 59 = .ok (.goto (-33), 3) := by decide +kernel
theorem dX1_replaceDebts_62 : decode cX1_replaceDebts 62 = .ok (.iload_n 2, 1) := by decide +kernel
theorem dX1_replaceDebts_63 : decode cX1_replaceDebts 63 = .ok (.ireturn, 1) := by decide +kernel
set_option maxRecDepth 20000 in
theorem ggX1_openPositions_X5_positionOf : GoodIn wsX1_openPositions wsX5_positionOf := goodIn_ca (goodIn_r _ [6, 7, 8, 9, 5, 10, 11, 12, 13, 14, 15, 16, 17, 18, 19, 24, 25, 26, 27, 28, 29, 30, 31, 32, 33] (by decide +kernel) (by decide +kernel)) (goodIn_sub (fun _ h => List.mem_cons_of_mem _ (List.mem_append_right _ h)) (by decide +kernel))
set_option maxRecDepth 20000 in
theorem gX1_openPositions_X5_positionOf : GoodIn wsX1_openPositions (wsV RX1 43 RX5 yX5_positionOf wsX5_positionOf) := goodIn_app (goodIn_of _ (by decide +kernel)) ggX1_openPositions_X5_positionOf
theorem dX1_openPositions_0 : decode cX1_openPositions 0 = .ok (.iconst 0, 1) := by decide +kernel
theorem dX1_openPositions_1 : decode cX1_openPositions 1 = .ok (.istore_n 2, 1) := by decide +kernel
theorem dX1_openPositions_2 : decode cX1_openPositions 2 = .ok (.iload_n 2, 1) := by decide +kernel
theorem dX1_openPositions_3 : decode cX1_openPositions 3 = .ok (.bipush 8, 2) := by decide +kernel
theorem dX1_openPositions_5 : decode cX1_openPositions 5 = .ok (.if_icmp .ge 20, 3) := by decide +kernel
theorem dX1_openPositions_8 : decode cX1_openPositions 8 = .ok (.aload_n 0, 1) := by decide +kernel
theorem dX1_openPositions_9 : decode cX1_openPositions 9 = .ok (.getfield 9, 3) := by decide +kernel
theorem dX1_openPositions_12 : decode cX1_openPositions 12 = .ok (.iload_n 2, 1) := by decide +kernel
theorem dX1_openPositions_13 : decode cX1_openPositions 13 = .ok (.aload_n 1, 1) := by decide +kernel
theorem dX1_openPositions_14 : decode cX1_openPositions 14 = .ok (.iload_n 2, 1) := by decide +kernel
theorem dX1_openPositions_15 : decode cX1_openPositions 15 = .ok (.invokevirtual 43, 3) := by decide +kernel
theorem dX1_openPositions_18 : decode cX1_openPositions 18 = .ok (.iastore, 1) := by decide +kernel
theorem dX1_openPositions_19 : decode cX1_openPositions 19 = .ok (.iinc 2 1, 3) := by decide +kernel
theorem dX1_openPositions_22 : decode cX1_openPositions 22 = .ok (.goto (-20), 3) := by decide +kernel
theorem dX1_openPositions_25 : decode cX1_openPositions 25 = .ok (.return_, 1) := by decide +kernel
theorem dX1_findDebt_0 : decode cX1_findDebt 0 = .ok (.aload_n 0, 1) := by decide +kernel
theorem dX1_findDebt_1 : decode cX1_findDebt 1 = .ok (.iconst 0, 1) := by decide +kernel
theorem dX1_findDebt_2 : decode cX1_findDebt 2 = .ok (.putfield 15, 3) := by decide +kernel
theorem dX1_findDebt_5 : decode cX1_findDebt 5 = .ok (.aload_n 0, 1) := by decide +kernel
theorem dX1_findDebt_6 : decode cX1_findDebt 6 = .ok (.iconst 0, 1) := by decide +kernel
theorem dX1_findDebt_7 : decode cX1_findDebt 7 = .ok (.putfield 19, 3) := by decide +kernel
theorem dX1_findDebt_10 : decode cX1_findDebt 10 = .ok (.iconst 1, 1) := by decide +kernel
theorem dX1_findDebt_11 : decode cX1_findDebt 11 = .ok (.istore_n 1, 1) := by decide +kernel
theorem dX1_findDebt_12 : decode cX1_findDebt 12 = .ok (.iload_n 1, 1) := by decide +kernel
theorem dX1_findDebt_13 : decode cX1_findDebt 13 = .ok (.bipush 8, 2) := by decide +kernel
theorem dX1_findDebt_15 : decode cX1_findDebt 15 = .ok (.if_icmp .ge 55, 3) := by decide +kernel
theorem dX1_findDebt_18 : decode cX1_findDebt 18 = .ok (.aload_n 0, 1) := by decide +kernel
theorem dX1_findDebt_19 : decode cX1_findDebt 19 = .ok (.getfield 9, 3) := by decide +kernel
theorem dX1_findDebt_22 : decode cX1_findDebt 22 = .ok (.iload_n 1, 1) := by decide +kernel
theorem dX1_findDebt_23 : decode cX1_findDebt 23 = .ok (.iaload, 1) := by decide +kernel
theorem dX1_findDebt_24 : decode cX1_findDebt 24 = .ok (.aload_n 0, 1) := by decide +kernel
theorem dX1_findDebt_25 : decode cX1_findDebt 25 = .ok (.getfield 9, 3) := by decide +kernel
theorem dX1_findDebt_28 : decode cX1_findDebt 28 = .ok (.aload_n 0, 1) := by decide +kernel
theorem dX1_findDebt_29 : decode cX1_findDebt 29 = .ok (.getfield 15, 3) := by decide +kernel
theorem dX1_findDebt_32 : decode cX1_findDebt 32 = .ok (.iaload, 1) := by decide +kernel
theorem dX1_findDebt_33 : decode cX1_findDebt 33 = .ok (.if_icmp .ge 8, 3) := by decide +kernel
theorem dX1_findDebt_36 : decode cX1_findDebt 36 = .ok (.aload_n 0, 1) := by decide +kernel
theorem dX1_findDebt_37 : decode cX1_findDebt 37 = .ok (.iload_n 1, 1) := by decide +kernel
theorem dX1_findDebt_38 : decode cX1_findDebt 38 = .ok (.putfield 15, 3) := by decide +kernel
theorem dX1_findDebt_41 : decode cX1_findDebt 41 = .ok (.aload_n 0, 1) := by decide +kernel
theorem dX1_findDebt_42 : decode cX1_findDebt 42 = .ok (.getfield 9, 3) := by decide +kernel
theorem dX1_findDebt_45 : decode cX1_findDebt 45 = .ok (.iload_n 1, 1) := by decide +kernel
theorem dX1_findDebt_46 : decode cX1_findDebt 46 = .ok (.iaload, 1) := by decide +kernel
theorem dX1_findDebt_47 : decode cX1_findDebt 47 = .ok (.aload_n 0, 1) := by decide +kernel
theorem dX1_findDebt_48 : decode cX1_findDebt 48 = .ok (.getfield 9, 3) := by decide +kernel
theorem dX1_findDebt_51 : decode cX1_findDebt 51 = .ok (.aload_n 0, 1) := by decide +kernel
theorem dX1_findDebt_52 : decode cX1_findDebt 52 = .ok (.getfield 19, 3) := by decide +kernel
theorem dX1_findDebt_55 : decode cX1_findDebt 55 = .ok (.iaload, 1) := by decide +kernel
theorem dX1_findDebt_56 : decode cX1_findDebt 56 = .ok (.if_icmp .le 8, 3) := by decide +kernel
theorem dX1_findDebt_59 : decode cX1_findDebt 59 = .ok (.aload_n 0, 1) := by decide +kernel
theorem dX1_findDebt_60 : decode cX1_findDebt 60 = .ok (.iload_n 1, 1) := by decide +kernel
theorem dX1_findDebt_61 : decode cX1_findDebt 61 = .ok (.putfield 19, 3) := by decide +kernel
theorem dX1_findDebt_64 : decode cX1_findDebt 64 = .ok (.iinc 1 1, 3) := by decide +kernel
theorem dX1_findDebt_67 : decode cX1_findDebt 67 = .ok (.goto (-55), 3) := by decide +kernel
theorem dX1_findDebt_70 : decode cX1_findDebt 70 = .ok (.aload_n 0, 1) := by decide +kernel
theorem dX1_findDebt_71 : decode cX1_findDebt 71 = .ok (.aload_n 0, 1) := by decide +kernel
theorem dX1_findDebt_72 : decode cX1_findDebt 72 = .ok (.getfield 9, 3) := by decide +kernel
theorem dX1_findDebt_75 : decode cX1_findDebt 75 = .ok (.aload_n 0, 1) := by decide +kernel
theorem dX1_findDebt_76 : decode cX1_findDebt 76 = .ok (.getfield 15, 3) := by decide +kernel
theorem dX1_findDebt_79 : decode cX1_findDebt 79 = .ok (.iaload, 1) := by decide +kernel
theorem dX1_findDebt_80 : decode cX1_findDebt 80 = .ok (.ineg, 1) := by decide +kernel
theorem dX1_findDebt_81 : decode cX1_findDebt 81 = .ok (.aload_n 0, 1) := by decide +kernel
theorem dX1_findDebt_82 : decode cX1_findDebt 82 = .ok (.getfield 9, 3) := by decide +kernel
theorem dX1_findDebt_85 : decode cX1_findDebt 85 = .ok (.aload_n 0, 1) := by decide +kernel
theorem dX1_findDebt_86 : decode cX1_findDebt 86 = .ok (.getfield 19, 3) := by decide +kernel
theorem dX1_findDebt_89 : decode cX1_findDebt 89 = .ok (.iaload, 1) := by decide +kernel
theorem dX1_findDebt_90 : decode cX1_findDebt 90 = .ok (.invokestatic 47, 3) := by decide +kernel
theorem dX1_findDebt_93 : decode cX1_findDebt 93 = .ok (.putfield 22, 3) := by decide +kernel
theorem dX1_findDebt_96 : decode cX1_findDebt 96 = .ok (.aload_n 0, 1) := by decide +kernel
theorem dX1_findDebt_97 : decode cX1_findDebt 97 = .ok (.getfield 9, 3) := by decide +kernel
theorem dX1_findDebt_100 : decode cX1_findDebt 100 = .ok (.aload_n 0, 1) := by decide +kernel
theorem dX1_findDebt_101 : decode cX1_findDebt 101 = .ok (.getfield 15, 3) := by decide +kernel
theorem dX1_findDebt_104 : decode cX1_findDebt 104 = .ok (.dup2, 1) := by decide +kernel
theorem dX1_findDebt_105 : decode cX1_findDebt 105 = .ok (.iaload, 1) := by decide +kernel
theorem dX1_findDebt_106 : decode cX1_findDebt 106 = .ok (.aload_n 0, 1) := by decide +kernel
theorem dX1_findDebt_107 : decode cX1_findDebt 107 = .ok (.getfield 22, 3) := by decide +kernel
theorem dX1_findDebt_110 : decode cX1_findDebt 110 = .ok (.iadd, 1) := by decide +kernel
theorem dX1_findDebt_111 : decode cX1_findDebt 111 = .ok (.iastore, 1) := by decide +kernel
theorem dX1_findDebt_112 : decode cX1_findDebt 112 = .ok (.aload_n 0, 1) := by decide +kernel
theorem dX1_findDebt_113 : decode cX1_findDebt 113 = .ok (.getfield 9, 3) := by decide +kernel
theorem dX1_findDebt_116 : decode cX1_findDebt 116 = .ok (.aload_n 0, 1) := by decide +kernel
theorem dX1_findDebt_117 : decode cX1_findDebt 117 = .ok (.getfield 19, 3) := by decide +kernel
theorem dX1_findDebt_120 : decode cX1_findDebt 120 = .ok (.dup2, 1) := by decide +kernel
theorem dX1_findDebt_121 : decode cX1_findDebt 121 = .ok (.iaload, 1) := by decide +kernel
theorem dX1_findDebt_122 : decode cX1_findDebt 122 = .ok (.aload_n 0, 1) := by decide +kernel
theorem dX1_findDebt_123 : decode cX1_findDebt 123 = .ok (.getfield 22, 3) := by decide +kernel
theorem dX1_findDebt_126 : decode cX1_findDebt 126 = .ok (.isub, 1) := by decide +kernel
theorem dX1_findDebt_127 : decode cX1_findDebt 127 = .ok (.iastore, 1) := by decide +kernel
theorem dX1_findDebt_128 : decode cX1_findDebt 128 = .ok (.aload_n 0, 1) := by decide +kernel
theorem dX1_findDebt_129 : decode cX1_findDebt 129 = .ok (.getfield 22, 3) := by decide +kernel
theorem dX1_findDebt_132 : decode cX1_findDebt 132 = .ok (.ifCond .le 7, 3) := by decide +kernel
theorem dX1_findDebt_135 : decode cX1_findDebt 135 = .ok (.iconst 1, 1) := by decide +kernel
theorem dX1_findDebt_136 : decode cX1_findDebt 136 = .ok (.goto 4, 3) := by decide +kernel
theorem dX1_findDebt_139 : decode cX1_findDebt 139 = .ok (.iconst 0, 1) := by decide +kernel
theorem dX1_findDebt_140 : decode cX1_findDebt 140 = .ok (.ireturn, 1) := by decide +kernel
theorem dX3_init_0 : decode cX3_init 0 = .ok (.aload_n 0, 1) := by decide +kernel
theorem dX3_init_1 : decode cX3_init 1 = .ok (.invokespecial 3, 3) := by decide +kernel
theorem dX3_init_4 : decode cX3_init 4 = .ok (.aload_n 0, 1) := by decide +kernel
theorem dX3_init_5 : decode cX3_init 5 = .ok (.bipush 60, 2) := by decide +kernel
theorem dX3_init_7 : decode cX3_init 7 = .ok (.newarray .char, 2) := by decide +kernel
theorem dX3_init_9 : decode cX3_init 9 = .ok (.putfield 9, 3) := by decide +kernel
theorem dX3_init_12 : decode cX3_init 12 = .ok (.aload_n 0, 1) := by decide +kernel
theorem dX3_init_13 : decode cX3_init 13 = .ok (.iconst 3, 1) := by decide +kernel
theorem dX3_init_14 : decode cX3_init 14 = .ok (.newarray .int, 2) := by decide +kernel
theorem dX3_init_16 : decode cX3_init 16 = .ok (.putfield 15, 3) := by decide +kernel
theorem dX3_init_19 : decode cX3_init 19 = .ok (.aload_n 0, 1) := by decide +kernel
theorem dX3_init_20 : decode cX3_init 20 = .ok (.iconst 0, 1) := by decide +kernel
theorem dX3_init_21 : decode cX3_init 21 = .ok (.putfield 19, 3) := by decide +kernel
theorem dX3_init_24 : decode cX3_init 24 = .ok (.aload_n 0, 1) := by decide +kernel
theorem dX3_init_25 : decode cX3_init 25 = .ok (.iconst 0, 1) := by decide +kernel
theorem dX3_init_26 : decode cX3_init 26 = .ok (.putfield 23, 3) := by decide +kernel
theorem dX3_init_29 : decode cX3_init 29 = .ok (.aload_n 0, 1) := by decide +kernel
theorem dX3_init_30 : decode cX3_init 30 = .ok (.iconst 0, 1) := by decide +kernel
theorem dX3_init_31 : decode cX3_init 31 = .ok (.putfield 26, 3) := by decide +kernel
theorem dX3_init_34 : decode cX3_init 34 = .ok (.aload_n 0, 1) := by decide +kernel
theorem dX3_init_35 : decode cX3_init 35 = .ok (.iconst 0, 1) := by decide +kernel
theorem dX3_init_36 : decode cX3_init 36 = .ok (.putfield 29, 3) := by decide +kernel
theorem dX3_init_39 : decode cX3_init 39 = .ok (.aload_n 0, 1) := by decide +kernel
theorem dX3_init_40 : decode cX3_init 40 = .ok (.iconst 0, 1) := by decide +kernel
theorem dX3_init_41 : decode cX3_init 41 = .ok (.putfield 32, 3) := by decide +kernel
theorem dX3_init_44 : decode cX3_init 44 = .ok (.return_, 1) := by decide +kernel
theorem dX3_isFull_0 : decode cX3_isFull 0 = .ok (.aload_n 0, 1) := by decide +kernel
theorem dX3_isFull_1 : decode cX3_isFull 1 = .ok (.getfield 19, 3) := by decide +kernel
theorem dX3_isFull_4 : decode cX3_isFull 4 = .ok (.bipush 60, 2) := by decide +kernel
theorem dX3_isFull_6 : decode cX3_isFull 6 = .ok (.if_icmp .lt 7, 3) := by decide +kernel
theorem dX3_isFull_9 : decode cX3_isFull 9 = .ok (.iconst 1, 1) := by decide +kernel
theorem dX3_isFull_10 : decode cX3_isFull 10 = .ok (.goto 4, 3) := by decide +kernel
theorem dX3_isFull_13 : decode cX3_isFull 13 = .ok (.iconst 0, 1) := by decide +kernel
theorem dX3_isFull_14 : decode cX3_isFull 14 = .ok (.ireturn, 1) := by decide +kernel
theorem dX3_append_0 : decode cX3_append 0 = .ok (.aload_n 0, 1) := by decide +kernel
theorem dX3_append_1 : decode cX3_append 1 = .ok (.getfield 9, 3) := by decide +kernel
theorem dX3_append_4 : decode cX3_append 4 = .ok (.aload_n 0, 1) := by decide +kernel
theorem dX3_append_5 : decode cX3_append 5 = .ok (.getfield 19, 3) := by decide +kernel
theorem dX3_append_8 : decode cX3_append 8 = .ok (.iload_n 1, 1) := by decide +kernel
theorem dX3_append_9 : decode cX3_append 9 = .ok (.castore, 1) := by decide +kernel
theorem dX3_append_10 : decode cX3_append 10 = .ok (.aload_n 0, 1) := by decide +kernel
theorem dX3_append_11 : decode cX3_append 11 = .ok (.dup, 1) := by decide +kernel
theorem dX3_append_12 : decode cX3_append 12 = .ok (.getfield 19, 3) := by decide +kernel
theorem dX3_append_15 : decode cX3_append 15 = .ok (.iconst 1, 1) := by decide +kernel
theorem dX3_append_16 : decode cX3_append 16 = .ok (.iadd, 1) := by decide +kernel
theorem dX3_append_17 : decode cX3_append 17 = .ok (.putfield 19, 3) := by decide +kernel
theorem dX3_append_20 : decode cX3_append 20 = .ok (.aload_n 0, 1) := by decide +kernel
theorem dX3_append_21 : decode cX3_append 21 = .ok (.getfield 19, 3) := by decide +kernel
theorem dX3_append_24 : decode cX3_append 24 = .ok (.ireturn, 1) := by decide +kernel
theorem dX3_empty_0 : decode cX3_empty 0 = .ok (.aload_n 0, 1) := by decide +kernel
theorem dX3_empty_1 : decode cX3_empty 1 = .ok (.iconst 0, 1) := by decide +kernel
theorem dX3_empty_2 : decode cX3_empty 2 = .ok (.putfield 19, 3) := by decide +kernel
theorem dX3_empty_5 : decode cX3_empty 5 = .ok (.return_, 1) := by decide +kernel
theorem dX3_numberAt_0 : decode cX3_numberAt 0 = .ok (.iload_n 1, 1) := by decide +kernel
theorem dX3_numberAt_1 : decode cX3_numberAt 1 = .ok (.aload_n 0, 1) := by decide +kernel
theorem dX3_numberAt_2 : decode cX3_numberAt 2 = .ok (.getfield 23, 3) := by decide +kernel
theorem dX3_numberAt_5 : decode cX3_numberAt 5 = .ok (.if_icmp .ge 12, 3) := by decide +kernel
theorem dX3_numberAt_8 : decode cX3_numberAt 8 = .ok (.aload_n 0, 1) := by decide +kernel
theorem dX3_numberAt_9 : decode cX3_numberAt 9 = .ok (.getfield 15, 3) := by decide +kernel
theorem dX3_numberAt_12 : decode cX3_numberAt 12 = .ok (.iload_n 1, 1) := by decide +kernel
theorem dX3_numberAt_13 : decode cX3_numberAt 13 = .ok (.iaload, 1) := by decide +kernel
theorem dX3_numberAt_14 : decode cX3_numberAt 14 = .ok (.goto 4, 3) := by decide +kernel
theorem dX3_numberAt_17 : decode cX3_numberAt 17 = .ok (.iconst (-1), 1) := by decide +kernel
theorem dX3_numberAt_18 : decode cX3_numberAt 18 = .ok (.ireturn, 1) := by decide +kernel
set_option maxRecDepth 20000 in
theorem ggX3_findError_X3_commandAt : GoodIn wsX3_findError wsX3_commandAt := goodIn_ca (goodIn_r _ [8, 2, 9, 10, 11, 12, 13, 14, 15, 16, 17, 7, 18, 19, 20, 21, 22, 23, 24, 25, 26, 27, 28, 29, 30, 31, 32, 33, 34, 35, 36, 37, 38, 39, 40, 41, 42, 43, 44, 45, 46, 47, 48, 49, 50, 51, 52, 53, 54, 55, 56, 57, 58, 59, 60, 61, 62, 63, 64, 65, 66, 67, 68, 69, 70, 71, 72, 3, 73, 74, 75, 76, 77, 78, 79, 80, 81, 82, 83, 84, 85, 86, 87, 88, 89, 90, 91, 92, 93] (by decide +kernel) (by decide +kernel)) (goodIn_sub (fun _ h => List.mem_cons_of_mem _ (List.mem_append_right _ h)) (by decide +kernel))
set_option maxRecDepth 20000 in
theorem gX3_findError_X3_commandAt : GoodIn wsX3_findError (wsV RX3 35 RX3 yX3_commandAt wsX3_commandAt) := goodIn_app (goodIn_of _ (by decide +kernel)) ggX3_findError_X3_commandAt
set_option maxRecDepth 20000 in
theorem ggX3_findError_X3_hasAt : GoodIn wsX3_findError wsX3_hasAt := goodIn_ca (goodIn_r _ [77, 3, 73, 83, 84, 85, 86, 87, 88, 89] (by decide +kernel) (by decide +kernel)) (goodIn_sub (fun _ h => List.mem_cons_of_mem _ (List.mem_append_right _ h)) (by decide +kernel))
set_option maxRecDepth 20000 in
theorem gX3_findError_X3_hasAt : GoodIn wsX3_findError (wsV RX3 39 RX3 yX3_hasAt wsX3_hasAt) := goodIn_app (goodIn_of _ (by decide +kernel)) ggX3_findError_X3_hasAt
theorem dX3_findError_0 : decode cX3_findError 0 = .ok (.aload_n 0, 1) := by decide +kernel
theorem dX3_findError_1 : decode cX3_findError 1 = .ok (.iconst 0, 1) := by decide +kernel
theorem dX3_findError_2 : decode cX3_findError 2 = .ok (.putfield 26, 3) := by decide +kernel
theorem dX3_findError_5 : decode cX3_findError 5 = .ok (.iconst 0, 1) := by decide +kernel
theorem dX3_findError_6 : decode cX3_findError 6 = .ok (.istore_n 1, 1) := by decide +kernel
theorem dX3_findError_7 : decode cX3_findError 7 = .ok (.iconst 1, 1) := by decide +kernel
theorem dX3_findError_8 : decode cX3_findError 8 = .ok (.istore_n 2, 1) := by decide +kernel
theorem dX3_findError_9 : decode cX3_findError 9 = .ok (.iload_n 2, 1) := by decide +kernel
theorem dX3_findError_10 : decode cX3_findError 10 = .ok (.bipush 60, 2) := by decide +kernel
theorem dX3_findError_12 : decode cX3_findError 12 = .ok (.if_icmp .gt 65, 3) := by decide +kernel
theorem dX3_findError_15 : decode cX3_findError 15 = .ok (.aload_n 0, 1) := by decide +kernel
theorem dX3_findError_16 : decode cX3_findError 16 = .ok (.iload_n 1, 1) := by decide +kernel
theorem dX3_findError_17 : decode cX3_findError 17 = .ok (.invokevirtual 35, 3) := by decide +kernel
theorem dX3_findError_20 : decode cX3_findError 20 = .ok (.ifnonnull 8, 3) := by decide +kernel
theorem dX3_findError_23 : decode cX3_findError 23 = .ok (.aload_n 0, 1) := by decide +kernel
theorem dX3_findError_24 : decode cX3_findError 24 = .ok (.getfield 32, 3) := by decide +kernel
theorem dX3_findError_27 : decode cX3_findError 27 = .ok (.ireturn, 1) := by decide +kernel
theorem dX3_findError_28 : decode cX3_findError 28 = .ok (.aload_n 0, 1) := by decide +kernel
theorem dX3_findError_29 : decode cX3_findError 29 = .ok (.iload_n 2, 1) := by decide +kernel
theorem dX3_findError_30 : decode cX3_findError 30 = .ok (.putfield 26, 3) := by decide +kernel
theorem dX3_findError_33 : decode cX3_findError 33 = .ok (.aload_n 0, 1) := by decide +kernel
theorem dX3_findError_34 : decode cX3_findError 34 = .ok (.getfield 32, 3) := by decide +kernel
theorem dX3_findError_37 : decode cX3_findError 37 = .ok (.aload_n 0, 1) := by decide +kernel
theorem dX3_findError_38 : decode cX3_findError 38 = .ok (.getfield 19, 3) := by decide +kernel
theorem dX3_findError_41 : decode cX3_findError 41 = .ok (.if_icmp .ne 5, 3) := by decide +kernel
theorem dX3_findError_44 : decode cX3_findError 44 = .ok (.iconst (-1), 1) := by decide +kernel
theorem dX3_findError_45 : decode cX3_findError 45 = .ok (.ireturn, 1) := by decide +kernel
theorem dX3_findError_46 : decode cX3_findError 46 = .ok (.aload_n 0, 1) := by decide +kernel
theorem dX3_findError_47 : decode cX3_findError 47 = .ok (.aload_n 0, 1) := by decide +kernel
theorem dX3_findError_48 : decode cX3_findError 48 = .ok (.getfield 32, 3) := by decide +kernel
theorem dX3_findError_51 : decode cX3_findError 51 = .ok (.bipush 59, 2) := by decide +kernel
theorem dX3_findError_53 : decode cX3_findError 53 = .ok (.invokevirtual 39, 3) := by decide +kernel
theorem dX3_findError_56 : decode cX3_findError 56 = .ok (.ifCond .ne 8, 3) := by decide +kernel
theorem dX3_findError_59 : decode cX3_findError 59 = .ok (.aload_n 0, 1) := by decide +kernel
theorem dX3_findError_60 : decode cX3_findError 60 = .ok (.getfield 32, 3) := by decide +kernel
theorem dX3_findError_63 : decode cX3_findError 63 = .ok (.ireturn, 1) := by decide +kernel
theorem dX3_findError_64 : decode cX3_findError 64 = .ok (.aload_n 0, 1) := by decide +kernel
theorem dX3_findError_65 : decode cX3_findError 65 = .ok (.getfield 32, 3) := by decide +kernel
theorem dX3_findError_68 : decode cX3_findError 68 = .ok (.iconst 1, 1) := by decide +kernel
theorem dX3_findError_69 : decode cX3_findError 69 = .ok (.iadd, 1) := by decide +kernel
theorem dX3_findError_70 : decode cX3_findError 70 = .ok (.istore_n 1, 1) := by decide +kernel
theorem dX3_findError_71 : decode cX3_findError 71 = .ok (.iinc 2 1, 3) := by decide +kernel
theorem dX3_findError_74 : decode cX3_findError 74 = .ok (.goto (-65), 3) := by decide +kernel
theorem dX3_findError_77 : decode cX3_findError 77 = .ok (.aload_n 0, 1) := by decide +kernel
theorem dX3_findError_78 : decode cX3_findError 78 = .ok (.getfield 19, 3) := by decide +kernel
theorem dX3_findError_81 : decode cX3_findError 81 = .ok (.ireturn, 1) := by decide +kernel
set_option maxRecDepth 20000 in
theorem ggX3_commandAt_X3_follows : GoodIn wsX3_commandAt wsX3_follows := goodIn_ca (goodIn_r _ [12, 3, 13, 14, 15, 16, 17, 18, 19, 20, 21, 22, 23, 24, 25, 26, 27, 28, 29, 30, 31, 32, 33, 34, 35, 36, 37, 38, 39, 40, 41, 42, 43, 44, 45, 46, 47, 48, 49, 50, 51, 52, 53, 54, 55, 56, 57, 58, 59, 60, 61, 62, 63, 64, 65, 11, 66, 67, 68, 69, 70, 71, 72, 73, 74, 75, 76, 77, 78, 79, 80, 81, 82, 83, 84, 85, 86, 87, 88] (by decide +kernel) (by decide +kernel)) (goodIn_sub (fun _ h => List.mem_cons_of_mem _ (List.mem_append_right _ h)) (by decide +kernel))
set_option maxRecDepth 20000 in
theorem gX3_commandAt_X3_follows : GoodIn wsX3_commandAt (wsV RX3 53 RX3 yX3_follows wsX3_follows) := goodIn_app (goodIn_of _ (by decide +kernel)) ggX3_commandAt_X3_follows
theorem dX3_commandAt_0 : decode cX3_commandAt 0 = .ok (.aload_n 0, 1) := by decide +kernel
theorem dX3_commandAt_1 : decode cX3_commandAt 1 = .ok (.iload_n 1, 1) := by decide +kernel
theorem dX3_commandAt_2 : decode cX3_commandAt 2 = .ok (.putfield 32, 3) := by decide +kernel
theorem dX3_commandAt_5 : decode cX3_commandAt 5 = .ok (.iconst 0, 1) := by decide +kernel
theorem dX3_commandAt_6 : decode cX3_commandAt 6 = .ok (.istore_n 2, 1) := by decide +kernel
theorem dX3_commandAt_7 : decode cX3_commandAt 7 = .ok (.iload_n 2, 1) := by decide +kernel
theorem dX3_commandAt_8 : decode cX3_commandAt 8 = .ok (.getstatic 43, 3) := by decide +kernel
theorem dX3_commandAt_11 : decode cX3_commandAt 11 = .ok (.arraylength, 1) := by decide +kernel
theorem dX3_commandAt_12 : decode cX3_commandAt 12 = .ok (.if_icmp .ge 48, 3) := by decide +kernel
theorem dX3_commandAt_15 : decode cX3_commandAt 15 = .ok (.aload_n 0, 1) := by decide +kernel
theorem dX3_commandAt_16 : decode cX3_commandAt 16 = .ok (.getstatic 43, 3) := by decide +kernel
theorem dX3_commandAt_19 : decode cX3_commandAt 19 = .ok (.iload_n 2, 1) := by decide +kernel
theorem dX3_commandAt_20 : decode cX3_commandAt 20 = .ok (.aaload, 1) := by decide +kernel
theorem dX3_commandAt_21 : decode cX3_commandAt 21 = .ok (.getfield 47, 3) := by decide +kernel
theorem dX3_commandAt_24 : decode cX3_commandAt 24 = .ok (.iload_n 1, 1) := by decide +kernel
theorem dX3_commandAt_25 : decode cX3_commandAt 25 = .ok (.invokevirtual 53, 3) := by decide +kernel
theorem dX3_commandAt_28 : decode cX3_commandAt 28 = .ok (.istore_n 3, 1) := by decide +kernel
theorem dX3_commandAt_29 : decode cX3_commandAt 29 = .ok (.aload_n 0, 1) := by decide +kernel
theorem dX3_commandAt_30 : decode cX3_commandAt 30 = .ok (.aload_n 0, 1) := by decide +kernel
theorem dX3_commandAt_31 : decode cX3_commandAt 31 = .ok (.getfield 32, 3) := by decide +kernel
theorem dX3_commandAt_34 : decode cX3_commandAt 34 = .ok (.aload_n 0, 1) := by decide +kernel
theorem dX3_commandAt_35 : decode cX3_commandAt 35 = .ok (.getfield 29, 3) := by decide +kernel
theorem dX3_commandAt_38 : decode cX3_commandAt 38 = .ok (.invokestatic 57, 3) := by decide +kernel
theorem dX3_commandAt_41 : decode cX3_commandAt 41 = .ok (.putfield 32, 3) := by decide +kernel
theorem dX3_commandAt_44 : decode cX3_commandAt 44 = .ok (.iload_n 3, 1) := by decide +kernel
theorem dX3_commandAt_45 : decode cX3_commandAt 45 = .ok (.ifCond .eq 9, 3) := by decide +kernel
theorem dX3_commandAt_48 : decode cX3_commandAt 48 = .ok (.getstatic 43, 3) := by decide +kernel
theorem dX3_commandAt_51 : decode cX3_commandAt 51 = .ok (.iload_n 2, 1) := by decide +kernel
theorem dX3_commandAt_52 : decode cX3_commandAt 52 = .ok (.aaload, 1) := by decide +kernel
theorem dX3_commandAt_53 : decode cX3_commandAt 53 = .ok (.areturn, 1) := by decide +kernel
theorem dX3_commandAt_54 : decode cX3_commandAt 54 = .ok (.iinc 2 1, 3) := by decide +kernel
theorem dX3_commandAt_57 : decode cX3_commandAt 57 = .ok (.goto (-50), 3) := by decide +kernel
theorem dX3_commandAt_60 : decode cX3_commandAt 60 = .ok (.aconst_null, 1) := by decide +kernel
theorem dX3_commandAt_61 : decode cX3_commandAt 61 = .ok (.areturn, 1) := by decide +kernel
set_option maxRecDepth 20000 in
theorem ggX3_follows_J0_length_8abf5 : GoodIn wsX3_follows wsJ0_length_8abf5 := goodIn_r _ [7, 8, 9, 10, 11, 6, 12, 13, 14, 75, 76, 77, 78] (by decide +kernel) (by decide +kernel)
set_option maxRecDepth 20000 in
theorem gX3_follows_J0_length_8abf5 : GoodIn wsX3_follows (wsV RX3 63 RJ0 yJ0_length_8abf5 wsJ0_length_8abf5) := goodIn_app (goodIn_of _ (by decide +kernel)) ggX3_follows_J0_length_8abf5
set_option maxRecDepth 20000 in
theorem ggX3_follows_J0_charAt_5068e : GoodIn wsX3_follows wsJ0_charAt_5068e := goodIn_r _ [18, 8, 19, 20, 21, 6, 22, 13, 14, 23, 24, 25, 26, 27, 28, 29, 30, 31, 32, 33, 34, 35, 36, 37, 38, 39, 40, 41, 42, 43, 44, 45, 46, 47, 48, 49, 50, 51, 75, 76, 77, 78] (by decide +kernel) (by decide +kernel)
set_option maxRecDepth 20000 in
theorem gX3_follows_J0_charAt_5068e : GoodIn wsX3_follows (wsV RX3 68 RJ0 yJ0_charAt_5068e wsJ0_charAt_5068e) := goodIn_app (goodIn_of _ (by decide +kernel)) ggX3_follows_J0_charAt_5068e
set_option maxRecDepth 20000 in
theorem ggX3_follows_X3_hasDigitAt : GoodIn wsX3_follows wsX3_hasDigitAt := goodIn_ca (goodIn_r _ [56, 57, 58, 68, 69, 70, 71, 72, 73, 74] (by decide +kernel) (by decide +kernel)) (goodIn_sub (fun _ h => List.mem_cons_of_mem _ (List.mem_append_right _ h)) (by decide +kernel))
set_option maxRecDepth 20000 in
theorem gX3_follows_X3_hasDigitAt : GoodIn wsX3_follows (wsV RX3 72 RX3 yX3_hasDigitAt wsX3_hasDigitAt) := goodIn_app (goodIn_of _ (by decide +kernel)) ggX3_follows_X3_hasDigitAt
set_option maxRecDepth 20000 in
theorem ggX3_follows_X3_hasAt : GoodIn wsX3_follows wsX3_hasAt := goodIn_ca (goodIn_r _ [62, 57, 58, 68, 69, 70, 71, 72, 73, 74] (by decide +kernel) (by decide +kernel)) (goodIn_sub (fun _ h => List.mem_cons_of_mem _ (List.mem_append_right _ h)) (by decide +kernel))
set_option maxRecDepth 20000 in
theorem gX3_follows_X3_hasAt : GoodIn wsX3_follows (wsV RX3 39 RX3 yX3_hasAt wsX3_hasAt) := goodIn_app (goodIn_of _ (by decide +kernel)) ggX3_follows_X3_hasAt
set_option maxRecDepth 20000 in
theorem ggX3_follows_X3_readNumber : GoodIn wsX3_follows wsX3_readNumber := goodIn_ca (goodIn_r _ [66, 58, 1, 2, 67, 52, 53, 54, 55, 56, 57, 68, 69, 70, 71, 72, 73, 74] (by decide +kernel) (by decide +kernel)) (goodIn_sub (fun _ h => List.mem_cons_of_mem _ (List.mem_append_right _ h)) (by decide +kernel))
set_option maxRecDepth 20000 in
theorem gX3_follows_X3_readNumber : GoodIn wsX3_follows (wsV RX3 76 RX3 yX3_readNumber wsX3_readNumber) := goodIn_app (goodIn_of _ (by decide +kernel)) ggX3_follows_X3_readNumber
theorem dX3_follows_0 : decode cX3_follows 0 = .ok (.aload_n 0, 1) := by decide +kernel
theorem dX3_follows_1 : decode cX3_follows 1 = .ok (.iload_n 2, 1) := by decide +kernel
theorem dX3_follows_2 : decode cX3_follows 2 = .ok (.putfield 29, 3) := by decide +kernel
theorem dX3_follows_5 : decode cX3_follows 5 = .ok (.aload_n 0, 1) := by decide +kernel
theorem dX3_follows_6 : decode cX3_follows 6 = .ok (.iconst 0, 1) := by decide +kernel
theorem dX3_follows_7 : decode cX3_follows 7 = .ok (.putfield 23, 3) := by decide +kernel
theorem dX3_follows_10 : decode cX3_follows 10 = .ok (.iconst 0, 1) := by decide +kernel
theorem dX3_follows_11 : decode cX3_follows 11 = .ok (.istore_n 3, 1) := by decide +kernel
theorem dX3_follows_12 : decode cX3_follows 12 = .ok (.iload_n 3, 1) := by decide +kernel
theorem dX3_follows_13 : decode cX3_follows 13 = .ok (.aload_n 1, 1) := by decide +kernel
theorem dX3_follows_14 : decode cX3_follows 14 = .ok (.invokevirtual 63, 3) := by decide +kernel
theorem dX3_follows_17 : decode cX3_follows 17 = .ok (.if_icmp .ge 105, 3) := by decide +kernel
theorem dX3_follows_20 : decode cX3_follows 20 = .ok (.aload_n 1, 1) := by decide +kernel
theorem dX3_follows_21 : decode cX3_follows 21 = .ok (.iload_n 3, 1) := by decide +kernel
theorem dX3_follows_22 : decode cX3_follows 22 = .ok (.invokevirtual 68, 3) := by decide +kernel
theorem dX3_follows_25 : decode cX3_follows 25 = .ok (.istore 4, 2) := by decide +kernel
theorem dX3_follows_27 : decode cX3_follows 27 = .ok (.iload 4, 2) := by decide +kernel
theorem dX3_follows_29 : decode cX3_follows 29 = .ok (.bipush 35, 2) := by decide +kernel
theorem dX3_follows_31 : decode cX3_follows 31 = .ok (.if_icmp .eq 10, 3) := by decide +kernel
theorem dX3_follows_34 : decode cX3_follows 34 = .ok (.iload 4, 2) := by decide +kernel
theorem dX3_follows_36 : decode cX3_follows 36 = .ok (.bipush 64, 2) := by decide +kernel
theorem dX3_follows_38 : decode cX3_follows 38 = .ok (.if_icmp .ne 7, 3) := by decide +kernel
theorem dX3_follows_41 : decode cX3_follows 41 = .ok (.iconst 1, 1) := by decide +kernel
theorem dX3_follows_42 : decode cX3_follows 42 = .ok (.goto 4, 3) := by decide +kernel
theorem dX3_follows_45 : decode cX3_follows 45 = .ok (.iconst 0, 1) := by decide +kernel
theorem dX3_follows_46 : decode cX3_follows 46 = .ok (.istore 5, 2) := by decide +kernel
theorem dX3_follows_48 : decode cX3_follows 48 = .ok (.iload 5, 2) := by decide +kernel
theorem dX3_follows_50 : decode cX3_follows 50 = .ok (.ifCond .eq 17, 3) := by decide +kernel
theorem dX3_follows_53 : decode cX3_follows 53 = .ok (.aload_n 0, 1) := by decide +kernel
theorem dX3_follows_54 : decode cX3_follows 54 = .ok (.aload_n 0, 1) := by decide +kernel
theorem dX3_follows_55 : decode cX3_follows 55 = .ok (.getfield 29, 3) := by decide +kernel
theorem dX3_follows_58 : decode cX3_follows 58 = .ok (.invokevirtual 72, 3) := by decide +kernel
theorem dX3_follows_61 : decode cX3_follows 61 = .ok (.ifCond .ne 21, 3) := by decide +kernel
theorem dX3_follows_64 : decode cX3_follows 64 = .ok (.goto 16, 3) := by decide +kernel
theorem dX3_follows_67 : decode cX3_follows 67 = .ok (.aload_n 0, 1) := by decide +kernel
theorem dX3_follows_68 : decode cX3_follows 68 = .ok (.aload_n 0, 1) := by decide +kernel
theorem dX3_follows_69 : decode cX3_follows 69 = .ok (.getfield 29, 3) := by decide +kernel
theorem dX3_follows_72 : decode cX3_follows 72 = .ok (.iload 4, 2) := by decide +kernel
theorem dX3_follows_74 : decode cX3_follows 74 = .ok (.invokevirtual 39, 3) := by decide +kernel
theorem dX3_follows_77 : decode cX3_follows 77 = .ok (.ifCond .ne 5, 3) := by decide +kernel
theorem dX3_follows_80 : decode cX3_follows 80 = .ok (.iconst 0, 1) := by decide +kernel
theorem dX3_follows_81 : decode cX3_follows 81 = .ok (.ireturn, 1) := by decide +kernel
theorem dX3_follows_82 : decode cX3_follows 82 = .ok (.iload 5, 2) := by decide +kernel
theorem dX3_follows_84 : decode cX3_follows 84 = .ok (.ifCond .eq 22, 3) := by decide +kernel
theorem dX3_follows_87 : decode cX3_follows 87 = .ok (.aload_n 0, 1) := by decide +kernel
theorem dX3_follows_88 : decode cX3_follows 88 = .ok (.iload 4, 2) := by decide +kernel
theorem dX3_follows_90 : decode cX3_follows 90 = .ok (.bipush 64, 2) := by decide +kernel
theorem dX3_follows_92 : decode cX3_follows 92 = .ok (.if_icmp .ne 7, 3) := by decide +kernel
theorem dX3_follows_95 : decode cX3_follows 95 = .ok (.iconst 1, 1) := by decide +kernel
theorem dX3_follows_96 : decode cX3_follows 96 = .ok (.goto 4, 3) := by decide +kernel
theorem dX3_follows_99 : decode cX3_follows 99 = .ok (.iconst 0, 1) := by decide +kernel
theorem dX3_follows_100 : decode cX3_follows 100 = .ok (.invokevirtual 76, 3) := by decide +kernel
theorem dX3_follows_103 : decode cX3_follows 103 = .ok (.goto 13, 3) := by decide +kernel
theorem dX3_follows_106 : decode cX3_follows 106 = .ok (.aload_n 0, 1) := by decide +kernel
theorem dX3_follows_107 : decode cX3_follows 107 = .ok (.dup, 1) := by decide +kernel
theorem dX3_follows_108 : decode cX3_follows 108 = .ok (.getfield 29, 3) := by decide +kernel
theorem dX3_follows_111 : decode cX3_follows 111 = .ok (.iconst 1, 1) := by decide +kernel
theorem dX3_follows_112 : decode cX3_follows 112 = .ok (.iadd, 1) := by decide +kernel
theorem dX3_follows_113 : decode cX3_follows 113 = .ok (.putfield 29, 3) := by decide +kernel
theorem dX3_follows_116 : decode cX3_follows 116 = .ok (.iinc 3 1, 3) := by decide +kernel
theorem dX3_follows_119 : decode cX3_follows 119 = .ok (.goto (-107), 3) := by decide +kernel
theorem dX3_follows_122 : decode cX3_follows 122 = .ok (.iconst 1, 1) := by decide +kernel
theorem dX3_follows_123 : decode cX3_follows 123 = .ok (.ireturn, 1) := by decide +kernel
set_option maxRecDepth 20000 in
theorem ggX3_readNumber_X3_hasDigitAt : GoodIn wsX3_readNumber wsX3_hasDigitAt := goodIn_ca (goodIn_r _ [9, 10, 1, 11, 12, 13, 14, 15, 16, 17] (by decide +kernel) (by decide +kernel)) (goodIn_sub (fun _ h => List.mem_cons_of_mem _ (List.mem_append_right _ h)) (by decide +kernel))
set_option maxRecDepth 20000 in
theorem gX3_readNumber_X3_hasDigitAt : GoodIn wsX3_readNumber (wsV RX3 72 RX3 yX3_hasDigitAt wsX3_hasDigitAt) := goodIn_app (goodIn_of _ (by decide +kernel)) ggX3_readNumber_X3_hasDigitAt
theorem dX3_readNumber_0 : decode cX3_readNumber 0 = .ok (.aload_n 0, 1) := by decide +kernel
theorem dX3_readNumber_1 : decode cX3_readNumber 1 = .ok (.getfield 9, 3) := by decide +kernel
theorem dX3_readNumber_4 : decode cX3_readNumber 4 = .ok (.aload_n 0, 1) := by decide +kernel
theorem dX3_readNumber_5 : decode cX3_readNumber 5 = .ok (.getfield 29, 3) := by decide +kernel
theorem dX3_readNumber_8 : decode cX3_readNumber 8 = .ok (.caload, 1) := by decide +kernel
theorem dX3_readNumber_9 : decode cX3_readNumber 9 = .ok (.bipush 48, 2) := by decide +kernel
theorem dX3_readNumber_11 : decode cX3_readNumber 11 = .ok (.isub, 1) := by decide +kernel
theorem dX3_readNumber_12 : decode cX3_readNumber 12 = .ok (.istore_n 2, 1) := by decide +kernel
theorem dX3_readNumber_13 : decode cX3_readNumber 13 = .ok (.aload_n 0, 1) := by decide +kernel
theorem dX3_readNumber_14 : decode cX3_readNumber 14 = .ok (.dup, 1) := by decide +kernel
theorem dX3_readNumber_15 : decode cX3_readNumber 15 = .ok (.getfield 29, 3) := by decide +kernel
theorem dX3_readNumber_18 : decode cX3_readNumber 18 = .ok (.iconst 1, 1) := by decide +kernel
theorem dX3_readNumber_19 : decode cX3_readNumber 19 = .ok (.iadd, 1) := by decide +kernel
theorem dX3_readNumber_20 : decode cX3_readNumber 20 = .ok (.putfield 29, 3) := by decide +kernel
theorem dX3_readNumber_23 : decode cX3_readNumber 23 = .ok (.iload_n 1, 1) := by decide +kernel
theorem dX3_readNumber_24 : decode cX3_readNumber 24 = .ok (.ifCond .eq 42, 3) := by decide +kernel
theorem dX3_readNumber_27 : decode cX3_readNumber 27 = .ok (.aload_n 0, 1) := by decide +kernel
theorem dX3_readNumber_28 : decode cX3_readNumber 28 = .ok (.aload_n 0, 1) := by decide +kernel
theorem dX3_readNumber_29 : decode cX3_readNumber 29 = .ok (.getfield 29, 3) := by decide +kernel
theorem dX3_readNumber_32 : decode cX3_readNumber 32 = .ok (.invokevirtual 72, 3) := by decide +kernel
theorem dX3_readNumber_35 : decode cX3_readNumber 35 = .ok (.ifCond .eq 31, 3) := by decide +kernel
theorem dX3_readNumber_38 : decode cX3_readNumber 38 = .ok (.iload_n 2, 1) := by decide +kernel
theorem dX3_readNumber_39 : decode cX3_readNumber 39 = .ok (.bipush 10, 2) := by decide +kernel
theorem dX3_readNumber_41 : decode cX3_readNumber 41 = .ok (.imul, 1) := by decide +kernel
theorem dX3_readNumber_42 : decode cX3_readNumber 42 = .ok (.aload_n 0, 1) := by decide +kernel
theorem dX3_readNumber_43 : decode cX3_readNumber 43 = .ok (.getfield 9, 3) := by decide +kernel
theorem dX3_readNumber_46 : decode cX3_readNumber 46 = .ok (.aload_n 0, 1) := by decide +kernel
theorem dX3_readNumber_47 : decode cX3_readNumber 47 = .ok (.getfield 29, 3) := by decide +kernel
theorem dX3_readNumber_50 : decode cX3_readNumber 50 = .ok (.caload, 1) := by decide +kernel
theorem dX3_readNumber_51 : decode cX3_readNumber 51 = .ok (.iadd, 1) := by decide +kernel
theorem dX3_readNumber_52 : decode cX3_readNumber 52 = .ok (.bipush 48, 2) := by decide +kernel
theorem dX3_readNumber_54 : decode cX3_readNumber 54 = .ok (.isub, 1) := by decide +kernel
theorem dX3_readNumber_55 : decode cX3_readNumber 55 = .ok (.istore_n 2, 1) := by decide +kernel
theorem dX3_readNumber_56 : decode cX3_readNumber 56 = .ok (.aload_n 0, 1) := by decide +kernel
theorem dX3_readNumber_57 : decode cX3_readNumber 57 = .ok (.dup, 1) := by decide +kernel
theorem dX3_readNumber_58 : decode cX3_readNumber 58 = .ok (.getfield 29, 3) := by decide +kernel
theorem dX3_readNumber_61 : decode cX3_readNumber 61 = .ok (.iconst 1, 1) := by decide +kernel
theorem dX3_readNumber_62 : decode cX3_readNumber 62 = .ok (.iadd, 1) := by decide +kernel
theorem dX3_readNumber_63 : decode cX3_readNumber 63 = .ok (.putfield 29, 3) := by decide +kernel
theorem dX3_readNumber_66 : decode cX3_readNumber 66 = .ok (.aload_n 0, 1) := by decide +kernel
theorem dX3_readNumber_67 : decode cX3_readNumber 67 = .ok (.getfield 23, 3) := by decide +kernel
theorem dX3_readNumber_70 : decode cX3_readNumber 70 = .ok (.iconst 3, 1) := by decide +kernel
theorem dX3_readNumber_71 : decode cX3_readNumber 71 = .ok (.if_icmp .ge 23, 3) := by decide +kernel
theorem dX3_readNumber_74 : decode cX3_readNumber 74 = .ok (.aload_n 0, 1) := by decide +kernel
theorem dX3_readNumber_75 : decode cX3_readNumber 75 = .ok (.getfield 15, 3) := by decide +kernel
theorem dX3_readNumber_78 : decode cX3_readNumber 78 = .ok (.aload_n 0, 1) := by decide +kernel
theorem dX3_readNumber_79 : decode cX3_readNumber 79 = .ok (.getfield 23, 3) := by decide +kernel
theorem dX3_readNumber_82 : decode cX3_readNumber 82 = .ok (.iload_n 2, 1) := by decide +kernel
theorem dX3_readNumber_83 : decode cX3_readNumber 83 = .ok (.iastore, 1) := by decide +kernel
theorem dX3_readNumber_84 : decode cX3_readNumber 84 = .ok (.aload_n 0, 1) := by decide +kernel
theorem dX3_readNumber_85 : decode cX3_readNumber 85 = .ok (.dup, 1) := by decide +kernel
theorem dX3_readNumber_86 : decode cX3_readNumber 86 = .ok (.getfield 23, 3) := by decide +kernel
theorem dX3_readNumber_89 : decode cX3_readNumber 89 = .ok (.iconst 1, 1) := by decide +kernel
theorem dX3_readNumber_90 : decode cX3_readNumber 90 = .ok (.iadd, 1) := by decide +kernel
theorem dX3_readNumber_91 : decode cX3_readNumber 91 = .ok (.putfield 23, 3) := by decide +kernel
theorem dX3_readNumber_94 : decode cX3_readNumber 94 = .ok (.return_, 1) := by decide +kernel
theorem dX3_hasAt_0 : decode cX3_hasAt 0 = .ok (.iload_n 1, 1) := by decide +kernel
theorem dX3_hasAt_1 : decode cX3_hasAt 1 = .ok (.aload_n 0, 1) := by decide +kernel
theorem dX3_hasAt_2 : decode cX3_hasAt 2 = .ok (.getfield 19, 3) := by decide +kernel
theorem dX3_hasAt_5 : decode cX3_hasAt 5 = .ok (.if_icmp .ge 17, 3) := by decide +kernel
theorem dX3_hasAt_8 : decode cX3_hasAt 8 = .ok (.aload_n 0, 1) := by decide +kernel
theorem dX3_hasAt_9 : decode cX3_hasAt 9 = .ok (.getfield 9, 3) := by decide +kernel
theorem dX3_hasAt_12 : decode cX3_hasAt 12 = .ok (.iload_n 1, 1) := by decide +kernel
theorem dX3_hasAt_13 : decode cX3_hasAt 13 = .ok (.caload, 1) := by decide +kernel
theorem dX3_hasAt_14 : decode cX3_hasAt 14 = .ok (.iload_n 2, 1) := by decide +kernel
theorem dX3_hasAt_15 : decode cX3_hasAt 15 = .ok (.if_icmp .ne 7, 3) := by decide +kernel
theorem dX3_hasAt_18 : decode cX3_hasAt 18 = .ok (.iconst 1, 1) := by decide +kernel
theorem dX3_hasAt_19 : decode cX3_hasAt 19 = .ok (.goto 4, 3) := by decide +kernel
theorem dX3_hasAt_22 : decode cX3_hasAt 22 = .ok (.iconst 0, 1) := by decide +kernel
theorem dX3_hasAt_23 : decode cX3_hasAt 23 = .ok (.ireturn, 1) := by decide +kernel
theorem dX3_hasDigitAt_0 : decode cX3_hasDigitAt 0 = .ok (.iload_n 1, 1) := by decide +kernel
theorem dX3_hasDigitAt_1 : decode cX3_hasDigitAt 1 = .ok (.aload_n 0, 1) := by decide +kernel
theorem dX3_hasDigitAt_2 : decode cX3_hasDigitAt 2 = .ok (.getfield 19, 3) := by decide +kernel
theorem dX3_hasDigitAt_5 : decode cX3_hasDigitAt 5 = .ok (.if_icmp .ge 29, 3) := by decide +kernel
theorem dX3_hasDigitAt_8 : decode cX3_hasDigitAt 8 = .ok (.aload_n 0, 1) := by decide +kernel
theorem dX3_hasDigitAt_9 : decode cX3_hasDigitAt 9 = .ok (.getfield 9, 3) := by decide +kernel
theorem dX3_hasDigitAt_12 : decode cX3_hasDigitAt 12 = .ok (.iload_n 1, 1) := by decide +kernel
theorem dX3_hasDigitAt_13 : decode cX3_hasDigitAt 13 = .ok (.caload, 1) := by decide +kernel
theorem dX3_hasDigitAt_14 : decode cX3_hasDigitAt 14 = .ok (.bipush 48, 2) := by decide +kernel
theorem dX3_hasDigitAt_16 : decode cX3_hasDigitAt 16 = .ok (.if_icmp .lt 18, 3) := by decide +kernel
theorem dX3_hasDigitAt_19 : decode cX3_hasDigitAt 19 = .ok (.aload_n 0, 1) := by decide +kernel
theorem dX3_hasDigitAt_20 : decode cX3_hasDigitAt 20 = .ok (.getfield 9, 3) := by decide +kernel
theorem dX3_hasDigitAt_23 : decode cX3_hasDigitAt 23 = .ok (.iload_n 1, 1) := by decide +kernel
theorem dX3_hasDigitAt_24 : decode cX3_hasDigitAt 24 = .ok (.caload, 1) := by decide +kernel
theorem dX3_hasDigitAt_25 : decode cX3_hasDigitAt 25 = .ok (.bipush 57, 2) := by decide +kernel
theorem dX3_hasDigitAt_27 : decode cX3_hasDigitAt 27 = .ok (.if_icmp .gt 7, 3) := by decide +kernel
theorem dX3_hasDigitAt_30 : decode cX3_hasDigitAt 30 = .ok (.iconst 1, 1) := by decide +kernel
theorem dX3_hasDigitAt_31 : decode cX3_hasDigitAt 31 = .ok (.goto 4, 3) := by decide +kernel
theorem dX3_hasDigitAt_34 : decode cX3_hasDigitAt 34 = .ok (.iconst 0, 1) := by decide +kernel
theorem dX3_hasDigitAt_35 : decode cX3_hasDigitAt 35 = .ok (.ireturn, 1) := by decide +kernel
set_option maxRecDepth 20000 in
theorem ggX4_init_X5_init : GoodIn wsX4_init wsX5_init := goodIn_r _ [11, 12, 2, 3, 13, 14, 15, 16, 17, 18, 19, 20, 21, 22, 23, 24, 28, 29, 30, 31, 32, 33, 34, 35, 36, 37] (by decide +kernel) (by decide +kernel)
set_option maxRecDepth 20000 in
theorem gX4_init_X5_init_n24 : GoodIn wsX4_init (wsX5_init) := ggX4_init_X5_init
theorem dX4_init_0 : decode cX4_init 0 = .ok (.aload_n 0, 1) := by decide +kernel
theorem dX4_init_1 : decode cX4_init 1 = .ok (.invokespecial 3, 3) := by decide +kernel
theorem dX4_init_4 : decode cX4_init 4 = .ok (.aload_n 0, 1) := by decide +kernel
theorem dX4_init_5 : decode cX4_init 5 = .ok (.bipush 8, 2) := by decide +kernel
theorem dX4_init_7 : decode cX4_init 7 = .ok (.anewarray 9, 3) := by decide +kernel
theorem dX4_init_10 : decode cX4_init 10 = .ok (.putfield 11, 3) := by decide +kernel
theorem dX4_init_13 : decode cX4_init 13 = .ok (.aload_n 0, 1) := by decide +kernel
theorem dX4_init_14 : decode cX4_init 14 = .ok (.iconst 0, 1) := by decide +kernel
theorem dX4_init_15 : decode cX4_init 15 = .ok (.putfield 17, 3) := by decide +kernel
theorem dX4_init_18 : decode cX4_init 18 = .ok (.aload_n 0, 1) := by decide +kernel
theorem dX4_init_19 : decode cX4_init 19 = .ok (.iconst 0, 1) := by decide +kernel
theorem dX4_init_20 : decode cX4_init 20 = .ok (.putfield 21, 3) := by decide +kernel
theorem dX4_init_23 : decode cX4_init 23 = .ok (.iconst 0, 1) := by decide +kernel
theorem dX4_init_24 : decode cX4_init 24 = .ok (.istore_n 1, 1) := by decide +kernel
theorem dX4_init_25 : decode cX4_init 25 = .ok (.iload_n 1, 1) := by decide +kernel
theorem dX4_init_26 : decode cX4_init 26 = .ok (.bipush 8, 2) := by decide +kernel
theorem dX4_init_28 : decode cX4_init 28 = .ok (.if_icmp .ge 22, 3) := by decide +kernel
theorem dX4_init_31 : decode cX4_init 31 = .ok (.aload_n 0, 1) := by decide +kernel
theorem dX4_init_32 : decode cX4_init 32 = .ok (.getfield 11, 3) := by decide +kernel
theorem dX4_init_35 : decode cX4_init 35 = .ok (.iload_n 1, 1) := by decide +kernel
theorem dX4_init_36 : decode cX4_init 36 = .ok (.new 9, 3) := by decide +kernel
theorem dX4_init_39 : decode cX4_init 39 = .ok (.dup, 1) := by decide +kernel
theorem dX4_init_40 : decode cX4_init 40 = .ok (.invokespecial 24, 3) := by decide +kernel
theorem dX4_init_43 : decode cX4_init 43 = .ok (.aastore, 1) := by decide +kernel
theorem dX4_init_44 : decode cX4_init 44 = .ok (.iinc 1 1, 3) := by decide +kernel
theorem dX4_init_47 : decode cX4_init 47 = .ok (.goto (-22), 3) := by decide +kernel
theorem dX4_init_50 : decode cX4_init 50 = .ok (.return_, 1) := by decide +kernel
set_option maxRecDepth 20000 in
theorem ggX4_keep_X5_copyFrom : GoodIn wsX4_keep wsX5_copyFrom := goodIn_ca (goodIn_r _ [12, 13, 14, 15, 16, 17, 18, 19, 20, 21, 22, 23, 24, 25, 26, 30, 31, 32, 33, 34, 35, 36, 37, 38, 39] (by decide +kernel) (by decide +kernel)) (goodIn_sub (fun _ h => List.mem_cons_of_mem _ (List.mem_append_right _ h)) (by decide +kernel))
set_option maxRecDepth 20000 in
theorem gX4_keep_X5_copyFrom : GoodIn wsX4_keep (wsV RX4 25 RX5 yX5_copyFrom wsX5_copyFrom) := goodIn_app (goodIn_of _ (by decide +kernel)) ggX4_keep_X5_copyFrom
theorem dX4_keep_0 : decode cX4_keep 0 = .ok (.aload_n 0, 1) := by decide +kernel
theorem dX4_keep_1 : decode cX4_keep 1 = .ok (.getfield 11, 3) := by decide +kernel
theorem dX4_keep_4 : decode cX4_keep 4 = .ok (.aload_n 0, 1) := by decide +kernel
theorem dX4_keep_5 : decode cX4_keep 5 = .ok (.getfield 17, 3) := by decide +kernel
theorem dX4_keep_8 : decode cX4_keep 8 = .ok (.aaload, 1) := by decide +kernel
theorem dX4_keep_9 : decode cX4_keep 9 = .ok (.aload_n 1, 1) := by decide +kernel
theorem dX4_keep_10 : decode cX4_keep 10 = .ok (.invokevirtual 25, 3) := by decide +kernel
theorem dX4_keep_13 : decode cX4_keep 13 = .ok (.aload_n 0, 1) := by decide +kernel
theorem dX4_keep_14 : decode cX4_keep 14 = .ok (.aload_n 0, 1) := by decide +kernel
theorem dX4_keep_15 : decode cX4_keep 15 = .ok (.getfield 17, 3) := by decide +kernel
theorem dX4_keep_18 : decode cX4_keep 18 = .ok (.iconst 1, 1) := by decide +kernel
theorem dX4_keep_19 : decode cX4_keep 19 = .ok (.iadd, 1) := by decide +kernel
theorem dX4_keep_20 : decode cX4_keep 20 = .ok (.bipush 8, 2) := by decide +kernel
theorem dX4_keep_22 : decode cX4_keep 22 = .ok (.irem, 1) := by decide +kernel
theorem dX4_keep_23 : decode cX4_keep 23 = .ok (.putfield 17, 3) := by decide +kernel
theorem dX4_keep_26 : decode cX4_keep 26 = .ok (.aload_n 0, 1) := by decide +kernel
theorem dX4_keep_27 : decode cX4_keep 27 = .ok (.aload_n 0, 1) := by decide +kernel
theorem dX4_keep_28 : decode cX4_keep 28 = .ok (.getfield 21, 3) := by decide +kernel
theorem dX4_keep_31 : decode cX4_keep 31 = .ok (.iconst 1, 1) := by decide +kernel
theorem dX4_keep_32 : decode cX4_keep 32 = .ok (.iadd, 1) := by decide +kernel
theorem dX4_keep_33 : decode cX4_keep 33 = .ok (.bipush 8, 2) := by decide +kernel
theorem dX4_keep_35 : decode cX4_keep 35 = .ok (.invokestatic 29, 3) := by decide +kernel
theorem dX4_keep_38 : decode cX4_keep 38 = .ok (.putfield 21, 3) := by decide +kernel
theorem dX4_keep_41 : decode cX4_keep 41 = .ok (.return_, 1) := by decide +kernel
set_option maxRecDepth 20000 in
theorem ggX4_bringBack_X5_copyFrom : GoodIn wsX4_bringBack wsX5_copyFrom := goodIn_ca (goodIn_r _ [8, 9, 10, 11, 12, 13, 14, 15, 16, 17, 18, 19, 20, 21, 22, 26, 27, 28, 29, 30, 31, 32, 33, 34, 35] (by decide +kernel) (by decide +kernel)) (goodIn_sub (fun _ h => List.mem_cons_of_mem _ (List.mem_append_right _ h)) (by decide +kernel))
set_option maxRecDepth 20000 in
theorem gX4_bringBack_X5_copyFrom : GoodIn wsX4_bringBack (wsV RX4 25 RX5 yX5_copyFrom wsX5_copyFrom) := goodIn_app (goodIn_of _ (by decide +kernel)) ggX4_bringBack_X5_copyFrom
theorem dX4_bringBack_0 : decode cX4_bringBack 0 = .ok (.aload_n 0, 1) := by decide +kernel
theorem dX4_bringBack_1 : decode cX4_bringBack 1 = .ok (.aload_n 0, 1) := by decide +kernel
theorem dX4_bringBack_2 : decode cX4_bringBack 2 = .ok (.getfield 17, 3) := by decide +kernel
theorem dX4_bringBack_5 : decode cX4_bringBack 5 = .ok (.bipush 8, 2) := by decide +kernel
theorem dX4_bringBack_7 : decode cX4_bringBack 7 = .ok (.iadd, 1) := by decide +kernel
theorem dX4_bringBack_8 : decode cX4_bringBack 8 = .ok (.iconst 1, 1) := by decide +kernel
theorem dX4_bringBack_9 : decode cX4_bringBack 9 = .ok (.isub, 1) := by decide +kernel
theorem dX4_bringBack_10 : decode cX4_bringBack 10 = .ok (.bipush 8, 2) := by decide +kernel
theorem dX4_bringBack_12 : decode cX4_bringBack 12 = .ok (.irem, 1) := by decide +kernel
theorem dX4_bringBack_13 : decode cX4_bringBack 13 = .ok (.putfield 17, 3) := by decide +kernel
theorem dX4_bringBack_16 : decode cX4_bringBack 16 = .ok (.aload_n 1, 1) := by decide +kernel
theorem dX4_bringBack_17 : decode cX4_bringBack 17 = .ok (.aload_n 0, 1) := by decide +kernel
theorem dX4_bringBack_18 : decode cX4_bringBack 18 = .ok (.getfield 11, 3) := by decide +kernel
theorem dX4_bringBack_21 : decode cX4_bringBack 21 = .ok (.aload_n 0, 1) := by decide +kernel
theorem dX4_bringBack_22 : decode cX4_bringBack 22 = .ok (.getfield 17, 3) := by decide +kernel
theorem dX4_bringBack_25 : decode cX4_bringBack 25 = .ok (.aaload, 1) := by decide +kernel
theorem dX4_bringBack_26 : decode cX4_bringBack 26 = .ok (.invokevirtual 25, 3) := by decide +kernel
theorem dX4_bringBack_29 : decode cX4_bringBack 29 = .ok (.aload_n 0, 1) := by decide +kernel
theorem dX4_bringBack_30 : decode cX4_bringBack 30 = .ok (.dup, 1) := by decide +kernel
theorem dX4_bringBack_31 : decode cX4_bringBack 31 = .ok (.getfield 21, 3) := by decide +kernel
theorem dX4_bringBack_34 : decode cX4_bringBack 34 = .ok (.iconst 1, 1) := by decide +kernel
theorem dX4_bringBack_35 : decode cX4_bringBack 35 = .ok (.isub, 1) := by decide +kernel
theorem dX4_bringBack_36 : decode cX4_bringBack 36 = .ok (.putfield 21, 3) := by decide +kernel
theorem dX4_bringBack_39 : decode cX4_bringBack 39 = .ok (.aload_n 0, 1) := by decide +kernel
theorem dX4_bringBack_40 : decode cX4_bringBack 40 = .ok (.getfield 21, 3) := by decide +kernel
theorem dX4_bringBack_43 : decode cX4_bringBack 43 = .ok (.ireturn, 1) := by decide +kernel
theorem dX4_forget_0 : decode cX4_forget 0 = .ok (.aload_n 0, 1) := by decide +kernel
theorem dX4_forget_1 : decode cX4_forget 1 = .ok (.iconst 0, 1) := by decide +kernel
theorem dX4_forget_2 : decode cX4_forget 2 = .ok (.putfield 21, 3) := by decide +kernel
theorem dX4_forget_5 : decode cX4_forget 5 = .ok (.return_, 1) := by decide +kernel
theorem dX5_init_0 : decode cX5_init 0 = .ok (.aload_n 0, 1) := by decide +kernel
theorem dX5_init_1 : decode cX5_init 1 = .ok (.invokespecial 3, 3) := by decide +kernel
theorem dX5_init_4 : decode cX5_init 4 = .ok (.aload_n 0, 1) := by decide +kernel
theorem dX5_init_5 : decode cX5_init 5 = .ok (.bipush 64, 2) := by decide +kernel
theorem dX5_init_7 : decode cX5_init 7 = .ok (.newarray .int, 2) := by decide +kernel
theorem dX5_init_9 : decode cX5_init 9 = .ok (.putfield 9, 3) := by decide +kernel
theorem dX5_init_12 : decode cX5_init 12 = .ok (.aload_n 0, 1) := by decide +kernel
theorem dX5_init_13 : decode cX5_init 13 = .ok (.bipush 8, 2) := by decide +kernel
theorem dX5_init_15 : decode cX5_init 15 = .ok (.newarray .int, 2) := by decide +kernel
theorem dX5_init_17 : decode cX5_init 17 = .ok (.putfield 15, 3) := by decide +kernel
theorem dX5_init_20 : decode cX5_init 20 = .ok (.aload_n 0, 1) := by decide +kernel
theorem dX5_init_21 : decode cX5_init 21 = .ok (.bipush 8, 2) := by decide +kernel
theorem dX5_init_23 : decode cX5_init 23 = .ok (.newarray .int, 2) := by decide +kernel
theorem dX5_init_25 : decode cX5_init 25 = .ok (.putfield 18, 3) := by decide +kernel
theorem dX5_init_28 : decode cX5_init 28 = .ok (.aload_n 0, 1) := by decide +kernel
theorem dX5_init_29 : decode cX5_init 29 = .ok (.bipush 8, 2) := by decide +kernel
theorem dX5_init_31 : decode cX5_init 31 = .ok (.newarray .int, 2) := by decide +kernel
theorem dX5_init_33 : decode cX5_init 33 = .ok (.putfield 21, 3) := by decide +kernel
theorem dX5_init_36 : decode cX5_init 36 = .ok (.aload_n 0, 1) := by decide +kernel
theorem dX5_init_37 : decode cX5_init 37 = .ok (.bipush 8, 2) := by decide +kernel
theorem dX5_init_39 : decode cX5_init 39 = .ok (.newarray .int, 2) := by decide +kernel
theorem dX5_init_41 : decode cX5_init 41 = .ok (.putfield 24, 3) := by decide +kernel
theorem dX5_init_44 : decode cX5_init 44 = .ok (.aload_n 0, 1) := by decide +kernel
theorem dX5_init_45 : decode cX5_init 45 = .ok (.bipush 8, 2) := by decide +kernel
theorem dX5_init_47 : decode cX5_init 47 = .ok (.newarray .boolean, 2) := by decide +kernel
theorem dX5_init_49 : decode cX5_init 49 = .ok (.putfield 27, 3) := by decide +kernel
theorem dX5_init_52 : decode cX5_init 52 = .ok (.aload_n 0, 1) := by decide +kernel
theorem dX5_init_53 : decode cX5_init 53 = .ok (.iconst 0, 1) := by decide +kernel
theorem dX5_init_54 : decode cX5_init 54 = .ok (.putfield 31, 3) := by decide +kernel
theorem dX5_init_57 : decode cX5_init 57 = .ok (.aload_n 0, 1) := by decide +kernel
theorem dX5_init_58 : decode cX5_init 58 = .ok (.bipush 20, 2) := by decide +kernel
theorem dX5_init_60 : decode cX5_init 60 = .ok (.putfield 35, 3) := by decide +kernel
theorem dX5_init_63 : decode cX5_init 63 = .ok (.aload_n 0, 1) := by decide +kernel
theorem dX5_init_64 : decode cX5_init 64 = .ok (.iconst 0, 1) := by decide +kernel
theorem dX5_init_65 : decode cX5_init 65 = .ok (.putfield 38, 3) := by decide +kernel
theorem dX5_init_68 : decode cX5_init 68 = .ok (.aload_n 0, 1) := by decide +kernel
theorem dX5_init_69 : decode cX5_init 69 = .ok (.iconst 0, 1) := by decide +kernel
theorem dX5_init_70 : decode cX5_init 70 = .ok (.putfield 41, 3) := by decide +kernel
theorem dX5_init_73 : decode cX5_init 73 = .ok (.return_, 1) := by decide +kernel
theorem dX5_copyFrom_0 : decode cX5_copyFrom 0 = .ok (.aload_n 1, 1) := by decide +kernel
theorem dX5_copyFrom_1 : decode cX5_copyFrom 1 = .ok (.getfield 9, 3) := by decide +kernel
theorem dX5_copyFrom_4 : decode cX5_copyFrom 4 = .ok (.iconst 0, 1) := by decide +kernel
theorem dX5_copyFrom_5 : decode cX5_copyFrom 5 = .ok (.aload_n 0, 1) := by decide +kernel
theorem dX5_copyFrom_6 : decode cX5_copyFrom 6 = .ok (.getfield 9, 3) := by decide +kernel
theorem dX5_copyFrom_9 : decode cX5_copyFrom 9 = .ok (.iconst 0, 1) := by decide +kernel
theorem dX5_copyFrom_10 : decode cX5_copyFrom 10 = .ok (.bipush 64, 2) := by decide +kernel
theorem dX5_copyFrom_12 : decode cX5_copyFrom 12 = .ok (.invokestatic 44, 3) := by decide +kernel
theorem dX5_copyFrom_15 : decode cX5_copyFrom 15 = .ok (.aload_n 1, 1) := by decide +kernel
theorem dX5_copyFrom_16 : decode cX5_copyFrom 16 = .ok (.getfield 15, 3) := by decide +kernel
theorem dX5_copyFrom_19 : decode cX5_copyFrom 19 = .ok (.iconst 0, 1) := by decide +kernel
theorem dX5_copyFrom_20 : decode cX5_copyFrom 20 = .ok (.aload_n 0, 1) := by decide +kernel
theorem dX5_copyFrom_21 : decode cX5_copyFrom 21 = .ok (.getfield 15, 3) := by decide +kernel
theorem dX5_copyFrom_24 : decode cX5_copyFrom 24 = .ok (.iconst 0, 1) := by decide +kernel
theorem dX5_copyFrom_25 : decode cX5_copyFrom 25 = .ok (.bipush 8, 2) := by decide +kernel
theorem dX5_copyFrom_27 : decode cX5_copyFrom 27 = .ok (.invokestatic 44, 3) := by decide +kernel
theorem dX5_copyFrom_30 : decode cX5_copyFrom 30 = .ok (.aload_n 1, 1) := by decide +kernel
theorem dX5_copyFrom_31 : decode cX5_copyFrom 31 = .ok (.getfield 18, 3) := by decide +kernel
theorem dX5_copyFrom_34 : decode cX5_copyFrom 34 = .ok (.iconst 0, 1) := by decide +kernel
theorem dX5_copyFrom_35 : decode cX5_copyFrom 35 = .ok (.aload_n 0, 1) := by decide +kernel
theorem dX5_copyFrom_36 : decode cX5_copyFrom 36 = .ok (.getfield 18, 3) := by decide +kernel
theorem dX5_copyFrom_39 : decode cX5_copyFrom 39 = .ok (.iconst 0, 1) := by decide +kernel
theorem dX5_copyFrom_40 : decode cX5_copyFrom 40 = .ok (.bipush 8, 2) := by decide +kernel
theorem dX5_copyFrom_42 : decode cX5_copyFrom 42 = .ok (.invokestatic 44, 3) := by decide +kernel
theorem dX5_copyFrom_45 : decode cX5_copyFrom 45 = .ok (.aload_n 1, 1) := by decide +kernel
theorem dX5_copyFrom_46 : decode cX5_copyFrom 46 = .ok (.getfield 21, 3) := by decide +kernel
theorem dX5_copyFrom_49 : decode cX5_copyFrom 49 = .ok (.iconst 0, 1) := by decide +kernel
theorem dX5_copyFrom_50 : decode cX5_copyFrom 50 = .ok (.aload_n 0, 1) := by decide +kernel
theorem dX5_copyFrom_51 : decode cX5_copyFrom 51 = .ok (.getfield 21, 3) := by decide +kernel
theorem dX5_copyFrom_54 : decode cX5_copyFrom 54 = .ok (.iconst 0, 1) := by decide +kernel
theorem dX5_copyFrom_55 : decode cX5_copyFrom 55 = .ok (.bipush 8, 2) := by decide +kernel
theorem dX5_copyFrom_57 : decode cX5_copyFrom 57 = .ok (.invokestatic 44, 3) := by decide +kernel
theorem dX5_copyFrom_60 : decode cX5_copyFrom 60 = .ok (.aload_n 1, 1) := by decide +kernel
theorem dX5_copyFrom_61 : decode cX5_copyFrom 61 = .ok (.getfield 24, 3) := by decide +kernel
theorem dX5_copyFrom_64 : decode cX5_copyFrom 64 = .ok (.iconst 0, 1) := by decide +kernel
theorem dX5_copyFrom_65 : decode cX5_copyFrom 65 = .ok (.aload_n 0, 1) := by decide +kernel
theorem dX5_copyFrom_66 : decode cX5_copyFrom 66 = .ok (.getfield 24, 3) := by decide +kernel
theorem dX5_copyFrom_69 : decode cX5_copyFrom 69 = .ok (.iconst 0, 1) := by decide +kernel
theorem dX5_copyFrom_70 : decode cX5_copyFrom 70 = .ok (.bipush 8, 2) := by decide +kernel
theorem dX5_copyFrom_72 : decode cX5_copyFrom 72 = .ok (.invokestatic 44, 3) := by decide +kernel
theorem dX5_copyFrom_75 : decode cX5_copyFrom 75 = .ok (.iconst 0, 1) := by decide +kernel
theorem dX5_copyFrom_76 : decode cX5_copyFrom 76 = .ok (.istore_n 2, 1) := by decide +kernel
theorem dX5_copyFrom_77 : decode cX5_copyFrom 77 = .ok (.iload_n 2, 1) := by decide +kernel
theorem dX5_copyFrom_78 : decode cX5_copyFrom 78 = .ok (.bipush 8, 2) := by decide +kernel
theorem dX5_copyFrom_80 : decode cX5_copyFrom 80 = .ok (.if_icmp .ge 21, 3) := by decide +kernel
theorem dX5_copyFrom_83 : decode cX5_copyFrom 83 = .ok (.aload_n 0, 1) := by decide +kernel
theorem dX5_copyFrom_84 : decode cX5_copyFrom 84 = .ok (.getfield 27, 3) := by decide +kernel
theorem dX5_copyFrom_87 : decode cX5_copyFrom 87 = .ok (.iload_n 2, 1) := by decide +kernel
theorem dX5_copyFrom_88 : decode cX5_copyFrom 88 = .ok (.aload_n 1, 1) := by decide +kernel
theorem dX5_copyFrom_89 : decode cX5_copyFrom 89 = .ok (.getfield 27, 3) := by decide +kernel
theorem dX5_copyFrom_92 : decode cX5_copyFrom 92 = .ok (.iload_n 2, 1) := by decide +kernel
theorem dX5_copyFrom_93 : decode cX5_copyFrom 93 = .ok (.baload, 1) := by decide +kernel
theorem dX5_copyFrom_94 : decode cX5_copyFrom 94 = .ok (.bastore, 1) := by decide +kernel
theorem dX5_copyFrom_95 : decode cX5_copyFrom 95 = .ok (.iinc 2 1, 3) := by decide +kernel
theorem dX5_copyFrom_98 : decode cX5_copyFrom 98 = .ok (.goto (-21), 3) := by decide +kernel
theorem dX5_copyFrom_101 : decode cX5_copyFrom 101 = .ok (.aload_n 0, 1) := by decide +kernel
theorem dX5_copyFrom_102 : decode cX5_copyFrom 102 = .ok (.aload_n 1, 1) := by decide +kernel
theorem dX5_copyFrom_103 : decode cX5_copyFrom 103 = .ok (.getfield 31, 3) := by decide +kernel
theorem dX5_copyFrom_106 : decode cX5_copyFrom 106 = .ok (.putfield 31, 3) := by decide +kernel
theorem dX5_copyFrom_109 : decode cX5_copyFrom 109 = .ok (.aload_n 0, 1) := by decide +kernel
theorem dX5_copyFrom_110 : decode cX5_copyFrom 110 = .ok (.aload_n 1, 1) := by decide +kernel
theorem dX5_copyFrom_111 : decode cX5_copyFrom 111 = .ok (.getfield 35, 3) := by decide +kernel
theorem dX5_copyFrom_114 : decode cX5_copyFrom 114 = .ok (.putfield 35, 3) := by decide +kernel
theorem dX5_copyFrom_117 : decode cX5_copyFrom 117 = .ok (.aload_n 0, 1) := by decide +kernel
theorem dX5_copyFrom_118 : decode cX5_copyFrom 118 = .ok (.aload_n 1, 1) := by decide +kernel
theorem dX5_copyFrom_119 : decode cX5_copyFrom 119 = .ok (.getfield 38, 3) := by decide +kernel
theorem dX5_copyFrom_122 : decode cX5_copyFrom 122 = .ok (.putfield 38, 3) := by decide +kernel
theorem dX5_copyFrom_125 : decode cX5_copyFrom 125 = .ok (.aload_n 0, 1) := by decide +kernel
theorem dX5_copyFrom_126 : decode cX5_copyFrom 126 = .ok (.aload_n 1, 1) := by decide +kernel
theorem dX5_copyFrom_127 : decode cX5_copyFrom 127 = .ok (.getfield 41, 3) := by decide +kernel
theorem dX5_copyFrom_130 : decode cX5_copyFrom 130 = .ok (.putfield 41, 3) := by decide +kernel
theorem dX5_copyFrom_133 : decode cX5_copyFrom 133 = .ok (.return_, 1) := by decide +kernel
theorem dX5_hasMember_0 : decode cX5_hasMember 0 = .ok (.iload_n 1, 1) := by decide +kernel
theorem dX5_hasMember_1 : decode cX5_hasMember 1 = .ok (.ifCond .lt 15, 3) := by decide +kernel
theorem dX5_hasMember_4 : decode cX5_hasMember 4 = .ok (.iload_n 1, 1) := by decide +kernel
theorem dX5_hasMember_5 : decode cX5_hasMember 5 = .ok (.aload_n 0, 1) := by decide +kernel
theorem dX5_hasMember_6 : decode cX5_hasMember 6 = .ok (.getfield 31, 3) := by decide +kernel
theorem dX5_hasMember_9 : decode cX5_hasMember 9 = .ok (.if_icmp .ge 7, 3) := by decide +kernel
theorem dX5_hasMember_12 : decode cX5_hasMember 12 = .ok (.iconst 1, 1) := by decide +kernel
theorem dX5_hasMember_13 : decode cX5_hasMember 13 = .ok (.goto 4, 3) := by decide +kernel
theorem dX5_hasMember_16 : decode cX5_hasMember 16 = .ok (.iconst 0, 1) := by decide +kernel
theorem dX5_hasMember_17 : decode cX5_hasMember 17 = .ok (.ireturn, 1) := by decide +kernel
theorem dX5_amountOwed_0 : decode cX5_amountOwed 0 = .ok (.aload_n 0, 1) := by decide +kernel
theorem dX5_amountOwed_1 : decode cX5_amountOwed 1 = .ok (.getfield 9, 3) := by decide +kernel
theorem dX5_amountOwed_4 : decode cX5_amountOwed 4 = .ok (.iload_n 1, 1) := by decide +kernel
theorem dX5_amountOwed_5 : decode cX5_amountOwed 5 = .ok (.bipush 8, 2) := by decide +kernel
theorem dX5_amountOwed_7 : decode cX5_amountOwed 7 = .ok (.imul, 1) := by decide +kernel
theorem dX5_amountOwed_8 : decode cX5_amountOwed 8 = .ok (.iload_n 2, 1) := by decide +kernel
theorem dX5_amountOwed_9 : decode cX5_amountOwed 9 = .ok (.iadd, 1) := by decide +kernel
theorem dX5_amountOwed_10 : decode cX5_amountOwed 10 = .ok (.iaload, 1) := by decide +kernel
theorem dX5_amountOwed_11 : decode cX5_amountOwed 11 = .ok (.ireturn, 1) := by decide +kernel
set_option maxRecDepth 20000 in
theorem ggX5_debitOf_X5_amountOwed : GoodIn wsX5_debitOf wsX5_amountOwed := goodIn_ca (goodIn_r _ [5, 6, 7, 8, 9, 10, 11, 12, 13, 14, 15, 16] (by decide +kernel) (by decide +kernel)) (goodIn_sub (fun _ h => List.mem_cons_of_mem _ (List.mem_append_right _ h)) (by decide +kernel))
set_option maxRecDepth 20000 in
theorem gX5_debitOf_X5_amountOwed : GoodIn wsX5_debitOf (wsV RX5 50 RX5 yX5_amountOwed wsX5_amountOwed) := goodIn_app (goodIn_of _ (by decide +kernel)) ggX5_debitOf_X5_amountOwed
theorem dX5_debitOf_0 : decode cX5_debitOf 0 = .ok (.iconst 0, 1) := by decide +kernel
theorem dX5_debitOf_1 : decode cX5_debitOf 1 = .ok (.istore_n 2, 1) := by decide +kernel
theorem dX5_debitOf_2 : decode cX5_debitOf 2 = .ok (.iconst 0, 1) := by decide +kernel
theorem dX5_debitOf_3 : decode cX5_debitOf 3 = .ok (.istore_n 3, 1) := by decide +kernel
theorem dX5_debitOf_4 : decode cX5_debitOf 4 = .ok (.iload_n 3, 1) := by decide +kernel
theorem dX5_debitOf_5 : decode cX5_debitOf 5 = .ok (.bipush 8, 2) := by decide +kernel
theorem dX5_debitOf_7 : decode cX5_debitOf 7 = .ok (.if_icmp .ge 18, 3) := by decide +kernel
theorem dX5_debitOf_10 : decode cX5_debitOf 10 = .ok (.iload_n 2, 1) := by decide +kernel
theorem dX5_debitOf_11 : decode cX5_debitOf 11 = .ok (.aload_n 0, 1) := by decide +kernel
theorem dX5_debitOf_12 : decode cX5_debitOf 12 = .ok (.iload_n 1, 1) := by decide +kernel
theorem dX5_debitOf_13 : decode cX5_debitOf 13 = .ok (.iload_n 3, 1) := by decide +kernel
theorem dX5_debitOf_14 : decode cX5_debitOf 14 = .ok (.invokevirtual 50, 3) := by decide +kernel
theorem dX5_debitOf_17 : decode cX5_debitOf 17 = .ok (.iadd, 1) := by decide +kernel
theorem dX5_debitOf_18 : decode cX5_debitOf 18 = .ok (.istore_n 2, 1) := by decide +kernel
theorem dX5_debitOf_19 : decode cX5_debitOf 19 = .ok (.iinc 3 1, 3) := by decide +kernel
theorem dX5_debitOf_22 : decode cX5_debitOf 22 = .ok (.goto (-18), 3) := by decide +kernel
theorem dX5_debitOf_25 : decode cX5_debitOf 25 = .ok (.iload_n 2, 1) := by decide +kernel
theorem dX5_debitOf_26 : decode cX5_debitOf 26 = .ok (.ireturn, 1) := by decide +kernel
set_option maxRecDepth 20000 in
theorem ggX5_creditOf_X5_amountOwed : GoodIn wsX5_creditOf wsX5_amountOwed := goodIn_ca (goodIn_r _ [5, 6, 7, 8, 9, 10, 11, 12, 13, 14, 15, 16] (by decide +kernel) (by decide +kernel)) (goodIn_sub (fun _ h => List.mem_cons_of_mem _ (List.mem_append_right _ h)) (by decide +kernel))
set_option maxRecDepth 20000 in
theorem gX5_creditOf_X5_amountOwed : GoodIn wsX5_creditOf (wsV RX5 50 RX5 yX5_amountOwed wsX5_amountOwed) := goodIn_app (goodIn_of _ (by decide +kernel)) ggX5_creditOf_X5_amountOwed
theorem dX5_creditOf_0 : decode cX5_creditOf 0 = .ok (.iconst 0, 1) := by decide +kernel
theorem dX5_creditOf_1 : decode cX5_creditOf 1 = .ok (.istore_n 2, 1) := by decide +kernel
theorem dX5_creditOf_2 : decode cX5_creditOf 2 = .ok (.iconst 0, 1) := by decide +kernel
theorem dX5_creditOf_3 : decode cX5_creditOf 3 = .ok (.istore_n 3, 1) := by decide +kernel
theorem dX5_creditOf_4 : decode cX5_creditOf 4 = .ok (.iload_n 3, 1) := by decide +kernel
theorem dX5_creditOf_5 : decode cX5_creditOf 5 = .ok (.bipush 8, 2) := by decide +kernel
theorem dX5_creditOf_7 : decode cX5_creditOf 7 = .ok (.if_icmp .ge 18, 3) := by decide +kernel
theorem dX5_creditOf_10 : decode cX5_creditOf 10 = .ok (.iload_n 2, 1) := by decide +kernel
theorem dX5_creditOf_11 : decode cX5_creditOf 11 = .ok (.aload_n 0, 1) := by decide +kernel
theorem dX5_creditOf_12 : decode cX5_creditOf 12 = .ok (.iload_n 3, 1) := by decide +kernel
theorem dX5_creditOf_13 : decode cX5_creditOf 13 = .ok (.iload_n 1, 1) := by decide +kernel
theorem dX5_creditOf_14 : decode cX5_creditOf 14 = .ok (.invokevirtual 50, 3) := by decide +kernel
theorem dX5_creditOf_17 : decode cX5_creditOf 17 = .ok (.iadd, 1) := by decide +kernel
theorem dX5_creditOf_18 : decode cX5_creditOf 18 = .ok (.istore_n 2, 1) := by decide +kernel
theorem dX5_creditOf_19 : decode cX5_creditOf 19 = .ok (.iinc 3 1, 3) := by decide +kernel
theorem dX5_creditOf_22 : decode cX5_creditOf 22 = .ok (.goto (-18), 3) := by decide +kernel
theorem dX5_creditOf_25 : decode cX5_creditOf 25 = .ok (.iload_n 2, 1) := by decide +kernel
theorem dX5_creditOf_26 : decode cX5_creditOf 26 = .ok (.ireturn, 1) := by decide +kernel
set_option maxRecDepth 20000 in
theorem ggX5_positionOf_X5_creditOf : GoodIn wsX5_positionOf wsX5_creditOf := goodIn_ca (goodIn_r _ [5, 6, 7, 8, 4, 9, 10, 15, 16, 17, 18, 19, 20, 21, 22, 23, 24] (by decide +kernel) (by decide +kernel)) (goodIn_sub (fun _ h => List.mem_cons_of_mem _ (List.mem_append_right _ h)) (by decide +kernel))
set_option maxRecDepth 20000 in
theorem gX5_positionOf_X5_creditOf : GoodIn wsX5_positionOf (wsV RX5 54 RX5 yX5_creditOf wsX5_creditOf) := goodIn_app (goodIn_of _ (by decide +kernel)) ggX5_positionOf_X5_creditOf
set_option maxRecDepth 20000 in
theorem ggX5_positionOf_X5_debitOf : GoodIn wsX5_positionOf wsX5_debitOf := goodIn_ca (goodIn_r _ [14, 6, 7, 8, 4, 9, 10, 15, 16, 17, 18, 19, 20, 21, 22, 23, 24] (by decide +kernel) (by decide +kernel)) (goodIn_sub (fun _ h => List.mem_cons_of_mem _ (List.mem_append_right _ h)) (by decide +kernel))
set_option maxRecDepth 20000 in
theorem gX5_positionOf_X5_debitOf : GoodIn wsX5_positionOf (wsV RX5 58 RX5 yX5_debitOf wsX5_debitOf) := goodIn_app (goodIn_of _ (by decide +kernel)) ggX5_positionOf_X5_debitOf
theorem dX5_positionOf_0 : decode cX5_positionOf 0 = .ok (.aload_n 0, 1) := by decide +kernel
theorem dX5_positionOf_1 : decode cX5_positionOf 1 = .ok (.iload_n 1, 1) := by decide +kernel
theorem dX5_positionOf_2 : decode cX5_positionOf 2 = .ok (.invokevirtual 54, 3) := by decide +kernel
theorem dX5_positionOf_5 : decode cX5_positionOf 5 = .ok (.aload_n 0, 1) := by decide +kernel
theorem dX5_positionOf_6 : decode cX5_positionOf 6 = .ok (.iload_n 1, 1) := by decide +kernel
theorem dX5_positionOf_7 : decode cX5_positionOf 7 = .ok (.invokevirtual 58, 3) := by decide +kernel
theorem dX5_positionOf_10 : decode cX5_positionOf 10 = .ok (.isub, 1) := by decide +kernel
theorem dX5_positionOf_11 : decode cX5_positionOf 11 = .ok (.ireturn, 1) := by decide +kernel
theorem dX5_coverOf_0 : decode cX5_coverOf 0 = .ok (.aload_n 0, 1) := by decide +kernel
theorem dX5_coverOf_1 : decode cX5_coverOf 1 = .ok (.getfield 18, 3) := by decide +kernel
theorem dX5_coverOf_4 : decode cX5_coverOf 4 = .ok (.iload_n 1, 1) := by decide +kernel
theorem dX5_coverOf_5 : decode cX5_coverOf 5 = .ok (.iaload, 1) := by decide +kernel
theorem dX5_coverOf_6 : decode cX5_coverOf 6 = .ok (.bipush 100, 2) := by decide +kernel
theorem dX5_coverOf_8 : decode cX5_coverOf 8 = .ok (.aload_n 0, 1) := by decide +kernel
theorem dX5_coverOf_9 : decode cX5_coverOf 9 = .ok (.getfield 35, 3) := by decide +kernel
theorem dX5_coverOf_12 : decode cX5_coverOf 12 = .ok (.isub, 1) := by decide +kernel
theorem dX5_coverOf_13 : decode cX5_coverOf 13 = .ok (.imul, 1) := by decide +kernel
theorem dX5_coverOf_14 : decode cX5_coverOf 14 = .ok (.bipush 100, 2) := by decide +kernel
theorem dX5_coverOf_16 : decode cX5_coverOf 16 = .ok (.idiv, 1) := by decide +kernel
theorem dX5_coverOf_17 : decode cX5_coverOf 17 = .ok (.ireturn, 1) := by decide +kernel
set_option maxRecDepth 20000 in
theorem ggX5_meansOf_X5_coverOf : GoodIn wsX5_meansOf wsX5_coverOf := goodIn_ca (goodIn_r _ [6, 7, 8, 9, 10, 11, 12, 13, 14, 15, 16, 17, 18] (by decide +kernel) (by decide +kernel)) (goodIn_sub (fun _ h => List.mem_cons_of_mem _ (List.mem_append_right _ h)) (by decide +kernel))
set_option maxRecDepth 20000 in
theorem gX5_meansOf_X5_coverOf : GoodIn wsX5_meansOf (wsV RX5 61 RX5 yX5_coverOf wsX5_coverOf) := goodIn_app (goodIn_of _ (by decide +kernel)) ggX5_meansOf_X5_coverOf
theorem dX5_meansOf_0 : decode cX5_meansOf 0 = .ok (.aload_n 0, 1) := by decide +kernel
theorem dX5_meansOf_1 : decode cX5_meansOf 1 = .ok (.getfield 15, 3) := by decide +kernel
theorem dX5_meansOf_4 : decode cX5_meansOf 4 = .ok (.iload_n 1, 1) := by decide +kernel
theorem dX5_meansOf_5 : decode cX5_meansOf 5 = .ok (.iaload, 1) := by decide +kernel
theorem dX5_meansOf_6 : decode cX5_meansOf 6 = .ok (.aload_n 0, 1) := by decide +kernel
theorem dX5_meansOf_7 : decode cX5_meansOf 7 = .ok (.iload_n 1, 1) := by decide +kernel
theorem dX5_meansOf_8 : decode cX5_meansOf 8 = .ok (.invokevirtual 61, 3) := by decide +kernel
theorem dX5_meansOf_11 : decode cX5_meansOf 11 = .ok (.iadd, 1) := by decide +kernel
theorem dX5_meansOf_12 : decode cX5_meansOf 12 = .ok (.ireturn, 1) := by decide +kernel
set_option maxRecDepth 20000 in
theorem ggX5_lossOf_X5_debitOf : GoodIn wsX5_lossOf wsX5_debitOf := goodIn_ca (goodIn_r _ [5, 6, 7, 8, 4, 9, 10, 22, 23, 24, 25, 26, 27, 28, 29, 30, 31] (by decide +kernel) (by decide +kernel)) (goodIn_sub (fun _ h => List.mem_cons_of_mem _ (List.mem_append_right _ h)) (by decide +kernel))
set_option maxRecDepth 20000 in
theorem gX5_lossOf_X5_debitOf : GoodIn wsX5_lossOf (wsV RX5 58 RX5 yX5_debitOf wsX5_debitOf) := goodIn_app (goodIn_of _ (by decide +kernel)) ggX5_lossOf_X5_debitOf
set_option maxRecDepth 20000 in
theorem ggX5_lossOf_X5_meansOf : GoodIn wsX5_lossOf wsX5_meansOf := goodIn_ca (goodIn_r _ [14, 15, 16, 17, 18, 4, 19, 20, 21, 22, 23, 24, 25, 26, 27, 28, 29, 30, 31] (by decide +kernel) (by decide +kernel)) (goodIn_sub (fun _ h => List.mem_cons_of_mem _ (List.mem_append_right _ h)) (by decide +kernel))
set_option maxRecDepth 20000 in
theorem gX5_lossOf_X5_meansOf : GoodIn wsX5_lossOf (wsV RX5 64 RX5 yX5_meansOf wsX5_meansOf) := goodIn_app (goodIn_of _ (by decide +kernel)) ggX5_lossOf_X5_meansOf
theorem dX5_lossOf_0 : decode cX5_lossOf 0 = .ok (.aload_n 0, 1) := by decide +kernel
theorem dX5_lossOf_1 : decode cX5_lossOf 1 = .ok (.iload_n 1, 1) := by decide +kernel
theorem dX5_lossOf_2 : decode cX5_lossOf 2 = .ok (.invokevirtual 58, 3) := by decide +kernel
theorem dX5_lossOf_5 : decode cX5_lossOf 5 = .ok (.aload_n 0, 1) := by decide +kernel
theorem dX5_lossOf_6 : decode cX5_lossOf 6 = .ok (.iload_n 1, 1) := by decide +kernel
theorem dX5_lossOf_7 : decode cX5_lossOf 7 = .ok (.invokevirtual 64, 3) := by decide +kernel
theorem dX5_lossOf_10 : decode cX5_lossOf 10 = .ok (.isub, 1) := by decide +kernel
theorem dX5_lossOf_11 : decode cX5_lossOf 11 = .ok (.ireturn, 1) := by decide +kernel
theorem dX5_countDebts_0 : decode cX5_countDebts 0 = .ok (.iconst 0, 1) := by decide +kernel
theorem dX5_countDebts_1 : decode cX5_countDebts 1 = .ok (.istore_n 1, 1) := by decide +kernel
theorem dX5_countDebts_2 : decode cX5_countDebts 2 = .ok (.iconst 0, 1) := by decide +kernel
theorem dX5_countDebts_3 : decode cX5_countDebts 3 = .ok (.istore_n 2, 1) := by decide +kernel
theorem dX5_countDebts_4 : decode cX5_countDebts 4 = .ok (.iload_n 2, 1) := by decide +kernel
theorem dX5_countDebts_5 : decode cX5_countDebts 5 = .ok (.aload_n 0, 1) := by decide +kernel
theorem dX5_countDebts_6 : decode cX5_countDebts 6 = .ok (.getfield 9, 3) := by decide +kernel
theorem dX5_countDebts_9 : decode cX5_countDebts 9 = .ok (.arraylength, 1) := by decide +kernel
theorem dX5_countDebts_10 : decode cX5_countDebts 10 = .ok (.if_icmp .ge 21, 3) := by decide +kernel
theorem dX5_countDebts_13 : decode cX5_countDebts 13 = .ok (.aload_n 0, 1) := by decide +kernel
theorem dX5_countDebts_14 : decode cX5_countDebts 14 = .ok (.getfield 9, 3) := by decide +kernel
theorem dX5_countDebts_17 : decode cX5_countDebts 17 = .ok (.iload_n 2, 1) := by decide +kernel
theorem dX5_countDebts_18 : decode cX5_countDebts 18 = .ok (.iaload, 1) := by decide +kernel
theorem dX5_countDebts_19 : decode cX5_countDebts 19 = .ok (.ifCond .le 6, 3) := by decide +kernel
theorem dX5_countDebts_22 : decode cX5_countDebts 22 = .ok (.iinc 1 1, 3) := by decide +kernel
theorem dX5_countDebts_25 : decode cX5_countDebts 25 = .ok (.iinc 2 1, 3) := by decide +kernel
theorem dX5_countDebts_28 : decode cX5_countDebts 28 = .ok (.goto (-24), 3) := by decide +kernel
theorem dX5_countDebts_31 : decode cX5_countDebts 31 = .ok (.iload_n 1, 1) := by decide +kernel
theorem dX5_countDebts_32 : decode cX5_countDebts 32 = .ok (.ireturn, 1) := by decide +kernel
theorem dX5_placeOfLargestDebt_0 : decode cX5_placeOfLargestDebt 0 = .ok (.iconst 0, 1) := by decide +kernel
theorem dX5_placeOfLargestDebt_1 : decode cX5_placeOfLargestDebt 1 = .ok (.istore_n 1, 1) := by decide +kernel
theorem dX5_placeOfLargestDebt_2 : decode cX5_placeOfLargestDebt 2 = .ok (.iconst (-1), 1) := by decide +kernel
theorem dX5_placeOfLargestDebt_3 : decode cX5_placeOfLargestDebt 3 = .ok (.istore_n 2, 1) := by decide +kernel
theorem dX5_placeOfLargestDebt_4 : decode cX5_placeOfLargestDebt 4 = .ok (.iconst 0, 1) := by decide +kernel
theorem dX5_placeOfLargestDebt_5 : decode cX5_placeOfLargestDebt 5 = .ok (.istore_n 3, 1) := by decide +kernel
theorem dX5_placeOfLargestDebt_6 : decode cX5_placeOfLargestDebt 6 = .ok (.iload_n 3, 1) := by decide +kernel
theorem dX5_placeOfLargestDebt_7 : decode cX5_placeOfLargestDebt 7 = .ok (.aload_n 0, 1) := by decide +kernel
theorem dX5_placeOfLargestDebt_8 : decode cX5_placeOfLargestDebt 8 = .ok (.getfield 9, 3) := by decide +kernel
theorem dX5_placeOfLargestDebt_11 : decode cX5_placeOfLargestDebt 11 = .ok (.arraylength, 1) := by decide +kernel
theorem dX5_placeOfLargestDebt_12 : decode cX5_placeOfLargestDebt 12 = .ok (.if_icmp .ge 28, 3) := by decide +kernel
theorem dX5_placeOfLargestDebt_15 : decode cX5_placeOfLargestDebt 15 = .ok (.aload_n 0, 1) := by decide +kernel
theorem dX5_placeOfLargestDebt_16 : decode cX5_placeOfLargestDebt 16 = .ok (.getfield 9, 3) := by decide +kernel
theorem dX5_placeOfLargestDebt_19 : decode cX5_placeOfLargestDebt 19 = .ok (.iload_n 3, 1) := by decide +kernel
theorem dX5_placeOfLargestDebt_20 : decode cX5_placeOfLargestDebt 20 = .ok (.iaload, 1) := by decide +kernel
theorem dX5_placeOfLargestDebt_21 : decode cX5_placeOfLargestDebt 21 = .ok (.iload_n 1, 1) := by decide +kernel
theorem dX5_placeOfLargestDebt_22 : decode cX5_placeOfLargestDebt 22 = .ok (.if_icmp .le 12, 3) := by decide +kernel
theorem dX5_placeOfLargestDebt_25 : decode cX5_placeOfLargestDebt 25 = .ok (.aload_n 0, 1) := by decide +kernel
theorem dX5_placeOfLargestDebt_26 : decode cX5_placeOfLargestDebt 26 = .ok (.getfield 9, 3) := by decide +kernel
theorem dX5_placeOfLargestDebt_29 : decode cX5_placeOfLargestDebt 29 = .ok (.iload_n 3, 1) := by decide +kernel
theorem dX5_placeOfLargestDebt_30 : decode cX5_placeOfLargestDebt 30 = .ok (.iaload, 1) := by decide +kernel
theorem dX5_placeOfLargestDebt_31 : decode cX5_placeOfLargestDebt 31 = .ok (.istore_n 1, 1) := by decide +kernel
theorem dX5_placeOfLargestDebt_32 : decode cX5_placeOfLargestDebt 32 = .ok (.iload_n 3, 1) := by decide +kernel
theorem dX5_placeOfLargestDebt_33 : decode cX5_placeOfLargestDebt 33 = .ok (.istore_n 2, 1) := by decide +kernel
theorem dX5_placeOfLargestDebt_34 : decode cX5_placeOfLargestDebt 34 = .ok (.iinc 3 1, 3) := by decide +kernel
theorem dX5_placeOfLargestDebt_37 : decode cX5_placeOfLargestDebt 37 = .ok (.goto (-31), 3) := by decide +kernel
theorem dX5_placeOfLargestDebt_40 : decode cX5_placeOfLargestDebt 40 = .ok (.iload_n 2, 1) := by decide +kernel
theorem dX5_placeOfLargestDebt_41 : decode cX5_placeOfLargestDebt 41 = .ok (.ireturn, 1) := by decide +kernel
set_option maxRecDepth 20000 in
theorem ggX5_sumOfAbsolutePositions_X5_positionOf : GoodIn wsX5_sumOfAbsolutePositions wsX5_positionOf := goodIn_ca (goodIn_r _ [10, 11, 12, 13, 9, 14, 15, 16, 17, 18, 19, 20, 21, 22, 23, 24, 25, 26, 27, 28, 29, 30, 31, 32, 33] (by decide +kernel) (by decide +kernel)) (goodIn_sub (fun _ h => List.mem_cons_of_mem _ (List.mem_append_right _ h)) (by decide +kernel))
set_option maxRecDepth 20000 in
theorem gX5_sumOfAbsolutePositions_X5_positionOf : GoodIn wsX5_sumOfAbsolutePositions (wsV RX5 67 RX5 yX5_positionOf wsX5_positionOf) := goodIn_app (goodIn_of _ (by decide +kernel)) ggX5_sumOfAbsolutePositions_X5_positionOf
theorem dX5_sumOfAbsolutePositions_0 : decode cX5_sumOfAbsolutePositions 0 = .ok (.iconst 0, 1) := by decide +kernel
theorem dX5_sumOfAbsolutePositions_1 : decode cX5_sumOfAbsolutePositions 1 = .ok (.istore_n 1, 1) := by decide +kernel
theorem dX5_sumOfAbsolutePositions_2 : decode cX5_sumOfAbsolutePositions 2 = .ok (.iconst 0, 1) := by decide +kernel
theorem dX5_sumOfAbsolutePositions_3 : decode cX5_sumOfAbsolutePositions 3 = .ok (.istore_n 2, 1) := by decide +kernel
theorem dX5_sumOfAbsolutePositions_4 : decode cX5_sumOfAbsolutePositions 4 = .ok (.iload_n 2, 1) := by decide +kernel
theorem dX5_sumOfAbsolutePositions_5 : decode cX5_sumOfAbsolutePositions 5 = .ok (.aload_n 0, 1) := by decide +kernel
theorem dX5_sumOfAbsolutePositions_6 : decode cX5_sumOfAbsolutePositions 6 = .ok (.getfield 31, 3) := by decide +kernel
theorem dX5_sumOfAbsolutePositions_9 : decode cX5_sumOfAbsolutePositions 9 = .ok (.if_icmp .ge 20, 3) := by decide +kernel
theorem dX5_sumOfAbsolutePositions_12 : decode cX5_sumOfAbsolutePositions 12 = .ok (.iload_n 1, 1) := by decide +kernel
theorem dX5_sumOfAbsolutePositions_13 : decode cX5_sumOfAbsolutePositions 13 = .ok (.aload_n 0, 1) := by decide +kernel
theorem dX5_sumOfAbsolutePositions_14 : decode cX5_sumOfAbsolutePositions 14 = .ok (.iload_n 2, 1) := by decide +kernel
theorem dX5_sumOfAbsolutePositions_15 : decode cX5_sumOfAbsolutePositions 15 = .ok (.invokevirtual 67, 3) := by decide +kernel
theorem dX5_sumOfAbsolutePositions_18 : decode cX5_sumOfAbsolutePositions 18 = .ok (.invokestatic 70, 3) := by decide +kernel
theorem dX5_sumOfAbsolutePositions_21 : decode cX5_sumOfAbsolutePositions 21 = .ok (.iadd, 1) := by decide +kernel
theorem dX5_sumOfAbsolutePositions_22 : decode cX5_sumOfAbsolutePositions 22 = .ok (.istore_n 1, 1) := by decide +kernel
theorem dX5_sumOfAbsolutePositions_23 : decode cX5_sumOfAbsolutePositions 23 = .ok (.iinc 2 1, 3) := by decide +kernel
theorem dX5_sumOfAbsolutePositions_26 : decode cX5_sumOfAbsolutePositions 26 = .ok (.goto (-22), 3) := by decide +kernel
theorem dX5_sumOfAbsolutePositions_29 : decode cX5_sumOfAbsolutePositions 29 = .ok (.iload_n 1, 1) := by decide +kernel
theorem dX5_sumOfAbsolutePositions_30 : decode cX5_sumOfAbsolutePositions 30 = .ok (.ireturn, 1) := by decide +kernel
set_option maxRecDepth 20000 in
theorem ggX5_memberAtRank_X5_countAhead : GoodIn wsX5_memberAtRank wsX5_countAhead := goodIn_ca (goodIn_r _ [6, 1, 7, 8, 9, 5, 10, 11, 12, 13, 14, 15, 16, 17, 18, 19, 20, 21, 22, 23, 24, 25, 26, 27, 28, 29, 30, 31, 32, 33, 34, 35, 36, 37, 38, 39, 40, 41, 42] (by decide +kernel) (by decide +kernel)) (goodIn_sub (fun _ h => List.mem_cons_of_mem _ (List.mem_append_right _ h)) (by decide +kernel))
set_option maxRecDepth 20000 in
theorem gX5_memberAtRank_X5_countAhead : GoodIn wsX5_memberAtRank (wsV RX5 75 RX5 yX5_countAhead wsX5_countAhead) := goodIn_app (goodIn_of _ (by decide +kernel)) ggX5_memberAtRank_X5_countAhead
theorem dX5_memberAtRank_0 : decode cX5_memberAtRank 0 = .ok (.iconst 0, 1) := by decide +kernel
theorem dX5_memberAtRank_1 : decode cX5_memberAtRank 1 = .ok (.istore_n 2, 1) := by decide +kernel
theorem dX5_memberAtRank_2 : decode cX5_memberAtRank 2 = .ok (.iload_n 2, 1) := by decide +kernel
theorem dX5_memberAtRank_3 : decode cX5_memberAtRank 3 = .ok (.aload_n 0, 1) := by decide +kernel
theorem dX5_memberAtRank_4 : decode cX5_memberAtRank 4 = .ok (.getfield 31, 3) := by decide +kernel
theorem dX5_memberAtRank_7 : decode cX5_memberAtRank 7 = .ok (.if_icmp .ge 20, 3) := by decide +kernel
theorem dX5_memberAtRank_10 : decode cX5_memberAtRank 10 = .ok (.aload_n 0, 1) := by decide +kernel
theorem dX5_memberAtRank_11 : decode cX5_memberAtRank 11 = .ok (.iload_n 2, 1) := by decide +kernel
theorem dX5_memberAtRank_12 : decode cX5_memberAtRank 12 = .ok (.invokevirtual 75, 3) := by decide +kernel
theorem dX5_memberAtRank_15 : decode cX5_memberAtRank 15 = .ok (.iload_n 1, 1) := by decide +kernel
theorem dX5_memberAtRank_16 : decode cX5_memberAtRank 16 = .ok (.if_icmp .ne 5, 3) := by decide +kernel
theorem dX5_memberAtRank_19 : decode cX5_memberAtRank 19 = .ok (.iload_n 2, 1) := by decide +kernel
theorem dX5_memberAtRank_20 : decode cX5_memberAtRank 20 = .ok (.ireturn, 1) := by decide +kernel
theorem dX5_memberAtRank_21 : decode cX5_memberAtRank 21 = .ok (.iinc 2 1, 3) := by decide +kernel
theorem dX5_memberAtRank_24 : decode cX5_memberAtRank 24 = .ok (.goto (-22), 3) := by decide +kernel
theorem dX5_memberAtRank_27 : decode cX5_memberAtRank 27 = .ok (.iconst (-1), 1) := by decide +kernel
theorem dX5_memberAtRank_28 : decode cX5_memberAtRank 28 = .ok (.ireturn, 1) := by decide +kernel
set_option maxRecDepth 20000 in
theorem ggX5_countAhead_X5_isAhead : GoodIn wsX5_countAhead wsX5_isAhead := goodIn_ca (goodIn_r _ [6, 7, 8, 9, 10, 5, 11, 12, 13, 14, 15, 16, 17, 18, 19, 20, 21, 22, 23, 24, 25, 26, 27, 28, 29, 30, 31, 32, 33, 34, 35, 36, 37, 38] (by decide +kernel) (by decide +kernel)) (goodIn_sub (fun _ h => List.mem_cons_of_mem _ (List.mem_append_right _ h)) (by decide +kernel))
set_option maxRecDepth 20000 in
theorem gX5_countAhead_X5_isAhead : GoodIn wsX5_countAhead (wsV RX5 78 RX5 yX5_isAhead wsX5_isAhead) := goodIn_app (goodIn_of _ (by decide +kernel)) ggX5_countAhead_X5_isAhead
theorem dX5_countAhead_0 : decode cX5_countAhead 0 = .ok (.iconst 0, 1) := by decide +kernel
theorem dX5_countAhead_1 : decode cX5_countAhead 1 = .ok (.istore_n 2, 1) := by decide +kernel
theorem dX5_countAhead_2 : decode cX5_countAhead 2 = .ok (.iconst 0, 1) := by decide +kernel
theorem dX5_countAhead_3 : decode cX5_countAhead 3 = .ok (.istore_n 3, 1) := by decide +kernel
theorem dX5_countAhead_4 : decode cX5_countAhead 4 = .ok (.iload_n 3, 1) := by decide +kernel
theorem dX5_countAhead_5 : decode cX5_countAhead 5 = .ok (.aload_n 0, 1) := by decide +kernel
theorem dX5_countAhead_6 : decode cX5_countAhead 6 = .ok (.getfield 31, 3) := by decide +kernel
theorem dX5_countAhead_9 : decode cX5_countAhead 9 = .ok (.if_icmp .ge 21, 3) := by decide +kernel
theorem dX5_countAhead_12 : decode cX5_countAhead 12 = .ok (.aload_n 0, 1) := by decide +kernel
theorem dX5_countAhead_13 : decode cX5_countAhead 13 = .ok (.iload_n 3, 1) := by decide +kernel
theorem dX5_countAhead_14 : decode cX5_countAhead 14 = .ok (.iload_n 1, 1) := by decide +kernel
theorem dX5_countAhead_15 : decode cX5_countAhead 15 = .ok (.invokevirtual 78, 3) := by decide +kernel
theorem dX5_countAhead_18 : decode cX5_countAhead 18 = .ok (.ifCond .eq 6, 3) := by decide +kernel
theorem dX5_countAhead_21 : decode cX5_countAhead 21 = .ok (.iinc 2 1, 3) := by decide +kernel
theorem dX5_countAhead_24 : decode cX5_countAhead 24 = .ok (.iinc 3 1, 3) := by decide +kernel
theorem dX5_countAhead_27 : decode cX5_countAhead 27 = .ok (.goto (-23), 3) := by decide +kernel
theorem dX5_countAhead_30 : decode cX5_countAhead 30 = .ok (.iload_n 2, 1) := by decide +kernel
theorem dX5_countAhead_31 : decode cX5_countAhead 31 = .ok (.ireturn, 1) := by decide +kernel
set_option maxRecDepth 20000 in
theorem ggX5_isAhead_X5_positionOf : GoodIn wsX5_isAhead wsX5_positionOf := goodIn_ca (goodIn_r _ [6, 7, 8, 9, 5, 10, 11, 12, 13, 14, 15, 16, 17, 18, 19, 24, 25, 26, 27, 28, 29, 30, 31, 32, 33] (by decide +kernel) (by decide +kernel)) (goodIn_sub (fun _ h => List.mem_cons_of_mem _ (List.mem_append_right _ h)) (by decide +kernel))
set_option maxRecDepth 20000 in
theorem gX5_isAhead_X5_positionOf : GoodIn wsX5_isAhead (wsV RX5 67 RX5 yX5_positionOf wsX5_positionOf) := goodIn_app (goodIn_of _ (by decide +kernel)) ggX5_isAhead_X5_positionOf
set_option maxRecDepth 20000 in
theorem ggX5_isAhead_J6_compare_7cf53 : GoodIn wsX5_isAhead wsJ6_compare_7cf53 := goodIn_r _ [23] (by decide +kernel) (by decide +kernel)
set_option maxRecDepth 20000 in
theorem gX5_isAhead_J6_compare_7cf53 : GoodIn wsX5_isAhead (va_wsS RX5 82 yJ6_compare_7cf53 wsJ6_compare_7cf53) := goodIn_app (goodIn_of _ (by decide +kernel)) ggX5_isAhead_J6_compare_7cf53
theorem dX5_isAhead_0 : decode cX5_isAhead 0 = .ok (.aload_n 0, 1) := by decide +kernel
theorem dX5_isAhead_1 : decode cX5_isAhead 1 = .ok (.iload_n 1, 1) := by decide +kernel
theorem dX5_isAhead_2 : decode cX5_isAhead 2 = .ok (.invokevirtual 67, 3) := by decide +kernel
theorem dX5_isAhead_5 : decode cX5_isAhead 5 = .ok (.aload_n 0, 1) := by decide +kernel
theorem dX5_isAhead_6 : decode cX5_isAhead 6 = .ok (.iload_n 2, 1) := by decide +kernel
theorem dX5_isAhead_7 : decode cX5_isAhead 7 = .ok (.invokevirtual 67, 3) := by decide +kernel
theorem dX5_isAhead_10 : decode cX5_isAhead 10 = .ok (.invokestatic 82, 3) := by decide +kernel
theorem dX5_isAhead_13 : decode cX5_isAhead 13 = .ok (.istore_n 3, 1) := by decide +kernel
theorem dX5_isAhead_14 : decode cX5_isAhead 14 = .ok (.iload_n 3, 1) := by decide +kernel
theorem dX5_isAhead_15 : decode cX5_isAhead 15 = .ok (.ifCond .eq 13, 3) := by decide +kernel
theorem dX5_isAhead_18 : decode cX5_isAhead 18 = .ok (.iload_n 3, 1) := by decide +kernel
theorem dX5_isAhead_19 : decode cX5_isAhead 19 = .ok (.ifCond .le 7, 3) := by decide +kernel
theorem dX5_isAhead_22 : decode cX5_isAhead 22 = .ok (.iconst 1, 1) := by decide +kernel
theorem dX5_isAhead_23 : decode cX5_isAhead 23 = .ok (.goto 4, 3) := by decide +kernel
theorem dX5_isAhead_26 : decode cX5_isAhead 26 = .ok (.iconst 0, 1) := by decide +kernel
theorem dX5_isAhead_27 : decode cX5_isAhead 27 = .ok (.ireturn, 1) := by decide +kernel
theorem dX5_isAhead_28 : decode cX5_isAhead 28 = .ok (.aload_n 0, 1) := by decide +kernel
theorem dX5_isAhead_29 : decode cX5_isAhead 29 = .ok (.getfield 15, 3) := by decide +kernel
theorem dX5_isAhead_32 : decode cX5_isAhead 32 = .ok (.iload_n 1, 1) := by decide +kernel
theorem dX5_isAhead_33 : decode cX5_isAhead 33 = .ok (.iaload, 1) := by decide +kernel
theorem dX5_isAhead_34 : decode cX5_isAhead 34 = .ok (.aload_n 0, 1) := by decide +kernel
theorem dX5_isAhead_35 : decode cX5_isAhead 35 = .ok (.getfield 15, 3) := by decide +kernel
theorem dX5_isAhead_38 : decode cX5_isAhead 38 = .ok (.iload_n 2, 1) := by decide +kernel
theorem dX5_isAhead_39 : decode cX5_isAhead 39 = .ok (.iaload, 1) := by decide +kernel
theorem dX5_isAhead_40 : decode cX5_isAhead 40 = .ok (.if_icmp .eq 24, 3) := by decide +kernel
theorem dX5_isAhead_43 : decode cX5_isAhead 43 = .ok (.aload_n 0, 1) := by decide +kernel
theorem dX5_isAhead_44 : decode cX5_isAhead 44 = .ok (.getfield 15, 3) := by decide +kernel
theorem dX5_isAhead_47 : decode cX5_isAhead 47 = .ok (.iload_n 1, 1) := by decide +kernel
theorem dX5_isAhead_48 : decode cX5_isAhead 48 = .ok (.iaload, 1) := by decide +kernel
theorem dX5_isAhead_49 : decode cX5_isAhead 49 = .ok (.aload_n 0, 1) := by decide +kernel
theorem dX5_isAhead_50 : decode cX5_isAhead 50 = .ok (.getfield 15, 3) := by decide +kernel
theorem dX5_isAhead_53 : decode cX5_isAhead 53 = .ok (.iload_n 2, 1) := by decide +kernel
theorem dX5_isAhead_54 : decode cX5_isAhead 54 = .ok (.iaload, 1) := by decide +kernel
theorem dX5_isAhead_55 : decode cX5_isAhead 55 = .ok (.if_icmp .le 7, 3) := by decide +kernel
theorem dX5_isAhead_58 : decode cX5_isAhead 58 = .ok (.iconst 1, 1) := by decide +kernel
theorem dX5_isAhead_59 : decode cX5_isAhead 59 = .ok (.goto 4, 3) := by decide +kernel
theorem dX5_isAhead_62 : decode cX5_isAhead 62 = .ok (.iconst 0, 1) := by decide +kernel
theorem dX5_isAhead_63 : decode cX5_isAhead 63 = .ok (.ireturn, 1) := by decide +kernel
theorem dX5_isAhead_64 : decode cX5_isAhead 64 = .ok (.iload_n 1, 1) := by decide +kernel
theorem dX5_isAhead_65 : decode cX5_isAhead 65 = .ok (.iload_n 2, 1) := by decide +kernel
theorem dX5_isAhead_66 : decode cX5_isAhead 66 = .ok (.if_icmp .ge 7, 3) := by decide +kernel
theorem dX5_isAhead_69 : decode cX5_isAhead 69 = .ok (.iconst 1, 1) := by decide +kernel
theorem dX5_isAhead_70 : decode cX5_isAhead 70 = .ok (.goto 4, 3) := by decide +kernel
theorem dX5_isAhead_73 : decode cX5_isAhead 73 = .ok (.iconst 0, 1) := by decide +kernel
theorem dX5_isAhead_74 : decode cX5_isAhead 74 = .ok (.ireturn, 1) := by decide +kernel
theorem dX5_join_0 : decode cX5_join 0 = .ok (.aload_n 0, 1) := by decide +kernel
theorem dX5_join_1 : decode cX5_join 1 = .ok (.getfield 31, 3) := by decide +kernel
theorem dX5_join_4 : decode cX5_join 4 = .ok (.istore_n 1, 1) := by decide +kernel
theorem dX5_join_5 : decode cX5_join 5 = .ok (.aload_n 0, 1) := by decide +kernel
theorem dX5_join_6 : decode cX5_join 6 = .ok (.getfield 15, 3) := by decide +kernel
theorem dX5_join_9 : decode cX5_join 9 = .ok (.iload_n 1, 1) := by decide +kernel
theorem dX5_join_10 : decode cX5_join 10 = .ok (.bipush 30, 2) := by decide +kernel
theorem dX5_join_12 : decode cX5_join 12 = .ok (.iastore, 1) := by decide +kernel
theorem dX5_join_13 : decode cX5_join 13 = .ok (.aload_n 0, 1) := by decide +kernel
theorem dX5_join_14 : decode cX5_join 14 = .ok (.getfield 21, 3) := by decide +kernel
theorem dX5_join_17 : decode cX5_join 17 = .ok (.iload_n 1, 1) := by decide +kernel
theorem dX5_join_18 : decode cX5_join 18 = .ok (.bipush 99, 2) := by decide +kernel
theorem dX5_join_20 : decode cX5_join 20 = .ok (.iastore, 1) := by decide +kernel
theorem dX5_join_21 : decode cX5_join 21 = .ok (.aload_n 0, 1) := by decide +kernel
theorem dX5_join_22 : decode cX5_join 22 = .ok (.dup, 1) := by decide +kernel
theorem dX5_join_23 : decode cX5_join 23 = .ok (.getfield 31, 3) := by decide +kernel
theorem dX5_join_26 : decode cX5_join 26 = .ok (.iconst 1, 1) := by decide +kernel
theorem dX5_join_27 : decode cX5_join 27 = .ok (.iadd, 1) := by decide +kernel
theorem dX5_join_28 : decode cX5_join 28 = .ok (.putfield 31, 3) := by decide +kernel
theorem dX5_join_31 : decode cX5_join 31 = .ok (.iload_n 1, 1) := by decide +kernel
theorem dX5_join_32 : decode cX5_join 32 = .ok (.ireturn, 1) := by decide +kernel
set_option maxRecDepth 20000 in
theorem ggX5_changeDebt_X5_amountOwed : GoodIn wsX5_changeDebt wsX5_amountOwed := goodIn_ca (goodIn_r _ [7, 1, 8, 9, 10, 11, 12, 13, 14, 15, 16, 17] (by decide +kernel) (by decide +kernel)) (goodIn_sub (fun _ h => List.mem_cons_of_mem _ (List.mem_append_right _ h)) (by decide +kernel))
set_option maxRecDepth 20000 in
theorem gX5_changeDebt_X5_amountOwed : GoodIn wsX5_changeDebt (wsV RX5 50 RX5 yX5_amountOwed wsX5_amountOwed) := goodIn_app (goodIn_of _ (by decide +kernel)) ggX5_changeDebt_X5_amountOwed
theorem dX5_changeDebt_0 : decode cX5_changeDebt 0 = .ok (.aload_n 0, 1) := by decide +kernel
theorem dX5_changeDebt_1 : decode cX5_changeDebt 1 = .ok (.getfield 9, 3) := by decide +kernel
theorem dX5_changeDebt_4 : decode cX5_changeDebt 4 = .ok (.iload_n 1, 1) := by decide +kernel
theorem dX5_changeDebt_5 : decode cX5_changeDebt 5 = .ok (.bipush 8, 2) := by decide +kernel
theorem dX5_changeDebt_7 : decode cX5_changeDebt 7 = .ok (.imul, 1) := by decide +kernel
theorem dX5_changeDebt_8 : decode cX5_changeDebt 8 = .ok (.iload_n 2, 1) := by decide +kernel
theorem dX5_changeDebt_9 : decode cX5_changeDebt 9 = .ok (.iadd, 1) := by decide +kernel
theorem dX5_changeDebt_10 : decode cX5_changeDebt 10 = .ok (.dup2, 1) := by decide +kernel
theorem dX5_changeDebt_11 : decode cX5_changeDebt 11 = .ok (.iaload, 1) := by decide +kernel
theorem dX5_changeDebt_12 : decode cX5_changeDebt 12 = .ok (.iload_n 3, 1) := by decide +kernel
theorem dX5_changeDebt_13 : decode cX5_changeDebt 13 = .ok (.iadd, 1) := by decide +kernel
theorem dX5_changeDebt_14 : decode cX5_changeDebt 14 = .ok (.iastore, 1) := by decide +kernel
theorem dX5_changeDebt_15 : decode cX5_changeDebt 15 = .ok (.aload_n 0, 1) := by decide +kernel
theorem dX5_changeDebt_16 : decode cX5_changeDebt 16 = .ok (.getfield 24, 3) := by decide +kernel
theorem dX5_changeDebt_19 : decode cX5_changeDebt 19 = .ok (.iload_n 1, 1) := by decide +kernel
theorem dX5_changeDebt_20 : decode cX5_changeDebt 20 = .ok (.dup2, 1) := by decide +kernel
theorem dX5_changeDebt_21 : decode cX5_changeDebt 21 = .ok (.iaload, 1) := by decide +kernel
theorem dX5_changeDebt_22 : decode cX5_changeDebt 22 = .ok (.iload_n 3, 1) := by decide +kernel
theorem dX5_changeDebt_23 : decode cX5_changeDebt 23 = .ok (.isub, 1) := by decide +kernel
theorem dX5_changeDebt_24 : decode cX5_changeDebt 24 = .ok (.iastore, 1) := by decide +kernel
theorem dX5_changeDebt_25 : decode cX5_changeDebt 25 = .ok (.aload_n 0, 1) := by decide +kernel
theorem dX5_changeDebt_26 : decode cX5_changeDebt 26 = .ok (.getfield 24, 3) := by decide +kernel
theorem dX5_changeDebt_29 : decode cX5_changeDebt 29 = .ok (.iload_n 2, 1) := by decide +kernel
theorem dX5_changeDebt_30 : decode cX5_changeDebt 30 = .ok (.dup2, 1) := by decide +kernel
theorem dX5_changeDebt_31 : decode cX5_changeDebt 31 = .ok (.iaload, 1) := by decide +kernel
theorem dX5_changeDebt_32 : decode cX5_changeDebt 32 = .ok (.iload_n 3, 1) := by decide +kernel
theorem dX5_changeDebt_33 : decode cX5_changeDebt 33 = .ok (.iadd, 1) := by decide +kernel
theorem dX5_changeDebt_34 : decode cX5_changeDebt 34 = .ok (.iastore, 1) := by decide +kernel
theorem dX5_changeDebt_35 : decode cX5_changeDebt 35 = .ok (.aload_n 0, 1) := by decide +kernel
theorem dX5_changeDebt_36 : decode cX5_changeDebt 36 = .ok (.iload_n 1, 1) := by decide +kernel
theorem dX5_changeDebt_37 : decode cX5_changeDebt 37 = .ok (.iload_n 2, 1) := by decide +kernel
theorem dX5_changeDebt_38 : decode cX5_changeDebt 38 = .ok (.invokevirtual 50, 3) := by decide +kernel
theorem dX5_changeDebt_41 : decode cX5_changeDebt 41 = .ok (.ireturn, 1) := by decide +kernel
set_option maxRecDepth 20000 in
theorem ggX5_payDebt_X5_changeDebt : GoodIn wsX5_payDebt wsX5_changeDebt := goodIn_ca (goodIn_r _ [6, 7, 8, 9, 10, 11, 5, 12, 13, 14, 15, 16, 17, 18, 19, 20, 21, 22] (by decide +kernel) (by decide +kernel)) (goodIn_sub (fun _ h => List.mem_cons_of_mem _ (List.mem_append_right _ h)) (by decide +kernel))
set_option maxRecDepth 20000 in
theorem gX5_payDebt_X5_changeDebt : GoodIn wsX5_payDebt (wsV RX5 87 RX5 yX5_changeDebt wsX5_changeDebt) := goodIn_app (goodIn_of _ (by decide +kernel)) ggX5_payDebt_X5_changeDebt
theorem dX5_payDebt_0 : decode cX5_payDebt 0 = .ok (.aload_n 0, 1) := by decide +kernel
theorem dX5_payDebt_1 : decode cX5_payDebt 1 = .ok (.getfield 15, 3) := by decide +kernel
theorem dX5_payDebt_4 : decode cX5_payDebt 4 = .ok (.iload_n 1, 1) := by decide +kernel
theorem dX5_payDebt_5 : decode cX5_payDebt 5 = .ok (.dup2, 1) := by decide +kernel
theorem dX5_payDebt_6 : decode cX5_payDebt 6 = .ok (.iaload, 1) := by decide +kernel
theorem dX5_payDebt_7 : decode cX5_payDebt 7 = .ok (.iload_n 3, 1) := by decide +kernel
theorem dX5_payDebt_8 : decode cX5_payDebt 8 = .ok (.isub, 1) := by decide +kernel
theorem dX5_payDebt_9 : decode cX5_payDebt 9 = .ok (.iastore, 1) := by decide +kernel
theorem dX5_payDebt_10 : decode cX5_payDebt 10 = .ok (.aload_n 0, 1) := by decide +kernel
theorem dX5_payDebt_11 : decode cX5_payDebt 11 = .ok (.getfield 15, 3) := by decide +kernel
theorem dX5_payDebt_14 : decode cX5_payDebt 14 = .ok (.iload_n 2, 1) := by decide +kernel
theorem dX5_payDebt_15 : decode cX5_payDebt 15 = .ok (.dup2, 1) := by decide +kernel
theorem dX5_payDebt_16 : decode cX5_payDebt 16 = .ok (.iaload, 1) := by decide +kernel
theorem dX5_payDebt_17 : decode cX5_payDebt 17 = .ok (.iload_n 3, 1) := by decide +kernel
theorem dX5_payDebt_18 : decode cX5_payDebt 18 = .ok (.iadd, 1) := by decide +kernel
theorem dX5_payDebt_19 : decode cX5_payDebt 19 = .ok (.iastore, 1) := by decide +kernel
theorem dX5_payDebt_20 : decode cX5_payDebt 20 = .ok (.aload_n 0, 1) := by decide +kernel
theorem dX5_payDebt_21 : decode cX5_payDebt 21 = .ok (.iload_n 1, 1) := by decide +kernel
theorem dX5_payDebt_22 : decode cX5_payDebt 22 = .ok (.iload_n 2, 1) := by decide +kernel
theorem dX5_payDebt_23 : decode cX5_payDebt 23 = .ok (.iload_n 3, 1) := by decide +kernel
theorem dX5_payDebt_24 : decode cX5_payDebt 24 = .ok (.ineg, 1) := by decide +kernel
theorem dX5_payDebt_25 : decode cX5_payDebt 25 = .ok (.invokevirtual 87, 3) := by decide +kernel
theorem dX5_payDebt_28 : decode cX5_payDebt 28 = .ok (.ireturn, 1) := by decide +kernel
set_option maxRecDepth 20000 in
theorem ggX5_netTwo_X5_amountOwed : GoodIn wsX5_netTwo wsX5_amountOwed := goodIn_ca (goodIn_r _ [10, 11, 17, 18, 19, 20, 21, 22, 23, 24, 25, 26] (by decide +kernel) (by decide +kernel)) (goodIn_sub (fun _ h => List.mem_cons_of_mem _ (List.mem_append_right _ h)) (by decide +kernel))
set_option maxRecDepth 20000 in
theorem gX5_netTwo_X5_amountOwed : GoodIn wsX5_netTwo (wsV RX5 50 RX5 yX5_amountOwed wsX5_amountOwed) := goodIn_app (goodIn_of _ (by decide +kernel)) ggX5_netTwo_X5_amountOwed
set_option maxRecDepth 20000 in
theorem ggX5_netTwo_X5_changeDebt : GoodIn wsX5_netTwo wsX5_changeDebt := goodIn_ca (goodIn_r _ [15, 11, 16, 6, 7, 8, 9, 10, 17, 18, 19, 20, 21, 22, 23, 24, 25, 26] (by decide +kernel) (by decide +kernel)) (goodIn_sub (fun _ h => List.mem_cons_of_mem _ (List.mem_append_right _ h)) (by decide +kernel))
set_option maxRecDepth 20000 in
theorem gX5_netTwo_X5_changeDebt : GoodIn wsX5_netTwo (wsV RX5 87 RX5 yX5_changeDebt wsX5_changeDebt) := goodIn_app (goodIn_of _ (by decide +kernel)) ggX5_netTwo_X5_changeDebt
theorem dX5_netTwo_0 : decode cX5_netTwo 0 = .ok (.aload_n 0, 1) := by decide +kernel
theorem dX5_netTwo_1 : decode cX5_netTwo 1 = .ok (.iload_n 1, 1) := by decide +kernel
theorem dX5_netTwo_2 : decode cX5_netTwo 2 = .ok (.iload_n 2, 1) := by decide +kernel
theorem dX5_netTwo_3 : decode cX5_netTwo 3 = .ok (.invokevirtual 50, 3) := by decide +kernel
theorem dX5_netTwo_6 : decode cX5_netTwo 6 = .ok (.aload_n 0, 1) := by decide +kernel
theorem dX5_netTwo_7 : decode cX5_netTwo 7 = .ok (.iload_n 2, 1) := by decide +kernel
theorem dX5_netTwo_8 : decode cX5_netTwo 8 = .ok (.iload_n 1, 1) := by decide +kernel
theorem dX5_netTwo_9 : decode cX5_netTwo 9 = .ok (.invokevirtual 50, 3) := by decide +kernel
theorem dX5_netTwo_12 : decode cX5_netTwo 12 = .ok (.invokestatic 91, 3) := by decide +kernel
theorem dX5_netTwo_15 : decode cX5_netTwo 15 = .ok (.istore_n 3, 1) := by decide +kernel
theorem dX5_netTwo_16 : decode cX5_netTwo 16 = .ok (.aload_n 0, 1) := by decide +kernel
theorem dX5_netTwo_17 : decode cX5_netTwo 17 = .ok (.iload_n 1, 1) := by decide +kernel
theorem dX5_netTwo_18 : decode cX5_netTwo 18 = .ok (.iload_n 2, 1) := by decide +kernel
theorem dX5_netTwo_19 : decode cX5_netTwo 19 = .ok (.iload_n 3, 1) := by decide +kernel
theorem dX5_netTwo_20 : decode cX5_netTwo 20 = .ok (.ineg, 1) := by decide +kernel
theorem dX5_netTwo_21 : decode cX5_netTwo 21 = .ok (.invokevirtual 87, 3) := by decide +kernel
theorem dX5_netTwo_24 : decode cX5_netTwo 24 = .ok (.pop, 1) := by decide +kernel
theorem dX5_netTwo_25 : decode cX5_netTwo 25 = .ok (.aload_n 0, 1) := by decide +kernel
theorem dX5_netTwo_26 : decode cX5_netTwo 26 = .ok (.iload_n 2, 1) := by decide +kernel
theorem dX5_netTwo_27 : decode cX5_netTwo 27 = .ok (.iload_n 1, 1) := by decide +kernel
theorem dX5_netTwo_28 : decode cX5_netTwo 28 = .ok (.iload_n 3, 1) := by decide +kernel
theorem dX5_netTwo_29 : decode cX5_netTwo 29 = .ok (.ineg, 1) := by decide +kernel
theorem dX5_netTwo_30 : decode cX5_netTwo 30 = .ok (.invokevirtual 87, 3) := by decide +kernel
theorem dX5_netTwo_33 : decode cX5_netTwo 33 = .ok (.pop, 1) := by decide +kernel
theorem dX5_netTwo_34 : decode cX5_netTwo 34 = .ok (.aload_n 0, 1) := by decide +kernel
theorem dX5_netTwo_35 : decode cX5_netTwo 35 = .ok (.dup, 1) := by decide +kernel
theorem dX5_netTwo_36 : decode cX5_netTwo 36 = .ok (.getfield 38, 3) := by decide +kernel
theorem dX5_netTwo_39 : decode cX5_netTwo 39 = .ok (.iconst 2, 1) := by decide +kernel
theorem dX5_netTwo_40 : decode cX5_netTwo 40 = .ok (.iload_n 3, 1) := by decide +kernel
theorem dX5_netTwo_41 : decode cX5_netTwo 41 = .ok (.imul, 1) := by decide +kernel
theorem dX5_netTwo_42 : decode cX5_netTwo 42 = .ok (.iadd, 1) := by decide +kernel
theorem dX5_netTwo_43 : decode cX5_netTwo 43 = .ok (.putfield 38, 3) := by decide +kernel
theorem dX5_netTwo_46 : decode cX5_netTwo 46 = .ok (.iload_n 3, 1) := by decide +kernel
theorem dX5_netTwo_47 : decode cX5_netTwo 47 = .ok (.ireturn, 1) := by decide +kernel
set_option maxRecDepth 20000 in
theorem ggX5_netThree_X5_amountOwed : GoodIn wsX5_netThree wsX5_amountOwed := goodIn_ca (goodIn_r _ [10, 11, 17, 18, 19, 20, 21, 22, 23, 24, 25, 26] (by decide +kernel) (by decide +kernel)) (goodIn_sub (fun _ h => List.mem_cons_of_mem _ (List.mem_append_right _ h)) (by decide +kernel))
set_option maxRecDepth 20000 in
theorem gX5_netThree_X5_amountOwed : GoodIn wsX5_netThree (wsV RX5 50 RX5 yX5_amountOwed wsX5_amountOwed) := goodIn_app (goodIn_of _ (by decide +kernel)) ggX5_netThree_X5_amountOwed
set_option maxRecDepth 20000 in
theorem ggX5_netThree_X5_changeDebt : GoodIn wsX5_netThree wsX5_changeDebt := goodIn_ca (goodIn_r _ [15, 11, 16, 6, 7, 8, 9, 10, 17, 18, 19, 20, 21, 22, 23, 24, 25, 26] (by decide +kernel) (by decide +kernel)) (goodIn_sub (fun _ h => List.mem_cons_of_mem _ (List.mem_append_right _ h)) (by decide +kernel))
set_option maxRecDepth 20000 in
theorem gX5_netThree_X5_changeDebt : GoodIn wsX5_netThree (wsV RX5 87 RX5 yX5_changeDebt wsX5_changeDebt) := goodIn_app (goodIn_of _ (by decide +kernel)) ggX5_netThree_X5_changeDebt
theorem dX5_netThree_0 : decode cX5_netThree 0 = .ok (.aload_n 0, 1) := by decide +kernel
theorem dX5_netThree_1 : decode cX5_netThree 1 = .ok (.iload_n 1, 1) := by decide +kernel
theorem dX5_netThree_2 : decode cX5_netThree 2 = .ok (.iload_n 2, 1) := by decide +kernel
theorem dX5_netThree_3 : decode cX5_netThree 3 = .ok (.invokevirtual 50, 3) := by decide +kernel
theorem dX5_netThree_6 : decode cX5_netThree 6 = .ok (.aload_n 0, 1) := by decide +kernel
theorem dX5_netThree_7 : decode cX5_netThree 7 = .ok (.iload_n 2, 1) := by decide +kernel
theorem dX5_netThree_8 : decode cX5_netThree 8 = .ok (.iload_n 3, 1) := by decide +kernel
theorem dX5_netThree_9 : decode cX5_netThree 9 = .ok (.invokevirtual 50, 3) := by decide +kernel
theorem dX5_netThree_12 : decode cX5_netThree 12 = .ok (.invokestatic 91, 3) := by decide +kernel
theorem dX5_netThree_15 : decode cX5_netThree 15 = .ok (.istore 4, 2) := by decide +kernel
theorem dX5_netThree_17 : decode cX5_netThree 17 = .ok (.iload 4, 2) := by decide +kernel
theorem dX5_netThree_19 : decode cX5_netThree 19 = .ok (.aload_n 0, 1) := by decide +kernel
theorem dX5_netThree_20 : decode cX5_netThree 20 = .ok (.iload_n 3, 1) := by decide +kernel
theorem dX5_netThree_21 : decode cX5_netThree 21 = .ok (.iload_n 1, 1) := by decide +kernel
theorem dX5_netThree_22 : decode cX5_netThree 22 = .ok (.invokevirtual 50, 3) := by decide +kernel
theorem dX5_netThree_25 : decode cX5_netThree 25 = .ok (.invokestatic 91, 3) := by decide +kernel
theorem dX5_netThree_28 : decode cX5_netThree 28 = .ok (.istore 5, 2) := by decide +kernel
theorem dX5_netThree_30 : decode cX5_netThree 30 = .ok (.aload_n 0, 1) := by decide +kernel
theorem dX5_netThree_31 : decode cX5_netThree 31 = .ok (.iload_n 1, 1) := by decide +kernel
theorem dX5_netThree_32 : decode cX5_netThree 32 = .ok (.iload_n 2, 1) := by decide +kernel
theorem dX5_netThree_33 : decode cX5_netThree 33 = .ok (.iload 5, 2) := by decide +kernel
theorem dX5_netThree_35 : decode cX5_netThree 35 = .ok (.ineg, 1) := by decide +kernel
theorem dX5_netThree_36 : decode cX5_netThree 36 = .ok (.invokevirtual 87, 3) := by decide +kernel
theorem dX5_netThree_39 : decode cX5_netThree 39 = .ok (.pop, 1) := by decide +kernel
theorem dX5_netThree_40 : decode cX5_netThree 40 = .ok (.aload_n 0, 1) := by decide +kernel
theorem dX5_netThree_41 : decode cX5_netThree 41 = .ok (.iload_n 2, 1) := by decide +kernel
theorem dX5_netThree_42 : decode cX5_netThree 42 = .ok (.iload_n 3, 1) := by decide +kernel
theorem dX5_netThree_43 : decode cX5_netThree 43 = .ok (.iload 5, 2) := by decide +kernel
theorem dX5_netThree_45 : decode cX5_netThree 45 = .ok (.ineg, 1) := by decide +kernel
theorem dX5_netThree_46 : decode cX5_netThree 46 = .ok (.invokevirtual 87, 3) := by decide +kernel
theorem dX5_netThree_49 : decode cX5_netThree 49 = .ok (.pop, 1) := by decide +kernel
theorem dX5_netThree_50 : decode cX5_netThree 50 = .ok (.aload_n 0, 1) := by decide +kernel
theorem dX5_netThree_51 : decode cX5_netThree 51 = .ok (.iload_n 3, 1) := by decide +kernel
theorem dX5_netThree_52 : decode cX5_netThree 52 = .ok (.iload_n 1, 1) := by decide +kernel
theorem dX5_netThree_53 : decode cX5_netThree 53 = .ok (.iload 5, 2) := by decide +kernel
theorem dX5_netThree_55 : decode cX5_netThree 55 = .ok (.ineg, 1) := by decide +kernel
theorem dX5_netThree_56 : decode cX5_netThree 56 = .ok (.invokevirtual 87, 3) := by decide +kernel
theorem dX5_netThree_59 : decode cX5_netThree 59 = .ok (.pop, 1) := by decide +kernel
theorem dX5_netThree_60 : decode cX5_netThree 60 = .ok (.aload_n 0, 1) := by decide +kernel
theorem dX5_netThree_61 : decode cX5_netThree 61 = .ok (.dup, 1) := by decide +kernel
theorem dX5_netThree_62 : decode cX5_netThree 62 = .ok (.getfield 38, 3) := by decide +kernel
theorem dX5_netThree_65 : decode cX5_netThree 65 = .ok (.iconst 3, 1) := by decide +kernel
theorem dX5_netThree_66 : decode cX5_netThree 66 = .ok (.iload 5, 2) := by decide +kernel
theorem dX5_netThree_68 : decode cX5_netThree 68 = .ok (.imul, 1) := by decide +kernel
theorem dX5_netThree_69 : decode cX5_netThree 69 = .ok (.iadd, 1) := by decide +kernel
theorem dX5_netThree_70 : decode cX5_netThree 70 = .ok (.putfield 38, 3) := by decide +kernel
theorem dX5_netThree_73 : decode cX5_netThree 73 = .ok (.iload 5, 2) := by decide +kernel
theorem dX5_netThree_75 : decode cX5_netThree 75 = .ok (.ireturn, 1) := by decide +kernel
theorem dX5_addCollateral_0 : decode cX5_addCollateral 0 = .ok (.aload_n 0, 1) := by decide +kernel
theorem dX5_addCollateral_1 : decode cX5_addCollateral 1 = .ok (.getfield 18, 3) := by decide +kernel
theorem dX5_addCollateral_4 : decode cX5_addCollateral 4 = .ok (.iload_n 1, 1) := by decide +kernel
theorem dX5_addCollateral_5 : decode cX5_addCollateral 5 = .ok (.dup2, 1) := by decide +kernel
theorem dX5_addCollateral_6 : decode cX5_addCollateral 6 = .ok (.iaload, 1) := by decide +kernel
theorem dX5_addCollateral_7 : decode cX5_addCollateral 7 = .ok (.iload_n 2, 1) := by decide +kernel
theorem dX5_addCollateral_8 : decode cX5_addCollateral 8 = .ok (.iadd, 1) := by decide +kernel
theorem dX5_addCollateral_9 : decode cX5_addCollateral 9 = .ok (.iastore, 1) := by decide +kernel
theorem dX5_addCollateral_10 : decode cX5_addCollateral 10 = .ok (.aload_n 0, 1) := by decide +kernel
theorem dX5_addCollateral_11 : decode cX5_addCollateral 11 = .ok (.getfield 18, 3) := by decide +kernel
theorem dX5_addCollateral_14 : decode cX5_addCollateral 14 = .ok (.iload_n 1, 1) := by decide +kernel
theorem dX5_addCollateral_15 : decode cX5_addCollateral 15 = .ok (.iaload, 1) := by decide +kernel
theorem dX5_addCollateral_16 : decode cX5_addCollateral 16 = .ok (.ireturn, 1) := by decide +kernel
theorem dX5_exchangeLimit_0 : decode cX5_exchangeLimit 0 = .ok (.aload_n 0, 1) := by decide +kernel
theorem dX5_exchangeLimit_1 : decode cX5_exchangeLimit 1 = .ok (.getfield 21, 3) := by decide +kernel
theorem dX5_exchangeLimit_4 : decode cX5_exchangeLimit 4 = .ok (.iload_n 1, 1) := by decide +kernel
theorem dX5_exchangeLimit_5 : decode cX5_exchangeLimit 5 = .ok (.iaload, 1) := by decide +kernel
theorem dX5_exchangeLimit_6 : decode cX5_exchangeLimit 6 = .ok (.istore_n 3, 1) := by decide +kernel
theorem dX5_exchangeLimit_7 : decode cX5_exchangeLimit 7 = .ok (.aload_n 0, 1) := by decide +kernel
theorem dX5_exchangeLimit_8 : decode cX5_exchangeLimit 8 = .ok (.getfield 21, 3) := by decide +kernel
theorem dX5_exchangeLimit_11 : decode cX5_exchangeLimit 11 = .ok (.iload_n 1, 1) := by decide +kernel
theorem dX5_exchangeLimit_12 : decode cX5_exchangeLimit 12 = .ok (.iload_n 2, 1) := by decide +kernel
theorem dX5_exchangeLimit_13 : decode cX5_exchangeLimit 13 = .ok (.iastore, 1) := by decide +kernel
theorem dX5_exchangeLimit_14 : decode cX5_exchangeLimit 14 = .ok (.iload_n 3, 1) := by decide +kernel
theorem dX5_exchangeLimit_15 : decode cX5_exchangeLimit 15 = .ok (.ireturn, 1) := by decide +kernel
theorem dX5_exchangeHaircut_0 : decode cX5_exchangeHaircut 0 = .ok (.aload_n 0, 1) := by decide +kernel
theorem dX5_exchangeHaircut_1 : decode cX5_exchangeHaircut 1 = .ok (.getfield 35, 3) := by decide +kernel
theorem dX5_exchangeHaircut_4 : decode cX5_exchangeHaircut 4 = .ok (.istore_n 2, 1) := by decide +kernel
theorem dX5_exchangeHaircut_5 : decode cX5_exchangeHaircut 5 = .ok (.aload_n 0, 1) := by decide +kernel
theorem dX5_exchangeHaircut_6 : decode cX5_exchangeHaircut 6 = .ok (.iload_n 1, 1) := by decide +kernel
theorem dX5_exchangeHaircut_7 : decode cX5_exchangeHaircut 7 = .ok (.putfield 35, 3) := by decide +kernel
theorem dX5_exchangeHaircut_10 : decode cX5_exchangeHaircut 10 = .ok (.iload_n 2, 1) := by decide +kernel
theorem dX5_exchangeHaircut_11 : decode cX5_exchangeHaircut 11 = .ok (.ireturn, 1) := by decide +kernel
set_option maxRecDepth 20000 in
theorem ggX5_forgiveDebts_X5_amountOwed : GoodIn wsX5_forgiveDebts wsX5_amountOwed := goodIn_ca (goodIn_r _ [5, 6, 12, 13, 14, 15, 16, 17, 18, 19, 20, 21] (by decide +kernel) (by decide +kernel)) (goodIn_sub (fun _ h => List.mem_cons_of_mem _ (List.mem_append_right _ h)) (by decide +kernel))
set_option maxRecDepth 20000 in
theorem gX5_forgiveDebts_X5_amountOwed : GoodIn wsX5_forgiveDebts (wsV RX5 50 RX5 yX5_amountOwed wsX5_amountOwed) := goodIn_app (goodIn_of _ (by decide +kernel)) ggX5_forgiveDebts_X5_amountOwed
set_option maxRecDepth 20000 in
theorem ggX5_forgiveDebts_X5_changeDebt : GoodIn wsX5_forgiveDebts wsX5_changeDebt := goodIn_ca (goodIn_r _ [10, 6, 11, 1, 2, 3, 4, 5, 12, 13, 14, 15, 16, 17, 18, 19, 20, 21] (by decide +kernel) (by decide +kernel)) (goodIn_sub (fun _ h => List.mem_cons_of_mem _ (List.mem_append_right _ h)) (by decide +kernel))
set_option maxRecDepth 20000 in
theorem gX5_forgiveDebts_X5_changeDebt : GoodIn wsX5_forgiveDebts (wsV RX5 87 RX5 yX5_changeDebt wsX5_changeDebt) := goodIn_app (goodIn_of _ (by decide +kernel)) ggX5_forgiveDebts_X5_changeDebt
theorem dX5_forgiveDebts_0 : decode cX5_forgiveDebts 0 = .ok (.iconst 0, 1) := by decide +kernel
theorem dX5_forgiveDebts_1 : decode cX5_forgiveDebts 1 = .ok (.istore_n 2, 1) := by decide +kernel
theorem dX5_forgiveDebts_2 : decode cX5_forgiveDebts 2 = .ok (.iload_n 2, 1) := by decide +kernel
theorem dX5_forgiveDebts_3 : decode cX5_forgiveDebts 3 = .ok (.bipush 8, 2) := by decide +kernel
theorem dX5_forgiveDebts_5 : decode cX5_forgiveDebts 5 = .ok (.if_icmp .ge 23, 3) := by decide +kernel
theorem dX5_forgiveDebts_8 : decode cX5_forgiveDebts 8 = .ok (.aload_n 0, 1) := by decide +kernel
theorem dX5_forgiveDebts_9 : decode cX5_forgiveDebts 9 = .ok (.iload_n 1, 1) := by decide +kernel
theorem dX5_forgiveDebts_10 : decode cX5_forgiveDebts 10 = .ok (.iload_n 2, 1) := by decide +kernel
theorem dX5_forgiveDebts_11 : decode cX5_forgiveDebts 11 = .ok (.aload_n 0, 1) := by decide +kernel
theorem dX5_forgiveDebts_12 : decode cX5_forgiveDebts 12 = .ok (.iload_n 1, 1) := by decide +kernel
theorem dX5_forgiveDebts_13 : decode cX5_forgiveDebts 13 = .ok (.iload_n 2, 1) := by decide +kernel
theorem dX5_forgiveDebts_14 : decode cX5_forgiveDebts 14 = .ok (.invokevirtual 50, 3) := by decide +kernel
theorem dX5_forgiveDebts_17 : decode cX5_forgiveDebts 17 = .ok (.ineg, 1) := by decide +kernel
theorem dX5_forgiveDebts_18 : decode cX5_forgiveDebts 18 = .ok (.invokevirtual 87, 3) := by decide +kernel
theorem dX5_forgiveDebts_21 : decode cX5_forgiveDebts 21 = .ok (.pop, 1) := by decide +kernel
theorem dX5_forgiveDebts_22 : decode cX5_forgiveDebts 22 = .ok (.iinc 2 1, 3) := by decide +kernel
theorem dX5_forgiveDebts_25 : decode cX5_forgiveDebts 25 = .ok (.goto (-23), 3) := by decide +kernel
theorem dX5_forgiveDebts_28 : decode cX5_forgiveDebts 28 = .ok (.return_, 1) := by decide +kernel
theorem dX6_init_0 : decode cX6_init 0 = .ok (.aload_n 0, 1) := by decide +kernel
theorem dX6_init_1 : decode cX6_init 1 = .ok (.invokespecial 3, 3) := by decide +kernel
theorem dX6_init_4 : decode cX6_init 4 = .ok (.aload_n 0, 1) := by decide +kernel
theorem dX6_init_5 : decode cX6_init 5 = .ok (.bipush 64, 2) := by decide +kernel
theorem dX6_init_7 : decode cX6_init 7 = .ok (.newarray .int, 2) := by decide +kernel
theorem dX6_init_9 : decode cX6_init 9 = .ok (.putfield 9, 3) := by decide +kernel
theorem dX6_init_12 : decode cX6_init 12 = .ok (.aload_n 0, 1) := by decide +kernel
theorem dX6_init_13 : decode cX6_init 13 = .ok (.bipush 64, 2) := by decide +kernel
theorem dX6_init_15 : decode cX6_init 15 = .ok (.newarray .int, 2) := by decide +kernel
theorem dX6_init_17 : decode cX6_init 17 = .ok (.putfield 15, 3) := by decide +kernel
theorem dX6_init_20 : decode cX6_init 20 = .ok (.aload_n 0, 1) := by decide +kernel
theorem dX6_init_21 : decode cX6_init 21 = .ok (.bipush 64, 2) := by decide +kernel
theorem dX6_init_23 : decode cX6_init 23 = .ok (.newarray .int, 2) := by decide +kernel
theorem dX6_init_25 : decode cX6_init 25 = .ok (.putfield 18, 3) := by decide +kernel
theorem dX6_init_28 : decode cX6_init 28 = .ok (.aload_n 0, 1) := by decide +kernel
theorem dX6_init_29 : decode cX6_init 29 = .ok (.bipush 8, 2) := by decide +kernel
theorem dX6_init_31 : decode cX6_init 31 = .ok (.newarray .int, 2) := by decide +kernel
theorem dX6_init_33 : decode cX6_init 33 = .ok (.putfield 21, 3) := by decide +kernel
theorem dX6_init_36 : decode cX6_init 36 = .ok (.aload_n 0, 1) := by decide +kernel
theorem dX6_init_37 : decode cX6_init 37 = .ok (.bipush 8, 2) := by decide +kernel
theorem dX6_init_39 : decode cX6_init 39 = .ok (.newarray .int, 2) := by decide +kernel
theorem dX6_init_41 : decode cX6_init 41 = .ok (.putfield 24, 3) := by decide +kernel
theorem dX6_init_44 : decode cX6_init 44 = .ok (.return_, 1) := by decide +kernel
set_option maxRecDepth 20000 in
theorem ggX6_countTriangles_X6_drawMatrix : GoodIn wsX6_countTriangles wsX6_drawMatrix := goodIn_ca (goodIn_r _ [5, 6, 11, 12, 13, 14, 15, 16, 17, 18, 19, 20, 21, 22, 23, 24, 25] (by decide +kernel) (by decide +kernel)) (goodIn_sub (fun _ h => List.mem_cons_of_mem _ (List.mem_append_right _ h)) (by decide +kernel))
set_option maxRecDepth 20000 in
theorem gX6_countTriangles_X6_drawMatrix : GoodIn wsX6_countTriangles (wsV RX6 47 RX6 yX6_drawMatrix wsX6_drawMatrix) := goodIn_app (goodIn_of _ (by decide +kernel)) ggX6_countTriangles_X6_drawMatrix
set_option maxRecDepth 20000 in
theorem ggX6_countTriangles_X6_owes : GoodIn wsX6_countTriangles wsX6_owes := goodIn_ca (goodIn_r _ [10, 6, 11, 12, 13, 14, 15] (by decide +kernel) (by decide +kernel)) (goodIn_sub (fun _ h => List.mem_cons_of_mem _ (List.mem_append_right _ h)) (by decide +kernel))
set_option maxRecDepth 20000 in
theorem gX6_countTriangles_X6_owes : GoodIn wsX6_countTriangles (wsV RX6 51 RX6 yX6_owes wsX6_owes) := goodIn_app (goodIn_of _ (by decide +kernel)) ggX6_countTriangles_X6_owes
theorem dX6_countTriangles_0 : decode cX6_countTriangles 0 = .ok (.aload_n 0, 1) := by decide +kernel
theorem dX6_countTriangles_1 : decode cX6_countTriangles 1 = .ok (.aload_n 1, 1) := by decide +kernel
theorem dX6_countTriangles_2 : decode cX6_countTriangles 2 = .ok (.invokevirtual 47, 3) := by decide +kernel
theorem dX6_countTriangles_5 : decode cX6_countTriangles 5 = .ok (.iconst 0, 1) := by decide +kernel
theorem dX6_countTriangles_6 : decode cX6_countTriangles 6 = .ok (.istore_n 2, 1) := by decide +kernel
theorem dX6_countTriangles_7 : decode cX6_countTriangles 7 = .ok (.iconst 0, 1) := by decide +kernel
theorem dX6_countTriangles_8 : decode cX6_countTriangles 8 = .ok (.istore_n 3, 1) := by decide +kernel
theorem dX6_countTriangles_9 : decode cX6_countTriangles 9 = .ok (.iload_n 3, 1) := by decide +kernel
theorem dX6_countTriangles_10 : decode cX6_countTriangles 10 = .ok (.bipush 8, 2) := by decide +kernel
theorem dX6_countTriangles_12 : decode cX6_countTriangles 12 = .ok (.if_icmp .ge 79, 3) := by decide +kernel
theorem dX6_countTriangles_15 : decode cX6_countTriangles 15 = .ok (.iload_n 3, 1) := by decide +kernel
theorem dX6_countTriangles_16 : decode cX6_countTriangles 16 = .ok (.iconst 1, 1) := by decide +kernel
theorem dX6_countTriangles_17 : decode cX6_countTriangles 17 = .ok (.iadd, 1) := by decide +kernel
theorem dX6_countTriangles_18 : decode cX6_countTriangles 18 = .ok (.istore 4, 2) := by decide +kernel
theorem dX6_countTriangles_20 : decode cX6_countTriangles 20 = .ok (.iload 4, 2) := by decide +kernel
theorem dX6_countTriangles_22 : decode cX6_countTriangles 22 = .ok (.bipush 8, 2) := by decide +kernel
theorem dX6_countTriangles_24 : decode cX6_countTriangles 24 = .ok (.if_icmp .ge 61, 3) := by decide +kernel
theorem dX6_countTriangles_27 : decode cX6_countTriangles 27 = .ok (.iload_n 3, 1) := by decide +kernel
theorem dX6_countTriangles_28 : decode cX6_countTriangles 28 = .ok (.iconst 1, 1) := by decide +kernel
theorem dX6_countTriangles_29 : decode cX6_countTriangles 29 = .ok (.iadd, 1) := by decide +kernel
theorem dX6_countTriangles_30 : decode cX6_countTriangles 30 = .ok (.istore 5, 2) := by decide +kernel
theorem dX6_countTriangles_32 : decode cX6_countTriangles 32 = .ok (.iload 5, 2) := by decide +kernel
theorem dX6_countTriangles_34 : decode cX6_countTriangles 34 = .ok (.bipush 8, 2) := by decide +kernel
theorem dX6_countTriangles_36 : decode cX6_countTriangles 36 = .ok (.if_icmp .ge 43, 3) := by decide +kernel
theorem dX6_countTriangles_39 : decode cX6_countTriangles 39 = .ok (.aload_n 0, 1) := by decide +kernel
theorem dX6_countTriangles_40 : decode cX6_countTriangles 40 = .ok (.iload_n 3, 1) := by decide +kernel
theorem dX6_countTriangles_41 : decode cX6_countTriangles 41 = .ok (.iload 4, 2) := by decide +kernel
theorem dX6_countTriangles_43 : decode cX6_countTriangles 43 = .ok (.invokevirtual 51, 3) := by decide +kernel
theorem dX6_countTriangles_46 : decode cX6_countTriangles 46 = .ok (.ifCond .eq 27, 3) := by decide +kernel
theorem dX6_countTriangles_49 : decode cX6_countTriangles 49 = .ok (.aload_n 0, 1) := by decide +kernel
theorem dX6_countTriangles_50 : decode cX6_countTriangles 50 = .ok (.iload 4, 2) := by decide +kernel
theorem dX6_countTriangles_52 : decode cX6_countTriangles 52 = .ok (.iload 5, 2) := by decide +kernel
theorem dX6_countTriangles_54 : decode cX6_countTriangles 54 = .ok (.invokevirtual 51, 3) := by decide +kernel
theorem dX6_countTriangles_57 : decode cX6_countTriangles 57 = .ok (.ifCond .eq 16, 3) := by decide +kernel
theorem dX6_countTriangles_60 : decode cX6_countTriangles 60 = .ok (.aload_n 0, 1) := by decide +kernel
theorem dX6_countTriangles_61 : decode cX6_countTriangles 61 = .ok (.iload 5, 2) := by decide +kernel
theorem dX6_countTriangles_63 : decode cX6_countTriangles 63 = .ok (.iload_n 3, 1) := by decide +kernel
theorem dX6_countTriangles_64 : decode cX6_countTriangles 64 = .ok (.invokevirtual 51, 3) := by decide +kernel
theorem dX6_countTriangles_67 : decode cX6_countTriangles 67 = .ok (.ifCond .eq 6, 3) := by decide +kernel
theorem dX6_countTriangles_70 : decode cX6_countTriangles 70 = .ok (.iinc 2 1, 3) := by decide +kernel
theorem dX6_countTriangles_73 : decode cX6_countTriangles 73 = .ok (.iinc 5 1, 3) := by decide +kernel
theorem dX6_countTriangles_76 : decode cX6_countTriangles 76 = .ok (.goto (-44), 3) := by decide +kernel
theorem dX6_countTriangles_79 : decode cX6_countTriangles 79 = .ok (.iinc 4 1, 3) := by decide +kernel
theorem dX6_countTriangles_82 : decode cX6_countTriangles 82 = .ok (.goto (-62), 3) := by decide +kernel
theorem dX6_countTriangles_85 : decode cX6_countTriangles 85 = .ok (.iinc 3 1, 3) := by decide +kernel
theorem dX6_countTriangles_88 : decode cX6_countTriangles 88 = .ok (.goto (-79), 3) := by decide +kernel
theorem dX6_countTriangles_91 : decode cX6_countTriangles 91 = .ok (.iload_n 2, 1) := by decide +kernel
theorem dX6_countTriangles_92 : decode cX6_countTriangles 92 = .ok (.ireturn, 1) := by decide +kernel
set_option maxRecDepth 20000 in
theorem ggX6_countReached_X6_drawMatrix : GoodIn wsX6_countReached wsX6_drawMatrix := goodIn_ca (goodIn_r _ [5, 6, 23, 24, 25, 26, 27, 28, 29, 30, 31, 32, 33, 34, 35, 36, 37] (by decide +kernel) (by decide +kernel)) (goodIn_sub (fun _ h => List.mem_cons_of_mem _ (List.mem_append_right _ h)) (by decide +kernel))
set_option maxRecDepth 20000 in
theorem gX6_countReached_X6_drawMatrix : GoodIn wsX6_countReached (wsV RX6 47 RX6 yX6_drawMatrix wsX6_drawMatrix) := goodIn_app (goodIn_of _ (by decide +kernel)) ggX6_countReached_X6_drawMatrix
set_option maxRecDepth 20000 in
theorem ggX6_countReached_X6_follow : GoodIn wsX6_countReached wsX6_follow := goodIn_ca (goodIn_r _ [10, 11, 12, 13, 14, 4, 15, 6, 23, 24, 25, 26, 27] (by decide +kernel) (by decide +kernel)) (goodIn_sub (fun _ h => List.mem_cons_of_mem _ (List.mem_append_right _ h)) (by decide +kernel))
set_option maxRecDepth 20000 in
theorem gX6_countReached_X6_follow : GoodIn wsX6_countReached (wsV RX6 59 RX6 yX6_follow wsX6_follow) := goodIn_app (goodIn_of _ (by decide +kernel)) ggX6_countReached_X6_follow
set_option maxRecDepth 20000 in
theorem ggX6_countReached_J6_bitCount_0f7a4 : GoodIn wsX6_countReached wsJ6_bitCount_0f7a4 := goodIn_r _ [19, 20, 21, 22] (by decide +kernel) (by decide +kernel)
set_option maxRecDepth 20000 in
theorem gX6_countReached_J6_bitCount_0f7a4 : GoodIn wsX6_countReached (va_wsS RX6 63 yJ6_bitCount_0f7a4 wsJ6_bitCount_0f7a4) := goodIn_app (goodIn_of _ (by decide +kernel)) ggX6_countReached_J6_bitCount_0f7a4
theorem dX6_countReached_0 : decode cX6_countReached 0 = .ok (.aload_n 0, 1) := by decide +kernel
theorem dX6_countReached_1 : decode cX6_countReached 1 = .ok (.aload_n 1, 1) := by decide +kernel
theorem dX6_countReached_2 : decode cX6_countReached 2 = .ok (.invokevirtual 47, 3) := by decide +kernel
theorem dX6_countReached_5 : decode cX6_countReached 5 = .ok (.aload_n 0, 1) := by decide +kernel
theorem dX6_countReached_6 : decode cX6_countReached 6 = .ok (.iload_n 2, 1) := by decide +kernel
theorem dX6_countReached_7 : decode cX6_countReached 7 = .ok (.invokevirtual 59, 3) := by decide +kernel
theorem dX6_countReached_10 : decode cX6_countReached 10 = .ok (.invokestatic 63, 3) := by decide +kernel
theorem dX6_countReached_13 : decode cX6_countReached 13 = .ok (.iconst 1, 1) := by decide +kernel
