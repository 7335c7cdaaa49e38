set_option maxRecDepth 20000 in
theorem ggL_largestCreditor_X10_largestCreditor : GoodIn wsL_largestCreditor wsX10_largestCreditor := goodIn_ca (goodIn_ca (goodIn_r _ [6, 7, 8, 9, 10, 11, 12, 13, 14, 15, 16, 17, 18, 19, 20, 21, 22, 23, 24, 25, 26, 27, 28, 29, 30, 31, 32, 33, 34, 35, 36, 37] (by decide +kernel) (by decide +kernel)) (goodIn_sub (fun _ h => List.mem_cons_of_mem _ (List.mem_append_left _ (List.mem_append_right _ h))) (by decide +kernel))) (goodIn_sub (fun _ h => List.mem_cons_of_mem _ (List.mem_append_right _ h)) (by decide +kernel))
set_option maxRecDepth 20000 in
theorem gL_largestCreditor_X10_largestCreditor : GoodIn wsL_largestCreditor (wsV RL 84 RX10 yX10_largestCreditor wsX10_largestCreditor) := goodIn_app (goodIn_of _ (by decide +kernel)) ggL_largestCreditor_X10_largestCreditor
theorem dL_largestCreditor_0 : decode cL_largestCreditor 0 = .ok (.aload_n 0, 1) := by decide +kernel
theorem dL_largestCreditor_1 : decode cL_largestCreditor 1 = .ok (.invokevirtual 84, 3) := by decide +kernel
theorem dL_largestCreditor_4 : decode cL_largestCreditor 4 = .ok (.ireturn, 1) := by decide +kernel
theorem dL_largestCreditor_5 : decode cL_largestCreditor 5 = .ok (.astore_n 1, 1) := by decide +kernel
theorem dL_largestCreditor_6 : decode cL_largestCreditor 6 = .ok (.sipush (-1001), 3) := by decide +kernel
theorem dL_largestCreditor_9 : decode cL_largestCreditor 9 = .ok (.ireturn, 1) := by decide +kernel
set_option maxRecDepth 20000 in
theorem ggL_reachCount_X10_reachCount : GoodIn wsL_reachCount wsX10_reachCount := goodIn_ca (goodIn_ca (goodIn_ca (goodIn_ca (goodIn_ca (goodIn_r _ [6, 7, 8, 9, 10, 11, 12, 13, 14, 15, 16, 17, 18, 19, 20, 21, 22, 5, 23, 24, 25, 26, 27, 28, 29, 30, 31, 32, 33, 34, 35, 36, 37, 38, 39, 40, 41, 42, 43, 44, 45, 46, 47, 48, 49, 50, 51, 52, 53, 54, 55, 56, 57, 58, 59, 60, 61, 62, 63, 64, 65, 66, 67, 68, 69, 70, 71, 72, 73, 74, 75, 76, 77, 78, 79, 80, 81, 82, 83, 84, 85, 86, 87, 88] (by decide +kernel) (by decide +kernel)) (goodIn_sub (fun _ h => List.mem_cons_of_mem _ (List.mem_append_left _ (List.mem_append_left _ (List.mem_append_left _ (List.mem_append_left _ (List.mem_append_right _ h)))))) (by decide +kernel))) (goodIn_sub (fun _ h => List.mem_cons_of_mem _ (List.mem_append_left _ (List.mem_append_left _ (List.mem_append_left _ (List.mem_append_right _ h))))) (by decide +kernel))) (goodIn_sub (fun _ h => List.mem_cons_of_mem _ (List.mem_append_left _ (List.mem_append_left _ (List.mem_append_right _ h)))) (by decide +kernel))) (goodIn_sub (fun _ h => List.mem_cons_of_mem _ (List.mem_append_left _ (List.mem_append_right _ h))) (by decide +kernel))) (goodIn_sub (fun _ h => List.mem_cons_of_mem _ (List.mem_append_right _ h)) (by decide +kernel))
set_option maxRecDepth 20000 in
theorem gL_reachCount_X10_reachCount : GoodIn wsL_reachCount (wsV RL 87 RX10 yX10_reachCount wsX10_reachCount) := goodIn_app (goodIn_of _ (by decide +kernel)) ggL_reachCount_X10_reachCount
theorem dL_reachCount_0 : decode cL_reachCount 0 = .ok (.aload_n 0, 1) := by decide +kernel
theorem dL_reachCount_1 : decode cL_reachCount 1 = .ok (.iload_n 1, 1) := by decide +kernel
theorem dL_reachCount_2 : decode cL_reachCount 2 = .ok (.invokevirtual 87, 3) := by decide +kernel
theorem dL_reachCount_5 : decode cL_reachCount 5 = .ok (.ireturn, 1) := by decide +kernel
theorem dL_reachCount_6 : decode cL_reachCount 6 = .ok (.astore_n 2, 1) := by decide +kernel
theorem dL_reachCount_7 : decode cL_reachCount 7 = .ok (.sipush (-1001), 3) := by decide +kernel
theorem dL_reachCount_10 : decode cL_reachCount 10 = .ok (.ireturn, 1) := by decide +kernel
set_option maxRecDepth 20000 in
theorem ggL_reachByRounds_X10_reachCountByRounds : GoodIn wsL_reachByRounds wsX10_reachCountByRounds := goodIn_ca (goodIn_ca (goodIn_ca (goodIn_ca (goodIn_ca (goodIn_r _ [6, 7, 8, 9, 10, 11, 12, 13, 14, 15, 16, 17, 18, 19, 20, 21, 22, 5, 23, 24, 25, 26, 27, 28, 29, 30, 31, 32, 33, 34, 35, 36, 37, 38, 39, 40, 41, 42, 43, 44, 45, 46, 47, 48, 49, 50, 51, 52, 53, 54, 55, 56, 57, 58, 59, 60, 61, 62, 63, 64, 65, 66, 67, 68, 69, 70, 71, 72, 73, 74, 75, 76, 77, 78, 79, 80, 81, 82, 83, 84, 85, 86, 87, 88, 89, 90, 91, 92] (by decide +kernel) (by decide +kernel)) (goodIn_sub (fun _ h => List.mem_cons_of_mem _ (List.mem_append_left _ (List.mem_append_left _ (List.mem_append_left _ (List.mem_append_left _ (List.mem_append_right _ h)))))) (by decide +kernel))) (goodIn_sub (fun _ h => List.mem_cons_of_mem _ (List.mem_append_left _ (List.mem_append_left _ (List.mem_append_left _ (List.mem_append_right _ h))))) (by decide +kernel))) (goodIn_sub (fun _ h => List.mem_cons_of_mem _ (List.mem_append_left _ (List.mem_append_left _ (List.mem_append_right _ h)))) (by decide +kernel))) (goodIn_sub (fun _ h => List.mem_cons_of_mem _ (List.mem_append_left _ (List.mem_append_right _ h))) (by decide +kernel))) (goodIn_sub (fun _ h => List.mem_cons_of_mem _ (List.mem_append_right _ h)) (by decide +kernel))
set_option maxRecDepth 20000 in
theorem gL_reachByRounds_X10_reachCountByRounds : GoodIn wsL_reachByRounds (wsV RL 90 RX10 yX10_reachCountByRounds wsX10_reachCountByRounds) := goodIn_app (goodIn_of _ (by decide +kernel)) ggL_reachByRounds_X10_reachCountByRounds
theorem dL_reachByRounds_0 : decode cL_reachByRounds 0 = .ok (.aload_n 0, 1) := by decide +kernel
theorem dL_reachByRounds_1 : decode cL_reachByRounds 1 = .ok (.iload_n 1, 1) := by decide +kernel
theorem dL_reachByRounds_2 : decode cL_reachByRounds 2 = .ok (.invokevirtual 90, 3) := by decide +kernel
theorem dL_reachByRounds_5 : decode cL_reachByRounds 5 = .ok (.ireturn, 1) := by decide +kernel
theorem dL_reachByRounds_6 : decode cL_reachByRounds 6 = .ok (.astore_n 2, 1) := by decide +kernel
theorem dL_reachByRounds_7 : decode cL_reachByRounds 7 = .ok (.sipush (-1001), 3) := by decide +kernel
theorem dL_reachByRounds_10 : decode cL_reachByRounds 10 = .ok (.ireturn, 1) := by decide +kernel
set_option maxRecDepth 20000 in
theorem ggL_reaches_X10_reaches : GoodIn wsL_reaches wsX10_reaches := goodIn_ca (goodIn_ca (goodIn_ca (goodIn_ca (goodIn_ca (goodIn_r _ [6, 7, 8, 9, 10, 11, 12, 13, 14, 15, 16, 17, 18, 19, 20, 21, 22, 23, 5, 24, 25, 26, 27, 28, 29, 30, 31, 32, 33, 34, 35, 36, 37, 38, 39, 40, 41, 42, 43, 44, 45, 46, 47, 48, 49, 50, 51, 52, 53, 54, 55, 56, 57, 58, 59, 60, 61, 62, 63, 64, 65, 66, 67, 68, 69, 70, 71, 72, 73, 74, 75, 76, 77, 78, 79, 80, 81, 82] (by decide +kernel) (by decide +kernel)) (goodIn_sub (fun _ h => List.mem_cons_of_mem _ (List.mem_append_left _ (List.mem_append_left _ (List.mem_append_left _ (List.mem_append_left _ (List.mem_append_right _ h)))))) (by decide +kernel))) (goodIn_sub (fun _ h => List.mem_cons_of_mem _ (List.mem_append_left _ (List.mem_append_left _ (List.mem_append_left _ (List.mem_append_right _ h))))) (by decide +kernel))) (goodIn_sub (fun _ h => List.mem_cons_of_mem _ (List.mem_append_left _ (List.mem_append_left _ (List.mem_append_right _ h)))) (by decide +kernel))) (goodIn_sub (fun _ h => List.mem_cons_of_mem _ (List.mem_append_left _ (List.mem_append_right _ h))) (by decide +kernel))) (goodIn_sub (fun _ h => List.mem_cons_of_mem _ (List.mem_append_right _ h)) (by decide +kernel))
set_option maxRecDepth 20000 in
theorem gL_reaches_X10_reaches : GoodIn wsL_reaches (wsV RL 93 RX10 yX10_reaches wsX10_reaches) := goodIn_app (goodIn_of _ (by decide +kernel)) ggL_reaches_X10_reaches
theorem dL_reaches_0 : decode cL_reaches 0 = .ok (.aload_n 0, 1) := by decide +kernel
theorem dL_reaches_1 : decode cL_reaches 1 = .ok (.iload_n 1, 1) := by decide +kernel
theorem dL_reaches_2 : decode cL_reaches 2 = .ok (.iload_n 2, 1) := by decide +kernel
theorem dL_reaches_3 : decode cL_reaches 3 = .ok (.invokevirtual 93, 3) := by decide +kernel
theorem dL_reaches_6 : decode cL_reaches 6 = .ok (.ifCond .eq 7, 3) := by decide +kernel
theorem dL_reaches_9 : decode cL_reaches 9 = .ok (.iconst 1, 1) := by decide +kernel
theorem dL_reaches_10 : decode cL_reaches 10 = .ok (.goto 4, 3) := by decide +kernel
theorem dL_reaches_13 : decode cL_reaches 13 = .ok (.iconst 0, 1) := by decide +kernel
theorem dL_reaches_14 : decode cL_reaches 14 = .ok (.ireturn, 1) := by decide +kernel
theorem dL_reaches_15 : decode cL_reaches 15 = .ok (.astore_n 3, 1) := by decide +kernel
theorem dL_reaches_16 : decode cL_reaches 16 = .ok (.sipush (-1001), 3) := by decide +kernel
theorem dL_reaches_19 : decode cL_reaches 19 = .ok (.ireturn, 1) := by decide +kernel
theorem dL_reaches_20 : decode cL_reaches 20 = .ok (.astore_n 3, 1) := by decide +kernel
theorem dL_reaches_21 : decode cL_reaches 21 = .ok (.sipush (-1002), 3) := by decide +kernel
theorem dL_reaches_24 : decode cL_reaches 24 = .ok (.ireturn, 1) := by decide +kernel
set_option maxRecDepth 20000 in
theorem ggL_lossIf_X10_lossIfDefault : GoodIn wsL_lossIf wsX10_lossIfDefault := goodIn_ca (goodIn_ca (goodIn_ca (goodIn_ca (goodIn_ca (goodIn_r _ [6, 7, 8, 9, 10, 11, 12, 13, 14, 15, 16, 17, 18, 19, 20, 21, 22, 23, 24, 25, 26, 27, 28, 29, 30, 31, 32, 33, 34, 35, 36, 37, 38, 39, 40, 41, 42, 43, 44, 45, 46, 5, 47, 48, 49, 50, 51, 52, 53, 54, 55, 56, 57, 58, 59, 60, 61, 62, 63, 64, 65, 66, 67, 68, 69, 70, 71, 72, 73, 74, 75, 76, 77, 78, 79, 80, 81, 82] (by decide +kernel) (by decide +kernel)) (goodIn_sub (fun _ h => List.mem_cons_of_mem _ (List.mem_append_left _ (List.mem_append_left _ (List.mem_append_left _ (List.mem_append_left _ (List.mem_append_right _ h)))))) (by decide +kernel))) (goodIn_sub (fun _ h => List.mem_cons_of_mem _ (List.mem_append_left _ (List.mem_append_left _ (List.mem_append_left _ (List.mem_append_right _ h))))) (by decide +kernel))) (goodIn_sub (fun _ h => List.mem_cons_of_mem _ (List.mem_append_left _ (List.mem_append_left _ (List.mem_append_right _ h)))) (by decide +kernel))) (goodIn_sub (fun _ h => List.mem_cons_of_mem _ (List.mem_append_left _ (List.mem_append_right _ h))) (by decide +kernel))) (goodIn_sub (fun _ h => List.mem_cons_of_mem _ (List.mem_append_right _ h)) (by decide +kernel))
set_option maxRecDepth 20000 in
theorem gL_lossIf_X10_lossIfDefault : GoodIn wsL_lossIf (wsV RL 97 RX10 yX10_lossIfDefault wsX10_lossIfDefault) := goodIn_app (goodIn_of _ (by decide +kernel)) ggL_lossIf_X10_lossIfDefault
theorem dL_lossIf_0 : decode cL_lossIf 0 = .ok (.aload_n 0, 1) := by decide +kernel
theorem dL_lossIf_1 : decode cL_lossIf 1 = .ok (.iload_n 1, 1) := by decide +kernel
theorem dL_lossIf_2 : decode cL_lossIf 2 = .ok (.invokevirtual 97, 3) := by decide +kernel
theorem dL_lossIf_5 : decode cL_lossIf 5 = .ok (.ireturn, 1) := by decide +kernel
theorem dL_lossIf_6 : decode cL_lossIf 6 = .ok (.astore_n 2, 1) := by decide +kernel
theorem dL_lossIf_7 : decode cL_lossIf 7 = .ok (.sipush (-1001), 3) := by decide +kernel
theorem dL_lossIf_10 : decode cL_lossIf 10 = .ok (.ireturn, 1) := by decide +kernel
theorem dL_lossIf_11 : decode cL_lossIf 11 = .ok (.astore_n 2, 1) := by decide +kernel
theorem dL_lossIf_12 : decode cL_lossIf 12 = .ok (.sipush (-1002), 3) := by decide +kernel
theorem dL_lossIf_15 : decode cL_lossIf 15 = .ok (.ireturn, 1) := by decide +kernel
set_option maxRecDepth 20000 in
theorem ggL_shareIf_X10_shareIfDefault : GoodIn wsL_shareIf wsX10_shareIfDefault := goodIn_ca (goodIn_ca (goodIn_ca (goodIn_ca (goodIn_ca (goodIn_ca (goodIn_r _ [6, 7, 8, 9, 10, 11, 12, 13, 14, 15, 16, 17, 18, 19, 20, 21, 22, 23, 5, 24, 25, 26, 27, 28, 29, 30, 31, 32, 33, 34, 35, 36, 37, 38, 39, 40, 41, 42, 43, 44, 45, 46, 47, 48, 49, 50, 51, 52, 53, 54, 55, 56, 57, 58, 59, 60, 61, 62, 63, 64, 65, 66, 67, 68, 69, 70, 71, 72, 73, 74, 75, 76, 77, 78, 79, 80, 81, 82, 83, 84, 85, 86, 87, 88, 89, 90, 91, 92, 93, 94, 95, 96, 97, 98, 99, 100, 101, 102, 103, 104, 105, 106, 107, 108, 109, 110] (by decide +kernel) (by decide +kernel)) (goodIn_sub (fun _ h => List.mem_cons_of_mem _ (List.mem_append_left _ (List.mem_append_left _ (List.mem_append_left _ (List.mem_append_left _ (List.mem_append_left _ (List.mem_append_right _ h))))))) (by decide +kernel))) (goodIn_sub (fun _ h => List.mem_cons_of_mem _ (List.mem_append_left _ (List.mem_append_left _ (List.mem_append_left _ (List.mem_append_left _ (List.mem_append_right _ h)))))) (by decide +kernel))) (goodIn_sub (fun _ h => List.mem_cons_of_mem _ (List.mem_append_left _ (List.mem_append_left _ (List.mem_append_left _ (List.mem_append_right _ h))))) (by decide +kernel))) (goodIn_sub (fun _ h => List.mem_cons_of_mem _ (List.mem_append_left _ (List.mem_append_left _ (List.mem_append_right _ h)))) (by decide +kernel))) (goodIn_sub (fun _ h => List.mem_cons_of_mem _ (List.mem_append_left _ (List.mem_append_right _ h))) (by decide +kernel))) (goodIn_sub (fun _ h => List.mem_cons_of_mem _ (List.mem_append_right _ h)) (by decide +kernel))
set_option maxRecDepth 20000 in
theorem gL_shareIf_X10_shareIfDefault : GoodIn wsL_shareIf (wsV RL 100 RX10 yX10_shareIfDefault wsX10_shareIfDefault) := goodIn_app (goodIn_of _ (by decide +kernel)) ggL_shareIf_X10_shareIfDefault
theorem dL_shareIf_0 : decode cL_shareIf 0 = .ok (.aload_n 0, 1) := by decide +kernel
theorem dL_shareIf_1 : decode cL_shareIf 1 = .ok (.iload_n 1, 1) := by decide +kernel
theorem dL_shareIf_2 : decode cL_shareIf 2 = .ok (.iload_n 2, 1) := by decide +kernel
theorem dL_shareIf_3 : decode cL_shareIf 3 = .ok (.invokevirtual 100, 3) := by decide +kernel
theorem dL_shareIf_6 : decode cL_shareIf 6 = .ok (.ireturn, 1) := by decide +kernel
theorem dL_shareIf_7 : decode cL_shareIf 7 = .ok (.astore_n 3, 1) := by decide +kernel
theorem dL_shareIf_8 : decode cL_shareIf 8 = .ok (.sipush (-1001), 3) := by decide +kernel
theorem dL_shareIf_11 : decode cL_shareIf 11 = .ok (.ireturn, 1) := by decide +kernel
theorem dL_shareIf_12 : decode cL_shareIf 12 = .ok (.astore_n 3, 1) := by decide +kernel
theorem dL_shareIf_13 : decode cL_shareIf 13 = .ok (.sipush (-1002), 3) := by decide +kernel
theorem dL_shareIf_16 : decode cL_shareIf 16 = .ok (.ireturn, 1) := by decide +kernel
theorem dL_shareIf_17 : decode cL_shareIf 17 = .ok (.astore_n 3, 1) := by decide +kernel
theorem dL_shareIf_18 : decode cL_shareIf 18 = .ok (.sipush (-1003), 3) := by decide +kernel
theorem dL_shareIf_21 : decode cL_shareIf 21 = .ok (.ireturn, 1) := by decide +kernel
set_option maxRecDepth 20000 in
theorem ggL_byPosition_X10_memberByPosition : GoodIn wsL_byPosition wsX10_memberByPosition := goodIn_ca (goodIn_ca (goodIn_r _ [6, 7, 8, 9, 10, 11, 12, 13, 14, 15, 16, 17, 18, 19, 20, 21, 22, 23, 24, 25, 26, 27, 28, 29, 30, 31, 32, 33, 34, 35, 36, 37, 38, 39, 40, 41, 42, 43, 44, 45, 46, 47, 48, 49, 50, 51, 52, 53, 54, 55, 56, 57, 58, 59, 60, 61, 62, 63, 64, 65, 66, 67] (by decide +kernel) (by decide +kernel)) (goodIn_sub (fun _ h => List.mem_cons_of_mem _ (List.mem_append_left _ (List.mem_append_right _ h))) (by decide +kernel))) (goodIn_sub (fun _ h => List.mem_cons_of_mem _ (List.mem_append_right _ h)) (by decide +kernel))
set_option maxRecDepth 20000 in
theorem gL_byPosition_X10_memberByPosition : GoodIn wsL_byPosition (wsV RL 103 RX10 yX10_memberByPosition wsX10_memberByPosition) := goodIn_app (goodIn_of _ (by decide +kernel)) ggL_byPosition_X10_memberByPosition
theorem dL_byPosition_0 : decode cL_byPosition 0 = .ok (.aload_n 0, 1) := by decide +kernel
theorem dL_byPosition_1 : decode cL_byPosition 1 = .ok (.iload_n 1, 1) := by decide +kernel
theorem dL_byPosition_2 : decode cL_byPosition 2 = .ok (.invokevirtual 103, 3) := by decide +kernel
theorem dL_byPosition_5 : decode cL_byPosition 5 = .ok (.ireturn, 1) := by decide +kernel
theorem dL_byPosition_6 : decode cL_byPosition 6 = .ok (.astore_n 2, 1) := by decide +kernel
theorem dL_byPosition_7 : decode cL_byPosition 7 = .ok (.sipush (-1001), 3) := by decide +kernel
theorem dL_byPosition_10 : decode cL_byPosition 10 = .ok (.ireturn, 1) := by decide +kernel
set_option maxRecDepth 20000 in
theorem ggL_meanPosition_X10_meanPosition : GoodIn wsL_meanPosition wsX10_meanPosition := goodIn_ca (goodIn_ca (goodIn_r _ [7, 8, 9, 10, 11, 12, 13, 14, 15, 16, 17, 18, 19, 20, 21, 22, 23, 24, 25, 26, 27, 28, 29, 30, 31, 32, 33, 34, 35, 36, 37, 38, 39, 40, 41, 42, 43, 44, 45, 46, 47, 48, 49, 50, 51, 52, 53, 54, 55, 56, 57, 58, 59] (by decide +kernel) (by decide +kernel)) (goodIn_sub (fun _ h => List.mem_cons_of_mem _ (List.mem_append_left _ (List.mem_append_right _ h))) (by decide +kernel))) (goodIn_sub (fun _ h => List.mem_cons_of_mem _ (List.mem_append_right _ h)) (by decide +kernel))
set_option maxRecDepth 20000 in
theorem gL_meanPosition_X10_meanPosition : GoodIn wsL_meanPosition (wsV RL 106 RX10 yX10_meanPosition wsX10_meanPosition) := goodIn_app (goodIn_of _ (by decide +kernel)) ggL_meanPosition_X10_meanPosition
theorem dL_meanPosition_0 : decode cL_meanPosition 0 = .ok (.aload_n 0, 1) := by decide +kernel
theorem dL_meanPosition_1 : decode cL_meanPosition 1 = .ok (.invokevirtual 106, 3) := by decide +kernel
theorem dL_meanPosition_4 : decode cL_meanPosition 4 = .ok (.dreturn, 1) := by decide +kernel
theorem dL_meanPosition_5 : decode cL_meanPosition 5 = .ok (.astore_n 1, 1) := by decide +kernel
theorem dL_meanPosition_6 : decode cL_meanPosition 6 = .ok (.ldc2_w 112, 3) := by decide +kernel
theorem dL_meanPosition_9 : decode cL_meanPosition 9 = .ok (.dreturn, 1) := by decide +kernel
set_option maxRecDepth 20000 in
theorem ggL_debtShare_X10_debtShare : GoodIn wsL_debtShare wsX10_debtShare := goodIn_ca (goodIn_ca (goodIn_r _ [7, 8, 9, 10, 11, 12, 13, 14, 15, 16, 17, 18, 19, 20, 21, 22, 23, 24, 25, 26, 27, 28, 29, 30, 31, 32, 33, 34, 35, 36, 37, 38] (by decide +kernel) (by decide +kernel)) (goodIn_sub (fun _ h => List.mem_cons_of_mem _ (List.mem_append_left _ (List.mem_append_right _ h))) (by decide +kernel))) (goodIn_sub (fun _ h => List.mem_cons_of_mem _ (List.mem_append_right _ h)) (by decide +kernel))
set_option maxRecDepth 20000 in
theorem gL_debtShare_X10_debtShare : GoodIn wsL_debtShare (wsV RL 114 RX10 yX10_debtShare wsX10_debtShare) := goodIn_app (goodIn_of _ (by decide +kernel)) ggL_debtShare_X10_debtShare
theorem dL_debtShare_0 : decode cL_debtShare 0 = .ok (.aload_n 0, 1) := by decide +kernel
theorem dL_debtShare_1 : decode cL_debtShare 1 = .ok (.invokevirtual 114, 3) := by decide +kernel
theorem dL_debtShare_4 : decode cL_debtShare 4 = .ok (.freturn, 1) := by decide +kernel
theorem dL_debtShare_5 : decode cL_debtShare 5 = .ok (.astore_n 1, 1) := by decide +kernel
theorem dL_debtShare_6 : decode cL_debtShare 6 = .ok (.ldc 118, 2) := by decide +kernel
theorem dL_debtShare_8 : decode cL_debtShare 8 = .ok (.freturn, 1) := by decide +kernel
set_option maxRecDepth 20000 in
theorem ggL_feed_X10_feed : GoodIn wsL_feed wsX10_feed := goodIn_ca (goodIn_ca (goodIn_r _ [6, 7, 8, 9, 10, 11, 12, 13, 14, 15, 16, 17, 18, 19, 20, 21, 22, 23, 24, 25, 26, 27, 28, 29, 30, 31, 32, 33, 34, 35, 36, 37, 38, 39] (by decide +kernel) (by decide +kernel)) (goodIn_sub (fun _ h => List.mem_cons_of_mem _ (List.mem_append_left _ (List.mem_append_right _ h))) (by decide +kernel))) (goodIn_sub (fun _ h => List.mem_cons_of_mem _ (List.mem_append_right _ h)) (by decide +kernel))
set_option maxRecDepth 20000 in
theorem gL_feed_X10_feed : GoodIn wsL_feed (wsV RL 119 RX10 yX10_feed wsX10_feed) := goodIn_app (goodIn_of _ (by decide +kernel)) ggL_feed_X10_feed
theorem dL_feed_0 : decode cL_feed 0 = .ok (.aload_n 0, 1) := by decide +kernel
theorem dL_feed_1 : decode cL_feed 1 = .ok (.iload_n 1, 1) := by decide +kernel
theorem dL_feed_2 : decode cL_feed 2 = .ok (.invokevirtual 119, 3) := by decide +kernel
theorem dL_feed_5 : decode cL_feed 5 = .ok (.ireturn, 1) := by decide +kernel
theorem dL_feed_6 : decode cL_feed 6 = .ok (.astore_n 2, 1) := by decide +kernel
theorem dL_feed_7 : decode cL_feed 7 = .ok (.sipush (-1001), 3) := by decide +kernel
theorem dL_feed_10 : decode cL_feed 10 = .ok (.ireturn, 1) := by decide +kernel
set_option maxRecDepth 20000 in
theorem ggL_run_X10_runCommands : GoodIn wsL_run wsX10_runCommands := goodIn_ca (goodIn_ca (goodIn_ca (goodIn_ca (goodIn_r _ [6, 7, 8, 9, 10, 11, 12, 13, 14, 15, 16, 17, 18, 19, 20, 21, 22, 23, 24, 25, 26, 27, 28, 29, 30, 31, 32, 33, 34, 35, 36, 37, 38, 39, 40, 41, 42, 43, 44, 45, 46, 47, 48, 49, 50, 51, 52, 53, 54, 55, 56, 57, 58, 59, 60, 61, 62, 63, 64, 65, 66, 67, 68, 69, 70, 71, 72, 73, 74, 75, 76, 77, 78, 79, 80, 81, 82, 83, 84, 85, 86, 87, 88, 89, 90, 91, 92, 93, 94, 95, 96, 97, 98, 99, 100, 101, 102, 103, 104, 105, 106, 107, 108, 109, 110, 111, 112, 113, 114, 115, 116, 117, 118, 119, 120, 121, 122, 123, 124, 125, 126, 127, 128, 5, 129, 130, 131, 132, 133, 134, 135, 136, 137, 138, 139, 140, 141, 142, 143, 144, 145, 146, 147, 148, 149, 150, 151, 152, 153, 154, 155, 156, 157, 158, 159, 160, 161, 162, 163, 164, 165, 166, 167, 168, 169, 170, 171, 172, 173, 174, 175, 176, 177, 178, 179, 180, 181, 182, 183, 184, 185, 186, 187, 188, 189, 190, 191, 192, 193, 194, 195, 196, 197, 198, 199, 200, 201, 202, 203, 204, 205, 206, 207, 208, 209, 210, 211, 212, 213, 214, 215, 216, 217, 218, 219, 220, 221, 222, 223, 224, 225, 226, 227, 228, 229, 230, 231, 232, 233, 234, 235, 236, 237, 238, 239, 240, 241, 242, 243, 244, 245, 246, 247, 248, 249, 250, 251, 252, 253, 254, 255, 256, 257, 258, 259, 260, 261, 262, 263, 264, 265, 266, 267, 268, 269, 270, 271, 272, 273, 274, 275, 276, 277, 278, 279, 280, 281, 282, 283, 284, 285, 286, 287, 288, 289, 290, 291, 292, 293, 294, 295, 296, 297, 298, 299, 300, 301, 302, 303, 304, 305, 306, 307, 308, 309, 310, 311, 312, 313, 314, 315, 316, 317, 318, 319, 320, 321, 322, 323, 324, 325, 326, 327, 328, 329, 330, 331, 332, 333, 334, 335, 336, 337, 338, 339, 340, 341, 342, 343, 344, 345, 346, 347, 348] (by decide +kernel) (by decide +kernel)) (goodIn_sub (fun _ h => List.mem_cons_of_mem _ (List.mem_append_left _ (List.mem_append_left _ (List.mem_append_left _ (List.mem_append_right _ h))))) (by decide +kernel))) (goodIn_sub (fun _ h => List.mem_cons_of_mem _ (List.mem_append_left _ (List.mem_append_left _ (List.mem_append_right _ h)))) (by decide +kernel))) (goodIn_sub (fun _ h => List.mem_cons_of_mem _ (List.mem_append_left _ (List.mem_append_right _ h))) (by decide +kernel))) (goodIn_sub (fun _ h => List.mem_cons_of_mem _ (List.mem_append_right _ h)) (by decide +kernel))
set_option maxRecDepth 20000 in
theorem gL_run_X10_runCommands : GoodIn wsL_run (wsV RL 123 RX10 yX10_runCommands wsX10_runCommands) := goodIn_app (goodIn_of _ (by decide +kernel)) ggL_run_X10_runCommands
theorem dL_run_0 : decode cL_run 0 = .ok (.aload_n 0, 1) := by decide +kernel
theorem dL_run_1 : decode cL_run 1 = .ok (.invokevirtual 123, 3) := by decide +kernel
theorem dL_run_4 : decode cL_run 4 = .ok (.ireturn, 1) := by decide +kernel
theorem dL_run_5 : decode cL_run 5 = .ok (.astore_n 1, 1) := by decide +kernel
theorem dL_run_6 : decode cL_run 6 = .ok (.sipush (-1001), 3) := by decide +kernel
theorem dL_run_9 : decode cL_run 9 = .ok (.ireturn, 1) := by decide +kernel
theorem dL_run_10 : decode cL_run 10 = .ok (.astore_n 1, 1) := by decide +kernel
theorem dL_run_11 : decode cL_run 11 = .ok (.sipush (-1002), 3) := by decide +kernel
theorem dL_run_14 : decode cL_run 14 = .ok (.ireturn, 1) := by decide +kernel
set_option maxRecDepth 20000 in
theorem ggL_errorPosition_X10_errorPosition : GoodIn wsL_errorPosition wsX10_errorPosition := goodIn_ca (goodIn_r _ [6, 7, 8, 9, 10, 11, 12, 13, 14, 15, 16, 17, 18, 19, 20, 21] (by decide +kernel) (by decide +kernel)) (goodIn_sub (fun _ h => List.mem_cons_of_mem _ (List.mem_append_right _ h)) (by decide +kernel))
set_option maxRecDepth 20000 in
theorem gL_errorPosition_X10_errorPosition : GoodIn wsL_errorPosition (wsV RL 126 RX10 yX10_errorPosition wsX10_errorPosition) := goodIn_app (goodIn_of _ (by decide +kernel)) ggL_errorPosition_X10_errorPosition
theorem dL_errorPosition_0 : decode cL_errorPosition 0 = .ok (.aload_n 0, 1) := by decide +kernel
theorem dL_errorPosition_1 : decode cL_errorPosition 1 = .ok (.invokevirtual 126, 3) := by decide +kernel
theorem dL_errorPosition_4 : decode cL_errorPosition 4 = .ok (.ireturn, 1) := by decide +kernel
theorem dL_errorPosition_5 : decode cL_errorPosition 5 = .ok (.astore_n 1, 1) := by decide +kernel
theorem dL_errorPosition_6 : decode cL_errorPosition 6 = .ok (.sipush (-1001), 3) := by decide +kernel
theorem dL_errorPosition_9 : decode cL_errorPosition 9 = .ok (.ireturn, 1) := by decide +kernel
set_option maxRecDepth 20000 in
theorem ggL_failedCommand_X10_failedCommand : GoodIn wsL_failedCommand wsX10_failedCommand := goodIn_ca (goodIn_r _ [6, 7, 8, 9, 10, 11, 12, 13, 14, 15, 16, 17, 18, 19, 20, 21] (by decide +kernel) (by decide +kernel)) (goodIn_sub (fun _ h => List.mem_cons_of_mem _ (List.mem_append_right _ h)) (by decide +kernel))
set_option maxRecDepth 20000 in
theorem gL_failedCommand_X10_failedCommand : GoodIn wsL_failedCommand (wsV RL 129 RX10 yX10_failedCommand wsX10_failedCommand) := goodIn_app (goodIn_of _ (by decide +kernel)) ggL_failedCommand_X10_failedCommand
theorem dL_failedCommand_0 : decode cL_failedCommand 0 = .ok (.aload_n 0, 1) := by decide +kernel
theorem dL_failedCommand_1 : decode cL_failedCommand 1 = .ok (.invokevirtual 129, 3) := by decide +kernel
theorem dL_failedCommand_4 : decode cL_failedCommand 4 = .ok (.ireturn, 1) := by decide +kernel
theorem dL_failedCommand_5 : decode cL_failedCommand 5 = .ok (.astore_n 1, 1) := by decide +kernel
theorem dL_failedCommand_6 : decode cL_failedCommand 6 = .ok (.sipush (-1001), 3) := by decide +kernel
theorem dL_failedCommand_9 : decode cL_failedCommand 9 = .ok (.ireturn, 1) := by decide +kernel
set_option maxRecDepth 20000 in
theorem ggL_writeDebts_X10_writeDebts : GoodIn wsL_writeDebts wsX10_writeDebts := goodIn_ca (goodIn_ca (goodIn_ca (goodIn_ca (goodIn_ca (goodIn_r _ [6, 7, 8, 9, 10, 11, 12, 13, 14, 15, 16, 17, 18, 19, 20, 21, 22, 5, 23, 24, 25, 26, 27, 28, 29, 30, 31, 32, 33, 34, 35, 36, 37, 38, 39, 40, 41, 42, 43, 44, 45, 46, 47, 48, 49, 50, 51, 52, 53, 54, 55, 56, 57, 58, 59, 60, 61, 62, 63, 64, 65, 66, 67, 68, 69, 70, 71, 72, 73, 74, 75, 76, 77, 78, 79, 80, 81, 82, 83, 84, 85, 86, 87, 88, 89, 90, 91, 92, 93, 94, 95, 96, 97, 98, 99, 100, 101, 102, 103, 104, 105, 106, 107, 108, 109, 110, 111, 112, 113, 114, 115, 116, 117, 118, 119, 120, 121, 122, 123, 124, 125, 126, 127, 128, 129, 130, 131, 132, 133, 134, 135, 136, 137, 138, 139, 140, 141, 142, 143, 144, 145, 146, 147, 148, 149, 150, 151, 152, 153, 154, 155, 156, 157, 158, 159, 160, 161, 162, 163, 164, 165, 166, 167, 168, 169, 170, 171, 172, 173, 174, 175, 176, 177, 178, 179, 180, 181, 182, 183, 184, 185, 186, 187, 188, 189, 190, 191, 192, 193, 194, 195, 196, 197, 198, 199, 200, 201, 202, 203, 204, 205, 206, 207, 208, 209, 210, 211, 212, 213, 214, 215, 216, 217, 218, 219, 220, 221, 222, 223, 224, 225, 226, 227, 228, 229, 230, 231, 232, 233, 234, 235, 236, 237, 238, 239, 240, 241, 242, 243, 244, 245, 246, 247, 248, 249, 250, 251, 252, 253, 254, 255, 256, 257, 258, 259, 260, 261, 262, 263, 264, 265, 266, 267] (by decide +kernel) (by decide +kernel)) (goodIn_sub (fun _ h => List.mem_cons_of_mem _ (List.mem_append_left _ (List.mem_append_left _ (List.mem_append_left _ (List.mem_append_left _ (List.mem_append_right _ h)))))) (by decide +kernel))) (goodIn_sub (fun _ h => List.mem_cons_of_mem _ (List.mem_append_left _ (List.mem_append_left _ (List.mem_append_left _ (List.mem_append_right _ h))))) (by decide +kernel))) (goodIn_sub (fun _ h => List.mem_cons_of_mem _ (List.mem_append_left _ (List.mem_append_left _ (List.mem_append_right _ h)))) (by decide +kernel))) (goodIn_sub (fun _ h => List.mem_cons_of_mem _ (List.mem_append_left _ (List.mem_append_right _ h))) (by decide +kernel))) (goodIn_sub (fun _ h => List.mem_cons_of_mem _ (List.mem_append_right _ h)) (by decide +kernel))
set_option maxRecDepth 20000 in
theorem gL_writeDebts_X10_writeDebts : GoodIn wsL_writeDebts (wsV RL 132 RX10 yX10_writeDebts wsX10_writeDebts) := goodIn_app (goodIn_of _ (by decide +kernel)) ggL_writeDebts_X10_writeDebts
theorem dL_writeDebts_0 : decode cL_writeDebts 0 = .ok (.aload_n 0, 1) := by decide +kernel
theorem dL_writeDebts_1 : decode cL_writeDebts 1 = .ok (.iload_n 1, 1) := by decide +kernel
theorem dL_writeDebts_2 : decode cL_writeDebts 2 = .ok (.invokevirtual 132, 3) := by decide +kernel
theorem dL_writeDebts_5 : decode cL_writeDebts 5 = .ok (.ireturn, 1) := by decide +kernel
theorem dL_writeDebts_6 : decode cL_writeDebts 6 = .ok (.astore_n 2, 1) := by decide +kernel
theorem dL_writeDebts_7 : decode cL_writeDebts 7 = .ok (.sipush (-1001), 3) := by decide +kernel
theorem dL_writeDebts_10 : decode cL_writeDebts 10 = .ok (.ireturn, 1) := by decide +kernel
set_option maxRecDepth 20000 in
theorem ggL_outputChar_X10_outputChar : GoodIn wsL_outputChar wsX10_outputChar := goodIn_ca (goodIn_r _ [6, 7, 8, 9, 10, 11, 12, 13, 14, 15, 16, 17, 18, 19, 20, 21, 22, 23, 24, 25, 26, 27, 28, 29, 30, 31, 32, 33, 34, 35, 36, 37, 38, 39, 40, 41, 42, 43, 44, 45, 46, 47, 48, 49, 50, 51, 52, 53, 54, 55, 56, 57, 58, 59, 60, 61, 62, 63, 64, 65, 66, 67, 68, 69, 70] (by decide +kernel) (by decide +kernel)) (goodIn_sub (fun _ h => List.mem_cons_of_mem _ (List.mem_append_right _ h)) (by decide +kernel))
set_option maxRecDepth 20000 in
theorem gL_outputChar_X10_outputChar : GoodIn wsL_outputChar (wsV RL 135 RX10 yX10_outputChar wsX10_outputChar) := goodIn_app (goodIn_of _ (by decide +kernel)) ggL_outputChar_X10_outputChar
theorem dL_outputChar_0 : decode cL_outputChar 0 = .ok (.aload_n 0, 1) := by decide +kernel
theorem dL_outputChar_1 : decode cL_outputChar 1 = .ok (.iload_n 1, 1) := by decide +kernel
theorem dL_outputChar_2 : decode cL_outputChar 2 = .ok (.invokevirtual 135, 3) := by decide +kernel
theorem dL_outputChar_5 : decode cL_outputChar 5 = .ok (.ireturn, 1) := by decide +kernel
theorem dL_outputChar_6 : decode cL_outputChar 6 = .ok (.astore_n 2, 1) := by decide +kernel
theorem dL_outputChar_7 : decode cL_outputChar 7 = .ok (.sipush (-1001), 3) := by decide +kernel
theorem dL_outputChar_10 : decode cL_outputChar 10 = .ok (.ireturn, 1) := by decide +kernel
set_option maxRecDepth 20000 in
theorem ggL_undo_X10_undo : GoodIn wsL_undo wsX10_undo := goodIn_ca (goodIn_ca (goodIn_r _ [6, 7, 8, 9, 10, 11, 12, 13, 14, 15, 16, 17, 18, 19, 20, 21, 22, 23, 24, 25, 26, 27, 28, 29, 30, 31, 32, 33, 34, 35, 36, 37, 38, 39, 40, 41, 42, 43, 44, 45, 46, 47, 48, 49, 50, 51, 52, 53, 54, 55, 56, 57, 58, 59, 60, 61, 62] (by decide +kernel) (by decide +kernel)) (goodIn_sub (fun _ h => List.mem_cons_of_mem _ (List.mem_append_left _ (List.mem_append_right _ h))) (by decide +kernel))) (goodIn_sub (fun _ h => List.mem_cons_of_mem _ (List.mem_append_right _ h)) (by decide +kernel))
set_option maxRecDepth 20000 in
theorem gL_undo_X10_undo : GoodIn wsL_undo (wsV RL 139 RX10 yX10_undo wsX10_undo) := goodIn_app (goodIn_of _ (by decide +kernel)) ggL_undo_X10_undo
theorem dL_undo_0 : decode cL_undo 0 = .ok (.aload_n 0, 1) := by decide +kernel
theorem dL_undo_1 : decode cL_undo 1 = .ok (.invokevirtual 139, 3) := by decide +kernel
theorem dL_undo_4 : decode cL_undo 4 = .ok (.ireturn, 1) := by decide +kernel
theorem dL_undo_5 : decode cL_undo 5 = .ok (.astore_n 1, 1) := by decide +kernel
theorem dL_undo_6 : decode cL_undo 6 = .ok (.sipush (-1001), 3) := by decide +kernel
theorem dL_undo_9 : decode cL_undo 9 = .ok (.ireturn, 1) := by decide +kernel
set_option maxRecDepth 20000 in
theorem ggL_restore_X10_restore : GoodIn wsL_restore wsX10_restore := goodIn_ca (goodIn_ca (goodIn_r _ [6, 7, 8, 9, 10, 11, 12, 13, 14, 15, 16, 17, 18, 19, 20, 21, 22, 23, 24, 25, 26, 27, 28, 29, 30, 31, 32, 33, 34, 35, 36, 37, 38, 39, 40, 41, 42, 43, 44, 45, 46, 47, 48, 49, 50, 51, 52, 53, 54, 55, 56, 57, 58, 59, 60, 61, 62] (by decide +kernel) (by decide +kernel)) (goodIn_sub (fun _ h => List.mem_cons_of_mem _ (List.mem_append_left _ (List.mem_append_right _ h))) (by decide +kernel))) (goodIn_sub (fun _ h => List.mem_cons_of_mem _ (List.mem_append_right _ h)) (by decide +kernel))
set_option maxRecDepth 20000 in
theorem gL_restore_X10_restore : GoodIn wsL_restore (wsV RL 142 RX10 yX10_restore wsX10_restore) := goodIn_app (goodIn_of _ (by decide +kernel)) ggL_restore_X10_restore
theorem dL_restore_0 : decode cL_restore 0 = .ok (.aload_n 0, 1) := by decide +kernel
theorem dL_restore_1 : decode cL_restore 1 = .ok (.invokevirtual 142, 3) := by decide +kernel
theorem dL_restore_4 : decode cL_restore 4 = .ok (.ireturn, 1) := by decide +kernel
theorem dL_restore_5 : decode cL_restore 5 = .ok (.astore_n 1, 1) := by decide +kernel
theorem dL_restore_6 : decode cL_restore 6 = .ok (.sipush (-1001), 3) := by decide +kernel
theorem dL_restore_9 : decode cL_restore 9 = .ok (.ireturn, 1) := by decide +kernel
set_option maxRecDepth 20000 in
theorem ggL_runs_J0_length_8abf5 : GoodIn wsL_runs wsJ0_length_8abf5 := goodIn_r _ [5, 6, 7, 8, 9, 4, 10, 11, 12, 331, 332, 333, 334] (by decide +kernel) (by decide +kernel)
set_option maxRecDepth 20000 in
theorem gL_runs_J0_length_8abf5 : GoodIn wsL_runs (wsV RL 145 RJ0 yJ0_length_8abf5 wsJ0_length_8abf5) := goodIn_app (goodIn_of _ (by decide +kernel)) ggL_runs_J0_length_8abf5
set_option maxRecDepth 20000 in
theorem ggL_runs_J0_charAt_5068e : GoodIn wsL_runs wsJ0_charAt_5068e := goodIn_r _ [16, 6, 17, 18, 19, 4, 20, 11, 12, 21, 22, 23, 24, 25, 26, 27, 28, 29, 30, 31, 32, 33, 34, 35, 36, 37, 38, 39, 40, 41, 42, 43, 44, 45, 46, 47, 48, 49, 331, 332, 333, 334] (by decide +kernel) (by decide +kernel)
set_option maxRecDepth 20000 in
theorem gL_runs_J0_charAt_5068e : GoodIn wsL_runs (wsV RL 150 RJ0 yJ0_charAt_5068e wsJ0_charAt_5068e) := goodIn_app (goodIn_of _ (by decide +kernel)) ggL_runs_J0_charAt_5068e
set_option maxRecDepth 20000 in
theorem ggL_runs_L_feed : GoodIn wsL_runs wsL_feed := goodIn_ca (goodIn_ca (goodIn_r _ [53, 54, 55, 56, 57, 58, 59, 60, 61, 62, 63, 64, 65, 66, 67, 68, 69, 70, 71, 72, 73, 335, 336, 337, 338, 339, 340, 341, 342, 343, 344, 345, 346, 347, 348, 349, 350, 351, 352, 353] (by decide +kernel) (by decide +kernel)) (goodIn_sub (fun _ h => List.mem_cons_of_mem _ (List.mem_append_left _ (List.mem_append_left _ (List.mem_append_left _ (List.mem_append_left _ (List.mem_append_right _ h)))))) (by decide +kernel))) (goodIn_sub (fun _ h => List.mem_cons_of_mem _ (List.mem_append_left _ (List.mem_append_left _ (List.mem_append_left _ (List.mem_append_right _ h))))) (by decide +kernel))
set_option maxRecDepth 20000 in
theorem gL_runs_L_feed : GoodIn wsL_runs (va_wsS RL 153 yL_feed wsL_feed) := goodIn_app (goodIn_of _ (by decide +kernel)) ggL_runs_L_feed
set_option maxRecDepth 20000 in
theorem ggL_runs_L_run : GoodIn wsL_runs wsL_run := goodIn_ca (goodIn_ca (goodIn_ca (goodIn_ca (goodIn_r _ [76, 77, 78, 79, 80, 58, 81, 82, 83, 84, 85, 62, 86, 87, 88, 89, 90, 91, 92, 93, 66, 94, 95, 96, 68, 97, 98, 99, 100, 101, 102, 103, 104, 105, 106, 107, 108, 109, 110, 111, 112, 2, 3, 4, 5, 6, 7, 8, 9, 10, 11, 12, 113, 14, 15, 16, 17, 18, 19, 20, 21, 22, 23, 24, 25, 26, 27, 28, 29, 30, 31, 32, 33, 34, 35, 36, 37, 38, 39, 40, 41, 42, 43, 44, 45, 46, 47, 48, 49, 114, 115, 116, 117, 73, 118, 119, 120, 121, 122, 123, 124, 125, 126, 127, 128, 129, 130, 131, 132, 133, 134, 135, 136, 137, 138, 139, 140, 141, 142, 143, 144, 145, 146, 147, 148, 149, 150, 151, 152, 153, 154, 155, 156, 157, 158, 159, 160, 161, 162, 163, 164, 165, 166, 167, 168, 169, 170, 171, 172, 173, 174, 175, 176, 177, 178, 179, 180, 181, 182, 183, 184, 185, 186, 187, 188, 189, 190, 191, 192, 193, 194, 195, 196, 197, 198, 199, 200, 201, 202, 203, 204, 205, 206, 207, 208, 209, 210, 211, 212, 213, 214, 215, 216, 217, 218, 219, 220, 221, 222, 223, 224, 225, 226, 227, 228, 229, 230, 231, 232, 233, 234, 235, 236, 237, 238, 239, 240, 241, 242, 243, 244, 245, 246, 247, 248, 249, 250, 251, 252, 253, 254, 255, 256, 257, 258, 259, 260, 261, 262, 263, 264, 265, 266, 267, 268, 269, 270, 271, 272, 273, 274, 275, 276, 277, 278, 279, 280, 281, 282, 283, 284, 285, 286, 287, 288, 289, 290, 291, 292, 293, 294, 295, 296, 297, 298, 299, 300, 301, 302, 303, 304, 305, 306, 307, 308, 309, 310, 311, 312, 313, 314, 315, 316, 317, 318, 319, 320, 321, 322, 323, 324, 325, 326, 327, 328, 329, 330, 335, 336, 337, 338, 339, 340, 341, 342, 343, 344, 345, 346, 347, 348, 349, 350, 351, 352, 353, 331, 332, 333, 334, 354, 355, 356, 357, 358, 359, 360, 361, 362, 363, 364, 365, 366, 367, 368, 369, 370, 371, 372] (by decide +kernel) (by decide +kernel)) (goodIn_sub (fun _ h => List.mem_cons_of_mem _ (List.mem_append_left _ (List.mem_append_left _ (List.mem_append_right _ h)))) (by decide +kernel))) (goodIn_sub (fun _ h => List.mem_cons_of_mem _ (List.mem_append_left _ (List.mem_append_right _ h))) (by decide +kernel))) (goodIn_sub (fun _ h => List.mem_cons_of_mem _ (List.mem_append_left _ (List.mem_append_left _ (List.mem_append_left _ (List.mem_append_right _ h))))) (by decide +kernel))) (goodIn_sub (fun _ h => List.mem_cons_of_mem _ (List.mem_append_right _ h)) (by decide +kernel))
set_option maxRecDepth 20000 in
theorem gL_runs_L_run : GoodIn wsL_runs (va_wsS RL 158 yL_run wsL_run) := goodIn_app (goodIn_of _ (by decide +kernel)) ggL_runs_L_run
theorem dL_runs_0 : decode cL_runs 0 = .ok (.iconst 0, 1) := by decide +kernel
theorem dL_runs_1 : decode cL_runs 1 = .ok (.istore_n 2, 1) := by decide +kernel
theorem dL_runs_2 : decode cL_runs 2 = .ok (.iload_n 2, 1) := by decide +kernel
theorem dL_runs_3 : decode cL_runs 3 = .ok (.aload_n 1, 1) := by decide +kernel
theorem dL_runs_4 : decode cL_runs 4 = .ok (.invokevirtual 145, 3) := by decide +kernel
theorem dL_runs_7 : decode cL_runs 7 = .ok (.if_icmp .ge 28, 3) := by decide +kernel
theorem dL_runs_10 : decode cL_runs 10 = .ok (.aload_n 0, 1) := by decide +kernel
theorem dL_runs_11 : decode cL_runs 11 = .ok (.aload_n 1, 1) := by decide +kernel
theorem dL_runs_12 : decode cL_runs 12 = .ok (.iload_n 2, 1) := by decide +kernel
theorem dL_runs_13 : decode cL_runs 13 = .ok (.invokevirtual 150, 3) := by decide +kernel
theorem dL_runs_16 : decode cL_runs 16 = .ok (.invokestatic 153, 3) := by decide +kernel
theorem dL_runs_19 : decode cL_runs 19 = .ok (.iload_n 2, 1) := by decide +kernel
theorem dL_runs_20 : decode cL_runs 20 = .ok (.iconst 1, 1) := by decide +kernel
theorem dL_runs_21 : decode cL_runs 21 = .ok (.iadd, 1) := by decide +kernel
theorem dL_runs_22 : decode cL_runs 22 = .ok (.if_icmp .eq 7, 3) := by decide +kernel
theorem dL_runs_25 : decode cL_runs 25 = .ok (.sipush (-9999), 3) := by decide +kernel
theorem dL_runs_28 : decode cL_runs 28 = .ok (.ireturn, 1) := by decide +kernel
theorem dL_runs_29 : decode cL_runs 29 = .ok (.iinc 2 1, 3) := by decide +kernel
theorem dL_runs_32 : decode cL_runs 32 = .ok (.goto (-30), 3) := by decide +kernel
theorem dL_runs_35 : decode cL_runs 35 = .ok (.aload_n 0, 1) := by decide +kernel
theorem dL_runs_36 : decode cL_runs 36 = .ok (.invokestatic 158, 3) := by decide +kernel
theorem dL_runs_39 : decode cL_runs 39 = .ok (.ireturn, 1) := by decide +kernel
set_option maxRecDepth 20000 in
theorem ggL_makes_L_at : GoodIn wsL_makes wsL_at := goodIn_ca (goodIn_r _ [4] (by decide +kernel) (by decide +kernel)) (goodIn_sub (fun _ h => List.mem_cons_of_mem _ (List.mem_append_left _ (List.mem_append_left _ (List.mem_append_left _ (List.mem_append_left _ (List.mem_append_left _ (List.mem_append_right _ h))))))) (by decide +kernel))
set_option maxRecDepth 20000 in
theorem gL_makes_L_at : GoodIn wsL_makes (va_wsS RL 165 yL_at wsL_at) := goodIn_app (goodIn_of _ (by decide +kernel)) ggL_makes_L_at
set_option maxRecDepth 20000 in
theorem ggL_makes_L_some : GoodIn wsL_makes wsL_some := goodIn_ca (goodIn_r _ [7] (by decide +kernel) (by decide +kernel)) (goodIn_sub (fun _ h => List.mem_cons_of_mem _ (List.mem_append_left _ (List.mem_append_left _ (List.mem_append_left _ (List.mem_append_left _ (List.mem_append_right _ h)))))) (by decide +kernel))
set_option maxRecDepth 20000 in
theorem gL_makes_L_some : GoodIn wsL_makes (va_wsS RL 169 yL_some wsL_some) := goodIn_app (goodIn_of _ (by decide +kernel)) ggL_makes_L_some
set_option maxRecDepth 20000 in
theorem ggL_makes_L_addMember : GoodIn wsL_makes wsL_addMember := goodIn_ca (goodIn_ca (goodIn_ca (goodIn_ca (goodIn_ca (goodIn_r _ [10, 11, 12, 13, 14, 15, 16, 17, 18, 19, 20, 21, 22, 23, 24, 25, 26, 27, 28, 29, 30, 31, 32, 33, 34, 35, 36, 37, 38, 39, 40, 41, 42, 43, 44, 45, 46, 47, 48, 49, 50, 51, 52, 53, 54, 55, 56, 57, 58, 59, 60, 61, 62, 63, 64, 65, 66, 67, 68, 69, 70, 71, 72, 73, 74, 143, 144, 145, 146, 147, 148, 149, 150, 151, 152, 153, 154, 155, 156, 157, 158, 159, 160, 161, 162, 163, 164, 165, 166, 167] (by decide +kernel) (by decide +kernel)) (goodIn_sub (fun _ h => List.mem_cons_of_mem _ (List.mem_append_left _ (List.mem_append_left _ (List.mem_append_left _ (List.mem_append_right _ h))))) (by decide +kernel))) (goodIn_sub (fun _ h => List.mem_cons_of_mem _ (List.mem_append_left _ (List.mem_append_left _ (List.mem_append_right _ h)))) (by decide +kernel))) (goodIn_sub (fun _ h => List.mem_cons_of_mem _ (List.mem_append_left _ (List.mem_append_right _ h))) (by decide +kernel))) (goodIn_sub (fun _ h => List.mem_cons_of_mem _ (List.mem_append_right _ h)) (by decide +kernel))) (goodIn_sub (fun _ h => List.mem_cons_of_mem _ (List.mem_append_left _ (List.mem_append_left _ (List.mem_append_left _ (List.mem_append_left _ (List.mem_append_left _ (List.mem_append_right _ h))))))) (by decide +kernel))
set_option maxRecDepth 20000 in
theorem gL_makes_L_addMember : GoodIn wsL_makes (va_wsS RL 172 yL_addMember wsL_addMember) := goodIn_app (goodIn_of _ (by decide +kernel)) ggL_makes_L_addMember
set_option maxRecDepth 20000 in
theorem ggL_makes_L_setHaircut : GoodIn wsL_makes wsL_setHaircut := goodIn_ca (goodIn_ca (goodIn_ca (goodIn_ca (goodIn_ca (goodIn_r _ [77, 78, 79, 80, 81, 15, 82, 18, 17, 83, 84, 21, 85, 86, 23, 25, 26, 27, 28, 29, 30, 31, 32, 33, 34, 35, 36, 37, 38, 39, 40, 41, 42, 43, 44, 45, 46, 47, 48, 49, 50, 51, 52, 53, 54, 55, 56, 57, 58, 59, 60, 61, 62, 63, 64, 65, 66, 67, 68, 69, 70, 87, 88, 89, 90, 143, 144, 145, 146, 147, 148, 149, 150, 151, 152, 153, 154, 165, 166, 167, 155, 156, 157, 158, 159, 160, 161, 162, 163, 164] (by decide +kernel) (by decide +kernel)) (goodIn_sub (fun _ h => List.mem_cons_of_mem _ (List.mem_append_left _ (List.mem_append_left _ (List.mem_append_left _ (List.mem_append_right _ h))))) (by decide +kernel))) (goodIn_sub (fun _ h => List.mem_cons_of_mem _ (List.mem_append_left _ (List.mem_append_left _ (List.mem_append_right _ h)))) (by decide +kernel))) (goodIn_sub (fun _ h => List.mem_cons_of_mem _ (List.mem_append_left _ (List.mem_append_right _ h))) (by decide +kernel))) (goodIn_sub (fun _ h => List.mem_cons_of_mem _ (List.mem_append_right _ h)) (by decide +kernel))) (goodIn_sub (fun _ h => List.mem_cons_of_mem _ (List.mem_append_left _ (List.mem_append_left _ (List.mem_append_left _ (List.mem_append_left _ (List.mem_append_left _ (List.mem_append_right _ h))))))) (by decide +kernel))
set_option maxRecDepth 20000 in
theorem gL_makes_L_setHaircut : GoodIn wsL_makes (va_wsS RL 174 yL_setHaircut wsL_setHaircut) := goodIn_app (goodIn_of _ (by decide +kernel)) ggL_makes_L_setHaircut
set_option maxRecDepth 20000 in
theorem ggL_makes_L_addDebt : GoodIn wsL_makes wsL_addDebt := goodIn_ca (goodIn_ca (goodIn_ca (goodIn_ca (goodIn_ca (goodIn_r _ [93, 94, 95, 96, 97, 15, 98, 17, 18, 99, 100, 21, 101, 23, 24, 102, 103, 104, 105, 86, 106, 107, 108, 109, 110, 111, 112, 55, 113, 67, 114, 115, 116, 117, 118, 119, 120, 121, 122, 123, 124, 57, 25, 26, 27, 28, 29, 30, 31, 32, 33, 34, 35, 36, 37, 38, 39, 40, 41, 42, 43, 44, 45, 46, 47, 48, 49, 50, 51, 52, 53, 54, 56, 58, 59, 60, 61, 62, 63, 64, 65, 66, 68, 69, 70, 125, 126, 127, 128, 143, 144, 145, 146, 147, 148, 149, 150, 151, 152, 153, 154, 155, 156, 157, 158, 159, 160, 161, 162, 163, 164, 165, 166, 167] (by decide +kernel) (by decide +kernel)) (goodIn_sub (fun _ h => List.mem_cons_of_mem _ (List.mem_append_left _ (List.mem_append_left _ (List.mem_append_left _ (List.mem_append_left _ (List.mem_append_left _ (List.mem_append_right _ h))))))) (by decide +kernel))) (goodIn_sub (fun _ h => List.mem_cons_of_mem _ (List.mem_append_left _ (List.mem_append_left _ (List.mem_append_left _ (List.mem_append_right _ h))))) (by decide +kernel))) (goodIn_sub (fun _ h => List.mem_cons_of_mem _ (List.mem_append_left _ (List.mem_append_left _ (List.mem_append_right _ h)))) (by decide +kernel))) (goodIn_sub (fun _ h => List.mem_cons_of_mem _ (List.mem_append_left _ (List.mem_append_right _ h))) (by decide +kernel))) (goodIn_sub (fun _ h => List.mem_cons_of_mem _ (List.mem_append_right _ h)) (by decide +kernel))
set_option maxRecDepth 20000 in
theorem gL_makes_L_addDebt : GoodIn wsL_makes (va_wsS RL 176 yL_addDebt wsL_addDebt) := goodIn_app (goodIn_of _ (by decide +kernel)) ggL_makes_L_addDebt
set_option maxRecDepth 20000 in
theorem ggL_makes_L_pledge : GoodIn wsL_makes wsL_pledge := goodIn_ca (goodIn_ca (goodIn_ca (goodIn_ca (goodIn_ca (goodIn_r _ [131, 94, 132, 133, 134, 15, 135, 17, 18, 136, 137, 21, 138, 109, 86, 24, 23, 110, 111, 112, 55, 113, 67, 114, 115, 116, 25, 26, 27, 28, 29, 30, 31, 32, 33, 34, 35, 36, 37, 38, 39, 40, 41, 42, 43, 44, 45, 46, 47, 48, 49, 50, 51, 52, 53, 54, 56, 57, 58, 59, 60, 61, 62, 63, 64, 65, 66, 68, 69, 70, 139, 140, 141, 142, 143, 144, 145, 146, 147, 148, 149, 150, 151, 152, 153, 154, 155, 156, 157, 158, 159, 160, 161, 162, 163, 164, 165, 166, 167] (by decide +kernel) (by decide +kernel)) (goodIn_sub (fun _ h => List.mem_cons_of_mem _ (List.mem_append_left _ (List.mem_append_left _ (List.mem_append_left _ (List.mem_append_left _ (List.mem_append_left _ (List.mem_append_right _ h))))))) (by decide +kernel))) (goodIn_sub (fun _ h => List.mem_cons_of_mem _ (List.mem_append_left _ (List.mem_append_left _ (List.mem_append_left _ (List.mem_append_right _ h))))) (by decide +kernel))) (goodIn_sub (fun _ h => List.mem_cons_of_mem _ (List.mem_append_left _ (List.mem_append_left _ (List.mem_append_right _ h)))) (by decide +kernel))) (goodIn_sub (fun _ h => List.mem_cons_of_mem _ (List.mem_append_left _ (List.mem_append_right _ h))) (by decide +kernel))) (goodIn_sub (fun _ h => List.mem_cons_of_mem _ (List.mem_append_right _ h)) (by decide +kernel))
set_option maxRecDepth 20000 in
theorem gL_makes_L_pledge : GoodIn wsL_makes (va_wsS RL 179 yL_pledge wsL_pledge) := goodIn_app (goodIn_of _ (by decide +kernel)) ggL_makes_L_pledge
theorem dL_makes_0 : decode cL_makes 0 = .ok (.iconst 3, 1) := by decide +kernel
theorem dL_makes_1 : decode cL_makes 1 = .ok (.aload_n 1, 1) := by decide +kernel
theorem dL_makes_2 : decode cL_makes 2 = .ok (.iconst 0, 1) := by decide +kernel
theorem dL_makes_3 : decode cL_makes 3 = .ok (.invokestatic 165, 3) := by decide +kernel
theorem dL_makes_6 : decode cL_makes 6 = .ok (.bipush 6, 2) := by decide +kernel
theorem dL_makes_8 : decode cL_makes 8 = .ok (.invokestatic 169, 3) := by decide +kernel
theorem dL_makes_11 : decode cL_makes 11 = .ok (.iadd, 1) := by decide +kernel
theorem dL_makes_12 : decode cL_makes 12 = .ok (.istore_n 2, 1) := by decide +kernel
theorem dL_makes_13 : decode cL_makes 13 = .ok (.iconst 0, 1) := by decide +kernel
theorem dL_makes_14 : decode cL_makes 14 = .ok (.istore_n 3, 1) := by decide +kernel
theorem dL_makes_15 : decode cL_makes 15 = .ok (.iload_n 3, 1) := by decide +kernel
theorem dL_makes_16 : decode cL_makes 16 = .ok (.iload_n 2, 1) := by decide +kernel
theorem dL_makes_17 : decode cL_makes 17 = .ok (.if_icmp .ge 19, 3) := by decide +kernel
theorem dL_makes_20 : decode cL_makes 20 = .ok (.aload_n 0, 1) := by decide +kernel
theorem dL_makes_21 : decode cL_makes 21 = .ok (.invokestatic 172, 3) := by decide +kernel
theorem dL_makes_24 : decode cL_makes 24 = .ok (.iload_n 3, 1) := by decide +kernel
theorem dL_makes_25 : decode cL_makes 25 = .ok (.if_icmp .eq 5, 3) := by decide +kernel
theorem dL_makes_28 : decode cL_makes 28 = .ok (.iconst 0, 1) := by decide +kernel
theorem dL_makes_29 : decode cL_makes 29 = .ok (.ireturn, 1) := by decide +kernel
theorem dL_makes_30 : decode cL_makes 30 = .ok (.iinc 3 1, 3) := by decide +kernel
theorem dL_makes_33 : decode cL_makes 33 = .ok (.goto (-18), 3) := by decide +kernel
theorem dL_makes_36 : decode cL_makes 36 = .ok (.aload_n 0, 1) := by decide +kernel
theorem dL_makes_37 : decode cL_makes 37 = .ok (.aload_n 1, 1) := by decide +kernel
theorem dL_makes_38 : decode cL_makes 38 = .ok (.iconst 1, 1) := by decide +kernel
theorem dL_makes_39 : decode cL_makes 39 = .ok (.invokestatic 165, 3) := by decide +kernel
theorem dL_makes_42 : decode cL_makes 42 = .ok (.bipush 91, 2) := by decide +kernel
theorem dL_makes_44 : decode cL_makes 44 = .ok (.invokestatic 169, 3) := by decide +kernel
theorem dL_makes_47 : decode cL_makes 47 = .ok (.invokestatic 174, 3) := by decide +kernel
theorem dL_makes_50 : decode cL_makes 50 = .ok (.bipush 20, 2) := by decide +kernel
theorem dL_makes_52 : decode cL_makes 52 = .ok (.if_icmp .eq 5, 3) := by decide +kernel
theorem dL_makes_55 : decode cL_makes 55 = .ok (.iconst 0, 1) := by decide +kernel
theorem dL_makes_56 : decode cL_makes 56 = .ok (.ireturn, 1) := by decide +kernel
theorem dL_makes_57 : decode cL_makes 57 = .ok (.iconst 0, 1) := by decide +kernel
theorem dL_makes_58 : decode cL_makes 58 = .ok (.istore_n 3, 1) := by decide +kernel
theorem dL_makes_59 : decode cL_makes 59 = .ok (.iload_n 3, 1) := by decide +kernel
theorem dL_makes_60 : decode cL_makes 60 = .ok (.bipush 16, 2) := by decide +kernel
theorem dL_makes_62 : decode cL_makes 62 = .ok (.if_icmp .ge 92, 3) := by decide +kernel
theorem dL_makes_65 : decode cL_makes 65 = .ok (.aload_n 1, 1) := by decide +kernel
theorem dL_makes_66 : decode cL_makes 66 = .ok (.iconst 2, 1) := by decide +kernel
theorem dL_makes_67 : decode cL_makes 67 = .ok (.iload_n 3, 1) := by decide +kernel
theorem dL_makes_68 : decode cL_makes 68 = .ok (.iadd, 1) := by decide +kernel
theorem dL_makes_69 : decode cL_makes 69 = .ok (.invokestatic 165, 3) := by decide +kernel
theorem dL_makes_72 : decode cL_makes 72 = .ok (.istore 4, 2) := by decide +kernel
theorem dL_makes_74 : decode cL_makes 74 = .ok (.iload 4, 2) := by decide +kernel
theorem dL_makes_76 : decode cL_makes 76 = .ok (.iload_n 2, 1) := by decide +kernel
theorem dL_makes_77 : decode cL_makes 77 = .ok (.invokestatic 169, 3) := by decide +kernel
theorem dL_makes_80 : decode cL_makes 80 = .ok (.istore 5, 2) := by decide +kernel
theorem dL_makes_82 : decode cL_makes 82 = .ok (.iload 4, 2) := by decide +kernel
theorem dL_makes_84 : decode cL_makes 84 = .ok (.iconst 4, 1) := by decide +kernel
theorem dL_makes_85 : decode cL_makes 85 = .ok (.ishr, 1) := by decide +kernel
theorem dL_makes_86 : decode cL_makes 86 = .ok (.iload_n 2, 1) := by decide +kernel
theorem dL_makes_87 : decode cL_makes 87 = .ok (.invokestatic 169, 3) := by decide +kernel
theorem dL_makes_90 : decode cL_makes 90 = .ok (.istore 6, 2) := by decide +kernel
theorem dL_makes_92 : decode cL_makes 92 = .ok (.aload_n 0, 1) := by decide +kernel
theorem dL_makes_93 : decode cL_makes 93 = .ok (.iload 5, 2) := by decide +kernel
theorem dL_makes_95 : decode cL_makes 95 = .ok (.iload 6, 2) := by decide +kernel
theorem dL_makes_97 : decode cL_makes 97 = .ok (.iconst 1, 1) := by decide +kernel
theorem dL_makes_98 : decode cL_makes 98 = .ok (.iload 4, 2) := by decide +kernel
theorem dL_makes_100 : decode cL_makes 100 = .ok (.bipush 8, 2) := by decide +kernel
theorem dL_makes_102 : decode cL_makes 102 = .ok (.ishr, 1) := by decide +kernel
theorem dL_makes_103 : decode cL_makes 103 = .ok (.bipush 40, 2) := by decide +kernel
theorem dL_makes_105 : decode cL_makes 105 = .ok (.invokestatic 169, 3) := by decide +kernel
theorem dL_makes_108 : decode cL_makes 108 = .ok (.iadd, 1) := by decide +kernel
theorem dL_makes_109 : decode cL_makes 109 = .ok (.invokestatic 176, 3) := by decide +kernel
theorem dL_makes_112 : decode cL_makes 112 = .ok (.istore 7, 2) := by decide +kernel
theorem dL_makes_114 : decode cL_makes 114 = .ok (.iload 5, 2) := by decide +kernel
theorem dL_makes_116 : decode cL_makes 116 = .ok (.iload 6, 2) := by decide +kernel
theorem dL_makes_118 : decode cL_makes 118 = .ok (.if_icmp .ne 14, 3) := by decide +kernel
theorem dL_makes_121 : decode cL_makes 121 = .ok (.iload 7, 2) := by decide +kernel
theorem dL_makes_123 : decode cL_makes 123 = .ok (.sipush (-1002), 3) := by decide +kernel
theorem dL_makes_126 : decode cL_makes 126 = .ok (.if_icmp .eq 22, 3) := by decide +kernel
theorem dL_makes_129 : decode cL_makes 129 = .ok (.goto 17, 3) := by decide +kernel
theorem dL_makes_132 : decode cL_makes 132 = .ok (.iload 7, 2) := by decide +kernel
theorem dL_makes_134 : decode cL_makes 134 = .ok (.iconst 1, 1) := by decide +kernel
theorem dL_makes_135 : decode cL_makes 135 = .ok (.if_icmp .ge 13, 3) := by decide +kernel
theorem dL_makes_138 : decode cL_makes 138 = .ok (.iload 7, 2) := by decide +kernel
theorem dL_makes_140 : decode cL_makes 140 = .ok (.sipush (-1004), 3) := by decide +kernel
theorem dL_makes_143 : decode cL_makes 143 = .ok (.if_icmp .eq 5, 3) := by decide +kernel
theorem dL_makes_146 : decode cL_makes 146 = .ok (.iconst 0, 1) := by decide +kernel
theorem dL_makes_147 : decode cL_makes 147 = .ok (.ireturn, 1) := by decide +kernel
theorem dL_makes_148 : decode cL_makes 148 = .ok (.iinc 3 1, 3) := by decide +kernel
theorem dL_makes_151 : decode cL_makes 151 = .ok (.goto (-92), 3) := by decide +kernel
theorem dL_makes_154 : decode cL_makes 154 = .ok (.aload_n 0, 1) := by decide +kernel
theorem dL_makes_155 : decode cL_makes 155 = .ok (.aload_n 1, 1) := by decide +kernel
theorem dL_makes_156 : decode cL_makes 156 = .ok (.bipush 20, 2) := by decide +kernel
theorem dL_makes_158 : decode cL_makes 158 = .ok (.invokestatic 165, 3) := by decide +kernel
theorem dL_makes_161 : decode cL_makes 161 = .ok (.iload_n 2, 1) := by decide +kernel
theorem dL_makes_162 : decode cL_makes 162 = .ok (.invokestatic 169, 3) := by decide +kernel
theorem dL_makes_165 : decode cL_makes 165 = .ok (.iconst 1, 1) := by decide +kernel
theorem dL_makes_166 : decode cL_makes 166 = .ok (.aload_n 1, 1) := by decide +kernel
theorem dL_makes_167 : decode cL_makes 167 = .ok (.bipush 21, 2) := by decide +kernel
theorem dL_makes_169 : decode cL_makes 169 = .ok (.invokestatic 165, 3) := by decide +kernel
theorem dL_makes_172 : decode cL_makes 172 = .ok (.bipush 60, 2) := by decide +kernel
theorem dL_makes_174 : decode cL_makes 174 = .ok (.invokestatic 169, 3) := by decide +kernel
theorem dL_makes_177 : decode cL_makes 177 = .ok (.iadd, 1) := by decide +kernel
theorem dL_makes_178 : decode cL_makes 178 = .ok (.invokestatic 179, 3) := by decide +kernel
theorem dL_makes_181 : decode cL_makes 181 = .ok (.ifCond .le 7, 3) := by decide +kernel
theorem dL_makes_184 : decode cL_makes 184 = .ok (.iconst 1, 1) := by decide +kernel
theorem dL_makes_185 : decode cL_makes 185 = .ok (.goto 4, 3) := by decide +kernel
theorem dL_makes_188 : decode cL_makes 188 = .ok (.iconst 0, 1) := by decide +kernel
theorem dL_makes_189 : decode cL_makes 189 = .ok (.ireturn, 1) := by decide +kernel
set_option maxRecDepth 20000 in
theorem ggL_asks_X10_memberCount : GoodIn wsL_asks wsX10_memberCount := goodIn_r _ [6, 7, 478, 479, 480, 481, 482, 483, 484, 485, 486, 487, 488, 489, 490, 491, 492, 493, 494, 495, 496, 497, 498, 499] (by decide +kernel) (by decide +kernel)
set_option maxRecDepth 20000 in
theorem gL_asks_X10_memberCount : GoodIn wsL_asks (wsV RL 182 RX10 yX10_memberCount wsX10_memberCount) := goodIn_app (goodIn_of _ (by decide +kernel)) ggL_asks_X10_memberCount
set_option maxRecDepth 20000 in
theorem ggL_asks_L_meanPosition : GoodIn wsL_asks wsL_meanPosition := goodIn_ca (goodIn_ca (goodIn_r _ [11, 12, 13, 14, 15, 16, 5, 17, 18, 19, 7, 20, 21, 22, 23, 24, 25, 26, 27, 28, 29, 30, 31, 32, 33, 34, 35, 36, 37, 38, 39, 40, 41, 42, 43, 44, 45, 46, 478, 479, 480, 481, 482, 483, 484, 485, 486, 487, 488, 489, 490, 491, 492, 493, 494, 495, 496, 497, 498, 499] (by decide +kernel) (by decide +kernel)) (goodIn_sub (fun _ h => List.mem_cons_of_mem _ (List.mem_append_left _ (List.mem_append_left _ (List.mem_append_left _ (List.mem_append_left _ (List.mem_append_left _ (List.mem_append_left _ (List.mem_append_right _ h)))))))) (by decide +kernel))) (goodIn_sub (fun _ h => List.mem_cons_of_mem _ (List.mem_append_left _ (List.mem_append_left _ (List.mem_append_left _ (List.mem_append_left _ (List.mem_append_left _ (List.mem_append_right _ h))))))) (by decide +kernel))
set_option maxRecDepth 20000 in
theorem gL_asks_L_meanPosition : GoodIn wsL_asks (va_wsS RL 187 yL_meanPosition wsL_meanPosition) := goodIn_app (goodIn_of _ (by decide +kernel)) ggL_asks_L_meanPosition
set_option maxRecDepth 20000 in
theorem ggL_asks_Jxe99ae_doubleToLongBits_ccdee : GoodIn wsL_asks wsJxe99ae_doubleToLongBits_ccdee := goodIn_r _ [50, 51, 52, 53, 54, 55, 56, 57, 49, 58] (by decide +kernel) (by decide +kernel)
set_option maxRecDepth 20000 in
theorem gL_asks_Jxe99ae_doubleToLongBits_ccdee : GoodIn wsL_asks (va_wsS RL 190 yJxe99ae_doubleToLongBits_ccdee wsJxe99ae_doubleToLongBits_ccdee) := goodIn_app (goodIn_of _ (by decide +kernel)) ggL_asks_Jxe99ae_doubleToLongBits_ccdee
set_option maxRecDepth 20000 in
theorem ggL_asks_L_debtShare : GoodIn wsL_asks wsL_debtShare := goodIn_ca (goodIn_ca (goodIn_r _ [61, 12, 62, 63, 64, 65, 5, 66, 18, 19, 7, 67, 68, 69, 23, 70, 42, 478, 479, 480, 481, 482, 483, 484, 485, 486, 487, 488, 489, 490, 491, 492, 493, 494, 495, 496, 497, 498, 499] (by decide +kernel) (by decide +kernel)) (goodIn_sub (fun _ h => List.mem_cons_of_mem _ (List.mem_append_left _ (List.mem_append_left _ (List.mem_append_left _ (List.mem_append_left _ (List.mem_append_left _ (List.mem_append_left _ (List.mem_append_right _ h)))))))) (by decide +kernel))) (goodIn_sub (fun _ h => List.mem_cons_of_mem _ (List.mem_append_left _ (List.mem_append_left _ (List.mem_append_left _ (List.mem_append_left _ (List.mem_append_left _ (List.mem_append_right _ h))))))) (by decide +kernel))
set_option maxRecDepth 20000 in
theorem gL_asks_L_debtShare : GoodIn wsL_asks (va_wsS RL 196 yL_debtShare wsL_debtShare) := goodIn_app (goodIn_of _ (by decide +kernel)) ggL_asks_L_debtShare
set_option maxRecDepth 20000 in
theorem ggL_asks_Jxf58ca_floatToIntBits_5c35a : GoodIn wsL_asks wsJxf58ca_floatToIntBits_5c35a := goodIn_r _ [74, 75, 76, 77, 78, 79, 80, 81, 73, 82] (by decide +kernel) (by decide +kernel)
set_option maxRecDepth 20000 in
theorem gL_asks_Jxf58ca_floatToIntBits_5c35a : GoodIn wsL_asks (va_wsS RL 199 yJxf58ca_floatToIntBits_5c35a wsJxf58ca_floatToIntBits_5c35a) := goodIn_app (goodIn_of _ (by decide +kernel)) ggL_asks_Jxf58ca_floatToIntBits_5c35a
set_option maxRecDepth 20000 in
theorem ggL_asks_X10_haircut : GoodIn wsL_asks wsX10_haircut := goodIn_r _ [86, 7, 478, 479, 480, 481, 482, 483, 484, 485, 486, 487, 488, 489, 490, 491, 492, 493, 494, 495, 496, 497, 498, 499] (by decide +kernel) (by decide +kernel)
set_option maxRecDepth 20000 in
theorem gL_asks_X10_haircut : GoodIn wsL_asks (wsV RL 205 RX10 yX10_haircut wsX10_haircut) := goodIn_app (goodIn_of _ (by decide +kernel)) ggL_asks_X10_haircut
set_option maxRecDepth 20000 in
theorem ggL_asks_X10_nettedAmount : GoodIn wsL_asks wsX10_nettedAmount := goodIn_r _ [90, 7, 478, 479, 480, 481, 482, 483, 484, 485, 486, 487, 488, 489, 490, 491, 492, 493, 494, 495, 496, 497, 498, 499] (by decide +kernel) (by decide +kernel)
set_option maxRecDepth 20000 in
theorem gL_asks_X10_nettedAmount : GoodIn wsL_asks (wsV RL 208 RX10 yX10_nettedAmount wsX10_nettedAmount) := goodIn_app (goodIn_of _ (by decide +kernel)) ggL_asks_X10_nettedAmount
set_option maxRecDepth 20000 in
theorem ggL_asks_X10_lostAmount : GoodIn wsL_asks wsX10_lostAmount := goodIn_r _ [94, 7, 478, 479, 480, 481, 482, 483, 484, 485, 486, 487, 488, 489, 490, 491, 492, 493, 494, 495, 496, 497, 498, 499] (by decide +kernel) (by decide +kernel)
set_option maxRecDepth 20000 in
theorem gL_asks_X10_lostAmount : GoodIn wsL_asks (wsV RL 211 RX10 yX10_lostAmount wsX10_lostAmount) := goodIn_app (goodIn_of _ (by decide +kernel)) ggL_asks_X10_lostAmount
set_option maxRecDepth 20000 in
theorem ggL_asks_X10_triangles : GoodIn wsL_asks wsX10_triangles := goodIn_ca (goodIn_r _ [98, 99, 7, 100, 101, 102, 103, 104, 105, 106, 107, 108, 109, 110, 111, 112, 113, 478, 479, 480, 481, 482, 483, 484, 485, 486, 487, 488, 489, 500, 501, 502, 503, 504, 490, 491, 492, 493, 494, 495, 496, 497, 498, 499] (by decide +kernel) (by decide +kernel)) (goodIn_sub (fun _ h => List.mem_cons_of_mem _ (List.mem_append_left _ (List.mem_append_left _ (List.mem_append_left _ (List.mem_append_left _ (List.mem_append_left _ (List.mem_append_right _ h))))))) (by decide +kernel))
set_option maxRecDepth 20000 in
theorem gL_asks_X10_triangles : GoodIn wsL_asks (wsV RL 214 RX10 yX10_triangles wsX10_triangles) := goodIn_app (goodIn_of _ (by decide +kernel)) ggL_asks_X10_triangles
set_option maxRecDepth 20000 in
theorem ggL_asks_L_collateral : GoodIn wsL_asks wsL_collateral := goodIn_ca (goodIn_ca (goodIn_ca (goodIn_ca (goodIn_ca (goodIn_r _ [116, 117, 118, 119, 120, 5, 121, 7, 122, 123, 124, 125, 126, 127, 128, 129, 130, 23, 131, 25, 132, 133, 134, 135, 136, 137, 138, 139, 140, 141, 142, 143, 144, 145, 146, 478, 479, 480, 481, 482, 483, 484, 485, 486, 487, 488, 489, 490, 491, 492, 493, 494, 495, 496, 497, 498, 499] (by decide +kernel) (by decide +kernel)) (goodIn_sub (fun _ h => List.mem_cons_of_mem _ (List.mem_append_left _ (List.mem_append_left _ (List.mem_append_left _ (List.mem_append_left _ (List.mem_append_left _ (List.mem_append_right _ h))))))) (by decide +kernel))) (goodIn_sub (fun _ h => List.mem_cons_of_mem _ (List.mem_append_left _ (List.mem_append_left _ (List.mem_append_left _ (List.mem_append_left _ (List.mem_append_right _ h)))))) (by decide +kernel))) (goodIn_sub (fun _ h => List.mem_cons_of_mem _ (List.mem_append_left _ (List.mem_append_left _ (List.mem_append_left _ (List.mem_append_right _ h))))) (by decide +kernel))) (goodIn_sub (fun _ h => List.mem_cons_of_mem _ (List.mem_append_left _ (List.mem_append_left _ (List.mem_append_right _ h)))) (by decide +kernel))) (goodIn_sub (fun _ h => List.mem_cons_of_mem _ (List.mem_append_left _ (List.mem_append_right _ h))) (by decide +kernel))
set_option maxRecDepth 20000 in
theorem gL_asks_L_collateral : GoodIn wsL_asks (va_wsS RL 217 yL_collateral wsL_collateral) := goodIn_app (goodIn_of _ (by decide +kernel)) ggL_asks_L_collateral
set_option maxRecDepth 20000 in
theorem ggL_asks_L_cover : GoodIn wsL_asks wsL_cover := goodIn_ca (goodIn_ca (goodIn_ca (goodIn_ca (goodIn_ca (goodIn_r _ [149, 117, 150, 151, 152, 5, 153, 7, 122, 123, 124, 125, 126, 127, 128, 129, 130, 23, 131, 25, 132, 133, 134, 135, 136, 137, 138, 139, 140, 141, 142, 143, 144, 145, 146, 154, 155, 156, 157, 158, 159, 478, 479, 480, 481, 482, 483, 484, 485, 486, 487, 488, 489, 490, 491, 492, 493, 494, 495, 496, 497, 498, 499] (by decide +kernel) (by decide +kernel)) (goodIn_sub (fun _ h => List.mem_cons_of_mem _ (List.mem_append_left _ (List.mem_append_left _ (List.mem_append_left _ (List.mem_append_left _ (List.mem_append_right _ h)))))) (by decide +kernel))) (goodIn_sub (fun _ h => List.mem_cons_of_mem _ (List.mem_append_left _ (List.mem_append_left _ (List.mem_append_left _ (List.mem_append_right _ h))))) (by decide +kernel))) (goodIn_sub (fun _ h => List.mem_cons_of_mem _ (List.mem_append_left _ (List.mem_append_left _ (List.mem_append_right _ h)))) (by decide +kernel))) (goodIn_sub (fun _ h => List.mem_cons_of_mem _ (List.mem_append_left _ (List.mem_append_right _ h))) (by decide +kernel))) (goodIn_sub (fun _ h => List.mem_cons_of_mem _ (List.mem_append_left _ (List.mem_append_left _ (List.mem_append_left _ (List.mem_append_left _ (List.mem_append_left _ (List.mem_append_right _ h))))))) (by decide +kernel))
set_option maxRecDepth 20000 in
theorem gL_asks_L_cover : GoodIn wsL_asks (va_wsS RL 219 yL_cover wsL_cover) := goodIn_app (goodIn_of _ (by decide +kernel)) ggL_asks_L_cover
set_option maxRecDepth 20000 in
theorem ggL_asks_L_limit : GoodIn wsL_asks wsL_limit := goodIn_ca (goodIn_ca (goodIn_ca (goodIn_ca (goodIn_ca (goodIn_r _ [162, 117, 163, 164, 165, 5, 166, 7, 122, 123, 124, 125, 126, 127, 128, 129, 130, 23, 131, 25, 132, 133, 134, 135, 136, 137, 138, 139, 140, 141, 142, 143, 144, 145, 146, 478, 479, 480, 481, 482, 483, 484, 485, 486, 487, 488, 489, 490, 491, 492, 493, 494, 495, 496, 497, 498, 499] (by decide +kernel) (by decide +kernel)) (goodIn_sub (fun _ h => List.mem_cons_of_mem _ (List.mem_append_left _ (List.mem_append_left _ (List.mem_append_left _ (List.mem_append_left _ (List.mem_append_left _ (List.mem_append_right _ h))))))) (by decide +kernel))) (goodIn_sub (fun _ h => List.mem_cons_of_mem _ (List.mem_append_left _ (List.mem_append_left _ (List.mem_append_left _ (List.mem_append_left _ (List.mem_append_right _ h)))))) (by decide +kernel))) (goodIn_sub (fun _ h => List.mem_cons_of_mem _ (List.mem_append_left _ (List.mem_append_left _ (List.mem_append_left _ (List.mem_append_right _ h))))) (by decide +kernel))) (goodIn_sub (fun _ h => List.mem_cons_of_mem _ (List.mem_append_left _ (List.mem_append_left _ (List.mem_append_right _ h)))) (by decide +kernel))) (goodIn_sub (fun _ h => List.mem_cons_of_mem _ (List.mem_append_left _ (List.mem_append_right _ h))) (by decide +kernel))
set_option maxRecDepth 20000 in
theorem gL_asks_L_limit : GoodIn wsL_asks (va_wsS RL 221 yL_limit wsL_limit) := goodIn_app (goodIn_of _ (by decide +kernel)) ggL_asks_L_limit
set_option maxRecDepth 20000 in
theorem ggL_asks_L_byAccount : GoodIn wsL_asks wsL_byAccount := goodIn_ca (goodIn_ca (goodIn_ca (goodIn_ca (goodIn_ca (goodIn_r _ [169, 117, 170, 171, 172, 5, 173, 7, 122, 123, 124, 125, 126, 127, 128, 129, 130, 23, 131, 25, 132, 133, 134, 135, 136, 137, 138, 139, 140, 141, 142, 143, 144, 145, 146, 478, 479, 480, 481, 482, 483, 484, 485, 486, 487, 488, 489, 490, 491, 492, 493, 494, 495, 496, 497, 498, 499] (by decide +kernel) (by decide +kernel)) (goodIn_sub (fun _ h => List.mem_cons_of_mem _ (List.mem_append_left _ (List.mem_append_left _ (List.mem_append_left _ (List.mem_append_left _ (List.mem_append_left _ (List.mem_append_right _ h))))))) (by decide +kernel))) (goodIn_sub (fun _ h => List.mem_cons_of_mem _ (List.mem_append_left _ (List.mem_append_left _ (List.mem_append_left _ (List.mem_append_left _ (List.mem_append_right _ h)))))) (by decide +kernel))) (goodIn_sub (fun _ h => List.mem_cons_of_mem _ (List.mem_append_left _ (List.mem_append_left _ (List.mem_append_left _ (List.mem_append_right _ h))))) (by decide +kernel))) (goodIn_sub (fun _ h => List.mem_cons_of_mem _ (List.mem_append_left _ (List.mem_append_left _ (List.mem_append_right _ h)))) (by decide +kernel))) (goodIn_sub (fun _ h => List.mem_cons_of_mem _ (List.mem_append_left _ (List.mem_append_right _ h))) (by decide +kernel))
set_option maxRecDepth 20000 in
theorem gL_asks_L_byAccount : GoodIn wsL_asks (va_wsS RL 223 yL_byAccount wsL_byAccount) := goodIn_app (goodIn_of _ (by decide +kernel)) ggL_asks_L_byAccount
set_option maxRecDepth 20000 in
theorem ggL_asks_L_reachCount : GoodIn wsL_asks wsL_reachCount := goodIn_ca (goodIn_ca (goodIn_ca (goodIn_ca (goodIn_ca (goodIn_r _ [176, 117, 177, 178, 179, 5, 180, 7, 99, 122, 123, 124, 125, 126, 127, 128, 129, 130, 23, 131, 25, 132, 133, 134, 135, 136, 137, 138, 139, 140, 141, 142, 143, 144, 145, 146, 181, 182, 183, 103, 184, 105, 106, 107, 108, 109, 185, 186, 187, 188, 189, 110, 111, 112, 113, 190, 191, 192, 193, 194, 195, 196, 478, 479, 480, 481, 482, 483, 484, 485, 486, 487, 488, 489, 490, 491, 492, 493, 494, 495, 496, 497, 498, 499, 500, 501, 502, 503, 504] (by decide +kernel) (by decide +kernel)) (goodIn_sub (fun _ h => List.mem_cons_of_mem _ (List.mem_append_left _ (List.mem_append_left _ (List.mem_append_left _ (List.mem_append_left _ (List.mem_append_right _ h)))))) (by decide +kernel))) (goodIn_sub (fun _ h => List.mem_cons_of_mem _ (List.mem_append_left _ (List.mem_append_left _ (List.mem_append_left _ (List.mem_append_right _ h))))) (by decide +kernel))) (goodIn_sub (fun _ h => List.mem_cons_of_mem _ (List.mem_append_left _ (List.mem_append_left _ (List.mem_append_right _ h)))) (by decide +kernel))) (goodIn_sub (fun _ h => List.mem_cons_of_mem _ (List.mem_append_left _ (List.mem_append_right _ h))) (by decide +kernel))) (goodIn_sub (fun _ h => List.mem_cons_of_mem _ (List.mem_append_left _ (List.mem_append_left _ (List.mem_append_left _ (List.mem_append_left _ (List.mem_append_left _ (List.mem_append_right _ h))))))) (by decide +kernel))
set_option maxRecDepth 20000 in
theorem gL_asks_L_reachCount : GoodIn wsL_asks (va_wsS RL 226 yL_reachCount wsL_reachCount) := goodIn_app (goodIn_of _ (by decide +kernel)) ggL_asks_L_reachCount
set_option maxRecDepth 20000 in
theorem ggL_asks_L_byPosition : GoodIn wsL_asks wsL_byPosition := goodIn_ca (goodIn_ca (goodIn_r _ [199, 200, 201, 202, 203, 5, 204, 205, 206, 7, 207, 208, 209, 23, 210, 25, 211, 212, 213, 214, 215, 216, 217, 218, 219, 30, 31, 32, 33, 34, 35, 36, 37, 38, 39, 40, 41, 42, 43, 44, 45, 46, 220, 221, 192, 222, 478, 479, 480, 481, 482, 483, 484, 485, 486, 487, 488, 489, 490, 491, 492, 493, 494, 495, 496, 497, 498, 499] (by decide +kernel) (by decide +kernel)) (goodIn_sub (fun _ h => List.mem_cons_of_mem _ (List.mem_append_right _ h)) (by decide +kernel))) (goodIn_sub (fun _ h => List.mem_cons_of_mem _ (List.mem_append_left _ (List.mem_append_left _ (List.mem_append_left _ (List.mem_append_left _ (List.mem_append_left _ (List.mem_append_right _ h))))))) (by decide +kernel))
set_option maxRecDepth 20000 in
theorem gL_asks_L_byPosition : GoodIn wsL_asks (va_wsS RL 228 yL_byPosition wsL_byPosition) := goodIn_app (goodIn_of _ (by decide +kernel)) ggL_asks_L_byPosition
set_option maxRecDepth 20000 in
theorem ggL_asks_L_lossIf : GoodIn wsL_asks wsL_lossIf := goodIn_ca (goodIn_ca (goodIn_ca (goodIn_ca (goodIn_ca (goodIn_r _ [225, 117, 226, 227, 228, 5, 229, 7, 230, 231, 124, 232, 127, 126, 233, 128, 129, 130, 23, 131, 25, 234, 235, 236, 237, 43, 44, 45, 46, 38, 39, 40, 41, 42, 238, 239, 240, 241, 219, 242, 155, 156, 157, 158, 159, 132, 133, 134, 135, 136, 137, 138, 139, 140, 141, 142, 143, 144, 145, 146, 243, 478, 479, 480, 481, 482, 483, 484, 485, 486, 487, 488, 489, 490, 491, 492, 493, 494, 495, 496, 497, 498, 499] (by decide +kernel) (by decide +kernel)) (goodIn_sub (fun _ h => List.mem_cons_of_mem _ (List.mem_append_left _ (List.mem_append_left _ (List.mem_append_left _ (List.mem_append_left _ (List.mem_append_left _ (List.mem_append_right _ h))))))) (by decide +kernel))) (goodIn_sub (fun _ h => List.mem_cons_of_mem _ (List.mem_append_left _ (List.mem_append_left _ (List.mem_append_left _ (List.mem_append_left _ (List.mem_append_right _ h)))))) (by decide +kernel))) (goodIn_sub (fun _ h => List.mem_cons_of_mem _ (List.mem_append_left _ (List.mem_append_left _ (List.mem_append_left _ (List.mem_append_right _ h))))) (by decide +kernel))) (goodIn_sub (fun _ h => List.mem_cons_of_mem _ (List.mem_append_left _ (List.mem_append_left _ (List.mem_append_right _ h)))) (by decide +kernel))) (goodIn_sub (fun _ h => List.mem_cons_of_mem _ (List.mem_append_left _ (List.mem_append_right _ h))) (by decide +kernel))
set_option maxRecDepth 20000 in
theorem gL_asks_L_lossIf : GoodIn wsL_asks (va_wsS RL 231 yL_lossIf wsL_lossIf) := goodIn_app (goodIn_of _ (by decide +kernel)) ggL_asks_L_lossIf
set_option maxRecDepth 20000 in
theorem ggL_asks_L_writeDebts : GoodIn wsL_asks wsL_writeDebts := goodIn_ca (goodIn_ca (goodIn_ca (goodIn_ca (goodIn_ca (goodIn_r _ [246, 117, 247, 248, 249, 5, 250, 7, 251, 122, 123, 124, 125, 126, 127, 128, 129, 130, 23, 131, 25, 132, 133, 134, 135, 136, 137, 138, 139, 140, 141, 142, 143, 144, 145, 146, 252, 253, 254, 255, 256, 257, 258, 259, 260, 261, 262, 263, 264, 265, 266, 267, 268, 269, 270, 271, 272, 273, 274, 275, 276, 277, 278, 279, 280, 281, 282, 283, 284, 285, 286, 28, 287, 288, 289, 290, 291, 292, 293, 294, 295, 296, 297, 298, 299, 300, 301, 302, 303, 304, 305, 306, 307, 308, 309, 310, 311, 312, 313, 314, 315, 316, 317, 318, 319, 320, 321, 322, 323, 324, 325, 326, 327, 328, 329, 330, 331, 332, 333, 334, 335, 336, 337, 338, 339, 340, 341, 342, 343, 344, 345, 192, 346, 347, 348, 349, 350, 351, 352, 353, 354, 355, 356, 357, 358, 359, 360, 361, 362, 363, 364, 365, 366, 367, 368, 369, 370, 371, 372, 373, 374, 375, 376, 377, 378, 379, 380, 381, 382, 383, 384, 385, 386, 387, 388, 389, 390, 391, 392, 393, 394, 395, 396, 397, 398, 399, 400, 401, 402, 403, 404, 405, 406, 407, 408, 409, 410, 411, 412, 413, 414, 415, 416, 417, 418, 419, 420, 421, 422, 423, 424, 425, 426, 427, 428, 429, 430, 431, 39, 40, 41, 42, 432, 433, 434, 435, 436, 437, 438, 439, 478, 479, 480, 481, 482, 483, 484, 485, 486, 487, 488, 489, 490, 491, 492, 493, 494, 495, 496, 497, 498, 499, 505, 506, 507, 508, 509, 510, 511, 512, 513, 514, 515, 516, 517, 518, 519, 520] (by decide +kernel) (by decide +kernel)) (goodIn_sub (fun _ h => List.mem_cons_of_mem _ (List.mem_append_left _ (List.mem_append_left _ (List.mem_append_left _ (List.mem_append_left _ (List.mem_append_left _ (List.mem_append_right _ h))))))) (by decide +kernel))) (goodIn_sub (fun _ h => List.mem_cons_of_mem _ (List.mem_append_left _ (List.mem_append_left _ (List.mem_append_left _ (List.mem_append_left _ (List.mem_append_right _ h)))))) (by decide +kernel))) (goodIn_sub (fun _ h => List.mem_cons_of_mem _ (List.mem_append_left _ (List.mem_append_left _ (List.mem_append_left _ (List.mem_append_right _ h))))) (by decide +kernel))) (goodIn_sub (fun _ h => List.mem_cons_of_mem _ (List.mem_append_left _ (List.mem_append_left _ (List.mem_append_right _ h)))) (by decide +kernel))) (goodIn_sub (fun _ h => List.mem_cons_of_mem _ (List.mem_append_left _ (List.mem_append_right _ h))) (by decide +kernel))
set_option maxRecDepth 20000 in
theorem gL_asks_L_writeDebts : GoodIn wsL_asks (va_wsS RL 234 yL_writeDebts wsL_writeDebts) := goodIn_app (goodIn_of _ (by decide +kernel)) ggL_asks_L_writeDebts
set_option maxRecDepth 20000 in
theorem ggL_asks_L_outputChar : GoodIn wsL_asks wsL_outputChar := goodIn_ca (goodIn_r _ [442, 117, 443, 444, 445, 5, 446, 135, 136, 251, 432, 433, 434, 255, 435, 436, 437, 259, 438, 261, 439, 266, 447, 448, 449, 450, 451, 452, 453, 454, 274, 267, 455, 304, 28, 305, 456, 426, 364, 427, 366, 428, 429, 369, 430, 457, 458, 333, 459, 355, 379, 380, 359, 360, 361, 478, 479, 480, 481, 482, 483, 484, 485, 486, 487, 488, 489, 511, 512, 513, 514] (by decide +kernel) (by decide +kernel)) (goodIn_sub (fun _ h => List.mem_cons_of_mem _ (List.mem_append_left _ (List.mem_append_left _ (List.mem_append_left _ (List.mem_append_left _ (List.mem_append_right _ h)))))) (by decide +kernel))
set_option maxRecDepth 20000 in
theorem gL_asks_L_outputChar : GoodIn wsL_asks (va_wsS RL 162 yL_outputChar wsL_outputChar) := goodIn_app (goodIn_of _ (by decide +kernel)) ggL_asks_L_outputChar
set_option maxRecDepth 20000 in
theorem ggL_asks_L_largestDebtor : GoodIn wsL_asks wsL_largestDebtor := goodIn_ca (goodIn_ca (goodIn_r _ [462, 200, 463, 464, 465, 5, 466, 205, 206, 7, 467, 468, 469, 23, 470, 42, 478, 479, 480, 481, 482, 483, 484, 485, 486, 487, 488, 489, 490, 491, 492, 493, 494, 495, 496, 497, 498, 499] (by decide +kernel) (by decide +kernel)) (goodIn_sub (fun _ h => List.mem_cons_of_mem _ (List.mem_append_right _ h)) (by decide +kernel))) (goodIn_sub (fun _ h => List.mem_cons_of_mem _ (List.mem_append_left _ (List.mem_append_left _ (List.mem_append_left _ (List.mem_append_left _ (List.mem_append_left _ (List.mem_append_right _ h))))))) (by decide +kernel))
set_option maxRecDepth 20000 in
theorem gL_asks_L_largestDebtor : GoodIn wsL_asks (va_wsS RL 236 yL_largestDebtor wsL_largestDebtor) := goodIn_app (goodIn_of _ (by decide +kernel)) ggL_asks_L_largestDebtor
set_option maxRecDepth 20000 in
theorem ggL_asks_L_largestCreditor : GoodIn wsL_asks wsL_largestCreditor := goodIn_ca (goodIn_ca (goodIn_r _ [473, 200, 474, 475, 476, 5, 477, 205, 206, 7, 467, 468, 469, 23, 470, 42, 478, 479, 480, 481, 482, 483, 484, 485, 486, 487, 488, 489, 490, 491, 492, 493, 494, 495, 496, 497, 498, 499] (by decide +kernel) (by decide +kernel)) (goodIn_sub (fun _ h => List.mem_cons_of_mem _ (List.mem_append_right _ h)) (by decide +kernel))) (goodIn_sub (fun _ h => List.mem_cons_of_mem _ (List.mem_append_left _ (List.mem_append_left _ (List.mem_append_left _ (List.mem_append_left _ (List.mem_append_left _ (List.mem_append_right _ h))))))) (by decide +kernel))
set_option maxRecDepth 20000 in
theorem gL_asks_L_largestCreditor : GoodIn wsL_asks (va_wsS RL 238 yL_largestCreditor wsL_largestCreditor) := goodIn_app (goodIn_of _ (by decide +kernel)) ggL_asks_L_largestCreditor
theorem dL_asks_0 : decode cL_asks 0 = .ok (.aload_n 0, 1) := by decide +kernel
theorem dL_asks_1 : decode cL_asks 1 = .ok (.invokevirtual 182, 3) := by decide +kernel
theorem dL_asks_4 : decode cL_asks 4 = .ok (.istore_n 1, 1) := by decide +kernel
theorem dL_asks_5 : decode cL_asks 5 = .ok (.ldc2_w 185, 3) := by decide +kernel
theorem dL_asks_8 : decode cL_asks 8 = .ok (.aload_n 0, 1) := by decide +kernel
theorem dL_asks_9 : decode cL_asks 9 = .ok (.invokestatic 187, 3) := by decide +kernel
theorem dL_asks_12 : decode cL_asks 12 = .ok (.invokestatic 190, 3) := by decide +kernel
theorem dL_asks_15 : decode cL_asks 15 = .ok (.lmul, 1) := by decide +kernel
theorem dL_asks_16 : decode cL_asks 16 = .ok (.aload_n 0, 1) := by decide +kernel
theorem dL_asks_17 : decode cL_asks 17 = .ok (.invokestatic 196, 3) := by decide +kernel
theorem dL_asks_20 : decode cL_asks 20 = .ok (.invokestatic 199, 3) := by decide +kernel
theorem dL_asks_23 : decode cL_asks 23 = .ok (.i2l, 1) := by decide +kernel
theorem dL_asks_24 : decode cL_asks 24 = .ok (.ladd, 1) := by decide +kernel
theorem dL_asks_25 : decode cL_asks 25 = .ok (.lstore_n 2, 1) := by decide +kernel
theorem dL_asks_26 : decode cL_asks 26 = .ok (.ldc2_w 185, 3) := by decide +kernel
theorem dL_asks_29 : decode cL_asks 29 = .ok (.ldc2_w 185, 3) := by decide +kernel
theorem dL_asks_32 : decode cL_asks 32 = .ok (.ldc2_w 185, 3) := by decide +kernel
theorem dL_asks_35 : decode cL_asks 35 = .ok (.ldc2_w 185, 3) := by decide +kernel
theorem dL_asks_38 : decode cL_asks 38 = .ok (.ldc2_w 185, 3) := by decide +kernel
theorem dL_asks_41 : decode cL_asks 41 = .ok (.lload_n 2, 1) := by decide +kernel
theorem dL_asks_42 : decode cL_asks 42 = .ok (.lmul, 1) := by decide +kernel
theorem dL_asks_43 : decode cL_asks 43 = .ok (.iload_n 1, 1) := by decide +kernel
theorem dL_asks_44 : decode cL_asks 44 = .ok (.i2l, 1) := by decide +kernel
theorem dL_asks_45 : decode cL_asks 45 = .ok (.ladd, 1) := by decide +kernel
theorem dL_asks_46 : decode cL_asks 46 = .ok (.lmul, 1) := by decide +kernel
theorem dL_asks_47 : decode cL_asks 47 = .ok (.aload_n 0, 1) := by decide +kernel
theorem dL_asks_48 : decode cL_asks 48 = .ok (.invokevirtual 205, 3) := by decide +kernel
theorem dL_asks_51 : decode cL_asks 51 = .ok (.i2l, 1) := by decide +kernel
theorem dL_asks_52 : decode cL_asks 52 = .ok (.ladd, 1) := by decide +kernel
theorem dL_asks_53 : decode cL_asks 53 = .ok (.lmul, 1) := by decide +kernel
theorem dL_asks_54 : decode cL_asks 54 = .ok (.aload_n 0, 1) := by decide +kernel
theorem dL_asks_55 : decode cL_asks 55 = .ok (.invokevirtual 208, 3) := by decide +kernel
theorem dL_asks_58 : decode cL_asks 58 = .ok (.i2l, 1) := by decide +kernel
theorem dL_asks_59 : decode cL_asks 59 = .ok (.ladd, 1) := by decide +kernel
theorem dL_asks_60 : decode cL_asks 60 = .ok (.lmul, 1) := by decide +kernel
theorem dL_asks_61 : decode cL_asks 61 = .ok (.aload_n 0, 1) := by decide +kernel
theorem dL_asks_62 : decode cL_asks 62 = .ok (.invokevirtual 211, 3) := by decide +kernel
theorem dL_asks_65 : decode cL_asks 65 = .ok (.i2l, 1) := by decide +kernel
theorem dL_asks_66 : decode cL_asks 66 = .ok (.ladd, 1) := by decide +kernel
theorem dL_asks_67 : decode cL_asks 67 = .ok (.lmul, 1) := by decide +kernel
theorem dL_asks_68 : decode cL_asks 68 = .ok (.aload_n 0, 1) := by decide +kernel
theorem dL_asks_69 : decode cL_asks 69 = .ok (.invokevirtual 214, 3) := by decide +kernel
theorem dL_asks_72 : decode cL_asks 72 = .ok (.i2l, 1) := by decide +kernel
theorem dL_asks_73 : decode cL_asks 73 = .ok (.ladd, 1) := by decide +kernel
theorem dL_asks_74 : decode cL_asks 74 = .ok (.lstore_n 2, 1) := by decide +kernel
theorem dL_asks_75 : decode cL_asks 75 = .ok (.iconst 0, 1) := by decide +kernel
theorem dL_asks_76 : decode cL_asks 76 = .ok (.istore 4, 2) := by decide +kernel
theorem dL_asks_78 : decode cL_asks 78 = .ok (.iload 4, 2) := by decide +kernel
theorem dL_asks_80 : decode cL_asks 80 = .ok (.iload_n 1, 1) := by decide +kernel
theorem dL_asks_81 : decode cL_asks 81 = .ok (.if_icmp .ge 135, 3) := by decide +kernel
theorem dL_asks_84 : decode cL_asks 84 = .ok (.ldc2_w 185, 3) := by decide +kernel
theorem dL_asks_87 : decode cL_asks 87 = .ok (.ldc2_w 185, 3) := by decide +kernel
theorem dL_asks_90 : decode cL_asks 90 = .ok (.ldc2_w 185, 3) := by decide +kernel
theorem dL_asks_93 : decode cL_asks 93 = .ok (.ldc2_w 185, 3) := by decide +kernel
theorem dL_asks_96 : decode cL_asks 96 = .ok (.lload_n 2, 1) := by decide +kernel
theorem dL_asks_97 : decode cL_asks 97 = .ok (.lmul, 1) := by decide +kernel
theorem dL_asks_98 : decode cL_asks 98 = .ok (.aload_n 0, 1) := by decide +kernel
theorem dL_asks_99 : decode cL_asks 99 = .ok (.iload 4, 2) := by decide +kernel
theorem dL_asks_101 : decode cL_asks 101 = .ok (.invokestatic 217, 3) := by decide +kernel
theorem dL_asks_104 : decode cL_asks 104 = .ok (.i2l, 1) := by decide +kernel
theorem dL_asks_105 : decode cL_asks 105 = .ok (.ladd, 1) := by decide +kernel
theorem dL_asks_106 : decode cL_asks 106 = .ok (.lmul, 1) := by decide +kernel
theorem dL_asks_107 : decode cL_asks 107 = .ok (.aload_n 0, 1) := by decide +kernel
theorem dL_asks_108 : decode cL_asks 108 = .ok (.iload 4, 2) := by decide +kernel
theorem dL_asks_110 : decode cL_asks 110 = .ok (.invokestatic 219, 3) := by decide +kernel
theorem dL_asks_113 : decode cL_asks 113 = .ok (.i2l, 1) := by decide +kernel
theorem dL_asks_114 : decode cL_asks 114 = .ok (.ladd, 1) := by decide +kernel
theorem dL_asks_115 : decode cL_asks 115 = .ok (.lmul, 1) := by decide +kernel
theorem dL_asks_116 : decode cL_asks 116 = .ok (.aload_n 0, 1) := by decide +kernel
theorem dL_asks_117 : decode cL_asks 117 = .ok (.iload 4, 2) := by decide +kernel
theorem dL_asks_119 : decode cL_asks 119 = .ok (.invokestatic 221, 3) := by decide +kernel
theorem dL_asks_122 : decode cL_asks 122 = .ok (.i2l, 1) := by decide +kernel
theorem dL_asks_123 : decode cL_asks 123 = .ok (.ladd, 1) := by decide +kernel
theorem dL_asks_124 : decode cL_asks 124 = .ok (.lmul, 1) := by decide +kernel
theorem dL_asks_125 : decode cL_asks 125 = .ok (.aload_n 0, 1) := by decide +kernel
theorem dL_asks_126 : decode cL_asks 126 = .ok (.iload 4, 2) := by decide +kernel
theorem dL_asks_128 : decode cL_asks 128 = .ok (.invokestatic 223, 3) := by decide +kernel
theorem dL_asks_131 : decode cL_asks 131 = .ok (.i2l, 1) := by decide +kernel
theorem dL_asks_132 : decode cL_asks 132 = .ok (.ladd, 1) := by decide +kernel
theorem dL_asks_133 : decode cL_asks 133 = .ok (.lstore_n 2, 1) := by decide +kernel
theorem dL_asks_134 : decode cL_asks 134 = .ok (.ldc2_w 185, 3) := by decide +kernel
theorem dL_asks_137 : decode cL_asks 137 = .ok (.ldc2_w 185, 3) := by decide +kernel
theorem dL_asks_140 : decode cL_asks 140 = .ok (.ldc2_w 185, 3) := by decide +kernel
theorem dL_asks_143 : decode cL_asks 143 = .ok (.lload_n 2, 1) := by decide +kernel
theorem dL_asks_144 : decode cL_asks 144 = .ok (.lmul, 1) := by decide +kernel
theorem dL_asks_145 : decode cL_asks 145 = .ok (.aload_n 0, 1) := by decide +kernel
theorem dL_asks_146 : decode cL_asks 146 = .ok (.iload 4, 2) := by decide +kernel
theorem dL_asks_148 : decode cL_asks 148 = .ok (.invokestatic 226, 3) := by decide +kernel
theorem dL_asks_151 : decode cL_asks 151 = .ok (.i2l, 1) := by decide +kernel
theorem dL_asks_152 : decode cL_asks 152 = .ok (.ladd, 1) := by decide +kernel
theorem dL_asks_153 : decode cL_asks 153 = .ok (.lmul, 1) := by decide +kernel
theorem dL_asks_154 : decode cL_asks 154 = .ok (.aload_n 0, 1) := by decide +kernel
theorem dL_asks_155 : decode cL_asks 155 = .ok (.iload 4, 2) := by decide +kernel
theorem dL_asks_157 : decode cL_asks 157 = .ok (.invokestatic 228, 3) := by decide +kernel
theorem dL_asks_160 : decode cL_asks 160 = .ok (.i2l, 1) := by decide +kernel
theorem dL_asks_161 : decode cL_asks 161 = .ok (.ladd, 1) := by decide +kernel
theorem dL_asks_162 : decode cL_asks 162 = .ok (.lmul, 1) := by decide +kernel
theorem dL_asks_163 : decode cL_asks 163 = .ok (.aload_n 0, 1) := by decide +kernel
theorem dL_asks_164 : decode cL_asks 164 = .ok (.iload 4, 2) := by decide +kernel
theorem dL_asks_166 : decode cL_asks 166 = .ok (.invokestatic 231, 3) := by decide +kernel
theorem dL_asks_169 : decode cL_asks 169 = .ok (.i2l, 1) := by decide +kernel
theorem dL_asks_170 : decode cL_asks 170 = .ok (.ladd, 1) := by decide +kernel
theorem dL_asks_171 : decode cL_asks 171 = .ok (.lstore_n 2, 1) := by decide +kernel
theorem dL_asks_172 : decode cL_asks 172 = .ok (.aload_n 0, 1) := by decide +kernel
theorem dL_asks_173 : decode cL_asks 173 = .ok (.iload 4, 2) := by decide +kernel
theorem dL_asks_175 : decode cL_asks 175 = .ok (.invokestatic 234, 3) := by decide +kernel
theorem dL_asks_178 : decode cL_asks 178 = .ok (.istore 5, 2) := by decide +kernel
theorem dL_asks_180 : decode cL_asks 180 = .ok (.iconst 0, 1) := by decide +kernel
theorem dL_asks_181 : decode cL_asks 181 = .ok (.istore 6, 2) := by decide +kernel
theorem dL_asks_183 : decode cL_asks 183 = .ok (.iload 6, 2) := by decide +kernel
theorem dL_asks_185 : decode cL_asks 185 = .ok (.iload 5, 2) := by decide +kernel
theorem dL_asks_187 : decode cL_asks 187 = .ok (.if_icmp .ge 23, 3) := by decide +kernel
theorem dL_asks_190 : decode cL_asks 190 = .ok (.ldc2_w 185, 3) := by decide +kernel
theorem dL_asks_193 : decode cL_asks 193 = .ok (.lload_n 2, 1) := by decide +kernel
theorem dL_asks_194 : decode cL_asks 194 = .ok (.lmul, 1) := by decide +kernel
theorem dL_asks_195 : decode cL_asks 195 = .ok (.aload_n 0, 1) := by decide +kernel
theorem dL_asks_196 : decode cL_asks 196 = .ok (.iload 6, 2) := by decide +kernel
theorem dL_asks_198 : decode cL_asks 198 = .ok (.invokestatic 162, 3) := by decide +kernel
theorem dL_asks_201 : decode cL_asks 201 = .ok (.i2l, 1) := by decide +kernel
theorem dL_asks_202 : decode cL_asks 202 = .ok (.ladd, 1) := by decide +kernel
theorem dL_asks_203 : decode cL_asks 203 = .ok (.lstore_n 2, 1) := by decide +kernel
theorem dL_asks_204 : decode cL_asks 204 = .ok (.iinc 6 1, 3) := by decide +kernel
theorem dL_asks_207 : decode cL_asks 207 = .ok (.goto (-24), 3) := by decide +kernel
theorem dL_asks_210 : decode cL_asks 210 = .ok (.iinc 4 1, 3) := by decide +kernel
theorem dL_asks_213 : decode cL_asks 213 = .ok (.goto (-135), 3) := by decide +kernel
theorem dL_asks_216 : decode cL_asks 216 = .ok (.ldc2_w 185, 3) := by decide +kernel
theorem dL_asks_219 : decode cL_asks 219 = .ok (.ldc2_w 185, 3) := by decide +kernel
theorem dL_asks_222 : decode cL_asks 222 = .ok (.lload_n 2, 1) := by decide +kernel
theorem dL_asks_223 : decode cL_asks 223 = .ok (.lmul, 1) := by decide +kernel
theorem dL_asks_224 : decode cL_asks 224 = .ok (.aload_n 0, 1) := by decide +kernel
theorem dL_asks_225 : decode cL_asks 225 = .ok (.invokestatic 236, 3) := by decide +kernel
theorem dL_asks_228 : decode cL_asks 228 = .ok (.i2l, 1) := by decide +kernel
theorem dL_asks_229 : decode cL_asks 229 = .ok (.ladd, 1) := by decide +kernel
theorem dL_asks_230 : decode cL_asks 230 = .ok (.lmul, 1) := by decide +kernel
theorem dL_asks_231 : decode cL_asks 231 = .ok (.aload_n 0, 1) := by decide +kernel
theorem dL_asks_232 : decode cL_asks 232 = .ok (.invokestatic 238, 3) := by decide +kernel
theorem dL_asks_235 : decode cL_asks 235 = .ok (.i2l, 1) := by decide +kernel
theorem dL_asks_236 : decode cL_asks 236 = .ok (.ladd, 1) := by decide +kernel
theorem dL_asks_237 : decode cL_asks 237 = .ok (.lreturn, 1) := by decide +kernel
set_option maxRecDepth 20000 in
theorem ggL_changes_L_some : GoodIn wsL_changes wsL_some := goodIn_ca (goodIn_r _ [7] (by decide +kernel) (by decide +kernel)) (goodIn_sub (fun _ h => List.mem_cons_of_mem _ (List.mem_append_left _ (List.mem_append_left _ (List.mem_append_left _ (List.mem_append_left _ (List.mem_append_left _ (List.mem_append_right _ h))))))) (by decide +kernel))
set_option maxRecDepth 20000 in
theorem gL_changes_L_some : GoodIn wsL_changes (va_wsS RL 169 yL_some wsL_some) := goodIn_app (goodIn_of _ (by decide +kernel)) ggL_changes_L_some
set_option maxRecDepth 20000 in
theorem ggL_changes_L_addMember : GoodIn wsL_changes wsL_addMember := goodIn_ca (goodIn_ca (goodIn_ca (goodIn_ca (goodIn_ca (goodIn_r _ [10, 11, 12, 13, 14, 15, 16, 17, 18, 19, 20, 21, 22, 23, 24, 25, 26, 27, 28, 29, 30, 31, 32, 33, 34, 35, 36, 37, 38, 39, 40, 41, 42, 43, 44, 45, 46, 47, 48, 49, 50, 51, 52, 53, 54, 55, 56, 57, 58, 59, 60, 61, 62, 63, 64, 65, 66, 67, 68, 69, 70, 71, 72, 73, 74, 634, 635, 636, 637, 638, 639, 640, 641, 642, 643, 644, 645, 646, 647, 648, 649, 650, 651, 652, 653, 654, 655, 656, 657, 658] (by decide +kernel) (by decide +kernel)) (goodIn_sub (fun _ h => List.mem_cons_of_mem _ (List.mem_append_left _ (List.mem_append_left _ (List.mem_append_left _ (List.mem_append_left _ (List.mem_append_right _ h)))))) (by decide +kernel))) (goodIn_sub (fun _ h => List.mem_cons_of_mem _ (List.mem_append_left _ (List.mem_append_left _ (List.mem_append_left _ (List.mem_append_right _ h))))) (by decide +kernel))) (goodIn_sub (fun _ h => List.mem_cons_of_mem _ (List.mem_append_left _ (List.mem_append_left _ (List.mem_append_right _ h)))) (by decide +kernel))) (goodIn_sub (fun _ h => List.mem_cons_of_mem _ (List.mem_append_left _ (List.mem_append_right _ h))) (by decide +kernel))) (goodIn_sub (fun _ h => List.mem_cons_of_mem _ (List.mem_append_right _ h)) (by decide +kernel))
set_option maxRecDepth 20000 in
theorem gL_changes_L_addMember : GoodIn wsL_changes (va_wsS RL 172 yL_addMember wsL_addMember) := goodIn_app (goodIn_of _ (by decide +kernel)) ggL_changes_L_addMember
set_option maxRecDepth 20000 in
theorem ggL_changes_L_addDebt : GoodIn wsL_changes wsL_addDebt := goodIn_ca (goodIn_ca (goodIn_ca (goodIn_ca (goodIn_ca (goodIn_r _ [77, 78, 79, 80, 81, 15, 82, 17, 18, 83, 84, 21, 85, 23, 24, 86, 87, 88, 89, 90, 91, 92, 93, 94, 95, 96, 97, 55, 98, 67, 99, 100, 101, 102, 103, 104, 105, 106, 107, 108, 109, 57, 25, 26, 27, 28, 29, 30, 31, 32, 33, 34, 35, 36, 37, 38, 39, 40, 41, 42, 43, 44, 45, 46, 47, 48, 49, 50, 51, 52, 53, 54, 56, 58, 59, 60, 61, 62, 63, 64, 65, 66, 68, 69, 70, 110, 111, 112, 113, 634, 635, 636, 637, 638, 639, 640, 641, 642, 643, 644, 645, 646, 647, 648, 649, 650, 651, 652, 653, 654, 655, 656, 657, 658] (by decide +kernel) (by decide +kernel)) (goodIn_sub (fun _ h => List.mem_cons_of_mem _ (List.mem_append_right _ h)) (by decide +kernel))) (goodIn_sub (fun _ h => List.mem_cons_of_mem _ (List.mem_append_left _ (List.mem_append_left _ (List.mem_append_left _ (List.mem_append_left _ (List.mem_append_right _ h)))))) (by decide +kernel))) (goodIn_sub (fun _ h => List.mem_cons_of_mem _ (List.mem_append_left _ (List.mem_append_left _ (List.mem_append_left _ (List.mem_append_right _ h))))) (by decide +kernel))) (goodIn_sub (fun _ h => List.mem_cons_of_mem _ (List.mem_append_left _ (List.mem_append_left _ (List.mem_append_right _ h)))) (by decide +kernel))) (goodIn_sub (fun _ h => List.mem_cons_of_mem _ (List.mem_append_left _ (List.mem_append_right _ h))) (by decide +kernel))
set_option maxRecDepth 20000 in
theorem gL_changes_L_addDebt : GoodIn wsL_changes (va_wsS RL 176 yL_addDebt wsL_addDebt) := goodIn_app (goodIn_of _ (by decide +kernel)) ggL_changes_L_addDebt
set_option maxRecDepth 20000 in
theorem ggL_changes_L_pay : GoodIn wsL_changes wsL_pay := goodIn_ca (goodIn_ca (goodIn_ca (goodIn_ca (goodIn_ca (goodIn_r _ [116, 78, 117, 118, 119, 15, 120, 17, 18, 121, 122, 21, 123, 23, 24, 86, 87, 88, 89, 90, 91, 92, 93, 94, 95, 96, 97, 55, 98, 67, 99, 100, 101, 124, 107, 108, 109, 57, 25, 26, 27, 28, 29, 30, 31, 32, 33, 34, 35, 36, 37, 38, 39, 40, 41, 42, 43, 44, 45, 46, 47, 48, 49, 50, 51, 52, 53, 54, 56, 58, 59, 60, 61, 62, 63, 64, 65, 66, 68, 69, 70, 125, 126, 127, 128, 129, 111, 112, 113, 106, 634, 635, 636, 637, 638, 639, 640, 641, 642, 643, 644, 645, 646, 647, 648, 649, 650, 651, 652, 653, 654, 655, 656, 657, 658] (by decide +kernel) (by decide +kernel)) (goodIn_sub (fun _ h => List.mem_cons_of_mem _ (List.mem_append_right _ h)) (by decide +kernel))) (goodIn_sub (fun _ h => List.mem_cons_of_mem _ (List.mem_append_left _ (List.mem_append_left _ (List.mem_append_left _ (List.mem_append_left _ (List.mem_append_right _ h)))))) (by decide +kernel))) (goodIn_sub (fun _ h => List.mem_cons_of_mem _ (List.mem_append_left _ (List.mem_append_left _ (List.mem_append_left _ (List.mem_append_right _ h))))) (by decide +kernel))) (goodIn_sub (fun _ h => List.mem_cons_of_mem _ (List.mem_append_left _ (List.mem_append_left _ (List.mem_append_right _ h)))) (by decide +kernel))) (goodIn_sub (fun _ h => List.mem_cons_of_mem _ (List.mem_append_left _ (List.mem_append_right _ h))) (by decide +kernel))
set_option maxRecDepth 20000 in
theorem gL_changes_L_pay : GoodIn wsL_changes (va_wsS RL 240 yL_pay wsL_pay) := goodIn_app (goodIn_of _ (by decide +kernel)) ggL_changes_L_pay
set_option maxRecDepth 20000 in
theorem ggL_changes_L_netPair : GoodIn wsL_changes wsL_netPair := goodIn_ca (goodIn_ca (goodIn_ca (goodIn_ca (goodIn_ca (goodIn_r _ [132, 78, 133, 134, 135, 15, 136, 17, 18, 137, 92, 21, 93, 94, 90, 23, 95, 96, 97, 55, 98, 67, 25, 26, 27, 28, 29, 30, 31, 32, 33, 34, 35, 36, 37, 38, 39, 40, 41, 42, 43, 44, 45, 46, 47, 48, 49, 50, 51, 52, 53, 54, 56, 57, 58, 59, 60, 61, 62, 63, 64, 65, 66, 68, 69, 70, 138, 139, 140, 141, 142, 106, 107, 108, 109, 129, 111, 112, 113, 634, 635, 636, 637, 638, 639, 640, 641, 642, 643, 644, 645, 646, 647, 648, 649, 650, 651, 652, 653, 654, 655, 656, 657, 658] (by decide +kernel) (by decide +kernel)) (goodIn_sub (fun _ h => List.mem_cons_of_mem _ (List.mem_append_left _ (List.mem_append_left _ (List.mem_append_left _ (List.mem_append_left _ (List.mem_append_right _ h)))))) (by decide +kernel))) (goodIn_sub (fun _ h => List.mem_cons_of_mem _ (List.mem_append_left _ (List.mem_append_left _ (List.mem_append_left _ (List.mem_append_right _ h))))) (by decide +kernel))) (goodIn_sub (fun _ h => List.mem_cons_of_mem _ (List.mem_append_left _ (List.mem_append_left _ (List.mem_append_right _ h)))) (by decide +kernel))) (goodIn_sub (fun _ h => List.mem_cons_of_mem _ (List.mem_append_left _ (List.mem_append_right _ h))) (by decide +kernel))) (goodIn_sub (fun _ h => List.mem_cons_of_mem _ (List.mem_append_right _ h)) (by decide +kernel))
set_option maxRecDepth 20000 in
theorem gL_changes_L_netPair : GoodIn wsL_changes (va_wsS RL 242 yL_netPair wsL_netPair) := goodIn_app (goodIn_of _ (by decide +kernel)) ggL_changes_L_netPair
set_option maxRecDepth 20000 in
theorem ggL_changes_L_netTriangle : GoodIn wsL_changes wsL_netTriangle := goodIn_ca (goodIn_ca (goodIn_ca (goodIn_ca (goodIn_ca (goodIn_r _ [145, 78, 146, 147, 148, 15, 149, 17, 18, 150, 151, 21, 152, 94, 90, 23, 24, 95, 96, 97, 55, 98, 67, 124, 107, 108, 109, 57, 25, 26, 27, 28, 29, 30, 31, 32, 33, 34, 35, 36, 37, 38, 39, 40, 41, 42, 43, 44, 45, 46, 47, 48, 49, 50, 51, 52, 53, 54, 56, 58, 59, 60, 61, 62, 63, 64, 65, 66, 68, 69, 70, 153, 154, 155, 156, 142, 106, 129, 111, 112, 113, 634, 635, 636, 637, 638, 639, 640, 641, 642, 643, 644, 645, 646, 647, 648, 649, 650, 651, 652, 653, 654, 655, 656, 657, 658] (by decide +kernel) (by decide +kernel)) (goodIn_sub (fun _ h => List.mem_cons_of_mem _ (List.mem_append_right _ h)) (by decide +kernel))) (goodIn_sub (fun _ h => List.mem_cons_of_mem _ (List.mem_append_left _ (List.mem_append_left _ (List.mem_append_left _ (List.mem_append_left _ (List.mem_append_right _ h)))))) (by decide +kernel))) (goodIn_sub (fun _ h => List.mem_cons_of_mem _ (List.mem_append_left _ (List.mem_append_left _ (List.mem_append_left _ (List.mem_append_right _ h))))) (by decide +kernel))) (goodIn_sub (fun _ h => List.mem_cons_of_mem _ (List.mem_append_left _ (List.mem_append_left _ (List.mem_append_right _ h)))) (by decide +kernel))) (goodIn_sub (fun _ h => List.mem_cons_of_mem _ (List.mem_append_left _ (List.mem_append_right _ h))) (by decide +kernel))
set_option maxRecDepth 20000 in
theorem gL_changes_L_netTriangle : GoodIn wsL_changes (va_wsS RL 244 yL_netTriangle wsL_netTriangle) := goodIn_app (goodIn_of _ (by decide +kernel)) ggL_changes_L_netTriangle
set_option maxRecDepth 20000 in
theorem ggL_changes_X10_clearAll : GoodIn wsL_changes wsX10_clearAll := goodIn_ca (goodIn_r _ [160, 18, 17, 161, 40, 41, 42, 43, 44, 45, 46, 47, 48, 49, 50, 51, 52, 53, 54, 55, 56, 57, 58, 59, 60, 61, 62, 63, 64, 65, 66, 67, 68, 69, 70, 162, 163, 164, 165, 166, 167, 168, 169, 170, 171, 172, 173, 174, 175, 176, 177, 178, 179, 180, 181, 182, 106, 107, 108, 109, 183, 103, 104, 105, 184, 185, 186, 187, 129, 111, 112, 113, 188, 189, 190, 191, 192, 193, 634, 635, 636, 637, 638, 639, 640, 641, 642, 643, 644, 645, 656, 657, 658, 646, 647, 648, 649, 650, 651, 652, 653, 654, 655, 659, 660, 661, 662] (by decide +kernel) (by decide +kernel)) (goodIn_sub (fun _ h => List.mem_cons_of_mem _ (List.mem_append_right _ h)) (by decide +kernel))
set_option maxRecDepth 20000 in
theorem gL_changes_X10_clearAll : GoodIn wsL_changes (wsV RL 246 RX10 yX10_clearAll wsX10_clearAll) := goodIn_app (goodIn_of _ (by decide +kernel)) ggL_changes_X10_clearAll
set_option maxRecDepth 20000 in
theorem ggL_changes_L_pledge : GoodIn wsL_changes wsL_pledge := goodIn_ca (goodIn_ca (goodIn_ca (goodIn_ca (goodIn_ca (goodIn_r _ [196, 78, 197, 198, 199, 15, 200, 17, 18, 201, 202, 21, 203, 94, 90, 24, 23, 95, 96, 97, 55, 98, 67, 99, 100, 101, 25, 26, 27, 28, 29, 30, 31, 32, 33, 34, 35, 36, 37, 38, 39, 40, 41, 42, 43, 44, 45, 46, 47, 48, 49, 50, 51, 52, 53, 54, 56, 57, 58, 59, 60, 61, 62, 63, 64, 65, 66, 68, 69, 70, 204, 205, 206, 207, 634, 635, 636, 637, 638, 639, 640, 641, 642, 643, 644, 645, 646, 647, 648, 649, 650, 651, 652, 653, 654, 655, 656, 657, 658] (by decide +kernel) (by decide +kernel)) (goodIn_sub (fun _ h => List.mem_cons_of_mem _ (List.mem_append_right _ h)) (by decide +kernel))) (goodIn_sub (fun _ h => List.mem_cons_of_mem _ (List.mem_append_left _ (List.mem_append_left _ (List.mem_append_left _ (List.mem_append_left _ (List.mem_append_right _ h)))))) (by decide +kernel))) (goodIn_sub (fun _ h => List.mem_cons_of_mem _ (List.mem_append_left _ (List.mem_append_left _ (List.mem_append_left _ (List.mem_append_right _ h))))) (by decide +kernel))) (goodIn_sub (fun _ h => List.mem_cons_of_mem _ (List.mem_append_left _ (List.mem_append_left _ (List.mem_append_right _ h)))) (by decide +kernel))) (goodIn_sub (fun _ h => List.mem_cons_of_mem _ (List.mem_append_left _ (List.mem_append_right _ h))) (by decide +kernel))
set_option maxRecDepth 20000 in
theorem gL_changes_L_pledge : GoodIn wsL_changes (va_wsS RL 179 yL_pledge wsL_pledge) := goodIn_app (goodIn_of _ (by decide +kernel)) ggL_changes_L_pledge
set_option maxRecDepth 20000 in
theorem ggL_changes_L_setLimit : GoodIn wsL_changes wsL_setLimit := goodIn_ca (goodIn_ca (goodIn_ca (goodIn_ca (goodIn_ca (goodIn_r _ [210, 78, 211, 212, 213, 15, 214, 17, 18, 215, 216, 21, 217, 94, 90, 24, 23, 95, 96, 97, 55, 98, 67, 102, 103, 104, 105, 106, 107, 108, 109, 57, 25, 26, 27, 28, 29, 30, 31, 32, 33, 34, 35, 36, 37, 38, 39, 40, 41, 42, 43, 44, 45, 46, 47, 48, 49, 50, 51, 52, 53, 54, 56, 58, 59, 60, 61, 62, 63, 64, 65, 66, 68, 69, 70, 218, 219, 220, 221, 634, 635, 636, 637, 638, 639, 640, 641, 642, 643, 644, 645, 646, 647, 648, 649, 650, 651, 652, 653, 654, 655, 656, 657, 658] (by decide +kernel) (by decide +kernel)) (goodIn_sub (fun _ h => List.mem_cons_of_mem _ (List.mem_append_right _ h)) (by decide +kernel))) (goodIn_sub (fun _ h => List.mem_cons_of_mem _ (List.mem_append_left _ (List.mem_append_left _ (List.mem_append_left _ (List.mem_append_left _ (List.mem_append_right _ h)))))) (by decide +kernel))) (goodIn_sub (fun _ h => List.mem_cons_of_mem _ (List.mem_append_left _ (List.mem_append_left _ (List.mem_append_left _ (List.mem_append_right _ h))))) (by decide +kernel))) (goodIn_sub (fun _ h => List.mem_cons_of_mem _ (List.mem_append_left _ (List.mem_append_left _ (List.mem_append_right _ h)))) (by decide +kernel))) (goodIn_sub (fun _ h => List.mem_cons_of_mem _ (List.mem_append_left _ (List.mem_append_right _ h))) (by decide +kernel))
set_option maxRecDepth 20000 in
theorem gL_changes_L_setLimit : GoodIn wsL_changes (va_wsS RL 249 yL_setLimit wsL_setLimit) := goodIn_app (goodIn_of _ (by decide +kernel)) ggL_changes_L_setLimit
set_option maxRecDepth 20000 in
theorem ggL_changes_L_setHaircut : GoodIn wsL_changes wsL_setHaircut := goodIn_ca (goodIn_ca (goodIn_ca (goodIn_ca (goodIn_ca (goodIn_r _ [224, 225, 226, 227, 228, 15, 229, 18, 17, 230, 231, 21, 232, 90, 23, 25, 26, 27, 28, 29, 30, 31, 32, 33, 34, 35, 36, 37, 38, 39, 40, 41, 42, 43, 44, 45, 46, 47, 48, 49, 50, 51, 52, 53, 54, 55, 56, 57, 58, 59, 60, 61, 62, 63, 64, 65, 66, 67, 68, 69, 70, 233, 234, 235, 236, 634, 635, 636, 637, 638, 639, 640, 641, 642, 643, 644, 645, 656, 657, 658, 646, 647, 648, 649, 650, 651, 652, 653, 654, 655] (by decide +kernel) (by decide +kernel)) (goodIn_sub (fun _ h => List.mem_cons_of_mem _ (List.mem_append_left _ (List.mem_append_left _ (List.mem_append_left _ (List.mem_append_left _ (List.mem_append_right _ h)))))) (by decide +kernel))) (goodIn_sub (fun _ h => List.mem_cons_of_mem _ (List.mem_append_left _ (List.mem_append_left _ (List.mem_append_left _ (List.mem_append_right _ h))))) (by decide +kernel))) (goodIn_sub (fun _ h => List.mem_cons_of_mem _ (List.mem_append_left _ (List.mem_append_left _ (List.mem_append_right _ h)))) (by decide +kernel))) (goodIn_sub (fun _ h => List.mem_cons_of_mem _ (List.mem_append_left _ (List.mem_append_right _ h))) (by decide +kernel))) (goodIn_sub (fun _ h => List.mem_cons_of_mem _ (List.mem_append_right _ h)) (by decide +kernel))
set_option maxRecDepth 20000 in
theorem gL_changes_L_setHaircut : GoodIn wsL_changes (va_wsS RL 174 yL_setHaircut wsL_setHaircut) := goodIn_app (goodIn_of _ (by decide +kernel)) ggL_changes_L_setHaircut
set_option maxRecDepth 20000 in
theorem ggL_changes_J4_init_da8c8 : GoodIn wsL_changes wsJ4_init_da8c8 := goodIn_r _ [239, 240, 241, 242, 243, 244, 245, 246, 247, 248, 249, 250, 251, 252, 253, 254, 255, 256, 257, 258, 630, 631, 632, 633] (by decide +kernel) (by decide +kernel)
set_option maxRecDepth 20000 in
theorem gL_changes_J4_init_da8c8 : GoodIn wsL_changes (wsJ4_init_da8c8) := ggL_changes_J4_init_da8c8
set_option maxRecDepth 20000 in
theorem ggL_changes_J4_append_15ec4 : GoodIn wsL_changes wsJ4_append_15ec4 := goodIn_r _ [262, 263, 264, 265, 266, 242, 267, 268, 269, 270, 271, 272, 273, 249, 274, 275, 276, 277, 278, 250, 279, 280, 281, 282, 283, 284, 285, 286, 287, 288, 289, 290, 50, 291, 292, 293, 294, 295, 296, 297, 298, 299, 300, 301, 302, 303, 304, 305, 248, 306, 49, 51, 307, 59, 60, 61, 308, 309, 310, 311, 312, 247, 313, 314, 253, 315, 316, 317, 318, 319, 320, 321, 322, 323, 324, 325, 326, 327, 328, 329, 330, 331, 332, 333, 334, 335, 336, 337, 338, 339, 340, 341, 342, 343, 344, 345, 346, 347, 348, 349, 350, 351, 352, 353, 354, 355, 356, 357, 358, 359, 360, 361, 362, 363, 251, 252, 254, 255, 256, 257, 258, 364, 365, 366, 367, 368, 369, 370, 371, 372, 373, 374, 375, 376, 377, 378, 379, 380, 381, 382, 383, 384, 385, 630, 631, 632, 633, 663, 664, 665, 666] (by decide +kernel) (by decide +kernel)
set_option maxRecDepth 20000 in
theorem gL_changes_J4_append_15ec4 : GoodIn wsL_changes (wsV RL 256 RJ4 yJ4_append_15ec4 wsJ4_append_15ec4) := goodIn_app (goodIn_of _ (by decide +kernel)) ggL_changes_J4_append_15ec4
set_option maxRecDepth 20000 in
theorem ggL_changes_J4_append_bf812 : GoodIn wsL_changes wsJ4_append_bf812 := goodIn_r _ [389, 390, 391, 265, 392, 242, 393, 268, 249, 394, 395, 396, 397, 274, 275, 276, 277, 278, 250, 279, 280, 281, 282, 283, 284, 285, 286, 287, 288, 289, 290, 50, 291, 292, 293, 294, 295, 296, 297, 298, 299, 300, 301, 302, 303, 304, 305, 248, 306, 49, 51, 307, 59, 60, 61, 308, 309, 310, 311, 312, 247, 398, 399, 400, 401, 402, 403, 404, 253, 405, 316, 317, 318, 319, 320, 321, 322, 323, 324, 325, 326, 327, 328, 329, 330, 331, 406, 407, 408, 409, 410, 332, 333, 334, 335, 336, 630, 631, 632, 633] (by decide +kernel) (by decide +kernel)
set_option maxRecDepth 20000 in
theorem gL_changes_J4_append_bf812 : GoodIn wsL_changes (wsV RL 260 RJ4 yJ4_append_bf812 wsJ4_append_bf812) := goodIn_app (goodIn_of _ (by decide +kernel)) ggL_changes_J4_append_bf812
set_option maxRecDepth 20000 in
theorem ggL_changes_J4_toString_0e30d : GoodIn wsL_changes wsJ4_toString_0e30d := goodIn_r _ [414, 415, 416, 325, 417, 418, 419, 420, 421, 422, 423, 245, 246, 347, 341, 346, 424, 425, 426, 427, 428, 242, 429, 249, 430, 431, 432, 433, 434, 3, 435, 436, 265, 437, 438, 268, 439, 309, 310, 311, 312, 247, 250, 440, 441, 298, 442, 300, 301, 302, 303, 304, 305, 443, 444, 445, 248, 306, 49, 50, 51, 307, 59, 60, 61, 446, 447, 448, 449, 2, 450, 451, 253, 452, 453, 454, 455, 371, 372, 373, 320, 321, 322, 374, 375, 376, 327, 377, 378, 330, 379, 456, 457, 458, 316, 335, 336, 255, 256, 257, 258, 459, 460, 461, 462, 663, 664, 665, 666, 630, 631, 632, 633] (by decide +kernel) (by decide +kernel)
set_option maxRecDepth 20000 in
theorem gL_changes_J4_toString_0e30d : GoodIn wsL_changes (wsV RL 265 RJ4 yJ4_toString_0e30d wsJ4_toString_0e30d) := goodIn_app (goodIn_of _ (by decide +kernel)) ggL_changes_J4_toString_0e30d
set_option maxRecDepth 20000 in
theorem ggL_changes_L_runs : GoodIn wsL_changes wsL_runs := goodIn_ca (goodIn_ca (goodIn_ca (goodIn_ca (goodIn_ca (goodIn_r _ [465, 466, 338, 339, 325, 340, 341, 342, 343, 344, 345, 346, 347, 467, 468, 469, 470, 471, 472, 473, 474, 475, 476, 366, 477, 478, 479, 480, 327, 481, 482, 330, 483, 484, 485, 253, 486, 487, 488, 489, 320, 321, 322, 490, 456, 457, 458, 316, 335, 336, 491, 492, 6, 493, 11, 494, 495, 496, 15, 497, 32, 33, 498, 499, 500, 501, 502, 503, 504, 505, 506, 507, 508, 509, 510, 511, 512, 225, 513, 514, 515, 516, 30, 31, 34, 35, 517, 518, 17, 519, 18, 520, 521, 522, 523, 524, 525, 526, 527, 528, 529, 530, 531, 532, 290, 50, 291, 533, 534, 535, 536, 537, 538, 539, 540, 541, 542, 543, 544, 545, 546, 547, 548, 549, 550, 551, 552, 553, 554, 555, 556, 557, 53, 54, 55, 56, 57, 58, 59, 60, 61, 62, 63, 64, 65, 66, 67, 68, 69, 70, 558, 559, 560, 561, 562, 563, 564, 565, 566, 567, 568, 569, 570, 571, 572, 573, 574, 575, 576, 577, 578, 579, 19, 20, 21, 22, 23, 24, 83, 84, 85, 86, 87, 88, 89, 90, 91, 92, 93, 94, 95, 96, 97, 98, 99, 100, 101, 102, 103, 104, 105, 106, 107, 108, 109, 121, 122, 123, 124, 137, 150, 151, 152, 201, 202, 203, 580, 581, 582, 583, 584, 585, 586, 183, 587, 588, 589, 590, 591, 592, 593, 594, 595, 596, 597, 598, 161, 599, 71, 72, 73, 74, 110, 111, 112, 113, 125, 126, 127, 128, 129, 138, 139, 140, 141, 142, 49, 51, 153, 154, 155, 156, 162, 163, 164, 165, 166, 167, 168, 169, 170, 171, 172, 173, 174, 175, 176, 177, 178, 179, 180, 181, 182, 184, 185, 186, 187, 188, 189, 190, 191, 192, 193, 204, 205, 206, 207, 600, 601, 602, 603, 604, 605, 606, 607, 608, 609, 610, 611, 612, 613, 298, 614, 615, 616, 617, 618, 619, 620, 621, 622, 40, 41, 42, 43, 44, 45, 46, 47, 48, 52, 663, 664, 665, 666, 634, 635, 636, 637, 638, 639, 640, 641, 642, 643, 644, 645, 667, 668, 669, 670, 671, 672, 673, 646, 647, 648, 649, 650, 651, 652, 653, 654, 655, 659, 660, 661, 662, 674, 675, 656, 657, 658] (by decide +kernel) (by decide +kernel)) (goodIn_sub (fun _ h => List.mem_cons_of_mem _ (List.mem_append_left _ (List.mem_append_left _ (List.mem_append_right _ h)))) (by decide +kernel))) (goodIn_sub (fun _ h => List.mem_cons_of_mem _ (List.mem_append_right _ h)) (by decide +kernel))) (goodIn_sub (fun _ h => List.mem_cons_of_mem _ (List.mem_append_left _ (List.mem_append_left _ (List.mem_append_left _ (List.mem_append_right _ h))))) (by decide +kernel))) (goodIn_sub (fun _ h => List.mem_cons_of_mem _ (List.mem_append_left _ (List.mem_append_right _ h))) (by decide +kernel))) (goodIn_sub (fun _ h => List.mem_cons_of_mem _ (List.mem_append_left _ (List.mem_append_left _ (List.mem_append_left _ (List.mem_append_left _ (List.mem_append_left _ (List.mem_append_right _ h))))))) (by decide +kernel))
set_option maxRecDepth 20000 in
theorem gL_changes_L_runs : GoodIn wsL_changes (va_wsS RL 271 yL_runs wsL_runs) := goodIn_app (goodIn_of _ (by decide +kernel)) ggL_changes_L_runs
set_option maxRecDepth 20000 in
theorem ggL_changes_L_fail : GoodIn wsL_changes wsL_fail := goodIn_ca (goodIn_ca (goodIn_ca (goodIn_ca (goodIn_ca (goodIn_ca (goodIn_r _ [625, 78, 626, 627, 628, 15, 629, 17, 18, 599, 580, 581, 21, 582, 94, 23, 24, 95, 96, 97, 55, 98, 67, 583, 584, 585, 586, 183, 103, 104, 105, 106, 107, 108, 109, 57, 587, 588, 589, 590, 62, 591, 592, 593, 594, 63, 68, 25, 26, 27, 28, 29, 30, 31, 32, 33, 34, 35, 36, 37, 38, 39, 40, 41, 42, 43, 44, 45, 46, 47, 48, 49, 50, 51, 52, 53, 54, 56, 58, 59, 60, 61, 64, 65, 66, 69, 70, 600, 601, 602, 603, 604, 605, 606, 607, 608, 609, 610, 611, 612, 613, 298, 614, 615, 616, 617, 618, 619, 620, 621, 622, 185, 186, 187, 129, 111, 112, 113, 634, 635, 636, 637, 638, 639, 640, 641, 642, 643, 644, 645, 646, 647, 648, 649, 650, 651, 652, 653, 654, 655, 656, 657, 658, 674, 675] (by decide +kernel) (by decide +kernel)) (goodIn_sub (fun _ h => List.mem_cons_of_mem _ (List.mem_append_right _ h)) (by decide +kernel))) (goodIn_sub (fun _ h => List.mem_cons_of_mem _ (List.mem_append_left _ (List.mem_append_left _ (List.mem_append_left _ (List.mem_append_left _ (List.mem_append_right _ h)))))) (by decide +kernel))) (goodIn_sub (fun _ h => List.mem_cons_of_mem _ (List.mem_append_left _ (List.mem_append_left _ (List.mem_append_left _ (List.mem_append_right _ h))))) (by decide +kernel))) (goodIn_sub (fun _ h => List.mem_cons_of_mem _ (List.mem_append_left _ (List.mem_append_left _ (List.mem_append_right _ h)))) (by decide +kernel))) (goodIn_sub (fun _ h => List.mem_cons_of_mem _ (List.mem_append_left _ (List.mem_append_right _ h))) (by decide +kernel))) (goodIn_sub (fun _ h => List.mem_cons_of_mem _ (List.mem_append_left _ (List.mem_append_left _ (List.mem_append_left _ (List.mem_append_left _ (List.mem_append_left _ (List.mem_append_right _ h))))))) (by decide +kernel))
set_option maxRecDepth 20000 in
theorem gL_changes_L_fail : GoodIn wsL_changes (va_wsS RL 275 yL_fail wsL_fail) := goodIn_app (goodIn_of _ (by decide +kernel)) ggL_changes_L_fail
theorem dL_changes_0 : decode cL_changes 0 = .ok (.iload_n 1, 1) := by decide +kernel
theorem dL_changes_1 : decode cL_changes 1 = .ok (.iconst 4, 1) := by decide +kernel
theorem dL_changes_2 : decode cL_changes 2 = .ok (.ishr, 1) := by decide +kernel
theorem dL_changes_3 : decode cL_changes 3 = .ok (.bipush 9, 2) := by decide +kernel
theorem dL_changes_5 : decode cL_changes 5 = .ok (.invokestatic 169, 3) := by decide +kernel
theorem dL_changes_8 : decode cL_changes 8 = .ok (.istore_n 2, 1) := by decide +kernel
theorem dL_changes_9 : decode cL_changes 9 = .ok (.iload_n 1, 1) := by decide +kernel
theorem dL_changes_10 : decode cL_changes 10 = .ok (.bipush 7, 2) := by decide +kernel
theorem dL_changes_12 : decode cL_changes 12 = .ok (.ishr, 1) := by decide +kernel
theorem dL_changes_13 : decode cL_changes 13 = .ok (.bipush 9, 2) := by decide +kernel
theorem dL_changes_15 : decode cL_changes 15 = .ok (.invokestatic 169, 3) := by decide +kernel
theorem dL_changes_18 : decode cL_changes 18 = .ok (.istore_n 3, 1) := by decide +kernel
theorem dL_changes_19 : decode cL_changes 19 = .ok (.iload_n 1, 1) := by decide +kernel
theorem dL_changes_20 : decode cL_changes 20 = .ok (.bipush 10, 2) := by decide +kernel
theorem dL_changes_22 : decode cL_changes 22 = .ok (.ishr, 1) := by decide +kernel
theorem dL_changes_23 : decode cL_changes 23 = .ok (.iload_n 1, 1) := by decide +kernel
theorem dL_changes_24 : decode cL_changes 24 = .ok (.bipush 9, 2) := by decide +kernel
theorem dL_changes_26 : decode cL_changes 26 = .ok (.ishr, 1) := by decide +kernel
theorem dL_changes_27 : decode cL_changes 27 = .ok (.iconst 3, 1) := by decide +kernel
theorem dL_changes_28 : decode cL_changes 28 = .ok (.iand, 1) := by decide +kernel
theorem dL_changes_29 : decode cL_changes 29 = .ok (.ifCond .ne 8, 3) := by decide +kernel
theorem dL_changes_32 : decode cL_changes 32 = .ok (.bipush 101, 2) := by decide +kernel
theorem dL_changes_34 : decode cL_changes 34 = .ok (.goto 5, 3) := by decide +kernel
theorem dL_changes_37 : decode cL_changes 37 = .ok (.bipush 30, 2) := by decide +kernel
theorem dL_changes_39 : decode cL_changes 39 = .ok (.invokestatic 169, 3) := by decide +kernel
theorem dL_changes_42 : decode cL_changes 42 = .ok (.istore 4, 2) := by decide +kernel
theorem dL_changes_44 : decode cL_changes 44 = .ok (.iload_n 1, 1) := by decide +kernel
theorem dL_changes_45 : decode cL_changes 45 = .ok (.bipush 24, 2) := by decide +kernel
theorem dL_changes_47 : decode cL_changes 47 = .ok (.invokestatic 169, 3) := by decide +kernel
theorem dL_changes_50 : decode cL_changes 50 = .ok (.tableswitch 324 0 18 #[90, 103, 103, 103, 103, 120, 120, 137, 137, 152, 152, 176, 189, 189, 205, 229, 229, 250, 250], 90) := by decide +kernel
theorem dL_changes_140 : decode cL_changes 140 = .ok (.aload_n 0, 1) := by decide +kernel
theorem dL_changes_141 : decode cL_changes 141 = .ok (.invokestatic 172, 3) := by decide +kernel
theorem dL_changes_144 : decode cL_changes 144 = .ok (.ifCond .lt 7, 3) := by decide +kernel
theorem dL_changes_147 : decode cL_changes 147 = .ok (.iconst 1, 1) := by decide +kernel
theorem dL_changes_148 : decode cL_changes 148 = .ok (.goto 4, 3) := by decide +kernel
theorem dL_changes_151 : decode cL_changes 151 = .ok (.iconst 0, 1) := by decide +kernel
theorem dL_changes_152 : decode cL_changes 152 = .ok (.ireturn, 1) := by decide +kernel
theorem dL_changes_153 : decode cL_changes 153 = .ok (.aload_n 0, 1) := by decide +kernel
theorem dL_changes_154 : decode cL_changes 154 = .ok (.iload_n 2, 1) := by decide +kernel
theorem dL_changes_155 : decode cL_changes 155 = .ok (.iload_n 3, 1) := by decide +kernel
theorem dL_changes_156 : decode cL_changes 156 = .ok (.iload 4, 2) := by decide +kernel
theorem dL_changes_158 : decode cL_changes 158 = .ok (.invokestatic 176, 3) := by decide +kernel
theorem dL_changes_161 : decode cL_changes 161 = .ok (.ifCond .lt 7, 3) := by decide +kernel
theorem dL_changes_164 : decode cL_changes 164 = .ok (.iconst 1, 1) := by decide +kernel
theorem dL_changes_165 : decode cL_changes 165 = .ok (.goto 4, 3) := by decide +kernel
theorem dL_changes_168 : decode cL_changes 168 = .ok (.iconst 0, 1) := by decide +kernel
theorem dL_changes_169 : decode cL_changes 169 = .ok (.ireturn, 1) := by decide +kernel
theorem dL_changes_170 : decode cL_changes 170 = .ok (.aload_n 0, 1) := by decide +kernel
theorem dL_changes_171 : decode cL_changes 171 = .ok (.iload_n 2, 1) := by decide +kernel
theorem dL_changes_172 : decode cL_changes 172 = .ok (.iload_n 3, 1) := by decide +kernel
theorem dL_changes_173 : decode cL_changes 173 = .ok (.iload 4, 2) := by decide +kernel
theorem dL_changes_175 : decode cL_changes 175 = .ok (.invokestatic 240, 3) := by decide +kernel
theorem dL_changes_178 : decode cL_changes 178 = .ok (.ifCond .lt 7, 3) := by decide +kernel
theorem dL_changes_181 : decode cL_changes 181 = .ok (.iconst 1, 1) := by decide +kernel
theorem dL_changes_182 : decode cL_changes 182 = .ok (.goto 4, 3) := by decide +kernel
theorem dL_changes_185 : decode cL_changes 185 = .ok (.iconst 0, 1) := by decide +kernel
theorem dL_changes_186 : decode cL_changes 186 = .ok (.ireturn, 1) := by decide +kernel
theorem dL_changes_187 : decode cL_changes 187 = .ok (.aload_n 0, 1) := by decide +kernel
theorem dL_changes_188 : decode cL_changes 188 = .ok (.iload_n 2, 1) := by decide +kernel
theorem dL_changes_189 : decode cL_changes 189 = .ok (.iload_n 3, 1) := by decide +kernel
theorem dL_changes_190 : decode cL_changes 190 = .ok (.invokestatic 242, 3) := by decide +kernel
theorem dL_changes_193 : decode cL_changes 193 = .ok (.ifCond .lt 7, 3) := by decide +kernel
theorem dL_changes_196 : decode cL_changes 196 = .ok (.iconst 1, 1) := by decide +kernel
theorem dL_changes_197 : decode cL_changes 197 = .ok (.goto 4, 3) := by decide +kernel
theorem dL_changes_200 : decode cL_changes 200 = .ok (.iconst 0, 1) := by decide +kernel
theorem dL_changes_201 : decode cL_changes 201 = .ok (.ireturn, 1) := by decide +kernel
theorem dL_changes_202 : decode cL_changes 202 = .ok (.aload_n 0, 1) := by decide +kernel
theorem dL_changes_203 : decode cL_changes 203 = .ok (.iload_n 2, 1) := by decide +kernel
theorem dL_changes_204 : decode cL_changes 204 = .ok (.iload_n 3, 1) := by decide +kernel
theorem dL_changes_205 : decode cL_changes 205 = .ok (.iload_n 1, 1) := by decide +kernel
theorem dL_changes_206 : decode cL_changes 206 = .ok (.bipush 11, 2) := by decide +kernel
theorem dL_changes_208 : decode cL_changes 208 = .ok (.ishr, 1) := by decide +kernel
theorem dL_changes_209 : decode cL_changes 209 = .ok (.bipush 9, 2) := by decide +kernel
theorem dL_changes_211 : decode cL_changes 211 = .ok (.invokestatic 169, 3) := by decide +kernel
theorem dL_changes_214 : decode cL_changes 214 = .ok (.invokestatic 244, 3) := by decide +kernel
theorem dL_changes_217 : decode cL_changes 217 = .ok (.ifCond .lt 7, 3) := by decide +kernel
theorem dL_changes_220 : decode cL_changes 220 = .ok (.iconst 1, 1) := by decide +kernel
theorem dL_changes_221 : decode cL_changes 221 = .ok (.goto 4, 3) := by decide +kernel
theorem dL_changes_224 : decode cL_changes 224 = .ok (.iconst 0, 1) := by decide +kernel
theorem dL_changes_225 : decode cL_changes 225 = .ok (.ireturn, 1) := by decide +kernel
theorem dL_changes_226 : decode cL_changes 226 = .ok (.aload_n 0, 1) := by decide +kernel
theorem dL_changes_227 : decode cL_changes 227 = .ok (.invokevirtual 246, 3) := by decide +kernel
theorem dL_changes_230 : decode cL_changes 230 = .ok (.ifCond .lt 7, 3) := by decide +kernel
theorem dL_changes_233 : decode cL_changes 233 = .ok (.iconst 1, 1) := by decide +kernel
theorem dL_changes_234 : decode cL_changes 234 = .ok (.goto 4, 3) := by decide +kernel
theorem dL_changes_237 : decode cL_changes 237 = .ok (.iconst 0, 1) := by decide +kernel
theorem dL_changes_238 : decode cL_changes 238 = .ok (.ireturn, 1) := by decide +kernel
theorem dL_changes_239 : decode cL_changes 239 = .ok (.aload_n 0, 1) := by decide +kernel
theorem dL_changes_240 : decode cL_changes 240 = .ok (.iload_n 2, 1) := by decide +kernel
theorem dL_changes_241 : decode cL_changes 241 = .ok (.iload 4, 2) := by decide +kernel
theorem dL_changes_243 : decode cL_changes 243 = .ok (.invokestatic 179, 3) := by decide +kernel
theorem dL_changes_246 : decode cL_changes 246 = .ok (.ifCond .lt 7, 3) := by decide +kernel
theorem dL_changes_249 : decode cL_changes 249 = .ok (.iconst 1, 1) := by decide +kernel
theorem dL_changes_250 : decode cL_changes 250 = .ok (.goto 4, 3) := by decide +kernel
theorem dL_changes_253 : decode cL_changes 253 = .ok (.iconst 0, 1) := by decide +kernel
theorem dL_changes_254 : decode cL_changes 254 = .ok (.ireturn, 1) := by decide +kernel
theorem dL_changes_255 : decode cL_changes 255 = .ok (.aload_n 0, 1) := by decide +kernel
theorem dL_changes_256 : decode cL_changes 256 = .ok (.iload_n 2, 1) := by decide +kernel
theorem dL_changes_257 : decode cL_changes 257 = .ok (.iload_n 1, 1) := by decide +kernel
theorem dL_changes_258 : decode cL_changes 258 = .ok (.bipush 8, 2) := by decide +kernel
theorem dL_changes_260 : decode cL_changes 260 = .ok (.ishr, 1) := by decide +kernel
theorem dL_changes_261 : decode cL_changes 261 = .ok (.sipush 510, 3) := by decide +kernel
theorem dL_changes_264 : decode cL_changes 264 = .ok (.invokestatic 169, 3) := by decide +kernel
theorem dL_changes_267 : decode cL_changes 267 = .ok (.invokestatic 249, 3) := by decide +kernel
theorem dL_changes_270 : decode cL_changes 270 = .ok (.ifCond .lt 7, 3) := by decide +kernel
theorem dL_changes_273 : decode cL_changes 273 = .ok (.iconst 1, 1) := by decide +kernel
theorem dL_changes_274 : decode cL_changes 274 = .ok (.goto 4, 3) := by decide +kernel
theorem dL_changes_277 : decode cL_changes 277 = .ok (.iconst 0, 1) := by decide +kernel
theorem dL_changes_278 : decode cL_changes 278 = .ok (.ireturn, 1) := by decide +kernel
theorem dL_changes_279 : decode cL_changes 279 = .ok (.aload_n 0, 1) := by decide +kernel
theorem dL_changes_280 : decode cL_changes 280 = .ok (.iload_n 1, 1) := by decide +kernel
theorem dL_changes_281 : decode cL_changes 281 = .ok (.iconst 4, 1) := by decide +kernel
theorem dL_changes_282 : decode cL_changes 282 = .ok (.ishr, 1) := by decide +kernel
theorem dL_changes_283 : decode cL_changes 283 = .ok (.bipush 93, 2) := by decide +kernel
theorem dL_changes_285 : decode cL_changes 285 = .ok (.invokestatic 169, 3) := by decide +kernel
theorem dL_changes_288 : decode cL_changes 288 = .ok (.invokestatic 174, 3) := by decide +kernel
theorem dL_changes_291 : decode cL_changes 291 = .ok (.ifCond .lt 7, 3) := by decide +kernel
theorem dL_changes_294 : decode cL_changes 294 = .ok (.iconst 1, 1) := by decide +kernel
theorem dL_changes_295 : decode cL_changes 295 = .ok (.goto 4, 3) := by decide +kernel
theorem dL_changes_298 : decode cL_changes 298 = .ok (.iconst 0, 1) := by decide +kernel
theorem dL_changes_299 : decode cL_changes 299 = .ok (.ireturn, 1) := by decide +kernel
theorem dL_changes_300 : decode cL_changes 300 = .ok (.aload_n 0, 1) := by decide +kernel
theorem dL_changes_301 : decode cL_changes 301 = .ok (.iload_n 1, 1) := by decide +kernel
theorem dL_changes_302 : decode cL_changes 302 = .ok (.bipush 6, 2) := by decide +kernel
theorem dL_changes_304 : decode cL_changes 304 = .ok (.ishr, 1) := by decide +kernel
theorem dL_changes_305 : decode cL_changes 305 = .ok (.iconst 1, 1) := by decide +kernel
theorem dL_changes_306 : decode cL_changes 306 = .ok (.iand, 1) := by decide +kernel
theorem dL_changes_307 : decode cL_changes 307 = .ok (.ifCond .ne 35, 3) := by decide +kernel
theorem dL_changes_310 : decode cL_changes 310 = .ok (.new 251, 3) := by decide +kernel
theorem dL_changes_313 : decode cL_changes 313 = .ok (.dup, 1) := by decide +kernel
theorem dL_changes_314 : decode cL_changes 314 = .ok (.invokespecial 253, 3) := by decide +kernel
theorem dL_changes_317 : decode cL_changes 317 = .ok (.ldc 254, 2) := by decide +kernel
theorem dL_changes_319 : decode cL_changes 319 = .ok (.invokevirtual 256, 3) := by decide +kernel
theorem dL_changes_322 : decode cL_changes 322 = .ok (.iload_n 2, 1) := by decide +kernel
theorem dL_changes_323 : decode cL_changes 323 = .ok (.invokevirtual 260, 3) := by decide +kernel
theorem dL_changes_326 : decode cL_changes 326 = .ok (.ldc_w 263, 3) := by decide +kernel
theorem dL_changes_329 : decode cL_changes 329 = .ok (.invokevirtual 256, 3) := by decide +kernel
theorem dL_changes_332 : decode cL_changes 332 = .ok (.iload_n 3, 1) := by decide +kernel
theorem dL_changes_333 : decode cL_changes 333 = .ok (.invokevirtual 260, 3) := by decide +kernel
theorem dL_changes_336 : decode cL_changes 336 = .ok (.invokevirtual 265, 3) := by decide +kernel
theorem dL_changes_339 : decode cL_changes 339 = .ok (.goto 23, 3) := by decide +kernel
theorem dL_changes_342 : decode cL_changes 342 = .ok (.new 251, 3) := by decide +kernel
theorem dL_changes_345 : decode cL_changes 345 = .ok (.dup, 1) := by decide +kernel
theorem dL_changes_346 : decode cL_changes 346 = .ok (.invokespecial 253, 3) := by decide +kernel
theorem dL_changes_349 : decode cL_changes 349 = .ok (.ldc_w 269, 3) := by decide +kernel
theorem dL_changes_352 : decode cL_changes 352 = .ok (.invokevirtual 256, 3) := by decide +kernel
theorem dL_changes_355 : decode cL_changes 355 = .ok (.iload_n 2, 1) := by decide +kernel
theorem dL_changes_356 : decode cL_changes 356 = .ok (.invokevirtual 260, 3) := by decide +kernel
theorem dL_changes_359 : decode cL_changes 359 = .ok (.invokevirtual 265, 3) := by decide +kernel
theorem dL_changes_362 : decode cL_changes 362 = .ok (.invokestatic 271, 3) := by decide +kernel
theorem dL_changes_365 : decode cL_changes 365 = .ok (.ifCond .lt 7, 3) := by decide +kernel
theorem dL_changes_368 : decode cL_changes 368 = .ok (.iconst 1, 1) := by decide +kernel
theorem dL_changes_369 : decode cL_changes 369 = .ok (.goto 4, 3) := by decide +kernel
theorem dL_changes_372 : decode cL_changes 372 = .ok (.iconst 0, 1) := by decide +kernel
theorem dL_changes_373 : decode cL_changes 373 = .ok (.ireturn, 1) := by decide +kernel
theorem dL_changes_374 : decode cL_changes 374 = .ok (.aload_n 0, 1) := by decide +kernel
theorem dL_changes_375 : decode cL_changes 375 = .ok (.iload_n 2, 1) := by decide +kernel
theorem dL_changes_376 : decode cL_changes 376 = .ok (.invokestatic 275, 3) := by decide +kernel
theorem dL_changes_379 : decode cL_changes 379 = .ok (.ifCond .lt 7, 3) := by decide +kernel
theorem dL_changes_382 : decode cL_changes 382 = .ok (.iconst 1, 1) := by decide +kernel
theorem dL_changes_383 : decode cL_changes 383 = .ok (.goto 4, 3) := by decide +kernel
theorem dL_changes_386 : decode cL_changes 386 = .ok (.iconst 0, 1) := by decide +kernel
theorem dL_changes_387 : decode cL_changes 387 = .ok (.ireturn, 1) := by decide +kernel
set_option maxRecDepth 20000 in
theorem ggL_thrown_L_asks : GoodIn wsL_thrown wsL_asks := goodIn_ca (goodIn_ca (goodIn_ca (goodIn_ca (goodIn_ca (goodIn_ca (goodIn_ca (goodIn_r _ [4, 5, 6, 7, 8, 9, 10, 11, 12, 13, 3, 14, 15, 16, 17, 18, 19, 20, 21, 22, 23, 24, 25, 26, 27, 28, 29, 30, 31, 32, 33, 34, 35, 36, 37, 38, 39, 40, 41, 42, 43, 44, 45, 46, 47, 48, 49, 50, 51, 52, 53, 54, 55, 56, 57, 58, 59, 60, 61, 62, 63, 64, 65, 66, 67, 68, 69, 70, 71, 72, 73, 74, 75, 76, 77, 78, 79, 80, 81, 82, 83, 84, 85, 86, 87, 88, 89, 90, 91, 92, 93, 94, 95, 96, 97, 98, 99, 100, 101, 102, 103, 104, 105, 106, 107, 108, 109, 110, 111, 112, 113, 114, 115, 116, 117, 118, 119, 120, 121, 122, 123, 124, 125, 126, 127, 128, 129, 130, 131, 132, 133, 134, 135, 136, 137, 138, 139, 140, 141, 142, 143, 144, 145, 146, 147, 148, 149, 150, 151, 152, 153, 154, 155, 156, 157, 158, 159, 160, 161, 162, 163, 164, 165, 166, 167, 168, 169, 170, 171, 172, 173, 174, 175, 176, 177, 178, 179, 180, 181, 182, 183, 184, 185, 186, 187, 188, 189, 190, 191, 192, 193, 194, 195, 196, 197, 198, 199, 200, 201, 202, 203, 204, 205, 206, 207, 208, 209, 210, 211, 212, 213, 214, 215, 216, 217, 218, 219, 220, 221, 222, 223, 224, 225, 226, 227, 228, 229, 230, 231, 232, 233, 234, 235, 236, 237, 238, 239, 240, 241, 242, 243, 244, 245, 246, 247, 248, 249, 250, 251, 252, 253, 254, 255, 256, 257, 258, 259, 260, 261, 262, 263, 264, 265, 266, 267, 268, 269, 270, 271, 272, 273, 274, 275, 276, 277, 278, 279, 280, 281, 282, 283, 284, 285, 286, 287, 288, 289, 290, 291, 292, 293, 294, 295, 296, 297, 298, 299, 300, 301, 302, 303, 304, 305, 306, 307, 308, 309, 310, 311, 312, 313, 314, 315, 316, 317, 318, 319, 320, 321, 322, 323, 324, 325, 326, 327, 328, 329, 330, 331, 332, 333, 334, 335, 336, 337, 338, 339, 340, 341, 342, 343, 344, 345, 346, 347, 348, 349, 350, 351, 352, 353, 354, 355, 356, 357, 358, 359, 360, 361, 362, 363, 364, 365, 366, 367, 368, 369, 370, 371, 372, 373, 374, 375, 376, 377, 378, 379, 380, 381, 382, 383, 384, 385, 386, 387, 388, 389, 390, 391, 392, 393, 394, 395, 396, 397, 398, 399, 400, 401, 402, 403, 404, 405, 406, 407, 408, 409, 410, 411, 412, 413, 414, 415, 416, 417, 418, 419, 420, 421, 422, 423, 424, 425, 426, 427, 428, 429, 430, 431, 432, 433, 434, 435, 436, 437, 438, 439, 440, 441, 442, 443, 444, 445, 446, 447, 448, 449, 450, 451, 452, 453, 454, 455, 456, 457, 458, 459, 460, 461, 462, 463, 464, 465, 466, 467, 468, 469, 470, 471, 472, 473, 474, 475, 476, 477, 478, 479, 480, 916, 917, 918, 919, 920, 921, 922, 923, 924, 925, 926, 927, 928, 929, 930, 931, 932, 933, 934, 935, 936, 937, 938, 939, 940, 941, 942, 943, 944, 945, 946, 947, 948, 949, 950, 951, 952, 953, 954, 955, 956, 957, 958] (by decide +kernel) (by decide +kernel)) (goodIn_sub (fun _ h => List.mem_cons_of_mem _ (List.mem_append_left _ (List.mem_append_left _ (List.mem_append_left _ (List.mem_append_left _ (List.mem_append_left _ (List.mem_append_left _ (List.mem_append_right _ h)))))))) (by decide +kernel))) (goodIn_sub (fun _ h => List.mem_cons_of_mem _ (List.mem_append_left _ (List.mem_append_left _ (List.mem_append_left _ (List.mem_append_left _ (List.mem_append_left _ (List.mem_append_right _ h))))))) (by decide +kernel))) (goodIn_sub (fun _ h => List.mem_cons_of_mem _ (List.mem_append_left _ (List.mem_append_left _ (List.mem_append_left _ (List.mem_append_left _ (List.mem_append_right _ h)))))) (by decide +kernel))) (goodIn_sub (fun _ h => List.mem_cons_of_mem _ (List.mem_append_left _ (List.mem_append_left _ (List.mem_append_left _ (List.mem_append_right _ h))))) (by decide +kernel))) (goodIn_sub (fun _ h => List.mem_cons_of_mem _ (List.mem_append_left _ (List.mem_append_left _ (List.mem_append_right _ h)))) (by decide +kernel))) (goodIn_sub (fun _ h => List.mem_cons_of_mem _ (List.mem_append_left _ (List.mem_append_right _ h))) (by decide +kernel))) (goodIn_sub (fun _ h => List.mem_cons_of_mem _ (List.mem_append_right _ h)) (by decide +kernel))
set_option maxRecDepth 20000 in
theorem gL_thrown_L_asks : GoodIn wsL_thrown (va_wsS RL 278 yL_asks wsL_asks) := goodIn_app (goodIn_of _ (by decide +kernel)) ggL_thrown_L_asks
set_option maxRecDepth 20000 in
theorem ggL_thrown_X10_memberCount : GoodIn wsL_thrown wsX10_memberCount := goodIn_r _ [10, 11, 916, 917, 918, 919, 920, 921, 922, 923, 924, 925, 926, 927, 928, 929, 930, 931, 932, 933, 934, 935, 936, 937] (by decide +kernel) (by decide +kernel)
set_option maxRecDepth 20000 in
theorem gL_thrown_X10_memberCount : GoodIn wsL_thrown (wsV RL 182 RX10 yX10_memberCount wsX10_memberCount) := goodIn_app (goodIn_of _ (by decide +kernel)) ggL_thrown_X10_memberCount
set_option maxRecDepth 20000 in
theorem ggL_thrown_X10_undoCount : GoodIn wsL_thrown wsX10_undoCount := goodIn_r _ [484, 485, 916, 917, 918, 919, 920, 921, 922, 923, 924, 925, 926, 927, 959, 960, 961] (by decide +kernel) (by decide +kernel)
set_option maxRecDepth 20000 in
theorem gL_thrown_X10_undoCount : GoodIn wsL_thrown (wsV RL 282 RX10 yX10_undoCount wsX10_undoCount) := goodIn_app (goodIn_of _ (by decide +kernel)) ggL_thrown_X10_undoCount
set_option maxRecDepth 20000 in
theorem ggL_thrown_L_addMember : GoodIn wsL_thrown wsL_addMember := goodIn_ca (goodIn_ca (goodIn_ca (goodIn_ca (goodIn_ca (goodIn_r _ [488, 489, 490, 491, 492, 9, 493, 11, 485, 494, 495, 127, 496, 129, 236, 135, 136, 137, 138, 139, 140, 141, 142, 143, 144, 145, 146, 147, 148, 149, 497, 498, 499, 500, 501, 502, 503, 504, 505, 307, 31, 308, 506, 507, 508, 26, 509, 45, 510, 310, 311, 312, 222, 161, 511, 512, 513, 28, 162, 514, 515, 516, 517, 518, 519, 916, 917, 918, 919, 920, 921, 922, 923, 924, 925, 926, 927, 928, 929, 930, 931, 932, 933, 934, 935, 936, 937, 959, 960, 961] (by decide +kernel) (by decide +kernel)) (goodIn_sub (fun _ h => List.mem_cons_of_mem _ (List.mem_append_left _ (List.mem_append_left _ (List.mem_append_left _ (List.mem_append_left _ (List.mem_append_right _ h)))))) (by decide +kernel))) (goodIn_sub (fun _ h => List.mem_cons_of_mem _ (List.mem_append_left _ (List.mem_append_left _ (List.mem_append_left _ (List.mem_append_right _ h))))) (by decide +kernel))) (goodIn_sub (fun _ h => List.mem_cons_of_mem _ (List.mem_append_left _ (List.mem_append_left _ (List.mem_append_right _ h)))) (by decide +kernel))) (goodIn_sub (fun _ h => List.mem_cons_of_mem _ (List.mem_append_left _ (List.mem_append_right _ h))) (by decide +kernel))) (goodIn_sub (fun _ h => List.mem_cons_of_mem _ (List.mem_append_left _ (List.mem_append_left _ (List.mem_append_left _ (List.mem_append_left _ (List.mem_append_left _ (List.mem_append_right _ h))))))) (by decide +kernel))
set_option maxRecDepth 20000 in
theorem gL_thrown_L_addMember : GoodIn wsL_thrown (va_wsS RL 172 yL_addMember wsL_addMember) := goodIn_app (goodIn_of _ (by decide +kernel)) ggL_thrown_L_addMember
set_option maxRecDepth 20000 in
theorem ggL_thrown_L_addDebt : GoodIn wsL_thrown wsL_addDebt := goodIn_ca (goodIn_ca (goodIn_ca (goodIn_ca (goodIn_ca (goodIn_r _ [522, 120, 523, 524, 525, 9, 526, 11, 485, 527, 528, 127, 529, 129, 236, 530, 531, 532, 533, 534, 535, 536, 537, 130, 131, 132, 133, 26, 134, 28, 538, 539, 540, 541, 47, 48, 49, 41, 42, 43, 44, 45, 135, 136, 137, 138, 139, 140, 141, 142, 143, 144, 145, 146, 147, 148, 149, 497, 498, 499, 500, 501, 502, 503, 504, 505, 307, 31, 308, 506, 507, 508, 509, 510, 310, 311, 312, 222, 161, 511, 512, 513, 162, 514, 515, 542, 543, 544, 545, 916, 917, 918, 919, 920, 921, 922, 923, 924, 925, 926, 927, 928, 929, 930, 931, 932, 933, 934, 935, 936, 937, 959, 960, 961] (by decide +kernel) (by decide +kernel)) (goodIn_sub (fun _ h => List.mem_cons_of_mem _ (List.mem_append_left _ (List.mem_append_left _ (List.mem_append_left _ (List.mem_append_left _ (List.mem_append_left _ (List.mem_append_right _ h))))))) (by decide +kernel))) (goodIn_sub (fun _ h => List.mem_cons_of_mem _ (List.mem_append_left _ (List.mem_append_left _ (List.mem_append_left _ (List.mem_append_left _ (List.mem_append_right _ h)))))) (by decide +kernel))) (goodIn_sub (fun _ h => List.mem_cons_of_mem _ (List.mem_append_left _ (List.mem_append_left _ (List.mem_append_left _ (List.mem_append_right _ h))))) (by decide +kernel))) (goodIn_sub (fun _ h => List.mem_cons_of_mem _ (List.mem_append_left _ (List.mem_append_left _ (List.mem_append_right _ h)))) (by decide +kernel))) (goodIn_sub (fun _ h => List.mem_cons_of_mem _ (List.mem_append_left _ (List.mem_append_right _ h))) (by decide +kernel))
set_option maxRecDepth 20000 in
theorem gL_thrown_L_addDebt : GoodIn wsL_thrown (va_wsS RL 176 yL_addDebt wsL_addDebt) := goodIn_app (goodIn_of _ (by decide +kernel)) ggL_thrown_L_addDebt
set_option maxRecDepth 20000 in
theorem ggL_thrown_L_pay : GoodIn wsL_thrown wsL_pay := goodIn_ca (goodIn_ca (goodIn_ca (goodIn_ca (goodIn_ca (goodIn_r _ [548, 120, 549, 550, 551, 9, 552, 11, 485, 553, 554, 127, 555, 129, 236, 530, 531, 532, 533, 534, 535, 536, 537, 130, 131, 132, 133, 26, 134, 28, 538, 539, 540, 556, 42, 43, 44, 45, 135, 136, 137, 138, 139, 140, 141, 142, 143, 144, 145, 146, 147, 148, 149, 497, 498, 499, 500, 501, 502, 503, 504, 505, 307, 31, 308, 506, 507, 508, 509, 510, 310, 311, 312, 222, 161, 511, 512, 513, 162, 514, 515, 557, 558, 559, 560, 561, 543, 544, 545, 41, 916, 917, 918, 919, 920, 921, 922, 923, 924, 925, 926, 927, 928, 929, 930, 931, 932, 933, 934, 935, 936, 937, 959, 960, 961] (by decide +kernel) (by decide +kernel)) (goodIn_sub (fun _ h => List.mem_cons_of_mem _ (List.mem_append_left _ (List.mem_append_left _ (List.mem_append_left _ (List.mem_append_left _ (List.mem_append_left _ (List.mem_append_right _ h))))))) (by decide +kernel))) (goodIn_sub (fun _ h => List.mem_cons_of_mem _ (List.mem_append_left _ (List.mem_append_left _ (List.mem_append_left _ (List.mem_append_left _ (List.mem_append_right _ h)))))) (by decide +kernel))) (goodIn_sub (fun _ h => List.mem_cons_of_mem _ (List.mem_append_left _ (List.mem_append_left _ (List.mem_append_left _ (List.mem_append_right _ h))))) (by decide +kernel))) (goodIn_sub (fun _ h => List.mem_cons_of_mem _ (List.mem_append_left _ (List.mem_append_left _ (List.mem_append_right _ h)))) (by decide +kernel))) (goodIn_sub (fun _ h => List.mem_cons_of_mem _ (List.mem_append_left _ (List.mem_append_right _ h))) (by decide +kernel))
set_option maxRecDepth 20000 in
theorem gL_thrown_L_pay : GoodIn wsL_thrown (va_wsS RL 240 yL_pay wsL_pay) := goodIn_app (goodIn_of _ (by decide +kernel)) ggL_thrown_L_pay
set_option maxRecDepth 20000 in
theorem ggL_thrown_L_netPair : GoodIn wsL_thrown wsL_netPair := goodIn_ca (goodIn_ca (goodIn_ca (goodIn_ca (goodIn_ca (goodIn_r _ [564, 120, 565, 566, 567, 9, 568, 11, 485, 569, 536, 127, 537, 130, 534, 129, 131, 132, 133, 26, 134, 28, 135, 136, 137, 138, 139, 140, 141, 142, 143, 144, 145, 146, 147, 148, 149, 497, 498, 499, 500, 501, 502, 503, 504, 505, 307, 31, 308, 506, 507, 508, 509, 45, 510, 310, 311, 312, 222, 161, 511, 512, 513, 162, 514, 515, 570, 571, 572, 573, 574, 41, 42, 43, 44, 561, 543, 544, 545, 916, 917, 918, 919, 920, 921, 922, 923, 924, 925, 926, 927, 928, 929, 930, 931, 932, 933, 934, 935, 936, 937, 959, 960, 961] (by decide +kernel) (by decide +kernel)) (goodIn_sub (fun _ h => List.mem_cons_of_mem _ (List.mem_append_left _ (List.mem_append_left _ (List.mem_append_left _ (List.mem_append_left _ (List.mem_append_right _ h)))))) (by decide +kernel))) (goodIn_sub (fun _ h => List.mem_cons_of_mem _ (List.mem_append_left _ (List.mem_append_left _ (List.mem_append_left _ (List.mem_append_right _ h))))) (by decide +kernel))) (goodIn_sub (fun _ h => List.mem_cons_of_mem _ (List.mem_append_left _ (List.mem_append_left _ (List.mem_append_right _ h)))) (by decide +kernel))) (goodIn_sub (fun _ h => List.mem_cons_of_mem _ (List.mem_append_left _ (List.mem_append_right _ h))) (by decide +kernel))) (goodIn_sub (fun _ h => List.mem_cons_of_mem _ (List.mem_append_left _ (List.mem_append_left _ (List.mem_append_left _ (List.mem_append_left _ (List.mem_append_left _ (List.mem_append_right _ h))))))) (by decide +kernel))
set_option maxRecDepth 20000 in
theorem gL_thrown_L_netPair : GoodIn wsL_thrown (va_wsS RL 242 yL_netPair wsL_netPair) := goodIn_app (goodIn_of _ (by decide +kernel)) ggL_thrown_L_netPair
set_option maxRecDepth 20000 in
theorem ggL_thrown_L_netTriangle : GoodIn wsL_thrown wsL_netTriangle := goodIn_ca (goodIn_ca (goodIn_ca (goodIn_ca (goodIn_ca (goodIn_r _ [577, 120, 578, 579, 580, 9, 581, 11, 485, 582, 583, 127, 584, 130, 534, 129, 236, 131, 132, 133, 26, 134, 28, 556, 42, 43, 44, 45, 135, 136, 137, 138, 139, 140, 141, 142, 143, 144, 145, 146, 147, 148, 149, 497, 498, 499, 500, 501, 502, 503, 504, 505, 307, 31, 308, 506, 507, 508, 509, 510, 310, 311, 312, 222, 161, 511, 512, 513, 162, 514, 515, 585, 586, 587, 588, 574, 41, 561, 543, 544, 545, 916, 917, 918, 919, 920, 921, 922, 923, 924, 925, 926, 927, 928, 929, 930, 931, 932, 933, 934, 935, 936, 937, 959, 960, 961] (by decide +kernel) (by decide +kernel)) (goodIn_sub (fun _ h => List.mem_cons_of_mem _ (List.mem_append_left _ (List.mem_append_left _ (List.mem_append_left _ (List.mem_append_left _ (List.mem_append_left _ (List.mem_append_right _ h))))))) (by decide +kernel))) (goodIn_sub (fun _ h => List.mem_cons_of_mem _ (List.mem_append_left _ (List.mem_append_left _ (List.mem_append_left _ (List.mem_append_left _ (List.mem_append_right _ h)))))) (by decide +kernel))) (goodIn_sub (fun _ h => List.mem_cons_of_mem _ (List.mem_append_left _ (List.mem_append_left _ (List.mem_append_left _ (List.mem_append_right _ h))))) (by decide +kernel))) (goodIn_sub (fun _ h => List.mem_cons_of_mem _ (List.mem_append_left _ (List.mem_append_left _ (List.mem_append_right _ h)))) (by decide +kernel))) (goodIn_sub (fun _ h => List.mem_cons_of_mem _ (List.mem_append_left _ (List.mem_append_right _ h))) (by decide +kernel))
set_option maxRecDepth 20000 in
theorem gL_thrown_L_netTriangle : GoodIn wsL_thrown (va_wsS RL 244 yL_netTriangle wsL_netTriangle) := goodIn_app (goodIn_of _ (by decide +kernel)) ggL_thrown_L_netTriangle
set_option maxRecDepth 20000 in
theorem ggL_thrown_L_pledge : GoodIn wsL_thrown wsL_pledge := goodIn_ca (goodIn_ca (goodIn_ca (goodIn_ca (goodIn_ca (goodIn_r _ [591, 120, 592, 593, 594, 9, 595, 11, 485, 596, 597, 127, 598, 130, 534, 236, 129, 131, 132, 133, 26, 134, 28, 538, 539, 540, 135, 136, 137, 138, 139, 140, 141, 142, 143, 144, 145, 146, 147, 148, 149, 497, 498, 499, 500, 501, 502, 503, 504, 505, 307, 31, 308, 506, 507, 508, 509, 45, 510, 310, 311, 312, 222, 161, 511, 512, 513, 162, 514, 515, 599, 600, 601, 602, 916, 917, 918, 919, 920, 921, 922, 923, 924, 925, 926, 927, 928, 929, 930, 931, 932, 933, 934, 935, 936, 937, 959, 960, 961] (by decide +kernel) (by decide +kernel)) (goodIn_sub (fun _ h => List.mem_cons_of_mem _ (List.mem_append_left _ (List.mem_append_left _ (List.mem_append_left _ (List.mem_append_left _ (List.mem_append_left _ (List.mem_append_right _ h))))))) (by decide +kernel))) (goodIn_sub (fun _ h => List.mem_cons_of_mem _ (List.mem_append_left _ (List.mem_append_left _ (List.mem_append_left _ (List.mem_append_left _ (List.mem_append_right _ h)))))) (by decide +kernel))) (goodIn_sub (fun _ h => List.mem_cons_of_mem _ (List.mem_append_left _ (List.mem_append_left _ (List.mem_append_left _ (List.mem_append_right _ h))))) (by decide +kernel))) (goodIn_sub (fun _ h => List.mem_cons_of_mem _ (List.mem_append_left _ (List.mem_append_left _ (List.mem_append_right _ h)))) (by decide +kernel))) (goodIn_sub (fun _ h => List.mem_cons_of_mem _ (List.mem_append_left _ (List.mem_append_right _ h))) (by decide +kernel))
set_option maxRecDepth 20000 in
theorem gL_thrown_L_pledge : GoodIn wsL_thrown (va_wsS RL 179 yL_pledge wsL_pledge) := goodIn_app (goodIn_of _ (by decide +kernel)) ggL_thrown_L_pledge
set_option maxRecDepth 20000 in
theorem ggL_thrown_L_setLimit : GoodIn wsL_thrown wsL_setLimit := goodIn_ca (goodIn_ca (goodIn_ca (goodIn_ca (goodIn_ca (goodIn_r _ [605, 120, 606, 607, 608, 9, 609, 11, 485, 610, 611, 127, 612, 130, 534, 236, 129, 131, 132, 133, 26, 134, 28, 541, 47, 48, 49, 41, 42, 43, 44, 45, 135, 136, 137, 138, 139, 140, 141, 142, 143, 144, 145, 146, 147, 148, 149, 497, 498, 499, 500, 501, 502, 503, 504, 505, 307, 31, 308, 506, 507, 508, 509, 510, 310, 311, 312, 222, 161, 511, 512, 513, 162, 514, 515, 613, 614, 615, 616, 916, 917, 918, 919, 920, 921, 922, 923, 924, 925, 926, 927, 928, 929, 930, 931, 932, 933, 934, 935, 936, 937, 959, 960, 961] (by decide +kernel) (by decide +kernel)) (goodIn_sub (fun _ h => List.mem_cons_of_mem _ (List.mem_append_left _ (List.mem_append_left _ (List.mem_append_left _ (List.mem_append_left _ (List.mem_append_left _ (List.mem_append_right _ h))))))) (by decide +kernel))) (goodIn_sub (fun _ h => List.mem_cons_of_mem _ (List.mem_append_left _ (List.mem_append_left _ (List.mem_append_left _ (List.mem_append_left _ (List.mem_append_right _ h)))))) (by decide +kernel))) (goodIn_sub (fun _ h => List.mem_cons_of_mem _ (List.mem_append_left _ (List.mem_append_left _ (List.mem_append_left _ (List.mem_append_right _ h))))) (by decide +kernel))) (goodIn_sub (fun _ h => List.mem_cons_of_mem _ (List.mem_append_left _ (List.mem_append_left _ (List.mem_append_right _ h)))) (by decide +kernel))) (goodIn_sub (fun _ h => List.mem_cons_of_mem _ (List.mem_append_left _ (List.mem_append_right _ h))) (by decide +kernel))
set_option maxRecDepth 20000 in
theorem gL_thrown_L_setLimit : GoodIn wsL_thrown (va_wsS RL 249 yL_setLimit wsL_setLimit) := goodIn_app (goodIn_of _ (by decide +kernel)) ggL_thrown_L_setLimit
set_option maxRecDepth 20000 in
theorem ggL_thrown_L_setHaircut : GoodIn wsL_thrown wsL_setHaircut := goodIn_ca (goodIn_ca (goodIn_ca (goodIn_ca (goodIn_ca (goodIn_r _ [619, 620, 621, 622, 623, 9, 624, 485, 11, 625, 626, 127, 627, 534, 129, 135, 136, 137, 138, 139, 140, 141, 142, 143, 144, 145, 146, 147, 148, 149, 497, 498, 499, 500, 501, 502, 503, 504, 505, 307, 31, 308, 506, 507, 508, 26, 509, 45, 510, 310, 311, 312, 222, 161, 511, 512, 513, 28, 162, 514, 515, 628, 629, 630, 631, 916, 917, 918, 919, 920, 921, 922, 923, 924, 925, 926, 927, 959, 960, 961, 928, 929, 930, 931, 932, 933, 934, 935, 936, 937] (by decide +kernel) (by decide +kernel)) (goodIn_sub (fun _ h => List.mem_cons_of_mem _ (List.mem_append_left _ (List.mem_append_left _ (List.mem_append_left _ (List.mem_append_left _ (List.mem_append_right _ h)))))) (by decide +kernel))) (goodIn_sub (fun _ h => List.mem_cons_of_mem _ (List.mem_append_left _ (List.mem_append_left _ (List.mem_append_left _ (List.mem_append_right _ h))))) (by decide +kernel))) (goodIn_sub (fun _ h => List.mem_cons_of_mem _ (List.mem_append_left _ (List.mem_append_left _ (List.mem_append_right _ h)))) (by decide +kernel))) (goodIn_sub (fun _ h => List.mem_cons_of_mem _ (List.mem_append_left _ (List.mem_append_right _ h))) (by decide +kernel))) (goodIn_sub (fun _ h => List.mem_cons_of_mem _ (List.mem_append_left _ (List.mem_append_left _ (List.mem_append_left _ (List.mem_append_left _ (List.mem_append_left _ (List.mem_append_right _ h))))))) (by decide +kernel))
set_option maxRecDepth 20000 in
theorem gL_thrown_L_setHaircut : GoodIn wsL_thrown (va_wsS RL 174 yL_setHaircut wsL_setHaircut) := goodIn_app (goodIn_of _ (by decide +kernel)) ggL_thrown_L_setHaircut
set_option maxRecDepth 20000 in
theorem ggL_thrown_L_fail : GoodIn wsL_thrown wsL_fail := goodIn_ca (goodIn_ca (goodIn_ca (goodIn_ca (goodIn_ca (goodIn_ca (goodIn_r _ [634, 120, 635, 636, 637, 9, 638, 11, 485, 639, 233, 234, 127, 235, 130, 129, 236, 131, 132, 133, 26, 134, 28, 237, 238, 239, 240, 46, 47, 48, 49, 41, 42, 43, 44, 45, 241, 242, 243, 244, 222, 245, 158, 159, 160, 161, 162, 135, 136, 137, 138, 139, 140, 141, 142, 143, 144, 145, 146, 147, 148, 149, 497, 498, 499, 500, 501, 502, 503, 504, 505, 307, 31, 308, 506, 507, 508, 509, 510, 310, 311, 312, 511, 512, 513, 514, 515, 640, 641, 642, 643, 644, 645, 646, 647, 648, 649, 650, 651, 652, 653, 297, 654, 655, 656, 657, 658, 659, 660, 661, 662, 663, 664, 665, 561, 543, 544, 545, 916, 917, 918, 919, 920, 921, 922, 923, 924, 925, 926, 927, 928, 929, 930, 931, 932, 933, 934, 935, 936, 937, 959, 960, 961, 962, 963] (by decide +kernel) (by decide +kernel)) (goodIn_sub (fun _ h => List.mem_cons_of_mem _ (List.mem_append_left _ (List.mem_append_left _ (List.mem_append_left _ (List.mem_append_left _ (List.mem_append_left _ (List.mem_append_right _ h))))))) (by decide +kernel))) (goodIn_sub (fun _ h => List.mem_cons_of_mem _ (List.mem_append_left _ (List.mem_append_left _ (List.mem_append_left _ (List.mem_append_left _ (List.mem_append_right _ h)))))) (by decide +kernel))) (goodIn_sub (fun _ h => List.mem_cons_of_mem _ (List.mem_append_left _ (List.mem_append_left _ (List.mem_append_left _ (List.mem_append_right _ h))))) (by decide +kernel))) (goodIn_sub (fun _ h => List.mem_cons_of_mem _ (List.mem_append_left _ (List.mem_append_left _ (List.mem_append_right _ h)))) (by decide +kernel))) (goodIn_sub (fun _ h => List.mem_cons_of_mem _ (List.mem_append_left _ (List.mem_append_right _ h))) (by decide +kernel))) (goodIn_sub (fun _ h => List.mem_cons_of_mem _ (List.mem_append_left _ (List.mem_append_left _ (List.mem_append_left _ (List.mem_append_left _ (List.mem_append_left _ (List.mem_append_left _ (List.mem_append_left _ (List.mem_append_right _ h))))))))) (by decide +kernel))
set_option maxRecDepth 20000 in
theorem gL_thrown_L_fail : GoodIn wsL_thrown (va_wsS RL 275 yL_fail wsL_fail) := goodIn_app (goodIn_of _ (by decide +kernel)) ggL_thrown_L_fail
set_option maxRecDepth 20000 in
theorem ggL_thrown_L_debit : GoodIn wsL_thrown wsL_debit := goodIn_ca (goodIn_ca (goodIn_ca (goodIn_ca (goodIn_ca (goodIn_r _ [668, 120, 669, 670, 671, 9, 672, 11, 125, 126, 127, 128, 129, 130, 131, 132, 133, 26, 134, 28, 135, 136, 137, 138, 139, 140, 141, 142, 143, 144, 145, 146, 147, 148, 149, 673, 47, 48, 49, 41, 42, 43, 44, 45, 916, 917, 918, 919, 920, 921, 922, 923, 924, 925, 926, 927, 928, 929, 930, 931, 932, 933, 934, 935, 936, 937] (by decide +kernel) (by decide +kernel)) (goodIn_sub (fun _ h => List.mem_cons_of_mem _ (List.mem_append_left _ (List.mem_append_left _ (List.mem_append_left _ (List.mem_append_left _ (List.mem_append_right _ h)))))) (by decide +kernel))) (goodIn_sub (fun _ h => List.mem_cons_of_mem _ (List.mem_append_left _ (List.mem_append_left _ (List.mem_append_left _ (List.mem_append_right _ h))))) (by decide +kernel))) (goodIn_sub (fun _ h => List.mem_cons_of_mem _ (List.mem_append_left _ (List.mem_append_left _ (List.mem_append_right _ h)))) (by decide +kernel))) (goodIn_sub (fun _ h => List.mem_cons_of_mem _ (List.mem_append_left _ (List.mem_append_right _ h))) (by decide +kernel))) (goodIn_sub (fun _ h => List.mem_cons_of_mem _ (List.mem_append_left _ (List.mem_append_left _ (List.mem_append_left _ (List.mem_append_left _ (List.mem_append_left _ (List.mem_append_right _ h))))))) (by decide +kernel))
set_option maxRecDepth 20000 in
theorem gL_thrown_L_debit : GoodIn wsL_thrown (va_wsS RL 285 yL_debit wsL_debit) := goodIn_app (goodIn_of _ (by decide +kernel)) ggL_thrown_L_debit
set_option maxRecDepth 20000 in
theorem ggL_thrown_L_collateral : GoodIn wsL_thrown wsL_collateral := goodIn_ca (goodIn_ca (goodIn_ca (goodIn_ca (goodIn_ca (goodIn_r _ [119, 120, 121, 122, 123, 9, 124, 11, 125, 126, 127, 128, 129, 130, 131, 132, 133, 26, 134, 28, 135, 136, 137, 138, 139, 140, 141, 142, 143, 144, 145, 146, 147, 148, 149, 916, 917, 918, 919, 920, 921, 922, 923, 924, 925, 926, 927, 928, 929, 930, 931, 932, 933, 934, 935, 936, 937] (by decide +kernel) (by decide +kernel)) (goodIn_sub (fun _ h => List.mem_cons_of_mem _ (List.mem_append_left _ (List.mem_append_left _ (List.mem_append_left _ (List.mem_append_left _ (List.mem_append_left _ (List.mem_append_right _ h))))))) (by decide +kernel))) (goodIn_sub (fun _ h => List.mem_cons_of_mem _ (List.mem_append_left _ (List.mem_append_left _ (List.mem_append_left _ (List.mem_append_left _ (List.mem_append_right _ h)))))) (by decide +kernel))) (goodIn_sub (fun _ h => List.mem_cons_of_mem _ (List.mem_append_left _ (List.mem_append_left _ (List.mem_append_left _ (List.mem_append_right _ h))))) (by decide +kernel))) (goodIn_sub (fun _ h => List.mem_cons_of_mem _ (List.mem_append_left _ (List.mem_append_left _ (List.mem_append_right _ h)))) (by decide +kernel))) (goodIn_sub (fun _ h => List.mem_cons_of_mem _ (List.mem_append_left _ (List.mem_append_right _ h))) (by decide +kernel))
set_option maxRecDepth 20000 in
theorem gL_thrown_L_collateral : GoodIn wsL_thrown (va_wsS RL 217 yL_collateral wsL_collateral) := goodIn_app (goodIn_of _ (by decide +kernel)) ggL_thrown_L_collateral
set_option maxRecDepth 20000 in
theorem ggL_thrown_L_lossIf : GoodIn wsL_thrown wsL_lossIf := goodIn_ca (goodIn_ca (goodIn_ca (goodIn_ca (goodIn_ca (goodIn_r _ [228, 120, 229, 230, 231, 9, 232, 11, 233, 234, 127, 235, 130, 129, 236, 131, 132, 133, 26, 134, 28, 237, 238, 239, 240, 46, 47, 48, 49, 41, 42, 43, 44, 45, 241, 242, 243, 244, 222, 245, 158, 159, 160, 161, 162, 135, 136, 137, 138, 139, 140, 141, 142, 143, 144, 145, 146, 147, 148, 149, 246, 916, 917, 918, 919, 920, 921, 922, 923, 924, 925, 926, 927, 928, 929, 930, 931, 932, 933, 934, 935, 936, 937] (by decide +kernel) (by decide +kernel)) (goodIn_sub (fun _ h => List.mem_cons_of_mem _ (List.mem_append_left _ (List.mem_append_left _ (List.mem_append_left _ (List.mem_append_left _ (List.mem_append_left _ (List.mem_append_right _ h))))))) (by decide +kernel))) (goodIn_sub (fun _ h => List.mem_cons_of_mem _ (List.mem_append_left _ (List.mem_append_left _ (List.mem_append_left _ (List.mem_append_left _ (List.mem_append_right _ h)))))) (by decide +kernel))) (goodIn_sub (fun _ h => List.mem_cons_of_mem _ (List.mem_append_left _ (List.mem_append_left _ (List.mem_append_left _ (List.mem_append_right _ h))))) (by decide +kernel))) (goodIn_sub (fun _ h => List.mem_cons_of_mem _ (List.mem_append_left _ (List.mem_append_left _ (List.mem_append_right _ h)))) (by decide +kernel))) (goodIn_sub (fun _ h => List.mem_cons_of_mem _ (List.mem_append_left _ (List.mem_append_right _ h))) (by decide +kernel))
set_option maxRecDepth 20000 in
theorem gL_thrown_L_lossIf : GoodIn wsL_thrown (va_wsS RL 231 yL_lossIf wsL_lossIf) := goodIn_app (goodIn_of _ (by decide +kernel)) ggL_thrown_L_lossIf
set_option maxRecDepth 20000 in
theorem ggL_thrown_L_limit : GoodIn wsL_thrown wsL_limit := goodIn_ca (goodIn_ca (goodIn_ca (goodIn_ca (goodIn_ca (goodIn_r _ [165, 120, 166, 167, 168, 9, 169, 11, 125, 126, 127, 128, 129, 130, 131, 132, 133, 26, 134, 28, 135, 136, 137, 138, 139, 140, 141, 142, 143, 144, 145, 146, 147, 148, 149, 916, 917, 918, 919, 920, 921, 922, 923, 924, 925, 926, 927, 928, 929, 930, 931, 932, 933, 934, 935, 936, 937] (by decide +kernel) (by decide +kernel)) (goodIn_sub (fun _ h => List.mem_cons_of_mem _ (List.mem_append_left _ (List.mem_append_left _ (List.mem_append_left _ (List.mem_append_left _ (List.mem_append_left _ (List.mem_append_right _ h))))))) (by decide +kernel))) (goodIn_sub (fun _ h => List.mem_cons_of_mem _ (List.mem_append_left _ (List.mem_append_left _ (List.mem_append_left _ (List.mem_append_left _ (List.mem_append_right _ h)))))) (by decide +kernel))) (goodIn_sub (fun _ h => List.mem_cons_of_mem _ (List.mem_append_left _ (List.mem_append_left _ (List.mem_append_left _ (List.mem_append_right _ h))))) (by decide +kernel))) (goodIn_sub (fun _ h => List.mem_cons_of_mem _ (List.mem_append_left _ (List.mem_append_left _ (List.mem_append_right _ h)))) (by decide +kernel))) (goodIn_sub (fun _ h => List.mem_cons_of_mem _ (List.mem_append_left _ (List.mem_append_right _ h))) (by decide +kernel))
set_option maxRecDepth 20000 in
theorem gL_thrown_L_limit : GoodIn wsL_thrown (va_wsS RL 221 yL_limit wsL_limit) := goodIn_app (goodIn_of _ (by decide +kernel)) ggL_thrown_L_limit
set_option maxRecDepth 20000 in
theorem ggL_thrown_L_isFailed : GoodIn wsL_thrown wsL_isFailed := goodIn_ca (goodIn_ca (goodIn_ca (goodIn_ca (goodIn_ca (goodIn_r _ [676, 120, 677, 678, 679, 9, 680, 11, 125, 126, 127, 128, 129, 130, 131, 132, 133, 26, 134, 28, 135, 136, 137, 138, 139, 140, 141, 142, 143, 144, 145, 146, 147, 148, 149, 916, 917, 918, 919, 920, 921, 922, 923, 924, 925, 926, 927, 928, 929, 930, 931, 932, 933, 934, 935, 936, 937] (by decide +kernel) (by decide +kernel)) (goodIn_sub (fun _ h => List.mem_cons_of_mem _ (List.mem_append_left _ (List.mem_append_left _ (List.mem_append_left _ (List.mem_append_left _ (List.mem_append_left _ (List.mem_append_right _ h))))))) (by decide +kernel))) (goodIn_sub (fun _ h => List.mem_cons_of_mem _ (List.mem_append_left _ (List.mem_append_left _ (List.mem_append_left _ (List.mem_append_left _ (List.mem_append_right _ h)))))) (by decide +kernel))) (goodIn_sub (fun _ h => List.mem_cons_of_mem _ (List.mem_append_left _ (List.mem_append_left _ (List.mem_append_left _ (List.mem_append_right _ h))))) (by decide +kernel))) (goodIn_sub (fun _ h => List.mem_cons_of_mem _ (List.mem_append_left _ (List.mem_append_left _ (List.mem_append_right _ h)))) (by decide +kernel))) (goodIn_sub (fun _ h => List.mem_cons_of_mem _ (List.mem_append_left _ (List.mem_append_right _ h))) (by decide +kernel))
set_option maxRecDepth 20000 in
theorem gL_thrown_L_isFailed : GoodIn wsL_thrown (va_wsS RL 287 yL_isFailed wsL_isFailed) := goodIn_app (goodIn_of _ (by decide +kernel)) ggL_thrown_L_isFailed
set_option maxRecDepth 20000 in
theorem ggL_thrown_L_owed : GoodIn wsL_thrown wsL_owed := goodIn_ca (goodIn_ca (goodIn_ca (goodIn_ca (goodIn_ca (goodIn_r _ [683, 120, 684, 685, 686, 9, 687, 11, 569, 536, 127, 537, 130, 534, 129, 131, 132, 133, 26, 134, 28, 135, 136, 137, 138, 139, 140, 141, 142, 143, 144, 145, 146, 147, 148, 149, 434, 42, 43, 44, 45, 916, 917, 918, 919, 920, 921, 922, 923, 924, 925, 926, 927, 928, 929, 930, 931, 932, 933, 934, 935, 936, 937] (by decide +kernel) (by decide +kernel)) (goodIn_sub (fun _ h => List.mem_cons_of_mem _ (List.mem_append_left _ (List.mem_append_left _ (List.mem_append_left _ (List.mem_append_left _ (List.mem_append_right _ h)))))) (by decide +kernel))) (goodIn_sub (fun _ h => List.mem_cons_of_mem _ (List.mem_append_left _ (List.mem_append_left _ (List.mem_append_left _ (List.mem_append_right _ h))))) (by decide +kernel))) (goodIn_sub (fun _ h => List.mem_cons_of_mem _ (List.mem_append_left _ (List.mem_append_left _ (List.mem_append_right _ h)))) (by decide +kernel))) (goodIn_sub (fun _ h => List.mem_cons_of_mem _ (List.mem_append_left _ (List.mem_append_right _ h))) (by decide +kernel))) (goodIn_sub (fun _ h => List.mem_cons_of_mem _ (List.mem_append_left _ (List.mem_append_left _ (List.mem_append_left _ (List.mem_append_left _ (List.mem_append_left _ (List.mem_append_right _ h))))))) (by decide +kernel))
set_option maxRecDepth 20000 in
theorem gL_thrown_L_owed : GoodIn wsL_thrown (va_wsS RL 290 yL_owed wsL_owed) := goodIn_app (goodIn_of _ (by decide +kernel)) ggL_thrown_L_owed
set_option maxRecDepth 20000 in
theorem ggL_thrown_L_coins : GoodIn wsL_thrown wsL_coins := goodIn_ca (goodIn_ca (goodIn_ca (goodIn_ca (goodIn_ca (goodIn_r _ [690, 120, 691, 692, 693, 9, 694, 11, 125, 126, 127, 128, 129, 130, 131, 132, 133, 26, 134, 28, 135, 136, 137, 138, 139, 140, 141, 142, 143, 144, 145, 146, 147, 148, 149, 916, 917, 918, 919, 920, 921, 922, 923, 924, 925, 926, 927, 928, 929, 930, 931, 932, 933, 934, 935, 936, 937] (by decide +kernel) (by decide +kernel)) (goodIn_sub (fun _ h => List.mem_cons_of_mem _ (List.mem_append_left _ (List.mem_append_left _ (List.mem_append_left _ (List.mem_append_left _ (List.mem_append_left _ (List.mem_append_right _ h))))))) (by decide +kernel))) (goodIn_sub (fun _ h => List.mem_cons_of_mem _ (List.mem_append_left _ (List.mem_append_left _ (List.mem_append_left _ (List.mem_append_left _ (List.mem_append_right _ h)))))) (by decide +kernel))) (goodIn_sub (fun _ h => List.mem_cons_of_mem _ (List.mem_append_left _ (List.mem_append_left _ (List.mem_append_left _ (List.mem_append_right _ h))))) (by decide +kernel))) (goodIn_sub (fun _ h => List.mem_cons_of_mem _ (List.mem_append_left _ (List.mem_append_left _ (List.mem_append_right _ h)))) (by decide +kernel))) (goodIn_sub (fun _ h => List.mem_cons_of_mem _ (List.mem_append_left _ (List.mem_append_right _ h))) (by decide +kernel))
set_option maxRecDepth 20000 in
theorem gL_thrown_L_coins : GoodIn wsL_thrown (va_wsS RL 292 yL_coins wsL_coins) := goodIn_app (goodIn_of _ (by decide +kernel)) ggL_thrown_L_coins
set_option maxRecDepth 20000 in
theorem ggL_thrown_L_cover : GoodIn wsL_thrown wsL_cover := goodIn_ca (goodIn_ca (goodIn_ca (goodIn_ca (goodIn_ca (goodIn_r _ [152, 120, 153, 154, 155, 9, 156, 11, 125, 126, 127, 128, 129, 130, 131, 132, 133, 26, 134, 28, 135, 136, 137, 138, 139, 140, 141, 142, 143, 144, 145, 146, 147, 148, 149, 157, 158, 159, 160, 161, 162, 916, 917, 918, 919, 920, 921, 922, 923, 924, 925, 926, 927, 928, 929, 930, 931, 932, 933, 934, 935, 936, 937] (by decide +kernel) (by decide +kernel)) (goodIn_sub (fun _ h => List.mem_cons_of_mem _ (List.mem_append_left _ (List.mem_append_left _ (List.mem_append_left _ (List.mem_append_left _ (List.mem_append_right _ h)))))) (by decide +kernel))) (goodIn_sub (fun _ h => List.mem_cons_of_mem _ (List.mem_append_left _ (List.mem_append_left _ (List.mem_append_left _ (List.mem_append_right _ h))))) (by decide +kernel))) (goodIn_sub (fun _ h => List.mem_cons_of_mem _ (List.mem_append_left _ (List.mem_append_left _ (List.mem_append_right _ h)))) (by decide +kernel))) (goodIn_sub (fun _ h => List.mem_cons_of_mem _ (List.mem_append_left _ (List.mem_append_right _ h))) (by decide +kernel))) (goodIn_sub (fun _ h => List.mem_cons_of_mem _ (List.mem_append_left _ (List.mem_append_left _ (List.mem_append_left _ (List.mem_append_left _ (List.mem_append_left _ (List.mem_append_right _ h))))))) (by decide +kernel))
set_option maxRecDepth 20000 in
theorem gL_thrown_L_cover : GoodIn wsL_thrown (va_wsS RL 219 yL_cover wsL_cover) := goodIn_app (goodIn_of _ (by decide +kernel)) ggL_thrown_L_cover
set_option maxRecDepth 20000 in
theorem ggL_thrown_L_credit : GoodIn wsL_thrown wsL_credit := goodIn_ca (goodIn_ca (goodIn_ca (goodIn_ca (goodIn_ca (goodIn_r _ [697, 120, 698, 699, 700, 9, 701, 11, 125, 126, 127, 128, 129, 130, 131, 132, 133, 26, 134, 28, 135, 136, 137, 138, 139, 140, 141, 142, 143, 144, 145, 146, 147, 148, 149, 702, 38, 39, 40, 41, 42, 43, 44, 45, 916, 917, 918, 919, 920, 921, 922, 923, 924, 925, 926, 927, 928, 929, 930, 931, 932, 933, 934, 935, 936, 937] (by decide +kernel) (by decide +kernel)) (goodIn_sub (fun _ h => List.mem_cons_of_mem _ (List.mem_append_left _ (List.mem_append_left _ (List.mem_append_left _ (List.mem_append_left _ (List.mem_append_right _ h)))))) (by decide +kernel))) (goodIn_sub (fun _ h => List.mem_cons_of_mem _ (List.mem_append_left _ (List.mem_append_left _ (List.mem_append_left _ (List.mem_append_right _ h))))) (by decide +kernel))) (goodIn_sub (fun _ h => List.mem_cons_of_mem _ (List.mem_append_left _ (List.mem_append_left _ (List.mem_append_right _ h)))) (by decide +kernel))) (goodIn_sub (fun _ h => List.mem_cons_of_mem _ (List.mem_append_left _ (List.mem_append_right _ h))) (by decide +kernel))) (goodIn_sub (fun _ h => List.mem_cons_of_mem _ (List.mem_append_left _ (List.mem_append_left _ (List.mem_append_left _ (List.mem_append_left _ (List.mem_append_left _ (List.mem_append_right _ h))))))) (by decide +kernel))
set_option maxRecDepth 20000 in
theorem gL_thrown_L_credit : GoodIn wsL_thrown (va_wsS RL 294 yL_credit wsL_credit) := goodIn_app (goodIn_of _ (by decide +kernel)) ggL_thrown_L_credit
set_option maxRecDepth 20000 in
theorem ggL_thrown_L_position : GoodIn wsL_thrown wsL_position := goodIn_ca (goodIn_ca (goodIn_ca (goodIn_ca (goodIn_ca (goodIn_r _ [705, 120, 706, 707, 708, 9, 709, 11, 125, 126, 127, 128, 129, 130, 131, 132, 133, 26, 134, 28, 135, 136, 137, 138, 139, 140, 141, 142, 143, 144, 145, 146, 147, 148, 149, 710, 34, 35, 36, 37, 38, 39, 40, 41, 42, 43, 44, 45, 46, 47, 48, 49, 916, 917, 918, 919, 920, 921, 922, 923, 924, 925, 926, 927, 928, 929, 930, 931, 932, 933, 934, 935, 936, 937] (by decide +kernel) (by decide +kernel)) (goodIn_sub (fun _ h => List.mem_cons_of_mem _ (List.mem_append_left _ (List.mem_append_left _ (List.mem_append_left _ (List.mem_append_left _ (List.mem_append_right _ h)))))) (by decide +kernel))) (goodIn_sub (fun _ h => List.mem_cons_of_mem _ (List.mem_append_left _ (List.mem_append_left _ (List.mem_append_left _ (List.mem_append_right _ h))))) (by decide +kernel))) (goodIn_sub (fun _ h => List.mem_cons_of_mem _ (List.mem_append_left _ (List.mem_append_left _ (List.mem_append_right _ h)))) (by decide +kernel))) (goodIn_sub (fun _ h => List.mem_cons_of_mem _ (List.mem_append_left _ (List.mem_append_right _ h))) (by decide +kernel))) (goodIn_sub (fun _ h => List.mem_cons_of_mem _ (List.mem_append_left _ (List.mem_append_left _ (List.mem_append_left _ (List.mem_append_left _ (List.mem_append_left _ (List.mem_append_right _ h))))))) (by decide +kernel))
set_option maxRecDepth 20000 in
theorem gL_thrown_L_position : GoodIn wsL_thrown (va_wsS RL 296 yL_position wsL_position) := goodIn_app (goodIn_of _ (by decide +kernel)) ggL_thrown_L_position
set_option maxRecDepth 20000 in
theorem ggL_thrown_L_byAccount : GoodIn wsL_thrown wsL_byAccount := goodIn_ca (goodIn_ca (goodIn_ca (goodIn_ca (goodIn_ca (goodIn_r _ [172, 120, 173, 174, 175, 9, 176, 11, 125, 126, 127, 128, 129, 130, 131, 132, 133, 26, 134, 28, 135, 136, 137, 138, 139, 140, 141, 142, 143, 144, 145, 146, 147, 148, 149, 916, 917, 918, 919, 920, 921, 922, 923, 924, 925, 926, 927, 928, 929, 930, 931, 932, 933, 934, 935, 936, 937] (by decide +kernel) (by decide +kernel)) (goodIn_sub (fun _ h => List.mem_cons_of_mem _ (List.mem_append_left _ (List.mem_append_left _ (List.mem_append_left _ (List.mem_append_left _ (List.mem_append_left _ (List.mem_append_right _ h))))))) (by decide +kernel))) (goodIn_sub (fun _ h => List.mem_cons_of_mem _ (List.mem_append_left _ (List.mem_append_left _ (List.mem_append_left _ (List.mem_append_left _ (List.mem_append_right _ h)))))) (by decide +kernel))) (goodIn_sub (fun _ h => List.mem_cons_of_mem _ (List.mem_append_left _ (List.mem_append_left _ (List.mem_append_left _ (List.mem_append_right _ h))))) (by decide +kernel))) (goodIn_sub (fun _ h => List.mem_cons_of_mem _ (List.mem_append_left _ (List.mem_append_left _ (List.mem_append_right _ h)))) (by decide +kernel))) (goodIn_sub (fun _ h => List.mem_cons_of_mem _ (List.mem_append_left _ (List.mem_append_right _ h))) (by decide +kernel))
set_option maxRecDepth 20000 in
theorem gL_thrown_L_byAccount : GoodIn wsL_thrown (va_wsS RL 223 yL_byAccount wsL_byAccount) := goodIn_app (goodIn_of _ (by decide +kernel)) ggL_thrown_L_byAccount
set_option maxRecDepth 20000 in
theorem ggL_thrown_L_reachCount : GoodIn wsL_thrown wsL_reachCount := goodIn_ca (goodIn_ca (goodIn_ca (goodIn_ca (goodIn_ca (goodIn_r _ [179, 120, 180, 181, 182, 9, 183, 11, 102, 125, 126, 127, 128, 129, 130, 131, 132, 133, 26, 134, 28, 135, 136, 137, 138, 139, 140, 141, 142, 143, 144, 145, 146, 147, 148, 149, 184, 185, 186, 106, 187, 108, 109, 110, 111, 112, 188, 189, 190, 191, 192, 113, 114, 115, 116, 193, 194, 195, 196, 197, 198, 199, 916, 917, 918, 919, 920, 921, 922, 923, 924, 925, 926, 927, 928, 929, 930, 931, 932, 933, 934, 935, 936, 937, 938, 939, 940, 941, 942] (by decide +kernel) (by decide +kernel)) (goodIn_sub (fun _ h => List.mem_cons_of_mem _ (List.mem_append_left _ (List.mem_append_left _ (List.mem_append_left _ (List.mem_append_left _ (List.mem_append_right _ h)))))) (by decide +kernel))) (goodIn_sub (fun _ h => List.mem_cons_of_mem _ (List.mem_append_left _ (List.mem_append_left _ (List.mem_append_left _ (List.mem_append_right _ h))))) (by decide +kernel))) (goodIn_sub (fun _ h => List.mem_cons_of_mem _ (List.mem_append_left _ (List.mem_append_left _ (List.mem_append_right _ h)))) (by decide +kernel))) (goodIn_sub (fun _ h => List.mem_cons_of_mem _ (List.mem_append_left _ (List.mem_append_right _ h))) (by decide +kernel))) (goodIn_sub (fun _ h => List.mem_cons_of_mem _ (List.mem_append_left _ (List.mem_append_left _ (List.mem_append_left _ (List.mem_append_left _ (List.mem_append_left _ (List.mem_append_right _ h))))))) (by decide +kernel))
set_option maxRecDepth 20000 in
theorem gL_thrown_L_reachCount : GoodIn wsL_thrown (va_wsS RL 226 yL_reachCount wsL_reachCount) := goodIn_app (goodIn_of _ (by decide +kernel)) ggL_thrown_L_reachCount
set_option maxRecDepth 20000 in
theorem ggL_thrown_L_reachByRounds : GoodIn wsL_thrown wsL_reachByRounds := goodIn_ca (goodIn_ca (goodIn_ca (goodIn_ca (goodIn_ca (goodIn_r _ [713, 120, 714, 715, 716, 9, 717, 11, 102, 125, 126, 127, 128, 129, 130, 131, 132, 133, 26, 134, 28, 135, 136, 137, 138, 139, 140, 141, 142, 143, 144, 145, 146, 147, 148, 149, 718, 719, 720, 106, 721, 722, 108, 109, 110, 111, 112, 723, 724, 725, 726, 113, 114, 115, 116, 727, 728, 729, 730, 193, 194, 195, 196, 197, 198, 199, 916, 917, 918, 919, 920, 921, 922, 923, 924, 925, 926, 927, 928, 929, 930, 931, 932, 933, 934, 935, 936, 937, 938, 939, 940, 941, 942] (by decide +kernel) (by decide +kernel)) (goodIn_sub (fun _ h => List.mem_cons_of_mem _ (List.mem_append_left _ (List.mem_append_left _ (List.mem_append_left _ (List.mem_append_left _ (List.mem_append_right _ h)))))) (by decide +kernel))) (goodIn_sub (fun _ h => List.mem_cons_of_mem _ (List.mem_append_left _ (List.mem_append_left _ (List.mem_append_left _ (List.mem_append_right _ h))))) (by decide +kernel))) (goodIn_sub (fun _ h => List.mem_cons_of_mem _ (List.mem_append_left _ (List.mem_append_left _ (List.mem_append_right _ h)))) (by decide +kernel))) (goodIn_sub (fun _ h => List.mem_cons_of_mem _ (List.mem_append_left _ (List.mem_append_right _ h))) (by decide +kernel))) (goodIn_sub (fun _ h => List.mem_cons_of_mem _ (List.mem_append_left _ (List.mem_append_left _ (List.mem_append_left _ (List.mem_append_left _ (List.mem_append_left _ (List.mem_append_right _ h))))))) (by decide +kernel))
set_option maxRecDepth 20000 in
theorem gL_thrown_L_reachByRounds : GoodIn wsL_thrown (va_wsS RL 298 yL_reachByRounds wsL_reachByRounds) := goodIn_app (goodIn_of _ (by decide +kernel)) ggL_thrown_L_reachByRounds
set_option maxRecDepth 20000 in
theorem ggL_thrown_L_reaches : GoodIn wsL_thrown wsL_reaches := goodIn_ca (goodIn_ca (goodIn_ca (goodIn_ca (goodIn_ca (goodIn_r _ [733, 120, 734, 735, 736, 9, 737, 11, 102, 569, 536, 127, 537, 130, 534, 129, 131, 132, 133, 26, 134, 28, 135, 136, 137, 138, 139, 140, 141, 142, 143, 144, 145, 146, 147, 148, 149, 738, 739, 740, 106, 741, 108, 109, 110, 111, 112, 188, 189, 190, 191, 192, 113, 114, 115, 116, 916, 917, 918, 919, 920, 921, 922, 923, 924, 925, 926, 927, 928, 929, 930, 931, 932, 933, 934, 935, 936, 937, 938, 939, 940, 941, 942] (by decide +kernel) (by decide +kernel)) (goodIn_sub (fun _ h => List.mem_cons_of_mem _ (List.mem_append_left _ (List.mem_append_left _ (List.mem_append_left _ (List.mem_append_left _ (List.mem_append_right _ h)))))) (by decide +kernel))) (goodIn_sub (fun _ h => List.mem_cons_of_mem _ (List.mem_append_left _ (List.mem_append_left _ (List.mem_append_left _ (List.mem_append_right _ h))))) (by decide +kernel))) (goodIn_sub (fun _ h => List.mem_cons_of_mem _ (List.mem_append_left _ (List.mem_append_left _ (List.mem_append_right _ h)))) (by decide +kernel))) (goodIn_sub (fun _ h => List.mem_cons_of_mem _ (List.mem_append_left _ (List.mem_append_right _ h))) (by decide +kernel))) (goodIn_sub (fun _ h => List.mem_cons_of_mem _ (List.mem_append_left _ (List.mem_append_left _ (List.mem_append_left _ (List.mem_append_left _ (List.mem_append_left _ (List.mem_append_right _ h))))))) (by decide +kernel))
set_option maxRecDepth 20000 in
theorem gL_thrown_L_reaches : GoodIn wsL_thrown (va_wsS RL 301 yL_reaches wsL_reaches) := goodIn_app (goodIn_of _ (by decide +kernel)) ggL_thrown_L_reaches
set_option maxRecDepth 20000 in
theorem ggL_thrown_L_shareIf : GoodIn wsL_thrown wsL_shareIf := goodIn_ca (goodIn_ca (goodIn_ca (goodIn_ca (goodIn_ca (goodIn_ca (goodIn_r _ [744, 120, 745, 746, 747, 9, 748, 11, 639, 569, 536, 127, 537, 130, 534, 129, 131, 132, 133, 26, 134, 28, 135, 136, 137, 138, 139, 140, 141, 142, 143, 144, 145, 146, 147, 148, 149, 233, 234, 235, 236, 237, 238, 239, 240, 46, 47, 48, 49, 41, 42, 43, 44, 45, 241, 242, 243, 244, 222, 245, 158, 159, 160, 161, 162, 749, 750, 751, 643, 752, 645, 647, 648, 649, 650, 651, 652, 653, 297, 654, 655, 656, 657, 658, 659, 660, 661, 916, 917, 918, 919, 920, 921, 922, 923, 924, 925, 926, 927, 928, 929, 930, 931, 932, 933, 934, 935, 936, 937, 962, 963] (by decide +kernel) (by decide +kernel)) (goodIn_sub (fun _ h => List.mem_cons_of_mem _ (List.mem_append_left _ (List.mem_append_left _ (List.mem_append_left _ (List.mem_append_left _ (List.mem_append_right _ h)))))) (by decide +kernel))) (goodIn_sub (fun _ h => List.mem_cons_of_mem _ (List.mem_append_left _ (List.mem_append_left _ (List.mem_append_left _ (List.mem_append_right _ h))))) (by decide +kernel))) (goodIn_sub (fun _ h => List.mem_cons_of_mem _ (List.mem_append_left _ (List.mem_append_left _ (List.mem_append_right _ h)))) (by decide +kernel))) (goodIn_sub (fun _ h => List.mem_cons_of_mem _ (List.mem_append_left _ (List.mem_append_right _ h))) (by decide +kernel))) (goodIn_sub (fun _ h => List.mem_cons_of_mem _ (List.mem_append_left _ (List.mem_append_left _ (List.mem_append_left _ (List.mem_append_left _ (List.mem_append_left _ (List.mem_append_right _ h))))))) (by decide +kernel))) (goodIn_sub (fun _ h => List.mem_cons_of_mem _ (List.mem_append_left _ (List.mem_append_left _ (List.mem_append_left _ (List.mem_append_left _ (List.mem_append_left _ (List.mem_append_left _ (List.mem_append_left _ (List.mem_append_right _ h))))))))) (by decide +kernel))
set_option maxRecDepth 20000 in
theorem gL_thrown_L_shareIf : GoodIn wsL_thrown (va_wsS RL 303 yL_shareIf wsL_shareIf) := goodIn_app (goodIn_of _ (by decide +kernel)) ggL_thrown_L_shareIf
set_option maxRecDepth 20000 in
theorem ggL_thrown_L_byPosition : GoodIn wsL_thrown wsL_byPosition := goodIn_ca (goodIn_ca (goodIn_r _ [202, 203, 204, 205, 206, 9, 207, 208, 209, 11, 210, 211, 212, 26, 213, 28, 214, 215, 216, 217, 218, 219, 220, 221, 222, 33, 34, 35, 36, 37, 38, 39, 40, 41, 42, 43, 44, 45, 46, 47, 48, 49, 223, 224, 195, 225, 916, 917, 918, 919, 920, 921, 922, 923, 924, 925, 926, 927, 928, 929, 930, 931, 932, 933, 934, 935, 936, 937] (by decide +kernel) (by decide +kernel)) (goodIn_sub (fun _ h => List.mem_cons_of_mem _ (List.mem_append_right _ h)) (by decide +kernel))) (goodIn_sub (fun _ h => List.mem_cons_of_mem _ (List.mem_append_left _ (List.mem_append_left _ (List.mem_append_left _ (List.mem_append_left _ (List.mem_append_left _ (List.mem_append_right _ h))))))) (by decide +kernel))
set_option maxRecDepth 20000 in
theorem gL_thrown_L_byPosition : GoodIn wsL_thrown (va_wsS RL 228 yL_byPosition wsL_byPosition) := goodIn_app (goodIn_of _ (by decide +kernel)) ggL_thrown_L_byPosition
set_option maxRecDepth 20000 in
theorem ggL_thrown_X10_debtCount : GoodIn wsL_thrown wsX10_debtCount := goodIn_ca (goodIn_r _ [756, 11, 70, 71, 72, 26, 73, 45, 916, 917, 918, 919, 920, 921, 922, 923, 924, 925, 926, 927, 928, 929, 930, 931, 932, 933, 934, 935, 936, 937] (by decide +kernel) (by decide +kernel)) (goodIn_sub (fun _ h => List.mem_cons_of_mem _ (List.mem_append_left _ (List.mem_append_left _ (List.mem_append_left _ (List.mem_append_left _ (List.mem_append_left _ (List.mem_append_right _ h))))))) (by decide +kernel))
set_option maxRecDepth 20000 in
theorem gL_thrown_X10_debtCount : GoodIn wsL_thrown (wsV RL 306 RX10 yX10_debtCount wsX10_debtCount) := goodIn_app (goodIn_of _ (by decide +kernel)) ggL_thrown_X10_debtCount
set_option maxRecDepth 20000 in
theorem ggL_thrown_L_largestDebtor : GoodIn wsL_thrown wsL_largestDebtor := goodIn_ca (goodIn_ca (goodIn_r _ [465, 203, 466, 467, 468, 9, 469, 208, 209, 11, 470, 471, 472, 26, 473, 45, 916, 917, 918, 919, 920, 921, 922, 923, 924, 925, 926, 927, 928, 929, 930, 931, 932, 933, 934, 935, 936, 937] (by decide +kernel) (by decide +kernel)) (goodIn_sub (fun _ h => List.mem_cons_of_mem _ (List.mem_append_right _ h)) (by decide +kernel))) (goodIn_sub (fun _ h => List.mem_cons_of_mem _ (List.mem_append_left _ (List.mem_append_left _ (List.mem_append_left _ (List.mem_append_left _ (List.mem_append_left _ (List.mem_append_right _ h))))))) (by decide +kernel))
set_option maxRecDepth 20000 in
theorem gL_thrown_L_largestDebtor : GoodIn wsL_thrown (va_wsS RL 236 yL_largestDebtor wsL_largestDebtor) := goodIn_app (goodIn_of _ (by decide +kernel)) ggL_thrown_L_largestDebtor
set_option maxRecDepth 20000 in
theorem ggL_thrown_L_largestCreditor : GoodIn wsL_thrown wsL_largestCreditor := goodIn_ca (goodIn_ca (goodIn_r _ [476, 203, 477, 478, 479, 9, 480, 208, 209, 11, 470, 471, 472, 26, 473, 45, 916, 917, 918, 919, 920, 921, 922, 923, 924, 925, 926, 927, 928, 929, 930, 931, 932, 933, 934, 935, 936, 937] (by decide +kernel) (by decide +kernel)) (goodIn_sub (fun _ h => List.mem_cons_of_mem _ (List.mem_append_right _ h)) (by decide +kernel))) (goodIn_sub (fun _ h => List.mem_cons_of_mem _ (List.mem_append_left _ (List.mem_append_left _ (List.mem_append_left _ (List.mem_append_left _ (List.mem_append_left _ (List.mem_append_right _ h))))))) (by decide +kernel))
set_option maxRecDepth 20000 in
theorem gL_thrown_L_largestCreditor : GoodIn wsL_thrown (va_wsS RL 238 yL_largestCreditor wsL_largestCreditor) := goodIn_app (goodIn_of _ (by decide +kernel)) ggL_thrown_L_largestCreditor
set_option maxRecDepth 20000 in
theorem ggL_thrown_L_writeDebts : GoodIn wsL_thrown wsL_writeDebts := goodIn_ca (goodIn_ca (goodIn_ca (goodIn_ca (goodIn_ca (goodIn_r _ [249, 120, 250, 251, 252, 9, 253, 11, 254, 125, 126, 127, 128, 129, 130, 131, 132, 133, 26, 134, 28, 135, 136, 137, 138, 139, 140, 141, 142, 143, 144, 145, 146, 147, 148, 149, 255, 256, 257, 258, 259, 260, 261, 262, 263, 264, 265, 266, 267, 268, 269, 270, 271, 272, 273, 274, 275, 276, 277, 278, 279, 280, 281, 282, 283, 284, 285, 286, 287, 288, 289, 31, 290, 291, 292, 293, 294, 295, 296, 297, 298, 299, 300, 301, 302, 303, 304, 305, 306, 307, 308, 309, 310, 311, 312, 313, 314, 315, 316, 317, 318, 319, 320, 321, 322, 323, 324, 325, 326, 327, 328, 329, 330, 331, 332, 333, 334, 335, 336, 337, 338, 339, 340, 341, 342, 343, 344, 345, 346, 347, 348, 195, 349, 350, 351, 352, 353, 354, 355, 356, 357, 358, 359, 360, 361, 362, 363, 364, 365, 366, 367, 368, 369, 370, 371, 372, 373, 374, 375, 376, 377, 378, 379, 380, 381, 382, 383, 384, 385, 386, 387, 388, 389, 390, 391, 392, 393, 394, 395, 396, 397, 398, 399, 400, 401, 402, 403, 404, 405, 406, 407, 408, 409, 410, 411, 412, 413, 414, 415, 416, 417, 418, 419, 420, 421, 422, 423, 424, 425, 426, 427, 428, 429, 430, 431, 432, 433, 434, 42, 43, 44, 45, 435, 436, 437, 438, 439, 440, 441, 442, 916, 917, 918, 919, 920, 921, 922, 923, 924, 925, 926, 927, 928, 929, 930, 931, 932, 933, 934, 935, 936, 937, 943, 944, 945, 946, 947, 948, 949, 950, 951, 952, 953, 954, 955, 956, 957, 958] (by decide +kernel) (by decide +kernel)) (goodIn_sub (fun _ h => List.mem_cons_of_mem _ (List.mem_append_left _ (List.mem_append_left _ (List.mem_append_left _ (List.mem_append_left _ (List.mem_append_left _ (List.mem_append_right _ h))))))) (by decide +kernel))) (goodIn_sub (fun _ h => List.mem_cons_of_mem _ (List.mem_append_left _ (List.mem_append_left _ (List.mem_append_left _ (List.mem_append_left _ (List.mem_append_right _ h)))))) (by decide +kernel))) (goodIn_sub (fun _ h => List.mem_cons_of_mem _ (List.mem_append_left _ (List.mem_append_left _ (List.mem_append_left _ (List.mem_append_right _ h))))) (by decide +kernel))) (goodIn_sub (fun _ h => List.mem_cons_of_mem _ (List.mem_append_left _ (List.mem_append_left _ (List.mem_append_right _ h)))) (by decide +kernel))) (goodIn_sub (fun _ h => List.mem_cons_of_mem _ (List.mem_append_left _ (List.mem_append_right _ h))) (by decide +kernel))
set_option maxRecDepth 20000 in
theorem gL_thrown_L_writeDebts : GoodIn wsL_thrown (va_wsS RL 234 yL_writeDebts wsL_writeDebts) := goodIn_app (goodIn_of _ (by decide +kernel)) ggL_thrown_L_writeDebts
set_option maxRecDepth 20000 in
theorem ggL_thrown_L_outputChar : GoodIn wsL_thrown wsL_outputChar := goodIn_ca (goodIn_r _ [445, 120, 446, 447, 448, 9, 449, 138, 139, 254, 435, 436, 437, 258, 438, 439, 440, 262, 441, 264, 442, 269, 450, 451, 452, 453, 454, 455, 456, 457, 277, 270, 458, 307, 31, 308, 459, 429, 367, 430, 369, 431, 432, 372, 433, 460, 461, 336, 462, 358, 382, 383, 362, 363, 364, 916, 917, 918, 919, 920, 921, 922, 923, 924, 925, 926, 927, 949, 950, 951, 952] (by decide +kernel) (by decide +kernel)) (goodIn_sub (fun _ h => List.mem_cons_of_mem _ (List.mem_append_left _ (List.mem_append_left _ (List.mem_append_left _ (List.mem_append_left _ (List.mem_append_right _ h)))))) (by decide +kernel))
set_option maxRecDepth 20000 in
theorem gL_thrown_L_outputChar : GoodIn wsL_thrown (va_wsS RL 162 yL_outputChar wsL_outputChar) := goodIn_app (goodIn_of _ (by decide +kernel)) ggL_thrown_L_outputChar
set_option maxRecDepth 20000 in
theorem ggL_thrown_L_runs : GoodIn wsL_thrown wsL_runs := goodIn_ca (goodIn_ca (goodIn_ca (goodIn_ca (goodIn_ca (goodIn_r _ [759, 760, 761, 762, 367, 763, 764, 765, 766, 767, 768, 769, 770, 771, 772, 773, 774, 775, 776, 777, 778, 779, 780, 321, 781, 782, 429, 430, 369, 431, 432, 372, 433, 783, 784, 336, 785, 425, 426, 427, 362, 363, 364, 428, 786, 461, 462, 358, 382, 383, 787, 788, 3, 789, 489, 790, 791, 792, 9, 793, 142, 143, 794, 795, 796, 797, 798, 799, 800, 801, 802, 803, 804, 805, 806, 807, 808, 620, 809, 810, 811, 812, 140, 141, 144, 145, 813, 814, 11, 815, 485, 816, 817, 818, 819, 820, 821, 822, 823, 824, 825, 826, 827, 828, 289, 31, 290, 829, 830, 831, 832, 833, 834, 835, 836, 837, 838, 839, 840, 841, 842, 843, 844, 845, 846, 847, 848, 849, 850, 851, 852, 853, 507, 508, 26, 509, 45, 510, 310, 311, 312, 222, 161, 511, 512, 513, 28, 162, 514, 515, 854, 855, 856, 857, 858, 859, 860, 861, 862, 863, 864, 865, 866, 867, 868, 869, 870, 871, 872, 873, 874, 875, 494, 495, 127, 496, 129, 236, 527, 528, 529, 530, 531, 532, 533, 534, 535, 536, 537, 130, 131, 132, 133, 134, 538, 539, 540, 541, 47, 48, 49, 41, 42, 43, 44, 553, 554, 555, 556, 569, 582, 583, 584, 596, 597, 598, 233, 234, 235, 237, 238, 239, 240, 46, 241, 242, 243, 244, 245, 158, 159, 160, 876, 877, 878, 879, 880, 639, 516, 517, 518, 519, 542, 543, 544, 545, 557, 558, 559, 560, 561, 570, 571, 572, 573, 574, 307, 308, 585, 586, 587, 588, 881, 882, 883, 884, 885, 886, 887, 888, 889, 890, 891, 892, 893, 894, 34, 35, 36, 37, 38, 39, 40, 895, 663, 664, 665, 896, 897, 898, 899, 900, 901, 599, 600, 601, 602, 640, 641, 642, 643, 644, 645, 646, 647, 648, 649, 650, 651, 652, 653, 297, 654, 655, 656, 657, 658, 659, 660, 661, 662, 497, 498, 499, 500, 501, 502, 503, 504, 505, 506, 964, 965, 966, 967, 916, 917, 918, 919, 920, 921, 922, 923, 924, 925, 926, 927, 968, 969, 970, 971, 972, 973, 974, 928, 929, 930, 931, 932, 933, 934, 935, 936, 937, 975, 976, 977, 978, 962, 963, 959, 960, 961] (by decide +kernel) (by decide +kernel)) (goodIn_sub (fun _ h => List.mem_cons_of_mem _ (List.mem_append_left _ (List.mem_append_left _ (List.mem_append_right _ h)))) (by decide +kernel))) (goodIn_sub (fun _ h => List.mem_cons_of_mem _ (List.mem_append_left _ (List.mem_append_left _ (List.mem_append_left _ (List.mem_append_left _ (List.mem_append_left _ (List.mem_append_right _ h))))))) (by decide +kernel))) (goodIn_sub (fun _ h => List.mem_cons_of_mem _ (List.mem_append_left _ (List.mem_append_left _ (List.mem_append_left _ (List.mem_append_right _ h))))) (by decide +kernel))) (goodIn_sub (fun _ h => List.mem_cons_of_mem _ (List.mem_append_left _ (List.mem_append_right _ h))) (by decide +kernel))) (goodIn_sub (fun _ h => List.mem_cons_of_mem _ (List.mem_append_left _ (List.mem_append_left _ (List.mem_append_left _ (List.mem_append_left _ (List.mem_append_left _ (List.mem_append_left _ (List.mem_append_left _ (List.mem_append_right _ h))))))))) (by decide +kernel))
set_option maxRecDepth 20000 in
theorem gL_thrown_L_runs : GoodIn wsL_thrown (va_wsS RL 271 yL_runs wsL_runs) := goodIn_app (goodIn_of _ (by decide +kernel)) ggL_thrown_L_runs
set_option maxRecDepth 20000 in
theorem ggL_thrown_L_errorPosition : GoodIn wsL_thrown wsL_errorPosition := goodIn_ca (goodIn_r _ [904, 203, 905, 906, 907, 9, 908, 208, 209, 813, 916, 917, 918, 919, 920, 921, 922, 923, 924, 925, 926, 927] (by decide +kernel) (by decide +kernel)) (goodIn_sub (fun _ h => List.mem_cons_of_mem _ (List.mem_append_right _ h)) (by decide +kernel))
set_option maxRecDepth 20000 in
theorem gL_thrown_L_errorPosition : GoodIn wsL_thrown (va_wsS RL 311 yL_errorPosition wsL_errorPosition) := goodIn_app (goodIn_of _ (by decide +kernel)) ggL_thrown_L_errorPosition
set_option maxRecDepth 20000 in
theorem ggL_thrown_L_failedCommand : GoodIn wsL_thrown wsL_failedCommand := goodIn_ca (goodIn_r _ [911, 203, 912, 913, 914, 9, 915, 208, 209, 815, 916, 917, 918, 919, 920, 921, 922, 923, 924, 925, 926, 927] (by decide +kernel) (by decide +kernel)) (goodIn_sub (fun _ h => List.mem_cons_of_mem _ (List.mem_append_right _ h)) (by decide +kernel))
set_option maxRecDepth 20000 in
theorem gL_thrown_L_failedCommand : GoodIn wsL_thrown (va_wsS RL 315 yL_failedCommand wsL_failedCommand) := goodIn_app (goodIn_of _ (by decide +kernel)) ggL_thrown_L_failedCommand
theorem dL_thrown_0 : decode cL_thrown 0 = .ok (.aload_n 0, 1) := by decide +kernel
theorem dL_thrown_1 : decode cL_thrown 1 = .ok (.invokestatic 278, 3) := by decide +kernel
theorem dL_thrown_4 : decode cL_thrown 4 = .ok (.lstore_n 1, 1) := by decide +kernel
theorem dL_thrown_5 : decode cL_thrown 5 = .ok (.aload_n 0, 1) := by decide +kernel
theorem dL_thrown_6 : decode cL_thrown 6 = .ok (.invokevirtual 182, 3) := by decide +kernel
theorem dL_thrown_9 : decode cL_thrown 9 = .ok (.istore_n 3, 1) := by decide +kernel
theorem dL_thrown_10 : decode cL_thrown 10 = .ok (.aload_n 0, 1) := by decide +kernel
theorem dL_thrown_11 : decode cL_thrown 11 = .ok (.invokevirtual 282, 3) := by decide +kernel
theorem dL_thrown_14 : decode cL_thrown 14 = .ok (.istore 4, 2) := by decide +kernel
theorem dL_thrown_16 : decode cL_thrown 16 = .ok (.iload_n 3, 1) := by decide +kernel
theorem dL_thrown_17 : decode cL_thrown 17 = .ok (.bipush 8, 2) := by decide +kernel
theorem dL_thrown_19 : decode cL_thrown 19 = .ok (.if_icmp .lt 13, 3) := by decide +kernel
theorem dL_thrown_22 : decode cL_thrown 22 = .ok (.aload_n 0, 1) := by decide +kernel
theorem dL_thrown_23 : decode cL_thrown 23 = .ok (.invokestatic 172, 3) := by decide +kernel
theorem dL_thrown_26 : decode cL_thrown 26 = .ok (.sipush (-1001), 3) := by decide +kernel
theorem dL_thrown_29 : decode cL_thrown 29 = .ok (.if_icmp .ne 351, 3) := by decide +kernel
theorem dL_thrown_32 : decode cL_thrown 32 = .ok (.aload_n 0, 1) := by decide +kernel
theorem dL_thrown_33 : decode cL_thrown 33 = .ok (.iload_n 3, 1) := by decide +kernel
theorem dL_thrown_34 : decode cL_thrown 34 = .ok (.iload_n 3, 1) := by decide +kernel
theorem dL_thrown_35 : decode cL_thrown 35 = .ok (.iconst 0, 1) := by decide +kernel
theorem dL_thrown_36 : decode cL_thrown 36 = .ok (.invokestatic 176, 3) := by decide +kernel
theorem dL_thrown_39 : decode cL_thrown 39 = .ok (.sipush (-1001), 3) := by decide +kernel
theorem dL_thrown_42 : decode cL_thrown 42 = .ok (.if_icmp .ne 338, 3) := by decide +kernel
theorem dL_thrown_45 : decode cL_thrown 45 = .ok (.aload_n 0, 1) := by decide +kernel
theorem dL_thrown_46 : decode cL_thrown 46 = .ok (.iconst 0, 1) := by decide +kernel
theorem dL_thrown_47 : decode cL_thrown 47 = .ok (.iload_n 3, 1) := by decide +kernel
theorem dL_thrown_48 : decode cL_thrown 48 = .ok (.iconst 5, 1) := by decide +kernel
theorem dL_thrown_49 : decode cL_thrown 49 = .ok (.invokestatic 176, 3) := by decide +kernel
theorem dL_thrown_52 : decode cL_thrown 52 = .ok (.sipush (-1001), 3) := by decide +kernel
theorem dL_thrown_55 : decode cL_thrown 55 = .ok (.if_icmp .ne 325, 3) := by decide +kernel
theorem dL_thrown_58 : decode cL_thrown 58 = .ok (.aload_n 0, 1) := by decide +kernel
theorem dL_thrown_59 : decode cL_thrown 59 = .ok (.iconst 0, 1) := by decide +kernel
theorem dL_thrown_60 : decode cL_thrown 60 = .ok (.iconst 0, 1) := by decide +kernel
theorem dL_thrown_61 : decode cL_thrown 61 = .ok (.iconst 5, 1) := by decide +kernel
theorem dL_thrown_62 : decode cL_thrown 62 = .ok (.invokestatic 176, 3) := by decide +kernel
theorem dL_thrown_65 : decode cL_thrown 65 = .ok (.sipush (-1002), 3) := by decide +kernel
theorem dL_thrown_68 : decode cL_thrown 68 = .ok (.if_icmp .ne 312, 3) := by decide +kernel
theorem dL_thrown_71 : decode cL_thrown 71 = .ok (.aload_n 0, 1) := by decide +kernel
theorem dL_thrown_72 : decode cL_thrown 72 = .ok (.iconst 0, 1) := by decide +kernel
theorem dL_thrown_73 : decode cL_thrown 73 = .ok (.iconst 1, 1) := by decide +kernel
theorem dL_thrown_74 : decode cL_thrown 74 = .ok (.iconst 0, 1) := by decide +kernel
theorem dL_thrown_75 : decode cL_thrown 75 = .ok (.invokestatic 176, 3) := by decide +kernel
theorem dL_thrown_78 : decode cL_thrown 78 = .ok (.sipush (-1002), 3) := by decide +kernel
theorem dL_thrown_81 : decode cL_thrown 81 = .ok (.if_icmp .ne 299, 3) := by decide +kernel
theorem dL_thrown_84 : decode cL_thrown 84 = .ok (.aload_n 0, 1) := by decide +kernel
theorem dL_thrown_85 : decode cL_thrown 85 = .ok (.iconst 0, 1) := by decide +kernel
theorem dL_thrown_86 : decode cL_thrown 86 = .ok (.iconst 1, 1) := by decide +kernel
theorem dL_thrown_87 : decode cL_thrown 87 = .ok (.bipush 100, 2) := by decide +kernel
theorem dL_thrown_89 : decode cL_thrown 89 = .ok (.invokestatic 176, 3) := by decide +kernel
theorem dL_thrown_92 : decode cL_thrown 92 = .ok (.sipush (-1002), 3) := by decide +kernel
theorem dL_thrown_95 : decode cL_thrown 95 = .ok (.if_icmp .ne 285, 3) := by decide +kernel
theorem dL_thrown_98 : decode cL_thrown 98 = .ok (.aload_n 0, 1) := by decide +kernel
theorem dL_thrown_99 : decode cL_thrown 99 = .ok (.iload_n 3, 1) := by decide +kernel
theorem dL_thrown_100 : decode cL_thrown 100 = .ok (.iconst 0, 1) := by decide +kernel
theorem dL_thrown_101 : decode cL_thrown 101 = .ok (.iconst 0, 1) := by decide +kernel
theorem dL_thrown_102 : decode cL_thrown 102 = .ok (.invokestatic 240, 3) := by decide +kernel
theorem dL_thrown_105 : decode cL_thrown 105 = .ok (.sipush (-1001), 3) := by decide +kernel
theorem dL_thrown_108 : decode cL_thrown 108 = .ok (.if_icmp .ne 272, 3) := by decide +kernel
theorem dL_thrown_111 : decode cL_thrown 111 = .ok (.aload_n 0, 1) := by decide +kernel
theorem dL_thrown_112 : decode cL_thrown 112 = .ok (.iconst 0, 1) := by decide +kernel
theorem dL_thrown_113 : decode cL_thrown 113 = .ok (.iconst (-1), 1) := by decide +kernel
theorem dL_thrown_114 : decode cL_thrown 114 = .ok (.iconst 5, 1) := by decide +kernel
theorem dL_thrown_115 : decode cL_thrown 115 = .ok (.invokestatic 240, 3) := by decide +kernel
theorem dL_thrown_118 : decode cL_thrown 118 = .ok (.sipush (-1001), 3) := by decide +kernel
theorem dL_thrown_121 : decode cL_thrown 121 = .ok (.if_icmp .ne 259, 3) := by decide +kernel
theorem dL_thrown_124 : decode cL_thrown 124 = .ok (.aload_n 0, 1) := by decide +kernel
theorem dL_thrown_125 : decode cL_thrown 125 = .ok (.iconst 0, 1) := by decide +kernel
theorem dL_thrown_126 : decode cL_thrown 126 = .ok (.iconst 0, 1) := by decide +kernel
theorem dL_thrown_127 : decode cL_thrown 127 = .ok (.iconst 5, 1) := by decide +kernel
theorem dL_thrown_128 : decode cL_thrown 128 = .ok (.invokestatic 240, 3) := by decide +kernel
theorem dL_thrown_131 : decode cL_thrown 131 = .ok (.sipush (-1002), 3) := by decide +kernel
theorem dL_thrown_134 : decode cL_thrown 134 = .ok (.if_icmp .ne 246, 3) := by decide +kernel
theorem dL_thrown_137 : decode cL_thrown 137 = .ok (.aload_n 0, 1) := by decide +kernel
theorem dL_thrown_138 : decode cL_thrown 138 = .ok (.iconst 0, 1) := by decide +kernel
theorem dL_thrown_139 : decode cL_thrown 139 = .ok (.iconst 1, 1) := by decide +kernel
theorem dL_thrown_140 : decode cL_thrown 140 = .ok (.iconst 0, 1) := by decide +kernel
theorem dL_thrown_141 : decode cL_thrown 141 = .ok (.invokestatic 240, 3) := by decide +kernel
theorem dL_thrown_144 : decode cL_thrown 144 = .ok (.sipush (-1002), 3) := by decide +kernel
theorem dL_thrown_147 : decode cL_thrown 147 = .ok (.if_icmp .ne 233, 3) := by decide +kernel
theorem dL_thrown_150 : decode cL_thrown 150 = .ok (.aload_n 0, 1) := by decide +kernel
theorem dL_thrown_151 : decode cL_thrown 151 = .ok (.iconst 0, 1) := by decide +kernel
theorem dL_thrown_152 : decode cL_thrown 152 = .ok (.iconst 1, 1) := by decide +kernel
theorem dL_thrown_153 : decode cL_thrown 153 = .ok (.bipush 100, 2) := by decide +kernel
theorem dL_thrown_155 : decode cL_thrown 155 = .ok (.invokestatic 240, 3) := by decide +kernel
theorem dL_thrown_158 : decode cL_thrown 158 = .ok (.sipush (-1002), 3) := by decide +kernel
theorem dL_thrown_161 : decode cL_thrown 161 = .ok (.if_icmp .ne 219, 3) := by decide +kernel
theorem dL_thrown_164 : decode cL_thrown 164 = .ok (.aload_n 0, 1) := by decide +kernel
theorem dL_thrown_165 : decode cL_thrown 165 = .ok (.iload_n 3, 1) := by decide +kernel
theorem dL_thrown_166 : decode cL_thrown 166 = .ok (.iload_n 3, 1) := by decide +kernel
theorem dL_thrown_167 : decode cL_thrown 167 = .ok (.invokestatic 242, 3) := by decide +kernel
theorem dL_thrown_170 : decode cL_thrown 170 = .ok (.sipush (-1001), 3) := by decide +kernel
theorem dL_thrown_173 : decode cL_thrown 173 = .ok (.if_icmp .ne 207, 3) := by decide +kernel
theorem dL_thrown_176 : decode cL_thrown 176 = .ok (.aload_n 0, 1) := by decide +kernel
theorem dL_thrown_177 : decode cL_thrown 177 = .ok (.iconst 0, 1) := by decide +kernel
theorem dL_thrown_178 : decode cL_thrown 178 = .ok (.iload_n 3, 1) := by decide +kernel
theorem dL_thrown_179 : decode cL_thrown 179 = .ok (.invokestatic 242, 3) := by decide +kernel
theorem dL_thrown_182 : decode cL_thrown 182 = .ok (.sipush (-1001), 3) := by decide +kernel
theorem dL_thrown_185 : decode cL_thrown 185 = .ok (.if_icmp .ne 195, 3) := by decide +kernel
theorem dL_thrown_188 : decode cL_thrown 188 = .ok (.aload_n 0, 1) := by decide +kernel
theorem dL_thrown_189 : decode cL_thrown 189 = .ok (.iconst 1, 1) := by decide +kernel
theorem dL_thrown_190 : decode cL_thrown 190 = .ok (.iconst 1, 1) := by decide +kernel
theorem dL_thrown_191 : decode cL_thrown 191 = .ok (.invokestatic 242, 3) := by decide +kernel
theorem dL_thrown_194 : decode cL_thrown 194 = .ok (.sipush (-1002), 3) := by decide +kernel
theorem dL_thrown_197 : decode cL_thrown 197 = .ok (.if_icmp .ne 183, 3) := by decide +kernel
theorem dL_thrown_200 : decode cL_thrown 200 = .ok (.aload_n 0, 1) := by decide +kernel
theorem dL_thrown_201 : decode cL_thrown 201 = .ok (.iconst 0, 1) := by decide +kernel
theorem dL_thrown_202 : decode cL_thrown 202 = .ok (.iconst 1, 1) := by decide +kernel
theorem dL_thrown_203 : decode cL_thrown 203 = .ok (.iload_n 3, 1) := by decide +kernel
theorem dL_thrown_204 : decode cL_thrown 204 = .ok (.invokestatic 244, 3) := by decide +kernel
theorem dL_thrown_207 : decode cL_thrown 207 = .ok (.sipush (-1001), 3) := by decide +kernel
theorem dL_thrown_210 : decode cL_thrown 210 = .ok (.if_icmp .ne 170, 3) := by decide +kernel
theorem dL_thrown_213 : decode cL_thrown 213 = .ok (.aload_n 0, 1) := by decide +kernel
theorem dL_thrown_214 : decode cL_thrown 214 = .ok (.iload_n 3, 1) := by decide +kernel
theorem dL_thrown_215 : decode cL_thrown 215 = .ok (.iconst 0, 1) := by decide +kernel
theorem dL_thrown_216 : decode cL_thrown 216 = .ok (.iconst 0, 1) := by decide +kernel
theorem dL_thrown_217 : decode cL_thrown 217 = .ok (.invokestatic 244, 3) := by decide +kernel
theorem dL_thrown_220 : decode cL_thrown 220 = .ok (.sipush (-1001), 3) := by decide +kernel
theorem dL_thrown_223 : decode cL_thrown 223 = .ok (.if_icmp .ne 157, 3) := by decide +kernel
theorem dL_thrown_226 : decode cL_thrown 226 = .ok (.aload_n 0, 1) := by decide +kernel
theorem dL_thrown_227 : decode cL_thrown 227 = .ok (.iconst 0, 1) := by decide +kernel
theorem dL_thrown_228 : decode cL_thrown 228 = .ok (.iconst 1, 1) := by decide +kernel
theorem dL_thrown_229 : decode cL_thrown 229 = .ok (.iconst 1, 1) := by decide +kernel
theorem dL_thrown_230 : decode cL_thrown 230 = .ok (.invokestatic 244, 3) := by decide +kernel
theorem dL_thrown_233 : decode cL_thrown 233 = .ok (.sipush (-1002), 3) := by decide +kernel
theorem dL_thrown_236 : decode cL_thrown 236 = .ok (.if_icmp .ne 144, 3) := by decide +kernel
theorem dL_thrown_239 : decode cL_thrown 239 = .ok (.aload_n 0, 1) := by decide +kernel
theorem dL_thrown_240 : decode cL_thrown 240 = .ok (.iconst 0, 1) := by decide +kernel
theorem dL_thrown_241 : decode cL_thrown 241 = .ok (.iconst 1, 1) := by decide +kernel
theorem dL_thrown_242 : decode cL_thrown 242 = .ok (.iconst 0, 1) := by decide +kernel
theorem dL_thrown_243 : decode cL_thrown 243 = .ok (.invokestatic 244, 3) := by decide +kernel
theorem dL_thrown_246 : decode cL_thrown 246 = .ok (.sipush (-1002), 3) := by decide +kernel
theorem dL_thrown_249 : decode cL_thrown 249 = .ok (.if_icmp .ne 131, 3) := by decide +kernel
theorem dL_thrown_252 : decode cL_thrown 252 = .ok (.aload_n 0, 1) := by decide +kernel
theorem dL_thrown_253 : decode cL_thrown 253 = .ok (.iconst 0, 1) := by decide +kernel
theorem dL_thrown_254 : decode cL_thrown 254 = .ok (.iconst 0, 1) := by decide +kernel
theorem dL_thrown_255 : decode cL_thrown 255 = .ok (.iconst 1, 1) := by decide +kernel
theorem dL_thrown_256 : decode cL_thrown 256 = .ok (.invokestatic 244, 3) := by decide +kernel
theorem dL_thrown_259 : decode cL_thrown 259 = .ok (.sipush (-1002), 3) := by decide +kernel
theorem dL_thrown_262 : decode cL_thrown 262 = .ok (.if_icmp .ne 118, 3) := by decide +kernel
theorem dL_thrown_265 : decode cL_thrown 265 = .ok (.aload_n 0, 1) := by decide +kernel
theorem dL_thrown_266 : decode cL_thrown 266 = .ok (.iload_n 3, 1) := by decide +kernel
theorem dL_thrown_267 : decode cL_thrown 267 = .ok (.iconst 0, 1) := by decide +kernel
theorem dL_thrown_268 : decode cL_thrown 268 = .ok (.invokestatic 179, 3) := by decide +kernel
theorem dL_thrown_271 : decode cL_thrown 271 = .ok (.sipush (-1001), 3) := by decide +kernel
theorem dL_thrown_274 : decode cL_thrown 274 = .ok (.if_icmp .ne 106, 3) := by decide +kernel
theorem dL_thrown_277 : decode cL_thrown 277 = .ok (.aload_n 0, 1) := by decide +kernel
theorem dL_thrown_278 : decode cL_thrown 278 = .ok (.iconst 0, 1) := by decide +kernel
theorem dL_thrown_279 : decode cL_thrown 279 = .ok (.iconst 0, 1) := by decide +kernel
theorem dL_thrown_280 : decode cL_thrown 280 = .ok (.invokestatic 179, 3) := by decide +kernel
theorem dL_thrown_283 : decode cL_thrown 283 = .ok (.sipush (-1002), 3) := by decide +kernel
theorem dL_thrown_286 : decode cL_thrown 286 = .ok (.if_icmp .ne 94, 3) := by decide +kernel
theorem dL_thrown_289 : decode cL_thrown 289 = .ok (.aload_n 0, 1) := by decide +kernel
theorem dL_thrown_290 : decode cL_thrown 290 = .ok (.iconst 0, 1) := by decide +kernel
theorem dL_thrown_291 : decode cL_thrown 291 = .ok (.bipush 100, 2) := by decide +kernel
theorem dL_thrown_293 : decode cL_thrown 293 = .ok (.invokestatic 179, 3) := by decide +kernel
theorem dL_thrown_296 : decode cL_thrown 296 = .ok (.sipush (-1002), 3) := by decide +kernel
theorem dL_thrown_299 : decode cL_thrown 299 = .ok (.if_icmp .ne 81, 3) := by decide +kernel
theorem dL_thrown_302 : decode cL_thrown 302 = .ok (.aload_n 0, 1) := by decide +kernel
theorem dL_thrown_303 : decode cL_thrown 303 = .ok (.iload_n 3, 1) := by decide +kernel
theorem dL_thrown_304 : decode cL_thrown 304 = .ok (.sipush 900, 3) := by decide +kernel
theorem dL_thrown_307 : decode cL_thrown 307 = .ok (.invokestatic 249, 3) := by decide +kernel
theorem dL_thrown_310 : decode cL_thrown 310 = .ok (.sipush (-1001), 3) := by decide +kernel
theorem dL_thrown_313 : decode cL_thrown 313 = .ok (.if_icmp .ne 67, 3) := by decide +kernel
theorem dL_thrown_316 : decode cL_thrown 316 = .ok (.aload_n 0, 1) := by decide +kernel
theorem dL_thrown_317 : decode cL_thrown 317 = .ok (.iconst 0, 1) := by decide +kernel
theorem dL_thrown_318 : decode cL_thrown 318 = .ok (.iconst (-1), 1) := by decide +kernel
theorem dL_thrown_319 : decode cL_thrown 319 = .ok (.invokestatic 249, 3) := by decide +kernel
theorem dL_thrown_322 : decode cL_thrown 322 = .ok (.sipush (-1002), 3) := by decide +kernel
theorem dL_thrown_325 : decode cL_thrown 325 = .ok (.if_icmp .ne 55, 3) := by decide +kernel
theorem dL_thrown_328 : decode cL_thrown 328 = .ok (.aload_n 0, 1) := by decide +kernel
theorem dL_thrown_329 : decode cL_thrown 329 = .ok (.iconst 0, 1) := by decide +kernel
theorem dL_thrown_330 : decode cL_thrown 330 = .ok (.sipush 501, 3) := by decide +kernel
theorem dL_thrown_333 : decode cL_thrown 333 = .ok (.invokestatic 249, 3) := by decide +kernel
theorem dL_thrown_336 : decode cL_thrown 336 = .ok (.sipush (-1002), 3) := by decide +kernel
theorem dL_thrown_339 : decode cL_thrown 339 = .ok (.if_icmp .ne 41, 3) := by decide +kernel
theorem dL_thrown_342 : decode cL_thrown 342 = .ok (.aload_n 0, 1) := by decide +kernel
theorem dL_thrown_343 : decode cL_thrown 343 = .ok (.iconst (-1), 1) := by decide +kernel
theorem dL_thrown_344 : decode cL_thrown 344 = .ok (.invokestatic 174, 3) := by decide +kernel
theorem dL_thrown_347 : decode cL_thrown 347 = .ok (.sipush (-1001), 3) := by decide +kernel
theorem dL_thrown_350 : decode cL_thrown 350 = .ok (.if_icmp .ne 30, 3) := by decide +kernel
theorem dL_thrown_353 : decode cL_thrown 353 = .ok (.aload_n 0, 1) := by decide +kernel
theorem dL_thrown_354 : decode cL_thrown 354 = .ok (.bipush 91, 2) := by decide +kernel
theorem dL_thrown_356 : decode cL_thrown 356 = .ok (.invokestatic 174, 3) := by decide +kernel
theorem dL_thrown_359 : decode cL_thrown 359 = .ok (.sipush (-1001), 3) := by decide +kernel
theorem dL_thrown_362 : decode cL_thrown 362 = .ok (.if_icmp .ne 18, 3) := by decide +kernel
theorem dL_thrown_365 : decode cL_thrown 365 = .ok (.aload_n 0, 1) := by decide +kernel
theorem dL_thrown_366 : decode cL_thrown 366 = .ok (.iload_n 3, 1) := by decide +kernel
