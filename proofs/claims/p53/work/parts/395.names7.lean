theorem goodIn_cut {big ws : List Cond} (n : Nat) (h1 : GoodIn big (ws.take n)) (h2 : GoodIn big (ws.drop n)) : GoodIn big ws := fun w hw => (List.mem_append.mp (show w ∈ ws.take n ++ ws.drop n by rw [List.take_append_drop]; exact hw)).elim (h1 w) (h2 w)
set_option maxRecDepth 20000 in
theorem ggL_largestCreditor_X10_largestCreditor : GoodIn wsL_largestCreditor wsX10_largestCreditor := goodIn_ca (goodIn_ca (goodIn_r _ [6, 7, 8, 9, 10, 11, 12, 13, 14, 15, 16, 17, 18, 19, 20, 21, 22, 23, 24, 25, 26, 27, 28, 29, 30, 31, 32, 33, 34, 35, 36, 37] (by decide +kernel) (by decide +kernel)) (goodIn_sub (fun _ h => List.mem_cons_of_mem _ (List.mem_append_left _ (List.mem_append_right _ h))) (by decide +kernel))) (goodIn_sub (fun _ h => List.mem_cons_of_mem _ (List.mem_append_right _ h)) (by decide +kernel))
set_option maxRecDepth 20000 in
theorem gL_largestCreditor_X10_largestCreditor : GoodIn wsL_largestCreditor (wsV RL 84 RX10 yX10_largestCreditor wsX10_largestCreditor) := goodIn_app (goodIn_of _ (by decide +kernel)) ggL_largestCreditor_X10_largestCreditor
theorem dL_largestCreditor_0 : decode cL_largestCreditor 0 = .ok (.aload_n 0, 1) := by decide +kernel
theorem dL_largestCreditor_1 : decode cL_largestCreditor 1 = .ok (.invokevirtual 84, 3) := by decide +kernel
theorem dL_largestCreditor_4 : decode cL_largestCreditor 4 = .ok (.ireturn, 1) := by decide +kernel
theorem dL_largestCreditor_5 : decode cL_largestCreditor 5 = .ok (.astore_n 1, 1) := by decide +kernel
theorem dL_largestCreditor_6 : decode cL_largestCreditor 6 = .ok (.sipush (-1001), 3) := by decide +kernel
theorem dL_largestCreditor_9 : decode cL_largestCreditor 9 = .ok (.ireturn, 1) := by decide +kernel
set_option maxRecDepth 20000 in
theorem ggL_reachCount_X10_reachCount : GoodIn wsL_reachCount wsX10_reachCount := goodIn_ca (goodIn_ca (goodIn_ca (goodIn_ca (goodIn_ca (goodIn_r _ [6, 7, 8, 9, 10, 11, 12, 13, 14, 15, 16, 17, 18, 19, 20, 21, 22, 5, 23, 24, 25, 26, 27, 28, 29, 30, 31, 32, 33, 34, 35, 36, 37, 38, 39, 40, 41, 42, 43, 44, 45, 46, 47, 48, 49, 50, 51, 52, 53, 54, 55, 56, 57, 58, 59, 60, 61, 62, 63, 64, 65, 66, 67, 68, 69, 70, 71, 72, 73, 74, 75, 76, 77, 78, 79, 80, 81, 82, 83, 84, 85, 86, 87, 88] (by decide +kernel) (by decide +kernel)) (goodIn_sub (fun _ h => List.mem_cons_of_mem _ (List.mem_append_left _ (List.mem_append_left _ (List.mem_append_left _ (List.mem_append_left _ (List.mem_append_right _ h)))))) (by decide +kernel))) (goodIn_sub (fun _ h => List.mem_cons_of_mem _ (List.mem_append_left _ (List.mem_append_left _ (List.mem_append_left _ (List.mem_append_right _ h))))) (by decide +kernel))) (goodIn_sub (fun _ h => List.mem_cons_of_mem _ (List.mem_append_left _ (List.mem_append_left _ (List.mem_append_right _ h)))) (by decide +kernel))) (goodIn_sub (fun _ h => List.mem_cons_of_mem _ (List.mem_append_left _ (List.mem_append_right _ h))) (by decide +kernel))) (goodIn_sub (fun _ h => List.mem_cons_of_mem _ (List.mem_append_right _ h)) (by decide +kernel))
set_option maxRecDepth 20000 in
theorem gL_reachCount_X10_reachCount : GoodIn wsL_reachCount (wsV RL 87 RX10 yX10_reachCount wsX10_reachCount) := goodIn_app (goodIn_of _ (by decide +kernel)) ggL_reachCount_X10_reachCount
theorem dL_reachCount_0 : decode cL_reachCount 0 = .ok (.aload_n 0, 1) := by decide +kernel
theorem dL_reachCount_1 : decode cL_reachCount 1 = .ok (.iload_n 1, 1) := by decide +kernel
theorem dL_reachCount_2 : decode cL_reachCount 2 = .ok (.invokevirtual 87, 3) := by decide +kernel
theorem dL_reachCount_5 : decode cL_reachCount 5 = .ok (.ireturn, 1) := by decide +kernel
theorem dL_reachCount_6 : decode cL_reachCount 6 = .ok (.astore_n 2, 1) := by decide +kernel
theorem dL_reachCount_7 : decode cL_reachCount 7 = .ok (.sipush (-1001), 3) := by decide +kernel
theorem dL_reachCount_10 : decode cL_reachCount 10 = .ok (.ireturn, 1) := by decide +kernel
set_option maxRecDepth 20000 in
theorem ggL_reachByRounds_X10_reachCountByRounds : GoodIn wsL_reachByRounds wsX10_reachCountByRounds := goodIn_ca (goodIn_ca (goodIn_ca (goodIn_ca (goodIn_ca (goodIn_r _ [6, 7, 8, 9, 10, 11, 12, 13, 14, 15, 16, 17, 18, 19, 20, 21, 22, 5, 23, 24, 25, 26, 27, 28, 29, 30, 31, 32, 33, 34, 35, 36, 37, 38, 39, 40, 41, 42, 43, 44, 45, 46, 47, 48, 49, 50, 51, 52, 53, 54, 55, 56, 57, 58, 59, 60, 61, 62, 63, 64, 65, 66, 67, 68, 69, 70, 71, 72, 73, 74, 75, 76, 77, 78, 79, 80, 81, 82, 83, 84, 85, 86, 87, 88, 89, 90, 91, 92] (by decide +kernel) (by decide +kernel)) (goodIn_sub (fun _ h => List.mem_cons_of_mem _ (List.mem_append_left _ (List.mem_append_left _ (List.mem_append_left _ (List.mem_append_left _ (List.mem_append_right _ h)))))) (by decide +kernel))) (goodIn_sub (fun _ h => List.mem_cons_of_mem _ (List.mem_append_left _ (List.mem_append_left _ (List.mem_append_left _ (List.mem_append_right _ h))))) (by decide +kernel))) (goodIn_sub (fun _ h => List.mem_cons_of_mem _ (List.mem_append_left _ (List.mem_append_left _ (List.mem_append_right _ h)))) (by decide +kernel))) (goodIn_sub (fun _ h => List.mem_cons_of_mem _ (List.mem_append_left _ (List.mem_append_right _ h))) (by decide +kernel))) (goodIn_sub (fun _ h => List.mem_cons_of_mem _ (List.mem_append_right _ h)) (by decide +kernel))
set_option maxRecDepth 20000 in
theorem gL_reachByRounds_X10_reachCountByRounds : GoodIn wsL_reachByRounds (wsV RL 90 RX10 yX10_reachCountByRounds wsX10_reachCountByRounds) := goodIn_app (goodIn_of _ (by decide +kernel)) ggL_reachByRounds_X10_reachCountByRounds
theorem dL_reachByRounds_0 : decode cL_reachByRounds 0 = .ok (.aload_n 0, 1) := by decide +kernel
theorem dL_reachByRounds_1 : decode cL_reachByRounds 1 = .ok (.iload_n 1, 1) := by decide +kernel
theorem dL_reachByRounds_2 : decode cL_reachByRounds 2 = .ok (.invokevirtual 90, 3) := by decide +kernel
theorem dL_reachByRounds_5 : decode cL_reachByRounds 5 = .ok (.ireturn, 1) := by decide +kernel
theorem dL_reachByRounds_6 : decode cL_reachByRounds 6 = .ok (.astore_n 2, 1) := by decide +kernel
theorem dL_reachByRounds_7 : decode cL_reachByRounds 7 = .ok (.sipush (-1001), 3) := by decide +kernel
theorem dL_reachByRounds_10 : decode cL_reachByRounds 10 = .ok (.ireturn, 1) := by decide +kernel
set_option maxRecDepth 20000 in
theorem ggL_reaches_X10_reaches : GoodIn wsL_reaches wsX10_reaches := goodIn_ca (goodIn_ca (goodIn_ca (goodIn_ca (goodIn_ca (goodIn_r _ [6, 7, 8, 9, 10, 11, 12, 13, 14, 15, 16, 17, 18, 19, 20, 21, 22, 23, 5, 24, 25, 26, 27, 28, 29, 30, 31, 32, 33, 34, 35, 36, 37, 38, 39, 40, 41, 42, 43, 44, 45, 46, 47, 48, 49, 50, 51, 52, 53, 54, 55, 56, 57, 58, 59, 60, 61, 62, 63, 64, 65, 66, 67, 68, 69, 70, 71, 72, 73, 74, 75, 76, 77, 78, 79, 80, 81, 82] (by decide +kernel) (by decide +kernel)) (goodIn_sub (fun _ h => List.mem_cons_of_mem _ (List.mem_append_left _ (List.mem_append_left _ (List.mem_append_left _ (List.mem_append_left _ (List.mem_append_right _ h)))))) (by decide +kernel))) (goodIn_sub (fun _ h => List.mem_cons_of_mem _ (List.mem_append_left _ (List.mem_append_left _ (List.mem_append_left _ (List.mem_append_right _ h))))) (by decide +kernel))) (goodIn_sub (fun _ h => List.mem_cons_of_mem _ (List.mem_append_left _ (List.mem_append_left _ (List.mem_append_right _ h)))) (by decide +kernel))) (goodIn_sub (fun _ h => List.mem_cons_of_mem _ (List.mem_append_left _ (List.mem_append_right _ h))) (by decide +kernel))) (goodIn_sub (fun _ h => List.mem_cons_of_mem _ (List.mem_append_right _ h)) (by decide +kernel))
set_option maxRecDepth 20000 in
theorem gL_reaches_X10_reaches : GoodIn wsL_reaches (wsV RL 93 RX10 yX10_reaches wsX10_reaches) := goodIn_app (goodIn_of _ (by decide +kernel)) ggL_reaches_X10_reaches
theorem dL_reaches_0 : decode cL_reaches 0 = .ok (.aload_n 0, 1) := by decide +kernel
theorem dL_reaches_1 : decode cL_reaches 1 = .ok (.iload_n 1, 1) := by decide +kernel
theorem dL_reaches_2 : decode cL_reaches 2 = .ok (.iload_n 2, 1) := by decide +kernel
theorem dL_reaches_3 : decode cL_reaches 3 = .ok (.invokevirtual 93, 3) := by decide +kernel
theorem dL_reaches_6 : decode cL_reaches 6 = .ok (.ifCond .eq 7, 3) := by decide +kernel
theorem dL_reaches_9 : decode cL_reaches 9 = .ok (.iconst 1, 1) := by decide +kernel
theorem dL_reaches_10 : decode cL_reaches 10 = .ok (.goto 4, 3) := by decide +kernel
theorem dL_reaches_13 : decode cL_reaches 13 = .ok (.iconst 0, 1) := by decide +kernel
theorem dL_reaches_14 : decode cL_reaches 14 = .ok (.ireturn, 1) := by decide +kernel
theorem dL_reaches_15 : decode cL_reaches 15 = .ok (.astore_n 3, 1) := by decide +kernel
theorem dL_reaches_16 : decode cL_reaches 16 = .ok (.sipush (-1001), 3) := by decide +kernel
theorem dL_reaches_19 : decode cL_reaches 19 = .ok (.ireturn, 1) := by decide +kernel
theorem dL_reaches_20 : decode cL_reaches 20 = .ok (.astore_n 3, 1) := by decide +kernel
theorem dL_reaches_21 : decode cL_reaches 21 = .ok (.sipush (-1002), 3) := by decide +kernel
theorem dL_reaches_24 : decode cL_reaches 24 = .ok (.ireturn, 1) := by decide +kernel
set_option maxRecDepth 20000 in
theorem ggL_lossIf_X10_lossIfDefault : GoodIn wsL_lossIf wsX10_lossIfDefault := goodIn_ca (goodIn_ca (goodIn_ca (goodIn_ca (goodIn_ca (goodIn_r _ [6, 7, 8, 9, 10, 11, 12, 13, 14, 15, 16, 17, 18, 19, 20, 21, 22, 23, 24, 25, 26, 27, 28, 29, 30, 31, 32, 33, 34, 35, 36, 37, 38, 39, 40, 41, 42, 43, 44, 45, 46, 5, 47, 48, 49, 50, 51, 52, 53, 54, 55, 56, 57, 58, 59, 60, 61, 62, 63, 64, 65, 66, 67, 68, 69, 70, 71, 72, 73, 74, 75, 76, 77, 78, 79, 80, 81, 82] (by decide +kernel) (by decide +kernel)) (goodIn_sub (fun _ h => List.mem_cons_of_mem _ (List.mem_append_left _ (List.mem_append_left _ (List.mem_append_left _ (List.mem_append_left _ (List.mem_append_right _ h)))))) (by decide +kernel))) (goodIn_sub (fun _ h => List.mem_cons_of_mem _ (List.mem_append_left _ (List.mem_append_left _ (List.mem_append_left _ (List.mem_append_right _ h))))) (by decide +kernel))) (goodIn_sub (fun _ h => List.mem_cons_of_mem _ (List.mem_append_left _ (List.mem_append_left _ (List.mem_append_right _ h)))) (by decide +kernel))) (goodIn_sub (fun _ h => List.mem_cons_of_mem _ (List.mem_append_left _ (List.mem_append_right _ h))) (by decide +kernel))) (goodIn_sub (fun _ h => List.mem_cons_of_mem _ (List.mem_append_right _ h)) (by decide +kernel))
set_option maxRecDepth 20000 in
theorem gL_lossIf_X10_lossIfDefault : GoodIn wsL_lossIf (wsV RL 97 RX10 yX10_lossIfDefault wsX10_lossIfDefault) := goodIn_app (goodIn_of _ (by decide +kernel)) ggL_lossIf_X10_lossIfDefault
theorem dL_lossIf_0 : decode cL_lossIf 0 = .ok (.aload_n 0, 1) := by decide +kernel
theorem dL_lossIf_1 : decode cL_lossIf 1 = .ok (.iload_n 1, 1) := by decide +kernel
theorem dL_lossIf_2 : decode cL_lossIf 2 = .ok (.invokevirtual 97, 3) := by decide +kernel
theorem dL_lossIf_5 : decode cL_lossIf 5 = .ok (.ireturn, 1) := by decide +kernel
theorem dL_lossIf_6 : decode cL_lossIf 6 = .ok (.astore_n 2, 1) := by decide +kernel
theorem dL_lossIf_7 : decode cL_lossIf 7 = .ok (.sipush (-1001), 3) := by decide +kernel
theorem dL_lossIf_10 : decode cL_lossIf 10 = .ok (.ireturn, 1) := by decide +kernel
theorem dL_lossIf_11 : decode cL_lossIf 11 = .ok (.astore_n 2, 1) := by decide +kernel
theorem dL_lossIf_12 : decode cL_lossIf 12 = .ok (.sipush (-1002), 3) := by decide +kernel
theorem dL_lossIf_15 : decode cL_lossIf 15 = .ok (.ireturn, 1) := by decide +kernel
set_option maxRecDepth 20000 in
theorem ggL_shareIf_X10_shareIfDefault : GoodIn wsL_shareIf wsX10_shareIfDefault := goodIn_ca (goodIn_ca (goodIn_ca (goodIn_ca (goodIn_ca (goodIn_ca (goodIn_cut 60 (goodIn_r _ [6, 7, 8, 9, 10, 11, 12, 13, 14, 15, 16, 17, 18, 19, 20, 21, 22, 23, 5, 24, 25, 26, 27, 28, 29, 30, 31, 32, 33, 34, 35, 36, 37, 38, 39, 40, 41, 42, 43, 44, 45, 46, 47, 48, 49, 50, 51, 52, 53, 54, 55, 56, 57, 58, 59, 60, 61, 62, 63, 64] (by decide +kernel) (by decide +kernel)) (goodIn_r _ [65, 66, 67, 68, 69, 70, 71, 72, 73, 74, 75, 76, 77, 78, 79, 80, 81, 82, 83, 84, 85, 86, 87, 88, 89, 90, 91, 92, 93, 94, 95, 96, 97, 98, 99, 100, 101, 102, 103, 104, 105, 106, 107, 108, 109, 110] (by decide +kernel) (by decide +kernel))) (goodIn_sub (fun _ h => List.mem_cons_of_mem _ (List.mem_append_left _ (List.mem_append_left _ (List.mem_append_left _ (List.mem_append_left _ (List.mem_append_left _ (List.mem_append_right _ h))))))) (by decide +kernel))) (goodIn_sub (fun _ h => List.mem_cons_of_mem _ (List.mem_append_left _ (List.mem_append_left _ (List.mem_append_left _ (List.mem_append_left _ (List.mem_append_right _ h)))))) (by decide +kernel))) (goodIn_sub (fun _ h => List.mem_cons_of_mem _ (List.mem_append_left _ (List.mem_append_left _ (List.mem_append_left _ (List.mem_append_right _ h))))) (by decide +kernel))) (goodIn_sub (fun _ h => List.mem_cons_of_mem _ (List.mem_append_left _ (List.mem_append_left _ (List.mem_append_right _ h)))) (by decide +kernel))) (goodIn_sub (fun _ h => List.mem_cons_of_mem _ (List.mem_append_left _ (List.mem_append_right _ h))) (by decide +kernel))) (goodIn_sub (fun _ h => List.mem_cons_of_mem _ (List.mem_append_right _ h)) (by decide +kernel))
set_option maxRecDepth 20000 in
theorem gL_shareIf_X10_shareIfDefault : GoodIn wsL_shareIf (wsV RL 100 RX10 yX10_shareIfDefault wsX10_shareIfDefault) := goodIn_app (goodIn_of _ (by decide +kernel)) ggL_shareIf_X10_shareIfDefault
theorem dL_shareIf_0 : decode cL_shareIf 0 = .ok (.aload_n 0, 1) := by decide +kernel
theorem dL_shareIf_1 : decode cL_shareIf 1 = .ok (.iload_n 1, 1) := by decide +kernel
theorem dL_shareIf_2 : decode cL_shareIf 2 = .ok (.iload_n 2, 1) := by decide +kernel
theorem dL_shareIf_3 : decode cL_shareIf 3 = .ok (.invokevirtual 100, 3) := by decide +kernel
theorem dL_shareIf_6 : decode cL_shareIf 6 = .ok (.ireturn, 1) := by decide +kernel
theorem dL_shareIf_7 : decode cL_shareIf 7 = .ok (.astore_n 3, 1) := by decide +kernel
theorem dL_shareIf_8 : decode cL_shareIf 8 = .ok (.sipush (-1001), 3) := by decide +kernel
theorem dL_shareIf_11 : decode cL_shareIf 11 = .ok (.ireturn, 1) := by decide +kernel
theorem dL_shareIf_12 : decode cL_shareIf 12 = .ok (.astore_n 3, 1) := by decide +kernel
theorem dL_shareIf_13 : decode cL_shareIf 13 = .ok (.sipush (-1002), 3) := by decide +kernel
theorem dL_shareIf_16 : decode cL_shareIf 16 = .ok (.ireturn, 1) := by decide +kernel
theorem dL_shareIf_17 : decode cL_shareIf 17 = .ok (.astore_n 3, 1) := by decide +kernel
theorem dL_shareIf_18 : decode cL_shareIf 18 = .ok (.sipush (-1003), 3) := by decide +kernel
theorem dL_shareIf_21 : decode cL_shareIf 21 = .ok (.ireturn, 1) := by decide +kernel
set_option maxRecDepth 20000 in
theorem ggL_byPosition_X10_memberByPosition : GoodIn wsL_byPosition wsX10_memberByPosition := goodIn_ca (goodIn_ca (goodIn_r _ [6, 7, 8, 9, 10, 11, 12, 13, 14, 15, 16, 17, 18, 19, 20, 21, 22, 23, 24, 25, 26, 27, 28, 29, 30, 31, 32, 33, 34, 35, 36, 37, 38, 39, 40, 41, 42, 43, 44, 45, 46, 47, 48, 49, 50, 51, 52, 53, 54, 55, 56, 57, 58, 59, 60, 61, 62, 63, 64, 65, 66, 67] (by decide +kernel) (by decide +kernel)) (goodIn_sub (fun _ h => List.mem_cons_of_mem _ (List.mem_append_left _ (List.mem_append_right _ h))) (by decide +kernel))) (goodIn_sub (fun _ h => List.mem_cons_of_mem _ (List.mem_append_right _ h)) (by decide +kernel))
set_option maxRecDepth 20000 in
theorem gL_byPosition_X10_memberByPosition : GoodIn wsL_byPosition (wsV RL 103 RX10 yX10_memberByPosition wsX10_memberByPosition) := goodIn_app (goodIn_of _ (by decide +kernel)) ggL_byPosition_X10_memberByPosition
theorem dL_byPosition_0 : decode cL_byPosition 0 = .ok (.aload_n 0, 1) := by decide +kernel
theorem dL_byPosition_1 : decode cL_byPosition 1 = .ok (.iload_n 1, 1) := by decide +kernel
theorem dL_byPosition_2 : decode cL_byPosition 2 = .ok (.invokevirtual 103, 3) := by decide +kernel
theorem dL_byPosition_5 : decode cL_byPosition 5 = .ok (.ireturn, 1) := by decide +kernel
theorem dL_byPosition_6 : decode cL_byPosition 6 = .ok (.astore_n 2, 1) := by decide +kernel
theorem dL_byPosition_7 : decode cL_byPosition 7 = .ok (.sipush (-1001), 3) := by decide +kernel
theorem dL_byPosition_10 : decode cL_byPosition 10 = .ok (.ireturn, 1) := by decide +kernel
set_option maxRecDepth 20000 in
theorem ggL_meanPosition_X10_meanPosition : GoodIn wsL_meanPosition wsX10_meanPosition := goodIn_ca (goodIn_ca (goodIn_r _ [7, 8, 9, 10, 11, 12, 13, 14, 15, 16, 17, 18, 19, 20, 21, 22, 23, 24, 25, 26, 27, 28, 29, 30, 31, 32, 33, 34, 35, 36, 37, 38, 39, 40, 41, 42, 43, 44, 45, 46, 47, 48, 49, 50, 51, 52, 53, 54, 55, 56, 57, 58, 59] (by decide +kernel) (by decide +kernel)) (goodIn_sub (fun _ h => List.mem_cons_of_mem _ (List.mem_append_left _ (List.mem_append_right _ h))) (by decide +kernel))) (goodIn_sub (fun _ h => List.mem_cons_of_mem _ (List.mem_append_right _ h)) (by decide +kernel))
set_option maxRecDepth 20000 in
theorem gL_meanPosition_X10_meanPosition : GoodIn wsL_meanPosition (wsV RL 106 RX10 yX10_meanPosition wsX10_meanPosition) := goodIn_app (goodIn_of _ (by decide +kernel)) ggL_meanPosition_X10_meanPosition
theorem dL_meanPosition_0 : decode cL_meanPosition 0 = .ok (.aload_n 0, 1) := by decide +kernel
theorem dL_meanPosition_1 : decode cL_meanPosition 1 = .ok (.invokevirtual 106, 3) := by decide +kernel
theorem dL_meanPosition_4 : decode cL_meanPosition 4 = .ok (.dreturn, 1) := by decide +kernel
theorem dL_meanPosition_5 : decode cL_meanPosition 5 = .ok (.astore_n 1, 1) := by decide +kernel
theorem dL_meanPosition_6 : decode cL_meanPosition 6 = .ok (.ldc2_w 112, 3) := by decide +kernel
theorem dL_meanPosition_9 : decode cL_meanPosition 9 = .ok (.dreturn, 1) := by decide +kernel
set_option maxRecDepth 20000 in
theorem ggL_debtShare_X10_debtShare : GoodIn wsL_debtShare wsX10_debtShare := goodIn_ca (goodIn_ca (goodIn_r _ [7, 8, 9, 10, 11, 12, 13, 14, 15, 16, 17, 18, 19, 20, 21, 22, 23, 24, 25, 26, 27, 28, 29, 30, 31, 32, 33, 34, 35, 36, 37, 38] (by decide +kernel) (by decide +kernel)) (goodIn_sub (fun _ h => List.mem_cons_of_mem _ (List.mem_append_left _ (List.mem_append_right _ h))) (by decide +kernel))) (goodIn_sub (fun _ h => List.mem_cons_of_mem _ (List.mem_append_right _ h)) (by decide +kernel))
set_option maxRecDepth 20000 in
theorem gL_debtShare_X10_debtShare : GoodIn wsL_debtShare (wsV RL 114 RX10 yX10_debtShare wsX10_debtShare) := goodIn_app (goodIn_of _ (by decide +kernel)) ggL_debtShare_X10_debtShare
theorem dL_debtShare_0 : decode cL_debtShare 0 = .ok (.aload_n 0, 1) := by decide +kernel
theorem dL_debtShare_1 : decode cL_debtShare 1 = .ok (.invokevirtual 114, 3) := by decide +kernel
theorem dL_debtShare_4 : decode cL_debtShare 4 = .ok (.freturn, 1) := by decide +kernel
theorem dL_debtShare_5 : decode cL_debtShare 5 = .ok (.astore_n 1, 1) := by decide +kernel
theorem dL_debtShare_6 : decode cL_debtShare 6 = .ok (.ldc 118, 2) := by decide +kernel
theorem dL_debtShare_8 : decode cL_debtShare 8 = .ok (.freturn, 1) := by decide +kernel
set_option maxRecDepth 20000 in
theorem ggL_feed_X10_feed : GoodIn wsL_feed wsX10_feed := goodIn_ca (goodIn_ca (goodIn_r _ [6, 7, 8, 9, 10, 11, 12, 13, 14, 15, 16, 17, 18, 19, 20, 21, 22, 23, 24, 25, 26, 27, 28, 29, 30, 31, 32, 33, 34, 35, 36, 37, 38, 39] (by decide +kernel) (by decide +kernel)) (goodIn_sub (fun _ h => List.mem_cons_of_mem _ (List.mem_append_left _ (List.mem_append_right _ h))) (by decide +kernel))) (goodIn_sub (fun _ h => List.mem_cons_of_mem _ (List.mem_append_right _ h)) (by decide +kernel))
set_option maxRecDepth 20000 in
theorem gL_feed_X10_feed : GoodIn wsL_feed (wsV RL 119 RX10 yX10_feed wsX10_feed) := goodIn_app (goodIn_of _ (by decide +kernel)) ggL_feed_X10_feed
theorem dL_feed_0 : decode cL_feed 0 = .ok (.aload_n 0, 1) := by decide +kernel
theorem dL_feed_1 : decode cL_feed 1 = .ok (.iload_n 1, 1) := by decide +kernel
theorem dL_feed_2 : decode cL_feed 2 = .ok (.invokevirtual 119, 3) := by decide +kernel
theorem dL_feed_5 : decode cL_feed 5 = .ok (.ireturn, 1) := by decide +kernel
theorem dL_feed_6 : decode cL_feed 6 = .ok (.astore_n 2, 1) := by decide +kernel
theorem dL_feed_7 : decode cL_feed 7 = .ok (.sipush (-1001), 3) := by decide +kernel
theorem dL_feed_10 : decode cL_feed 10 = .ok (.ireturn, 1) := by decide +kernel
set_option maxRecDepth 20000 in
theorem ggL_run_X10_runCommands : GoodIn wsL_run wsX10_runCommands := goodIn_ca (goodIn_ca (goodIn_ca (goodIn_ca (goodIn_cut 60 (goodIn_r _ [6, 7, 8, 9, 10, 11, 12, 13, 14, 15, 16, 17, 18, 19, 20, 21, 22, 23, 24, 25, 26, 27, 28, 29, 30, 31, 32, 33, 34, 35, 36, 37, 38, 39, 40, 41, 42, 43, 44, 45, 46, 47, 48, 49, 50, 51, 52, 53, 54, 55, 56, 57, 58, 59, 60, 61, 62, 63, 64, 65] (by decide +kernel) (by decide +kernel)) (goodIn_cut 60 (goodIn_r _ [66, 67, 68, 69, 70, 71, 72, 73, 74, 75, 76, 77, 78, 79, 80, 81, 82, 83, 84, 85, 86, 87, 88, 89, 90, 91, 92, 93, 94, 95, 96, 97, 98, 99, 100, 101, 102, 103, 104, 105, 106, 107, 108, 109, 110, 111, 112, 113, 114, 115, 116, 117, 118, 119, 120, 121, 122, 123, 124, 125] (by decide +kernel) (by decide +kernel)) (goodIn_cut 60 (goodIn_r _ [126, 127, 128, 5, 129, 130, 131, 132, 133, 134, 135, 136, 137, 138, 139, 140, 141, 142, 143, 144, 145, 146, 147, 148, 149, 150, 151, 152, 153, 154, 155, 156, 157, 158, 159, 160, 161, 162, 163, 164, 165, 166, 167, 168, 169, 170, 171, 172, 173, 174, 175, 176, 177, 178, 179, 180, 181, 182, 183, 184] (by decide +kernel) (by decide +kernel)) (goodIn_cut 60 (goodIn_r _ [185, 186, 187, 188, 189, 190, 191, 192, 193, 194, 195, 196, 197, 198, 199, 200, 201, 202, 203, 204, 205, 206, 207, 208, 209, 210, 211, 212, 213, 214, 215, 216, 217, 218, 219, 220, 221, 222, 223, 224, 225, 226, 227, 228, 229, 230, 231, 232, 233, 234, 235, 236, 237, 238, 239, 240, 241, 242, 243, 244] (by decide +kernel) (by decide +kernel)) (goodIn_cut 60 (goodIn_r _ [245, 246, 247, 248, 249, 250, 251, 252, 253, 254, 255, 256, 257, 258, 259, 260, 261, 262, 263, 264, 265, 266, 267, 268, 269, 270, 271, 272, 273, 274, 275, 276, 277, 278, 279, 280, 281, 282, 283, 284, 285, 286, 287, 288, 289, 290, 291, 292, 293, 294, 295, 296, 297, 298, 299, 300, 301, 302, 303, 304] (by decide +kernel) (by decide +kernel)) (goodIn_r _ [305, 306, 307, 308, 309, 310, 311, 312, 313, 314, 315, 316, 317, 318, 319, 320, 321, 322, 323, 324, 325, 326, 327, 328, 329, 330, 331, 332, 333, 334, 335, 336, 337, 338, 339, 340, 341, 342, 343, 344, 345, 346, 347, 348] (by decide +kernel) (by decide +kernel))))))) (goodIn_sub (fun _ h => List.mem_cons_of_mem _ (List.mem_append_left _ (List.mem_append_left _ (List.mem_append_left _ (List.mem_append_right _ h))))) (by decide +kernel))) (goodIn_sub (fun _ h => List.mem_cons_of_mem _ (List.mem_append_left _ (List.mem_append_left _ (List.mem_append_right _ h)))) (by decide +kernel))) (goodIn_sub (fun _ h => List.mem_cons_of_mem _ (List.mem_append_left _ (List.mem_append_right _ h))) (by decide +kernel))) (goodIn_sub (fun _ h => List.mem_cons_of_mem _ (List.mem_append_right _ h)) (by decide +kernel))
set_option maxRecDepth 20000 in
theorem gL_run_X10_runCommands : GoodIn wsL_run (wsV RL 123 RX10 yX10_runCommands wsX10_runCommands) := goodIn_app (goodIn_of _ (by decide +kernel)) ggL_run_X10_runCommands
theorem dL_run_0 : decode cL_run 0 = .ok (.aload_n 0, 1) := by decide +kernel
theorem dL_run_1 : decode cL_run 1 = .ok (.invokevirtual 123, 3) := by decide +kernel
theorem dL_run_4 : decode cL_run 4 = .ok (.ireturn, 1) := by decide +kernel
theorem dL_run_5 : decode cL_run 5 = .ok (.astore_n 1, 1) := by decide +kernel
theorem dL_run_6 : decode cL_run 6 = .ok (.sipush (-1001), 3) := by decide +kernel
theorem dL_run_9 : decode cL_run 9 = .ok (.ireturn, 1) := by decide +kernel
theorem dL_run_10 : decode cL_run 10 = .ok (.astore_n 1, 1) := by decide +kernel
theorem dL_run_11 : decode cL_run 11 = .ok (.sipush (-1002), 3) := by decide +kernel
theorem dL_run_14 : decode cL_run 14 = .ok (.ireturn, 1) := by decide +kernel
set_option maxRecDepth 20000 in
theorem ggL_errorPosition_X10_errorPosition : GoodIn wsL_errorPosition wsX10_errorPosition := goodIn_ca (goodIn_r _ [6, 7, 8, 9, 10, 11, 12, 13, 14, 15, 16, 17, 18, 19, 20, 21] (by decide +kernel) (by decide +kernel)) (goodIn_sub (fun _ h => List.mem_cons_of_mem _ (List.mem_append_right _ h)) (by decide +kernel))
set_option maxRecDepth 20000 in
theorem gL_errorPosition_X10_errorPosition : GoodIn wsL_errorPosition (wsV RL 126 RX10 yX10_errorPosition wsX10_errorPosition) := goodIn_app (goodIn_of _ (by decide +kernel)) ggL_errorPosition_X10_errorPosition
theorem dL_errorPosition_0 : decode cL_errorPosition 0 = .ok (.aload_n 0, 1) := by decide +kernel
theorem dL_errorPosition_1 : decode cL_errorPosition 1 = .ok (.invokevirtual 126, 3) := by decide +kernel
theorem dL_errorPosition_4 : decode cL_errorPosition 4 = .ok (.ireturn, 1) := by decide +kernel
theorem dL_errorPosition_5 : decode cL_errorPosition 5 = .ok (.astore_n 1, 1) := by decide +kernel
theorem dL_errorPosition_6 : decode cL_errorPosition 6 = .ok (.sipush (-1001), 3) := by decide +kernel
theorem dL_errorPosition_9 : decode cL_errorPosition 9 = .ok (.ireturn, 1) := by decide +kernel
set_option maxRecDepth 20000 in
theorem ggL_failedCommand_X10_failedCommand : GoodIn wsL_failedCommand wsX10_failedCommand := goodIn_ca (goodIn_r _ [6, 7, 8, 9, 10, 11, 12, 13, 14, 15, 16, 17, 18, 19, 20, 21] (by decide +kernel) (by decide +kernel)) (goodIn_sub (fun _ h => List.mem_cons_of_mem _ (List.mem_append_right _ h)) (by decide +kernel))
set_option maxRecDepth 20000 in
theorem gL_failedCommand_X10_failedCommand : GoodIn wsL_failedCommand (wsV RL 129 RX10 yX10_failedCommand wsX10_failedCommand) := goodIn_app (goodIn_of _ (by decide +kernel)) ggL_failedCommand_X10_failedCommand
theorem dL_failedCommand_0 : decode cL_failedCommand 0 = .ok (.aload_n 0, 1) := by decide +kernel
theorem dL_failedCommand_1 : decode cL_failedCommand 1 = .ok (.invokevirtual 129, 3) := by decide +kernel
theorem dL_failedCommand_4 : decode cL_failedCommand 4 = .ok (.ireturn, 1) := by decide +kernel
theorem dL_failedCommand_5 : decode cL_failedCommand 5 = .ok (.astore_n 1, 1) := by decide +kernel
theorem dL_failedCommand_6 : decode cL_failedCommand 6 = .ok (.sipush (-1001), 3) := by decide +kernel
theorem dL_failedCommand_9 : decode cL_failedCommand 9 = .ok (.ireturn, 1) := by decide +kernel
set_option maxRecDepth 20000 in
theorem ggL_writeDebts_X10_writeDebts : GoodIn wsL_writeDebts wsX10_writeDebts := goodIn_ca (goodIn_ca (goodIn_ca (goodIn_ca (goodIn_ca (goodIn_cut 60 (goodIn_r _ [6, 7, 8, 9, 10, 11, 12, 13, 14, 15, 16, 17, 18, 19, 20, 21, 22, 5, 23, 24, 25, 26, 27, 28, 29, 30, 31, 32, 33, 34, 35, 36, 37, 38, 39, 40, 41, 42, 43, 44, 45, 46, 47, 48, 49, 50, 51, 52, 53, 54, 55, 56, 57, 58, 59, 60, 61, 62, 63, 64] (by decide +kernel) (by decide +kernel)) (goodIn_cut 60 (goodIn_r _ [65, 66, 67, 68, 69, 70, 71, 72, 73, 74, 75, 76, 77, 78, 79, 80, 81, 82, 83, 84, 85, 86, 87, 88, 89, 90, 91, 92, 93, 94, 95, 96, 97, 98, 99, 100, 101, 102, 103, 104, 105, 106, 107, 108, 109, 110, 111, 112, 113, 114, 115, 116, 117, 118, 119, 120, 121, 122, 123, 124] (by decide +kernel) (by decide +kernel)) (goodIn_cut 60 (goodIn_r _ [125, 126, 127, 128, 129, 130, 131, 132, 133, 134, 135, 136, 137, 138, 139, 140, 141, 142, 143, 144, 145, 146, 147, 148, 149, 150, 151, 152, 153, 154, 155, 156, 157, 158, 159, 160, 161, 162, 163, 164, 165, 166, 167, 168, 169, 170, 171, 172, 173, 174, 175, 176, 177, 178, 179, 180, 181, 182, 183, 184] (by decide +kernel) (by decide +kernel)) (goodIn_cut 60 (goodIn_r _ [185, 186, 187, 188, 189, 190, 191, 192, 193, 194, 195, 196, 197, 198, 199, 200, 201, 202, 203, 204, 205, 206, 207, 208, 209, 210, 211, 212, 213, 214, 215, 216, 217, 218, 219, 220, 221, 222, 223, 224, 225, 226, 227, 228, 229, 230, 231, 232, 233, 234, 235, 236, 237, 238, 239, 240, 241, 242, 243, 244] (by decide +kernel) (by decide +kernel)) (goodIn_r _ [245, 246, 247, 248, 249, 250, 251, 252, 253, 254, 255, 256, 257, 258, 259, 260, 261, 262, 263, 264, 265, 266, 267] (by decide +kernel) (by decide +kernel)))))) (goodIn_sub (fun _ h => List.mem_cons_of_mem _ (List.mem_append_left _ (List.mem_append_left _ (List.mem_append_left _ (List.mem_append_left _ (List.mem_append_right _ h)))))) (by decide +kernel))) (goodIn_sub (fun _ h => List.mem_cons_of_mem _ (List.mem_append_left _ (List.mem_append_left _ (List.mem_append_left _ (List.mem_append_right _ h))))) (by decide +kernel))) (goodIn_sub (fun _ h => List.mem_cons_of_mem _ (List.mem_append_left _ (List.mem_append_left _ (List.mem_append_right _ h)))) (by decide +kernel))) (goodIn_sub (fun _ h => List.mem_cons_of_mem _ (List.mem_append_left _ (List.mem_append_right _ h))) (by decide +kernel))) (goodIn_sub (fun _ h => List.mem_cons_of_mem _ (List.mem_append_right _ h)) (by decide +kernel))
set_option maxRecDepth 20000 in
theorem gL_writeDebts_X10_writeDebts : GoodIn wsL_writeDebts (wsV RL 132 RX10 yX10_writeDebts wsX10_writeDebts) := goodIn_app (goodIn_of _ (by decide +kernel)) ggL_writeDebts_X10_writeDebts
theorem dL_writeDebts_0 : decode cL_writeDebts 0 = .ok (.aload_n 0, 1) := by decide +kernel
theorem dL_writeDebts_1 : decode cL_writeDebts 1 = .ok (.iload_n 1, 1) := by decide +kernel
theorem dL_writeDebts_2 : decode cL_writeDebts 2 = .ok (.invokevirtual 132, 3) := by decide +kernel
theorem dL_writeDebts_5 : decode cL_writeDebts 5 = .ok (.ireturn, 1) := by decide +kernel
theorem dL_writeDebts_6 : decode cL_writeDebts 6 = .ok (.astore_n 2, 1) := by decide +kernel
theorem dL_writeDebts_7 : decode cL_writeDebts 7 = .ok (.sipush (-1001), 3) := by decide +kernel
theorem dL_writeDebts_10 : decode cL_writeDebts 10 = .ok (.ireturn, 1) := by decide +kernel
set_option maxRecDepth 20000 in
theorem ggL_outputChar_X10_outputChar : GoodIn wsL_outputChar wsX10_outputChar := goodIn_ca (goodIn_r _ [6, 7, 8, 9, 10, 11, 12, 13, 14, 15, 16, 17, 18, 19, 20, 21, 22, 23, 24, 25, 26, 27, 28, 29, 30, 31, 32, 33, 34, 35, 36, 37, 38, 39, 40, 41, 42, 43, 44, 45, 46, 47, 48, 49, 50, 51, 52, 53, 54, 55, 56, 57, 58, 59, 60, 61, 62, 63, 64, 65, 66, 67, 68, 69, 70] (by decide +kernel) (by decide +kernel)) (goodIn_sub (fun _ h => List.mem_cons_of_mem _ (List.mem_append_right _ h)) (by decide +kernel))
set_option maxRecDepth 20000 in
theorem gL_outputChar_X10_outputChar : GoodIn wsL_outputChar (wsV RL 135 RX10 yX10_outputChar wsX10_outputChar) := goodIn_app (goodIn_of _ (by decide +kernel)) ggL_outputChar_X10_outputChar
theorem dL_outputChar_0 : decode cL_outputChar 0 = .ok (.aload_n 0, 1) := by decide +kernel
theorem dL_outputChar_1 : decode cL_outputChar 1 = .ok (.iload_n 1, 1) := by decide +kernel
theorem dL_outputChar_2 : decode cL_outputChar 2 = .ok (.invokevirtual 135, 3) := by decide +kernel
theorem dL_outputChar_5 : decode cL_outputChar 5 = .ok (.ireturn, 1) := by decide +kernel
theorem dL_outputChar_6 : decode cL_outputChar 6 = .ok (.astore_n 2, 1) := by decide +kernel
theorem dL_outputChar_7 : decode cL_outputChar 7 = .ok (.sipush (-1001), 3) := by decide +kernel
theorem dL_outputChar_10 : decode cL_outputChar 10 = .ok (.ireturn, 1) := by decide +kernel
set_option maxRecDepth 20000 in
theorem ggL_undo_X10_undo : GoodIn wsL_undo wsX10_undo := goodIn_ca (goodIn_ca (goodIn_r _ [6, 7, 8, 9, 10, 11, 12, 13, 14, 15, 16, 17, 18, 19, 20, 21, 22, 23, 24, 25, 26, 27, 28, 29, 30, 31, 32, 33, 34, 35, 36, 37, 38, 39, 40, 41, 42, 43, 44, 45, 46, 47, 48, 49, 50, 51, 52, 53, 54, 55, 56, 57, 58, 59, 60, 61, 62] (by decide +kernel) (by decide +kernel)) (goodIn_sub (fun _ h => List.mem_cons_of_mem _ (List.mem_append_left _ (List.mem_append_right _ h))) (by decide +kernel))) (goodIn_sub (fun _ h => List.mem_cons_of_mem _ (List.mem_append_right _ h)) (by decide +kernel))
set_option maxRecDepth 20000 in
theorem gL_undo_X10_undo : GoodIn wsL_undo (wsV RL 139 RX10 yX10_undo wsX10_undo) := goodIn_app (goodIn_of _ (by decide +kernel)) ggL_undo_X10_undo
theorem dL_undo_0 : decode cL_undo 0 = .ok (.aload_n 0, 1) := by decide +kernel
theorem dL_undo_1 : decode cL_undo 1 = .ok (.invokevirtual 139, 3) := by decide +kernel
theorem dL_undo_4 : decode cL_undo 4 = .ok (.ireturn, 1) := by decide +kernel
theorem dL_undo_5 : decode cL_undo 5 = .ok (.astore_n 1, 1) := by decide +kernel
theorem dL_undo_6 : decode cL_undo 6 = .ok (.sipush (-1001), 3) := by decide +kernel
theorem dL_undo_9 : decode cL_undo 9 = .ok (.ireturn, 1) := by decide +kernel
set_option maxRecDepth 20000 in
theorem ggL_restore_X10_restore : GoodIn wsL_restore wsX10_restore := goodIn_ca (goodIn_ca (goodIn_r _ [6, 7, 8, 9, 10, 11, 12, 13, 14, 15, 16, 17, 18, 19, 20, 21, 22, 23, 24, 25, 26, 27, 28, 29, 30, 31, 32, 33, 34, 35, 36, 37, 38, 39, 40, 41, 42, 43, 44, 45, 46, 47, 48, 49, 50, 51, 52, 53, 54, 55, 56, 57, 58, 59, 60, 61, 62] (by decide +kernel) (by decide +kernel)) (goodIn_sub (fun _ h => List.mem_cons_of_mem _ (List.mem_append_left _ (List.mem_append_right _ h))) (by decide +kernel))) (goodIn_sub (fun _ h => List.mem_cons_of_mem _ (List.mem_append_right _ h)) (by decide +kernel))
set_option maxRecDepth 20000 in
theorem gL_restore_X10_restore : GoodIn wsL_restore (wsV RL 142 RX10 yX10_restore wsX10_restore) := goodIn_app (goodIn_of _ (by decide +kernel)) ggL_restore_X10_restore
theorem dL_restore_0 : decode cL_restore 0 = .ok (.aload_n 0, 1) := by decide +kernel
theorem dL_restore_1 : decode cL_restore 1 = .ok (.invokevirtual 142, 3) := by decide +kernel
theorem dL_restore_4 : decode cL_restore 4 = .ok (.ireturn, 1) := by decide +kernel
theorem dL_restore_5 : decode cL_restore 5 = .ok (.astore_n 1, 1) := by decide +kernel
theorem dL_restore_6 : decode cL_restore 6 = .ok (.sipush (-1001), 3) := by decide +kernel
theorem dL_restore_9 : decode cL_restore 9 = .ok (.ireturn, 1) := by decide +kernel
set_option maxRecDepth 20000 in
theorem ggL_runs_J0_length_8abf5 : GoodIn wsL_runs wsJ0_length_8abf5 := goodIn_r _ [5, 6, 7, 8, 9, 4, 10, 11, 12, 331, 332, 333, 334] (by decide +kernel) (by decide +kernel)
set_option maxRecDepth 20000 in
theorem gL_runs_J0_length_8abf5 : GoodIn wsL_runs (wsV RL 145 RJ0 yJ0_length_8abf5 wsJ0_length_8abf5) := goodIn_app (goodIn_of _ (by decide +kernel)) ggL_runs_J0_length_8abf5
set_option maxRecDepth 20000 in
theorem ggL_runs_J0_charAt_5068e : GoodIn wsL_runs wsJ0_charAt_5068e := goodIn_r _ [16, 6, 17, 18, 19, 4, 20, 11, 12, 21, 22, 23, 24, 25, 26, 27, 28, 29, 30, 31, 32, 33, 34, 35, 36, 37, 38, 39, 40, 41, 42, 43, 44, 45, 46, 47, 48, 49, 331, 332, 333, 334] (by decide +kernel) (by decide +kernel)
set_option maxRecDepth 20000 in
theorem gL_runs_J0_charAt_5068e : GoodIn wsL_runs (wsV RL 150 RJ0 yJ0_charAt_5068e wsJ0_charAt_5068e) := goodIn_app (goodIn_of _ (by decide +kernel)) ggL_runs_J0_charAt_5068e
set_option maxRecDepth 20000 in
theorem ggL_runs_L_feed : GoodIn wsL_runs wsL_feed := goodIn_ca (goodIn_ca (goodIn_r _ [53, 54, 55, 56, 57, 58, 59, 60, 61, 62, 63, 64, 65, 66, 67, 68, 69, 70, 71, 72, 73, 335, 336, 337, 338, 339, 340, 341, 342, 343, 344, 345, 346, 347, 348, 349, 350, 351, 352, 353] (by decide +kernel) (by decide +kernel)) (goodIn_sub (fun _ h => List.mem_cons_of_mem _ (List.mem_append_left _ (List.mem_append_left _ (List.mem_append_left _ (List.mem_append_left _ (List.mem_append_right _ h)))))) (by decide +kernel))) (goodIn_sub (fun _ h => List.mem_cons_of_mem _ (List.mem_append_left _ (List.mem_append_left _ (List.mem_append_left _ (List.mem_append_right _ h))))) (by decide +kernel))
set_option maxRecDepth 20000 in
theorem gL_runs_L_feed : GoodIn wsL_runs (va_wsS RL 153 yL_feed wsL_feed) := goodIn_app (goodIn_of _ (by decide +kernel)) ggL_runs_L_feed
set_option maxRecDepth 20000 in
theorem ggL_runs_L_run : GoodIn wsL_runs wsL_run := goodIn_ca (goodIn_ca (goodIn_ca (goodIn_ca (goodIn_cut 60 (goodIn_r _ [76, 77, 78, 79, 80, 58, 81, 82, 83, 84, 85, 62, 86, 87, 88, 89, 90, 91, 92, 93, 66, 94, 95, 96, 68, 97, 98, 99, 100, 101, 102, 103, 104, 105, 106, 107, 108, 109, 110, 111, 112, 2, 3, 4, 5, 6, 7, 8, 9, 10, 11, 12, 113, 14, 15, 16, 17, 18, 19, 20] (by decide +kernel) (by decide +kernel)) (goodIn_cut 60 (goodIn_r _ [21, 22, 23, 24, 25, 26, 27, 28, 29, 30, 31, 32, 33, 34, 35, 36, 37, 38, 39, 40, 41, 42, 43, 44, 45, 46, 47, 48, 49, 114, 115, 116, 117, 73, 118, 119, 120, 121, 122, 123, 124, 125, 126, 127, 128, 129, 130, 131, 132, 133, 134, 135, 136, 137, 138, 139, 140, 141, 142, 143] (by decide +kernel) (by decide +kernel)) (goodIn_cut 60 (goodIn_r _ [144, 145, 146, 147, 148, 149, 150, 151, 152, 153, 154, 155, 156, 157, 158, 159, 160, 161, 162, 163, 164, 165, 166, 167, 168, 169, 170, 171, 172, 173, 174, 175, 176, 177, 178, 179, 180, 181, 182, 183, 184, 185, 186, 187, 188, 189, 190, 191, 192, 193, 194, 195, 196, 197, 198, 199, 200, 201, 202, 203] (by decide +kernel) (by decide +kernel)) (goodIn_cut 60 (goodIn_r _ [204, 205, 206, 207, 208, 209, 210, 211, 212, 213, 214, 215, 216, 217, 218, 219, 220, 221, 222, 223, 224, 225, 226, 227, 228, 229, 230, 231, 232, 233, 234, 235, 236, 237, 238, 239, 240, 241, 242, 243, 244, 245, 246, 247, 248, 249, 250, 251, 252, 253, 254, 255, 256, 257, 258, 259, 260, 261, 262, 263] (by decide +kernel) (by decide +kernel)) (goodIn_cut 60 (goodIn_r _ [264, 265, 266, 267, 268, 269, 270, 271, 272, 273, 274, 275, 276, 277, 278, 279, 280, 281, 282, 283, 284, 285, 286, 287, 288, 289, 290, 291, 292, 293, 294, 295, 296, 297, 298, 299, 300, 301, 302, 303, 304, 305, 306, 307, 308, 309, 310, 311, 312, 313, 314, 315, 316, 317, 318, 319, 320, 321, 322, 323] (by decide +kernel) (by decide +kernel)) (goodIn_r _ [324, 325, 326, 327, 328, 329, 330, 335, 336, 337, 338, 339, 340, 341, 342, 343, 344, 345, 346, 347, 348, 349, 350, 351, 352, 353, 331, 332, 333, 334, 354, 355, 356, 357, 358, 359, 360, 361, 362, 363, 364, 365, 366, 367, 368, 369, 370, 371, 372] (by decide +kernel) (by decide +kernel))))))) (goodIn_sub (fun _ h => List.mem_cons_of_mem _ (List.mem_append_left _ (List.mem_append_left _ (List.mem_append_right _ h)))) (by decide +kernel))) (goodIn_sub (fun _ h => List.mem_cons_of_mem _ (List.mem_append_left _ (List.mem_append_right _ h))) (by decide +kernel))) (goodIn_sub (fun _ h => List.mem_cons_of_mem _ (List.mem_append_left _ (List.mem_append_left _ (List.mem_append_left _ (List.mem_append_right _ h))))) (by decide +kernel))) (goodIn_sub (fun _ h => List.mem_cons_of_mem _ (List.mem_append_right _ h)) (by decide +kernel))
set_option maxRecDepth 20000 in
theorem gL_runs_L_run : GoodIn wsL_runs (va_wsS RL 158 yL_run wsL_run) := goodIn_app (goodIn_of _ (by decide +kernel)) ggL_runs_L_run
theorem dL_runs_0 : decode cL_runs 0 = .ok (.iconst 0, 1) := by decide +kernel
theorem dL_runs_1 : decode cL_runs 1 = .ok (.istore_n 2, 1) := by decide +kernel
theorem dL_runs_2 : decode cL_runs 2 = .ok (.iload_n 2, 1) := by decide +kernel
theorem dL_runs_3 : decode cL_runs 3 = .ok (.aload_n 1, 1) := by decide +kernel
theorem dL_runs_4 : decode cL_runs 4 = .ok (.invokevirtual 145, 3) := by decide +kernel
theorem dL_runs_7 : decode cL_runs 7 = .ok (.if_icmp .ge 28, 3) := by decide +kernel
theorem dL_runs_10 : decode cL_runs 10 = .ok (.aload_n 0, 1) := by decide +kernel
theorem dL_runs_11 : decode cL_runs 11 = .ok (.aload_n 1, 1) := by decide +kernel
theorem dL_runs_12 : decode cL_runs 12 = .ok (.iload_n 2, 1) := by decide +kernel
theorem dL_runs_13 : decode cL_runs 13 = .ok (.invokevirtual 150, 3) := by decide +kernel
theorem dL_runs_16 : decode cL_runs 16 = .ok (.invokestatic 153, 3) := by decide +kernel
theorem dL_runs_19 : decode cL_runs 19 = .ok (.iload_n 2, 1) := by decide +kernel
theorem dL_runs_20 : decode cL_runs 20 = .ok (.iconst 1, 1) := by decide +kernel
theorem dL_runs_21 : decode cL_runs 21 = .ok (.iadd, 1) := by decide +kernel
theorem dL_runs_22 : decode cL_runs 22 = .ok (.if_icmp .eq 7, 3) := by decide +kernel
theorem dL_runs_25 : decode cL_runs 25 = .ok (.sipush (-9999), 3) := by decide +kernel
theorem dL_runs_28 : decode cL_runs 28 = .ok (.ireturn, 1) := by decide +kernel
theorem dL_runs_29 : decode cL_runs 29 = .ok (.iinc 2 1, 3) := by decide +kernel
theorem dL_runs_32 : decode cL_runs 32 = .ok (.goto (-30), 3) := by decide +kernel
theorem dL_runs_35 : decode cL_runs 35 = .ok (.aload_n 0, 1) := by decide +kernel
theorem dL_runs_36 : decode cL_runs 36 = .ok (.invokestatic 158, 3) := by decide +kernel
theorem dL_runs_39 : decode cL_runs 39 = .ok (.ireturn, 1) := by decide +kernel
set_option maxRecDepth 20000 in
theorem ggL_makes_L_at : GoodIn wsL_makes wsL_at := goodIn_ca (goodIn_r _ [4] (by decide +kernel) (by decide +kernel)) (goodIn_sub (fun _ h => List.mem_cons_of_mem _ (List.mem_append_left _ (List.mem_append_left _ (List.mem_append_left _ (List.mem_append_left _ (List.mem_append_left _ (List.mem_append_right _ h))))))) (by decide +kernel))
set_option maxRecDepth 20000 in
theorem gL_makes_L_at : GoodIn wsL_makes (va_wsS RL 165 yL_at wsL_at) := goodIn_app (goodIn_of _ (by decide +kernel)) ggL_makes_L_at
set_option maxRecDepth 20000 in
theorem ggL_makes_L_some : GoodIn wsL_makes wsL_some := goodIn_ca (goodIn_r _ [7] (by decide +kernel) (by decide +kernel)) (goodIn_sub (fun _ h => List.mem_cons_of_mem _ (List.mem_append_left _ (List.mem_append_left _ (List.mem_append_left _ (List.mem_append_left _ (List.mem_append_right _ h)))))) (by decide +kernel))
set_option maxRecDepth 20000 in
theorem gL_makes_L_some : GoodIn wsL_makes (va_wsS RL 169 yL_some wsL_some) := goodIn_app (goodIn_of _ (by decide +kernel)) ggL_makes_L_some
set_option maxRecDepth 20000 in
theorem ggL_makes_L_addMember : GoodIn wsL_makes wsL_addMember := goodIn_ca (goodIn_ca (goodIn_ca (goodIn_ca (goodIn_ca (goodIn_r _ [10, 11, 12, 13, 14, 15, 16, 17, 18, 19, 20, 21, 22, 23, 24, 25, 26, 27, 28, 29, 30, 31, 32, 33, 34, 35, 36, 37, 38, 39, 40, 41, 42, 43, 44, 45, 46, 47, 48, 49, 50, 51, 52, 53, 54, 55, 56, 57, 58, 59, 60, 61, 62, 63, 64, 65, 66, 67, 68, 69, 70, 71, 72, 73, 74, 143, 144, 145, 146, 147, 148, 149, 150, 151, 152, 153, 154, 155, 156, 157, 158, 159, 160, 161, 162, 163, 164, 165, 166, 167] (by decide +kernel) (by decide +kernel)) (goodIn_sub (fun _ h => List.mem_cons_of_mem _ (List.mem_append_left _ (List.mem_append_left _ (List.mem_append_left _ (List.mem_append_right _ h))))) (by decide +kernel))) (goodIn_sub (fun _ h => List.mem_cons_of_mem _ (List.mem_append_left _ (List.mem_append_left _ (List.mem_append_right _ h)))) (by decide +kernel))) (goodIn_sub (fun _ h => List.mem_cons_of_mem _ (List.mem_append_left _ (List.mem_append_right _ h))) (by decide +kernel))) (goodIn_sub (fun _ h => List.mem_cons_of_mem _ (List.mem_append_right _ h)) (by decide +kernel))) (goodIn_sub (fun _ h => List.mem_cons_of_mem _ (List.mem_append_left _ (List.mem_append_left _ (List.mem_append_left _ (List.mem_append_left _ (List.mem_append_left _ (List.mem_append_right _ h))))))) (by decide +kernel))
set_option maxRecDepth 20000 in
theorem gL_makes_L_addMember : GoodIn wsL_makes (va_wsS RL 172 yL_addMember wsL_addMember) := goodIn_app (goodIn_of _ (by decide +kernel)) ggL_makes_L_addMember
set_option maxRecDepth 20000 in
theorem ggL_makes_L_setHaircut : GoodIn wsL_makes wsL_setHaircut := goodIn_ca (goodIn_ca (goodIn_ca (goodIn_ca (goodIn_ca (goodIn_r _ [77, 78, 79, 80, 81, 15, 82, 18, 17, 83, 84, 21, 85, 86, 23, 25, 26, 27, 28, 29, 30, 31, 32, 33, 34, 35, 36, 37, 38, 39, 40, 41, 42, 43, 44, 45, 46, 47, 48, 49, 50, 51, 52, 53, 54, 55, 56, 57, 58, 59, 60, 61, 62, 63, 64, 65, 66, 67, 68, 69, 70, 87, 88, 89, 90, 143, 144, 145, 146, 147, 148, 149, 150, 151, 152, 153, 154, 165, 166, 167, 155, 156, 157, 158, 159, 160, 161, 162, 163, 164] (by decide +kernel) (by decide +kernel)) (goodIn_sub (fun _ h => List.mem_cons_of_mem _ (List.mem_append_left _ (List.mem_append_left _ (List.mem_append_left _ (List.mem_append_right _ h))))) (by decide +kernel))) (goodIn_sub (fun _ h => List.mem_cons_of_mem _ (List.mem_append_left _ (List.mem_append_left _ (List.mem_append_right _ h)))) (by decide +kernel))) (goodIn_sub (fun _ h => List.mem_cons_of_mem _ (List.mem_append_left _ (List.mem_append_right _ h))) (by decide +kernel))) (goodIn_sub (fun _ h => List.mem_cons_of_mem _ (List.mem_append_right _ h)) (by decide +kernel))) (goodIn_sub (fun _ h => List.mem_cons_of_mem _ (List.mem_append_left _ (List.mem_append_left _ (List.mem_append_left _ (List.mem_append_left _ (List.mem_append_left _ (List.mem_append_right _ h))))))) (by decide +kernel))
set_option maxRecDepth 20000 in
theorem gL_makes_L_setHaircut : GoodIn wsL_makes (va_wsS RL 174 yL_setHaircut wsL_setHaircut) := goodIn_app (goodIn_of _ (by decide +kernel)) ggL_makes_L_setHaircut
set_option maxRecDepth 20000 in
theorem ggL_makes_L_addDebt : GoodIn wsL_makes wsL_addDebt := goodIn_ca (goodIn_ca (goodIn_ca (goodIn_ca (goodIn_ca (goodIn_cut 60 (goodIn_r _ [93, 94, 95, 96, 97, 15, 98, 17, 18, 99, 100, 21, 101, 23, 24, 102, 103, 104, 105, 86, 106, 107, 108, 109, 110, 111, 112, 55, 113, 67, 114, 115, 116, 117, 118, 119, 120, 121, 122, 123, 124, 57, 25, 26, 27, 28, 29, 30, 31, 32, 33, 34, 35, 36, 37, 38, 39, 40, 41, 42] (by decide +kernel) (by decide +kernel)) (goodIn_r _ [43, 44, 45, 46, 47, 48, 49, 50, 51, 52, 53, 54, 56, 58, 59, 60, 61, 62, 63, 64, 65, 66, 68, 69, 70, 125, 126, 127, 128, 143, 144, 145, 146, 147, 148, 149, 150, 151, 152, 153, 154, 155, 156, 157, 158, 159, 160, 161, 162, 163, 164, 165, 166, 167] (by decide +kernel) (by decide +kernel))) (goodIn_sub (fun _ h => List.mem_cons_of_mem _ (List.mem_append_left _ (List.mem_append_left _ (List.mem_append_left _ (List.mem_append_left _ (List.mem_append_left _ (List.mem_append_right _ h))))))) (by decide +kernel))) (goodIn_sub (fun _ h => List.mem_cons_of_mem _ (List.mem_append_left _ (List.mem_append_left _ (List.mem_append_left _ (List.mem_append_right _ h))))) (by decide +kernel))) (goodIn_sub (fun _ h => List.mem_cons_of_mem _ (List.mem_append_left _ (List.mem_append_left _ (List.mem_append_right _ h)))) (by decide +kernel))) (goodIn_sub (fun _ h => List.mem_cons_of_mem _ (List.mem_append_left _ (List.mem_append_right _ h))) (by decide +kernel))) (goodIn_sub (fun _ h => List.mem_cons_of_mem _ (List.mem_append_right _ h)) (by decide +kernel))
set_option maxRecDepth 20000 in
theorem gL_makes_L_addDebt : GoodIn wsL_makes (va_wsS RL 176 yL_addDebt wsL_addDebt) := goodIn_app (goodIn_of _ (by decide +kernel)) ggL_makes_L_addDebt
set_option maxRecDepth 20000 in
theorem ggL_makes_L_pledge : GoodIn wsL_makes wsL_pledge := goodIn_ca (goodIn_ca (goodIn_ca (goodIn_ca (goodIn_ca (goodIn_cut 60 (goodIn_r _ [131, 94, 132, 133, 134, 15, 135, 17, 18, 136, 137, 21, 138, 109, 86, 24, 23, 110, 111, 112, 55, 113, 67, 114, 115, 116, 25, 26, 27, 28, 29, 30, 31, 32, 33, 34, 35, 36, 37, 38, 39, 40, 41, 42, 43, 44, 45, 46, 47, 48, 49, 50, 51, 52, 53, 54, 56, 57, 58, 59] (by decide +kernel) (by decide +kernel)) (goodIn_r _ [60, 61, 62, 63, 64, 65, 66, 68, 69, 70, 139, 140, 141, 142, 143, 144, 145, 146, 147, 148, 149, 150, 151, 152, 153, 154, 155, 156, 157, 158, 159, 160, 161, 162, 163, 164, 165, 166, 167] (by decide +kernel) (by decide +kernel))) (goodIn_sub (fun _ h => List.mem_cons_of_mem _ (List.mem_append_left _ (List.mem_append_left _ (List.mem_append_left _ (List.mem_append_left _ (List.mem_append_left _ (List.mem_append_right _ h))))))) (by decide +kernel))) (goodIn_sub (fun _ h => List.mem_cons_of_mem _ (List.mem_append_left _ (List.mem_append_left _ (List.mem_append_left _ (List.mem_append_right _ h))))) (by decide +kernel))) (goodIn_sub (fun _ h => List.mem_cons_of_mem _ (List.mem_append_left _ (List.mem_append_left _ (List.mem_append_right _ h)))) (by decide +kernel))) (goodIn_sub (fun _ h => List.mem_cons_of_mem _ (List.mem_append_left _ (List.mem_append_right _ h))) (by decide +kernel))) (goodIn_sub (fun _ h => List.mem_cons_of_mem _ (List.mem_append_right _ h)) (by decide +kernel))
set_option maxRecDepth 20000 in
theorem gL_makes_L_pledge : GoodIn wsL_makes (va_wsS RL 179 yL_pledge wsL_pledge) := goodIn_app (goodIn_of _ (by decide +kernel)) ggL_makes_L_pledge
theorem dL_makes_0 : decode cL_makes 0 = .ok (.iconst 3, 1) := by decide +kernel
theorem dL_makes_1 : decode cL_makes 1 = .ok (.aload_n 1, 1) := by decide +kernel
theorem dL_makes_2 : decode cL_makes 2 = .ok (.iconst 0, 1) := by decide +kernel
theorem dL_makes_3 : decode cL_makes 3 = .ok (.invokestatic 165, 3) := by decide +kernel
theorem dL_makes_6 : decode cL_makes 6 = .ok (.bipush 6, 2) := by decide +kernel
theorem dL_makes_8 : decode cL_makes 8 = .ok (.invokestatic 169, 3) := by decide +kernel
theorem dL_makes_11 : decode cL_makes 11 = .ok (.iadd, 1) := by decide +kernel
theorem dL_makes_12 : decode cL_makes 12 = .ok (.istore_n 2, 1) := by decide +kernel
theorem dL_makes_13 : decode cL_makes 13 = .ok (.iconst 0, 1) := by decide +kernel
theorem dL_makes_14 : decode cL_makes 14 = .ok (.istore_n 3, 1) := by decide +kernel
theorem dL_makes_15 : decode cL_makes 15 = .ok (.iload_n 3, 1) := by decide +kernel
theorem dL_makes_16 : decode cL_makes 16 = .ok (.iload_n 2, 1) := by decide +kernel
theorem dL_makes_17 : decode cL_makes 17 = .ok (.if_icmp .ge 19, 3) := by decide +kernel
theorem dL_makes_20 : decode cL_makes 20 = .ok (.aload_n 0, 1) := by decide +kernel
theorem dL_makes_21 : decode cL_makes 21 = .ok (.invokestatic 172, 3) := by decide +kernel
theorem dL_makes_24 : decode cL_makes 24 = .ok (.iload_n 3, 1) := by decide +kernel
theorem dL_makes_25 : decode cL_makes 25 = .ok (.if_icmp .eq 5, 3) := by decide +kernel
theorem dL_makes_28 : decode cL_makes 28 = .ok (.iconst 0, 1) := by decide +kernel
theorem dL_makes_29 : decode cL_makes 29 = .ok (.ireturn, 1) := by decide +kernel
theorem dL_makes_30 : decode cL_makes 30 = .ok (.iinc 3 1, 3) := by decide +kernel
theorem dL_makes_33 : decode cL_makes 33 = .ok (.goto (-18), 3) := by decide +kernel
theorem dL_makes_36 : decode cL_makes 36 = .ok (.aload_n 0, 1) := by decide +kernel
theorem dL_makes_37 : decode cL_makes 37 = .ok (.aload_n 1, 1) := by decide +kernel
theorem dL_makes_38 : decode cL_makes 38 = .ok (.iconst 1, 1) := by decide +kernel
theorem dL_makes_39 : decode cL_makes 39 = .ok (.invokestatic 165, 3) := by decide +kernel
theorem dL_makes_42 : decode cL_makes 42 = .ok (.bipush 91, 2) := by decide +kernel
theorem dL_makes_44 : decode cL_makes 44 = .ok (.invokestatic 169, 3) := by decide +kernel
theorem dL_makes_47 : decode cL_makes 47 = .ok (.invokestatic 174, 3) := by decide +kernel
theorem dL_makes_50 : decode cL_makes 50 = .ok (.bipush 20, 2) := by decide +kernel
theorem dL_makes_52 : decode cL_makes 52 = .ok (.if_icmp .eq 5, 3) := by decide +kernel
theorem dL_makes_55 : decode cL_makes 55 = .ok (.iconst 0, 1) := by decide +kernel
theorem dL_makes_56 : decode cL_makes 56 = .ok (.ireturn, 1) := by decide +kernel
theorem dL_makes_57 : decode cL_makes 57 = .ok (.iconst 0, 1) := by decide +kernel
theorem dL_makes_58 : decode cL_makes 58 = .ok (.istore_n 3, 1) := by decide +kernel
theorem dL_makes_59 : decode cL_makes 59 = .ok (.iload_n 3, 1) := by decide +kernel
theorem dL_makes_60 : decode cL_makes 60 = .ok (.bipush 16, 2) := by decide +kernel
theorem dL_makes_62 : decode cL_makes 62 = .ok (.if_icmp .ge 92, 3) := by decide +kernel
theorem dL_makes_65 : decode cL_makes 65 = .ok (.aload_n 1, 1) := by decide +kernel
theorem dL_makes_66 : decode cL_makes 66 = .ok (.iconst 2, 1) := by decide +kernel
theorem dL_makes_67 : decode cL_makes 67 = .ok (.iload_n 3, 1) := by decide +kernel
theorem dL_makes_68 : decode cL_makes 68 = .ok (.iadd, 1) := by decide +kernel
theorem dL_makes_69 : decode cL_makes 69 = .ok (.invokestatic 165, 3) := by decide +kernel
theorem dL_makes_72 : decode cL_makes 72 = .ok (.istore 4, 2) := by decide +kernel
theorem dL_makes_74 : decode cL_makes 74 = .ok (.iload 4, 2) := by decide +kernel
theorem dL_makes_76 : decode cL_makes 76 = .ok (.iload_n 2, 1) := by decide +kernel
theorem dL_makes_77 : decode cL_makes 77 = .ok (.invokestatic 169, 3) := by decide +kernel
theorem dL_makes_80 : decode cL_makes 80 = .ok (.istore 5, 2) := by decide +kernel
theorem dL_makes_82 : decode cL_makes 82 = .ok (.iload 4, 2) := by decide +kernel
theorem dL_makes_84 : decode cL_makes 84 = .ok (.iconst 4, 1) := by decide +kernel
theorem dL_makes_85 : decode cL_makes 85 = .ok (.ishr, 1) := by decide +kernel
theorem dL_makes_86 : decode cL_makes 86 = .ok (.iload_n 2, 1) := by decide +kernel
theorem dL_makes_87 : decode cL_makes 87 = .ok (.invokestatic 169, 3) := by decide +kernel
theorem dL_makes_90 : decode cL_makes 90 = .ok (.istore 6, 2) := by decide +kernel
theorem dL_makes_92 : decode cL_makes 92 = .ok (.aload_n 0, 1) := by decide +kernel
theorem dL_makes_93 : decode cL_makes 93 = .ok (.iload 5, 2) := by decide +kernel
theorem dL_makes_95 : decode cL_makes 95 = .ok (.iload 6, 2) := by decide +kernel
theorem dL_makes_97 : decode cL_makes 97 = .ok (.iconst 1, 1) := by decide +kernel
theorem dL_makes_98 : decode cL_makes 98 = .ok (.iload 4, 2) := by decide +kernel
theorem dL_makes_100 : decode cL_makes 100 = .ok (.bipush 8, 2) := by decide +kernel
theorem dL_makes_102 : decode cL_makes 102 = .ok (.ishr, 1) := by decide +kernel
theorem dL_makes_103 : decode cL_makes 103 = .ok (.bipush 40, 2) := by decide +kernel
theorem dL_makes_105 : decode cL_makes 105 = .ok (.invokestatic 169, 3) := by decide +kernel
theorem dL_makes_108 : decode cL_makes 108 = .ok (.iadd, 1) := by decide +kernel
theorem dL_makes_109 : decode cL_makes 109 = .ok (.invokestatic 176, 3) := by decide +kernel
theorem dL_makes_112 : decode cL_makes 112 = .ok (.istore 7, 2) := by decide +kernel
theorem dL_makes_114 : decode cL_makes 114 = .ok (.iload 5, 2) := by decide +kernel
theorem dL_makes_116 : decode cL_makes 116 = .ok (.iload 6, 2) := by decide +kernel
theorem dL_makes_118 : decode cL_makes 118 = .ok (.if_icmp .ne 14, 3) := by decide +kernel
theorem dL_makes_121 : decode cL_makes 121 = .ok (.iload 7, 2) := by decide +kernel
theorem dL_makes_123 : decode cL_makes 123 = .ok (.sipush (-1002), 3) := by decide +kernel
theorem dL_makes_126 : decode cL_makes 126 = .ok (.if_icmp .eq 22, 3) := by decide +kernel
theorem dL_makes_129 : decode cL_makes 129 = .ok (.goto 17, 3) := by decide +kernel
theorem dL_makes_132 : decode cL_makes 132 = .ok (.iload 7, 2) := by decide +kernel
theorem dL_makes_134 : decode cL_makes 134 = .ok (.iconst 1, 1) := by decide +kernel
theorem dL_makes_135 : decode cL_makes 135 = .ok (.if_icmp .ge 13, 3) := by decide +kernel
theorem dL_makes_138 : decode cL_makes 138 = .ok (.iload 7, 2) := by decide +kernel
theorem dL_makes_140 : decode cL_makes 140 = .ok (.sipush (-1004), 3) := by decide +kernel
theorem dL_makes_143 : decode cL_makes 143 = .ok (.if_icmp .eq 5, 3) := by decide +kernel
theorem dL_makes_146 : decode cL_makes 146 = .ok (.iconst 0, 1) := by decide +kernel
theorem dL_makes_147 : decode cL_makes 147 = .ok (.ireturn, 1) := by decide +kernel
theorem dL_makes_148 : decode cL_makes 148 = .ok (.iinc 3 1, 3) := by decide +kernel
theorem dL_makes_151 : decode cL_makes 151 = .ok (.goto (-92), 3) := by decide +kernel
theorem dL_makes_154 : decode cL_makes 154 = .ok (.aload_n 0, 1) := by decide +kernel
theorem dL_makes_155 : decode cL_makes 155 = .ok (.aload_n 1, 1) := by decide +kernel
theorem dL_makes_156 : decode cL_makes 156 = .ok (.bipush 20, 2) := by decide +kernel
theorem dL_makes_158 : decode cL_makes 158 = .ok (.invokestatic 165, 3) := by decide +kernel
theorem dL_makes_161 : decode cL_makes 161 = .ok (.iload_n 2, 1) := by decide +kernel
theorem dL_makes_162 : decode cL_makes 162 = .ok (.invokestatic 169, 3) := by decide +kernel
theorem dL_makes_165 : decode cL_makes 165 = .ok (.iconst 1, 1) := by decide +kernel
theorem dL_makes_166 : decode cL_makes 166 = .ok (.aload_n 1, 1) := by decide +kernel
theorem dL_makes_167 : decode cL_makes 167 = .ok (.bipush 21, 2) := by decide +kernel
theorem dL_makes_169 : decode cL_makes 169 = .ok (.invokestatic 165, 3) := by decide +kernel
theorem dL_makes_172 : decode cL_makes 172 = .ok (.bipush 60, 2) := by decide +kernel
theorem dL_makes_174 : decode cL_makes 174 = .ok (.invokestatic 169, 3) := by decide +kernel
theorem dL_makes_177 : decode cL_makes 177 = .ok (.iadd, 1) := by decide +kernel
theorem dL_makes_178 : decode cL_makes 178 = .ok (.invokestatic 179, 3) := by decide +kernel
theorem dL_makes_181 : decode cL_makes 181 = .ok (.ifCond .le 7, 3) := by decide +kernel
theorem dL_makes_184 : decode cL_makes 184 = .ok (.iconst 1, 1) := by decide +kernel
theorem dL_makes_185 : decode cL_makes 185 = .ok (.goto 4, 3) := by decide +kernel
theorem dL_makes_188 : decode cL_makes 188 = .ok (.iconst 0, 1) := by decide +kernel
theorem dL_makes_189 : decode cL_makes 189 = .ok (.ireturn, 1) := by decide +kernel
set_option maxRecDepth 20000 in
theorem ggL_asks_X10_memberCount : GoodIn wsL_asks wsX10_memberCount := goodIn_r _ [6, 7, 478, 479, 480, 481, 482, 483, 484, 485, 486, 487, 488, 489, 490, 491, 492, 493, 494, 495, 496, 497, 498, 499] (by decide +kernel) (by decide +kernel)
set_option maxRecDepth 20000 in
theorem gL_asks_X10_memberCount : GoodIn wsL_asks (wsV RL 182 RX10 yX10_memberCount wsX10_memberCount) := goodIn_app (goodIn_of _ (by decide +kernel)) ggL_asks_X10_memberCount
set_option maxRecDepth 20000 in
theorem ggL_asks_L_meanPosition : GoodIn wsL_asks wsL_meanPosition := goodIn_ca (goodIn_ca (goodIn_r _ [11, 12, 13, 14, 15, 16, 5, 17, 18, 19, 7, 20, 21, 22, 23, 24, 25, 26, 27, 28, 29, 30, 31, 32, 33, 34, 35, 36, 37, 38, 39, 40, 41, 42, 43, 44, 45, 46, 478, 479, 480, 481, 482, 483, 484, 485, 486, 487, 488, 489, 490, 491, 492, 493, 494, 495, 496, 497, 498, 499] (by decide +kernel) (by decide +kernel)) (goodIn_sub (fun _ h => List.mem_cons_of_mem _ (List.mem_append_left _ (List.mem_append_left _ (List.mem_append_left _ (List.mem_append_left _ (List.mem_append_left _ (List.mem_append_left _ (List.mem_append_right _ h)))))))) (by decide +kernel))) (goodIn_sub (fun _ h => List.mem_cons_of_mem _ (List.mem_append_left _ (List.mem_append_left _ (List.mem_append_left _ (List.mem_append_left _ (List.mem_append_left _ (List.mem_append_right _ h))))))) (by decide +kernel))
set_option maxRecDepth 20000 in
theorem gL_asks_L_meanPosition : GoodIn wsL_asks (va_wsS RL 187 yL_meanPosition wsL_meanPosition) := goodIn_app (goodIn_of _ (by decide +kernel)) ggL_asks_L_meanPosition
set_option maxRecDepth 20000 in
theorem ggL_asks_Jxe99ae_doubleToLongBits_ccdee : GoodIn wsL_asks wsJxe99ae_doubleToLongBits_ccdee := goodIn_r _ [50, 51, 52, 53, 54, 55, 56, 57, 49, 58] (by decide +kernel) (by decide +kernel)
set_option maxRecDepth 20000 in
theorem gL_asks_Jxe99ae_doubleToLongBits_ccdee : GoodIn wsL_asks (va_wsS RL 190 yJxe99ae_doubleToLongBits_ccdee wsJxe99ae_doubleToLongBits_ccdee) := goodIn_app (goodIn_of _ (by decide +kernel)) ggL_asks_Jxe99ae_doubleToLongBits_ccdee
set_option maxRecDepth 20000 in
theorem ggL_asks_L_debtShare : GoodIn wsL_asks wsL_debtShare := goodIn_ca (goodIn_ca (goodIn_r _ [61, 12, 62, 63, 64, 65, 5, 66, 18, 19, 7, 67, 68, 69, 23, 70, 42, 478, 479, 480, 481, 482, 483, 484, 485, 486, 487, 488, 489, 490, 491, 492, 493, 494, 495, 496, 497, 498, 499] (by decide +kernel) (by decide +kernel)) (goodIn_sub (fun _ h => List.mem_cons_of_mem _ (List.mem_append_left _ (List.mem_append_left _ (List.mem_append_left _ (List.mem_append_left _ (List.mem_append_left _ (List.mem_append_left _ (List.mem_append_right _ h)))))))) (by decide +kernel))) (goodIn_sub (fun _ h => List.mem_cons_of_mem _ (List.mem_append_left _ (List.mem_append_left _ (List.mem_append_left _ (List.mem_append_left _ (List.mem_append_left _ (List.mem_append_right _ h))))))) (by decide +kernel))
set_option maxRecDepth 20000 in
theorem gL_asks_L_debtShare : GoodIn wsL_asks (va_wsS RL 196 yL_debtShare wsL_debtShare) := goodIn_app (goodIn_of _ (by decide +kernel)) ggL_asks_L_debtShare
set_option maxRecDepth 20000 in
theorem ggL_asks_Jxf58ca_floatToIntBits_5c35a : GoodIn wsL_asks wsJxf58ca_floatToIntBits_5c35a := goodIn_r _ [74, 75, 76, 77, 78, 79, 80, 81, 73, 82] (by decide +kernel) (by decide +kernel)
set_option maxRecDepth 20000 in
theorem gL_asks_Jxf58ca_floatToIntBits_5c35a : GoodIn wsL_asks (va_wsS RL 199 yJxf58ca_floatToIntBits_5c35a wsJxf58ca_floatToIntBits_5c35a) := goodIn_app (goodIn_of _ (by decide +kernel)) ggL_asks_Jxf58ca_floatToIntBits_5c35a
set_option maxRecDepth 20000 in
theorem ggL_asks_X10_haircut : GoodIn wsL_asks wsX10_haircut := goodIn_r _ [86, 7, 478, 479, 480, 481, 482, 483, 484, 485, 486, 487, 488, 489, 490, 491, 492, 493, 494, 495, 496, 497, 498, 499] (by decide +kernel) (by decide +kernel)
set_option maxRecDepth 20000 in
theorem gL_asks_X10_haircut : GoodIn wsL_asks (wsV RL 205 RX10 yX10_haircut wsX10_haircut) := goodIn_app (goodIn_of _ (by decide +kernel)) ggL_asks_X10_haircut
set_option maxRecDepth 20000 in
theorem ggL_asks_X10_nettedAmount : GoodIn wsL_asks wsX10_nettedAmount := goodIn_r _ [90, 7, 478, 479, 480, 481, 482, 483, 484, 485, 486, 487, 488, 489, 490, 491, 492, 493, 494, 495, 496, 497, 498, 499] (by decide +kernel) (by decide +kernel)
set_option maxRecDepth 20000 in
theorem gL_asks_X10_nettedAmount : GoodIn wsL_asks (wsV RL 208 RX10 yX10_nettedAmount wsX10_nettedAmount) := goodIn_app (goodIn_of _ (by decide +kernel)) ggL_asks_X10_nettedAmount
set_option maxRecDepth 20000 in
theorem ggL_asks_X10_lostAmount : GoodIn wsL_asks wsX10_lostAmount := goodIn_r _ [94, 7, 478, 479, 480, 481, 482, 483, 484, 485, 486, 487, 488, 489, 490, 491, 492, 493, 494, 495, 496, 497, 498, 499] (by decide +kernel) (by decide +kernel)
set_option maxRecDepth 20000 in
theorem gL_asks_X10_lostAmount : GoodIn wsL_asks (wsV RL 211 RX10 yX10_lostAmount wsX10_lostAmount) := goodIn_app (goodIn_of _ (by decide +kernel)) ggL_asks_X10_lostAmount
set_option maxRecDepth 20000 in
theorem ggL_asks_X10_triangles : GoodIn wsL_asks wsX10_triangles := goodIn_ca (goodIn_r _ [98, 99, 7, 100, 101, 102, 103, 104, 105, 106, 107, 108, 109, 110, 111, 112, 113, 478, 479, 480, 481, 482, 483, 484, 485, 486, 487, 488, 489, 500, 501, 502, 503, 504, 490, 491, 492, 493, 494, 495, 496, 497, 498, 499] (by decide +kernel) (by decide +kernel)) (goodIn_sub (fun _ h => List.mem_cons_of_mem _ (List.mem_append_left _ (List.mem_append_left _ (List.mem_append_left _ (List.mem_append_left _ (List.mem_append_left _ (List.mem_append_right _ h))))))) (by decide +kernel))
set_option maxRecDepth 20000 in
theorem gL_asks_X10_triangles : GoodIn wsL_asks (wsV RL 214 RX10 yX10_triangles wsX10_triangles) := goodIn_app (goodIn_of _ (by decide +kernel)) ggL_asks_X10_triangles
