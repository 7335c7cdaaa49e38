theorem dX10_haircut_4 : decode cX10_haircut 4 = .ok (.getfield 176, 3) := by decide +kernel
theorem dX10_haircut_7 : decode cX10_haircut 7 = .ok (.ireturn, 1) := by decide +kernel
set_option maxRecDepth 20000 in
theorem ggX10_owed_X9_onPair : GoodIn wsX10_owed wsX9_onPair := goodIn_r _ [5, 6, 7, 8, 9, 10, 11, 12, 13, 14, 48, 49, 50, 51, 52, 53, 54, 55, 56, 57] (by decide +kernel) (by decide +kernel)
set_option maxRecDepth 20000 in
theorem gX10_owed_X9_onPair : GoodIn wsX10_owed (va_wsS RX10 107 yX9_onPair wsX9_onPair) := goodIn_app (goodIn_of _ (by decide +kernel)) ggX10_owed_X9_onPair
set_option maxRecDepth 20000 in
theorem ggX10_owed_X10_throwIfRefused : GoodIn wsX10_owed wsX10_throwIfRefused := goodIn_ca (goodIn_ca (goodIn_ca (goodIn_ca (goodIn_r _ [18, 19, 20, 21, 22, 23, 24, 25, 26, 27, 28, 29, 30] (by decide +kernel) (by decide +kernel)) (goodIn_sub (fun _ h => List.mem_cons_of_mem _ (List.mem_append_left _ (List.mem_append_left _ (List.mem_append_left _ (List.mem_append_left _ (List.mem_append_right _ h)))))) (by decide +kernel))) (goodIn_sub (fun _ h => List.mem_cons_of_mem _ (List.mem_append_left _ (List.mem_append_left _ (List.mem_append_left _ (List.mem_append_right _ h))))) (by decide +kernel))) (goodIn_sub (fun _ h => List.mem_cons_of_mem _ (List.mem_append_left _ (List.mem_append_left _ (List.mem_append_right _ h)))) (by decide +kernel))) (goodIn_sub (fun _ h => List.mem_cons_of_mem _ (List.mem_append_left _ (List.mem_append_right _ h))) (by decide +kernel))
set_option maxRecDepth 20000 in
theorem gX10_owed_X10_throwIfRefused : GoodIn wsX10_owed (va_wsS RX10 81 yX10_throwIfRefused wsX10_throwIfRefused) := goodIn_app (goodIn_of _ (by decide +kernel)) ggX10_owed_X10_throwIfRefused
set_option maxRecDepth 20000 in
theorem ggX10_owed_X5_amountOwed : GoodIn wsX10_owed wsX5_amountOwed := goodIn_ca (goodIn_r _ [34, 35, 48, 49, 50, 51, 52, 53, 54, 55, 56, 57] (by decide +kernel) (by decide +kernel)) (goodIn_sub (fun _ h => List.mem_cons_of_mem _ (List.mem_append_right _ h)) (by decide +kernel))
set_option maxRecDepth 20000 in
theorem gX10_owed_X5_amountOwed : GoodIn wsX10_owed (wsV RX10 179 RX5 yX5_amountOwed wsX5_amountOwed) := goodIn_app (goodIn_of _ (by decide +kernel)) ggX10_owed_X5_amountOwed
theorem dX10_owed_0 : decode cX10_owed 0 = .ok (.aload_n 0, 1) := by decide +kernel
theorem dX10_owed_1 : decode cX10_owed 1 = .ok (.getfield 10, 3) := by decide +kernel
theorem dX10_owed_4 : decode cX10_owed 4 = .ok (.iload_n 1, 1) := by decide +kernel
theorem dX10_owed_5 : decode cX10_owed 5 = .ok (.iload_n 2, 1) := by decide +kernel
theorem dX10_owed_6 : decode cX10_owed 6 = .ok (.invokestatic 107, 3) := by decide +kernel
theorem dX10_owed_9 : decode cX10_owed 9 = .ok (.invokestatic 81, 3) := by decide +kernel
theorem dX10_owed_12 : decode cX10_owed 12 = .ok (.aload_n 0, 1) := by decide +kernel
theorem dX10_owed_13 : decode cX10_owed 13 = .ok (.getfield 10, 3) := by decide +kernel
theorem dX10_owed_16 : decode cX10_owed 16 = .ok (.iload_n 1, 1) := by decide +kernel
theorem dX10_owed_17 : decode cX10_owed 17 = .ok (.iload_n 2, 1) := by decide +kernel
theorem dX10_owed_18 : decode cX10_owed 18 = .ok (.invokevirtual 179, 3) := by decide +kernel
theorem dX10_owed_21 : decode cX10_owed 21 = .ok (.ireturn, 1) := by decide +kernel
set_option maxRecDepth 20000 in
theorem ggX10_debtCount_X5_countDebts : GoodIn wsX10_debtCount wsX5_countDebts := goodIn_ca (goodIn_r _ [6, 7, 20, 21, 22, 23, 24, 25, 26, 27, 28, 29] (by decide +kernel) (by decide +kernel)) (goodIn_sub (fun _ h => List.mem_cons_of_mem _ (List.mem_append_right _ h)) (by decide +kernel))
set_option maxRecDepth 20000 in
theorem gX10_debtCount_X5_countDebts : GoodIn wsX10_debtCount (wsV RX10 182 RX5 yX5_countDebts wsX5_countDebts) := goodIn_app (goodIn_of _ (by decide +kernel)) ggX10_debtCount_X5_countDebts
theorem dX10_debtCount_0 : decode cX10_debtCount 0 = .ok (.aload_n 0, 1) := by decide +kernel
theorem dX10_debtCount_1 : decode cX10_debtCount 1 = .ok (.getfield 10, 3) := by decide +kernel
theorem dX10_debtCount_4 : decode cX10_debtCount 4 = .ok (.invokevirtual 182, 3) := by decide +kernel
theorem dX10_debtCount_7 : decode cX10_debtCount 7 = .ok (.ireturn, 1) := by decide +kernel
set_option maxRecDepth 20000 in
theorem ggX10_debit_X9_onMember : GoodIn wsX10_debit wsX9_onMember := goodIn_r _ [5, 6, 7, 8, 9, 10, 11, 12, 13, 51, 52, 53, 54, 55, 56, 57, 58, 59, 60] (by decide +kernel) (by decide +kernel)
set_option maxRecDepth 20000 in
theorem gX10_debit_X9_onMember : GoodIn wsX10_debit (va_wsS RX10 156 yX9_onMember wsX9_onMember) := goodIn_app (goodIn_of _ (by decide +kernel)) ggX10_debit_X9_onMember
set_option maxRecDepth 20000 in
theorem ggX10_debit_X10_throwIfRefused : GoodIn wsX10_debit wsX10_throwIfRefused := goodIn_ca (goodIn_ca (goodIn_ca (goodIn_ca (goodIn_r _ [17, 18, 19, 20, 21, 22, 23, 24, 25, 26, 27, 28, 29] (by decide +kernel) (by decide +kernel)) (goodIn_sub (fun _ h => List.mem_cons_of_mem _ (List.mem_append_left _ (List.mem_append_left _ (List.mem_append_left _ (List.mem_append_left _ (List.mem_append_right _ h)))))) (by decide +kernel))) (goodIn_sub (fun _ h => List.mem_cons_of_mem _ (List.mem_append_left _ (List.mem_append_left _ (List.mem_append_left _ (List.mem_append_right _ h))))) (by decide +kernel))) (goodIn_sub (fun _ h => List.mem_cons_of_mem _ (List.mem_append_left _ (List.mem_append_left _ (List.mem_append_right _ h)))) (by decide +kernel))) (goodIn_sub (fun _ h => List.mem_cons_of_mem _ (List.mem_append_left _ (List.mem_append_right _ h))) (by decide +kernel))
set_option maxRecDepth 20000 in
theorem gX10_debit_X10_throwIfRefused : GoodIn wsX10_debit (va_wsS RX10 81 yX10_throwIfRefused wsX10_throwIfRefused) := goodIn_app (goodIn_of _ (by decide +kernel)) ggX10_debit_X10_throwIfRefused
set_option maxRecDepth 20000 in
theorem ggX10_debit_X5_debitOf : GoodIn wsX10_debit wsX5_debitOf := goodIn_ca (goodIn_r _ [33, 34, 35, 36, 11, 37, 38, 51, 52, 53, 54, 55, 56, 57, 58, 59, 60] (by decide +kernel) (by decide +kernel)) (goodIn_sub (fun _ h => List.mem_cons_of_mem _ (List.mem_append_right _ h)) (by decide +kernel))
set_option maxRecDepth 20000 in
theorem gX10_debit_X5_debitOf : GoodIn wsX10_debit (wsV RX10 185 RX5 yX5_debitOf wsX5_debitOf) := goodIn_app (goodIn_of _ (by decide +kernel)) ggX10_debit_X5_debitOf
theorem dX10_debit_0 : decode cX10_debit 0 = .ok (.aload_n 0, 1) := by decide +kernel
theorem dX10_debit_1 : decode cX10_debit 1 = .ok (.getfield 10, 3) := by decide +kernel
theorem dX10_debit_4 : decode cX10_debit 4 = .ok (.iload_n 1, 1) := by decide +kernel
theorem dX10_debit_5 : decode cX10_debit 5 = .ok (.invokestatic 156, 3) := by decide +kernel
theorem dX10_debit_8 : decode cX10_debit 8 = .ok (.invokestatic 81, 3) := by decide +kernel
theorem dX10_debit_11 : decode cX10_debit 11 = .ok (.aload_n 0, 1) := by decide +kernel
theorem dX10_debit_12 : decode cX10_debit 12 = .ok (.getfield 10, 3) := by decide +kernel
theorem dX10_debit_15 : decode cX10_debit 15 = .ok (.iload_n 1, 1) := by decide +kernel
theorem dX10_debit_16 : decode cX10_debit 16 = .ok (.invokevirtual 185, 3) := by decide +kernel
theorem dX10_debit_19 : decode cX10_debit 19 = .ok (.ireturn, 1) := by decide +kernel
set_option maxRecDepth 20000 in
theorem ggX10_credit_X9_onMember : GoodIn wsX10_credit wsX9_onMember := goodIn_r _ [5, 6, 7, 8, 9, 10, 11, 12, 13, 51, 52, 53, 54, 55, 56, 57, 58, 59, 60] (by decide +kernel) (by decide +kernel)
set_option maxRecDepth 20000 in
theorem gX10_credit_X9_onMember : GoodIn wsX10_credit (va_wsS RX10 156 yX9_onMember wsX9_onMember) := goodIn_app (goodIn_of _ (by decide +kernel)) ggX10_credit_X9_onMember
set_option maxRecDepth 20000 in
theorem ggX10_credit_X10_throwIfRefused : GoodIn wsX10_credit wsX10_throwIfRefused := goodIn_ca (goodIn_ca (goodIn_ca (goodIn_ca (goodIn_r _ [17, 18, 19, 20, 21, 22, 23, 24, 25, 26, 27, 28, 29] (by decide +kernel) (by decide +kernel)) (goodIn_sub (fun _ h => List.mem_cons_of_mem _ (List.mem_append_left _ (List.mem_append_left _ (List.mem_append_left _ (List.mem_append_left _ (List.mem_append_right _ h)))))) (by decide +kernel))) (goodIn_sub (fun _ h => List.mem_cons_of_mem _ (List.mem_append_left _ (List.mem_append_left _ (List.mem_append_left _ (List.mem_append_right _ h))))) (by decide +kernel))) (goodIn_sub (fun _ h => List.mem_cons_of_mem _ (List.mem_append_left _ (List.mem_append_left _ (List.mem_append_right _ h)))) (by decide +kernel))) (goodIn_sub (fun _ h => List.mem_cons_of_mem _ (List.mem_append_left _ (List.mem_append_right _ h))) (by decide +kernel))
set_option maxRecDepth 20000 in
theorem gX10_credit_X10_throwIfRefused : GoodIn wsX10_credit (va_wsS RX10 81 yX10_throwIfRefused wsX10_throwIfRefused) := goodIn_app (goodIn_of _ (by decide +kernel)) ggX10_credit_X10_throwIfRefused
set_option maxRecDepth 20000 in
theorem ggX10_credit_X5_creditOf : GoodIn wsX10_credit wsX5_creditOf := goodIn_ca (goodIn_r _ [33, 34, 35, 36, 11, 37, 38, 51, 52, 53, 54, 55, 56, 57, 58, 59, 60] (by decide +kernel) (by decide +kernel)) (goodIn_sub (fun _ h => List.mem_cons_of_mem _ (List.mem_append_right _ h)) (by decide +kernel))
set_option maxRecDepth 20000 in
theorem gX10_credit_X5_creditOf : GoodIn wsX10_credit (wsV RX10 188 RX5 yX5_creditOf wsX5_creditOf) := goodIn_app (goodIn_of _ (by decide +kernel)) ggX10_credit_X5_creditOf
theorem dX10_credit_0 : decode cX10_credit 0 = .ok (.aload_n 0, 1) := by decide +kernel
theorem dX10_credit_1 : decode cX10_credit 1 = .ok (.getfield 10, 3) := by decide +kernel
theorem dX10_credit_4 : decode cX10_credit 4 = .ok (.iload_n 1, 1) := by decide +kernel
theorem dX10_credit_5 : decode cX10_credit 5 = .ok (.invokestatic 156, 3) := by decide +kernel
theorem dX10_credit_8 : decode cX10_credit 8 = .ok (.invokestatic 81, 3) := by decide +kernel
theorem dX10_credit_11 : decode cX10_credit 11 = .ok (.aload_n 0, 1) := by decide +kernel
theorem dX10_credit_12 : decode cX10_credit 12 = .ok (.getfield 10, 3) := by decide +kernel
theorem dX10_credit_15 : decode cX10_credit 15 = .ok (.iload_n 1, 1) := by decide +kernel
theorem dX10_credit_16 : decode cX10_credit 16 = .ok (.invokevirtual 188, 3) := by decide +kernel
theorem dX10_credit_19 : decode cX10_credit 19 = .ok (.ireturn, 1) := by decide +kernel
set_option maxRecDepth 20000 in
theorem ggX10_position_X9_onMember : GoodIn wsX10_position wsX9_onMember := goodIn_r _ [5, 6, 7, 8, 9, 10, 11, 12, 13, 59, 60, 61, 62, 63, 64, 65, 66, 67, 68] (by decide +kernel) (by decide +kernel)
set_option maxRecDepth 20000 in
theorem gX10_position_X9_onMember : GoodIn wsX10_position (va_wsS RX10 156 yX9_onMember wsX9_onMember) := goodIn_app (goodIn_of _ (by decide +kernel)) ggX10_position_X9_onMember
set_option maxRecDepth 20000 in
theorem ggX10_position_X10_throwIfRefused : GoodIn wsX10_position wsX10_throwIfRefused := goodIn_ca (goodIn_ca (goodIn_ca (goodIn_ca (goodIn_r _ [17, 18, 19, 20, 21, 22, 23, 24, 25, 26, 27, 28, 29] (by decide +kernel) (by decide +kernel)) (goodIn_sub (fun _ h => List.mem_cons_of_mem _ (List.mem_append_left _ (List.mem_append_left _ (List.mem_append_left _ (List.mem_append_left _ (List.mem_append_right _ h)))))) (by decide +kernel))) (goodIn_sub (fun _ h => List.mem_cons_of_mem _ (List.mem_append_left _ (List.mem_append_left _ (List.mem_append_left _ (List.mem_append_right _ h))))) (by decide +kernel))) (goodIn_sub (fun _ h => List.mem_cons_of_mem _ (List.mem_append_left _ (List.mem_append_left _ (List.mem_append_right _ h)))) (by decide +kernel))) (goodIn_sub (fun _ h => List.mem_cons_of_mem _ (List.mem_append_left _ (List.mem_append_right _ h))) (by decide +kernel))
set_option maxRecDepth 20000 in
theorem gX10_position_X10_throwIfRefused : GoodIn wsX10_position (va_wsS RX10 81 yX10_throwIfRefused wsX10_throwIfRefused) := goodIn_app (goodIn_of _ (by decide +kernel)) ggX10_position_X10_throwIfRefused
set_option maxRecDepth 20000 in
theorem ggX10_position_X5_positionOf : GoodIn wsX10_position wsX5_positionOf := goodIn_ca (goodIn_r _ [33, 34, 35, 36, 11, 37, 38, 39, 40, 41, 42, 43, 44, 45, 46, 59, 60, 61, 62, 63, 64, 65, 66, 67, 68] (by decide +kernel) (by decide +kernel)) (goodIn_sub (fun _ h => List.mem_cons_of_mem _ (List.mem_append_right _ h)) (by decide +kernel))
set_option maxRecDepth 20000 in
theorem gX10_position_X5_positionOf : GoodIn wsX10_position (wsV RX10 191 RX5 yX5_positionOf wsX5_positionOf) := goodIn_app (goodIn_of _ (by decide +kernel)) ggX10_position_X5_positionOf
theorem dX10_position_0 : decode cX10_position 0 = .ok (.aload_n 0, 1) := by decide +kernel
theorem dX10_position_1 : decode cX10_position 1 = .ok (.getfield 10, 3) := by decide +kernel
theorem dX10_position_4 : decode cX10_position 4 = .ok (.iload_n 1, 1) := by decide +kernel
theorem dX10_position_5 : decode cX10_position 5 = .ok (.invokestatic 156, 3) := by decide +kernel
theorem dX10_position_8 : decode cX10_position 8 = .ok (.invokestatic 81, 3) := by decide +kernel
theorem dX10_position_11 : decode cX10_position 11 = .ok (.aload_n 0, 1) := by decide +kernel
theorem dX10_position_12 : decode cX10_position 12 = .ok (.getfield 10, 3) := by decide +kernel
theorem dX10_position_15 : decode cX10_position 15 = .ok (.iload_n 1, 1) := by decide +kernel
theorem dX10_position_16 : decode cX10_position 16 = .ok (.invokevirtual 191, 3) := by decide +kernel
theorem dX10_position_19 : decode cX10_position 19 = .ok (.ireturn, 1) := by decide +kernel
set_option maxRecDepth 20000 in
theorem ggX10_positionByAccount_X9_onMember : GoodIn wsX10_positionByAccount wsX9_onMember := goodIn_r _ [5, 6, 7, 8, 9, 10, 11, 12, 13, 42, 43, 44, 45, 46, 47, 48, 49, 50, 51] (by decide +kernel) (by decide +kernel)
set_option maxRecDepth 20000 in
theorem gX10_positionByAccount_X9_onMember : GoodIn wsX10_positionByAccount (va_wsS RX10 156 yX9_onMember wsX9_onMember) := goodIn_app (goodIn_of _ (by decide +kernel)) ggX10_positionByAccount_X9_onMember
set_option maxRecDepth 20000 in
theorem ggX10_positionByAccount_X10_throwIfRefused : GoodIn wsX10_positionByAccount wsX10_throwIfRefused := goodIn_ca (goodIn_ca (goodIn_ca (goodIn_ca (goodIn_r _ [17, 18, 19, 20, 21, 22, 23, 24, 25, 26, 27, 28, 29] (by decide +kernel) (by decide +kernel)) (goodIn_sub (fun _ h => List.mem_cons_of_mem _ (List.mem_append_left _ (List.mem_append_left _ (List.mem_append_left _ (List.mem_append_right _ h))))) (by decide +kernel))) (goodIn_sub (fun _ h => List.mem_cons_of_mem _ (List.mem_append_left _ (List.mem_append_left _ (List.mem_append_right _ h)))) (by decide +kernel))) (goodIn_sub (fun _ h => List.mem_cons_of_mem _ (List.mem_append_left _ (List.mem_append_right _ h))) (by decide +kernel))) (goodIn_sub (fun _ h => List.mem_cons_of_mem _ (List.mem_append_right _ h)) (by decide +kernel))
set_option maxRecDepth 20000 in
theorem gX10_positionByAccount_X10_throwIfRefused : GoodIn wsX10_positionByAccount (va_wsS RX10 81 yX10_throwIfRefused wsX10_throwIfRefused) := goodIn_app (goodIn_of _ (by decide +kernel)) ggX10_positionByAccount_X10_throwIfRefused
theorem dX10_positionByAccount_0 : decode cX10_positionByAccount 0 = .ok (.aload_n 0, 1) := by decide +kernel
theorem dX10_positionByAccount_1 : decode cX10_positionByAccount 1 = .ok (.getfield 10, 3) := by decide +kernel
theorem dX10_positionByAccount_4 : decode cX10_positionByAccount 4 = .ok (.iload_n 1, 1) := by decide +kernel
theorem dX10_positionByAccount_5 : decode cX10_positionByAccount 5 = .ok (.invokestatic 156, 3) := by decide +kernel
theorem dX10_positionByAccount_8 : decode cX10_positionByAccount 8 = .ok (.invokestatic 81, 3) := by decide +kernel
theorem dX10_positionByAccount_11 : decode cX10_positionByAccount 11 = .ok (.aload_n 0, 1) := by decide +kernel
theorem dX10_positionByAccount_12 : decode cX10_positionByAccount 12 = .ok (.getfield 10, 3) := by decide +kernel
theorem dX10_positionByAccount_15 : decode cX10_positionByAccount 15 = .ok (.getfield 194, 3) := by decide +kernel
theorem dX10_positionByAccount_18 : decode cX10_positionByAccount 18 = .ok (.iload_n 1, 1) := by decide +kernel
theorem dX10_positionByAccount_19 : decode cX10_positionByAccount 19 = .ok (.iaload, 1) := by decide +kernel
theorem dX10_positionByAccount_20 : decode cX10_positionByAccount 20 = .ok (.ireturn, 1) := by decide +kernel
set_option maxRecDepth 20000 in
theorem ggX10_largestDebtor_X5_placeOfLargestDebt : GoodIn wsX10_largestDebtor wsX5_placeOfLargestDebt := goodIn_ca (goodIn_r _ [8, 9, 22, 23, 24, 25, 26, 27, 28, 29, 30, 31] (by decide +kernel) (by decide +kernel)) (goodIn_sub (fun _ h => List.mem_cons_of_mem _ (List.mem_append_right _ h)) (by decide +kernel))
set_option maxRecDepth 20000 in
theorem gX10_largestDebtor_X5_placeOfLargestDebt : GoodIn wsX10_largestDebtor (wsV RX10 200 RX5 yX5_placeOfLargestDebt wsX5_placeOfLargestDebt) := goodIn_app (goodIn_of _ (by decide +kernel)) ggX10_largestDebtor_X5_placeOfLargestDebt
theorem dX10_largestDebtor_0 : decode cX10_largestDebtor 0 = .ok (.aload_n 0, 1) := by decide +kernel
theorem dX10_largestDebtor_1 : decode cX10_largestDebtor 1 = .ok (.getfield 10, 3) := by decide +kernel
theorem dX10_largestDebtor_4 : decode cX10_largestDebtor 4 = .ok (.invokevirtual 200, 3) := by decide +kernel
theorem dX10_largestDebtor_7 : decode cX10_largestDebtor 7 = .ok (.istore_n 1, 1) := by decide +kernel
theorem dX10_largestDebtor_8 : decode cX10_largestDebtor 8 = .ok (.iload_n 1, 1) := by decide +kernel
theorem dX10_largestDebtor_9 : decode cX10_largestDebtor 9 = .ok (.iconst (-1), 1) := by decide +kernel
theorem dX10_largestDebtor_10 : decode cX10_largestDebtor 10 = .ok (.if_icmp .ne 13, 3) := by decide +kernel
theorem dX10_largestDebtor_13 : decode cX10_largestDebtor 13 = .ok (.new 203, 3) := by decide +kernel
theorem dX10_largestDebtor_16 : decode cX10_largestDebtor 16 = .ok (.dup, 1) := by decide +kernel
theorem dX10_largestDebtor_17 : decode cX10_largestDebtor 17 = .ok (.ldc 205, 2) := by decide +kernel
theorem dX10_largestDebtor_19 : decode cX10_largestDebtor 19 = .ok (.invokespecial 207, 3) := by decide +kernel
theorem dX10_largestDebtor_22 : decode cX10_largestDebtor 22 = .ok (.athrow, 1) := by decide +kernel
theorem dX10_largestDebtor_23 : decode cX10_largestDebtor 23 = .ok (.iload_n 1, 1) := by decide +kernel
theorem dX10_largestDebtor_24 : decode cX10_largestDebtor 24 = .ok (.bipush 8, 2) := by decide +kernel
theorem dX10_largestDebtor_26 : decode cX10_largestDebtor 26 = .ok (.idiv, 1) := by decide +kernel
theorem dX10_largestDebtor_27 : decode cX10_largestDebtor 27 = .ok (.ireturn, 1) := by decide +kernel
set_option maxRecDepth 20000 in
theorem ggX10_largestCreditor_X5_placeOfLargestDebt : GoodIn wsX10_largestCreditor wsX5_placeOfLargestDebt := goodIn_ca (goodIn_r _ [8, 9, 22, 23, 24, 25, 26, 27, 28, 29, 30, 31] (by decide +kernel) (by decide +kernel)) (goodIn_sub (fun _ h => List.mem_cons_of_mem _ (List.mem_append_right _ h)) (by decide +kernel))
set_option maxRecDepth 20000 in
theorem gX10_largestCreditor_X5_placeOfLargestDebt : GoodIn wsX10_largestCreditor (wsV RX10 200 RX5 yX5_placeOfLargestDebt wsX5_placeOfLargestDebt) := goodIn_app (goodIn_of _ (by decide +kernel)) ggX10_largestCreditor_X5_placeOfLargestDebt
theorem dX10_largestCreditor_0 : decode cX10_largestCreditor 0 = .ok (.aload_n 0, 1) := by decide +kernel
theorem dX10_largestCreditor_1 : decode cX10_largestCreditor 1 = .ok (.getfield 10, 3) := by decide +kernel
theorem dX10_largestCreditor_4 : decode cX10_largestCreditor 4 = .ok (.invokevirtual 200, 3) := by decide +kernel
theorem dX10_largestCreditor_7 : decode cX10_largestCreditor 7 = .ok (.istore_n 1, 1) := by decide +kernel
theorem dX10_largestCreditor_8 : decode cX10_largestCreditor 8 = .ok (.iload_n 1, 1) := by decide +kernel
theorem dX10_largestCreditor_9 : decode cX10_largestCreditor 9 = .ok (.iconst (-1), 1) := by decide +kernel
theorem dX10_largestCreditor_10 : decode cX10_largestCreditor 10 = .ok (.if_icmp .ne 13, 3) := by decide +kernel
theorem dX10_largestCreditor_13 : decode cX10_largestCreditor 13 = .ok (.new 203, 3) := by decide +kernel
theorem dX10_largestCreditor_16 : decode cX10_largestCreditor 16 = .ok (.dup, 1) := by decide +kernel
theorem dX10_largestCreditor_17 : decode cX10_largestCreditor 17 = .ok (.ldc 205, 2) := by decide +kernel
theorem dX10_largestCreditor_19 : decode cX10_largestCreditor 19 = .ok (.invokespecial 207, 3) := by decide +kernel
theorem dX10_largestCreditor_22 : decode cX10_largestCreditor 22 = .ok (.athrow, 1) := by decide +kernel
theorem dX10_largestCreditor_23 : decode cX10_largestCreditor 23 = .ok (.iload_n 1, 1) := by decide +kernel
theorem dX10_largestCreditor_24 : decode cX10_largestCreditor 24 = .ok (.bipush 8, 2) := by decide +kernel
theorem dX10_largestCreditor_26 : decode cX10_largestCreditor 26 = .ok (.irem, 1) := by decide +kernel
theorem dX10_largestCreditor_27 : decode cX10_largestCreditor 27 = .ok (.ireturn, 1) := by decide +kernel
set_option maxRecDepth 20000 in
theorem ggX10_triangles_X6_countTriangles : GoodIn wsX10_triangles wsX6_countTriangles := goodIn_ca (goodIn_r _ [7, 8, 9, 10, 6, 11, 12, 13, 14, 15, 16, 29, 30, 31, 32, 33, 34, 35, 36, 37, 38, 39, 40, 41, 42, 43] (by decide +kernel) (by decide +kernel)) (goodIn_sub (fun _ h => List.mem_cons_of_mem _ (List.mem_append_right _ h)) (by decide +kernel))
set_option maxRecDepth 20000 in
theorem gX10_triangles_X6_countTriangles : GoodIn wsX10_triangles (wsV RX10 210 RX6 yX6_countTriangles wsX6_countTriangles) := goodIn_app (goodIn_of _ (by decide +kernel)) ggX10_triangles_X6_countTriangles
theorem dX10_triangles_0 : decode cX10_triangles 0 = .ok (.aload_n 0, 1) := by decide +kernel
theorem dX10_triangles_1 : decode cX10_triangles 1 = .ok (.getfield 39, 3) := by decide +kernel
theorem dX10_triangles_4 : decode cX10_triangles 4 = .ok (.aload_n 0, 1) := by decide +kernel
theorem dX10_triangles_5 : decode cX10_triangles 5 = .ok (.getfield 10, 3) := by decide +kernel
theorem dX10_triangles_8 : decode cX10_triangles 8 = .ok (.invokevirtual 210, 3) := by decide +kernel
theorem dX10_triangles_11 : decode cX10_triangles 11 = .ok (.ireturn, 1) := by decide +kernel
set_option maxRecDepth 20000 in
theorem ggX10_reachCount_X9_onMember : GoodIn wsX10_reachCount wsX9_onMember := goodIn_r _ [6, 7, 8, 9, 10, 11, 12, 13, 14, 69, 70, 71, 72, 73, 74, 75, 76, 77, 78] (by decide +kernel) (by decide +kernel)
set_option maxRecDepth 20000 in
theorem gX10_reachCount_X9_onMember : GoodIn wsX10_reachCount (va_wsS RX10 156 yX9_onMember wsX9_onMember) := goodIn_app (goodIn_of _ (by decide +kernel)) ggX10_reachCount_X9_onMember
set_option maxRecDepth 20000 in
theorem ggX10_reachCount_X10_throwIfRefused : GoodIn wsX10_reachCount wsX10_throwIfRefused := goodIn_ca (goodIn_ca (goodIn_ca (goodIn_ca (goodIn_r _ [18, 19, 20, 21, 22, 23, 24, 25, 26, 27, 28, 29, 30] (by decide +kernel) (by decide +kernel)) (goodIn_sub (fun _ h => List.mem_cons_of_mem _ (List.mem_append_left _ (List.mem_append_left _ (List.mem_append_left _ (List.mem_append_left _ (List.mem_append_right _ h)))))) (by decide +kernel))) (goodIn_sub (fun _ h => List.mem_cons_of_mem _ (List.mem_append_left _ (List.mem_append_left _ (List.mem_append_left _ (List.mem_append_right _ h))))) (by decide +kernel))) (goodIn_sub (fun _ h => List.mem_cons_of_mem _ (List.mem_append_left _ (List.mem_append_left _ (List.mem_append_right _ h)))) (by decide +kernel))) (goodIn_sub (fun _ h => List.mem_cons_of_mem _ (List.mem_append_left _ (List.mem_append_right _ h))) (by decide +kernel))
set_option maxRecDepth 20000 in
theorem gX10_reachCount_X10_throwIfRefused : GoodIn wsX10_reachCount (va_wsS RX10 81 yX10_throwIfRefused wsX10_throwIfRefused) := goodIn_app (goodIn_of _ (by decide +kernel)) ggX10_reachCount_X10_throwIfRefused
set_option maxRecDepth 20000 in
theorem ggX10_reachCount_X6_countReached : GoodIn wsX10_reachCount wsX6_countReached := goodIn_ca (goodIn_r _ [35, 36, 37, 38, 34, 39, 40, 41, 42, 43, 44, 45, 46, 47, 48, 49, 50, 51, 52, 53, 54, 55, 56, 79, 80, 81, 82, 83, 69, 70, 71, 72, 73, 74, 75, 76, 77, 78] (by decide +kernel) (by decide +kernel)) (goodIn_sub (fun _ h => List.mem_cons_of_mem _ (List.mem_append_right _ h)) (by decide +kernel))
set_option maxRecDepth 20000 in
theorem gX10_reachCount_X6_countReached : GoodIn wsX10_reachCount (wsV RX10 216 RX6 yX6_countReached wsX6_countReached) := goodIn_app (goodIn_of _ (by decide +kernel)) ggX10_reachCount_X6_countReached
theorem dX10_reachCount_0 : decode cX10_reachCount 0 = .ok (.aload_n 0, 1) := by decide +kernel
theorem dX10_reachCount_1 : decode cX10_reachCount 1 = .ok (.getfield 10, 3) := by decide +kernel
theorem dX10_reachCount_4 : decode cX10_reachCount 4 = .ok (.iload_n 1, 1) := by decide +kernel
theorem dX10_reachCount_5 : decode cX10_reachCount 5 = .ok (.invokestatic 156, 3) := by decide +kernel
theorem dX10_reachCount_8 : decode cX10_reachCount 8 = .ok (.invokestatic 81, 3) := by decide +kernel
theorem dX10_reachCount_11 : decode cX10_reachCount 11 = .ok (.aload_n 0, 1) := by decide +kernel
theorem dX10_reachCount_12 : decode cX10_reachCount 12 = .ok (.getfield 39, 3) := by decide +kernel
theorem dX10_reachCount_15 : decode cX10_reachCount 15 = .ok (.aload_n 0, 1) := by decide +kernel
theorem dX10_reachCount_16 : decode cX10_reachCount 16 = .ok (.getfield 10, 3) := by decide +kernel
theorem dX10_reachCount_19 : decode cX10_reachCount 19 = .ok (.iload_n 1, 1) := by decide +kernel
theorem dX10_reachCount_20 : decode cX10_reachCount 20 = .ok (.invokevirtual 216, 3) := by decide +kernel
theorem dX10_reachCount_23 : decode cX10_reachCount 23 = .ok (.ireturn, 1) := by decide +kernel
set_option maxRecDepth 20000 in
theorem ggX10_reachCountByRounds_X9_onMember : GoodIn wsX10_reachCountByRounds wsX9_onMember := goodIn_r _ [6, 7, 8, 9, 10, 11, 12, 13, 14, 73, 74, 75, 76, 77, 78, 79, 80, 81, 82] (by decide +kernel) (by decide +kernel)
set_option maxRecDepth 20000 in
theorem gX10_reachCountByRounds_X9_onMember : GoodIn wsX10_reachCountByRounds (va_wsS RX10 156 yX9_onMember wsX9_onMember) := goodIn_app (goodIn_of _ (by decide +kernel)) ggX10_reachCountByRounds_X9_onMember
set_option maxRecDepth 20000 in
theorem ggX10_reachCountByRounds_X10_throwIfRefused : GoodIn wsX10_reachCountByRounds wsX10_throwIfRefused := goodIn_ca (goodIn_ca (goodIn_ca (goodIn_ca (goodIn_r _ [18, 19, 20, 21, 22, 23, 24, 25, 26, 27, 28, 29, 30] (by decide +kernel) (by decide +kernel)) (goodIn_sub (fun _ h => List.mem_cons_of_mem _ (List.mem_append_left _ (List.mem_append_left _ (List.mem_append_left _ (List.mem_append_left _ (List.mem_append_right _ h)))))) (by decide +kernel))) (goodIn_sub (fun _ h => List.mem_cons_of_mem _ (List.mem_append_left _ (List.mem_append_left _ (List.mem_append_left _ (List.mem_append_right _ h))))) (by decide +kernel))) (goodIn_sub (fun _ h => List.mem_cons_of_mem _ (List.mem_append_left _ (List.mem_append_left _ (List.mem_append_right _ h)))) (by decide +kernel))) (goodIn_sub (fun _ h => List.mem_cons_of_mem _ (List.mem_append_left _ (List.mem_append_right _ h))) (by decide +kernel))
set_option maxRecDepth 20000 in
theorem gX10_reachCountByRounds_X10_throwIfRefused : GoodIn wsX10_reachCountByRounds (va_wsS RX10 81 yX10_throwIfRefused wsX10_throwIfRefused) := goodIn_app (goodIn_of _ (by decide +kernel)) ggX10_reachCountByRounds_X10_throwIfRefused
set_option maxRecDepth 20000 in
theorem ggX10_reachCountByRounds_X6_countReachedByRounds : GoodIn wsX10_reachCountByRounds wsX6_countReachedByRounds := goodIn_ca (goodIn_r _ [35, 36, 37, 38, 39, 34, 40, 41, 42, 43, 44, 45, 46, 47, 48, 49, 50, 51, 52, 53, 54, 55, 56, 57, 58, 59, 60, 83, 84, 85, 86, 87, 73, 74, 75, 76, 77, 78, 79, 80, 81, 82] (by decide +kernel) (by decide +kernel)) (goodIn_sub (fun _ h => List.mem_cons_of_mem _ (List.mem_append_right _ h)) (by decide +kernel))
set_option maxRecDepth 20000 in
theorem gX10_reachCountByRounds_X6_countReachedByRounds : GoodIn wsX10_reachCountByRounds (wsV RX10 219 RX6 yX6_countReachedByRounds wsX6_countReachedByRounds) := goodIn_app (goodIn_of _ (by decide +kernel)) ggX10_reachCountByRounds_X6_countReachedByRounds
theorem dX10_reachCountByRounds_0 : decode cX10_reachCountByRounds 0 = .ok (.aload_n 0, 1) := by decide +kernel
theorem dX10_reachCountByRounds_1 : decode cX10_reachCountByRounds 1 = .ok (.getfield 10, 3) := by decide +kernel
theorem dX10_reachCountByRounds_4 : decode cX10_reachCountByRounds 4 = .ok (.iload_n 1, 1) := by decide +kernel
theorem dX10_reachCountByRounds_5 : decode cX10_reachCountByRounds 5 = .ok (.invokestatic 156, 3) := by decide +kernel
theorem dX10_reachCountByRounds_8 : decode cX10_reachCountByRounds 8 = .ok (.invokestatic 81, 3) := by decide +kernel
theorem dX10_reachCountByRounds_11 : decode cX10_reachCountByRounds 11 = .ok (.aload_n 0, 1) := by decide +kernel
theorem dX10_reachCountByRounds_12 : decode cX10_reachCountByRounds 12 = .ok (.getfield 39, 3) := by decide +kernel
theorem dX10_reachCountByRounds_15 : decode cX10_reachCountByRounds 15 = .ok (.aload_n 0, 1) := by decide +kernel
theorem dX10_reachCountByRounds_16 : decode cX10_reachCountByRounds 16 = .ok (.getfield 10, 3) := by decide +kernel
theorem dX10_reachCountByRounds_19 : decode cX10_reachCountByRounds 19 = .ok (.iload_n 1, 1) := by decide +kernel
theorem dX10_reachCountByRounds_20 : decode cX10_reachCountByRounds 20 = .ok (.invokevirtual 219, 3) := by decide +kernel
theorem dX10_reachCountByRounds_23 : decode cX10_reachCountByRounds 23 = .ok (.ireturn, 1) := by decide +kernel
set_option maxRecDepth 20000 in
theorem ggX10_reaches_X9_onPair : GoodIn wsX10_reaches wsX9_onPair := goodIn_r _ [6, 7, 8, 9, 10, 11, 12, 13, 14, 15, 63, 64, 65, 66, 67, 68, 69, 70, 71, 72] (by decide +kernel) (by decide +kernel)
set_option maxRecDepth 20000 in
theorem gX10_reaches_X9_onPair : GoodIn wsX10_reaches (va_wsS RX10 107 yX9_onPair wsX9_onPair) := goodIn_app (goodIn_of _ (by decide +kernel)) ggX10_reaches_X9_onPair
set_option maxRecDepth 20000 in
theorem ggX10_reaches_X10_throwIfRefused : GoodIn wsX10_reaches wsX10_throwIfRefused := goodIn_ca (goodIn_ca (goodIn_ca (goodIn_ca (goodIn_r _ [19, 20, 21, 22, 23, 24, 25, 26, 27, 28, 29, 30, 31] (by decide +kernel) (by decide +kernel)) (goodIn_sub (fun _ h => List.mem_cons_of_mem _ (List.mem_append_left _ (List.mem_append_left _ (List.mem_append_left _ (List.mem_append_left _ (List.mem_append_right _ h)))))) (by decide +kernel))) (goodIn_sub (fun _ h => List.mem_cons_of_mem _ (List.mem_append_left _ (List.mem_append_left _ (List.mem_append_left _ (List.mem_append_right _ h))))) (by decide +kernel))) (goodIn_sub (fun _ h => List.mem_cons_of_mem _ (List.mem_append_left _ (List.mem_append_left _ (List.mem_append_right _ h)))) (by decide +kernel))) (goodIn_sub (fun _ h => List.mem_cons_of_mem _ (List.mem_append_left _ (List.mem_append_right _ h))) (by decide +kernel))
set_option maxRecDepth 20000 in
theorem gX10_reaches_X10_throwIfRefused : GoodIn wsX10_reaches (va_wsS RX10 81 yX10_throwIfRefused wsX10_throwIfRefused) := goodIn_app (goodIn_of _ (by decide +kernel)) ggX10_reaches_X10_throwIfRefused
set_option maxRecDepth 20000 in
theorem ggX10_reaches_X6_isReached : GoodIn wsX10_reaches wsX6_isReached := goodIn_ca (goodIn_r _ [36, 37, 38, 39, 35, 40, 41, 42, 43, 44, 45, 46, 47, 48, 49, 50, 73, 74, 75, 76, 77, 63, 64, 65, 66, 67, 68, 69, 70, 71, 72] (by decide +kernel) (by decide +kernel)) (goodIn_sub (fun _ h => List.mem_cons_of_mem _ (List.mem_append_right _ h)) (by decide +kernel))
set_option maxRecDepth 20000 in
theorem gX10_reaches_X6_isReached : GoodIn wsX10_reaches (wsV RX10 222 RX6 yX6_isReached wsX6_isReached) := goodIn_app (goodIn_of _ (by decide +kernel)) ggX10_reaches_X6_isReached
theorem dX10_reaches_0 : decode cX10_reaches 0 = .ok (.aload_n 0, 1) := by decide +kernel
theorem dX10_reaches_1 : decode cX10_reaches 1 = .ok (.getfield 10, 3) := by decide +kernel
theorem dX10_reaches_4 : decode cX10_reaches 4 = .ok (.iload_n 1, 1) := by decide +kernel
theorem dX10_reaches_5 : decode cX10_reaches 5 = .ok (.iload_n 2, 1) := by decide +kernel
theorem dX10_reaches_6 : decode cX10_reaches 6 = .ok (.invokestatic 107, 3) := by decide +kernel
theorem dX10_reaches_9 : decode cX10_reaches 9 = .ok (.invokestatic 81, 3) := by decide +kernel
theorem dX10_reaches_12 : decode cX10_reaches 12 = .ok (.aload_n 0, 1) := by decide +kernel
theorem dX10_reaches_13 : decode cX10_reaches 13 = .ok (.getfield 39, 3) := by decide +kernel
theorem dX10_reaches_16 : decode cX10_reaches 16 = .ok (.aload_n 0, 1) := by decide +kernel
theorem dX10_reaches_17 : decode cX10_reaches 17 = .ok (.getfield 10, 3) := by decide +kernel
theorem dX10_reaches_20 : decode cX10_reaches 20 = .ok (.iload_n 1, 1) := by decide +kernel
theorem dX10_reaches_21 : decode cX10_reaches 21 = .ok (.iload_n 2, 1) := by decide +kernel
theorem dX10_reaches_22 : decode cX10_reaches 22 = .ok (.invokevirtual 222, 3) := by decide +kernel
theorem dX10_reaches_25 : decode cX10_reaches 25 = .ok (.ireturn, 1) := by decide +kernel
set_option maxRecDepth 20000 in
theorem ggX10_lossIfDefault_X9_onDefault : GoodIn wsX10_lossIfDefault wsX9_onDefault := goodIn_ca (goodIn_r _ [5, 6, 7, 8, 9, 10, 11, 12, 13, 14, 15, 16, 17, 18, 19, 20, 21, 22, 23, 24, 25, 26, 27, 28, 29, 30, 31, 32, 33, 34, 35, 36, 37, 38, 68, 69, 70, 71, 72, 73, 74, 75, 76, 77] (by decide +kernel) (by decide +kernel)) (goodIn_sub (fun _ h => List.mem_cons_of_mem _ (List.mem_append_left _ (List.mem_append_left _ (List.mem_append_left _ (List.mem_append_left _ (List.mem_append_right _ h)))))) (by decide +kernel))
set_option maxRecDepth 20000 in
theorem gX10_lossIfDefault_X9_onDefault : GoodIn wsX10_lossIfDefault (va_wsS RX10 145 yX9_onDefault wsX9_onDefault) := goodIn_app (goodIn_of _ (by decide +kernel)) ggX10_lossIfDefault_X9_onDefault
set_option maxRecDepth 20000 in
theorem ggX10_lossIfDefault_X10_throwIfRefused : GoodIn wsX10_lossIfDefault wsX10_throwIfRefused := goodIn_ca (goodIn_ca (goodIn_ca (goodIn_ca (goodIn_r _ [42, 43, 44, 45, 46, 47, 48, 49, 50, 51, 52, 53, 54] (by decide +kernel) (by decide +kernel)) (goodIn_sub (fun _ h => List.mem_cons_of_mem _ (List.mem_append_left _ (List.mem_append_left _ (List.mem_append_left _ (List.mem_append_right _ h))))) (by decide +kernel))) (goodIn_sub (fun _ h => List.mem_cons_of_mem _ (List.mem_append_left _ (List.mem_append_left _ (List.mem_append_right _ h)))) (by decide +kernel))) (goodIn_sub (fun _ h => List.mem_cons_of_mem _ (List.mem_append_left _ (List.mem_append_right _ h))) (by decide +kernel))) (goodIn_sub (fun _ h => List.mem_cons_of_mem _ (List.mem_append_right _ h)) (by decide +kernel))
set_option maxRecDepth 20000 in
theorem gX10_lossIfDefault_X10_throwIfRefused : GoodIn wsX10_lossIfDefault (va_wsS RX10 81 yX10_throwIfRefused wsX10_throwIfRefused) := goodIn_app (goodIn_of _ (by decide +kernel)) ggX10_lossIfDefault_X10_throwIfRefused
set_option maxRecDepth 20000 in
theorem ggX10_lossIfDefault_X5_lossOf : GoodIn wsX10_lossIfDefault wsX5_lossOf := goodIn_ca (goodIn_r _ [18, 19, 20, 21, 12, 22, 23, 24, 25, 26, 27, 28, 29, 30, 31, 32, 33, 34, 35, 36, 37, 38, 68, 69, 70, 71, 72, 73, 74, 75, 76, 77] (by decide +kernel) (by decide +kernel)) (goodIn_sub (fun _ h => List.mem_cons_of_mem _ (List.mem_append_left _ (List.mem_append_left _ (List.mem_append_left _ (List.mem_append_left _ (List.mem_append_right _ h)))))) (by decide +kernel))
set_option maxRecDepth 20000 in
theorem gX10_lossIfDefault_X5_lossOf : GoodIn wsX10_lossIfDefault (wsV RX10 229 RX5 yX5_lossOf wsX5_lossOf) := goodIn_app (goodIn_of _ (by decide +kernel)) ggX10_lossIfDefault_X5_lossOf
theorem dX10_lossIfDefault_0 : decode cX10_lossIfDefault 0 = .ok (.aload_n 0, 1) := by decide +kernel
theorem dX10_lossIfDefault_1 : decode cX10_lossIfDefault 1 = .ok (.getfield 10, 3) := by decide +kernel
theorem dX10_lossIfDefault_4 : decode cX10_lossIfDefault 4 = .ok (.iload_n 1, 1) := by decide +kernel
theorem dX10_lossIfDefault_5 : decode cX10_lossIfDefault 5 = .ok (.invokestatic 145, 3) := by decide +kernel
theorem dX10_lossIfDefault_8 : decode cX10_lossIfDefault 8 = .ok (.invokestatic 81, 3) := by decide +kernel
theorem dX10_lossIfDefault_11 : decode cX10_lossIfDefault 11 = .ok (.aload_n 0, 1) := by decide +kernel
theorem dX10_lossIfDefault_12 : decode cX10_lossIfDefault 12 = .ok (.getfield 10, 3) := by decide +kernel
theorem dX10_lossIfDefault_15 : decode cX10_lossIfDefault 15 = .ok (.iload_n 1, 1) := by decide +kernel
theorem dX10_lossIfDefault_16 : decode cX10_lossIfDefault 16 = .ok (.invokevirtual 229, 3) := by decide +kernel
theorem dX10_lossIfDefault_19 : decode cX10_lossIfDefault 19 = .ok (.ireturn, 1) := by decide +kernel
set_option maxRecDepth 20000 in
theorem ggX10_shareIfDefault_X9_onPair : GoodIn wsX10_shareIfDefault wsX9_onPair := goodIn_r _ [6, 7, 8, 9, 10, 11, 12, 13, 14, 15, 94, 95, 96, 97, 98, 99, 100, 101, 102, 103] (by decide +kernel) (by decide +kernel)
set_option maxRecDepth 20000 in
theorem gX10_shareIfDefault_X9_onPair : GoodIn wsX10_shareIfDefault (va_wsS RX10 107 yX9_onPair wsX9_onPair) := goodIn_app (goodIn_of _ (by decide +kernel)) ggX10_shareIfDefault_X9_onPair
set_option maxRecDepth 20000 in
theorem ggX10_shareIfDefault_X10_throwIfRefused : GoodIn wsX10_shareIfDefault wsX10_throwIfRefused := goodIn_ca (goodIn_ca (goodIn_ca (goodIn_ca (goodIn_r _ [19, 20, 21, 22, 23, 24, 25, 26, 27, 28, 29, 30, 31] (by decide +kernel) (by decide +kernel)) (goodIn_sub (fun _ h => List.mem_cons_of_mem _ (List.mem_append_left _ (List.mem_append_left _ (List.mem_append_left _ (List.mem_append_left _ (List.mem_append_left _ (List.mem_append_right _ h))))))) (by decide +kernel))) (goodIn_sub (fun _ h => List.mem_cons_of_mem _ (List.mem_append_left _ (List.mem_append_left _ (List.mem_append_left _ (List.mem_append_left _ (List.mem_append_right _ h)))))) (by decide +kernel))) (goodIn_sub (fun _ h => List.mem_cons_of_mem _ (List.mem_append_left _ (List.mem_append_left _ (List.mem_append_left _ (List.mem_append_right _ h))))) (by decide +kernel))) (goodIn_sub (fun _ h => List.mem_cons_of_mem _ (List.mem_append_left _ (List.mem_append_left _ (List.mem_append_right _ h)))) (by decide +kernel))
set_option maxRecDepth 20000 in
theorem gX10_shareIfDefault_X10_throwIfRefused : GoodIn wsX10_shareIfDefault (va_wsS RX10 81 yX10_throwIfRefused wsX10_throwIfRefused) := goodIn_app (goodIn_of _ (by decide +kernel)) ggX10_shareIfDefault_X10_throwIfRefused
set_option maxRecDepth 20000 in
theorem ggX10_shareIfDefault_X9_onDefault : GoodIn wsX10_shareIfDefault wsX9_onDefault := goodIn_ca (goodIn_r _ [34, 7, 9, 35, 10, 11, 12, 13, 14, 15, 36, 37, 38, 39, 40, 41, 42, 43, 44, 45, 46, 47, 48, 49, 50, 51, 52, 53, 54, 55, 56, 57, 58, 59, 94, 95, 96, 97, 98, 99, 100, 101, 102, 103] (by decide +kernel) (by decide +kernel)) (goodIn_sub (fun _ h => List.mem_cons_of_mem _ (List.mem_append_left _ (List.mem_append_right _ h))) (by decide +kernel))
set_option maxRecDepth 20000 in
theorem gX10_shareIfDefault_X9_onDefault : GoodIn wsX10_shareIfDefault (va_wsS RX10 145 yX9_onDefault wsX9_onDefault) := goodIn_app (goodIn_of _ (by decide +kernel)) ggX10_shareIfDefault_X9_onDefault
set_option maxRecDepth 20000 in
theorem ggX10_shareIfDefault_X7_shareOf : GoodIn wsX10_shareIfDefault wsX7_shareOf := goodIn_ca (goodIn_ca (goodIn_r _ [64, 65, 66, 67, 68, 63, 69, 70, 71, 72, 73, 74, 75, 41, 42, 13, 43, 44, 45, 46, 47, 48, 76, 50, 51, 52, 53, 54, 55, 56, 57, 58, 59, 77, 78, 79, 80, 81, 104, 105, 94, 95, 96, 97, 98, 99, 100, 101, 102, 103] (by decide +kernel) (by decide +kernel)) (goodIn_sub (fun _ h => List.mem_cons_of_mem _ (List.mem_append_left _ (List.mem_append_right _ h))) (by decide +kernel))) (goodIn_sub (fun _ h => List.mem_cons_of_mem _ (List.mem_append_right _ h)) (by decide +kernel))
set_option maxRecDepth 20000 in
theorem gX10_shareIfDefault_X7_shareOf : GoodIn wsX10_shareIfDefault (wsV RX10 232 RX7 yX7_shareOf wsX7_shareOf) := goodIn_app (goodIn_of _ (by decide +kernel)) ggX10_shareIfDefault_X7_shareOf
theorem dX10_shareIfDefault_0 : decode cX10_shareIfDefault 0 = .ok (.aload_n 0, 1) := by decide +kernel
theorem dX10_shareIfDefault_1 : decode cX10_shareIfDefault 1 = .ok (.getfield 10, 3) := by decide +kernel
theorem dX10_shareIfDefault_4 : decode cX10_shareIfDefault 4 = .ok (.iload_n 1, 1) := by decide +kernel
theorem dX10_shareIfDefault_5 : decode cX10_shareIfDefault 5 = .ok (.iload_n 2, 1) := by decide +kernel
theorem dX10_shareIfDefault_6 : decode cX10_shareIfDefault 6 = .ok (.invokestatic 107, 3) := by decide +kernel
theorem dX10_shareIfDefault_9 : decode cX10_shareIfDefault 9 = .ok (.invokestatic 81, 3) := by decide +kernel
theorem dX10_shareIfDefault_12 : decode cX10_shareIfDefault 12 = .ok (.aload_n 0, 1) := by decide +kernel
theorem dX10_shareIfDefault_13 : decode cX10_shareIfDefault 13 = .ok (.getfield 10, 3) := by decide +kernel
theorem dX10_shareIfDefault_16 : decode cX10_shareIfDefault 16 = .ok (.iload_n 1, 1) := by decide +kernel
theorem dX10_shareIfDefault_17 : decode cX10_shareIfDefault 17 = .ok (.invokestatic 145, 3) := by decide +kernel
theorem dX10_shareIfDefault_20 : decode cX10_shareIfDefault 20 = .ok (.invokestatic 81, 3) := by decide +kernel
theorem dX10_shareIfDefault_23 : decode cX10_shareIfDefault 23 = .ok (.aload_n 0, 1) := by decide +kernel
theorem dX10_shareIfDefault_24 : decode cX10_shareIfDefault 24 = .ok (.getfield 32, 3) := by decide +kernel
theorem dX10_shareIfDefault_27 : decode cX10_shareIfDefault 27 = .ok (.aload_n 0, 1) := by decide +kernel
theorem dX10_shareIfDefault_28 : decode cX10_shareIfDefault 28 = .ok (.getfield 10, 3) := by decide +kernel
theorem dX10_shareIfDefault_31 : decode cX10_shareIfDefault 31 = .ok (.iload_n 1, 1) := by decide +kernel
theorem dX10_shareIfDefault_32 : decode cX10_shareIfDefault 32 = .ok (.iload_n 2, 1) := by decide +kernel
theorem dX10_shareIfDefault_33 : decode cX10_shareIfDefault 33 = .ok (.invokevirtual 232, 3) := by decide +kernel
theorem dX10_shareIfDefault_36 : decode cX10_shareIfDefault 36 = .ok (.ireturn, 1) := by decide +kernel
set_option maxRecDepth 20000 in
theorem ggX10_memberByPosition_X5_memberAtRank : GoodIn wsX10_memberByPosition wsX5_memberAtRank := goodIn_ca (goodIn_r _ [8, 9, 10, 11, 12, 7, 13, 14, 15, 16, 17, 18, 19, 20, 21, 22, 23, 24, 25, 26, 27, 28, 29, 30, 31, 32, 33, 34, 35, 36, 37, 38, 39, 52, 53, 54, 55, 56, 57, 58, 59, 60, 61] (by decide +kernel) (by decide +kernel)) (goodIn_sub (fun _ h => List.mem_cons_of_mem _ (List.mem_append_right _ h)) (by decide +kernel))
set_option maxRecDepth 20000 in
theorem gX10_memberByPosition_X5_memberAtRank : GoodIn wsX10_memberByPosition (wsV RX10 236 RX5 yX5_memberAtRank wsX5_memberAtRank) := goodIn_app (goodIn_of _ (by decide +kernel)) ggX10_memberByPosition_X5_memberAtRank
theorem dX10_memberByPosition_0 : decode cX10_memberByPosition 0 = .ok (.aload_n 0, 1) := by decide +kernel
theorem dX10_memberByPosition_1 : decode cX10_memberByPosition 1 = .ok (.getfield 10, 3) := by decide +kernel
theorem dX10_memberByPosition_4 : decode cX10_memberByPosition 4 = .ok (.iload_n 1, 1) := by decide +kernel
theorem dX10_memberByPosition_5 : decode cX10_memberByPosition 5 = .ok (.invokevirtual 236, 3) := by decide +kernel
theorem dX10_memberByPosition_8 : decode cX10_memberByPosition 8 = .ok (.istore_n 2, 1) := by decide +kernel
theorem dX10_memberByPosition_9 : decode cX10_memberByPosition 9 = .ok (.iload_n 2, 1) := by decide +kernel
theorem dX10_memberByPosition_10 : decode cX10_memberByPosition 10 = .ok (.iconst (-1), 1) := by decide +kernel
theorem dX10_memberByPosition_11 : decode cX10_memberByPosition 11 = .ok (.if_icmp .ne 13, 3) := by decide +kernel
theorem dX10_memberByPosition_14 : decode cX10_memberByPosition 14 = .ok (.new 203, 3) := by decide +kernel
theorem dX10_memberByPosition_17 : decode cX10_memberByPosition 17 = .ok (.dup, 1) := by decide +kernel
theorem dX10_memberByPosition_18 : decode cX10_memberByPosition 18 = .ok (.ldc 239, 2) := by decide +kernel
theorem dX10_memberByPosition_20 : decode cX10_memberByPosition 20 = .ok (.invokespecial 207, 3) := by decide +kernel
theorem dX10_memberByPosition_23 : decode cX10_memberByPosition 23 = .ok (.athrow, 1) := by decide +kernel
theorem dX10_memberByPosition_24 : decode cX10_memberByPosition 24 = .ok (.iload_n 2, 1) := by decide +kernel
theorem dX10_memberByPosition_25 : decode cX10_memberByPosition 25 = .ok (.ireturn, 1) := by decide +kernel
theorem dX10_nettedAmount_0 : decode cX10_nettedAmount 0 = .ok (.aload_n 0, 1) := by decide +kernel
theorem dX10_nettedAmount_1 : decode cX10_nettedAmount 1 = .ok (.getfield 10, 3) := by decide +kernel
theorem dX10_nettedAmount_4 : decode cX10_nettedAmount 4 = .ok (.getfield 241, 3) := by decide +kernel
theorem dX10_nettedAmount_7 : decode cX10_nettedAmount 7 = .ok (.ireturn, 1) := by decide +kernel
theorem dX10_lostAmount_0 : decode cX10_lostAmount 0 = .ok (.aload_n 0, 1) := by decide +kernel
theorem dX10_lostAmount_1 : decode cX10_lostAmount 1 = .ok (.getfield 10, 3) := by decide +kernel
theorem dX10_lostAmount_4 : decode cX10_lostAmount 4 = .ok (.getfield 244, 3) := by decide +kernel
theorem dX10_lostAmount_7 : decode cX10_lostAmount 7 = .ok (.ireturn, 1) := by decide +kernel
set_option maxRecDepth 20000 in
theorem ggX10_meanPosition_X5_sumOfAbsolutePositions : GoodIn wsX10_meanPosition wsX5_sumOfAbsolutePositions := goodIn_ca (goodIn_r _ [8, 9, 10, 11, 12, 13, 14, 15, 16, 7, 17, 18, 19, 20, 21, 22, 23, 24, 25, 26, 27, 28, 29, 30, 43, 44, 45, 46, 47, 48, 49, 50, 51, 52] (by decide +kernel) (by decide +kernel)) (goodIn_sub (fun _ h => List.mem_cons_of_mem _ (List.mem_append_right _ h)) (by decide +kernel))
set_option maxRecDepth 20000 in
theorem gX10_meanPosition_X5_sumOfAbsolutePositions : GoodIn wsX10_meanPosition (wsV RX10 252 RX5 yX5_sumOfAbsolutePositions wsX5_sumOfAbsolutePositions) := goodIn_app (goodIn_of _ (by decide +kernel)) ggX10_meanPosition_X5_sumOfAbsolutePositions
theorem dX10_meanPosition_0 : decode cX10_meanPosition 0 = .ok (.aload_n 0, 1) := by decide +kernel
theorem dX10_meanPosition_1 : decode cX10_meanPosition 1 = .ok (.getfield 10, 3) := by decide +kernel
theorem dX10_meanPosition_4 : decode cX10_meanPosition 4 = .ok (.getfield 153, 3) := by decide +kernel
theorem dX10_meanPosition_7 : decode cX10_meanPosition 7 = .ok (.ifCond .ne 13, 3) := by decide +kernel
theorem dX10_meanPosition_10 : decode cX10_meanPosition 10 = .ok (.new 247, 3) := by decide +kernel
theorem dX10_meanPosition_13 : decode cX10_meanPosition 13 = .ok (.dup, 1) := by decide +kernel
theorem dX10_meanPosition_14 : decode cX10_meanPosition 14 = .ok (.ldc 249, 2) := by decide +kernel
theorem dX10_meanPosition_16 : decode cX10_meanPosition 16 = .ok (.invokespecial 251, 3) := by decide +kernel
theorem dX10_meanPosition_19 : decode cX10_meanPosition 19 = .ok (.athrow, 1) := by decide +kernel
theorem dX10_meanPosition_20 : decode cX10_meanPosition 20 = .ok (.aload_n 0, 1) := by decide +kernel
theorem dX10_meanPosition_21 : decode cX10_meanPosition 21 = .ok (.getfield 10, 3) := by decide +kernel
theorem dX10_meanPosition_24 : decode cX10_meanPosition 24 = .ok (.invokevirtual 252, 3) := by decide +kernel
theorem dX10_meanPosition_27 : decode cX10_meanPosition 27 = .ok (.i2d, 1) := by decide +kernel
theorem dX10_meanPosition_28 : decode cX10_meanPosition 28 = .ok (.aload_n 0, 1) := by decide +kernel
theorem dX10_meanPosition_29 : decode cX10_meanPosition 29 = .ok (.getfield 10, 3) := by decide +kernel
theorem dX10_meanPosition_32 : decode cX10_meanPosition 32 = .ok (.getfield 153, 3) := by decide +kernel
theorem dX10_meanPosition_35 : decode cX10_meanPosition 35 = .ok (.i2d, 1) := by decide +kernel
theorem dX10_meanPosition_36 : decode cX10_meanPosition 36 = .ok (.ddiv, 1) := by decide +kernel
theorem dX10_meanPosition_37 : decode cX10_meanPosition 37 = .ok (.dreturn, 1) := by decide +kernel
set_option maxRecDepth 20000 in
theorem ggX10_debtShare_X5_countDebts : GoodIn wsX10_debtShare wsX5_countDebts := goodIn_ca (goodIn_r _ [8, 9, 22, 23, 24, 25, 26, 27, 28, 29, 30, 31] (by decide +kernel) (by decide +kernel)) (goodIn_sub (fun _ h => List.mem_cons_of_mem _ (List.mem_append_right _ h)) (by decide +kernel))
set_option maxRecDepth 20000 in
theorem gX10_debtShare_X5_countDebts : GoodIn wsX10_debtShare (wsV RX10 182 RX5 yX5_countDebts wsX5_countDebts) := goodIn_app (goodIn_of _ (by decide +kernel)) ggX10_debtShare_X5_countDebts
theorem dX10_debtShare_0 : decode cX10_debtShare 0 = .ok (.aload_n 0, 1) := by decide +kernel
theorem dX10_debtShare_1 : decode cX10_debtShare 1 = .ok (.getfield 10, 3) := by decide +kernel
theorem dX10_debtShare_4 : decode cX10_debtShare 4 = .ok (.getfield 153, 3) := by decide +kernel
theorem dX10_debtShare_7 : decode cX10_debtShare 7 = .ok (.istore_n 1, 1) := by decide +kernel
theorem dX10_debtShare_8 : decode cX10_debtShare 8 = .ok (.iload_n 1, 1) := by decide +kernel
theorem dX10_debtShare_9 : decode cX10_debtShare 9 = .ok (.iconst 2, 1) := by decide +kernel
theorem dX10_debtShare_10 : decode cX10_debtShare 10 = .ok (.if_icmp .ge 13, 3) := by decide +kernel
theorem dX10_debtShare_13 : decode cX10_debtShare 13 = .ok (.new 247, 3) := by decide +kernel
theorem dX10_debtShare_16 : decode cX10_debtShare 16 = .ok (.dup, 1) := by decide +kernel
theorem dX10_debtShare_17 : decode cX10_debtShare 17 = .ok (.ldc 255, 2) := by decide +kernel
theorem dX10_debtShare_19 : decode cX10_debtShare 19 = .ok (.invokespecial 251, 3) := by decide +kernel
theorem dX10_debtShare_22 : decode cX10_debtShare 22 = .ok (.athrow, 1) := by decide +kernel
theorem dX10_debtShare_23 : decode cX10_debtShare 23 = .ok (.aload_n 0, 1) := by decide +kernel
theorem dX10_debtShare_24 : decode cX10_debtShare 24 = .ok (.getfield 10, 3) := by decide +kernel
theorem dX10_debtShare_27 : decode cX10_debtShare 27 = .ok (.invokevirtual 182, 3) := by decide +kernel
theorem dX10_debtShare_30 : decode cX10_debtShare 30 = .ok (.i2f, 1) := by decide +kernel
theorem dX10_debtShare_31 : decode cX10_debtShare 31 = .ok (.iload_n 1, 1) := by decide +kernel
theorem dX10_debtShare_32 : decode cX10_debtShare 32 = .ok (.iload_n 1, 1) := by decide +kernel
theorem dX10_debtShare_33 : decode cX10_debtShare 33 = .ok (.iconst 1, 1) := by decide +kernel
theorem dX10_debtShare_34 : decode cX10_debtShare 34 = .ok (.isub, 1) := by decide +kernel
theorem dX10_debtShare_35 : decode cX10_debtShare 35 = .ok (.imul, 1) := by decide +kernel
theorem dX10_debtShare_36 : decode cX10_debtShare 36 = .ok (.i2f, 1) := by decide +kernel
theorem dX10_debtShare_37 : decode cX10_debtShare 37 = .ok (.fdiv, 1) := by decide +kernel
theorem dX10_debtShare_38 : decode cX10_debtShare 38 = .ok (.freturn, 1) := by decide +kernel
set_option maxRecDepth 20000 in
theorem ggX10_feed_X3_isFull : GoodIn wsX10_feed wsX3_isFull := goodIn_r _ [8, 9, 27, 28, 29, 30, 31, 32, 33] (by decide +kernel) (by decide +kernel)
set_option maxRecDepth 20000 in
theorem gX10_feed_X3_isFull : GoodIn wsX10_feed (wsV RX10 265 RX3 yX3_isFull wsX3_isFull) := goodIn_app (goodIn_of _ (by decide +kernel)) ggX10_feed_X3_isFull
set_option maxRecDepth 20000 in
theorem ggX10_feed_X3_append : GoodIn wsX10_feed wsX3_append := goodIn_ca (goodIn_r _ [13, 14, 9, 27, 28, 29, 30, 31, 32, 33] (by decide +kernel) (by decide +kernel)) (goodIn_sub (fun _ h => List.mem_cons_of_mem _ (List.mem_append_right _ h)) (by decide +kernel))
set_option maxRecDepth 20000 in
theorem gX10_feed_X3_append : GoodIn wsX10_feed (wsV RX10 273 RX3 yX3_append wsX3_append) := goodIn_app (goodIn_of _ (by decide +kernel)) ggX10_feed_X3_append
theorem dX10_feed_0 : decode cX10_feed 0 = .ok (.aload_n 0, 1) := by decide +kernel
theorem dX10_feed_1 : decode cX10_feed 1 = .ok (.getfield 53, 3) := by decide +kernel
theorem dX10_feed_4 : decode cX10_feed 4 = .ok (.invokevirtual 265, 3) := by decide +kernel
theorem dX10_feed_7 : decode cX10_feed 7 = .ok (.ifCond .eq 14, 3) := by decide +kernel
theorem dX10_feed_10 : decode cX10_feed 10 = .ok (.new 268, 3) := by decide +kernel
theorem dX10_feed_13 : decode cX10_feed 13 = .ok (.dup, 1) := by decide +kernel
theorem dX10_feed_14 : decode cX10_feed 14 = .ok (.ldc_w 270, 3) := by decide +kernel
theorem dX10_feed_17 : decode cX10_feed 17 = .ok (.invokespecial 272, 3) := by decide +kernel
theorem dX10_feed_20 : decode cX10_feed 20 = .ok (.athrow, 1) := by decide +kernel
theorem dX10_feed_21 : decode cX10_feed 21 = .ok (.aload_n 0, 1) := by decide +kernel
theorem dX10_feed_22 : decode cX10_feed 22 = .ok (.getfield 53, 3) := by decide +kernel
theorem dX10_feed_25 : decode cX10_feed 25 = .ok (.iload_n 1, 1) := by decide +kernel
theorem dX10_feed_26 : decode cX10_feed 26 = .ok (.invokevirtual 273, 3) := by decide +kernel
theorem dX10_feed_29 : decode cX10_feed 29 = .ok (.ireturn, 1) := by decide +kernel
set_option maxRecDepth 20000 in
theorem ggX10_runCommands_X3_findError : GoodIn wsX10_runCommands wsX3_findError := goodIn_ca (goodIn_r _ [15, 16, 17, 18, 19, 20, 21, 14, 22, 23, 24, 25, 26, 27, 28, 29, 30, 31, 32, 33, 34, 35, 36, 37, 38, 39, 40, 41, 42, 43, 44, 45, 46, 47, 48, 49, 50, 51, 52, 53, 54, 55, 56, 57, 58, 59, 60, 61, 62, 63, 64, 65, 66, 67, 68, 69, 70, 71, 72, 73, 74, 75, 76, 77, 78, 79, 80, 81, 82, 83, 84, 85, 86, 87, 88, 89, 90, 91, 92, 93, 94, 95, 96, 314, 315, 316, 317, 318, 319, 320, 321, 322, 323, 324] (by decide +kernel) (by decide +kernel)) (goodIn_sub (fun _ h => List.mem_cons_of_mem _ (List.mem_append_left _ (List.mem_append_right _ h))) (by decide +kernel))
set_option maxRecDepth 20000 in
theorem gX10_runCommands_X3_findError : GoodIn wsX10_runCommands (wsV RX10 277 RX3 yX3_findError wsX3_findError) := goodIn_app (goodIn_of _ (by decide +kernel)) ggX10_runCommands_X3_findError
set_option maxRecDepth 20000 in
theorem ggX10_runCommands_X3_empty : GoodIn wsX10_runCommands wsX3_empty := goodIn_r _ [100, 18, 314, 315, 316, 317, 318, 319, 320] (by decide +kernel) (by decide +kernel)
set_option maxRecDepth 20000 in
theorem gX10_runCommands_X3_empty : GoodIn wsX10_runCommands (wsV RX10 280 RX3 yX3_empty wsX3_empty) := goodIn_app (goodIn_of _ (by decide +kernel)) ggX10_runCommands_X3_empty
set_option maxRecDepth 20000 in
theorem ggX10_runCommands_X5_copyFrom : GoodIn wsX10_runCommands wsX5_copyFrom := goodIn_ca (goodIn_r _ [105, 106, 107, 108, 109, 110, 111, 112, 113, 114, 115, 116, 117, 118, 119, 325, 326, 327, 328, 329, 330, 331, 332, 333, 334] (by decide +kernel) (by decide +kernel)) (goodIn_sub (fun _ h => List.mem_cons_of_mem _ (List.mem_append_left _ (List.mem_append_right _ h))) (by decide +kernel))
set_option maxRecDepth 20000 in
theorem gX10_runCommands_X5_copyFrom : GoodIn wsX10_runCommands (wsV RX10 288 RX5 yX5_copyFrom wsX5_copyFrom) := goodIn_app (goodIn_of _ (by decide +kernel)) ggX10_runCommands_X5_copyFrom
set_option maxRecDepth 20000 in
theorem ggX10_runCommands_X10_carryOutUntilRefusal : GoodIn wsX10_runCommands wsX10_carryOutUntilRefusal := goodIn_ca (goodIn_ca (goodIn_r _ [124, 5, 125, 126, 20, 21, 14, 22, 17, 23, 24, 25, 26, 27, 28, 29, 30, 31, 32, 33, 34, 35, 36, 37, 38, 39, 40, 41, 42, 43, 44, 45, 46, 47, 48, 49, 50, 51, 52, 53, 54, 55, 56, 57, 58, 59, 60, 61, 62, 63, 64, 65, 66, 67, 68, 69, 70, 71, 72, 73, 74, 75, 76, 77, 78, 79, 80, 81, 82, 83, 84, 85, 86, 18, 87, 88, 89, 90, 91, 92, 93, 94, 95, 96, 127, 128, 129, 123, 130, 131, 8, 132, 133, 134, 135, 136, 137, 138, 139, 140, 141, 142, 143, 144, 145, 146, 147, 148, 149, 150, 151, 152, 153, 154, 155, 156, 157, 158, 159, 160, 161, 162, 163, 104, 164, 116, 165, 166, 167, 168, 169, 170, 171, 172, 173, 174, 175, 106, 176, 177, 178, 179, 180, 181, 182, 183, 184, 185, 186, 187, 188, 189, 190, 191, 192, 193, 194, 195, 196, 197, 198, 111, 199, 200, 201, 202, 112, 117, 203, 204, 205, 206, 207, 208, 209, 210, 211, 212, 113, 213, 214, 215, 216, 114, 217, 218, 219, 220, 221, 222, 223, 224, 225, 226, 227, 228, 118, 229, 230, 231, 232, 233, 234, 235, 236, 237, 238, 239, 240, 241, 242, 243, 244, 245, 246, 247, 248, 249, 250, 251, 252, 253, 254, 255, 256, 257, 258, 259, 260, 261, 262, 263, 264, 265, 266, 267, 268, 269, 270, 271, 272, 273, 274, 275, 276, 277, 278, 279, 280, 281, 282, 283, 284, 285, 286, 287, 288, 289, 290, 291, 302, 303, 304, 305, 306, 307, 308, 309, 310, 311, 312, 313, 314, 315, 316, 317, 318, 319, 320, 321, 322, 323, 324, 325, 326, 327, 328, 329, 330, 331, 332, 333, 334, 335, 336, 337, 338, 339, 340] (by decide +kernel) (by decide +kernel)) (goodIn_sub (fun _ h => List.mem_cons_of_mem _ (List.mem_append_left _ (List.mem_append_right _ h))) (by decide +kernel))) (goodIn_sub (fun _ h => List.mem_cons_of_mem _ (List.mem_append_right _ h)) (by decide +kernel))
set_option maxRecDepth 20000 in
theorem gX10_runCommands_X10_carryOutUntilRefusal : GoodIn wsX10_runCommands (wsV RX10 291 RX10 yX10_carryOutUntilRefusal wsX10_carryOutUntilRefusal) := goodIn_app (goodIn_of _ (by decide +kernel)) ggX10_runCommands_X10_carryOutUntilRefusal
set_option maxRecDepth 20000 in
theorem ggX10_runCommands_X4_keep : GoodIn wsX10_runCommands wsX4_keep := goodIn_ca (goodIn_r _ [296, 297, 298, 299, 300, 227, 27, 228, 301, 102, 103, 104, 105, 106, 107, 108, 109, 110, 111, 112, 113, 114, 115, 116, 117, 118, 119, 341, 342, 343, 325, 326, 327, 328, 329, 330, 331, 332, 333, 334] (by decide +kernel) (by decide +kernel)) (goodIn_sub (fun _ h => List.mem_cons_of_mem _ (List.mem_append_left _ (List.mem_append_right _ h))) (by decide +kernel))
set_option maxRecDepth 20000 in
theorem gX10_runCommands_X4_keep : GoodIn wsX10_runCommands (wsV RX10 85 RX4 yX4_keep wsX4_keep) := goodIn_app (goodIn_of _ (by decide +kernel)) ggX10_runCommands_X4_keep
theorem dX10_runCommands_0 : decode cX10_runCommands 0 = .ok (.aload_n 0, 1) := by decide +kernel
theorem dX10_runCommands_1 : decode cX10_runCommands 1 = .ok (.getfield 53, 3) := by decide +kernel
theorem dX10_runCommands_4 : decode cX10_runCommands 4 = .ok (.invokevirtual 277, 3) := by decide +kernel
theorem dX10_runCommands_7 : decode cX10_runCommands 7 = .ok (.istore_n 1, 1) := by decide +kernel
theorem dX10_runCommands_8 : decode cX10_runCommands 8 = .ok (.iload_n 1, 1) := by decide +kernel
theorem dX10_runCommands_9 : decode cX10_runCommands 9 = .ok (.iconst (-1), 1) := by decide +kernel
theorem dX10_runCommands_10 : decode cX10_runCommands 10 = .ok (.if_icmp .eq 26, 3) := by decide +kernel
theorem dX10_runCommands_13 : decode cX10_runCommands 13 = .ok (.aload_n 0, 1) := by decide +kernel
theorem dX10_runCommands_14 : decode cX10_runCommands 14 = .ok (.iload_n 1, 1) := by decide +kernel
theorem dX10_runCommands_15 : decode cX10_runCommands 15 = .ok (.putfield 68, 3) := by decide +kernel
theorem dX10_runCommands_18 : decode cX10_runCommands 18 = .ok (.aload_n 0, 1) := by decide +kernel
theorem dX10_runCommands_19 : decode cX10_runCommands 19 = .ok (.getfield 53, 3) := by decide +kernel
theorem dX10_runCommands_22 : decode cX10_runCommands 22 = .ok (.invokevirtual 280, 3) := by decide +kernel
theorem dX10_runCommands_25 : decode cX10_runCommands 25 = .ok (.new 283, 3) := by decide +kernel
theorem dX10_runCommands_28 : decode cX10_runCommands 28 = .ok (.dup, 1) := by decide +kernel
theorem dX10_runCommands_29 : decode cX10_runCommands 29 = .ok (.ldc_w 285, 3) := by decide +kernel
theorem dX10_runCommands_32 : decode cX10_runCommands 32 = .ok (.invokespecial 287, 3) := by decide +kernel
theorem dX10_runCommands_35 : decode cX10_runCommands 35 = .ok (.athrow, 1) := by decide +kernel
theorem dX10_runCommands_36 : decode cX10_runCommands 36 = .ok (.aload_n 0, 1) := by decide +kernel
theorem dX10_runCommands_37 : decode cX10_runCommands 37 = .ok (.getfield 16, 3) := by decide +kernel
theorem dX10_runCommands_40 : decode cX10_runCommands 40 = .ok (.aload_n 0, 1) := by decide +kernel
theorem dX10_runCommands_41 : decode cX10_runCommands 41 = .ok (.getfield 10, 3) := by decide +kernel
theorem dX10_runCommands_44 : decode cX10_runCommands 44 = .ok (.invokevirtual 288, 3) := by decide +kernel
theorem dX10_runCommands_47 : decode cX10_runCommands 47 = .ok (.aload_n 0, 1) := by decide +kernel
theorem dX10_runCommands_48 : decode cX10_runCommands 48 = .ok (.invokevirtual 291, 3) := by decide +kernel
theorem dX10_runCommands_51 : decode cX10_runCommands 51 = .ok (.istore_n 2, 1) := by decide +kernel
theorem dX10_runCommands_52 : decode cX10_runCommands 52 = .ok (.aload_n 0, 1) := by decide +kernel
theorem dX10_runCommands_53 : decode cX10_runCommands 53 = .ok (.getfield 53, 3) := by decide +kernel
theorem dX10_runCommands_56 : decode cX10_runCommands 56 = .ok (.getfield 294, 3) := by decide +kernel
theorem dX10_runCommands_59 : decode cX10_runCommands 59 = .ok (.istore_n 3, 1) := by decide +kernel
theorem dX10_runCommands_60 : decode cX10_runCommands 60 = .ok (.aload_n 0, 1) := by decide +kernel
theorem dX10_runCommands_61 : decode cX10_runCommands 61 = .ok (.getfield 53, 3) := by decide +kernel
theorem dX10_runCommands_64 : decode cX10_runCommands 64 = .ok (.invokevirtual 280, 3) := by decide +kernel
theorem dX10_runCommands_67 : decode cX10_runCommands 67 = .ok (.iload_n 2, 1) := by decide +kernel
theorem dX10_runCommands_68 : decode cX10_runCommands 68 = .ok (.iconst (-1), 1) := by decide +kernel
theorem dX10_runCommands_69 : decode cX10_runCommands 69 = .ok (.if_icmp .eq 30, 3) := by decide +kernel
theorem dX10_runCommands_72 : decode cX10_runCommands 72 = .ok (.aload_n 0, 1) := by decide +kernel
theorem dX10_runCommands_73 : decode cX10_runCommands 73 = .ok (.iload_n 2, 1) := by decide +kernel
theorem dX10_runCommands_74 : decode cX10_runCommands 74 = .ok (.putfield 72, 3) := by decide +kernel
theorem dX10_runCommands_77 : decode cX10_runCommands 77 = .ok (.aload_n 0, 1) := by decide +kernel
theorem dX10_runCommands_78 : decode cX10_runCommands 78 = .ok (.getfield 10, 3) := by decide +kernel
theorem dX10_runCommands_81 : decode cX10_runCommands 81 = .ok (.aload_n 0, 1) := by decide +kernel
theorem dX10_runCommands_82 : decode cX10_runCommands 82 = .ok (.getfield 16, 3) := by decide +kernel
theorem dX10_runCommands_85 : decode cX10_runCommands 85 = .ok (.invokevirtual 288, 3) := by decide +kernel
theorem dX10_runCommands_88 : decode cX10_runCommands 88 = .ok (.new 297, 3) := by decide +kernel
theorem dX10_runCommands_91 : decode cX10_runCommands 91 = .ok (.dup, 1) := by decide +kernel
theorem dX10_runCommands_92 : decode cX10_runCommands 92 = .ok (.ldc_w 299, 3) := by decide +kernel
theorem dX10_runCommands_95 : decode cX10_runCommands 95 = .ok (.invokespecial 301, 3) := by decide +kernel
theorem dX10_runCommands_98 : decode cX10_runCommands 98 = .ok (.athrow, 1) := by decide +kernel
theorem dX10_runCommands_99 : decode cX10_runCommands 99 = .ok (.aload_n 0, 1) := by decide +kernel
theorem dX10_runCommands_100 : decode cX10_runCommands 100 = .ok (.getfield 46, 3) := by decide +kernel
theorem dX10_runCommands_103 : decode cX10_runCommands 103 = .ok (.aload_n 0, 1) := by decide +kernel
theorem dX10_runCommands_104 : decode cX10_runCommands 104 = .ok (.getfield 16, 3) := by decide +kernel
theorem dX10_runCommands_107 : decode cX10_runCommands 107 = .ok (.invokevirtual 85, 3) := by decide +kernel
theorem dX10_runCommands_110 : decode cX10_runCommands 110 = .ok (.iload_n 3, 1) := by decide +kernel
theorem dX10_runCommands_111 : decode cX10_runCommands 111 = .ok (.ireturn, 1) := by decide +kernel
theorem dX10_errorPosition_0 : decode cX10_errorPosition 0 = .ok (.aload_n 0, 1) := by decide +kernel
theorem dX10_errorPosition_1 : decode cX10_errorPosition 1 = .ok (.getfield 68, 3) := by decide +kernel
theorem dX10_errorPosition_4 : decode cX10_errorPosition 4 = .ok (.iconst (-1), 1) := by decide +kernel
theorem dX10_errorPosition_5 : decode cX10_errorPosition 5 = .ok (.if_icmp .ne 14, 3) := by decide +kernel
theorem dX10_errorPosition_8 : decode cX10_errorPosition 8 = .ok (.new 203, 3) := by decide +kernel
theorem dX10_errorPosition_11 : decode cX10_errorPosition 11 = .ok (.dup, 1) := by decide +kernel
theorem dX10_errorPosition_12 : decode cX10_errorPosition 12 = .ok (.ldc_w 302, 3) := by decide +kernel
theorem dX10_errorPosition_15 : decode cX10_errorPosition 15 = .ok (.invokespecial 207, 3) := by decide +kernel
theorem dX10_errorPosition_18 : decode cX10_errorPosition 18 = .ok (.athrow, 1) := by decide +kernel
theorem dX10_errorPosition_19 : decode cX10_errorPosition 19 = .ok (.aload_n 0, 1) := by decide +kernel
theorem dX10_errorPosition_20 : decode cX10_errorPosition 20 = .ok (.getfield 68, 3) := by decide +kernel
theorem dX10_errorPosition_23 : decode cX10_errorPosition 23 = .ok (.ireturn, 1) := by decide +kernel
theorem dX10_failedCommand_0 : decode cX10_failedCommand 0 = .ok (.aload_n 0, 1) := by decide +kernel
theorem dX10_failedCommand_1 : decode cX10_failedCommand 1 = .ok (.getfield 72, 3) := by decide +kernel
theorem dX10_failedCommand_4 : decode cX10_failedCommand 4 = .ok (.iconst (-1), 1) := by decide +kernel
theorem dX10_failedCommand_5 : decode cX10_failedCommand 5 = .ok (.if_icmp .ne 14, 3) := by decide +kernel
theorem dX10_failedCommand_8 : decode cX10_failedCommand 8 = .ok (.new 203, 3) := by decide +kernel
theorem dX10_failedCommand_11 : decode cX10_failedCommand 11 = .ok (.dup, 1) := by decide +kernel
theorem dX10_failedCommand_12 : decode cX10_failedCommand 12 = .ok (.ldc_w 304, 3) := by decide +kernel
theorem dX10_failedCommand_15 : decode cX10_failedCommand 15 = .ok (.invokespecial 207, 3) := by decide +kernel
theorem dX10_failedCommand_18 : decode cX10_failedCommand 18 = .ok (.athrow, 1) := by decide +kernel
theorem dX10_failedCommand_19 : decode cX10_failedCommand 19 = .ok (.aload_n 0, 1) := by decide +kernel
theorem dX10_failedCommand_20 : decode cX10_failedCommand 20 = .ok (.getfield 72, 3) := by decide +kernel
theorem dX10_failedCommand_23 : decode cX10_failedCommand 23 = .ok (.ireturn, 1) := by decide +kernel
set_option maxRecDepth 20000 in
theorem ggX10_writeDebts_X9_onMember : GoodIn wsX10_writeDebts wsX9_onMember := goodIn_r _ [6, 7, 8, 9, 10, 11, 12, 13, 14, 237, 238, 239, 240, 241, 242, 243, 244, 245, 246] (by decide +kernel) (by decide +kernel)
set_option maxRecDepth 20000 in
theorem gX10_writeDebts_X9_onMember : GoodIn wsX10_writeDebts (va_wsS RX10 156 yX9_onMember wsX9_onMember) := goodIn_app (goodIn_of _ (by decide +kernel)) ggX10_writeDebts_X9_onMember
set_option maxRecDepth 20000 in
theorem ggX10_writeDebts_X10_throwIfRefused : GoodIn wsX10_writeDebts wsX10_throwIfRefused := goodIn_ca (goodIn_ca (goodIn_ca (goodIn_ca (goodIn_r _ [18, 19, 20, 21, 22, 23, 24, 25, 26, 27, 28, 29, 30] (by decide +kernel) (by decide +kernel)) (goodIn_sub (fun _ h => List.mem_cons_of_mem _ (List.mem_append_left _ (List.mem_append_left _ (List.mem_append_left _ (List.mem_append_right _ h))))) (by decide +kernel))) (goodIn_sub (fun _ h => List.mem_cons_of_mem _ (List.mem_append_left _ (List.mem_append_left _ (List.mem_append_right _ h)))) (by decide +kernel))) (goodIn_sub (fun _ h => List.mem_cons_of_mem _ (List.mem_append_left _ (List.mem_append_right _ h))) (by decide +kernel))) (goodIn_sub (fun _ h => List.mem_cons_of_mem _ (List.mem_append_right _ h)) (by decide +kernel))
set_option maxRecDepth 20000 in
theorem gX10_writeDebts_X10_throwIfRefused : GoodIn wsX10_writeDebts (va_wsS RX10 81 yX10_throwIfRefused wsX10_throwIfRefused) := goodIn_app (goodIn_of _ (by decide +kernel)) ggX10_writeDebts_X10_throwIfRefused
set_option maxRecDepth 20000 in
theorem ggX10_writeDebts_J4_setLength_d00df : GoodIn wsX10_writeDebts wsJ4_setLength_d00df := goodIn_r _ [35, 36, 37, 38, 39, 40, 41, 42, 43, 44, 45, 46, 47, 48, 49, 50, 51, 52, 53, 54, 55, 56, 57, 58, 59, 60, 61, 62, 63, 64, 65, 66, 67, 68, 69, 70, 71, 72, 73, 74, 75, 76, 77, 78, 79, 80, 81, 82, 83, 84, 85, 86, 87, 88, 89, 90, 91, 92, 93, 94, 95, 96, 97, 98, 99, 100, 101, 102, 103, 104, 105, 106, 107, 34, 108, 109, 110, 111, 112, 113, 114, 115, 247, 248, 249, 250, 251, 252, 253, 254, 255, 256, 257, 258, 259, 260, 261, 262] (by decide +kernel) (by decide +kernel)
set_option maxRecDepth 20000 in
theorem gX10_writeDebts_J4_setLength_d00df : GoodIn wsX10_writeDebts (wsV RX10 306 RJ4 yJ4_setLength_d00df wsJ4_setLength_d00df) := goodIn_app (goodIn_of _ (by decide +kernel)) ggX10_writeDebts_J4_setLength_d00df
set_option maxRecDepth 20000 in
theorem ggX10_writeDebts_J4_append_bf812 : GoodIn wsX10_writeDebts wsJ4_append_bf812 := goodIn_r _ [119, 120, 121, 38, 122, 40, 123, 45, 46, 124, 125, 126, 127, 48, 49, 50, 51, 52, 53, 54, 55, 56, 57, 58, 59, 60, 61, 62, 63, 64, 65, 66, 67, 68, 69, 70, 71, 72, 73, 74, 75, 76, 77, 78, 79, 80, 81, 82, 83, 84, 85, 86, 87, 88, 89, 90, 91, 92, 93, 94, 95, 128, 129, 130, 131, 132, 133, 134, 113, 135, 136, 137, 138, 139, 140, 141, 142, 143, 144, 145, 146, 147, 148, 149, 150, 151, 152, 153, 154, 155, 156, 157, 158, 159, 160, 161, 253, 254, 255, 256] (by decide +kernel) (by decide +kernel)
set_option maxRecDepth 20000 in
theorem gX10_writeDebts_J4_append_bf812 : GoodIn wsX10_writeDebts (wsV RX10 310 RJ4 yJ4_append_bf812 wsJ4_append_bf812) := goodIn_app (goodIn_of _ (by decide +kernel)) ggX10_writeDebts_J4_append_bf812
set_option maxRecDepth 20000 in
theorem ggX10_writeDebts_J4_append_cf468 : GoodIn wsX10_writeDebts wsJ4_append_cf468 := goodIn_r _ [165, 166, 167, 38, 168, 40, 169, 45, 46, 48, 49, 50, 51, 52, 53, 54, 55, 56, 57, 58, 59, 60, 61, 62, 63, 64, 65, 66, 67, 68, 69, 70, 71, 72, 73, 74, 75, 76, 77, 78, 79, 80, 81, 82, 83, 84, 85, 86, 87, 88, 89, 90, 91, 92, 93, 94, 95, 170, 171, 98, 172, 173, 174, 175, 176, 177, 178, 179, 113, 180, 181, 182, 183, 184, 185, 186, 187, 188, 189, 190, 191, 192, 193, 140, 141, 142, 194, 195, 145, 196, 147, 197, 198, 150, 199, 157, 158, 159, 136, 160, 161, 200, 201, 202, 203, 204, 205, 206, 207, 208, 209, 210, 211, 253, 254, 255, 256] (by decide +kernel) (by decide +kernel)
set_option maxRecDepth 20000 in
theorem gX10_writeDebts_J4_append_cf468 : GoodIn wsX10_writeDebts (wsV RX10 313 RJ4 yJ4_append_cf468 wsJ4_append_cf468) := goodIn_app (goodIn_of _ (by decide +kernel)) ggX10_writeDebts_J4_append_cf468
set_option maxRecDepth 20000 in
theorem ggX10_writeDebts_X5_amountOwed : GoodIn wsX10_writeDebts wsX5_amountOwed := goodIn_ca (goodIn_r _ [215, 216, 237, 238, 239, 240, 241, 242, 243, 244, 245, 246] (by decide +kernel) (by decide +kernel)) (goodIn_sub (fun _ h => List.mem_cons_of_mem _ (List.mem_append_left _ (List.mem_append_left _ (List.mem_append_left _ (List.mem_append_left _ (List.mem_append_right _ h)))))) (by decide +kernel))
set_option maxRecDepth 20000 in
theorem gX10_writeDebts_X5_amountOwed : GoodIn wsX10_writeDebts (wsV RX10 179 RX5 yX5_amountOwed wsX5_amountOwed) := goodIn_app (goodIn_of _ (by decide +kernel)) ggX10_writeDebts_X5_amountOwed
set_option maxRecDepth 20000 in
theorem ggX10_writeDebts_J4_length_8abf5 : GoodIn wsX10_writeDebts wsJ4_length_8abf5 := goodIn_r _ [220, 221, 222, 38, 223, 40, 224, 45, 253, 254, 255, 256] (by decide +kernel) (by decide +kernel)
set_option maxRecDepth 20000 in
theorem gX10_writeDebts_J4_length_8abf5 : GoodIn wsX10_writeDebts (wsV RX10 316 RJ4 yJ4_length_8abf5 wsJ4_length_8abf5) := goodIn_app (goodIn_of _ (by decide +kernel)) ggX10_writeDebts_J4_length_8abf5
theorem dX10_writeDebts_0 : decode cX10_writeDebts 0 = .ok (.aload_n 0, 1) := by decide +kernel
theorem dX10_writeDebts_1 : decode cX10_writeDebts 1 = .ok (.getfield 10, 3) := by decide +kernel
theorem dX10_writeDebts_4 : decode cX10_writeDebts 4 = .ok (.iload_n 1, 1) := by decide +kernel
theorem dX10_writeDebts_5 : decode cX10_writeDebts 5 = .ok (.invokestatic 156, 3) := by decide +kernel
theorem dX10_writeDebts_8 : decode cX10_writeDebts 8 = .ok (.invokestatic 81, 3) := by decide +kernel
theorem dX10_writeDebts_11 : decode cX10_writeDebts 11 = .ok (.aload_n 0, 1) := by decide +kernel
theorem dX10_writeDebts_12 : decode cX10_writeDebts 12 = .ok (.getfield 60, 3) := by decide +kernel
theorem dX10_writeDebts_15 : decode cX10_writeDebts 15 = .ok (.iconst 0, 1) := by decide +kernel
theorem dX10_writeDebts_16 : decode cX10_writeDebts 16 = .ok (.invokevirtual 306, 3) := by decide +kernel
theorem dX10_writeDebts_19 : decode cX10_writeDebts 19 = .ok (.aload_n 0, 1) := by decide +kernel
theorem dX10_writeDebts_20 : decode cX10_writeDebts 20 = .ok (.getfield 60, 3) := by decide +kernel
theorem dX10_writeDebts_23 : decode cX10_writeDebts 23 = .ok (.aload_n 0, 1) := by decide +kernel
theorem dX10_writeDebts_24 : decode cX10_writeDebts 24 = .ok (.getfield 10, 3) := by decide +kernel
theorem dX10_writeDebts_27 : decode cX10_writeDebts 27 = .ok (.getfield 159, 3) := by decide +kernel
theorem dX10_writeDebts_30 : decode cX10_writeDebts 30 = .ok (.iload_n 1, 1) := by decide +kernel
theorem dX10_writeDebts_31 : decode cX10_writeDebts 31 = .ok (.iaload, 1) := by decide +kernel
theorem dX10_writeDebts_32 : decode cX10_writeDebts 32 = .ok (.invokevirtual 310, 3) := by decide +kernel
theorem dX10_writeDebts_35 : decode cX10_writeDebts 35 = .ok (.bipush 99, 2) := by decide +kernel
theorem dX10_writeDebts_37 : decode cX10_writeDebts 37 = .ok (.invokevirtual 313, 3) := by decide +kernel
theorem dX10_writeDebts_40 : decode cX10_writeDebts 40 = .ok (.pop, 1) := by decide +kernel
theorem dX10_writeDebts_41 : decode cX10_writeDebts 41 = .ok (.aload_n 0, 1) := by decide +kernel
theorem dX10_writeDebts_42 : decode cX10_writeDebts 42 = .ok (.getfield 10, 3) := by decide +kernel
theorem dX10_writeDebts_45 : decode cX10_writeDebts 45 = .ok (.getfield 172, 3) := by decide +kernel
theorem dX10_writeDebts_48 : decode cX10_writeDebts 48 = .ok (.iload_n 1, 1) := by decide +kernel
theorem dX10_writeDebts_49 : decode cX10_writeDebts 49 = .ok (.baload, 1) := by decide +kernel
theorem dX10_writeDebts_50 : decode cX10_writeDebts 50 = .ok (.ifCond .eq 13, 3) := by decide +kernel
theorem dX10_writeDebts_53 : decode cX10_writeDebts 53 = .ok (.aload_n 0, 1) := by decide +kernel
theorem dX10_writeDebts_54 : decode cX10_writeDebts 54 = .ok (.getfield 60, 3) := by decide +kernel
theorem dX10_writeDebts_57 : decode cX10_writeDebts 57 = .ok (.bipush 33, 2) := by decide +kernel
theorem dX10_writeDebts_59 : decode cX10_writeDebts 59 = .ok (.invokevirtual 313, 3) := by decide +kernel
theorem dX10_writeDebts_62 : decode cX10_writeDebts 62 = .ok (.pop, 1) := by decide +kernel
theorem dX10_writeDebts_63 : decode cX10_writeDebts 63 = .ok (.iconst 0, 1) := by decide +kernel
theorem dX10_writeDebts_64 : decode cX10_writeDebts 64 = .ok (.istore_n 2, 1) := by decide +kernel
theorem dX10_writeDebts_65 : decode cX10_writeDebts 65 = .ok (.iload_n 2, 1) := by decide +kernel
theorem dX10_writeDebts_66 : decode cX10_writeDebts 66 = .ok (.bipush 8, 2) := by decide +kernel
theorem dX10_writeDebts_68 : decode cX10_writeDebts 68 = .ok (.if_icmp .ge 51, 3) := by decide +kernel
theorem dX10_writeDebts_71 : decode cX10_writeDebts 71 = .ok (.aload_n 0, 1) := by decide +kernel
theorem dX10_writeDebts_72 : decode cX10_writeDebts 72 = .ok (.getfield 10, 3) := by decide +kernel
theorem dX10_writeDebts_75 : decode cX10_writeDebts 75 = .ok (.iload_n 1, 1) := by decide +kernel
theorem dX10_writeDebts_76 : decode cX10_writeDebts 76 = .ok (.iload_n 2, 1) := by decide +kernel
theorem dX10_writeDebts_77 : decode cX10_writeDebts 77 = .ok (.invokevirtual 179, 3) := by decide +kernel
theorem dX10_writeDebts_80 : decode cX10_writeDebts 80 = .ok (.istore_n 3, 1) := by decide +kernel
theorem dX10_writeDebts_81 : decode cX10_writeDebts 81 = .ok (.iload_n 3, 1) := by decide +kernel
theorem dX10_writeDebts_82 : decode cX10_writeDebts 82 = .ok (.ifCond .le 31, 3) := by decide +kernel
theorem dX10_writeDebts_85 : decode cX10_writeDebts 85 = .ok (.aload_n 0, 1) := by decide +kernel
theorem dX10_writeDebts_86 : decode cX10_writeDebts 86 = .ok (.getfield 60, 3) := by decide +kernel
theorem dX10_writeDebts_89 : decode cX10_writeDebts 89 = .ok (.bipush 32, 2) := by decide +kernel
theorem dX10_writeDebts_91 : decode cX10_writeDebts 91 = .ok (.invokevirtual 313, 3) := by decide +kernel
theorem dX10_writeDebts_94 : decode cX10_writeDebts 94 = .ok (.bipush 62, 2) := by decide +kernel
theorem dX10_writeDebts_96 : decode cX10_writeDebts 96 = .ok (.invokevirtual 313, 3) := by decide +kernel
theorem dX10_writeDebts_99 : decode cX10_writeDebts 99 = .ok (.iload_n 2, 1) := by decide +kernel
theorem dX10_writeDebts_100 : decode cX10_writeDebts 100 = .ok (.invokevirtual 310, 3) := by decide +kernel
theorem dX10_writeDebts_103 : decode cX10_writeDebts 103 = .ok (.bipush 58, 2) := by decide +kernel
theorem dX10_writeDebts_105 : decode cX10_writeDebts 105 = .ok (.invokevirtual 313, 3) := by decide +kernel
theorem dX10_writeDebts_108 : decode cX10_writeDebts 108 = .ok (.iload_n 3, 1) := by decide +kernel
theorem dX10_writeDebts_109 : decode cX10_writeDebts 109 = .ok (.invokevirtual 310, 3) := by decide +kernel
theorem dX10_writeDebts_112 : decode cX10_writeDebts 112 = .ok (.pop, 1) := by decide +kernel
theorem dX10_writeDebts_113 : decode cX10_writeDebts 113 = .ok (.iinc 2 1, 3) := by decide +kernel
theorem dX10_writeDebts_116 : decode cX10_writeDebts 116 = .ok (.goto (-51), 3) := by decide +kernel
theorem dX10_writeDebts_119 : decode cX10_writeDebts 119 = .ok (.aload_n 0, 1) := by decide +kernel
theorem dX10_writeDebts_120 : decode cX10_writeDebts 120 = .ok (.getfield 60, 3) := by decide +kernel
theorem dX10_writeDebts_123 : decode cX10_writeDebts 123 = .ok (.invokevirtual 316, 3) := by decide +kernel
theorem dX10_writeDebts_126 : decode cX10_writeDebts 126 = .ok (.ireturn, 1) := by decide +kernel
set_option maxRecDepth 20000 in
theorem ggX10_outputChar_J4_length_8abf5 : GoodIn wsX10_outputChar wsJ4_length_8abf5 := goodIn_r _ [8, 9, 10, 11, 12, 13, 14, 15, 61, 62, 63, 64] (by decide +kernel) (by decide +kernel)
set_option maxRecDepth 20000 in
theorem gX10_outputChar_J4_length_8abf5 : GoodIn wsX10_outputChar (wsV RX10 316 RJ4 yJ4_length_8abf5 wsJ4_length_8abf5) := goodIn_app (goodIn_of _ (by decide +kernel)) ggX10_outputChar_J4_length_8abf5
set_option maxRecDepth 20000 in
theorem ggX10_outputChar_J4_charAt_5068e : GoodIn wsX10_outputChar wsJ4_charAt_5068e := goodIn_r _ [19, 20, 21, 11, 22, 13, 23, 24, 25, 15, 26, 27, 28, 29, 30, 31, 32, 33, 34, 35, 36, 37, 38, 39, 40, 41, 42, 43, 44, 45, 46, 47, 48, 61, 62, 63, 64] (by decide +kernel) (by decide +kernel)
set_option maxRecDepth 20000 in
theorem gX10_outputChar_J4_charAt_5068e : GoodIn wsX10_outputChar (wsV RX10 324 RJ4 yJ4_charAt_5068e wsJ4_charAt_5068e) := goodIn_app (goodIn_of _ (by decide +kernel)) ggX10_outputChar_J4_charAt_5068e
theorem dX10_outputChar_0 : decode cX10_outputChar 0 = .ok (.iload_n 1, 1) := by decide +kernel
theorem dX10_outputChar_1 : decode cX10_outputChar 1 = .ok (.ifCond .lt 14, 3) := by decide +kernel
theorem dX10_outputChar_4 : decode cX10_outputChar 4 = .ok (.iload_n 1, 1) := by decide +kernel
theorem dX10_outputChar_5 : decode cX10_outputChar 5 = .ok (.aload_n 0, 1) := by decide +kernel
theorem dX10_outputChar_6 : decode cX10_outputChar 6 = .ok (.getfield 60, 3) := by decide +kernel
theorem dX10_outputChar_9 : decode cX10_outputChar 9 = .ok (.invokevirtual 316, 3) := by decide +kernel
theorem dX10_outputChar_12 : decode cX10_outputChar 12 = .ok (.if_icmp .lt 14, 3) := by decide +kernel
theorem dX10_outputChar_15 : decode cX10_outputChar 15 = .ok (.new 319, 3) := by decide +kernel
theorem dX10_outputChar_18 : decode cX10_outputChar 18 = .ok (.dup, 1) := by decide +kernel
theorem dX10_outputChar_19 : decode cX10_outputChar 19 = .ok (.ldc_w 321, 3) := by decide +kernel
theorem dX10_outputChar_22 : decode cX10_outputChar 22 = .ok (.invokespecial 323, 3) := by decide +kernel
theorem dX10_outputChar_25 : decode cX10_outputChar 25 = .ok (.athrow, 1) := by decide +kernel
theorem dX10_outputChar_26 : decode cX10_outputChar 26 = .ok (.aload_n 0, 1) := by decide +kernel
theorem dX10_outputChar_27 : decode cX10_outputChar 27 = .ok (.getfield 60, 3) := by decide +kernel
theorem dX10_outputChar_30 : decode cX10_outputChar 30 = .ok (.iload_n 1, 1) := by decide +kernel
theorem dX10_outputChar_31 : decode cX10_outputChar 31 = .ok (.invokevirtual 324, 3) := by decide +kernel
theorem dX10_outputChar_34 : decode cX10_outputChar 34 = .ok (.ireturn, 1) := by decide +kernel
theorem dX10_undoCount_0 : decode cX10_undoCount 0 = .ok (.aload_n 0, 1) := by decide +kernel
theorem dX10_undoCount_1 : decode cX10_undoCount 1 = .ok (.getfield 46, 3) := by decide +kernel
theorem dX10_undoCount_4 : decode cX10_undoCount 4 = .ok (.getfield 328, 3) := by decide +kernel
theorem dX10_undoCount_7 : decode cX10_undoCount 7 = .ok (.ireturn, 1) := by decide +kernel
set_option maxRecDepth 20000 in
theorem ggX10_undo_X4_bringBack : GoodIn wsX10_undo wsX4_bringBack := goodIn_ca (goodIn_r _ [9, 10, 11, 12, 13, 14, 15, 16, 17, 18, 19, 20, 21, 22, 23, 24, 25, 26, 27, 28, 29, 30, 31, 44, 45, 46, 47, 48, 49, 50, 51, 52, 53, 54, 55, 56] (by decide +kernel) (by decide +kernel)) (goodIn_sub (fun _ h => List.mem_cons_of_mem _ (List.mem_append_right _ h)) (by decide +kernel))
set_option maxRecDepth 20000 in
theorem gX10_undo_X4_bringBack : GoodIn wsX10_undo (wsV RX10 333 RX4 yX4_bringBack wsX4_bringBack) := goodIn_app (goodIn_of _ (by decide +kernel)) ggX10_undo_X4_bringBack
theorem dX10_undo_0 : decode cX10_undo 0 = .ok (.aload_n 0, 1) := by decide +kernel
theorem dX10_undo_1 : decode cX10_undo 1 = .ok (.getfield 46, 3) := by decide +kernel
theorem dX10_undo_4 : decode cX10_undo 4 = .ok (.getfield 328, 3) := by decide +kernel
theorem dX10_undo_7 : decode cX10_undo 7 = .ok (.ifCond .ne 14, 3) := by decide +kernel
theorem dX10_undo_10 : decode cX10_undo 10 = .ok (.new 268, 3) := by decide +kernel
theorem dX10_undo_13 : decode cX10_undo 13 = .ok (.dup, 1) := by decide +kernel
theorem dX10_undo_14 : decode cX10_undo 14 = .ok (.ldc_w 331, 3) := by decide +kernel
theorem dX10_undo_17 : decode cX10_undo 17 = .ok (.invokespecial 272, 3) := by decide +kernel
theorem dX10_undo_20 : decode cX10_undo 20 = .ok (.athrow, 1) := by decide +kernel
theorem dX10_undo_21 : decode cX10_undo 21 = .ok (.aload_n 0, 1) := by decide +kernel
theorem dX10_undo_22 : decode cX10_undo 22 = .ok (.getfield 46, 3) := by decide +kernel
theorem dX10_undo_25 : decode cX10_undo 25 = .ok (.aload_n 0, 1) := by decide +kernel
theorem dX10_undo_26 : decode cX10_undo 26 = .ok (.getfield 10, 3) := by decide +kernel
theorem dX10_undo_29 : decode cX10_undo 29 = .ok (.invokevirtual 333, 3) := by decide +kernel
theorem dX10_undo_32 : decode cX10_undo 32 = .ok (.ireturn, 1) := by decide +kernel
set_option maxRecDepth 20000 in
theorem ggX10_save_X5_copyFrom : GoodIn wsX10_save wsX5_copyFrom := goodIn_ca (goodIn_r _ [8, 9, 10, 11, 12, 13, 14, 15, 16, 17, 18, 19, 20, 21, 22, 35, 36, 37, 38, 39, 40, 41, 42, 43, 44] (by decide +kernel) (by decide +kernel)) (goodIn_sub (fun _ h => List.mem_cons_of_mem _ (List.mem_append_right _ h)) (by decide +kernel))
set_option maxRecDepth 20000 in
theorem gX10_save_X5_copyFrom : GoodIn wsX10_save (wsV RX10 288 RX5 yX5_copyFrom wsX5_copyFrom) := goodIn_app (goodIn_of _ (by decide +kernel)) ggX10_save_X5_copyFrom
theorem dX10_save_0 : decode cX10_save 0 = .ok (.aload_n 0, 1) := by decide +kernel
theorem dX10_save_1 : decode cX10_save 1 = .ok (.getfield 19, 3) := by decide +kernel
theorem dX10_save_4 : decode cX10_save 4 = .ok (.aload_n 0, 1) := by decide +kernel
theorem dX10_save_5 : decode cX10_save 5 = .ok (.getfield 10, 3) := by decide +kernel
theorem dX10_save_8 : decode cX10_save 8 = .ok (.invokevirtual 288, 3) := by decide +kernel
theorem dX10_save_11 : decode cX10_save 11 = .ok (.aload_n 0, 1) := by decide +kernel
theorem dX10_save_12 : decode cX10_save 12 = .ok (.iconst 1, 1) := by decide +kernel
theorem dX10_save_13 : decode cX10_save 13 = .ok (.putfield 64, 3) := by decide +kernel
theorem dX10_save_16 : decode cX10_save 16 = .ok (.aload_n 0, 1) := by decide +kernel
theorem dX10_save_17 : decode cX10_save 17 = .ok (.getfield 10, 3) := by decide +kernel
theorem dX10_save_20 : decode cX10_save 20 = .ok (.getfield 153, 3) := by decide +kernel
theorem dX10_save_23 : decode cX10_save 23 = .ok (.ireturn, 1) := by decide +kernel
set_option maxRecDepth 20000 in
theorem ggX10_restore_X5_copyFrom : GoodIn wsX10_restore wsX5_copyFrom := goodIn_ca (goodIn_r _ [11, 12, 13, 14, 15, 16, 17, 18, 19, 20, 21, 22, 23, 24, 25, 44, 45, 46, 47, 48, 49, 50, 51, 52, 53] (by decide +kernel) (by decide +kernel)) (goodIn_sub (fun _ h => List.mem_cons_of_mem _ (List.mem_append_right _ h)) (by decide +kernel))
set_option maxRecDepth 20000 in
theorem gX10_restore_X5_copyFrom : GoodIn wsX10_restore (wsV RX10 288 RX5 yX5_copyFrom wsX5_copyFrom) := goodIn_app (goodIn_of _ (by decide +kernel)) ggX10_restore_X5_copyFrom
set_option maxRecDepth 20000 in
theorem ggX10_restore_X4_forget : GoodIn wsX10_restore wsX4_forget := goodIn_r _ [30, 31, 54, 55, 56] (by decide +kernel) (by decide +kernel)
set_option maxRecDepth 20000 in
theorem gX10_restore_X4_forget : GoodIn wsX10_restore (wsV RX10 338 RX4 yX4_forget wsX4_forget) := goodIn_app (goodIn_of _ (by decide +kernel)) ggX10_restore_X4_forget
theorem dX10_restore_0 : decode cX10_restore 0 = .ok (.aload_n 0, 1) := by decide +kernel
theorem dX10_restore_1 : decode cX10_restore 1 = .ok (.getfield 64, 3) := by decide +kernel
theorem dX10_restore_4 : decode cX10_restore 4 = .ok (.ifCond .ne 14, 3) := by decide +kernel
theorem dX10_restore_7 : decode cX10_restore 7 = .ok (.new 268, 3) := by decide +kernel
theorem dX10_restore_10 : decode cX10_restore 10 = .ok (.dup, 1) := by decide +kernel
theorem dX10_restore_11 : decode cX10_restore 11 = .ok (.ldc_w 336, 3) := by decide +kernel
theorem dX10_restore_14 : decode cX10_restore 14 = .ok (.invokespecial 272, 3) := by decide +kernel
theorem dX10_restore_17 : decode cX10_restore 17 = .ok (.athrow, 1) := by decide +kernel
theorem dX10_restore_18 : decode cX10_restore 18 = .ok (.aload_n 0, 1) := by decide +kernel
theorem dX10_restore_19 : decode cX10_restore 19 = .ok (.getfield 10, 3) := by decide +kernel
theorem dX10_restore_22 : decode cX10_restore 22 = .ok (.aload_n 0, 1) := by decide +kernel
theorem dX10_restore_23 : decode cX10_restore 23 = .ok (.getfield 19, 3) := by decide +kernel
theorem dX10_restore_26 : decode cX10_restore 26 = .ok (.invokevirtual 288, 3) := by decide +kernel
theorem dX10_restore_29 : decode cX10_restore 29 = .ok (.aload_n 0, 1) := by decide +kernel
theorem dX10_restore_30 : decode cX10_restore 30 = .ok (.getfield 46, 3) := by decide +kernel
theorem dX10_restore_33 : decode cX10_restore 33 = .ok (.invokevirtual 338, 3) := by decide +kernel
theorem dX10_restore_36 : decode cX10_restore 36 = .ok (.aload_n 0, 1) := by decide +kernel
theorem dX10_restore_37 : decode cX10_restore 37 = .ok (.getfield 10, 3) := by decide +kernel
theorem dX10_restore_40 : decode cX10_restore 40 = .ok (.getfield 153, 3) := by decide +kernel
theorem dX10_restore_43 : decode cX10_restore 43 = .ok (.ireturn, 1) := by decide +kernel
theorem dX10_throwIfRefused_0 : decode cX10_throwIfRefused 0 = .ok (.aload_n 0, 1) := by decide +kernel
theorem dX10_throwIfRefused_1 : decode cX10_throwIfRefused 1 = .ok (.getstatic 341, 3) := by decide +kernel
theorem dX10_throwIfRefused_4 : decode cX10_throwIfRefused 4 = .ok (.if_acmp .ne 14, 3) := by decide +kernel
theorem dX10_throwIfRefused_7 : decode cX10_throwIfRefused 7 = .ok (.new 319, 3) := by decide +kernel
theorem dX10_throwIfRefused_10 : decode cX10_throwIfRefused 10 = .ok (.dup, 1) := by decide +kernel
theorem dX10_throwIfRefused_11 : decode cX10_throwIfRefused 11 = .ok (.ldc_w 347, 3) := by decide +kernel
theorem dX10_throwIfRefused_14 : decode cX10_throwIfRefused 14 = .ok (.invokespecial 323, 3) := by decide +kernel
theorem dX10_throwIfRefused_17 : decode cX10_throwIfRefused 17 = .ok (.athrow, 1) := by decide +kernel
theorem dX10_throwIfRefused_18 : decode cX10_throwIfRefused 18 = .ok (.aload_n 0, 1) := by decide +kernel
theorem dX10_throwIfRefused_19 : decode cX10_throwIfRefused 19 = .ok (.getstatic 349, 3) := by decide +kernel
theorem dX10_throwIfRefused_22 : decode cX10_throwIfRefused 22 = .ok (.if_acmp .ne 14, 3) := by decide +kernel
theorem dX10_throwIfRefused_25 : decode cX10_throwIfRefused 25 = .ok (.new 283, 3) := by decide +kernel
theorem dX10_throwIfRefused_28 : decode cX10_throwIfRefused 28 = .ok (.dup, 1) := by decide +kernel
theorem dX10_throwIfRefused_29 : decode cX10_throwIfRefused 29 = .ok (.ldc_w 352, 3) := by decide +kernel
theorem dX10_throwIfRefused_32 : decode cX10_throwIfRefused 32 = .ok (.invokespecial 287, 3) := by decide +kernel
theorem dX10_throwIfRefused_35 : decode cX10_throwIfRefused 35 = .ok (.athrow, 1) := by decide +kernel
theorem dX10_throwIfRefused_36 : decode cX10_throwIfRefused 36 = .ok (.aload_n 0, 1) := by decide +kernel
theorem dX10_throwIfRefused_37 : decode cX10_throwIfRefused 37 = .ok (.getstatic 354, 3) := by decide +kernel
theorem dX10_throwIfRefused_40 : decode cX10_throwIfRefused 40 = .ok (.if_acmp .ne 14, 3) := by decide +kernel
theorem dX10_throwIfRefused_43 : decode cX10_throwIfRefused 43 = .ok (.new 268, 3) := by decide +kernel
theorem dX10_throwIfRefused_46 : decode cX10_throwIfRefused 46 = .ok (.dup, 1) := by decide +kernel
theorem dX10_throwIfRefused_47 : decode cX10_throwIfRefused 47 = .ok (.ldc_w 357, 3) := by decide +kernel
theorem dX10_throwIfRefused_50 : decode cX10_throwIfRefused 50 = .ok (.invokespecial 272, 3) := by decide +kernel
theorem dX10_throwIfRefused_53 : decode cX10_throwIfRefused 53 = .ok (.athrow, 1) := by decide +kernel
theorem dX10_throwIfRefused_54 : decode cX10_throwIfRefused 54 = .ok (.aload_n 0, 1) := by decide +kernel
theorem dX10_throwIfRefused_55 : decode cX10_throwIfRefused 55 = .ok (.getstatic 359, 3) := by decide +kernel
theorem dX10_throwIfRefused_58 : decode cX10_throwIfRefused 58 = .ok (.if_acmp .ne 14, 3) := by decide +kernel
theorem dX10_throwIfRefused_61 : decode cX10_throwIfRefused 61 = .ok (.new 297, 3) := by decide +kernel
theorem dX10_throwIfRefused_64 : decode cX10_throwIfRefused 64 = .ok (.dup, 1) := by decide +kernel
theorem dX10_throwIfRefused_65 : decode cX10_throwIfRefused 65 = .ok (.ldc_w 362, 3) := by decide +kernel
theorem dX10_throwIfRefused_68 : decode cX10_throwIfRefused 68 = .ok (.invokespecial 301, 3) := by decide +kernel
theorem dX10_throwIfRefused_71 : decode cX10_throwIfRefused 71 = .ok (.athrow, 1) := by decide +kernel
theorem dX10_throwIfRefused_72 : decode cX10_throwIfRefused 72 = .ok (.return_, 1) := by decide +kernel
set_option maxRecDepth 20000 in
theorem ggX10_carryOutUntilRefusal_X3_commandAt : GoodIn wsX10_carryOutUntilRefusal wsX3_commandAt := goodIn_ca (goodIn_r _ [7, 8, 9, 10, 11, 12, 13, 14, 15, 16, 17, 6, 18, 19, 20, 21, 22, 23, 24, 25, 26, 27, 28, 29, 30, 31, 32, 33, 34, 35, 36, 37, 38, 39, 40, 41, 42, 43, 44, 45, 46, 47, 48, 49, 50, 51, 52, 53, 54, 55, 56, 57, 58, 59, 60, 61, 62, 63, 64, 65, 66, 67, 68, 69, 70, 71, 72, 73, 74, 75, 76, 77, 78, 79, 80, 81, 82, 83, 272, 273, 274, 275, 276, 277, 278, 279, 280, 281, 282] (by decide +kernel) (by decide +kernel)) (goodIn_sub (fun _ h => List.mem_cons_of_mem _ (List.mem_append_left _ (List.mem_append_right _ h))) (by decide +kernel))
set_option maxRecDepth 20000 in
theorem gX10_carryOutUntilRefusal_X3_commandAt : GoodIn wsX10_carryOutUntilRefusal (wsV RX10 364 RX3 yX3_commandAt wsX3_commandAt) := goodIn_app (goodIn_of _ (by decide +kernel)) ggX10_carryOutUntilRefusal_X3_commandAt
set_option maxRecDepth 20000 in
theorem ggX10_carryOutUntilRefusal_X10_refusalOf : GoodIn wsX10_carryOutUntilRefusal wsX10_refusalOf := goodIn_ca (goodIn_r _ [88, 1, 89, 90, 2, 91, 92, 93, 6, 94, 19, 83, 95, 96, 97, 98, 99, 100, 101, 102, 103, 104, 105, 106, 107, 108, 109, 110, 111, 112, 113, 114, 115, 116, 117, 118, 119, 120, 121, 122, 123, 124, 125, 126, 127, 128, 129, 130, 131, 132, 133, 134, 135, 136, 137, 138, 139, 140, 141, 142, 143, 144, 145, 146, 147, 148, 149, 150, 151, 152, 153, 154, 155, 156, 157, 158, 159, 160, 161, 162, 163, 164, 165, 166, 167, 260, 261, 262, 263, 264, 265, 266, 267, 268, 269, 270, 271, 272, 273, 274, 275, 276, 277, 278, 283, 284, 285, 286, 287, 288, 289, 290, 291, 292] (by decide +kernel) (by decide +kernel)) (goodIn_sub (fun _ h => List.mem_cons_of_mem _ (List.mem_append_left _ (List.mem_append_right _ h))) (by decide +kernel))
set_option maxRecDepth 20000 in
theorem gX10_carryOutUntilRefusal_X10_refusalOf : GoodIn wsX10_carryOutUntilRefusal (wsV RX10 368 RX10 yX10_refusalOf wsX10_refusalOf) := goodIn_app (goodIn_of _ (by decide +kernel)) ggX10_carryOutUntilRefusal_X10_refusalOf
set_option maxRecDepth 20000 in
theorem ggX10_carryOutUntilRefusal_X10_carryOut : GoodIn wsX10_carryOutUntilRefusal wsX10_carryOut := goodIn_ca (goodIn_ca (goodIn_r _ [171, 1, 89, 90, 172, 173, 91, 92, 93, 6, 94, 19, 83, 95, 96, 97, 98, 99, 100, 101, 174, 175, 176, 123, 177, 125, 161, 178, 179, 180, 181, 182, 137, 183, 133, 134, 135, 136, 184, 185, 186, 187, 188, 189, 190, 191, 192, 193, 194, 13, 195, 196, 197, 198, 199, 200, 201, 202, 203, 204, 205, 206, 207, 208, 209, 210, 211, 212, 213, 214, 215, 216, 217, 218, 219, 220, 221, 156, 130, 131, 132, 222, 223, 224, 225, 226, 227, 228, 229, 230, 231, 232, 233, 234, 235, 166, 236, 237, 238, 239, 240, 241, 242, 153, 154, 155, 157, 158, 159, 160, 162, 163, 164, 165, 167, 243, 244, 245, 246, 247, 248, 249, 250, 251, 252, 253, 254, 255, 256, 257, 258, 259, 260, 261, 262, 263, 264, 265, 266, 267, 268, 269, 270, 271, 272, 273, 274, 275, 276, 277, 278, 283, 284, 285, 286, 287, 288, 289, 290, 291, 292, 293, 294, 295, 296, 297, 298] (by decide +kernel) (by decide +kernel)) (goodIn_sub (fun _ h => List.mem_cons_of_mem _ (List.mem_append_left _ (List.mem_append_right _ h))) (by decide +kernel))) (goodIn_sub (fun _ h => List.mem_cons_of_mem _ (List.mem_append_right _ h)) (by decide +kernel))
set_option maxRecDepth 20000 in
theorem gX10_carryOutUntilRefusal_X10_carryOut : GoodIn wsX10_carryOutUntilRefusal (wsV RX10 375 RX10 yX10_carryOut wsX10_carryOut) := goodIn_app (goodIn_of _ (by decide +kernel)) ggX10_carryOutUntilRefusal_X10_carryOut
theorem dX10_carryOutUntilRefusal_0 : decode cX10_carryOutUntilRefusal 0 = .ok (.iconst 0, 1) := by decide +kernel
theorem dX10_carryOutUntilRefusal_1 : decode cX10_carryOutUntilRefusal 1 = .ok (.istore_n 1, 1) := by decide +kernel
theorem dX10_carryOutUntilRefusal_2 : decode cX10_carryOutUntilRefusal 2 = .ok (.iconst 0, 1) := by decide +kernel
theorem dX10_carryOutUntilRefusal_3 : decode cX10_carryOutUntilRefusal 3 = .ok (.istore_n 2, 1) := by decide +kernel
theorem dX10_carryOutUntilRefusal_4 : decode cX10_carryOutUntilRefusal 4 = .ok (.iload_n 2, 1) := by decide +kernel
theorem dX10_carryOutUntilRefusal_5 : decode cX10_carryOutUntilRefusal 5 = .ok (.aload_n 0, 1) := by decide +kernel
theorem dX10_carryOutUntilRefusal_6 : decode cX10_carryOutUntilRefusal 6 = .ok (.getfield 53, 3) := by decide +kernel
theorem dX10_carryOutUntilRefusal_9 : decode cX10_carryOutUntilRefusal 9 = .ok (.getfield 294, 3) := by decide +kernel
theorem dX10_carryOutUntilRefusal_12 : decode cX10_carryOutUntilRefusal 12 = .ok (.if_icmp .ge 50, 3) := by decide +kernel
theorem dX10_carryOutUntilRefusal_15 : decode cX10_carryOutUntilRefusal 15 = .ok (.aload_n 0, 1) := by decide +kernel
theorem dX10_carryOutUntilRefusal_16 : decode cX10_carryOutUntilRefusal 16 = .ok (.getfield 53, 3) := by decide +kernel
theorem dX10_carryOutUntilRefusal_19 : decode cX10_carryOutUntilRefusal 19 = .ok (.iload_n 1, 1) := by decide +kernel
theorem dX10_carryOutUntilRefusal_20 : decode cX10_carryOutUntilRefusal 20 = .ok (.invokevirtual 364, 3) := by decide +kernel
theorem dX10_carryOutUntilRefusal_23 : decode cX10_carryOutUntilRefusal 23 = .ok (.astore_n 3, 1) := by decide +kernel
theorem dX10_carryOutUntilRefusal_24 : decode cX10_carryOutUntilRefusal 24 = .ok (.aload_n 3, 1) := by decide +kernel
theorem dX10_carryOutUntilRefusal_25 : decode cX10_carryOutUntilRefusal 25 = .ok (.ifnull 14, 3) := by decide +kernel
theorem dX10_carryOutUntilRefusal_28 : decode cX10_carryOutUntilRefusal 28 = .ok (.aload_n 0, 1) := by decide +kernel
theorem dX10_carryOutUntilRefusal_29 : decode cX10_carryOutUntilRefusal 29 = .ok (.aload_n 3, 1) := by decide +kernel
theorem dX10_carryOutUntilRefusal_30 : decode cX10_carryOutUntilRefusal 30 = .ok (.invokevirtual 368, 3) := by decide +kernel
theorem dX10_carryOutUntilRefusal_33 : decode cX10_carryOutUntilRefusal 33 = .ok (.getstatic 372, 3) := by decide +kernel
theorem dX10_carryOutUntilRefusal_36 : decode cX10_carryOutUntilRefusal 36 = .ok (.if_acmp .eq 5, 3) := by decide +kernel
theorem dX10_carryOutUntilRefusal_39 : decode cX10_carryOutUntilRefusal 39 = .ok (.iload_n 2, 1) := by decide +kernel
theorem dX10_carryOutUntilRefusal_40 : decode cX10_carryOutUntilRefusal 40 = .ok (.ireturn, 1) := by decide +kernel
theorem dX10_carryOutUntilRefusal_41 : decode cX10_carryOutUntilRefusal 41 = .ok (.aload_n 0, 1) := by decide +kernel
theorem dX10_carryOutUntilRefusal_42 : decode cX10_carryOutUntilRefusal 42 = .ok (.aload_n 3, 1) := by decide +kernel
theorem dX10_carryOutUntilRefusal_43 : decode cX10_carryOutUntilRefusal 43 = .ok (.invokevirtual 375, 3) := by decide +kernel
theorem dX10_carryOutUntilRefusal_46 : decode cX10_carryOutUntilRefusal 46 = .ok (.aload_n 0, 1) := by decide +kernel
theorem dX10_carryOutUntilRefusal_47 : decode cX10_carryOutUntilRefusal 47 = .ok (.getfield 53, 3) := by decide +kernel
theorem dX10_carryOutUntilRefusal_50 : decode cX10_carryOutUntilRefusal 50 = .ok (.getfield 379, 3) := by decide +kernel
theorem dX10_carryOutUntilRefusal_53 : decode cX10_carryOutUntilRefusal 53 = .ok (.iconst 1, 1) := by decide +kernel
theorem dX10_carryOutUntilRefusal_54 : decode cX10_carryOutUntilRefusal 54 = .ok (.iadd, 1) := by decide +kernel
theorem dX10_carryOutUntilRefusal_55 : decode cX10_carryOutUntilRefusal 55 = .ok (.istore_n 1, 1) := by decide +kernel
theorem dX10_carryOutUntilRefusal_56 : decode cX10_carryOutUntilRefusal 56 = .ok (.iinc 2 1, 3) := by decide +kernel
theorem dX10_carryOutUntilRefusal_59 : decode cX10_carryOutUntilRefusal 59 = .ok (.goto (-55), 3) := by decide +kernel
theorem dX10_carryOutUntilRefusal_62 : decode cX10_carryOutUntilRefusal 62 = .ok (.iconst (-1), 1) := by decide +kernel
theorem dX10_carryOutUntilRefusal_63 : decode cX10_carryOutUntilRefusal 63 = .ok (.ireturn, 1) := by decide +kernel
set_option maxRecDepth 20000 in
theorem ggX10_refusalOf_X3_numberAt : GoodIn wsX10_refusalOf wsX3_numberAt := goodIn_ca (goodIn_r _ [9, 10, 11, 97, 98, 99, 100, 101, 102, 103] (by decide +kernel) (by decide +kernel)) (goodIn_sub (fun _ h => List.mem_cons_of_mem _ (List.mem_append_right _ h)) (by decide +kernel))
set_option maxRecDepth 20000 in
theorem gX10_refusalOf_X3_numberAt : GoodIn wsX10_refusalOf (wsV RX10 382 RX3 yX3_numberAt wsX3_numberAt) := goodIn_app (goodIn_of _ (by decide +kernel)) ggX10_refusalOf_X3_numberAt
set_option maxRecDepth 20000 in
theorem ggX10_refusalOf_Jx29ce0_ordinal_8abf5 : GoodIn wsX10_refusalOf wsJx29ce0_ordinal_8abf5 := goodIn_r _ [17, 18] (by decide +kernel) (by decide +kernel)
set_option maxRecDepth 20000 in
theorem gX10_refusalOf_Jx29ce0_ordinal_8abf5_u390X2 : GoodIn wsX10_refusalOf (va_wsU RX10 390 RX2 "java/lang/Enum" ⟨"DebtClearing$Command", "ordinal", "()I"⟩ yJx29ce0_ordinal_8abf5 wsJx29ce0_ordinal_8abf5) := goodIn_app (goodIn_of _ (by decide +kernel)) ggX10_refusalOf_Jx29ce0_ordinal_8abf5
set_option maxRecDepth 20000 in
theorem ggX10_refusalOf_X9_onJoining : GoodIn wsX10_refusalOf wsX9_onJoining := goodIn_r _ [22, 23, 24, 104, 105, 106, 107, 108, 109, 110, 111, 112, 113] (by decide +kernel) (by decide +kernel)
set_option maxRecDepth 20000 in
theorem gX10_refusalOf_X9_onJoining : GoodIn wsX10_refusalOf (va_wsS RX10 75 yX9_onJoining wsX9_onJoining) := goodIn_app (goodIn_of _ (by decide +kernel)) ggX10_refusalOf_X9_onJoining
set_option maxRecDepth 20000 in
theorem ggX10_refusalOf_X9_onDebt : GoodIn wsX10_refusalOf wsX9_onDebt := goodIn_ca (goodIn_r _ [27, 23, 24, 28, 29, 30, 21, 31, 32, 33, 34, 35, 36, 37, 38, 39, 40, 41, 42, 43, 44, 45, 46, 47, 48, 49, 50, 51, 52, 53, 54, 104, 105, 106, 107, 108, 109, 110, 111, 112, 113] (by decide +kernel) (by decide +kernel)) (goodIn_sub (fun _ h => List.mem_cons_of_mem _ (List.mem_append_right _ h)) (by decide +kernel))
set_option maxRecDepth 20000 in
theorem gX10_refusalOf_X9_onDebt : GoodIn wsX10_refusalOf (va_wsS RX10 93 yX9_onDebt wsX9_onDebt) := goodIn_app (goodIn_of _ (by decide +kernel)) ggX10_refusalOf_X9_onDebt
set_option maxRecDepth 20000 in
theorem ggX10_refusalOf_X9_onPayment : GoodIn wsX10_refusalOf wsX9_onPayment := goodIn_ca (goodIn_r _ [57, 23, 24, 28, 29, 30, 21, 31, 32, 33, 34, 35, 36, 37, 38, 39, 40, 41, 42, 43, 44, 45, 58, 51, 52, 53, 54, 104, 105, 106, 107, 108, 109, 110, 111, 112, 113] (by decide +kernel) (by decide +kernel)) (goodIn_sub (fun _ h => List.mem_cons_of_mem _ (List.mem_append_right _ h)) (by decide +kernel))
set_option maxRecDepth 20000 in
theorem gX10_refusalOf_X9_onPayment : GoodIn wsX10_refusalOf (va_wsS RX10 101 yX9_onPayment wsX9_onPayment) := goodIn_app (goodIn_of _ (by decide +kernel)) ggX10_refusalOf_X9_onPayment
set_option maxRecDepth 20000 in
theorem ggX10_refusalOf_X9_onPair : GoodIn wsX10_refusalOf wsX9_onPair := goodIn_r _ [35, 36, 32, 23, 37, 38, 39, 40, 41, 42, 104, 105, 106, 107, 108, 109, 110, 111, 112, 113] (by decide +kernel) (by decide +kernel)
set_option maxRecDepth 20000 in
theorem gX10_refusalOf_X9_onPair : GoodIn wsX10_refusalOf (va_wsS RX10 107 yX9_onPair wsX9_onPair) := goodIn_app (goodIn_of _ (by decide +kernel)) ggX10_refusalOf_X9_onPair
set_option maxRecDepth 20000 in
theorem ggX10_refusalOf_X9_onTriangle : GoodIn wsX10_refusalOf wsX9_onTriangle := goodIn_ca (goodIn_r _ [62, 36, 32, 23, 24, 37, 38, 39, 40, 41, 42, 58, 51, 52, 53, 54, 104, 105, 106, 107, 108, 109, 110, 111, 112, 113] (by decide +kernel) (by decide +kernel)) (goodIn_sub (fun _ h => List.mem_cons_of_mem _ (List.mem_append_right _ h)) (by decide +kernel))
set_option maxRecDepth 20000 in
theorem gX10_refusalOf_X9_onTriangle : GoodIn wsX10_refusalOf (va_wsS RX10 115 yX9_onTriangle wsX9_onTriangle) := goodIn_app (goodIn_of _ (by decide +kernel)) ggX10_refusalOf_X9_onTriangle
set_option maxRecDepth 20000 in
theorem ggX10_refusalOf_X9_onPledge : GoodIn wsX10_refusalOf wsX9_onPledge := goodIn_ca (goodIn_r _ [65, 36, 32, 24, 23, 37, 38, 39, 40, 41, 42, 43, 44, 21, 45, 104, 105, 106, 107, 108, 109, 110, 111, 112, 113] (by decide +kernel) (by decide +kernel)) (goodIn_sub (fun _ h => List.mem_cons_of_mem _ (List.mem_append_right _ h)) (by decide +kernel))
set_option maxRecDepth 20000 in
theorem gX10_refusalOf_X9_onPledge : GoodIn wsX10_refusalOf (va_wsS RX10 125 yX9_onPledge wsX9_onPledge) := goodIn_app (goodIn_of _ (by decide +kernel)) ggX10_refusalOf_X9_onPledge
set_option maxRecDepth 20000 in
theorem ggX10_refusalOf_X9_onDefault : GoodIn wsX10_refusalOf wsX9_onDefault := goodIn_ca (goodIn_r _ [68, 36, 23, 24, 37, 38, 39, 40, 41, 42, 69, 70, 71, 72, 73, 47, 48, 49, 50, 51, 52, 53, 54, 74, 75, 76, 77, 78, 79, 80, 81, 82, 83, 84, 104, 105, 106, 107, 108, 109, 110, 111, 112, 113] (by decide +kernel) (by decide +kernel)) (goodIn_sub (fun _ h => List.mem_cons_of_mem _ (List.mem_append_right _ h)) (by decide +kernel))
set_option maxRecDepth 20000 in
theorem gX10_refusalOf_X9_onDefault : GoodIn wsX10_refusalOf (va_wsS RX10 145 yX9_onDefault wsX9_onDefault) := goodIn_app (goodIn_of _ (by decide +kernel)) ggX10_refusalOf_X9_onDefault
theorem dX10_refusalOf_0 : decode cX10_refusalOf 0 = .ok (.aload_n 0, 1) := by decide +kernel
theorem dX10_refusalOf_1 : decode cX10_refusalOf 1 = .ok (.getfield 53, 3) := by decide +kernel
theorem dX10_refusalOf_4 : decode cX10_refusalOf 4 = .ok (.iconst 0, 1) := by decide +kernel
theorem dX10_refusalOf_5 : decode cX10_refusalOf 5 = .ok (.invokevirtual 382, 3) := by decide +kernel
theorem dX10_refusalOf_8 : decode cX10_refusalOf 8 = .ok (.istore_n 2, 1) := by decide +kernel
theorem dX10_refusalOf_9 : decode cX10_refusalOf 9 = .ok (.aload_n 0, 1) := by decide +kernel
theorem dX10_refusalOf_10 : decode cX10_refusalOf 10 = .ok (.getfield 53, 3) := by decide +kernel
theorem dX10_refusalOf_13 : decode cX10_refusalOf 13 = .ok (.iconst 1, 1) := by decide +kernel
theorem dX10_refusalOf_14 : decode cX10_refusalOf 14 = .ok (.invokevirtual 382, 3) := by decide +kernel
theorem dX10_refusalOf_17 : decode cX10_refusalOf 17 = .ok (.istore_n 3, 1) := by decide +kernel
theorem dX10_refusalOf_18 : decode cX10_refusalOf 18 = .ok (.aload_n 0, 1) := by decide +kernel
theorem dX10_refusalOf_19 : decode cX10_refusalOf 19 = .ok (.getfield 53, 3) := by decide +kernel
theorem dX10_refusalOf_22 : decode cX10_refusalOf 22 = .ok (.iconst 2, 1) := by decide +kernel
theorem dX10_refusalOf_23 : decode cX10_refusalOf 23 = .ok (.invokevirtual 382, 3) := by decide +kernel
theorem dX10_refusalOf_26 : decode cX10_refusalOf 26 = .ok (.istore 4, 2) := by decide +kernel
theorem dX10_refusalOf_28 : decode cX10_refusalOf 28 = .ok (.getstatic 385, 3) := by decide +kernel
theorem dX10_refusalOf_31 : decode cX10_refusalOf 31 = .ok (.aload_n 1, 1) := by decide +kernel
theorem dX10_refusalOf_32 : decode cX10_refusalOf 32 = .ok (.invokevirtual 390, 3) := by decide +kernel
theorem dX10_refusalOf_35 : decode cX10_refusalOf 35 = .ok (.iaload, 1) := by decide +kernel
theorem dX10_refusalOf_36 : decode cX10_refusalOf 36 = .ok (.tableswitch 117 1 7 #[44, 52, 64, 76, 86, 98, 108], 44) := by decide +kernel
theorem dX10_refusalOf_80 : decode cX10_refusalOf 80 = .ok (.aload_n 0, 1) := by decide +kernel
theorem dX10_refusalOf_81 : decode cX10_refusalOf 81 = .ok (.getfield 10, 3) := by decide +kernel
theorem dX10_refusalOf_84 : decode cX10_refusalOf 84 = .ok (.invokestatic 75, 3) := by decide +kernel
theorem dX10_refusalOf_87 : decode cX10_refusalOf 87 = .ok (.areturn, 1) := by decide +kernel
theorem dX10_refusalOf_88 : decode cX10_refusalOf 88 = .ok (.aload_n 0, 1) := by decide +kernel
theorem dX10_refusalOf_89 : decode cX10_refusalOf 89 = .ok (.getfield 10, 3) := by decide +kernel
theorem dX10_refusalOf_92 : decode cX10_refusalOf 92 = .ok (.iload_n 2, 1) := by decide +kernel
theorem dX10_refusalOf_93 : decode cX10_refusalOf 93 = .ok (.iload_n 3, 1) := by decide +kernel
theorem dX10_refusalOf_94 : decode cX10_refusalOf 94 = .ok (.iload 4, 2) := by decide +kernel
theorem dX10_refusalOf_96 : decode cX10_refusalOf 96 = .ok (.invokestatic 93, 3) := by decide +kernel
theorem dX10_refusalOf_99 : decode cX10_refusalOf 99 = .ok (.areturn, 1) := by decide +kernel
theorem dX10_refusalOf_100 : decode cX10_refusalOf 100 = .ok (.aload_n 0, 1) := by decide +kernel
theorem dX10_refusalOf_101 : decode cX10_refusalOf 101 = .ok (.getfield 10, 3) := by decide +kernel
theorem dX10_refusalOf_104 : decode cX10_refusalOf 104 = .ok (.iload_n 2, 1) := by decide +kernel
theorem dX10_refusalOf_105 : decode cX10_refusalOf 105 = .ok (.iload_n 3, 1) := by decide +kernel
theorem dX10_refusalOf_106 : decode cX10_refusalOf 106 = .ok (.iload 4, 2) := by decide +kernel
theorem dX10_refusalOf_108 : decode cX10_refusalOf 108 = .ok (.invokestatic 101, 3) := by decide +kernel
theorem dX10_refusalOf_111 : decode cX10_refusalOf 111 = .ok (.areturn, 1) := by decide +kernel
theorem dX10_refusalOf_112 : decode cX10_refusalOf 112 = .ok (.aload_n 0, 1) := by decide +kernel
theorem dX10_refusalOf_113 : decode cX10_refusalOf 113 = .ok (.getfield 10, 3) := by decide +kernel
theorem dX10_refusalOf_116 : decode cX10_refusalOf 116 = .ok (.iload_n 2, 1) := by decide +kernel
theorem dX10_refusalOf_117 : decode cX10_refusalOf 117 = .ok (.iload_n 3, 1) := by decide +kernel
theorem dX10_refusalOf_118 : decode cX10_refusalOf 118 = .ok (.invokestatic 107, 3) := by decide +kernel
theorem dX10_refusalOf_121 : decode cX10_refusalOf 121 = .ok (.areturn, 1) := by decide +kernel
theorem dX10_refusalOf_122 : decode cX10_refusalOf 122 = .ok (.aload_n 0, 1) := by decide +kernel
theorem dX10_refusalOf_123 : decode cX10_refusalOf 123 = .ok (.getfield 10, 3) := by decide +kernel
theorem dX10_refusalOf_126 : decode cX10_refusalOf 126 = .ok (.iload_n 2, 1) := by decide +kernel
theorem dX10_refusalOf_127 : decode cX10_refusalOf 127 = .ok (.iload_n 3, 1) := by decide +kernel
theorem dX10_refusalOf_128 : decode cX10_refusalOf 128 = .ok (.iload 4, 2) := by decide +kernel
theorem dX10_refusalOf_130 : decode cX10_refusalOf 130 = .ok (.invokestatic 115, 3) := by decide +kernel
theorem dX10_refusalOf_133 : decode cX10_refusalOf 133 = .ok (.areturn, 1) := by decide +kernel
theorem dX10_refusalOf_134 : decode cX10_refusalOf 134 = .ok (.aload_n 0, 1) := by decide +kernel
theorem dX10_refusalOf_135 : decode cX10_refusalOf 135 = .ok (.getfield 10, 3) := by decide +kernel
theorem dX10_refusalOf_138 : decode cX10_refusalOf 138 = .ok (.iload_n 2, 1) := by decide +kernel
theorem dX10_refusalOf_139 : decode cX10_refusalOf 139 = .ok (.iload_n 3, 1) := by decide +kernel
theorem dX10_refusalOf_140 : decode cX10_refusalOf 140 = .ok (.invokestatic 125, 3) := by decide +kernel
theorem dX10_refusalOf_143 : decode cX10_refusalOf 143 = .ok (.areturn, 1) := by decide +kernel
theorem dX10_refusalOf_144 : decode cX10_refusalOf 144 = .ok (.aload_n 0, 1) := by decide +kernel
theorem dX10_refusalOf_145 : decode cX10_refusalOf 145 = .ok (.getfield 10, 3) := by decide +kernel
theorem dX10_refusalOf_148 : decode cX10_refusalOf 148 = .ok (.iload_n 2, 1) := by decide +kernel
theorem dX10_refusalOf_149 : decode cX10_refusalOf 149 = .ok (.invokestatic 145, 3) := by decide +kernel
theorem dX10_refusalOf_152 : decode cX10_refusalOf 152 = .ok (.areturn, 1) := by decide +kernel
theorem dX10_refusalOf_153 : decode cX10_refusalOf 153 = .ok (.getstatic 372, 3) := by decide +kernel
theorem dX10_refusalOf_156 : decode cX10_refusalOf 156 = .ok (.areturn, 1) := by decide +kernel
set_option maxRecDepth 20000 in
theorem ggX10_carryOut_X3_numberAt : GoodIn wsX10_carryOut wsX3_numberAt := goodIn_ca (goodIn_r _ [10, 11, 12, 144, 145, 146, 147, 148, 149, 150] (by decide +kernel) (by decide +kernel)) (goodIn_sub (fun _ h => List.mem_cons_of_mem _ (List.mem_append_left _ (List.mem_append_right _ h))) (by decide +kernel))
set_option maxRecDepth 20000 in
theorem gX10_carryOut_X3_numberAt : GoodIn wsX10_carryOut (wsV RX10 382 RX3 yX3_numberAt wsX3_numberAt) := goodIn_app (goodIn_of _ (by decide +kernel)) ggX10_carryOut_X3_numberAt
set_option maxRecDepth 20000 in
theorem ggX10_carryOut_Jx29ce0_ordinal_8abf5 : GoodIn wsX10_carryOut wsJx29ce0_ordinal_8abf5 := goodIn_r _ [18, 19] (by decide +kernel) (by decide +kernel)
set_option maxRecDepth 20000 in
theorem gX10_carryOut_Jx29ce0_ordinal_8abf5_u390X2 : GoodIn wsX10_carryOut (va_wsU RX10 390 RX2 "java/lang/Enum" ⟨"DebtClearing$Command", "ordinal", "()I"⟩ yJx29ce0_ordinal_8abf5 wsJx29ce0_ordinal_8abf5) := goodIn_app (goodIn_of _ (by decide +kernel)) ggX10_carryOut_Jx29ce0_ordinal_8abf5
set_option maxRecDepth 20000 in
theorem ggX10_carryOut_X5_join : GoodIn wsX10_carryOut wsX5_join := goodIn_ca (goodIn_r _ [24, 25, 26, 27, 151, 152, 153, 154, 155, 156, 157, 158, 159, 160] (by decide +kernel) (by decide +kernel)) (goodIn_sub (fun _ h => List.mem_cons_of_mem _ (List.mem_append_left _ (List.mem_append_right _ h))) (by decide +kernel))
set_option maxRecDepth 20000 in
theorem gX10_carryOut_X5_join : GoodIn wsX10_carryOut (wsV RX10 89 RX5 yX5_join wsX5_join) := goodIn_app (goodIn_of _ (by decide +kernel)) ggX10_carryOut_X5_join
set_option maxRecDepth 20000 in
theorem ggX10_carryOut_X5_changeDebt : GoodIn wsX10_carryOut wsX5_changeDebt := goodIn_ca (goodIn_r _ [31, 32, 33, 34, 35, 36, 23, 37, 151, 152, 153, 154, 155, 156, 157, 158, 159, 160] (by decide +kernel) (by decide +kernel)) (goodIn_sub (fun _ h => List.mem_cons_of_mem _ (List.mem_append_left _ (List.mem_append_right _ h))) (by decide +kernel))
set_option maxRecDepth 20000 in
theorem gX10_carryOut_X5_changeDebt : GoodIn wsX10_carryOut (wsV RX10 97 RX5 yX5_changeDebt wsX5_changeDebt) := goodIn_app (goodIn_of _ (by decide +kernel)) ggX10_carryOut_X5_changeDebt
set_option maxRecDepth 20000 in
theorem ggX10_carryOut_X5_payDebt : GoodIn wsX10_carryOut wsX5_payDebt := goodIn_ca (goodIn_r _ [41, 26, 42, 29, 30, 23, 31, 32, 33, 34, 35, 36, 37, 151, 152, 153, 154, 155, 156, 157, 158, 159, 160] (by decide +kernel) (by decide +kernel)) (goodIn_sub (fun _ h => List.mem_cons_of_mem _ (List.mem_append_left _ (List.mem_append_right _ h))) (by decide +kernel))
set_option maxRecDepth 20000 in
theorem gX10_carryOut_X5_payDebt : GoodIn wsX10_carryOut (wsV RX10 104 RX5 yX5_payDebt wsX5_payDebt) := goodIn_app (goodIn_of _ (by decide +kernel)) ggX10_carryOut_X5_payDebt
set_option maxRecDepth 20000 in
theorem ggX10_carryOut_X5_netTwo : GoodIn wsX10_carryOut wsX5_netTwo := goodIn_ca (goodIn_r _ [46, 47, 48, 49, 50, 51, 34, 35, 36, 23, 37, 32, 42, 29, 30, 31, 33, 151, 152, 153, 154, 155, 156, 157, 158, 159, 160] (by decide +kernel) (by decide +kernel)) (goodIn_sub (fun _ h => List.mem_cons_of_mem _ (List.mem_append_left _ (List.mem_append_right _ h))) (by decide +kernel))
set_option maxRecDepth 20000 in
theorem gX10_carryOut_X5_netTwo : GoodIn wsX10_carryOut (wsV RX10 111 RX5 yX5_netTwo wsX5_netTwo) := goodIn_app (goodIn_of _ (by decide +kernel)) ggX10_carryOut_X5_netTwo
set_option maxRecDepth 20000 in
theorem ggX10_carryOut_X5_netThree : GoodIn wsX10_carryOut wsX5_netThree := goodIn_ca (goodIn_r _ [55, 47, 48, 49, 50, 51, 34, 35, 36, 23, 37, 32, 42, 29, 30, 31, 33, 151, 152, 153, 154, 155, 156, 157, 158, 159, 160] (by decide +kernel) (by decide +kernel)) (goodIn_sub (fun _ h => List.mem_cons_of_mem _ (List.mem_append_left _ (List.mem_append_right _ h))) (by decide +kernel))
set_option maxRecDepth 20000 in
theorem gX10_carryOut_X5_netThree : GoodIn wsX10_carryOut (wsV RX10 118 RX5 yX5_netThree wsX5_netThree) := goodIn_app (goodIn_of _ (by decide +kernel)) ggX10_carryOut_X5_netThree
set_option maxRecDepth 20000 in
theorem ggX10_carryOut_X1_replaceDebts : GoodIn wsX10_carryOut wsX1_replaceDebts := goodIn_ca (goodIn_r _ [60, 61, 62, 63, 64, 65, 66, 59, 67, 68, 69, 70, 71, 23, 72, 73, 74, 75, 76, 34, 35, 36, 37, 32, 77, 78, 79, 80, 81, 82, 83, 84, 42, 29, 30, 31, 33, 85, 86, 87, 88, 89, 48, 49, 50, 90, 161, 162, 163, 164, 151, 152, 153, 154, 155, 156, 157, 158, 159, 160] (by decide +kernel) (by decide +kernel)) (goodIn_sub (fun _ h => List.mem_cons_of_mem _ (List.mem_append_left _ (List.mem_append_right _ h))) (by decide +kernel))
set_option maxRecDepth 20000 in
theorem gX10_carryOut_X1_replaceDebts : GoodIn wsX10_carryOut (wsV RX10 121 RX1 yX1_replaceDebts wsX1_replaceDebts) := goodIn_app (goodIn_of _ (by decide +kernel)) ggX10_carryOut_X1_replaceDebts
set_option maxRecDepth 20000 in
theorem ggX10_carryOut_X5_addCollateral : GoodIn wsX10_carryOut wsX5_addCollateral := goodIn_ca (goodIn_r _ [94, 95, 151, 152, 153, 154, 155, 156, 157, 158, 159, 160] (by decide +kernel) (by decide +kernel)) (goodIn_sub (fun _ h => List.mem_cons_of_mem _ (List.mem_append_left _ (List.mem_append_right _ h))) (by decide +kernel))
set_option maxRecDepth 20000 in
theorem gX10_carryOut_X5_addCollateral : GoodIn wsX10_carryOut (wsV RX10 128 RX5 yX5_addCollateral wsX5_addCollateral) := goodIn_app (goodIn_of _ (by decide +kernel)) ggX10_carryOut_X5_addCollateral
