theorem dJ9_max_7cf53_0 : decode cJ9_max_7cf53 0 = .ok (.iload_n 0, 1) := by decide +kernel
theorem dJ9_max_7cf53_1 : decode cJ9_max_7cf53 1 = .ok (.iload_n 1, 1) := by decide +kernel
theorem dJ9_max_7cf53_2 : decode cJ9_max_7cf53 2 = .ok (.if_icmp .lt 7, 3) := by decide +kernel
theorem dJ9_max_7cf53_5 : decode cJ9_max_7cf53 5 = .ok (.iload_n 0, 1) := by decide +kernel
theorem dJ9_max_7cf53_6 : decode cJ9_max_7cf53 6 = .ok (.goto 4, 3) := by decide +kernel
theorem dJ9_max_7cf53_9 : decode cJ9_max_7cf53 9 = .ok (.iload_n 1, 1) := by decide +kernel
theorem dJ9_max_7cf53_10 : decode cJ9_max_7cf53 10 = .ok (.ireturn, 1) := by decide +kernel
theorem dJ9_min_7cf53_0 : decode cJ9_min_7cf53 0 = .ok (.iload_n 0, 1) := by decide +kernel
theorem dJ9_min_7cf53_1 : decode cJ9_min_7cf53 1 = .ok (.iload_n 1, 1) := by decide +kernel
theorem dJ9_min_7cf53_2 : decode cJ9_min_7cf53 2 = .ok (.if_icmp .gt 7, 3) := by decide +kernel
theorem dJ9_min_7cf53_5 : decode cJ9_min_7cf53 5 = .ok (.iload_n 0, 1) := by decide +kernel
theorem dJ9_min_7cf53_6 : decode cJ9_min_7cf53 6 = .ok (.goto 4, 3) := by decide +kernel
theorem dJ9_min_7cf53_9 : decode cJ9_min_7cf53 9 = .ok (.iload_n 1, 1) := by decide +kernel
theorem dJ9_min_7cf53_10 : decode cJ9_min_7cf53 10 = .ok (.ireturn, 1) := by decide +kernel
set_option maxRecDepth 20000 in
theorem ggL_buy_X5_buy : GoodIn wsL_buy wsX5_buy := goodIn_ca (goodIn_ca (goodIn_ca (goodIn_r _ [8, 9, 10, 11, 12, 13, 7, 14, 15, 16, 17, 18, 19, 20, 21, 22, 23, 24, 25, 26, 27, 28, 29, 30, 31, 32, 33, 34, 35, 36, 37, 38, 39, 40, 41, 42, 43, 44, 45, 46, 47, 48, 49, 50, 51, 52, 53, 54, 55, 56, 57, 58, 59, 60, 61, 62, 63, 64, 65, 66, 67, 68, 69, 70, 71, 72, 73, 74, 75, 76, 77, 78, 79, 80, 81, 82, 83, 84, 85, 86, 87, 88, 89, 90, 91, 92, 93, 94, 95, 96, 97, 98, 99, 100, 101, 102, 103, 104, 105, 106, 107, 108, 109, 110, 111, 112, 113, 114, 115, 116, 117, 118, 119, 120, 121, 122, 123, 124, 125, 126, 127, 128, 129, 130, 131, 132, 133, 134, 135, 136, 137, 138, 139, 140, 141, 142, 143, 144, 145, 146, 147, 148, 149, 150, 151, 152, 153, 154, 155, 156, 157, 158, 159, 160, 161, 162, 163, 164, 165, 166, 167, 168, 169, 170, 171, 172, 173, 174, 175, 176, 177, 178, 179, 180, 181] (by decide +kernel) (by decide +kernel)) (goodIn_sub (fun _ h => List.mem_cons_of_mem _ (List.mem_append_left _ (List.mem_append_left _ (List.mem_append_right _ h)))) (by decide +kernel))) (goodIn_sub (fun _ h => List.mem_cons_of_mem _ (List.mem_append_left _ (List.mem_append_right _ h))) (by decide +kernel))) (goodIn_sub (fun _ h => List.mem_cons_of_mem _ (List.mem_append_right _ h)) (by decide +kernel))
set_option maxRecDepth 20000 in
theorem gL_buy_X5_buy : GoodIn wsL_buy (wsV RL 7 RX5 yX5_buy wsX5_buy) := goodIn_app (goodIn_of _ (by decide +kernel)) ggL_buy_X5_buy
theorem dL_buy_0 : decode cL_buy 0 = .ok (.aload 5, 2) := by decide +kernel
theorem dL_buy_2 : decode cL_buy 2 = .ok (.iconst 0, 1) := by decide +kernel
theorem dL_buy_3 : decode cL_buy 3 = .ok (.aload_n 0, 1) := by decide +kernel
theorem dL_buy_4 : decode cL_buy 4 = .ok (.iload_n 1, 1) := by decide +kernel
theorem dL_buy_5 : decode cL_buy 5 = .ok (.iload_n 2, 1) := by decide +kernel
theorem dL_buy_6 : decode cL_buy 6 = .ok (.iload_n 3, 1) := by decide +kernel
theorem dL_buy_7 : decode cL_buy 7 = .ok (.iload 4, 2) := by decide +kernel
theorem dL_buy_9 : decode cL_buy 9 = .ok (.invokevirtual 7, 3) := by decide +kernel
theorem dL_buy_12 : decode cL_buy 12 = .ok (.i2l, 1) := by decide +kernel
theorem dL_buy_13 : decode cL_buy 13 = .ok (.lastore, 1) := by decide +kernel
theorem dL_buy_14 : decode cL_buy 14 = .ok (.goto 15, 3) := by decide +kernel
theorem dL_buy_17 : decode cL_buy 17 = .ok (.astore 6, 2) := by decide +kernel
theorem dL_buy_19 : decode cL_buy 19 = .ok (.iconst 1, 1) := by decide +kernel
theorem dL_buy_20 : decode cL_buy 20 = .ok (.ireturn, 1) := by decide +kernel
theorem dL_buy_21 : decode cL_buy 21 = .ok (.astore 6, 2) := by decide +kernel
theorem dL_buy_23 : decode cL_buy 23 = .ok (.iconst 2, 1) := by decide +kernel
theorem dL_buy_24 : decode cL_buy 24 = .ok (.ireturn, 1) := by decide +kernel
theorem dL_buy_25 : decode cL_buy 25 = .ok (.astore 6, 2) := by decide +kernel
theorem dL_buy_27 : decode cL_buy 27 = .ok (.iconst 3, 1) := by decide +kernel
theorem dL_buy_28 : decode cL_buy 28 = .ok (.ireturn, 1) := by decide +kernel
theorem dL_buy_29 : decode cL_buy 29 = .ok (.iconst 0, 1) := by decide +kernel
theorem dL_buy_30 : decode cL_buy 30 = .ok (.ireturn, 1) := by decide +kernel
set_option maxRecDepth 20000 in
theorem ggL_sell_X5_sell : GoodIn wsL_sell wsX5_sell := goodIn_ca (goodIn_ca (goodIn_ca (goodIn_r _ [8, 9, 10, 11, 12, 13, 7, 14, 15, 16, 17, 18, 19, 20, 21, 22, 23, 24, 25, 26, 27, 28, 29, 30, 31, 32, 33, 34, 35, 36, 37, 38, 39, 40, 41, 42, 43, 44, 45, 46, 47, 48, 49, 50, 51, 52, 53, 54, 55, 56, 57, 58, 59, 60, 61, 62, 63, 64, 65, 66, 67, 68, 69, 70, 71, 72, 73, 74, 75, 76, 77, 78, 79, 80, 81, 82, 83, 84, 85, 86, 87, 88, 89, 90, 91, 92, 93, 94, 95, 96, 97, 98, 99, 100, 101, 102, 103, 104, 105, 106, 107, 108, 109, 110, 111, 112, 113, 114, 115, 116, 117, 118, 119, 120, 121, 122, 123, 124, 125, 126, 127, 128, 129, 130, 131, 132, 133, 134, 135, 136, 137, 138, 139, 140, 141, 142, 143, 144, 145, 146, 147, 148, 149, 150, 151, 152, 153, 154, 155, 156, 157, 158, 159, 160, 161, 162, 163, 164, 165, 166, 167, 168, 169, 170, 171, 172, 173, 174, 175, 176, 177, 178, 179, 180, 181, 182, 183, 184, 185, 186, 187, 188, 189] (by decide +kernel) (by decide +kernel)) (goodIn_sub (fun _ h => List.mem_cons_of_mem _ (List.mem_append_left _ (List.mem_append_left _ (List.mem_append_right _ h)))) (by decide +kernel))) (goodIn_sub (fun _ h => List.mem_cons_of_mem _ (List.mem_append_left _ (List.mem_append_right _ h))) (by decide +kernel))) (goodIn_sub (fun _ h => List.mem_cons_of_mem _ (List.mem_append_right _ h)) (by decide +kernel))
set_option maxRecDepth 20000 in
theorem gL_sell_X5_sell : GoodIn wsL_sell (wsV RL 19 RX5 yX5_sell wsX5_sell) := goodIn_app (goodIn_of _ (by decide +kernel)) ggL_sell_X5_sell
theorem dL_sell_0 : decode cL_sell 0 = .ok (.aload 5, 2) := by decide +kernel
theorem dL_sell_2 : decode cL_sell 2 = .ok (.iconst 0, 1) := by decide +kernel
theorem dL_sell_3 : decode cL_sell 3 = .ok (.aload_n 0, 1) := by decide +kernel
theorem dL_sell_4 : decode cL_sell 4 = .ok (.iload_n 1, 1) := by decide +kernel
theorem dL_sell_5 : decode cL_sell 5 = .ok (.iload_n 2, 1) := by decide +kernel
theorem dL_sell_6 : decode cL_sell 6 = .ok (.iload_n 3, 1) := by decide +kernel
theorem dL_sell_7 : decode cL_sell 7 = .ok (.iload 4, 2) := by decide +kernel
theorem dL_sell_9 : decode cL_sell 9 = .ok (.invokevirtual 19, 3) := by decide +kernel
theorem dL_sell_12 : decode cL_sell 12 = .ok (.i2l, 1) := by decide +kernel
theorem dL_sell_13 : decode cL_sell 13 = .ok (.lastore, 1) := by decide +kernel
theorem dL_sell_14 : decode cL_sell 14 = .ok (.goto 15, 3) := by decide +kernel
theorem dL_sell_17 : decode cL_sell 17 = .ok (.astore 6, 2) := by decide +kernel
theorem dL_sell_19 : decode cL_sell 19 = .ok (.iconst 1, 1) := by decide +kernel
theorem dL_sell_20 : decode cL_sell 20 = .ok (.ireturn, 1) := by decide +kernel
theorem dL_sell_21 : decode cL_sell 21 = .ok (.astore 6, 2) := by decide +kernel
theorem dL_sell_23 : decode cL_sell 23 = .ok (.iconst 2, 1) := by decide +kernel
theorem dL_sell_24 : decode cL_sell 24 = .ok (.ireturn, 1) := by decide +kernel
theorem dL_sell_25 : decode cL_sell 25 = .ok (.astore 6, 2) := by decide +kernel
theorem dL_sell_27 : decode cL_sell 27 = .ok (.iconst 3, 1) := by decide +kernel
theorem dL_sell_28 : decode cL_sell 28 = .ok (.ireturn, 1) := by decide +kernel
theorem dL_sell_29 : decode cL_sell 29 = .ok (.iconst 0, 1) := by decide +kernel
theorem dL_sell_30 : decode cL_sell 30 = .ok (.ireturn, 1) := by decide +kernel
set_option maxRecDepth 20000 in
theorem ggL_split_X5_split : GoodIn wsL_split wsX5_split := goodIn_ca (goodIn_ca (goodIn_ca (goodIn_r _ [8, 9, 10, 11, 12, 13, 14, 15, 16, 17, 7, 18, 19, 20, 21, 22, 23, 24, 25, 26, 27, 28, 29, 30, 31, 32, 33, 34, 35, 36, 37, 38, 39, 40, 41, 42, 43, 44, 45, 46, 47, 48, 49, 50, 51, 52, 53, 54, 55, 56, 57, 58, 59, 60, 61, 62, 63, 64, 65, 66, 67, 68, 69, 70, 71, 72, 73, 74, 75, 76, 77, 78, 79, 80, 81, 82, 83, 84, 85, 86, 87, 88, 89, 90, 91, 92, 93, 94, 95, 96, 97, 98, 99, 100, 101, 102, 103, 104, 105, 106, 107, 108, 109, 110, 111, 112, 113, 114, 115, 116, 117, 118, 119, 120, 121, 122, 123, 124, 125, 126, 127, 128, 129, 130, 131, 132, 133, 134, 135, 136, 137, 138, 139, 140, 141, 142, 143, 144, 145, 146, 147, 148, 149, 150, 151, 152, 153, 154, 155, 156, 157, 158, 159, 160, 161, 162, 163, 164, 165, 166, 167, 168, 169] (by decide +kernel) (by decide +kernel)) (goodIn_sub (fun _ h => List.mem_cons_of_mem _ (List.mem_append_left _ (List.mem_append_left _ (List.mem_append_right _ h)))) (by decide +kernel))) (goodIn_sub (fun _ h => List.mem_cons_of_mem _ (List.mem_append_left _ (List.mem_append_right _ h))) (by decide +kernel))) (goodIn_sub (fun _ h => List.mem_cons_of_mem _ (List.mem_append_right _ h)) (by decide +kernel))
set_option maxRecDepth 20000 in
theorem gL_split_X5_split : GoodIn wsL_split (wsV RL 22 RX5 yX5_split wsX5_split) := goodIn_app (goodIn_of _ (by decide +kernel)) ggL_split_X5_split
theorem dL_split_0 : decode cL_split 0 = .ok (.aload 4, 2) := by decide +kernel
theorem dL_split_2 : decode cL_split 2 = .ok (.iconst 0, 1) := by decide +kernel
theorem dL_split_3 : decode cL_split 3 = .ok (.aload_n 0, 1) := by decide +kernel
theorem dL_split_4 : decode cL_split 4 = .ok (.iload_n 1, 1) := by decide +kernel
theorem dL_split_5 : decode cL_split 5 = .ok (.iload_n 2, 1) := by decide +kernel
theorem dL_split_6 : decode cL_split 6 = .ok (.iload_n 3, 1) := by decide +kernel
theorem dL_split_7 : decode cL_split 7 = .ok (.invokevirtual 22, 3) := by decide +kernel
theorem dL_split_10 : decode cL_split 10 = .ok (.i2l, 1) := by decide +kernel
theorem dL_split_11 : decode cL_split 11 = .ok (.lastore, 1) := by decide +kernel
theorem dL_split_12 : decode cL_split 12 = .ok (.goto 15, 3) := by decide +kernel
theorem dL_split_15 : decode cL_split 15 = .ok (.astore 5, 2) := by decide +kernel
theorem dL_split_17 : decode cL_split 17 = .ok (.iconst 1, 1) := by decide +kernel
theorem dL_split_18 : decode cL_split 18 = .ok (.ireturn, 1) := by decide +kernel
theorem dL_split_19 : decode cL_split 19 = .ok (.astore 5, 2) := by decide +kernel
theorem dL_split_21 : decode cL_split 21 = .ok (.iconst 2, 1) := by decide +kernel
theorem dL_split_22 : decode cL_split 22 = .ok (.ireturn, 1) := by decide +kernel
theorem dL_split_23 : decode cL_split 23 = .ok (.astore 5, 2) := by decide +kernel
theorem dL_split_25 : decode cL_split 25 = .ok (.iconst 3, 1) := by decide +kernel
theorem dL_split_26 : decode cL_split 26 = .ok (.ireturn, 1) := by decide +kernel
theorem dL_split_27 : decode cL_split 27 = .ok (.iconst 0, 1) := by decide +kernel
theorem dL_split_28 : decode cL_split 28 = .ok (.ireturn, 1) := by decide +kernel
set_option maxRecDepth 20000 in
theorem ggL_cancel_X5_cancel : GoodIn wsL_cancel wsX5_cancel := goodIn_ca (goodIn_ca (goodIn_r _ [7, 8, 9, 10, 11, 12, 13, 14, 15, 16, 6, 17, 18, 19, 20, 21, 22, 23, 24, 25, 26, 27, 28, 29, 30, 31, 32, 33, 34, 35, 36, 37, 38, 39, 40, 41, 42, 43, 44, 45, 46, 47, 48, 49, 50, 51, 52, 53, 54, 55, 56, 57, 58, 59, 60, 61, 62, 63, 64, 65, 66, 67, 68, 69, 70, 71, 72, 73, 74, 75, 76, 77, 78, 79, 80, 81, 82, 83, 84, 85, 86, 87, 88, 89, 90, 91, 92, 93, 94, 95, 96, 97, 98, 99, 100, 101, 102, 103, 104, 105, 106, 107, 108, 109, 110, 111, 112, 113, 114, 115, 116, 117, 118, 119, 120, 121, 122, 123, 124, 125, 126, 127, 128, 129, 130, 131, 132, 133, 134, 135, 136, 137, 138, 139, 140, 141, 142, 143, 144, 145, 146, 147, 148, 149, 150, 151, 152, 153, 154, 155, 156, 157, 158, 159, 160, 161] (by decide +kernel) (by decide +kernel)) (goodIn_sub (fun _ h => List.mem_cons_of_mem _ (List.mem_append_left _ (List.mem_append_right _ h))) (by decide +kernel))) (goodIn_sub (fun _ h => List.mem_cons_of_mem _ (List.mem_append_right _ h)) (by decide +kernel))
set_option maxRecDepth 20000 in
theorem gL_cancel_X5_cancel : GoodIn wsL_cancel (wsV RL 26 RX5 yX5_cancel wsX5_cancel) := goodIn_app (goodIn_of _ (by decide +kernel)) ggL_cancel_X5_cancel
theorem dL_cancel_0 : decode cL_cancel 0 = .ok (.aload_n 0, 1) := by decide +kernel
theorem dL_cancel_1 : decode cL_cancel 1 = .ok (.iload_n 1, 1) := by decide +kernel
theorem dL_cancel_2 : decode cL_cancel 2 = .ok (.invokevirtual 26, 3) := by decide +kernel
theorem dL_cancel_5 : decode cL_cancel 5 = .ok (.goto 9, 3) := by decide +kernel
theorem dL_cancel_8 : decode cL_cancel 8 = .ok (.astore_n 2, 1) := by decide +kernel
theorem dL_cancel_9 : decode cL_cancel 9 = .ok (.iconst 1, 1) := by decide +kernel
theorem dL_cancel_10 : decode cL_cancel 10 = .ok (.ireturn, 1) := by decide +kernel
theorem dL_cancel_11 : decode cL_cancel 11 = .ok (.astore_n 2, 1) := by decide +kernel
theorem dL_cancel_12 : decode cL_cancel 12 = .ok (.iconst 2, 1) := by decide +kernel
theorem dL_cancel_13 : decode cL_cancel 13 = .ok (.ireturn, 1) := by decide +kernel
theorem dL_cancel_14 : decode cL_cancel 14 = .ok (.iconst 0, 1) := by decide +kernel
theorem dL_cancel_15 : decode cL_cancel 15 = .ok (.ireturn, 1) := by decide +kernel
set_option maxRecDepth 20000 in
theorem ggL_setAllowance_X5_setAllowance : GoodIn wsL_setAllowance wsX5_setAllowance := goodIn_ca (goodIn_ca (goodIn_r _ [7, 8, 9, 10, 6, 11, 12, 13, 14, 15, 16, 17, 18, 19, 20, 21, 22, 23] (by decide +kernel) (by decide +kernel)) (goodIn_sub (fun _ h => List.mem_cons_of_mem _ (List.mem_append_left _ (List.mem_append_right _ h))) (by decide +kernel))) (goodIn_sub (fun _ h => List.mem_cons_of_mem _ (List.mem_append_right _ h)) (by decide +kernel))
set_option maxRecDepth 20000 in
theorem gL_setAllowance_X5_setAllowance : GoodIn wsL_setAllowance (wsV RL 30 RX5 yX5_setAllowance wsX5_setAllowance) := goodIn_app (goodIn_of _ (by decide +kernel)) ggL_setAllowance_X5_setAllowance
theorem dL_setAllowance_0 : decode cL_setAllowance 0 = .ok (.aload_n 3, 1) := by decide +kernel
theorem dL_setAllowance_1 : decode cL_setAllowance 1 = .ok (.iconst 0, 1) := by decide +kernel
theorem dL_setAllowance_2 : decode cL_setAllowance 2 = .ok (.aload_n 0, 1) := by decide +kernel
theorem dL_setAllowance_3 : decode cL_setAllowance 3 = .ok (.iload_n 1, 1) := by decide +kernel
theorem dL_setAllowance_4 : decode cL_setAllowance 4 = .ok (.iload_n 2, 1) := by decide +kernel
theorem dL_setAllowance_5 : decode cL_setAllowance 5 = .ok (.invokevirtual 30, 3) := by decide +kernel
theorem dL_setAllowance_8 : decode cL_setAllowance 8 = .ok (.i2l, 1) := by decide +kernel
theorem dL_setAllowance_9 : decode cL_setAllowance 9 = .ok (.lastore, 1) := by decide +kernel
theorem dL_setAllowance_10 : decode cL_setAllowance 10 = .ok (.goto 11, 3) := by decide +kernel
theorem dL_setAllowance_13 : decode cL_setAllowance 13 = .ok (.astore 4, 2) := by decide +kernel
theorem dL_setAllowance_15 : decode cL_setAllowance 15 = .ok (.iconst 1, 1) := by decide +kernel
theorem dL_setAllowance_16 : decode cL_setAllowance 16 = .ok (.ireturn, 1) := by decide +kernel
theorem dL_setAllowance_17 : decode cL_setAllowance 17 = .ok (.astore 4, 2) := by decide +kernel
theorem dL_setAllowance_19 : decode cL_setAllowance 19 = .ok (.iconst 2, 1) := by decide +kernel
theorem dL_setAllowance_20 : decode cL_setAllowance 20 = .ok (.ireturn, 1) := by decide +kernel
theorem dL_setAllowance_21 : decode cL_setAllowance 21 = .ok (.iconst 0, 1) := by decide +kernel
theorem dL_setAllowance_22 : decode cL_setAllowance 22 = .ok (.ireturn, 1) := by decide +kernel
set_option maxRecDepth 20000 in
theorem ggL_setWindow_X5_setWindow : GoodIn wsL_setWindow wsX5_setWindow := goodIn_ca (goodIn_r _ [6, 7, 8, 9, 10, 11, 12, 13, 14, 15, 16, 17, 18, 19, 20, 21, 22, 23, 24, 25, 26, 27, 28, 29, 30, 31, 32, 33, 34, 35, 36, 37, 38, 39, 40, 41, 42, 43, 44, 45, 46, 47, 48, 49, 50, 51, 52, 53, 54, 55, 56, 57, 58, 59, 60, 61, 62, 63, 64, 65, 66, 67, 68, 69, 70, 71, 72, 73, 74, 75, 76, 77, 78, 5, 79, 80, 81, 82, 83, 84, 85, 86, 87, 88, 89, 90, 91, 92, 93, 94, 95, 96, 97, 98, 99, 100, 101, 102, 103, 104, 105, 106, 107, 108, 109, 110, 111, 112, 113, 114, 115, 116, 117, 118, 119, 120, 121, 122, 123, 124, 125, 126, 127, 128, 129, 130, 131, 132, 133, 134, 135, 136, 137, 138, 139, 140, 141, 142] (by decide +kernel) (by decide +kernel)) (goodIn_sub (fun _ h => List.mem_cons_of_mem _ (List.mem_append_right _ h)) (by decide +kernel))
set_option maxRecDepth 20000 in
theorem gL_setWindow_X5_setWindow : GoodIn wsL_setWindow (wsV RL 34 RX5 yX5_setWindow wsX5_setWindow) := goodIn_app (goodIn_of _ (by decide +kernel)) ggL_setWindow_X5_setWindow
theorem dL_setWindow_0 : decode cL_setWindow 0 = .ok (.aload_n 2, 1) := by decide +kernel
theorem dL_setWindow_1 : decode cL_setWindow 1 = .ok (.iconst 0, 1) := by decide +kernel
theorem dL_setWindow_2 : decode cL_setWindow 2 = .ok (.aload_n 0, 1) := by decide +kernel
theorem dL_setWindow_3 : decode cL_setWindow 3 = .ok (.iload_n 1, 1) := by decide +kernel
theorem dL_setWindow_4 : decode cL_setWindow 4 = .ok (.invokevirtual 34, 3) := by decide +kernel
theorem dL_setWindow_7 : decode cL_setWindow 7 = .ok (.i2l, 1) := by decide +kernel
theorem dL_setWindow_8 : decode cL_setWindow 8 = .ok (.lastore, 1) := by decide +kernel
theorem dL_setWindow_9 : decode cL_setWindow 9 = .ok (.goto 6, 3) := by decide +kernel
theorem dL_setWindow_12 : decode cL_setWindow 12 = .ok (.astore_n 3, 1) := by decide +kernel
theorem dL_setWindow_13 : decode cL_setWindow 13 = .ok (.iconst 1, 1) := by decide +kernel
theorem dL_setWindow_14 : decode cL_setWindow 14 = .ok (.ireturn, 1) := by decide +kernel
theorem dL_setWindow_15 : decode cL_setWindow 15 = .ok (.iconst 0, 1) := by decide +kernel
theorem dL_setWindow_16 : decode cL_setWindow 16 = .ok (.ireturn, 1) := by decide +kernel
set_option maxRecDepth 20000 in
theorem ggL_holding_X5_holding : GoodIn wsL_holding wsX5_holding := goodIn_ca (goodIn_r _ [6, 7, 8, 9, 10, 5, 11, 12, 13, 14, 15, 16, 17, 18, 19, 20, 21, 22, 23, 24, 25, 26, 27, 28, 29, 30, 31, 32, 33, 34, 35, 36, 37, 38, 39, 40, 41, 42, 43, 44, 45, 46, 47, 48, 49, 50, 51, 52, 53, 54, 55, 56, 57, 58] (by decide +kernel) (by decide +kernel)) (goodIn_sub (fun _ h => List.mem_cons_of_mem _ (List.mem_append_right _ h)) (by decide +kernel))
set_option maxRecDepth 20000 in
theorem gL_holding_X5_holding : GoodIn wsL_holding (wsV RL 38 RX5 yX5_holding wsX5_holding) := goodIn_app (goodIn_of _ (by decide +kernel)) ggL_holding_X5_holding
theorem dL_holding_0 : decode cL_holding 0 = .ok (.aload_n 3, 1) := by decide +kernel
theorem dL_holding_1 : decode cL_holding 1 = .ok (.iconst 0, 1) := by decide +kernel
theorem dL_holding_2 : decode cL_holding 2 = .ok (.aload_n 0, 1) := by decide +kernel
theorem dL_holding_3 : decode cL_holding 3 = .ok (.iload_n 1, 1) := by decide +kernel
theorem dL_holding_4 : decode cL_holding 4 = .ok (.iload_n 2, 1) := by decide +kernel
theorem dL_holding_5 : decode cL_holding 5 = .ok (.invokevirtual 38, 3) := by decide +kernel
theorem dL_holding_8 : decode cL_holding 8 = .ok (.i2l, 1) := by decide +kernel
theorem dL_holding_9 : decode cL_holding 9 = .ok (.lastore, 1) := by decide +kernel
theorem dL_holding_10 : decode cL_holding 10 = .ok (.goto 7, 3) := by decide +kernel
theorem dL_holding_13 : decode cL_holding 13 = .ok (.astore 4, 2) := by decide +kernel
theorem dL_holding_15 : decode cL_holding 15 = .ok (.iconst 1, 1) := by decide +kernel
theorem dL_holding_16 : decode cL_holding 16 = .ok (.ireturn, 1) := by decide +kernel
theorem dL_holding_17 : decode cL_holding 17 = .ok (.iconst 0, 1) := by decide +kernel
theorem dL_holding_18 : decode cL_holding 18 = .ok (.ireturn, 1) := by decide +kernel
set_option maxRecDepth 20000 in
theorem ggL_poolUnits_X5_poolUnits : GoodIn wsL_poolUnits wsX5_poolUnits := goodIn_ca (goodIn_r _ [6, 7, 8, 9, 5, 10, 11, 12, 13, 14, 15, 16, 17, 18, 19, 20, 21, 22, 23, 24, 25, 26, 27, 28, 29, 30, 31, 32, 33, 34, 35, 36, 37, 38, 39, 40, 41, 42] (by decide +kernel) (by decide +kernel)) (goodIn_sub (fun _ h => List.mem_cons_of_mem _ (List.mem_append_right _ h)) (by decide +kernel))
set_option maxRecDepth 20000 in
theorem gL_poolUnits_X5_poolUnits : GoodIn wsL_poolUnits (wsV RL 41 RX5 yX5_poolUnits wsX5_poolUnits) := goodIn_app (goodIn_of _ (by decide +kernel)) ggL_poolUnits_X5_poolUnits
theorem dL_poolUnits_0 : decode cL_poolUnits 0 = .ok (.aload_n 3, 1) := by decide +kernel
theorem dL_poolUnits_1 : decode cL_poolUnits 1 = .ok (.iconst 0, 1) := by decide +kernel
theorem dL_poolUnits_2 : decode cL_poolUnits 2 = .ok (.aload_n 0, 1) := by decide +kernel
theorem dL_poolUnits_3 : decode cL_poolUnits 3 = .ok (.iload_n 1, 1) := by decide +kernel
theorem dL_poolUnits_4 : decode cL_poolUnits 4 = .ok (.iload_n 2, 1) := by decide +kernel
theorem dL_poolUnits_5 : decode cL_poolUnits 5 = .ok (.invokevirtual 41, 3) := by decide +kernel
theorem dL_poolUnits_8 : decode cL_poolUnits 8 = .ok (.i2l, 1) := by decide +kernel
theorem dL_poolUnits_9 : decode cL_poolUnits 9 = .ok (.lastore, 1) := by decide +kernel
theorem dL_poolUnits_10 : decode cL_poolUnits 10 = .ok (.goto 7, 3) := by decide +kernel
theorem dL_poolUnits_13 : decode cL_poolUnits 13 = .ok (.astore 4, 2) := by decide +kernel
theorem dL_poolUnits_15 : decode cL_poolUnits 15 = .ok (.iconst 1, 1) := by decide +kernel
theorem dL_poolUnits_16 : decode cL_poolUnits 16 = .ok (.ireturn, 1) := by decide +kernel
theorem dL_poolUnits_17 : decode cL_poolUnits 17 = .ok (.iconst 0, 1) := by decide +kernel
theorem dL_poolUnits_18 : decode cL_poolUnits 18 = .ok (.ireturn, 1) := by decide +kernel
set_option maxRecDepth 20000 in
theorem ggL_poolCost_X5_poolCost : GoodIn wsL_poolCost wsX5_poolCost := goodIn_ca (goodIn_r _ [6, 7, 8, 9, 5, 10, 11, 12, 13, 14, 15, 16, 17, 18, 19, 20, 21, 22, 23, 24, 25, 26, 27, 28, 29, 30, 31, 32, 33, 34, 35, 36, 37, 38, 39, 40, 41, 42] (by decide +kernel) (by decide +kernel)) (goodIn_sub (fun _ h => List.mem_cons_of_mem _ (List.mem_append_right _ h)) (by decide +kernel))
set_option maxRecDepth 20000 in
theorem gL_poolCost_X5_poolCost : GoodIn wsL_poolCost (wsV RL 44 RX5 yX5_poolCost wsX5_poolCost) := goodIn_app (goodIn_of _ (by decide +kernel)) ggL_poolCost_X5_poolCost
theorem dL_poolCost_0 : decode cL_poolCost 0 = .ok (.aload_n 3, 1) := by decide +kernel
theorem dL_poolCost_1 : decode cL_poolCost 1 = .ok (.iconst 0, 1) := by decide +kernel
theorem dL_poolCost_2 : decode cL_poolCost 2 = .ok (.aload_n 0, 1) := by decide +kernel
theorem dL_poolCost_3 : decode cL_poolCost 3 = .ok (.iload_n 1, 1) := by decide +kernel
theorem dL_poolCost_4 : decode cL_poolCost 4 = .ok (.iload_n 2, 1) := by decide +kernel
theorem dL_poolCost_5 : decode cL_poolCost 5 = .ok (.invokevirtual 44, 3) := by decide +kernel
theorem dL_poolCost_8 : decode cL_poolCost 8 = .ok (.i2l, 1) := by decide +kernel
theorem dL_poolCost_9 : decode cL_poolCost 9 = .ok (.lastore, 1) := by decide +kernel
theorem dL_poolCost_10 : decode cL_poolCost 10 = .ok (.goto 7, 3) := by decide +kernel
theorem dL_poolCost_13 : decode cL_poolCost 13 = .ok (.astore 4, 2) := by decide +kernel
theorem dL_poolCost_15 : decode cL_poolCost 15 = .ok (.iconst 1, 1) := by decide +kernel
theorem dL_poolCost_16 : decode cL_poolCost 16 = .ok (.ireturn, 1) := by decide +kernel
theorem dL_poolCost_17 : decode cL_poolCost 17 = .ok (.iconst 0, 1) := by decide +kernel
theorem dL_poolCost_18 : decode cL_poolCost 18 = .ok (.ireturn, 1) := by decide +kernel
set_option maxRecDepth 20000 in
theorem ggL_costIn_X5_costIn : GoodIn wsL_costIn wsX5_costIn := goodIn_ca (goodIn_r _ [6, 7, 8, 9, 5, 10, 11, 12, 13, 14, 15, 16, 17, 18, 19, 20, 21, 22, 23, 24, 25, 26, 27, 28, 29, 30, 31, 32, 33, 34, 35, 36, 37, 38] (by decide +kernel) (by decide +kernel)) (goodIn_sub (fun _ h => List.mem_cons_of_mem _ (List.mem_append_right _ h)) (by decide +kernel))
set_option maxRecDepth 20000 in
theorem gL_costIn_X5_costIn : GoodIn wsL_costIn (wsV RL 47 RX5 yX5_costIn wsX5_costIn) := goodIn_app (goodIn_of _ (by decide +kernel)) ggL_costIn_X5_costIn
theorem dL_costIn_0 : decode cL_costIn 0 = .ok (.aload_n 2, 1) := by decide +kernel
theorem dL_costIn_1 : decode cL_costIn 1 = .ok (.iconst 0, 1) := by decide +kernel
theorem dL_costIn_2 : decode cL_costIn 2 = .ok (.aload_n 0, 1) := by decide +kernel
theorem dL_costIn_3 : decode cL_costIn 3 = .ok (.iload_n 1, 1) := by decide +kernel
theorem dL_costIn_4 : decode cL_costIn 4 = .ok (.invokevirtual 47, 3) := by decide +kernel
theorem dL_costIn_7 : decode cL_costIn 7 = .ok (.i2l, 1) := by decide +kernel
theorem dL_costIn_8 : decode cL_costIn 8 = .ok (.lastore, 1) := by decide +kernel
theorem dL_costIn_9 : decode cL_costIn 9 = .ok (.goto 6, 3) := by decide +kernel
theorem dL_costIn_12 : decode cL_costIn 12 = .ok (.astore_n 3, 1) := by decide +kernel
theorem dL_costIn_13 : decode cL_costIn 13 = .ok (.iconst 1, 1) := by decide +kernel
theorem dL_costIn_14 : decode cL_costIn 14 = .ok (.ireturn, 1) := by decide +kernel
theorem dL_costIn_15 : decode cL_costIn 15 = .ok (.iconst 0, 1) := by decide +kernel
theorem dL_costIn_16 : decode cL_costIn 16 = .ok (.ireturn, 1) := by decide +kernel
set_option maxRecDepth 20000 in
theorem ggL_costMatched_X5_costMatched : GoodIn wsL_costMatched wsX5_costMatched := goodIn_ca (goodIn_r _ [6, 7, 8, 9, 5, 10, 11, 12, 13, 14, 15, 16, 17, 18, 19, 20, 21, 22, 23, 24, 25, 26, 27, 28, 29, 30, 31, 32, 33, 34, 35] (by decide +kernel) (by decide +kernel)) (goodIn_sub (fun _ h => List.mem_cons_of_mem _ (List.mem_append_right _ h)) (by decide +kernel))
set_option maxRecDepth 20000 in
theorem gL_costMatched_X5_costMatched : GoodIn wsL_costMatched (wsV RL 50 RX5 yX5_costMatched wsX5_costMatched) := goodIn_app (goodIn_of _ (by decide +kernel)) ggL_costMatched_X5_costMatched
theorem dL_costMatched_0 : decode cL_costMatched 0 = .ok (.aload_n 2, 1) := by decide +kernel
theorem dL_costMatched_1 : decode cL_costMatched 1 = .ok (.iconst 0, 1) := by decide +kernel
theorem dL_costMatched_2 : decode cL_costMatched 2 = .ok (.aload_n 0, 1) := by decide +kernel
theorem dL_costMatched_3 : decode cL_costMatched 3 = .ok (.iload_n 1, 1) := by decide +kernel
theorem dL_costMatched_4 : decode cL_costMatched 4 = .ok (.invokevirtual 50, 3) := by decide +kernel
theorem dL_costMatched_7 : decode cL_costMatched 7 = .ok (.i2l, 1) := by decide +kernel
theorem dL_costMatched_8 : decode cL_costMatched 8 = .ok (.lastore, 1) := by decide +kernel
theorem dL_costMatched_9 : decode cL_costMatched 9 = .ok (.goto 6, 3) := by decide +kernel
theorem dL_costMatched_12 : decode cL_costMatched 12 = .ok (.astore_n 3, 1) := by decide +kernel
theorem dL_costMatched_13 : decode cL_costMatched 13 = .ok (.iconst 1, 1) := by decide +kernel
theorem dL_costMatched_14 : decode cL_costMatched 14 = .ok (.ireturn, 1) := by decide +kernel
theorem dL_costMatched_15 : decode cL_costMatched 15 = .ok (.iconst 0, 1) := by decide +kernel
theorem dL_costMatched_16 : decode cL_costMatched 16 = .ok (.ireturn, 1) := by decide +kernel
set_option maxRecDepth 20000 in
theorem ggL_matches_X5_matches : GoodIn wsL_matches wsX5_matches := goodIn_ca (goodIn_r _ [6, 7, 8, 9, 5, 10, 11, 12, 13, 14, 15, 16, 17, 18, 19, 20, 21, 22, 23, 24, 25, 26, 27, 28] (by decide +kernel) (by decide +kernel)) (goodIn_sub (fun _ h => List.mem_cons_of_mem _ (List.mem_append_right _ h)) (by decide +kernel))
set_option maxRecDepth 20000 in
theorem gL_matches_X5_matches : GoodIn wsL_matches (wsV RL 53 RX5 yX5_matches wsX5_matches) := goodIn_app (goodIn_of _ (by decide +kernel)) ggL_matches_X5_matches
theorem dL_matches_0 : decode cL_matches 0 = .ok (.aload_n 2, 1) := by decide +kernel
theorem dL_matches_1 : decode cL_matches 1 = .ok (.iconst 0, 1) := by decide +kernel
theorem dL_matches_2 : decode cL_matches 2 = .ok (.aload_n 0, 1) := by decide +kernel
theorem dL_matches_3 : decode cL_matches 3 = .ok (.iload_n 1, 1) := by decide +kernel
theorem dL_matches_4 : decode cL_matches 4 = .ok (.invokevirtual 53, 3) := by decide +kernel
theorem dL_matches_7 : decode cL_matches 7 = .ok (.i2l, 1) := by decide +kernel
theorem dL_matches_8 : decode cL_matches 8 = .ok (.lastore, 1) := by decide +kernel
theorem dL_matches_9 : decode cL_matches 9 = .ok (.goto 6, 3) := by decide +kernel
theorem dL_matches_12 : decode cL_matches 12 = .ok (.astore_n 3, 1) := by decide +kernel
theorem dL_matches_13 : decode cL_matches 13 = .ok (.iconst 1, 1) := by decide +kernel
theorem dL_matches_14 : decode cL_matches 14 = .ok (.ireturn, 1) := by decide +kernel
theorem dL_matches_15 : decode cL_matches 15 = .ok (.iconst 0, 1) := by decide +kernel
theorem dL_matches_16 : decode cL_matches 16 = .ok (.ireturn, 1) := by decide +kernel
set_option maxRecDepth 20000 in
theorem ggL_kindOf_X5_kindOf : GoodIn wsL_kindOf wsX5_kindOf := goodIn_ca (goodIn_r _ [6, 7, 8, 9, 5, 10, 11, 12, 13, 14, 15, 16, 17, 18, 19, 20, 21, 22, 23, 24, 25, 26, 27, 28, 29, 30, 31, 32] (by decide +kernel) (by decide +kernel)) (goodIn_sub (fun _ h => List.mem_cons_of_mem _ (List.mem_append_right _ h)) (by decide +kernel))
set_option maxRecDepth 20000 in
theorem gL_kindOf_X5_kindOf : GoodIn wsL_kindOf (wsV RL 56 RX5 yX5_kindOf wsX5_kindOf) := goodIn_app (goodIn_of _ (by decide +kernel)) ggL_kindOf_X5_kindOf
theorem dL_kindOf_0 : decode cL_kindOf 0 = .ok (.aload_n 3, 1) := by decide +kernel
theorem dL_kindOf_1 : decode cL_kindOf 1 = .ok (.iconst 0, 1) := by decide +kernel
theorem dL_kindOf_2 : decode cL_kindOf 2 = .ok (.aload_n 0, 1) := by decide +kernel
theorem dL_kindOf_3 : decode cL_kindOf 3 = .ok (.iload_n 1, 1) := by decide +kernel
theorem dL_kindOf_4 : decode cL_kindOf 4 = .ok (.iload_n 2, 1) := by decide +kernel
theorem dL_kindOf_5 : decode cL_kindOf 5 = .ok (.invokevirtual 56, 3) := by decide +kernel
theorem dL_kindOf_8 : decode cL_kindOf 8 = .ok (.i2l, 1) := by decide +kernel
theorem dL_kindOf_9 : decode cL_kindOf 9 = .ok (.lastore, 1) := by decide +kernel
theorem dL_kindOf_10 : decode cL_kindOf 10 = .ok (.goto 7, 3) := by decide +kernel
theorem dL_kindOf_13 : decode cL_kindOf 13 = .ok (.astore 4, 2) := by decide +kernel
theorem dL_kindOf_15 : decode cL_kindOf 15 = .ok (.iconst 1, 1) := by decide +kernel
theorem dL_kindOf_16 : decode cL_kindOf 16 = .ok (.ireturn, 1) := by decide +kernel
theorem dL_kindOf_17 : decode cL_kindOf 17 = .ok (.iconst 0, 1) := by decide +kernel
theorem dL_kindOf_18 : decode cL_kindOf 18 = .ok (.ireturn, 1) := by decide +kernel
set_option maxRecDepth 20000 in
theorem ggL_saleDay_X5_saleDay : GoodIn wsL_saleDay wsX5_saleDay := goodIn_ca (goodIn_r _ [6, 7, 8, 9, 5, 10, 11, 12, 13, 14, 15, 16, 17, 18, 19, 20, 21, 22, 23, 24, 25, 26, 27, 28, 29, 30, 31, 32] (by decide +kernel) (by decide +kernel)) (goodIn_sub (fun _ h => List.mem_cons_of_mem _ (List.mem_append_right _ h)) (by decide +kernel))
set_option maxRecDepth 20000 in
theorem gL_saleDay_X5_saleDay : GoodIn wsL_saleDay (wsV RL 59 RX5 yX5_saleDay wsX5_saleDay) := goodIn_app (goodIn_of _ (by decide +kernel)) ggL_saleDay_X5_saleDay
theorem dL_saleDay_0 : decode cL_saleDay 0 = .ok (.aload_n 3, 1) := by decide +kernel
theorem dL_saleDay_1 : decode cL_saleDay 1 = .ok (.iconst 0, 1) := by decide +kernel
theorem dL_saleDay_2 : decode cL_saleDay 2 = .ok (.aload_n 0, 1) := by decide +kernel
theorem dL_saleDay_3 : decode cL_saleDay 3 = .ok (.iload_n 1, 1) := by decide +kernel
theorem dL_saleDay_4 : decode cL_saleDay 4 = .ok (.iload_n 2, 1) := by decide +kernel
theorem dL_saleDay_5 : decode cL_saleDay 5 = .ok (.invokevirtual 59, 3) := by decide +kernel
theorem dL_saleDay_8 : decode cL_saleDay 8 = .ok (.i2l, 1) := by decide +kernel
theorem dL_saleDay_9 : decode cL_saleDay 9 = .ok (.lastore, 1) := by decide +kernel
theorem dL_saleDay_10 : decode cL_saleDay 10 = .ok (.goto 7, 3) := by decide +kernel
theorem dL_saleDay_13 : decode cL_saleDay 13 = .ok (.astore 4, 2) := by decide +kernel
theorem dL_saleDay_15 : decode cL_saleDay 15 = .ok (.iconst 1, 1) := by decide +kernel
theorem dL_saleDay_16 : decode cL_saleDay 16 = .ok (.ireturn, 1) := by decide +kernel
theorem dL_saleDay_17 : decode cL_saleDay 17 = .ok (.iconst 0, 1) := by decide +kernel
theorem dL_saleDay_18 : decode cL_saleDay 18 = .ok (.ireturn, 1) := by decide +kernel
set_option maxRecDepth 20000 in
theorem ggL_buyDay_X5_buyDay : GoodIn wsL_buyDay wsX5_buyDay := goodIn_ca (goodIn_r _ [6, 7, 8, 9, 5, 10, 11, 12, 13, 14, 15, 16, 17, 18, 19, 20, 21, 22, 23, 24, 25, 26, 27, 28, 29, 30, 31, 32] (by decide +kernel) (by decide +kernel)) (goodIn_sub (fun _ h => List.mem_cons_of_mem _ (List.mem_append_right _ h)) (by decide +kernel))
set_option maxRecDepth 20000 in
theorem gL_buyDay_X5_buyDay : GoodIn wsL_buyDay (wsV RL 62 RX5 yX5_buyDay wsX5_buyDay) := goodIn_app (goodIn_of _ (by decide +kernel)) ggL_buyDay_X5_buyDay
theorem dL_buyDay_0 : decode cL_buyDay 0 = .ok (.aload_n 3, 1) := by decide +kernel
theorem dL_buyDay_1 : decode cL_buyDay 1 = .ok (.iconst 0, 1) := by decide +kernel
theorem dL_buyDay_2 : decode cL_buyDay 2 = .ok (.aload_n 0, 1) := by decide +kernel
theorem dL_buyDay_3 : decode cL_buyDay 3 = .ok (.iload_n 1, 1) := by decide +kernel
theorem dL_buyDay_4 : decode cL_buyDay 4 = .ok (.iload_n 2, 1) := by decide +kernel
theorem dL_buyDay_5 : decode cL_buyDay 5 = .ok (.invokevirtual 62, 3) := by decide +kernel
theorem dL_buyDay_8 : decode cL_buyDay 8 = .ok (.i2l, 1) := by decide +kernel
theorem dL_buyDay_9 : decode cL_buyDay 9 = .ok (.lastore, 1) := by decide +kernel
theorem dL_buyDay_10 : decode cL_buyDay 10 = .ok (.goto 7, 3) := by decide +kernel
theorem dL_buyDay_13 : decode cL_buyDay 13 = .ok (.astore 4, 2) := by decide +kernel
theorem dL_buyDay_15 : decode cL_buyDay 15 = .ok (.iconst 1, 1) := by decide +kernel
theorem dL_buyDay_16 : decode cL_buyDay 16 = .ok (.ireturn, 1) := by decide +kernel
theorem dL_buyDay_17 : decode cL_buyDay 17 = .ok (.iconst 0, 1) := by decide +kernel
theorem dL_buyDay_18 : decode cL_buyDay 18 = .ok (.ireturn, 1) := by decide +kernel
set_option maxRecDepth 20000 in
theorem ggL_unitsOf_X5_unitsOf : GoodIn wsL_unitsOf wsX5_unitsOf := goodIn_ca (goodIn_r _ [6, 7, 8, 9, 5, 10, 11, 12, 13, 14, 15, 16, 17, 18, 19, 20, 21, 22, 23, 24, 25, 26, 27, 28, 29, 30, 31, 32] (by decide +kernel) (by decide +kernel)) (goodIn_sub (fun _ h => List.mem_cons_of_mem _ (List.mem_append_right _ h)) (by decide +kernel))
set_option maxRecDepth 20000 in
theorem gL_unitsOf_X5_unitsOf : GoodIn wsL_unitsOf (wsV RL 65 RX5 yX5_unitsOf wsX5_unitsOf) := goodIn_app (goodIn_of _ (by decide +kernel)) ggL_unitsOf_X5_unitsOf
theorem dL_unitsOf_0 : decode cL_unitsOf 0 = .ok (.aload_n 3, 1) := by decide +kernel
theorem dL_unitsOf_1 : decode cL_unitsOf 1 = .ok (.iconst 0, 1) := by decide +kernel
theorem dL_unitsOf_2 : decode cL_unitsOf 2 = .ok (.aload_n 0, 1) := by decide +kernel
theorem dL_unitsOf_3 : decode cL_unitsOf 3 = .ok (.iload_n 1, 1) := by decide +kernel
theorem dL_unitsOf_4 : decode cL_unitsOf 4 = .ok (.iload_n 2, 1) := by decide +kernel
theorem dL_unitsOf_5 : decode cL_unitsOf 5 = .ok (.invokevirtual 65, 3) := by decide +kernel
theorem dL_unitsOf_8 : decode cL_unitsOf 8 = .ok (.i2l, 1) := by decide +kernel
theorem dL_unitsOf_9 : decode cL_unitsOf 9 = .ok (.lastore, 1) := by decide +kernel
theorem dL_unitsOf_10 : decode cL_unitsOf 10 = .ok (.goto 7, 3) := by decide +kernel
theorem dL_unitsOf_13 : decode cL_unitsOf 13 = .ok (.astore 4, 2) := by decide +kernel
theorem dL_unitsOf_15 : decode cL_unitsOf 15 = .ok (.iconst 1, 1) := by decide +kernel
theorem dL_unitsOf_16 : decode cL_unitsOf 16 = .ok (.ireturn, 1) := by decide +kernel
theorem dL_unitsOf_17 : decode cL_unitsOf 17 = .ok (.iconst 0, 1) := by decide +kernel
theorem dL_unitsOf_18 : decode cL_unitsOf 18 = .ok (.ireturn, 1) := by decide +kernel
set_option maxRecDepth 20000 in
theorem ggL_costOf_X5_costOf : GoodIn wsL_costOf wsX5_costOf := goodIn_ca (goodIn_r _ [6, 7, 8, 9, 5, 10, 11, 12, 13, 14, 15, 16, 17, 18, 19, 20, 21, 22, 23, 24, 25, 26, 27, 28, 29, 30, 31, 32] (by decide +kernel) (by decide +kernel)) (goodIn_sub (fun _ h => List.mem_cons_of_mem _ (List.mem_append_right _ h)) (by decide +kernel))
set_option maxRecDepth 20000 in
theorem gL_costOf_X5_costOf : GoodIn wsL_costOf (wsV RL 68 RX5 yX5_costOf wsX5_costOf) := goodIn_app (goodIn_of _ (by decide +kernel)) ggL_costOf_X5_costOf
theorem dL_costOf_0 : decode cL_costOf 0 = .ok (.aload_n 3, 1) := by decide +kernel
theorem dL_costOf_1 : decode cL_costOf 1 = .ok (.iconst 0, 1) := by decide +kernel
theorem dL_costOf_2 : decode cL_costOf 2 = .ok (.aload_n 0, 1) := by decide +kernel
theorem dL_costOf_3 : decode cL_costOf 3 = .ok (.iload_n 1, 1) := by decide +kernel
theorem dL_costOf_4 : decode cL_costOf 4 = .ok (.iload_n 2, 1) := by decide +kernel
theorem dL_costOf_5 : decode cL_costOf 5 = .ok (.invokevirtual 68, 3) := by decide +kernel
theorem dL_costOf_8 : decode cL_costOf 8 = .ok (.i2l, 1) := by decide +kernel
theorem dL_costOf_9 : decode cL_costOf 9 = .ok (.lastore, 1) := by decide +kernel
theorem dL_costOf_10 : decode cL_costOf 10 = .ok (.goto 7, 3) := by decide +kernel
theorem dL_costOf_13 : decode cL_costOf 13 = .ok (.astore 4, 2) := by decide +kernel
theorem dL_costOf_15 : decode cL_costOf 15 = .ok (.iconst 1, 1) := by decide +kernel
theorem dL_costOf_16 : decode cL_costOf 16 = .ok (.ireturn, 1) := by decide +kernel
theorem dL_costOf_17 : decode cL_costOf 17 = .ok (.iconst 0, 1) := by decide +kernel
theorem dL_costOf_18 : decode cL_costOf 18 = .ok (.ireturn, 1) := by decide +kernel
set_option maxRecDepth 20000 in
theorem ggL_proceedsOf_X5_proceedsOf : GoodIn wsL_proceedsOf wsX5_proceedsOf := goodIn_ca (goodIn_r _ [6, 7, 8, 9, 5, 10, 11, 12, 13, 14, 15, 16, 17, 18, 19, 20, 21, 22, 23, 24, 25, 26, 27, 28, 29, 30, 31, 32] (by decide +kernel) (by decide +kernel)) (goodIn_sub (fun _ h => List.mem_cons_of_mem _ (List.mem_append_right _ h)) (by decide +kernel))
set_option maxRecDepth 20000 in
theorem gL_proceedsOf_X5_proceedsOf : GoodIn wsL_proceedsOf (wsV RL 71 RX5 yX5_proceedsOf wsX5_proceedsOf) := goodIn_app (goodIn_of _ (by decide +kernel)) ggL_proceedsOf_X5_proceedsOf
theorem dL_proceedsOf_0 : decode cL_proceedsOf 0 = .ok (.aload_n 3, 1) := by decide +kernel
theorem dL_proceedsOf_1 : decode cL_proceedsOf 1 = .ok (.iconst 0, 1) := by decide +kernel
theorem dL_proceedsOf_2 : decode cL_proceedsOf 2 = .ok (.aload_n 0, 1) := by decide +kernel
theorem dL_proceedsOf_3 : decode cL_proceedsOf 3 = .ok (.iload_n 1, 1) := by decide +kernel
theorem dL_proceedsOf_4 : decode cL_proceedsOf 4 = .ok (.iload_n 2, 1) := by decide +kernel
theorem dL_proceedsOf_5 : decode cL_proceedsOf 5 = .ok (.invokevirtual 71, 3) := by decide +kernel
theorem dL_proceedsOf_8 : decode cL_proceedsOf 8 = .ok (.i2l, 1) := by decide +kernel
theorem dL_proceedsOf_9 : decode cL_proceedsOf 9 = .ok (.lastore, 1) := by decide +kernel
theorem dL_proceedsOf_10 : decode cL_proceedsOf 10 = .ok (.goto 7, 3) := by decide +kernel
theorem dL_proceedsOf_13 : decode cL_proceedsOf 13 = .ok (.astore 4, 2) := by decide +kernel
theorem dL_proceedsOf_15 : decode cL_proceedsOf 15 = .ok (.iconst 1, 1) := by decide +kernel
theorem dL_proceedsOf_16 : decode cL_proceedsOf 16 = .ok (.ireturn, 1) := by decide +kernel
theorem dL_proceedsOf_17 : decode cL_proceedsOf 17 = .ok (.iconst 0, 1) := by decide +kernel
theorem dL_proceedsOf_18 : decode cL_proceedsOf 18 = .ok (.ireturn, 1) := by decide +kernel
set_option maxRecDepth 20000 in
theorem ggL_gain_X5_gain : GoodIn wsL_gain wsX5_gain := goodIn_ca (goodIn_r _ [6, 7, 8, 9, 5, 10, 11, 12, 13, 14, 15, 16, 17, 18, 19, 20, 21, 22, 23, 24, 25, 26, 27, 28, 29, 30, 31, 32, 33, 34, 35, 36, 37, 38, 39, 40] (by decide +kernel) (by decide +kernel)) (goodIn_sub (fun _ h => List.mem_cons_of_mem _ (List.mem_append_right _ h)) (by decide +kernel))
set_option maxRecDepth 20000 in
theorem gL_gain_X5_gain : GoodIn wsL_gain (wsV RL 74 RX5 yX5_gain wsX5_gain) := goodIn_app (goodIn_of _ (by decide +kernel)) ggL_gain_X5_gain
theorem dL_gain_0 : decode cL_gain 0 = .ok (.aload_n 3, 1) := by decide +kernel
theorem dL_gain_1 : decode cL_gain 1 = .ok (.iconst 0, 1) := by decide +kernel
theorem dL_gain_2 : decode cL_gain 2 = .ok (.aload_n 0, 1) := by decide +kernel
theorem dL_gain_3 : decode cL_gain 3 = .ok (.iload_n 1, 1) := by decide +kernel
theorem dL_gain_4 : decode cL_gain 4 = .ok (.iload_n 2, 1) := by decide +kernel
theorem dL_gain_5 : decode cL_gain 5 = .ok (.invokevirtual 74, 3) := by decide +kernel
theorem dL_gain_8 : decode cL_gain 8 = .ok (.i2l, 1) := by decide +kernel
theorem dL_gain_9 : decode cL_gain 9 = .ok (.lastore, 1) := by decide +kernel
theorem dL_gain_10 : decode cL_gain 10 = .ok (.goto 7, 3) := by decide +kernel
theorem dL_gain_13 : decode cL_gain 13 = .ok (.astore 4, 2) := by decide +kernel
theorem dL_gain_15 : decode cL_gain 15 = .ok (.iconst 1, 1) := by decide +kernel
theorem dL_gain_16 : decode cL_gain 16 = .ok (.ireturn, 1) := by decide +kernel
theorem dL_gain_17 : decode cL_gain 17 = .ok (.iconst 0, 1) := by decide +kernel
theorem dL_gain_18 : decode cL_gain 18 = .ok (.ireturn, 1) := by decide +kernel
set_option maxRecDepth 20000 in
theorem ggL_net_X5_net : GoodIn wsL_net wsX5_net := goodIn_ca (goodIn_r _ [6, 7, 8, 5, 9, 10, 11, 12, 13, 14, 15, 16, 17, 18, 19, 20, 21, 22, 23, 24, 25, 26, 27, 28, 29, 30, 31, 32, 33, 34, 35, 36, 37, 38, 39, 40] (by decide +kernel) (by decide +kernel)) (goodIn_sub (fun _ h => List.mem_cons_of_mem _ (List.mem_append_right _ h)) (by decide +kernel))
set_option maxRecDepth 20000 in
theorem gL_net_X5_net : GoodIn wsL_net (wsV RL 77 RX5 yX5_net wsX5_net) := goodIn_app (goodIn_of _ (by decide +kernel)) ggL_net_X5_net
theorem dL_net_0 : decode cL_net 0 = .ok (.aload_n 2, 1) := by decide +kernel
theorem dL_net_1 : decode cL_net 1 = .ok (.iconst 0, 1) := by decide +kernel
theorem dL_net_2 : decode cL_net 2 = .ok (.aload_n 0, 1) := by decide +kernel
theorem dL_net_3 : decode cL_net 3 = .ok (.iload_n 1, 1) := by decide +kernel
theorem dL_net_4 : decode cL_net 4 = .ok (.invokevirtual 77, 3) := by decide +kernel
theorem dL_net_7 : decode cL_net 7 = .ok (.i2l, 1) := by decide +kernel
theorem dL_net_8 : decode cL_net 8 = .ok (.lastore, 1) := by decide +kernel
theorem dL_net_9 : decode cL_net 9 = .ok (.goto 6, 3) := by decide +kernel
theorem dL_net_12 : decode cL_net 12 = .ok (.astore_n 3, 1) := by decide +kernel
theorem dL_net_13 : decode cL_net 13 = .ok (.iconst 1, 1) := by decide +kernel
theorem dL_net_14 : decode cL_net 14 = .ok (.ireturn, 1) := by decide +kernel
theorem dL_net_15 : decode cL_net 15 = .ok (.iconst 0, 1) := by decide +kernel
theorem dL_net_16 : decode cL_net 16 = .ok (.ireturn, 1) := by decide +kernel
set_option maxRecDepth 20000 in
theorem ggL_carried_X5_carried : GoodIn wsL_carried wsX5_carried := goodIn_ca (goodIn_r _ [6, 7, 8, 5, 9, 10, 11, 12, 13, 14, 15, 16, 17, 18, 19, 20, 21, 22, 23, 24, 25, 26, 27, 28, 29, 30, 31, 32, 33, 34, 35, 36, 37, 38, 39, 40, 41, 42, 43, 44, 45, 46, 47, 48, 49, 50, 51, 52, 53, 54, 55, 56] (by decide +kernel) (by decide +kernel)) (goodIn_sub (fun _ h => List.mem_cons_of_mem _ (List.mem_append_right _ h)) (by decide +kernel))
set_option maxRecDepth 20000 in
theorem gL_carried_X5_carried : GoodIn wsL_carried (wsV RL 80 RX5 yX5_carried wsX5_carried) := goodIn_app (goodIn_of _ (by decide +kernel)) ggL_carried_X5_carried
theorem dL_carried_0 : decode cL_carried 0 = .ok (.aload_n 2, 1) := by decide +kernel
theorem dL_carried_1 : decode cL_carried 1 = .ok (.iconst 0, 1) := by decide +kernel
theorem dL_carried_2 : decode cL_carried 2 = .ok (.aload_n 0, 1) := by decide +kernel
theorem dL_carried_3 : decode cL_carried 3 = .ok (.iload_n 1, 1) := by decide +kernel
theorem dL_carried_4 : decode cL_carried 4 = .ok (.invokevirtual 80, 3) := by decide +kernel
theorem dL_carried_7 : decode cL_carried 7 = .ok (.i2l, 1) := by decide +kernel
theorem dL_carried_8 : decode cL_carried 8 = .ok (.lastore, 1) := by decide +kernel
theorem dL_carried_9 : decode cL_carried 9 = .ok (.goto 6, 3) := by decide +kernel
theorem dL_carried_12 : decode cL_carried 12 = .ok (.astore_n 3, 1) := by decide +kernel
theorem dL_carried_13 : decode cL_carried 13 = .ok (.iconst 1, 1) := by decide +kernel
theorem dL_carried_14 : decode cL_carried 14 = .ok (.ireturn, 1) := by decide +kernel
theorem dL_carried_15 : decode cL_carried 15 = .ok (.iconst 0, 1) := by decide +kernel
theorem dL_carried_16 : decode cL_carried 16 = .ok (.ireturn, 1) := by decide +kernel
set_option maxRecDepth 20000 in
theorem ggL_taxable_X5_taxable : GoodIn wsL_taxable wsX5_taxable := goodIn_ca (goodIn_r _ [6, 7, 8, 9, 10, 11, 12, 5, 13, 14, 15, 16, 17, 18, 19, 20, 21, 22, 23, 24, 25, 26, 27, 28, 29, 30, 31, 32, 33, 34, 35, 36, 37, 38, 39, 40, 41, 42, 43, 44, 45, 46, 47, 48, 49, 50, 51, 52, 53, 54, 55, 56] (by decide +kernel) (by decide +kernel)) (goodIn_sub (fun _ h => List.mem_cons_of_mem _ (List.mem_append_right _ h)) (by decide +kernel))
set_option maxRecDepth 20000 in
theorem gL_taxable_X5_taxable : GoodIn wsL_taxable (wsV RL 83 RX5 yX5_taxable wsX5_taxable) := goodIn_app (goodIn_of _ (by decide +kernel)) ggL_taxable_X5_taxable
theorem dL_taxable_0 : decode cL_taxable 0 = .ok (.aload_n 2, 1) := by decide +kernel
theorem dL_taxable_1 : decode cL_taxable 1 = .ok (.iconst 0, 1) := by decide +kernel
theorem dL_taxable_2 : decode cL_taxable 2 = .ok (.aload_n 0, 1) := by decide +kernel
theorem dL_taxable_3 : decode cL_taxable 3 = .ok (.iload_n 1, 1) := by decide +kernel
theorem dL_taxable_4 : decode cL_taxable 4 = .ok (.invokevirtual 83, 3) := by decide +kernel
theorem dL_taxable_7 : decode cL_taxable 7 = .ok (.i2l, 1) := by decide +kernel
theorem dL_taxable_8 : decode cL_taxable 8 = .ok (.lastore, 1) := by decide +kernel
theorem dL_taxable_9 : decode cL_taxable 9 = .ok (.goto 6, 3) := by decide +kernel
theorem dL_taxable_12 : decode cL_taxable 12 = .ok (.astore_n 3, 1) := by decide +kernel
theorem dL_taxable_13 : decode cL_taxable 13 = .ok (.iconst 1, 1) := by decide +kernel
theorem dL_taxable_14 : decode cL_taxable 14 = .ok (.ireturn, 1) := by decide +kernel
theorem dL_taxable_15 : decode cL_taxable 15 = .ok (.iconst 0, 1) := by decide +kernel
theorem dL_taxable_16 : decode cL_taxable 16 = .ok (.ireturn, 1) := by decide +kernel
