set_option maxRecDepth 20000 in
theorem ggX5_init_X0_init : GoodIn wsX5_init wsX0_init := goodIn_r _ [16, 17, 2, 3, 18, 19, 20, 12, 21, 22, 23, 24, 25, 72, 73, 74, 75, 76, 77, 78] (by decide +kernel) (by decide +kernel)
set_option maxRecDepth 20000 in
theorem gX5_init_X0_init_n9 : GoodIn wsX5_init (wsX0_init) := ggX5_init_X0_init
set_option maxRecDepth 20000 in
theorem ggX5_init_X1_init : GoodIn wsX5_init wsX1_init := goodIn_r _ [28, 29, 2, 3, 30, 31, 32, 33, 34, 35, 36, 37, 38, 39, 40, 41, 42, 43, 44, 45, 12, 46, 47, 48, 49, 50, 51, 52, 53, 54, 55, 56, 57, 58, 59, 60, 61, 62, 63, 64, 65, 66, 67, 68, 69, 70, 71, 87, 88, 89, 83, 84, 85, 86, 90, 91, 92, 93, 94, 95, 96, 97, 98, 99, 100, 101, 102, 103, 104, 105, 106] (by decide +kernel) (by decide +kernel)
set_option maxRecDepth 20000 in
theorem gX5_init_X1_init : GoodIn wsX5_init (wsX1_init) := ggX5_init_X1_init
theorem dX5_init_0 : decode cX5_init 0 = .ok (.aload_n 0, 1) := by decide +kernel
theorem dX5_init_1 : decode cX5_init 1 = .ok (.invokespecial 1, 3) := by decide +kernel
theorem dX5_init_4 : decode cX5_init 4 = .ok (.aload_n 0, 1) := by decide +kernel
theorem dX5_init_5 : decode cX5_init 5 = .ok (.new 7, 3) := by decide +kernel
theorem dX5_init_8 : decode cX5_init 8 = .ok (.dup, 1) := by decide +kernel
theorem dX5_init_9 : decode cX5_init 9 = .ok (.invokespecial 9, 3) := by decide +kernel
theorem dX5_init_12 : decode cX5_init 12 = .ok (.putfield 10, 3) := by decide +kernel
theorem dX5_init_15 : decode cX5_init 15 = .ok (.aload_n 0, 1) := by decide +kernel
theorem dX5_init_16 : decode cX5_init 16 = .ok (.iconst 3, 1) := by decide +kernel
theorem dX5_init_17 : decode cX5_init 17 = .ok (.anewarray 16, 3) := by decide +kernel
theorem dX5_init_20 : decode cX5_init 20 = .ok (.putfield 18, 3) := by decide +kernel
theorem dX5_init_23 : decode cX5_init 23 = .ok (.iconst 0, 1) := by decide +kernel
theorem dX5_init_24 : decode cX5_init 24 = .ok (.istore_n 1, 1) := by decide +kernel
theorem dX5_init_25 : decode cX5_init 25 = .ok (.iload_n 1, 1) := by decide +kernel
theorem dX5_init_26 : decode cX5_init 26 = .ok (.iconst 3, 1) := by decide +kernel
theorem dX5_init_27 : decode cX5_init 27 = .ok (.if_icmp .ge 23, 3) := by decide +kernel
theorem dX5_init_30 : decode cX5_init 30 = .ok (.aload_n 0, 1) := by decide +kernel
theorem dX5_init_31 : decode cX5_init 31 = .ok (.getfield 18, 3) := by decide +kernel
theorem dX5_init_34 : decode cX5_init 34 = .ok (.iload_n 1, 1) := by decide +kernel
theorem dX5_init_35 : decode cX5_init 35 = .ok (.new 16, 3) := by decide +kernel
theorem dX5_init_38 : decode cX5_init 38 = .ok (.dup, 1) := by decide +kernel
theorem dX5_init_39 : decode cX5_init 39 = .ok (.iload_n 1, 1) := by decide +kernel
theorem dX5_init_40 : decode cX5_init 40 = .ok (.invokespecial 22, 3) := by decide +kernel
theorem dX5_init_43 : decode cX5_init 43 = .ok (.aastore, 1) := by decide +kernel
theorem dX5_init_44 : decode cX5_init 44 = .ok (.iinc 1 1, 3) := by decide +kernel
theorem dX5_init_47 : decode cX5_init 47 = .ok (.goto (-22), 3) := by decide +kernel
theorem dX5_init_50 : decode cX5_init 50 = .ok (.aload_n 0, 1) := by decide +kernel
theorem dX5_init_51 : decode cX5_init 51 = .ok (.iconst 5, 1) := by decide +kernel
theorem dX5_init_52 : decode cX5_init 52 = .ok (.newarray .int, 2) := by decide +kernel
theorem dX5_init_54 : decode cX5_init 54 = .ok (.putfield 25, 3) := by decide +kernel
theorem dX5_init_57 : decode cX5_init 57 = .ok (.aload_n 0, 1) := by decide +kernel
theorem dX5_init_58 : decode cX5_init 58 = .ok (.bipush 30, 2) := by decide +kernel
theorem dX5_init_60 : decode cX5_init 60 = .ok (.putfield 29, 3) := by decide +kernel
theorem dX5_init_63 : decode cX5_init 63 = .ok (.return_, 1) := by decide +kernel
set_option maxRecDepth 20000 in
theorem ggX5_buy_X5_ledgerAt : GoodIn wsX5_buy wsX5_ledgerAt := goodIn_ca (goodIn_r _ [7, 8, 9, 10, 11, 12, 6, 13, 14, 140, 141, 142, 143] (by decide +kernel) (by decide +kernel)) (goodIn_sub (fun _ h => List.mem_cons_of_mem _ (List.mem_append_left _ (List.mem_append_left _ (List.mem_append_right _ h)))) (by decide +kernel))
set_option maxRecDepth 20000 in
theorem gX5_buy_X5_ledgerAt : GoodIn wsX5_buy (wsV RX5 33 RX5 yX5_ledgerAt wsX5_ledgerAt) := goodIn_app (goodIn_of _ (by decide +kernel)) ggX5_buy_X5_ledgerAt
set_option maxRecDepth 20000 in
theorem ggX5_buy_X5_checkTrade : GoodIn wsX5_buy wsX5_checkTrade := goodIn_ca (goodIn_r _ [17, 18, 19, 20, 21, 6, 22, 23] (by decide +kernel) (by decide +kernel)) (goodIn_sub (fun _ h => List.mem_cons_of_mem _ (List.mem_append_left _ (List.mem_append_right _ h))) (by decide +kernel))
set_option maxRecDepth 20000 in
theorem gX5_buy_X5_checkTrade : GoodIn wsX5_buy (va_wsS RX5 37 yX5_checkTrade wsX5_checkTrade) := goodIn_app (goodIn_of _ (by decide +kernel)) ggX5_buy_X5_checkTrade
set_option maxRecDepth 20000 in
theorem ggX5_buy_X5_checkRoomForTrade : GoodIn wsX5_buy wsX5_checkRoomForTrade := goodIn_ca (goodIn_r _ [27, 28, 29, 1, 30, 31, 32, 33, 34, 35, 140, 141, 142, 143, 144, 145, 146, 147, 148, 149, 150] (by decide +kernel) (by decide +kernel)) (goodIn_sub (fun _ h => List.mem_cons_of_mem _ (List.mem_append_right _ h)) (by decide +kernel))
set_option maxRecDepth 20000 in
theorem gX5_buy_X5_checkRoomForTrade : GoodIn wsX5_buy (wsV RX5 41 RX5 yX5_checkRoomForTrade wsX5_checkRoomForTrade) := goodIn_app (goodIn_of _ (by decide +kernel)) ggX5_buy_X5_checkRoomForTrade
set_option maxRecDepth 20000 in
theorem ggX5_buy_X0_enter : GoodIn wsX5_buy wsX0_enter := goodIn_r _ [39, 35, 40, 41, 42, 43, 44, 45, 31, 32, 33, 34, 144, 145, 146, 147, 148, 149, 150] (by decide +kernel) (by decide +kernel)
set_option maxRecDepth 20000 in
theorem gX5_buy_X0_enter : GoodIn wsX5_buy (wsV RX5 44 RX0 yX0_enter wsX0_enter) := goodIn_app (goodIn_of _ (by decide +kernel)) ggX5_buy_X0_enter
set_option maxRecDepth 20000 in
theorem ggX5_buy_X1_reckon : GoodIn wsX5_buy wsX1_reckon := goodIn_r _ [50, 51, 52, 53, 54, 55, 56, 57, 58, 59, 60, 61, 62, 63, 64, 65, 66, 67, 68, 69, 70, 71, 33, 72, 41, 73, 74, 75, 76, 77, 78, 79, 80, 81, 82, 83, 84, 85, 86, 87, 88, 89, 90, 91, 92, 93, 94, 95, 96, 97, 98, 99, 100, 101, 102, 103, 104, 105, 106, 107, 49, 108, 109, 110, 6, 111, 112, 113, 114, 115, 116, 117, 118, 119, 120, 121, 122, 123, 124, 125, 126, 127, 128, 129, 130, 131, 132, 133, 134, 135, 136, 137, 138, 139, 151, 152, 153, 154, 155, 156, 157, 158, 159, 160, 161, 162, 163, 164, 165, 166, 167, 168, 169, 170, 171, 144, 145, 146, 147, 148, 149, 150, 172, 173, 174] (by decide +kernel) (by decide +kernel)
set_option maxRecDepth 20000 in
theorem gX5_buy_X1_reckon : GoodIn wsX5_buy (wsV RX5 48 RX1 yX1_reckon wsX1_reckon) := goodIn_app (goodIn_of _ (by decide +kernel)) ggX5_buy_X1_reckon
theorem dX5_buy_0 : decode cX5_buy 0 = .ok (.aload_n 0, 1) := by decide +kernel
theorem dX5_buy_1 : decode cX5_buy 1 = .ok (.iload_n 1, 1) := by decide +kernel
theorem dX5_buy_2 : decode cX5_buy 2 = .ok (.iload_n 2, 1) := by decide +kernel
theorem dX5_buy_3 : decode cX5_buy 3 = .ok (.invokevirtual 33, 3) := by decide +kernel
theorem dX5_buy_6 : decode cX5_buy 6 = .ok (.astore 5, 2) := by decide +kernel
theorem dX5_buy_8 : decode cX5_buy 8 = .ok (.iload_n 3, 1) := by decide +kernel
theorem dX5_buy_9 : decode cX5_buy 9 = .ok (.iload 4, 2) := by decide +kernel
theorem dX5_buy_11 : decode cX5_buy 11 = .ok (.invokestatic 37, 3) := by decide +kernel
theorem dX5_buy_14 : decode cX5_buy 14 = .ok (.aload_n 0, 1) := by decide +kernel
theorem dX5_buy_15 : decode cX5_buy 15 = .ok (.invokevirtual 41, 3) := by decide +kernel
theorem dX5_buy_18 : decode cX5_buy 18 = .ok (.aload_n 0, 1) := by decide +kernel
theorem dX5_buy_19 : decode cX5_buy 19 = .ok (.getfield 10, 3) := by decide +kernel
theorem dX5_buy_22 : decode cX5_buy 22 = .ok (.iconst 0, 1) := by decide +kernel
theorem dX5_buy_23 : decode cX5_buy 23 = .ok (.iload_n 1, 1) := by decide +kernel
theorem dX5_buy_24 : decode cX5_buy 24 = .ok (.iload_n 2, 1) := by decide +kernel
theorem dX5_buy_25 : decode cX5_buy 25 = .ok (.iload_n 3, 1) := by decide +kernel
theorem dX5_buy_26 : decode cX5_buy 26 = .ok (.iload 4, 2) := by decide +kernel
theorem dX5_buy_28 : decode cX5_buy 28 = .ok (.invokevirtual 44, 3) := by decide +kernel
theorem dX5_buy_31 : decode cX5_buy 31 = .ok (.istore 6, 2) := by decide +kernel
theorem dX5_buy_33 : decode cX5_buy 33 = .ok (.aload 5, 2) := by decide +kernel
theorem dX5_buy_35 : decode cX5_buy 35 = .ok (.aload_n 0, 1) := by decide +kernel
theorem dX5_buy_36 : decode cX5_buy 36 = .ok (.getfield 10, 3) := by decide +kernel
theorem dX5_buy_39 : decode cX5_buy 39 = .ok (.aload_n 0, 1) := by decide +kernel
theorem dX5_buy_40 : decode cX5_buy 40 = .ok (.getfield 29, 3) := by decide +kernel
theorem dX5_buy_43 : decode cX5_buy 43 = .ok (.invokevirtual 48, 3) := by decide +kernel
theorem dX5_buy_46 : decode cX5_buy 46 = .ok (.iload 6, 2) := by decide +kernel
theorem dX5_buy_48 : decode cX5_buy 48 = .ok (.ireturn, 1) := by decide +kernel
set_option maxRecDepth 20000 in
theorem ggX5_sell_X5_ledgerAt : GoodIn wsX5_sell wsX5_ledgerAt := goodIn_ca (goodIn_r _ [7, 8, 9, 10, 11, 12, 6, 13, 14, 148, 149, 150, 151] (by decide +kernel) (by decide +kernel)) (goodIn_sub (fun _ h => List.mem_cons_of_mem _ (List.mem_append_left _ (List.mem_append_left _ (List.mem_append_right _ h)))) (by decide +kernel))
set_option maxRecDepth 20000 in
theorem gX5_sell_X5_ledgerAt : GoodIn wsX5_sell (wsV RX5 33 RX5 yX5_ledgerAt wsX5_ledgerAt) := goodIn_app (goodIn_of _ (by decide +kernel)) ggX5_sell_X5_ledgerAt
set_option maxRecDepth 20000 in
theorem ggX5_sell_X5_checkTrade : GoodIn wsX5_sell wsX5_checkTrade := goodIn_ca (goodIn_r _ [17, 18, 19, 20, 21, 6, 22, 23] (by decide +kernel) (by decide +kernel)) (goodIn_sub (fun _ h => List.mem_cons_of_mem _ (List.mem_append_left _ (List.mem_append_right _ h))) (by decide +kernel))
set_option maxRecDepth 20000 in
theorem gX5_sell_X5_checkTrade : GoodIn wsX5_sell (va_wsS RX5 37 yX5_checkTrade wsX5_checkTrade) := goodIn_app (goodIn_of _ (by decide +kernel)) ggX5_sell_X5_checkTrade
set_option maxRecDepth 20000 in
theorem ggX5_sell_X5_checkRoomForTrade : GoodIn wsX5_sell wsX5_checkRoomForTrade := goodIn_ca (goodIn_r _ [27, 28, 29, 1, 30, 31, 32, 33, 34, 35, 148, 149, 150, 151, 152, 153, 154, 155, 156, 157, 158] (by decide +kernel) (by decide +kernel)) (goodIn_sub (fun _ h => List.mem_cons_of_mem _ (List.mem_append_right _ h)) (by decide +kernel))
set_option maxRecDepth 20000 in
theorem gX5_sell_X5_checkRoomForTrade : GoodIn wsX5_sell (wsV RX5 41 RX5 yX5_checkRoomForTrade wsX5_checkRoomForTrade) := goodIn_app (goodIn_of _ (by decide +kernel)) ggX5_sell_X5_checkRoomForTrade
set_option maxRecDepth 20000 in
theorem ggX5_sell_X5_checkCanSpare : GoodIn wsX5_sell wsX5_checkCanSpare := goodIn_ca (goodIn_r _ [38, 28, 29, 39, 40, 41, 42, 43, 44, 45, 46, 47, 48, 49, 50, 51, 52, 53, 54, 55, 56, 57, 58, 59, 159, 160, 161, 162, 163, 164, 165, 166, 167, 168, 169, 170, 171, 172, 173, 174, 175] (by decide +kernel) (by decide +kernel)) (goodIn_sub (fun _ h => List.mem_cons_of_mem _ (List.mem_append_right _ h)) (by decide +kernel))
set_option maxRecDepth 20000 in
theorem gX5_sell_X5_checkCanSpare : GoodIn wsX5_sell (va_wsS RX5 52 yX5_checkCanSpare wsX5_checkCanSpare) := goodIn_app (goodIn_of _ (by decide +kernel)) ggX5_sell_X5_checkCanSpare
set_option maxRecDepth 20000 in
theorem ggX5_sell_X0_enter : GoodIn wsX5_sell wsX0_enter := goodIn_r _ [63, 35, 64, 65, 66, 67, 68, 69, 31, 32, 33, 34, 152, 153, 154, 155, 156, 157, 158] (by decide +kernel) (by decide +kernel)
set_option maxRecDepth 20000 in
theorem gX5_sell_X0_enter : GoodIn wsX5_sell (wsV RX5 44 RX0 yX0_enter wsX0_enter) := goodIn_app (goodIn_of _ (by decide +kernel)) ggX5_sell_X0_enter
set_option maxRecDepth 20000 in
theorem ggX5_sell_X1_reckon : GoodIn wsX5_sell wsX1_reckon := goodIn_r _ [74, 75, 76, 77, 78, 79, 80, 81, 50, 82, 83, 84, 85, 86, 52, 54, 87, 55, 88, 89, 90, 91, 33, 92, 65, 93, 94, 95, 96, 97, 53, 98, 99, 100, 101, 102, 40, 41, 42, 43, 44, 45, 46, 103, 104, 105, 106, 107, 108, 109, 110, 56, 57, 58, 59, 111, 112, 113, 114, 115, 73, 116, 117, 118, 6, 119, 120, 121, 122, 123, 124, 125, 126, 127, 128, 129, 130, 131, 132, 133, 134, 135, 136, 137, 138, 139, 140, 141, 142, 143, 144, 145, 146, 147, 159, 160, 161, 162, 176, 177, 178, 179, 180, 181, 182, 166, 167, 168, 169, 170, 171, 172, 173, 174, 175, 152, 153, 154, 155, 156, 157, 158, 163, 164, 165] (by decide +kernel) (by decide +kernel)
set_option maxRecDepth 20000 in
theorem gX5_sell_X1_reckon : GoodIn wsX5_sell (wsV RX5 48 RX1 yX1_reckon wsX1_reckon) := goodIn_app (goodIn_of _ (by decide +kernel)) ggX5_sell_X1_reckon
theorem dX5_sell_0 : decode cX5_sell 0 = .ok (.aload_n 0, 1) := by decide +kernel
theorem dX5_sell_1 : decode cX5_sell 1 = .ok (.iload_n 1, 1) := by decide +kernel
theorem dX5_sell_2 : decode cX5_sell 2 = .ok (.iload_n 2, 1) := by decide +kernel
theorem dX5_sell_3 : decode cX5_sell 3 = .ok (.invokevirtual 33, 3) := by decide +kernel
theorem dX5_sell_6 : decode cX5_sell 6 = .ok (.astore 5, 2) := by decide +kernel
theorem dX5_sell_8 : decode cX5_sell 8 = .ok (.iload_n 3, 1) := by decide +kernel
theorem dX5_sell_9 : decode cX5_sell 9 = .ok (.iload 4, 2) := by decide +kernel
theorem dX5_sell_11 : decode cX5_sell 11 = .ok (.invokestatic 37, 3) := by decide +kernel
theorem dX5_sell_14 : decode cX5_sell 14 = .ok (.aload_n 0, 1) := by decide +kernel
theorem dX5_sell_15 : decode cX5_sell 15 = .ok (.invokevirtual 41, 3) := by decide +kernel
theorem dX5_sell_18 : decode cX5_sell 18 = .ok (.aload 5, 2) := by decide +kernel
theorem dX5_sell_20 : decode cX5_sell 20 = .ok (.iload_n 2, 1) := by decide +kernel
theorem dX5_sell_21 : decode cX5_sell 21 = .ok (.iload_n 3, 1) := by decide +kernel
theorem dX5_sell_22 : decode cX5_sell 22 = .ok (.invokestatic 52, 3) := by decide +kernel
theorem dX5_sell_25 : decode cX5_sell 25 = .ok (.aload_n 0, 1) := by decide +kernel
theorem dX5_sell_26 : decode cX5_sell 26 = .ok (.getfield 10, 3) := by decide +kernel
theorem dX5_sell_29 : decode cX5_sell 29 = .ok (.iconst 1, 1) := by decide +kernel
theorem dX5_sell_30 : decode cX5_sell 30 = .ok (.iload_n 1, 1) := by decide +kernel
theorem dX5_sell_31 : decode cX5_sell 31 = .ok (.iload_n 2, 1) := by decide +kernel
theorem dX5_sell_32 : decode cX5_sell 32 = .ok (.iload_n 3, 1) := by decide +kernel
theorem dX5_sell_33 : decode cX5_sell 33 = .ok (.iload 4, 2) := by decide +kernel
theorem dX5_sell_35 : decode cX5_sell 35 = .ok (.invokevirtual 44, 3) := by decide +kernel
theorem dX5_sell_38 : decode cX5_sell 38 = .ok (.istore 6, 2) := by decide +kernel
theorem dX5_sell_40 : decode cX5_sell 40 = .ok (.aload 5, 2) := by decide +kernel
theorem dX5_sell_42 : decode cX5_sell 42 = .ok (.aload_n 0, 1) := by decide +kernel
theorem dX5_sell_43 : decode cX5_sell 43 = .ok (.getfield 10, 3) := by decide +kernel
theorem dX5_sell_46 : decode cX5_sell 46 = .ok (.aload_n 0, 1) := by decide +kernel
theorem dX5_sell_47 : decode cX5_sell 47 = .ok (.getfield 29, 3) := by decide +kernel
theorem dX5_sell_50 : decode cX5_sell 50 = .ok (.invokevirtual 48, 3) := by decide +kernel
theorem dX5_sell_53 : decode cX5_sell 53 = .ok (.iload 6, 2) := by decide +kernel
theorem dX5_sell_55 : decode cX5_sell 55 = .ok (.ireturn, 1) := by decide +kernel
set_option maxRecDepth 20000 in
theorem ggX5_split_X5_ledgerAt : GoodIn wsX5_split wsX5_ledgerAt := goodIn_ca (goodIn_r _ [11, 12, 13, 14, 15, 16, 10, 17, 18, 132, 133, 134, 135] (by decide +kernel) (by decide +kernel)) (goodIn_sub (fun _ h => List.mem_cons_of_mem _ (List.mem_append_right _ h)) (by decide +kernel))
set_option maxRecDepth 20000 in
theorem gX5_split_X5_ledgerAt : GoodIn wsX5_split (wsV RX5 33 RX5 yX5_ledgerAt wsX5_ledgerAt) := goodIn_app (goodIn_of _ (by decide +kernel)) ggX5_split_X5_ledgerAt
set_option maxRecDepth 20000 in
theorem ggX5_split_X4_isFull : GoodIn wsX5_split wsX4_isFull := goodIn_r _ [23, 24, 136, 137, 138] (by decide +kernel) (by decide +kernel)
set_option maxRecDepth 20000 in
theorem gX5_split_X4_isFull : GoodIn wsX5_split (wsV RX5 67 RX4 yX4_isFull wsX4_isFull) := goodIn_app (goodIn_of _ (by decide +kernel)) ggX5_split_X4_isFull
set_option maxRecDepth 20000 in
theorem ggX5_split_X4_hasDay : GoodIn wsX5_split wsX4_hasDay := goodIn_r _ [28, 24, 29, 136, 137, 138] (by decide +kernel) (by decide +kernel)
set_option maxRecDepth 20000 in
theorem gX5_split_X4_hasDay : GoodIn wsX5_split (wsV RX5 73 RX4 yX4_hasDay wsX4_hasDay) := goodIn_app (goodIn_of _ (by decide +kernel)) ggX5_split_X4_hasDay
set_option maxRecDepth 20000 in
theorem ggX5_split_X4_enter : GoodIn wsX5_split wsX4_enter := goodIn_r _ [33, 29, 24, 34, 35, 20, 21, 22, 23, 136, 137, 138] (by decide +kernel) (by decide +kernel)
set_option maxRecDepth 20000 in
theorem gX5_split_X4_enter : GoodIn wsX5_split (wsV RX5 82 RX4 yX4_enter wsX4_enter) := goodIn_app (goodIn_of _ (by decide +kernel)) ggX5_split_X4_enter
set_option maxRecDepth 20000 in
theorem ggX5_split_X1_reckon : GoodIn wsX5_split wsX1_reckon := goodIn_r _ [40, 41, 42, 43, 44, 45, 46, 47, 48, 49, 50, 51, 52, 53, 54, 55, 56, 57, 58, 59, 60, 61, 62, 63, 64, 65, 66, 67, 68, 69, 70, 71, 72, 73, 74, 75, 76, 77, 22, 78, 24, 29, 34, 79, 80, 81, 82, 83, 84, 85, 86, 87, 88, 89, 90, 91, 92, 93, 94, 95, 39, 96, 97, 98, 10, 99, 100, 101, 102, 103, 104, 105, 106, 107, 108, 109, 110, 111, 112, 113, 114, 115, 116, 117, 118, 119, 120, 121, 122, 123, 124, 125, 126, 127, 128, 129, 130, 131, 139, 140, 141, 142, 143, 144, 145, 146, 147, 148, 149, 150, 151, 152, 153, 154, 155, 156, 157, 158, 159, 160, 161, 162, 136, 137, 138] (by decide +kernel) (by decide +kernel)
set_option maxRecDepth 20000 in
theorem gX5_split_X1_reckon : GoodIn wsX5_split (wsV RX5 48 RX1 yX1_reckon wsX1_reckon) := goodIn_app (goodIn_of _ (by decide +kernel)) ggX5_split_X1_reckon
theorem dX5_split_0 : decode cX5_split 0 = .ok (.aload_n 0, 1) := by decide +kernel
theorem dX5_split_1 : decode cX5_split 1 = .ok (.iload_n 1, 1) := by decide +kernel
theorem dX5_split_2 : decode cX5_split 2 = .ok (.iload_n 2, 1) := by decide +kernel
theorem dX5_split_3 : decode cX5_split 3 = .ok (.invokevirtual 33, 3) := by decide +kernel
theorem dX5_split_6 : decode cX5_split 6 = .ok (.astore 4, 2) := by decide +kernel
theorem dX5_split_8 : decode cX5_split 8 = .ok (.iload_n 3, 1) := by decide +kernel
theorem dX5_split_9 : decode cX5_split 9 = .ok (.iconst 2, 1) := by decide +kernel
theorem dX5_split_10 : decode cX5_split 10 = .ok (.if_icmp .lt 8, 3) := by decide +kernel
theorem dX5_split_13 : decode cX5_split 13 = .ok (.iload_n 3, 1) := by decide +kernel
theorem dX5_split_14 : decode cX5_split 14 = .ok (.iconst 5, 1) := by decide +kernel
theorem dX5_split_15 : decode cX5_split 15 = .ok (.if_icmp .le 13, 3) := by decide +kernel
theorem dX5_split_18 : decode cX5_split 18 = .ok (.new 56, 3) := by decide +kernel
theorem dX5_split_21 : decode cX5_split 21 = .ok (.dup, 1) := by decide +kernel
theorem dX5_split_22 : decode cX5_split 22 = .ok (.ldc 58, 2) := by decide +kernel
theorem dX5_split_24 : decode cX5_split 24 = .ok (.invokespecial 60, 3) := by decide +kernel
theorem dX5_split_27 : decode cX5_split 27 = .ok (.athrow, 1) := by decide +kernel
theorem dX5_split_28 : decode cX5_split 28 = .ok (.aload 4, 2) := by decide +kernel
theorem dX5_split_30 : decode cX5_split 30 = .ok (.getfield 63, 3) := by decide +kernel
theorem dX5_split_33 : decode cX5_split 33 = .ok (.invokevirtual 67, 3) := by decide +kernel
theorem dX5_split_36 : decode cX5_split 36 = .ok (.ifCond .ne 15, 3) := by decide +kernel
theorem dX5_split_39 : decode cX5_split 39 = .ok (.aload 4, 2) := by decide +kernel
theorem dX5_split_41 : decode cX5_split 41 = .ok (.getfield 63, 3) := by decide +kernel
theorem dX5_split_44 : decode cX5_split 44 = .ok (.iload_n 2, 1) := by decide +kernel
theorem dX5_split_45 : decode cX5_split 45 = .ok (.invokevirtual 73, 3) := by decide +kernel
theorem dX5_split_48 : decode cX5_split 48 = .ok (.ifCond .eq 13, 3) := by decide +kernel
theorem dX5_split_51 : decode cX5_split 51 = .ok (.new 77, 3) := by decide +kernel
theorem dX5_split_54 : decode cX5_split 54 = .ok (.dup, 1) := by decide +kernel
theorem dX5_split_55 : decode cX5_split 55 = .ok (.ldc 79, 2) := by decide +kernel
theorem dX5_split_57 : decode cX5_split 57 = .ok (.invokespecial 81, 3) := by decide +kernel
theorem dX5_split_60 : decode cX5_split 60 = .ok (.athrow, 1) := by decide +kernel
theorem dX5_split_61 : decode cX5_split 61 = .ok (.aload 4, 2) := by decide +kernel
theorem dX5_split_63 : decode cX5_split 63 = .ok (.getfield 63, 3) := by decide +kernel
theorem dX5_split_66 : decode cX5_split 66 = .ok (.iload_n 2, 1) := by decide +kernel
theorem dX5_split_67 : decode cX5_split 67 = .ok (.iload_n 3, 1) := by decide +kernel
theorem dX5_split_68 : decode cX5_split 68 = .ok (.invokevirtual 82, 3) := by decide +kernel
theorem dX5_split_71 : decode cX5_split 71 = .ok (.aload 4, 2) := by decide +kernel
theorem dX5_split_73 : decode cX5_split 73 = .ok (.aload_n 0, 1) := by decide +kernel
theorem dX5_split_74 : decode cX5_split 74 = .ok (.getfield 10, 3) := by decide +kernel
theorem dX5_split_77 : decode cX5_split 77 = .ok (.aload_n 0, 1) := by decide +kernel
theorem dX5_split_78 : decode cX5_split 78 = .ok (.getfield 29, 3) := by decide +kernel
theorem dX5_split_81 : decode cX5_split 81 = .ok (.invokevirtual 48, 3) := by decide +kernel
theorem dX5_split_84 : decode cX5_split 84 = .ok (.aload 4, 2) := by decide +kernel
theorem dX5_split_86 : decode cX5_split 86 = .ok (.getfield 63, 3) := by decide +kernel
theorem dX5_split_89 : decode cX5_split 89 = .ok (.getfield 84, 3) := by decide +kernel
theorem dX5_split_92 : decode cX5_split 92 = .ok (.ireturn, 1) := by decide +kernel
set_option maxRecDepth 20000 in
theorem ggX5_cancel_X5_ledgerAt : GoodIn wsX5_cancel wsX5_ledgerAt := goodIn_ca (goodIn_r _ [11, 1, 2, 12, 13, 14, 10, 15, 16, 121, 122, 123, 124] (by decide +kernel) (by decide +kernel)) (goodIn_sub (fun _ h => List.mem_cons_of_mem _ (List.mem_append_left _ (List.mem_append_right _ h))) (by decide +kernel))
set_option maxRecDepth 20000 in
theorem gX5_cancel_X5_ledgerAt : GoodIn wsX5_cancel (wsV RX5 33 RX5 yX5_ledgerAt wsX5_ledgerAt) := goodIn_app (goodIn_of _ (by decide +kernel)) ggX5_cancel_X5_ledgerAt
set_option maxRecDepth 20000 in
theorem ggX5_cancel_X5_checkCanSpare : GoodIn wsX5_cancel wsX5_checkCanSpare := goodIn_ca (goodIn_r _ [19, 3, 4, 20, 21, 22, 23, 24, 25, 26, 27, 28, 29, 30, 31, 32, 33, 34, 35, 36, 37, 38, 39, 40, 132, 133, 134, 135, 136, 137, 138, 139, 140, 141, 142, 143, 144, 145, 146, 147, 148] (by decide +kernel) (by decide +kernel)) (goodIn_sub (fun _ h => List.mem_cons_of_mem _ (List.mem_append_right _ h)) (by decide +kernel))
set_option maxRecDepth 20000 in
theorem gX5_cancel_X5_checkCanSpare : GoodIn wsX5_cancel (va_wsS RX5 52 yX5_checkCanSpare wsX5_checkCanSpare) := goodIn_app (goodIn_of _ (by decide +kernel)) ggX5_cancel_X5_checkCanSpare
set_option maxRecDepth 20000 in
theorem ggX5_cancel_X1_reckon : GoodIn wsX5_cancel wsX1_reckon := goodIn_r _ [45, 46, 47, 48, 49, 50, 51, 52, 31, 53, 54, 55, 56, 57, 33, 35, 58, 36, 59, 60, 61, 62, 63, 64, 65, 66, 67, 68, 69, 70, 34, 71, 72, 73, 74, 75, 21, 22, 23, 24, 25, 26, 27, 76, 77, 78, 79, 80, 81, 82, 83, 37, 38, 39, 40, 84, 85, 86, 87, 88, 44, 89, 90, 91, 10, 92, 93, 94, 95, 96, 97, 98, 99, 100, 101, 102, 103, 104, 105, 106, 107, 108, 109, 110, 111, 112, 113, 114, 115, 116, 117, 118, 119, 120, 132, 133, 134, 135, 149, 150, 151, 152, 153, 154, 155, 139, 140, 141, 142, 143, 144, 145, 146, 147, 148, 125, 126, 127, 128, 129, 130, 131, 136, 137, 138] (by decide +kernel) (by decide +kernel)
set_option maxRecDepth 20000 in
theorem gX5_cancel_X1_reckon : GoodIn wsX5_cancel (wsV RX5 48 RX1 yX1_reckon wsX1_reckon) := goodIn_app (goodIn_of _ (by decide +kernel)) ggX5_cancel_X1_reckon
theorem dX5_cancel_0 : decode cX5_cancel 0 = .ok (.iload_n 1, 1) := by decide +kernel
theorem dX5_cancel_1 : decode cX5_cancel 1 = .ok (.ifCond .lt 14, 3) := by decide +kernel
theorem dX5_cancel_4 : decode cX5_cancel 4 = .ok (.iload_n 1, 1) := by decide +kernel
theorem dX5_cancel_5 : decode cX5_cancel 5 = .ok (.aload_n 0, 1) := by decide +kernel
theorem dX5_cancel_6 : decode cX5_cancel 6 = .ok (.getfield 10, 3) := by decide +kernel
theorem dX5_cancel_9 : decode cX5_cancel 9 = .ok (.getfield 87, 3) := by decide +kernel
theorem dX5_cancel_12 : decode cX5_cancel 12 = .ok (.if_icmp .lt 13, 3) := by decide +kernel
theorem dX5_cancel_15 : decode cX5_cancel 15 = .ok (.new 88, 3) := by decide +kernel
theorem dX5_cancel_18 : decode cX5_cancel 18 = .ok (.dup, 1) := by decide +kernel
theorem dX5_cancel_19 : decode cX5_cancel 19 = .ok (.ldc 90, 2) := by decide +kernel
theorem dX5_cancel_21 : decode cX5_cancel 21 = .ok (.invokespecial 92, 3) := by decide +kernel
theorem dX5_cancel_24 : decode cX5_cancel 24 = .ok (.athrow, 1) := by decide +kernel
theorem dX5_cancel_25 : decode cX5_cancel 25 = .ok (.aload_n 0, 1) := by decide +kernel
theorem dX5_cancel_26 : decode cX5_cancel 26 = .ok (.getfield 10, 3) := by decide +kernel
theorem dX5_cancel_29 : decode cX5_cancel 29 = .ok (.getfield 93, 3) := by decide +kernel
theorem dX5_cancel_32 : decode cX5_cancel 32 = .ok (.iload_n 1, 1) := by decide +kernel
theorem dX5_cancel_33 : decode cX5_cancel 33 = .ok (.baload, 1) := by decide +kernel
theorem dX5_cancel_34 : decode cX5_cancel 34 = .ok (.ifCond .eq 13, 3) := by decide +kernel
theorem dX5_cancel_37 : decode cX5_cancel 37 = .ok (.new 77, 3) := by decide +kernel
theorem dX5_cancel_40 : decode cX5_cancel 40 = .ok (.dup, 1) := by decide +kernel
theorem dX5_cancel_41 : decode cX5_cancel 41 = .ok (.ldc 97, 2) := by decide +kernel
theorem dX5_cancel_43 : decode cX5_cancel 43 = .ok (.invokespecial 81, 3) := by decide +kernel
theorem dX5_cancel_46 : decode cX5_cancel 46 = .ok (.athrow, 1) := by decide +kernel
theorem dX5_cancel_47 : decode cX5_cancel 47 = .ok (.aload_n 0, 1) := by decide +kernel
theorem dX5_cancel_48 : decode cX5_cancel 48 = .ok (.aload_n 0, 1) := by decide +kernel
theorem dX5_cancel_49 : decode cX5_cancel 49 = .ok (.getfield 10, 3) := by decide +kernel
theorem dX5_cancel_52 : decode cX5_cancel 52 = .ok (.getfield 99, 3) := by decide +kernel
theorem dX5_cancel_55 : decode cX5_cancel 55 = .ok (.iload_n 1, 1) := by decide +kernel
theorem dX5_cancel_56 : decode cX5_cancel 56 = .ok (.iaload, 1) := by decide +kernel
theorem dX5_cancel_57 : decode cX5_cancel 57 = .ok (.aload_n 0, 1) := by decide +kernel
theorem dX5_cancel_58 : decode cX5_cancel 58 = .ok (.getfield 10, 3) := by decide +kernel
theorem dX5_cancel_61 : decode cX5_cancel 61 = .ok (.getfield 102, 3) := by decide +kernel
theorem dX5_cancel_64 : decode cX5_cancel 64 = .ok (.iload_n 1, 1) := by decide +kernel
theorem dX5_cancel_65 : decode cX5_cancel 65 = .ok (.iaload, 1) := by decide +kernel
theorem dX5_cancel_66 : decode cX5_cancel 66 = .ok (.invokevirtual 33, 3) := by decide +kernel
theorem dX5_cancel_69 : decode cX5_cancel 69 = .ok (.astore_n 2, 1) := by decide +kernel
theorem dX5_cancel_70 : decode cX5_cancel 70 = .ok (.aload_n 0, 1) := by decide +kernel
theorem dX5_cancel_71 : decode cX5_cancel 71 = .ok (.getfield 10, 3) := by decide +kernel
theorem dX5_cancel_74 : decode cX5_cancel 74 = .ok (.getfield 105, 3) := by decide +kernel
theorem dX5_cancel_77 : decode cX5_cancel 77 = .ok (.iload_n 1, 1) := by decide +kernel
theorem dX5_cancel_78 : decode cX5_cancel 78 = .ok (.baload, 1) := by decide +kernel
theorem dX5_cancel_79 : decode cX5_cancel 79 = .ok (.ifCond .ne 25, 3) := by decide +kernel
theorem dX5_cancel_82 : decode cX5_cancel 82 = .ok (.aload_n 2, 1) := by decide +kernel
theorem dX5_cancel_83 : decode cX5_cancel 83 = .ok (.aload_n 0, 1) := by decide +kernel
theorem dX5_cancel_84 : decode cX5_cancel 84 = .ok (.getfield 10, 3) := by decide +kernel
theorem dX5_cancel_87 : decode cX5_cancel 87 = .ok (.getfield 102, 3) := by decide +kernel
theorem dX5_cancel_90 : decode cX5_cancel 90 = .ok (.iload_n 1, 1) := by decide +kernel
theorem dX5_cancel_91 : decode cX5_cancel 91 = .ok (.iaload, 1) := by decide +kernel
theorem dX5_cancel_92 : decode cX5_cancel 92 = .ok (.aload_n 0, 1) := by decide +kernel
theorem dX5_cancel_93 : decode cX5_cancel 93 = .ok (.getfield 10, 3) := by decide +kernel
theorem dX5_cancel_96 : decode cX5_cancel 96 = .ok (.getfield 108, 3) := by decide +kernel
theorem dX5_cancel_99 : decode cX5_cancel 99 = .ok (.iload_n 1, 1) := by decide +kernel
theorem dX5_cancel_100 : decode cX5_cancel 100 = .ok (.iaload, 1) := by decide +kernel
theorem dX5_cancel_101 : decode cX5_cancel 101 = .ok (.invokestatic 52, 3) := by decide +kernel
theorem dX5_cancel_104 : decode cX5_cancel 104 = .ok (.aload_n 0, 1) := by decide +kernel
theorem dX5_cancel_105 : decode cX5_cancel 105 = .ok (.getfield 10, 3) := by decide +kernel
theorem dX5_cancel_108 : decode cX5_cancel 108 = .ok (.getfield 93, 3) := by decide +kernel
theorem dX5_cancel_111 : decode cX5_cancel 111 = .ok (.iload_n 1, 1) := by decide +kernel
theorem dX5_cancel_112 : decode cX5_cancel 112 = .ok (.iconst 1, 1) := by decide +kernel
theorem dX5_cancel_113 : decode cX5_cancel 113 = .ok (.bastore, 1) := by decide +kernel
theorem dX5_cancel_114 : decode cX5_cancel 114 = .ok (.aload_n 2, 1) := by decide +kernel
theorem dX5_cancel_115 : decode cX5_cancel 115 = .ok (.aload_n 0, 1) := by decide +kernel
theorem dX5_cancel_116 : decode cX5_cancel 116 = .ok (.getfield 10, 3) := by decide +kernel
theorem dX5_cancel_119 : decode cX5_cancel 119 = .ok (.aload_n 0, 1) := by decide +kernel
theorem dX5_cancel_120 : decode cX5_cancel 120 = .ok (.getfield 29, 3) := by decide +kernel
theorem dX5_cancel_123 : decode cX5_cancel 123 = .ok (.invokevirtual 48, 3) := by decide +kernel
theorem dX5_cancel_126 : decode cX5_cancel 126 = .ok (.return_, 1) := by decide +kernel
set_option maxRecDepth 20000 in
theorem ggX5_setAllowance_X5_checkYear : GoodIn wsX5_setAllowance wsX5_checkYear := goodIn_ca (goodIn_r _ [5, 6, 7] (by decide +kernel) (by decide +kernel)) (goodIn_sub (fun _ h => List.mem_cons_of_mem _ (List.mem_append_left _ (List.mem_append_right _ h))) (by decide +kernel))
set_option maxRecDepth 20000 in
theorem gX5_setAllowance_X5_checkYear : GoodIn wsX5_setAllowance (va_wsS RX5 111 yX5_checkYear wsX5_checkYear) := goodIn_app (goodIn_of _ (by decide +kernel)) ggX5_setAllowance_X5_checkYear
set_option maxRecDepth 20000 in
theorem ggX5_setAllowance_X5_checkMoney : GoodIn wsX5_setAllowance wsX5_checkMoney := goodIn_ca (goodIn_r _ [10, 11, 12, 13] (by decide +kernel) (by decide +kernel)) (goodIn_sub (fun _ h => List.mem_cons_of_mem _ (List.mem_append_right _ h)) (by decide +kernel))
set_option maxRecDepth 20000 in
theorem gX5_setAllowance_X5_checkMoney : GoodIn wsX5_setAllowance (va_wsS RX5 114 yX5_checkMoney wsX5_checkMoney) := goodIn_app (goodIn_of _ (by decide +kernel)) ggX5_setAllowance_X5_checkMoney
theorem dX5_setAllowance_0 : decode cX5_setAllowance 0 = .ok (.iload_n 1, 1) := by decide +kernel
theorem dX5_setAllowance_1 : decode cX5_setAllowance 1 = .ok (.invokestatic 111, 3) := by decide +kernel
theorem dX5_setAllowance_4 : decode cX5_setAllowance 4 = .ok (.iload_n 2, 1) := by decide +kernel
theorem dX5_setAllowance_5 : decode cX5_setAllowance 5 = .ok (.invokestatic 114, 3) := by decide +kernel
theorem dX5_setAllowance_8 : decode cX5_setAllowance 8 = .ok (.aload_n 0, 1) := by decide +kernel
theorem dX5_setAllowance_9 : decode cX5_setAllowance 9 = .ok (.getfield 25, 3) := by decide +kernel
theorem dX5_setAllowance_12 : decode cX5_setAllowance 12 = .ok (.iload_n 1, 1) := by decide +kernel
theorem dX5_setAllowance_13 : decode cX5_setAllowance 13 = .ok (.iaload, 1) := by decide +kernel
theorem dX5_setAllowance_14 : decode cX5_setAllowance 14 = .ok (.istore_n 3, 1) := by decide +kernel
theorem dX5_setAllowance_15 : decode cX5_setAllowance 15 = .ok (.aload_n 0, 1) := by decide +kernel
theorem dX5_setAllowance_16 : decode cX5_setAllowance 16 = .ok (.getfield 25, 3) := by decide +kernel
theorem dX5_setAllowance_19 : decode cX5_setAllowance 19 = .ok (.iload_n 1, 1) := by decide +kernel
theorem dX5_setAllowance_20 : decode cX5_setAllowance 20 = .ok (.iload_n 2, 1) := by decide +kernel
theorem dX5_setAllowance_21 : decode cX5_setAllowance 21 = .ok (.iastore, 1) := by decide +kernel
theorem dX5_setAllowance_22 : decode cX5_setAllowance 22 = .ok (.iload_n 3, 1) := by decide +kernel
theorem dX5_setAllowance_23 : decode cX5_setAllowance 23 = .ok (.ireturn, 1) := by decide +kernel
set_option maxRecDepth 20000 in
theorem ggX5_setWindow_X1_reckon : GoodIn wsX5_setWindow wsX1_reckon := goodIn_r _ [10, 11, 12, 13, 14, 15, 16, 17, 18, 19, 20, 21, 22, 23, 24, 25, 26, 27, 28, 29, 30, 31, 32, 33, 34, 35, 36, 37, 38, 39, 40, 41, 42, 43, 44, 45, 46, 47, 48, 49, 50, 51, 52, 53, 54, 55, 56, 57, 58, 59, 60, 61, 62, 63, 64, 65, 66, 67, 68, 69, 9, 70, 71, 72, 73, 74, 75, 76, 77, 78, 79, 80, 81, 82, 83, 84, 85, 86, 87, 88, 89, 90, 91, 92, 93, 94, 95, 96, 97, 98, 99, 100, 101, 102, 107, 108, 109, 110, 111, 112, 113, 114, 115, 116, 117, 118, 119, 120, 121, 122, 123, 124, 125, 126, 127, 128, 129, 130, 131, 132, 133, 134, 135, 136, 137] (by decide +kernel) (by decide +kernel)
set_option maxRecDepth 20000 in
theorem gX5_setWindow_X1_reckon : GoodIn wsX5_setWindow (wsV RX5 48 RX1 yX1_reckon wsX1_reckon) := goodIn_app (goodIn_of _ (by decide +kernel)) ggX5_setWindow_X1_reckon
theorem dX5_setWindow_0 : decode cX5_setWindow 0 = .ok (.iload_n 1, 1) := by decide +kernel
theorem dX5_setWindow_1 : decode cX5_setWindow 1 = .ok (.ifCond .lt 9, 3) := by decide +kernel
theorem dX5_setWindow_4 : decode cX5_setWindow 4 = .ok (.iload_n 1, 1) := by decide +kernel
theorem dX5_setWindow_5 : decode cX5_setWindow 5 = .ok (.bipush 60, 2) := by decide +kernel
theorem dX5_setWindow_7 : decode cX5_setWindow 7 = .ok (.if_icmp .le 13, 3) := by decide +kernel
theorem dX5_setWindow_10 : decode cX5_setWindow 10 = .ok (.new 56, 3) := by decide +kernel
theorem dX5_setWindow_13 : decode cX5_setWindow 13 = .ok (.dup, 1) := by decide +kernel
theorem dX5_setWindow_14 : decode cX5_setWindow 14 = .ok (.ldc 117, 2) := by decide +kernel
theorem dX5_setWindow_16 : decode cX5_setWindow 16 = .ok (.invokespecial 60, 3) := by decide +kernel
theorem dX5_setWindow_19 : decode cX5_setWindow 19 = .ok (.athrow, 1) := by decide +kernel
theorem dX5_setWindow_20 : decode cX5_setWindow 20 = .ok (.aload_n 0, 1) := by decide +kernel
theorem dX5_setWindow_21 : decode cX5_setWindow 21 = .ok (.getfield 29, 3) := by decide +kernel
theorem dX5_setWindow_24 : decode cX5_setWindow 24 = .ok (.istore_n 2, 1) := by decide +kernel
theorem dX5_setWindow_25 : decode cX5_setWindow 25 = .ok (.aload_n 0, 1) := by decide +kernel
theorem dX5_setWindow_26 : decode cX5_setWindow 26 = .ok (.iload_n 1, 1) := by decide +kernel
theorem dX5_setWindow_27 : decode cX5_setWindow 27 = .ok (.putfield 29, 3) := by decide +kernel
theorem dX5_setWindow_30 : decode cX5_setWindow 30 = .ok (.iconst 0, 1) := by decide +kernel
theorem dX5_setWindow_31 : decode cX5_setWindow 31 = .ok (.istore_n 3, 1) := by decide +kernel
theorem dX5_setWindow_32 : decode cX5_setWindow 32 = .ok (.iload_n 3, 1) := by decide +kernel
theorem dX5_setWindow_33 : decode cX5_setWindow 33 = .ok (.iconst 3, 1) := by decide +kernel
theorem dX5_setWindow_34 : decode cX5_setWindow 34 = .ok (.if_icmp .ge 26, 3) := by decide +kernel
theorem dX5_setWindow_37 : decode cX5_setWindow 37 = .ok (.aload_n 0, 1) := by decide +kernel
theorem dX5_setWindow_38 : decode cX5_setWindow 38 = .ok (.getfield 18, 3) := by decide +kernel
theorem dX5_setWindow_41 : decode cX5_setWindow 41 = .ok (.iload_n 3, 1) := by decide +kernel
theorem dX5_setWindow_42 : decode cX5_setWindow 42 = .ok (.aaload, 1) := by decide +kernel
theorem dX5_setWindow_43 : decode cX5_setWindow 43 = .ok (.aload_n 0, 1) := by decide +kernel
theorem dX5_setWindow_44 : decode cX5_setWindow 44 = .ok (.getfield 10, 3) := by decide +kernel
theorem dX5_setWindow_47 : decode cX5_setWindow 47 = .ok (.aload_n 0, 1) := by decide +kernel
theorem dX5_setWindow_48 : decode cX5_setWindow 48 = .ok (.getfield 29, 3) := by decide +kernel
theorem dX5_setWindow_51 : decode cX5_setWindow 51 = .ok (.invokevirtual 48, 3) := by decide +kernel
theorem dX5_setWindow_54 : decode cX5_setWindow 54 = .ok (.iinc 3 1, 3) := by decide +kernel
theorem dX5_setWindow_57 : decode cX5_setWindow 57 = .ok (.goto (-25), 3) := by decide +kernel
theorem dX5_setWindow_60 : decode cX5_setWindow 60 = .ok (.iload_n 2, 1) := by decide +kernel
theorem dX5_setWindow_61 : decode cX5_setWindow 61 = .ok (.ireturn, 1) := by decide +kernel
theorem dX5_trades_0 : decode cX5_trades 0 = .ok (.aload_n 0, 1) := by decide +kernel
theorem dX5_trades_1 : decode cX5_trades 1 = .ok (.getfield 10, 3) := by decide +kernel
theorem dX5_trades_4 : decode cX5_trades 4 = .ok (.getfield 87, 3) := by decide +kernel
theorem dX5_trades_7 : decode cX5_trades 7 = .ok (.ireturn, 1) := by decide +kernel
set_option maxRecDepth 20000 in
theorem ggX5_holding_X5_ledgerAt : GoodIn wsX5_holding wsX5_ledgerAt := goodIn_ca (goodIn_r _ [6, 7, 8, 9, 10, 11, 5, 12, 13, 36, 37, 38, 39] (by decide +kernel) (by decide +kernel)) (goodIn_sub (fun _ h => List.mem_cons_of_mem _ (List.mem_append_right _ h)) (by decide +kernel))
set_option maxRecDepth 20000 in
theorem gX5_holding_X5_ledgerAt : GoodIn wsX5_holding (wsV RX5 33 RX5 yX5_ledgerAt wsX5_ledgerAt) := goodIn_app (goodIn_of _ (by decide +kernel)) ggX5_holding_X5_ledgerAt
set_option maxRecDepth 20000 in
theorem ggX5_holding_X1_heldShares : GoodIn wsX5_holding wsX1_heldShares := goodIn_r _ [18, 19, 20, 21, 22, 23, 24, 25, 26, 27, 28, 29, 30, 31, 32, 33, 34, 35, 40, 41, 42, 43, 44, 45, 46, 47, 48, 49, 50, 51, 52, 53] (by decide +kernel) (by decide +kernel)
set_option maxRecDepth 20000 in
theorem gX5_holding_X1_heldShares : GoodIn wsX5_holding (wsV RX5 119 RX1 yX1_heldShares wsX1_heldShares) := goodIn_app (goodIn_of _ (by decide +kernel)) ggX5_holding_X1_heldShares
theorem dX5_holding_0 : decode cX5_holding 0 = .ok (.aload_n 0, 1) := by decide +kernel
theorem dX5_holding_1 : decode cX5_holding 1 = .ok (.iload_n 1, 1) := by decide +kernel
theorem dX5_holding_2 : decode cX5_holding 2 = .ok (.iload_n 2, 1) := by decide +kernel
theorem dX5_holding_3 : decode cX5_holding 3 = .ok (.invokevirtual 33, 3) := by decide +kernel
theorem dX5_holding_6 : decode cX5_holding 6 = .ok (.aload_n 0, 1) := by decide +kernel
theorem dX5_holding_7 : decode cX5_holding 7 = .ok (.getfield 10, 3) := by decide +kernel
theorem dX5_holding_10 : decode cX5_holding 10 = .ok (.iload_n 2, 1) := by decide +kernel
theorem dX5_holding_11 : decode cX5_holding 11 = .ok (.invokevirtual 119, 3) := by decide +kernel
theorem dX5_holding_14 : decode cX5_holding 14 = .ok (.ireturn, 1) := by decide +kernel
set_option maxRecDepth 20000 in
theorem ggX5_poolUnits_X5_ledgerAt : GoodIn wsX5_poolUnits wsX5_ledgerAt := goodIn_ca (goodIn_r _ [5, 6, 7, 8, 9, 10, 4, 11, 12, 34, 35, 36, 37] (by decide +kernel) (by decide +kernel)) (goodIn_sub (fun _ h => List.mem_cons_of_mem _ (List.mem_append_right _ h)) (by decide +kernel))
set_option maxRecDepth 20000 in
theorem gX5_poolUnits_X5_ledgerAt : GoodIn wsX5_poolUnits (wsV RX5 33 RX5 yX5_ledgerAt wsX5_ledgerAt) := goodIn_app (goodIn_of _ (by decide +kernel)) ggX5_poolUnits_X5_ledgerAt
set_option maxRecDepth 20000 in
theorem ggX5_poolUnits_X3_lastRowUpTo : GoodIn wsX5_poolUnits wsX3_lastRowUpTo := goodIn_r _ [17, 18, 19, 24, 25, 26, 27, 28, 29, 30, 31, 32, 33] (by decide +kernel) (by decide +kernel)
set_option maxRecDepth 20000 in
theorem gX5_poolUnits_X3_lastRowUpTo : GoodIn wsX5_poolUnits (wsV RX5 127 RX3 yX3_lastRowUpTo wsX3_lastRowUpTo) := goodIn_app (goodIn_of _ (by decide +kernel)) ggX5_poolUnits_X3_lastRowUpTo
theorem dX5_poolUnits_0 : decode cX5_poolUnits 0 = .ok (.aload_n 0, 1) := by decide +kernel
theorem dX5_poolUnits_1 : decode cX5_poolUnits 1 = .ok (.iload_n 1, 1) := by decide +kernel
theorem dX5_poolUnits_2 : decode cX5_poolUnits 2 = .ok (.iload_n 2, 1) := by decide +kernel
theorem dX5_poolUnits_3 : decode cX5_poolUnits 3 = .ok (.invokevirtual 33, 3) := by decide +kernel
theorem dX5_poolUnits_6 : decode cX5_poolUnits 6 = .ok (.getfield 123, 3) := by decide +kernel
theorem dX5_poolUnits_9 : decode cX5_poolUnits 9 = .ok (.astore_n 3, 1) := by decide +kernel
theorem dX5_poolUnits_10 : decode cX5_poolUnits 10 = .ok (.aload_n 3, 1) := by decide +kernel
theorem dX5_poolUnits_11 : decode cX5_poolUnits 11 = .ok (.iload_n 2, 1) := by decide +kernel
theorem dX5_poolUnits_12 : decode cX5_poolUnits 12 = .ok (.invokevirtual 127, 3) := by decide +kernel
theorem dX5_poolUnits_15 : decode cX5_poolUnits 15 = .ok (.istore 4, 2) := by decide +kernel
theorem dX5_poolUnits_17 : decode cX5_poolUnits 17 = .ok (.iload 4, 2) := by decide +kernel
theorem dX5_poolUnits_19 : decode cX5_poolUnits 19 = .ok (.ifCond .ge 7, 3) := by decide +kernel
theorem dX5_poolUnits_22 : decode cX5_poolUnits 22 = .ok (.iconst 0, 1) := by decide +kernel
theorem dX5_poolUnits_23 : decode cX5_poolUnits 23 = .ok (.goto 10, 3) := by decide +kernel
theorem dX5_poolUnits_26 : decode cX5_poolUnits 26 = .ok (.aload_n 3, 1) := by decide +kernel
theorem dX5_poolUnits_27 : decode cX5_poolUnits 27 = .ok (.getfield 133, 3) := by decide +kernel
theorem dX5_poolUnits_30 : decode cX5_poolUnits 30 = .ok (.iload 4, 2) := by decide +kernel
theorem dX5_poolUnits_32 : decode cX5_poolUnits 32 = .ok (.iaload, 1) := by decide +kernel
theorem dX5_poolUnits_33 : decode cX5_poolUnits 33 = .ok (.ireturn, 1) := by decide +kernel
set_option maxRecDepth 20000 in
theorem ggX5_poolCost_X5_ledgerAt : GoodIn wsX5_poolCost wsX5_ledgerAt := goodIn_ca (goodIn_r _ [5, 6, 7, 8, 9, 10, 4, 11, 12, 34, 35, 36, 37] (by decide +kernel) (by decide +kernel)) (goodIn_sub (fun _ h => List.mem_cons_of_mem _ (List.mem_append_right _ h)) (by decide +kernel))
set_option maxRecDepth 20000 in
theorem gX5_poolCost_X5_ledgerAt : GoodIn wsX5_poolCost (wsV RX5 33 RX5 yX5_ledgerAt wsX5_ledgerAt) := goodIn_app (goodIn_of _ (by decide +kernel)) ggX5_poolCost_X5_ledgerAt
set_option maxRecDepth 20000 in
theorem ggX5_poolCost_X3_lastRowUpTo : GoodIn wsX5_poolCost wsX3_lastRowUpTo := goodIn_r _ [17, 18, 19, 24, 25, 26, 27, 28, 29, 30, 31, 32, 33] (by decide +kernel) (by decide +kernel)
set_option maxRecDepth 20000 in
theorem gX5_poolCost_X3_lastRowUpTo : GoodIn wsX5_poolCost (wsV RX5 127 RX3 yX3_lastRowUpTo wsX3_lastRowUpTo) := goodIn_app (goodIn_of _ (by decide +kernel)) ggX5_poolCost_X3_lastRowUpTo
theorem dX5_poolCost_0 : decode cX5_poolCost 0 = .ok (.aload_n 0, 1) := by decide +kernel
theorem dX5_poolCost_1 : decode cX5_poolCost 1 = .ok (.iload_n 1, 1) := by decide +kernel
theorem dX5_poolCost_2 : decode cX5_poolCost 2 = .ok (.iload_n 2, 1) := by decide +kernel
theorem dX5_poolCost_3 : decode cX5_poolCost 3 = .ok (.invokevirtual 33, 3) := by decide +kernel
theorem dX5_poolCost_6 : decode cX5_poolCost 6 = .ok (.getfield 123, 3) := by decide +kernel
theorem dX5_poolCost_9 : decode cX5_poolCost 9 = .ok (.astore_n 3, 1) := by decide +kernel
theorem dX5_poolCost_10 : decode cX5_poolCost 10 = .ok (.aload_n 3, 1) := by decide +kernel
theorem dX5_poolCost_11 : decode cX5_poolCost 11 = .ok (.iload_n 2, 1) := by decide +kernel
theorem dX5_poolCost_12 : decode cX5_poolCost 12 = .ok (.invokevirtual 127, 3) := by decide +kernel
theorem dX5_poolCost_15 : decode cX5_poolCost 15 = .ok (.istore 4, 2) := by decide +kernel
theorem dX5_poolCost_17 : decode cX5_poolCost 17 = .ok (.iload 4, 2) := by decide +kernel
theorem dX5_poolCost_19 : decode cX5_poolCost 19 = .ok (.ifCond .ge 7, 3) := by decide +kernel
theorem dX5_poolCost_22 : decode cX5_poolCost 22 = .ok (.iconst 0, 1) := by decide +kernel
theorem dX5_poolCost_23 : decode cX5_poolCost 23 = .ok (.goto 10, 3) := by decide +kernel
theorem dX5_poolCost_26 : decode cX5_poolCost 26 = .ok (.aload_n 3, 1) := by decide +kernel
theorem dX5_poolCost_27 : decode cX5_poolCost 27 = .ok (.getfield 136, 3) := by decide +kernel
theorem dX5_poolCost_30 : decode cX5_poolCost 30 = .ok (.iload 4, 2) := by decide +kernel
theorem dX5_poolCost_32 : decode cX5_poolCost 32 = .ok (.iaload, 1) := by decide +kernel
theorem dX5_poolCost_33 : decode cX5_poolCost 33 = .ok (.ireturn, 1) := by decide +kernel
set_option maxRecDepth 20000 in
theorem ggX5_costIn_X5_ledgerOf : GoodIn wsX5_costIn wsX5_ledgerOf := goodIn_ca (goodIn_r _ [5, 6, 7, 8, 20, 21, 22, 23] (by decide +kernel) (by decide +kernel)) (goodIn_sub (fun _ h => List.mem_cons_of_mem _ (List.mem_append_right _ h)) (by decide +kernel))
set_option maxRecDepth 20000 in
theorem gX5_costIn_X5_ledgerOf : GoodIn wsX5_costIn (wsV RX5 139 RX5 yX5_ledgerOf wsX5_ledgerOf) := goodIn_app (goodIn_of _ (by decide +kernel)) ggX5_costIn_X5_ledgerOf
set_option maxRecDepth 20000 in
theorem ggX5_costIn_X3_costOfBuys : GoodIn wsX5_costIn wsX3_costOfBuys := goodIn_r _ [13, 14, 15, 24, 25, 26, 27, 28, 29, 30, 31, 32, 33] (by decide +kernel) (by decide +kernel)
set_option maxRecDepth 20000 in
theorem gX5_costIn_X3_costOfBuys : GoodIn wsX5_costIn (wsV RX5 143 RX3 yX3_costOfBuys wsX3_costOfBuys) := goodIn_app (goodIn_of _ (by decide +kernel)) ggX5_costIn_X3_costOfBuys
theorem dX5_costIn_0 : decode cX5_costIn 0 = .ok (.aload_n 0, 1) := by decide +kernel
theorem dX5_costIn_1 : decode cX5_costIn 1 = .ok (.iload_n 1, 1) := by decide +kernel
theorem dX5_costIn_2 : decode cX5_costIn 2 = .ok (.invokevirtual 139, 3) := by decide +kernel
theorem dX5_costIn_5 : decode cX5_costIn 5 = .ok (.getfield 123, 3) := by decide +kernel
theorem dX5_costIn_8 : decode cX5_costIn 8 = .ok (.invokevirtual 143, 3) := by decide +kernel
theorem dX5_costIn_11 : decode cX5_costIn 11 = .ok (.ireturn, 1) := by decide +kernel
set_option maxRecDepth 20000 in
theorem ggX5_costMatched_X5_ledgerOf : GoodIn wsX5_costMatched wsX5_ledgerOf := goodIn_ca (goodIn_r _ [5, 6, 7, 8, 20, 21, 22, 23] (by decide +kernel) (by decide +kernel)) (goodIn_sub (fun _ h => List.mem_cons_of_mem _ (List.mem_append_right _ h)) (by decide +kernel))
set_option maxRecDepth 20000 in
theorem gX5_costMatched_X5_ledgerOf : GoodIn wsX5_costMatched (wsV RX5 139 RX5 yX5_ledgerOf wsX5_ledgerOf) := goodIn_app (goodIn_of _ (by decide +kernel)) ggX5_costMatched_X5_ledgerOf
set_option maxRecDepth 20000 in
theorem ggX5_costMatched_X2_costOfAll : GoodIn wsX5_costMatched wsX2_costOfAll := goodIn_r _ [13, 14, 15, 24, 25, 26, 27, 28, 29, 30] (by decide +kernel) (by decide +kernel)
set_option maxRecDepth 20000 in
theorem gX5_costMatched_X2_costOfAll : GoodIn wsX5_costMatched (wsV RX5 151 RX2 yX2_costOfAll wsX2_costOfAll) := goodIn_app (goodIn_of _ (by decide +kernel)) ggX5_costMatched_X2_costOfAll
theorem dX5_costMatched_0 : decode cX5_costMatched 0 = .ok (.aload_n 0, 1) := by decide +kernel
theorem dX5_costMatched_1 : decode cX5_costMatched 1 = .ok (.iload_n 1, 1) := by decide +kernel
theorem dX5_costMatched_2 : decode cX5_costMatched 2 = .ok (.invokevirtual 139, 3) := by decide +kernel
theorem dX5_costMatched_5 : decode cX5_costMatched 5 = .ok (.getfield 147, 3) := by decide +kernel
theorem dX5_costMatched_8 : decode cX5_costMatched 8 = .ok (.invokevirtual 151, 3) := by decide +kernel
theorem dX5_costMatched_11 : decode cX5_costMatched 11 = .ok (.ireturn, 1) := by decide +kernel
set_option maxRecDepth 20000 in
theorem ggX5_matches_X5_ledgerOf : GoodIn wsX5_matches wsX5_ledgerOf := goodIn_ca (goodIn_r _ [5, 6, 7, 8, 20, 21, 22, 23] (by decide +kernel) (by decide +kernel)) (goodIn_sub (fun _ h => List.mem_cons_of_mem _ (List.mem_append_right _ h)) (by decide +kernel))
set_option maxRecDepth 20000 in
theorem gX5_matches_X5_ledgerOf : GoodIn wsX5_matches (wsV RX5 139 RX5 yX5_ledgerOf wsX5_ledgerOf) := goodIn_app (goodIn_of _ (by decide +kernel)) ggX5_matches_X5_ledgerOf
theorem dX5_matches_0 : decode cX5_matches 0 = .ok (.aload_n 0, 1) := by decide +kernel
theorem dX5_matches_1 : decode cX5_matches 1 = .ok (.iload_n 1, 1) := by decide +kernel
theorem dX5_matches_2 : decode cX5_matches 2 = .ok (.invokevirtual 139, 3) := by decide +kernel
theorem dX5_matches_5 : decode cX5_matches 5 = .ok (.getfield 147, 3) := by decide +kernel
theorem dX5_matches_8 : decode cX5_matches 8 = .ok (.getfield 156, 3) := by decide +kernel
theorem dX5_matches_11 : decode cX5_matches 11 = .ok (.ireturn, 1) := by decide +kernel
set_option maxRecDepth 20000 in
theorem ggX5_kindOf_X5_matchesWith : GoodIn wsX5_kindOf wsX5_matchesWith := goodIn_ca (goodIn_r _ [5, 6, 7, 8, 9, 10, 4, 11, 12, 20, 21, 22, 23, 13, 14, 15, 16, 17, 18, 19, 24, 25, 26, 27] (by decide +kernel) (by decide +kernel)) (goodIn_sub (fun _ h => List.mem_cons_of_mem _ (List.mem_append_right _ h)) (by decide +kernel))
set_option maxRecDepth 20000 in
theorem gX5_kindOf_X5_matchesWith : GoodIn wsX5_kindOf (wsV RX5 157 RX5 yX5_matchesWith wsX5_matchesWith) := goodIn_app (goodIn_of _ (by decide +kernel)) ggX5_kindOf_X5_matchesWith
theorem dX5_kindOf_0 : decode cX5_kindOf 0 = .ok (.aload_n 0, 1) := by decide +kernel
theorem dX5_kindOf_1 : decode cX5_kindOf 1 = .ok (.iload_n 1, 1) := by decide +kernel
theorem dX5_kindOf_2 : decode cX5_kindOf 2 = .ok (.iload_n 2, 1) := by decide +kernel
theorem dX5_kindOf_3 : decode cX5_kindOf 3 = .ok (.invokevirtual 157, 3) := by decide +kernel
theorem dX5_kindOf_6 : decode cX5_kindOf 6 = .ok (.getfield 161, 3) := by decide +kernel
theorem dX5_kindOf_9 : decode cX5_kindOf 9 = .ok (.iload_n 2, 1) := by decide +kernel
theorem dX5_kindOf_10 : decode cX5_kindOf 10 = .ok (.iaload, 1) := by decide +kernel
theorem dX5_kindOf_11 : decode cX5_kindOf 11 = .ok (.ireturn, 1) := by decide +kernel
set_option maxRecDepth 20000 in
theorem ggX5_saleDay_X5_matchesWith : GoodIn wsX5_saleDay wsX5_matchesWith := goodIn_ca (goodIn_r _ [5, 6, 7, 8, 9, 10, 4, 11, 12, 20, 21, 22, 23, 13, 14, 15, 16, 17, 18, 19, 24, 25, 26, 27] (by decide +kernel) (by decide +kernel)) (goodIn_sub (fun _ h => List.mem_cons_of_mem _ (List.mem_append_right _ h)) (by decide +kernel))
set_option maxRecDepth 20000 in
theorem gX5_saleDay_X5_matchesWith : GoodIn wsX5_saleDay (wsV RX5 157 RX5 yX5_matchesWith wsX5_matchesWith) := goodIn_app (goodIn_of _ (by decide +kernel)) ggX5_saleDay_X5_matchesWith
theorem dX5_saleDay_0 : decode cX5_saleDay 0 = .ok (.aload_n 0, 1) := by decide +kernel
theorem dX5_saleDay_1 : decode cX5_saleDay 1 = .ok (.iload_n 1, 1) := by decide +kernel
theorem dX5_saleDay_2 : decode cX5_saleDay 2 = .ok (.iload_n 2, 1) := by decide +kernel
theorem dX5_saleDay_3 : decode cX5_saleDay 3 = .ok (.invokevirtual 157, 3) := by decide +kernel
theorem dX5_saleDay_6 : decode cX5_saleDay 6 = .ok (.getfield 164, 3) := by decide +kernel
theorem dX5_saleDay_9 : decode cX5_saleDay 9 = .ok (.iload_n 2, 1) := by decide +kernel
theorem dX5_saleDay_10 : decode cX5_saleDay 10 = .ok (.iaload, 1) := by decide +kernel
theorem dX5_saleDay_11 : decode cX5_saleDay 11 = .ok (.ireturn, 1) := by decide +kernel
set_option maxRecDepth 20000 in
theorem ggX5_buyDay_X5_matchesWith : GoodIn wsX5_buyDay wsX5_matchesWith := goodIn_ca (goodIn_r _ [5, 6, 7, 8, 9, 10, 4, 11, 12, 20, 21, 22, 23, 13, 14, 15, 16, 17, 18, 19, 24, 25, 26, 27] (by decide +kernel) (by decide +kernel)) (goodIn_sub (fun _ h => List.mem_cons_of_mem _ (List.mem_append_right _ h)) (by decide +kernel))
set_option maxRecDepth 20000 in
theorem gX5_buyDay_X5_matchesWith : GoodIn wsX5_buyDay (wsV RX5 157 RX5 yX5_matchesWith wsX5_matchesWith) := goodIn_app (goodIn_of _ (by decide +kernel)) ggX5_buyDay_X5_matchesWith
theorem dX5_buyDay_0 : decode cX5_buyDay 0 = .ok (.aload_n 0, 1) := by decide +kernel
theorem dX5_buyDay_1 : decode cX5_buyDay 1 = .ok (.iload_n 1, 1) := by decide +kernel
theorem dX5_buyDay_2 : decode cX5_buyDay 2 = .ok (.iload_n 2, 1) := by decide +kernel
theorem dX5_buyDay_3 : decode cX5_buyDay 3 = .ok (.invokevirtual 157, 3) := by decide +kernel
theorem dX5_buyDay_6 : decode cX5_buyDay 6 = .ok (.getfield 167, 3) := by decide +kernel
theorem dX5_buyDay_9 : decode cX5_buyDay 9 = .ok (.iload_n 2, 1) := by decide +kernel
theorem dX5_buyDay_10 : decode cX5_buyDay 10 = .ok (.iaload, 1) := by decide +kernel
theorem dX5_buyDay_11 : decode cX5_buyDay 11 = .ok (.ireturn, 1) := by decide +kernel
set_option maxRecDepth 20000 in
theorem ggX5_unitsOf_X5_matchesWith : GoodIn wsX5_unitsOf wsX5_matchesWith := goodIn_ca (goodIn_r _ [5, 6, 7, 8, 9, 10, 4, 11, 12, 20, 21, 22, 23, 13, 14, 15, 16, 17, 18, 19, 24, 25, 26, 27] (by decide +kernel) (by decide +kernel)) (goodIn_sub (fun _ h => List.mem_cons_of_mem _ (List.mem_append_right _ h)) (by decide +kernel))
set_option maxRecDepth 20000 in
theorem gX5_unitsOf_X5_matchesWith : GoodIn wsX5_unitsOf (wsV RX5 157 RX5 yX5_matchesWith wsX5_matchesWith) := goodIn_app (goodIn_of _ (by decide +kernel)) ggX5_unitsOf_X5_matchesWith
theorem dX5_unitsOf_0 : decode cX5_unitsOf 0 = .ok (.aload_n 0, 1) := by decide +kernel
theorem dX5_unitsOf_1 : decode cX5_unitsOf 1 = .ok (.iload_n 1, 1) := by decide +kernel
theorem dX5_unitsOf_2 : decode cX5_unitsOf 2 = .ok (.iload_n 2, 1) := by decide +kernel
theorem dX5_unitsOf_3 : decode cX5_unitsOf 3 = .ok (.invokevirtual 157, 3) := by decide +kernel
theorem dX5_unitsOf_6 : decode cX5_unitsOf 6 = .ok (.getfield 170, 3) := by decide +kernel
theorem dX5_unitsOf_9 : decode cX5_unitsOf 9 = .ok (.iload_n 2, 1) := by decide +kernel
theorem dX5_unitsOf_10 : decode cX5_unitsOf 10 = .ok (.iaload, 1) := by decide +kernel
theorem dX5_unitsOf_11 : decode cX5_unitsOf 11 = .ok (.ireturn, 1) := by decide +kernel
set_option maxRecDepth 20000 in
theorem ggX5_costOf_X5_matchesWith : GoodIn wsX5_costOf wsX5_matchesWith := goodIn_ca (goodIn_r _ [5, 6, 7, 8, 9, 10, 4, 11, 12, 20, 21, 22, 23, 13, 14, 15, 16, 17, 18, 19, 24, 25, 26, 27] (by decide +kernel) (by decide +kernel)) (goodIn_sub (fun _ h => List.mem_cons_of_mem _ (List.mem_append_right _ h)) (by decide +kernel))
set_option maxRecDepth 20000 in
theorem gX5_costOf_X5_matchesWith : GoodIn wsX5_costOf (wsV RX5 157 RX5 yX5_matchesWith wsX5_matchesWith) := goodIn_app (goodIn_of _ (by decide +kernel)) ggX5_costOf_X5_matchesWith
theorem dX5_costOf_0 : decode cX5_costOf 0 = .ok (.aload_n 0, 1) := by decide +kernel
theorem dX5_costOf_1 : decode cX5_costOf 1 = .ok (.iload_n 1, 1) := by decide +kernel
theorem dX5_costOf_2 : decode cX5_costOf 2 = .ok (.iload_n 2, 1) := by decide +kernel
theorem dX5_costOf_3 : decode cX5_costOf 3 = .ok (.invokevirtual 157, 3) := by decide +kernel
theorem dX5_costOf_6 : decode cX5_costOf 6 = .ok (.getfield 173, 3) := by decide +kernel
theorem dX5_costOf_9 : decode cX5_costOf 9 = .ok (.iload_n 2, 1) := by decide +kernel
theorem dX5_costOf_10 : decode cX5_costOf 10 = .ok (.iaload, 1) := by decide +kernel
theorem dX5_costOf_11 : decode cX5_costOf 11 = .ok (.ireturn, 1) := by decide +kernel
set_option maxRecDepth 20000 in
theorem ggX5_proceedsOf_X5_matchesWith : GoodIn wsX5_proceedsOf wsX5_matchesWith := goodIn_ca (goodIn_r _ [5, 6, 7, 8, 9, 10, 4, 11, 12, 20, 21, 22, 23, 13, 14, 15, 16, 17, 18, 19, 24, 25, 26, 27] (by decide +kernel) (by decide +kernel)) (goodIn_sub (fun _ h => List.mem_cons_of_mem _ (List.mem_append_right _ h)) (by decide +kernel))
set_option maxRecDepth 20000 in
theorem gX5_proceedsOf_X5_matchesWith : GoodIn wsX5_proceedsOf (wsV RX5 157 RX5 yX5_matchesWith wsX5_matchesWith) := goodIn_app (goodIn_of _ (by decide +kernel)) ggX5_proceedsOf_X5_matchesWith
theorem dX5_proceedsOf_0 : decode cX5_proceedsOf 0 = .ok (.aload_n 0, 1) := by decide +kernel
theorem dX5_proceedsOf_1 : decode cX5_proceedsOf 1 = .ok (.iload_n 1, 1) := by decide +kernel
theorem dX5_proceedsOf_2 : decode cX5_proceedsOf 2 = .ok (.iload_n 2, 1) := by decide +kernel
theorem dX5_proceedsOf_3 : decode cX5_proceedsOf 3 = .ok (.invokevirtual 157, 3) := by decide +kernel
theorem dX5_proceedsOf_6 : decode cX5_proceedsOf 6 = .ok (.getfield 176, 3) := by decide +kernel
theorem dX5_proceedsOf_9 : decode cX5_proceedsOf 9 = .ok (.iload_n 2, 1) := by decide +kernel
theorem dX5_proceedsOf_10 : decode cX5_proceedsOf 10 = .ok (.iaload, 1) := by decide +kernel
theorem dX5_proceedsOf_11 : decode cX5_proceedsOf 11 = .ok (.ireturn, 1) := by decide +kernel
set_option maxRecDepth 20000 in
theorem ggX5_gain_X5_ledgerOf : GoodIn wsX5_gain wsX5_ledgerOf := goodIn_ca (goodIn_r _ [5, 6, 7, 8, 25, 26, 27, 28] (by decide +kernel) (by decide +kernel)) (goodIn_sub (fun _ h => List.mem_cons_of_mem _ (List.mem_append_right _ h)) (by decide +kernel))
set_option maxRecDepth 20000 in
theorem gX5_gain_X5_ledgerOf : GoodIn wsX5_gain (wsV RX5 139 RX5 yX5_ledgerOf wsX5_ledgerOf) := goodIn_app (goodIn_of _ (by decide +kernel)) ggX5_gain_X5_ledgerOf
set_option maxRecDepth 20000 in
theorem ggX5_gain_X5_checkYear : GoodIn wsX5_gain wsX5_checkYear := goodIn_ca (goodIn_r _ [11, 6, 7] (by decide +kernel) (by decide +kernel)) (goodIn_sub (fun _ h => List.mem_cons_of_mem _ (List.mem_append_right _ h)) (by decide +kernel))
set_option maxRecDepth 20000 in
theorem gX5_gain_X5_checkYear : GoodIn wsX5_gain (va_wsS RX5 111 yX5_checkYear wsX5_checkYear) := goodIn_app (goodIn_of _ (by decide +kernel)) ggX5_gain_X5_checkYear
set_option maxRecDepth 20000 in
theorem ggX5_gain_X2_gainOfYear : GoodIn wsX5_gain wsX2_gainOfYear := goodIn_r _ [16, 17, 18, 19, 20, 29, 30, 31, 32, 33, 34, 35] (by decide +kernel) (by decide +kernel)
set_option maxRecDepth 20000 in
theorem gX5_gain_X2_gainOfYear : GoodIn wsX5_gain (wsV RX5 179 RX2 yX2_gainOfYear wsX2_gainOfYear) := goodIn_app (goodIn_of _ (by decide +kernel)) ggX5_gain_X2_gainOfYear
theorem dX5_gain_0 : decode cX5_gain 0 = .ok (.aload_n 0, 1) := by decide +kernel
theorem dX5_gain_1 : decode cX5_gain 1 = .ok (.iload_n 1, 1) := by decide +kernel
theorem dX5_gain_2 : decode cX5_gain 2 = .ok (.invokevirtual 139, 3) := by decide +kernel
theorem dX5_gain_5 : decode cX5_gain 5 = .ok (.astore_n 3, 1) := by decide +kernel
theorem dX5_gain_6 : decode cX5_gain 6 = .ok (.iload_n 2, 1) := by decide +kernel
theorem dX5_gain_7 : decode cX5_gain 7 = .ok (.invokestatic 111, 3) := by decide +kernel
theorem dX5_gain_10 : decode cX5_gain 10 = .ok (.aload_n 3, 1) := by decide +kernel
theorem dX5_gain_11 : decode cX5_gain 11 = .ok (.getfield 147, 3) := by decide +kernel
theorem dX5_gain_14 : decode cX5_gain 14 = .ok (.iload_n 2, 1) := by decide +kernel
theorem dX5_gain_15 : decode cX5_gain 15 = .ok (.invokevirtual 179, 3) := by decide +kernel
theorem dX5_gain_18 : decode cX5_gain 18 = .ok (.ireturn, 1) := by decide +kernel
set_option maxRecDepth 20000 in
theorem ggX5_net_X5_checkYear : GoodIn wsX5_net wsX5_checkYear := goodIn_ca (goodIn_r _ [4, 5, 6] (by decide +kernel) (by decide +kernel)) (goodIn_sub (fun _ h => List.mem_cons_of_mem _ (List.mem_append_right _ h)) (by decide +kernel))
set_option maxRecDepth 20000 in
theorem gX5_net_X5_checkYear : GoodIn wsX5_net (va_wsS RX5 111 yX5_checkYear wsX5_checkYear) := goodIn_app (goodIn_of _ (by decide +kernel)) ggX5_net_X5_checkYear
set_option maxRecDepth 20000 in
theorem ggX5_net_X5_netOfYear : GoodIn wsX5_net wsX5_netOfYear := goodIn_r _ [10, 11, 12, 13, 14, 15, 16, 17, 18, 19, 20, 21, 22, 23, 24, 25, 26, 27, 28, 29, 30, 31, 32, 33, 34, 35] (by decide +kernel) (by decide +kernel)
set_option maxRecDepth 20000 in
theorem gX5_net_X5_netOfYear : GoodIn wsX5_net (wsV RX5 182 RX5 yX5_netOfYear wsX5_netOfYear) := goodIn_app (goodIn_of _ (by decide +kernel)) ggX5_net_X5_netOfYear
theorem dX5_net_0 : decode cX5_net 0 = .ok (.iload_n 1, 1) := by decide +kernel
theorem dX5_net_1 : decode cX5_net 1 = .ok (.invokestatic 111, 3) := by decide +kernel
theorem dX5_net_4 : decode cX5_net 4 = .ok (.aload_n 0, 1) := by decide +kernel
theorem dX5_net_5 : decode cX5_net 5 = .ok (.iload_n 1, 1) := by decide +kernel
theorem dX5_net_6 : decode cX5_net 6 = .ok (.invokevirtual 182, 3) := by decide +kernel
theorem dX5_net_9 : decode cX5_net 9 = .ok (.ireturn, 1) := by decide +kernel
set_option maxRecDepth 20000 in
theorem ggX5_carried_X5_checkYear : GoodIn wsX5_carried wsX5_checkYear := goodIn_ca (goodIn_r _ [4, 5, 6] (by decide +kernel) (by decide +kernel)) (goodIn_sub (fun _ h => List.mem_cons_of_mem _ (List.mem_append_right _ h)) (by decide +kernel))
set_option maxRecDepth 20000 in
theorem gX5_carried_X5_checkYear : GoodIn wsX5_carried (va_wsS RX5 111 yX5_checkYear wsX5_checkYear) := goodIn_app (goodIn_of _ (by decide +kernel)) ggX5_carried_X5_checkYear
set_option maxRecDepth 20000 in
theorem ggX5_carried_X5_lossesOutOf : GoodIn wsX5_carried wsX5_lossesOutOf := goodIn_r _ [10, 11, 12, 13, 14, 15, 16, 17, 3, 18, 19, 20, 21, 22, 23, 24, 25, 26, 27, 28, 29, 30, 31, 32, 33, 34, 35, 36, 37, 38, 39, 40, 41, 42, 43, 44, 45, 46, 47, 48, 49, 50, 51] (by decide +kernel) (by decide +kernel)
set_option maxRecDepth 20000 in
theorem gX5_carried_X5_lossesOutOf : GoodIn wsX5_carried (wsV RX5 185 RX5 yX5_lossesOutOf wsX5_lossesOutOf) := goodIn_app (goodIn_of _ (by decide +kernel)) ggX5_carried_X5_lossesOutOf
theorem dX5_carried_0 : decode cX5_carried 0 = .ok (.iload_n 1, 1) := by decide +kernel
theorem dX5_carried_1 : decode cX5_carried 1 = .ok (.invokestatic 111, 3) := by decide +kernel
theorem dX5_carried_4 : decode cX5_carried 4 = .ok (.aload_n 0, 1) := by decide +kernel
theorem dX5_carried_5 : decode cX5_carried 5 = .ok (.iload_n 1, 1) := by decide +kernel
theorem dX5_carried_6 : decode cX5_carried 6 = .ok (.invokevirtual 185, 3) := by decide +kernel
theorem dX5_carried_9 : decode cX5_carried 9 = .ok (.ireturn, 1) := by decide +kernel
set_option maxRecDepth 20000 in
theorem ggX5_taxable_X5_checkYear : GoodIn wsX5_taxable wsX5_checkYear := goodIn_ca (goodIn_r _ [8, 9, 10] (by decide +kernel) (by decide +kernel)) (goodIn_sub (fun _ h => List.mem_cons_of_mem _ (List.mem_append_right _ h)) (by decide +kernel))
set_option maxRecDepth 20000 in
theorem gX5_taxable_X5_checkYear : GoodIn wsX5_taxable (va_wsS RX5 111 yX5_checkYear wsX5_checkYear) := goodIn_app (goodIn_of _ (by decide +kernel)) ggX5_taxable_X5_checkYear
set_option maxRecDepth 20000 in
theorem ggX5_taxable_X5_aboveAllowance : GoodIn wsX5_taxable wsX5_aboveAllowance := goodIn_r _ [14, 15, 16, 17, 3, 18, 19, 20, 21, 7, 22, 23, 24, 25, 26, 27, 28, 29, 30, 31, 32, 37, 38, 39, 40, 41, 42, 43, 44, 45, 46, 47, 48, 49, 50, 51] (by decide +kernel) (by decide +kernel)
set_option maxRecDepth 20000 in
theorem gX5_taxable_X5_aboveAllowance : GoodIn wsX5_taxable (wsV RX5 188 RX5 yX5_aboveAllowance wsX5_aboveAllowance) := goodIn_app (goodIn_of _ (by decide +kernel)) ggX5_taxable_X5_aboveAllowance
set_option maxRecDepth 20000 in
theorem ggX5_taxable_X5_lossesOutOf : GoodIn wsX5_taxable wsX5_lossesOutOf := goodIn_r _ [36, 1, 2, 3, 4, 19, 20, 21, 7, 22, 23, 24, 25, 26, 27, 28, 29, 30, 31, 32, 11, 12, 13, 14, 15, 16, 17, 18, 37, 38, 39, 40, 41, 42, 43, 44, 45, 46, 47, 48, 49, 50, 51] (by decide +kernel) (by decide +kernel)
set_option maxRecDepth 20000 in
theorem gX5_taxable_X5_lossesOutOf : GoodIn wsX5_taxable (wsV RX5 185 RX5 yX5_lossesOutOf wsX5_lossesOutOf) := goodIn_app (goodIn_of _ (by decide +kernel)) ggX5_taxable_X5_lossesOutOf
theorem dX5_taxable_0 : decode cX5_taxable 0 = .ok (.iload_n 1, 1) := by decide +kernel
theorem dX5_taxable_1 : decode cX5_taxable 1 = .ok (.invokestatic 111, 3) := by decide +kernel
theorem dX5_taxable_4 : decode cX5_taxable 4 = .ok (.aload_n 0, 1) := by decide +kernel
theorem dX5_taxable_5 : decode cX5_taxable 5 = .ok (.iload_n 1, 1) := by decide +kernel
theorem dX5_taxable_6 : decode cX5_taxable 6 = .ok (.invokevirtual 188, 3) := by decide +kernel
theorem dX5_taxable_9 : decode cX5_taxable 9 = .ok (.istore_n 2, 1) := by decide +kernel
theorem dX5_taxable_10 : decode cX5_taxable 10 = .ok (.iload_n 2, 1) := by decide +kernel
theorem dX5_taxable_11 : decode cX5_taxable 11 = .ok (.aload_n 0, 1) := by decide +kernel
theorem dX5_taxable_12 : decode cX5_taxable 12 = .ok (.iload_n 1, 1) := by decide +kernel
theorem dX5_taxable_13 : decode cX5_taxable 13 = .ok (.iconst 1, 1) := by decide +kernel
theorem dX5_taxable_14 : decode cX5_taxable 14 = .ok (.isub, 1) := by decide +kernel
theorem dX5_taxable_15 : decode cX5_taxable 15 = .ok (.invokevirtual 185, 3) := by decide +kernel
theorem dX5_taxable_18 : decode cX5_taxable 18 = .ok (.iload_n 2, 1) := by decide +kernel
theorem dX5_taxable_19 : decode cX5_taxable 19 = .ok (.invokestatic 191, 3) := by decide +kernel
theorem dX5_taxable_22 : decode cX5_taxable 22 = .ok (.isub, 1) := by decide +kernel
theorem dX5_taxable_23 : decode cX5_taxable 23 = .ok (.ireturn, 1) := by decide +kernel
set_option maxRecDepth 20000 in
theorem ggX5_netOfYear_X2_gainOfYear : GoodIn wsX5_netOfYear wsX2_gainOfYear := goodIn_r _ [6, 7, 8, 9, 10, 19, 20, 21, 22, 23, 24, 25] (by decide +kernel) (by decide +kernel)
set_option maxRecDepth 20000 in
theorem gX5_netOfYear_X2_gainOfYear : GoodIn wsX5_netOfYear (wsV RX5 179 RX2 yX2_gainOfYear wsX2_gainOfYear) := goodIn_app (goodIn_of _ (by decide +kernel)) ggX5_netOfYear_X2_gainOfYear
theorem dX5_netOfYear_0 : decode cX5_netOfYear 0 = .ok (.iconst 0, 1) := by decide +kernel
theorem dX5_netOfYear_1 : decode cX5_netOfYear 1 = .ok (.istore_n 2, 1) := by decide +kernel
theorem dX5_netOfYear_2 : decode cX5_netOfYear 2 = .ok (.iconst 0, 1) := by decide +kernel
theorem dX5_netOfYear_3 : decode cX5_netOfYear 3 = .ok (.istore_n 3, 1) := by decide +kernel
theorem dX5_netOfYear_4 : decode cX5_netOfYear 4 = .ok (.iload_n 3, 1) := by decide +kernel
theorem dX5_netOfYear_5 : decode cX5_netOfYear 5 = .ok (.iconst 3, 1) := by decide +kernel
theorem dX5_netOfYear_6 : decode cX5_netOfYear 6 = .ok (.if_icmp .ge 25, 3) := by decide +kernel
theorem dX5_netOfYear_9 : decode cX5_netOfYear 9 = .ok (.iload_n 2, 1) := by decide +kernel
theorem dX5_netOfYear_10 : decode cX5_netOfYear 10 = .ok (.aload_n 0, 1) := by decide +kernel
theorem dX5_netOfYear_11 : decode cX5_netOfYear 11 = .ok (.getfield 18, 3) := by decide +kernel
theorem dX5_netOfYear_14 : decode cX5_netOfYear 14 = .ok (.iload_n 3, 1) := by decide +kernel
theorem dX5_netOfYear_15 : decode cX5_netOfYear 15 = .ok (.aaload, 1) := by decide +kernel
theorem dX5_netOfYear_16 : decode cX5_netOfYear 16 = .ok (.getfield 147, 3) := by decide +kernel
theorem dX5_netOfYear_19 : decode cX5_netOfYear 19 = .ok (.iload_n 1, 1) := by decide +kernel
theorem dX5_netOfYear_20 : decode cX5_netOfYear 20 = .ok (.invokevirtual 179, 3) := by decide +kernel
theorem dX5_netOfYear_23 : decode cX5_netOfYear 23 = .ok (.iadd, 1) := by decide +kernel
theorem dX5_netOfYear_24 : decode cX5_netOfYear 24 = .ok (.istore_n 2, 1) := by decide +kernel
theorem dX5_netOfYear_25 : decode cX5_netOfYear 25 = .ok (.iinc 3 1, 3) := by decide +kernel
theorem dX5_netOfYear_28 : decode cX5_netOfYear 28 = .ok (.goto (-24), 3) := by decide +kernel
theorem dX5_netOfYear_31 : decode cX5_netOfYear 31 = .ok (.iload_n 2, 1) := by decide +kernel
theorem dX5_netOfYear_32 : decode cX5_netOfYear 32 = .ok (.ireturn, 1) := by decide +kernel
set_option maxRecDepth 20000 in
theorem ggX5_aboveAllowance_X5_netOfYear : GoodIn wsX5_aboveAllowance wsX5_netOfYear := goodIn_r _ [10, 11, 12, 13, 14, 15, 16, 17, 18, 19, 20, 21, 22, 23, 24, 25, 26, 27, 28, 29, 30, 31, 32, 33, 34, 35] (by decide +kernel) (by decide +kernel)
set_option maxRecDepth 20000 in
theorem gX5_aboveAllowance_X5_netOfYear : GoodIn wsX5_aboveAllowance (wsV RX5 182 RX5 yX5_netOfYear wsX5_netOfYear) := goodIn_app (goodIn_of _ (by decide +kernel)) ggX5_aboveAllowance_X5_netOfYear
theorem dX5_aboveAllowance_0 : decode cX5_aboveAllowance 0 = .ok (.iconst 0, 1) := by decide +kernel
theorem dX5_aboveAllowance_1 : decode cX5_aboveAllowance 1 = .ok (.aload_n 0, 1) := by decide +kernel
theorem dX5_aboveAllowance_2 : decode cX5_aboveAllowance 2 = .ok (.iload_n 1, 1) := by decide +kernel
theorem dX5_aboveAllowance_3 : decode cX5_aboveAllowance 3 = .ok (.invokevirtual 182, 3) := by decide +kernel
theorem dX5_aboveAllowance_6 : decode cX5_aboveAllowance 6 = .ok (.aload_n 0, 1) := by decide +kernel
theorem dX5_aboveAllowance_7 : decode cX5_aboveAllowance 7 = .ok (.getfield 25, 3) := by decide +kernel
theorem dX5_aboveAllowance_10 : decode cX5_aboveAllowance 10 = .ok (.iload_n 1, 1) := by decide +kernel
theorem dX5_aboveAllowance_11 : decode cX5_aboveAllowance 11 = .ok (.iaload, 1) := by decide +kernel
theorem dX5_aboveAllowance_12 : decode cX5_aboveAllowance 12 = .ok (.isub, 1) := by decide +kernel
theorem dX5_aboveAllowance_13 : decode cX5_aboveAllowance 13 = .ok (.invokestatic 197, 3) := by decide +kernel
theorem dX5_aboveAllowance_16 : decode cX5_aboveAllowance 16 = .ok (.ireturn, 1) := by decide +kernel
set_option maxRecDepth 20000 in
theorem ggX5_lossesOutOf_X5_netOfYear : GoodIn wsX5_lossesOutOf wsX5_netOfYear := goodIn_r _ [9, 10, 11, 12, 13, 14, 15, 16, 17, 18, 19, 28, 29, 30, 31, 32, 33, 34, 35, 36, 37, 38, 39, 40, 41, 42] (by decide +kernel) (by decide +kernel)
set_option maxRecDepth 20000 in
theorem gX5_lossesOutOf_X5_netOfYear : GoodIn wsX5_lossesOutOf (wsV RX5 182 RX5 yX5_netOfYear wsX5_netOfYear) := goodIn_app (goodIn_of _ (by decide +kernel)) ggX5_lossesOutOf_X5_netOfYear
set_option maxRecDepth 20000 in
theorem ggX5_lossesOutOf_X5_aboveAllowance : GoodIn wsX5_lossesOutOf wsX5_aboveAllowance := goodIn_r _ [23, 24, 25, 26, 3, 27, 5, 6, 7, 8, 9, 10, 11, 12, 13, 14, 15, 16, 17, 18, 19, 28, 29, 30, 31, 32, 33, 34, 35, 36, 37, 38, 39, 40, 41, 42] (by decide +kernel) (by decide +kernel)
set_option maxRecDepth 20000 in
theorem gX5_lossesOutOf_X5_aboveAllowance : GoodIn wsX5_lossesOutOf (wsV RX5 188 RX5 yX5_aboveAllowance wsX5_aboveAllowance) := goodIn_app (goodIn_of _ (by decide +kernel)) ggX5_lossesOutOf_X5_aboveAllowance
theorem dX5_lossesOutOf_0 : decode cX5_lossesOutOf 0 = .ok (.iconst 0, 1) := by decide +kernel
theorem dX5_lossesOutOf_1 : decode cX5_lossesOutOf 1 = .ok (.istore_n 2, 1) := by decide +kernel
theorem dX5_lossesOutOf_2 : decode cX5_lossesOutOf 2 = .ok (.iconst 0, 1) := by decide +kernel
theorem dX5_lossesOutOf_3 : decode cX5_lossesOutOf 3 = .ok (.istore_n 3, 1) := by decide +kernel
theorem dX5_lossesOutOf_4 : decode cX5_lossesOutOf 4 = .ok (.iload_n 3, 1) := by decide +kernel
theorem dX5_lossesOutOf_5 : decode cX5_lossesOutOf 5 = .ok (.iload_n 1, 1) := by decide +kernel
theorem dX5_lossesOutOf_6 : decode cX5_lossesOutOf 6 = .ok (.if_icmp .gt 46, 3) := by decide +kernel
theorem dX5_lossesOutOf_9 : decode cX5_lossesOutOf 9 = .ok (.iload_n 3, 1) := by decide +kernel
theorem dX5_lossesOutOf_10 : decode cX5_lossesOutOf 10 = .ok (.iconst 5, 1) := by decide +kernel
theorem dX5_lossesOutOf_11 : decode cX5_lossesOutOf 11 = .ok (.if_icmp .ge 41, 3) := by decide +kernel
theorem dX5_lossesOutOf_14 : decode cX5_lossesOutOf 14 = .ok (.aload_n 0, 1) := by decide +kernel
theorem dX5_lossesOutOf_15 : decode cX5_lossesOutOf 15 = .ok (.iload_n 3, 1) := by decide +kernel
theorem dX5_lossesOutOf_16 : decode cX5_lossesOutOf 16 = .ok (.invokevirtual 182, 3) := by decide +kernel
theorem dX5_lossesOutOf_19 : decode cX5_lossesOutOf 19 = .ok (.istore 4, 2) := by decide +kernel
theorem dX5_lossesOutOf_21 : decode cX5_lossesOutOf 21 = .ok (.iload 4, 2) := by decide +kernel
theorem dX5_lossesOutOf_23 : decode cX5_lossesOutOf 23 = .ok (.ifCond .ge 11, 3) := by decide +kernel
theorem dX5_lossesOutOf_26 : decode cX5_lossesOutOf 26 = .ok (.iload_n 2, 1) := by decide +kernel
theorem dX5_lossesOutOf_27 : decode cX5_lossesOutOf 27 = .ok (.iload 4, 2) := by decide +kernel
theorem dX5_lossesOutOf_29 : decode cX5_lossesOutOf 29 = .ok (.isub, 1) := by decide +kernel
theorem dX5_lossesOutOf_30 : decode cX5_lossesOutOf 30 = .ok (.istore_n 2, 1) := by decide +kernel
theorem dX5_lossesOutOf_31 : decode cX5_lossesOutOf 31 = .ok (.goto 15, 3) := by decide +kernel
theorem dX5_lossesOutOf_34 : decode cX5_lossesOutOf 34 = .ok (.iload_n 2, 1) := by decide +kernel
theorem dX5_lossesOutOf_35 : decode cX5_lossesOutOf 35 = .ok (.iload_n 2, 1) := by decide +kernel
theorem dX5_lossesOutOf_36 : decode cX5_lossesOutOf 36 = .ok (.aload_n 0, 1) := by decide +kernel
theorem dX5_lossesOutOf_37 : decode cX5_lossesOutOf 37 = .ok (.iload_n 3, 1) := by decide +kernel
theorem dX5_lossesOutOf_38 : decode cX5_lossesOutOf 38 = .ok (.invokevirtual 188, 3) := by decide +kernel
theorem dX5_lossesOutOf_41 : decode cX5_lossesOutOf 41 = .ok (.invokestatic 191, 3) := by decide +kernel
theorem dX5_lossesOutOf_44 : decode cX5_lossesOutOf 44 = .ok (.isub, 1) := by decide +kernel
theorem dX5_lossesOutOf_45 : decode cX5_lossesOutOf 45 = .ok (.istore_n 2, 1) := by decide +kernel
theorem dX5_lossesOutOf_46 : decode cX5_lossesOutOf 46 = .ok (.iinc 3 1, 3) := by decide +kernel
theorem dX5_lossesOutOf_49 : decode cX5_lossesOutOf 49 = .ok (.goto (-45), 3) := by decide +kernel
theorem dX5_lossesOutOf_52 : decode cX5_lossesOutOf 52 = .ok (.iload_n 2, 1) := by decide +kernel
theorem dX5_lossesOutOf_53 : decode cX5_lossesOutOf 53 = .ok (.ireturn, 1) := by decide +kernel
theorem dX5_ledgerOf_0 : decode cX5_ledgerOf 0 = .ok (.iload_n 1, 1) := by decide +kernel
theorem dX5_ledgerOf_1 : decode cX5_ledgerOf 1 = .ok (.ifCond .lt 8, 3) := by decide +kernel
theorem dX5_ledgerOf_4 : decode cX5_ledgerOf 4 = .ok (.iload_n 1, 1) := by decide +kernel
theorem dX5_ledgerOf_5 : decode cX5_ledgerOf 5 = .ok (.iconst 3, 1) := by decide +kernel
theorem dX5_ledgerOf_6 : decode cX5_ledgerOf 6 = .ok (.if_icmp .lt 13, 3) := by decide +kernel
theorem dX5_ledgerOf_9 : decode cX5_ledgerOf 9 = .ok (.new 88, 3) := by decide +kernel
theorem dX5_ledgerOf_12 : decode cX5_ledgerOf 12 = .ok (.dup, 1) := by decide +kernel
theorem dX5_ledgerOf_13 : decode cX5_ledgerOf 13 = .ok (.ldc 200, 2) := by decide +kernel
theorem dX5_ledgerOf_15 : decode cX5_ledgerOf 15 = .ok (.invokespecial 92, 3) := by decide +kernel
theorem dX5_ledgerOf_18 : decode cX5_ledgerOf 18 = .ok (.athrow, 1) := by decide +kernel
theorem dX5_ledgerOf_19 : decode cX5_ledgerOf 19 = .ok (.aload_n 0, 1) := by decide +kernel
theorem dX5_ledgerOf_20 : decode cX5_ledgerOf 20 = .ok (.getfield 18, 3) := by decide +kernel
theorem dX5_ledgerOf_23 : decode cX5_ledgerOf 23 = .ok (.iload_n 1, 1) := by decide +kernel
theorem dX5_ledgerOf_24 : decode cX5_ledgerOf 24 = .ok (.aaload, 1) := by decide +kernel
theorem dX5_ledgerOf_25 : decode cX5_ledgerOf 25 = .ok (.areturn, 1) := by decide +kernel
set_option maxRecDepth 20000 in
theorem ggX5_ledgerAt_X5_ledgerOf : GoodIn wsX5_ledgerAt wsX5_ledgerOf := goodIn_ca (goodIn_r _ [7, 1, 2, 8, 9, 10, 11, 12] (by decide +kernel) (by decide +kernel)) (goodIn_sub (fun _ h => List.mem_cons_of_mem _ (List.mem_append_right _ h)) (by decide +kernel))
set_option maxRecDepth 20000 in
theorem gX5_ledgerAt_X5_ledgerOf : GoodIn wsX5_ledgerAt (wsV RX5 139 RX5 yX5_ledgerOf wsX5_ledgerOf) := goodIn_app (goodIn_of _ (by decide +kernel)) ggX5_ledgerAt_X5_ledgerOf
theorem dX5_ledgerAt_0 : decode cX5_ledgerAt 0 = .ok (.aload_n 0, 1) := by decide +kernel
theorem dX5_ledgerAt_1 : decode cX5_ledgerAt 1 = .ok (.iload_n 1, 1) := by decide +kernel
theorem dX5_ledgerAt_2 : decode cX5_ledgerAt 2 = .ok (.invokevirtual 139, 3) := by decide +kernel
theorem dX5_ledgerAt_5 : decode cX5_ledgerAt 5 = .ok (.astore_n 3, 1) := by decide +kernel
theorem dX5_ledgerAt_6 : decode cX5_ledgerAt 6 = .ok (.iload_n 2, 1) := by decide +kernel
theorem dX5_ledgerAt_7 : decode cX5_ledgerAt 7 = .ok (.ifCond .lt 10, 3) := by decide +kernel
theorem dX5_ledgerAt_10 : decode cX5_ledgerAt 10 = .ok (.iload_n 2, 1) := by decide +kernel
theorem dX5_ledgerAt_11 : decode cX5_ledgerAt 11 = .ok (.sipush 1825, 3) := by decide +kernel
theorem dX5_ledgerAt_14 : decode cX5_ledgerAt 14 = .ok (.if_icmp .lt 13, 3) := by decide +kernel
theorem dX5_ledgerAt_17 : decode cX5_ledgerAt 17 = .ok (.new 88, 3) := by decide +kernel
theorem dX5_ledgerAt_20 : decode cX5_ledgerAt 20 = .ok (.dup, 1) := by decide +kernel
theorem dX5_ledgerAt_21 : decode cX5_ledgerAt 21 = .ok (.ldc 202, 2) := by decide +kernel
theorem dX5_ledgerAt_23 : decode cX5_ledgerAt 23 = .ok (.invokespecial 92, 3) := by decide +kernel
theorem dX5_ledgerAt_26 : decode cX5_ledgerAt 26 = .ok (.athrow, 1) := by decide +kernel
theorem dX5_ledgerAt_27 : decode cX5_ledgerAt 27 = .ok (.aload_n 3, 1) := by decide +kernel
theorem dX5_ledgerAt_28 : decode cX5_ledgerAt 28 = .ok (.areturn, 1) := by decide +kernel
set_option maxRecDepth 20000 in
theorem ggX5_matchesWith_X5_ledgerOf : GoodIn wsX5_matchesWith wsX5_ledgerOf := goodIn_ca (goodIn_r _ [7, 1, 2, 8, 20, 21, 22, 23] (by decide +kernel) (by decide +kernel)) (goodIn_sub (fun _ h => List.mem_cons_of_mem _ (List.mem_append_right _ h)) (by decide +kernel))
set_option maxRecDepth 20000 in
theorem gX5_matchesWith_X5_ledgerOf : GoodIn wsX5_matchesWith (wsV RX5 139 RX5 yX5_ledgerOf wsX5_ledgerOf) := goodIn_app (goodIn_of _ (by decide +kernel)) ggX5_matchesWith_X5_ledgerOf
theorem dX5_matchesWith_0 : decode cX5_matchesWith 0 = .ok (.aload_n 0, 1) := by decide +kernel
theorem dX5_matchesWith_1 : decode cX5_matchesWith 1 = .ok (.iload_n 1, 1) := by decide +kernel
theorem dX5_matchesWith_2 : decode cX5_matchesWith 2 = .ok (.invokevirtual 139, 3) := by decide +kernel
theorem dX5_matchesWith_5 : decode cX5_matchesWith 5 = .ok (.getfield 147, 3) := by decide +kernel
theorem dX5_matchesWith_8 : decode cX5_matchesWith 8 = .ok (.astore_n 3, 1) := by decide +kernel
theorem dX5_matchesWith_9 : decode cX5_matchesWith 9 = .ok (.iload_n 2, 1) := by decide +kernel
theorem dX5_matchesWith_10 : decode cX5_matchesWith 10 = .ok (.ifCond .lt 11, 3) := by decide +kernel
theorem dX5_matchesWith_13 : decode cX5_matchesWith 13 = .ok (.iload_n 2, 1) := by decide +kernel
theorem dX5_matchesWith_14 : decode cX5_matchesWith 14 = .ok (.aload_n 3, 1) := by decide +kernel
theorem dX5_matchesWith_15 : decode cX5_matchesWith 15 = .ok (.getfield 156, 3) := by decide +kernel
theorem dX5_matchesWith_18 : decode cX5_matchesWith 18 = .ok (.if_icmp .lt 13, 3) := by decide +kernel
theorem dX5_matchesWith_21 : decode cX5_matchesWith 21 = .ok (.new 88, 3) := by decide +kernel
theorem dX5_matchesWith_24 : decode cX5_matchesWith 24 = .ok (.dup, 1) := by decide +kernel
theorem dX5_matchesWith_25 : decode cX5_matchesWith 25 = .ok (.ldc 204, 2) := by decide +kernel
theorem dX5_matchesWith_27 : decode cX5_matchesWith 27 = .ok (.invokespecial 92, 3) := by decide +kernel
theorem dX5_matchesWith_30 : decode cX5_matchesWith 30 = .ok (.athrow, 1) := by decide +kernel
theorem dX5_matchesWith_31 : decode cX5_matchesWith 31 = .ok (.aload_n 3, 1) := by decide +kernel
theorem dX5_matchesWith_32 : decode cX5_matchesWith 32 = .ok (.areturn, 1) := by decide +kernel
set_option maxRecDepth 20000 in
theorem ggX5_checkRoomForTrade_X0_isFull : GoodIn wsX5_checkRoomForTrade wsX0_isFull := goodIn_r _ [8, 9, 14, 15, 16, 17, 18, 19, 20] (by decide +kernel) (by decide +kernel)
set_option maxRecDepth 20000 in
theorem gX5_checkRoomForTrade_X0_isFull : GoodIn wsX5_checkRoomForTrade (wsV RX5 206 RX0 yX0_isFull wsX0_isFull) := goodIn_app (goodIn_of _ (by decide +kernel)) ggX5_checkRoomForTrade_X0_isFull
theorem dX5_checkRoomForTrade_0 : decode cX5_checkRoomForTrade 0 = .ok (.aload_n 0, 1) := by decide +kernel
theorem dX5_checkRoomForTrade_1 : decode cX5_checkRoomForTrade 1 = .ok (.getfield 10, 3) := by decide +kernel
theorem dX5_checkRoomForTrade_4 : decode cX5_checkRoomForTrade 4 = .ok (.invokevirtual 206, 3) := by decide +kernel
theorem dX5_checkRoomForTrade_7 : decode cX5_checkRoomForTrade 7 = .ok (.ifCond .eq 13, 3) := by decide +kernel
theorem dX5_checkRoomForTrade_10 : decode cX5_checkRoomForTrade 10 = .ok (.new 77, 3) := by decide +kernel
theorem dX5_checkRoomForTrade_13 : decode cX5_checkRoomForTrade 13 = .ok (.dup, 1) := by decide +kernel
theorem dX5_checkRoomForTrade_14 : decode cX5_checkRoomForTrade 14 = .ok (.ldc 207, 2) := by decide +kernel
theorem dX5_checkRoomForTrade_16 : decode cX5_checkRoomForTrade 16 = .ok (.invokespecial 81, 3) := by decide +kernel
theorem dX5_checkRoomForTrade_19 : decode cX5_checkRoomForTrade 19 = .ok (.athrow, 1) := by decide +kernel
theorem dX5_checkRoomForTrade_20 : decode cX5_checkRoomForTrade 20 = .ok (.return_, 1) := by decide +kernel
theorem dX5_checkYear_0 : decode cX5_checkYear 0 = .ok (.iload_n 0, 1) := by decide +kernel
theorem dX5_checkYear_1 : decode cX5_checkYear 1 = .ok (.ifCond .lt 8, 3) := by decide +kernel
theorem dX5_checkYear_4 : decode cX5_checkYear 4 = .ok (.iload_n 0, 1) := by decide +kernel
theorem dX5_checkYear_5 : decode cX5_checkYear 5 = .ok (.iconst 5, 1) := by decide +kernel
theorem dX5_checkYear_6 : decode cX5_checkYear 6 = .ok (.if_icmp .lt 13, 3) := by decide +kernel
theorem dX5_checkYear_9 : decode cX5_checkYear 9 = .ok (.new 88, 3) := by decide +kernel
theorem dX5_checkYear_12 : decode cX5_checkYear 12 = .ok (.dup, 1) := by decide +kernel
theorem dX5_checkYear_13 : decode cX5_checkYear 13 = .ok (.ldc 209, 2) := by decide +kernel
theorem dX5_checkYear_15 : decode cX5_checkYear 15 = .ok (.invokespecial 92, 3) := by decide +kernel
theorem dX5_checkYear_18 : decode cX5_checkYear 18 = .ok (.athrow, 1) := by decide +kernel
theorem dX5_checkYear_19 : decode cX5_checkYear 19 = .ok (.return_, 1) := by decide +kernel
set_option maxRecDepth 20000 in
theorem ggX5_checkTrade_X5_checkMoney : GoodIn wsX5_checkTrade wsX5_checkMoney := goodIn_ca (goodIn_r _ [6, 1, 2, 7] (by decide +kernel) (by decide +kernel)) (goodIn_sub (fun _ h => List.mem_cons_of_mem _ (List.mem_append_right _ h)) (by decide +kernel))
set_option maxRecDepth 20000 in
theorem gX5_checkTrade_X5_checkMoney : GoodIn wsX5_checkTrade (va_wsS RX5 114 yX5_checkMoney wsX5_checkMoney) := goodIn_app (goodIn_of _ (by decide +kernel)) ggX5_checkTrade_X5_checkMoney
theorem dX5_checkTrade_0 : decode cX5_checkTrade 0 = .ok (.iload_n 0, 1) := by decide +kernel
theorem dX5_checkTrade_1 : decode cX5_checkTrade 1 = .ok (.iconst 1, 1) := by decide +kernel
theorem dX5_checkTrade_2 : decode cX5_checkTrade 2 = .ok (.if_icmp .lt 10, 3) := by decide +kernel
theorem dX5_checkTrade_5 : decode cX5_checkTrade 5 = .ok (.iload_n 0, 1) := by decide +kernel
theorem dX5_checkTrade_6 : decode cX5_checkTrade 6 = .ok (.sipush 1000, 3) := by decide +kernel
theorem dX5_checkTrade_9 : decode cX5_checkTrade 9 = .ok (.if_icmp .le 13, 3) := by decide +kernel
theorem dX5_checkTrade_12 : decode cX5_checkTrade 12 = .ok (.new 56, 3) := by decide +kernel
theorem dX5_checkTrade_15 : decode cX5_checkTrade 15 = .ok (.dup, 1) := by decide +kernel
theorem dX5_checkTrade_16 : decode cX5_checkTrade 16 = .ok (.ldc 211, 2) := by decide +kernel
theorem dX5_checkTrade_18 : decode cX5_checkTrade 18 = .ok (.invokespecial 60, 3) := by decide +kernel
theorem dX5_checkTrade_21 : decode cX5_checkTrade 21 = .ok (.athrow, 1) := by decide +kernel
theorem dX5_checkTrade_22 : decode cX5_checkTrade 22 = .ok (.iload_n 1, 1) := by decide +kernel
theorem dX5_checkTrade_23 : decode cX5_checkTrade 23 = .ok (.invokestatic 114, 3) := by decide +kernel
theorem dX5_checkTrade_26 : decode cX5_checkTrade 26 = .ok (.return_, 1) := by decide +kernel
theorem dX5_checkMoney_0 : decode cX5_checkMoney 0 = .ok (.iload_n 0, 1) := by decide +kernel
theorem dX5_checkMoney_1 : decode cX5_checkMoney 1 = .ok (.ifCond .lt 9, 3) := by decide +kernel
theorem dX5_checkMoney_4 : decode cX5_checkMoney 4 = .ok (.iload_n 0, 1) := by decide +kernel
theorem dX5_checkMoney_5 : decode cX5_checkMoney 5 = .ok (.ldc 213, 2) := by decide +kernel
theorem dX5_checkMoney_7 : decode cX5_checkMoney 7 = .ok (.if_icmp .le 13, 3) := by decide +kernel
theorem dX5_checkMoney_10 : decode cX5_checkMoney 10 = .ok (.new 56, 3) := by decide +kernel
theorem dX5_checkMoney_13 : decode cX5_checkMoney 13 = .ok (.dup, 1) := by decide +kernel
theorem dX5_checkMoney_14 : decode cX5_checkMoney 14 = .ok (.ldc 214, 2) := by decide +kernel
theorem dX5_checkMoney_16 : decode cX5_checkMoney 16 = .ok (.invokespecial 60, 3) := by decide +kernel
theorem dX5_checkMoney_19 : decode cX5_checkMoney 19 = .ok (.athrow, 1) := by decide +kernel
theorem dX5_checkMoney_20 : decode cX5_checkMoney 20 = .ok (.return_, 1) := by decide +kernel
set_option maxRecDepth 20000 in
theorem ggX5_checkCanSpare_X4_factorBetween : GoodIn wsX5_checkCanSpare wsX4_factorBetween := goodIn_r _ [7, 8, 9, 10, 28, 29, 30] (by decide +kernel) (by decide +kernel)
set_option maxRecDepth 20000 in
theorem gX5_checkCanSpare_X4_factorBetween : GoodIn wsX5_checkCanSpare (wsV RX5 216 RX4 yX4_factorBetween wsX4_factorBetween) := goodIn_app (goodIn_of _ (by decide +kernel)) ggX5_checkCanSpare_X4_factorBetween
set_option maxRecDepth 20000 in
theorem ggX5_checkCanSpare_X3_leastUnitsFrom : GoodIn wsX5_checkCanSpare wsX3_leastUnitsFrom := goodIn_r _ [15, 16, 17, 18, 19, 20, 21, 22, 23, 31, 32, 33, 34, 35, 36, 37, 38, 39, 40] (by decide +kernel) (by decide +kernel)
set_option maxRecDepth 20000 in
theorem gX5_checkCanSpare_X3_leastUnitsFrom : GoodIn wsX5_checkCanSpare (wsV RX5 219 RX3 yX3_leastUnitsFrom wsX3_leastUnitsFrom) := goodIn_app (goodIn_of _ (by decide +kernel)) ggX5_checkCanSpare_X3_leastUnitsFrom
theorem dX5_checkCanSpare_0 : decode cX5_checkCanSpare 0 = .ok (.iload_n 2, 1) := by decide +kernel
theorem dX5_checkCanSpare_1 : decode cX5_checkCanSpare 1 = .ok (.aload_n 0, 1) := by decide +kernel
theorem dX5_checkCanSpare_2 : decode cX5_checkCanSpare 2 = .ok (.getfield 63, 3) := by decide +kernel
theorem dX5_checkCanSpare_5 : decode cX5_checkCanSpare 5 = .ok (.iload_n 1, 1) := by decide +kernel
theorem dX5_checkCanSpare_6 : decode cX5_checkCanSpare 6 = .ok (.sipush 1825, 3) := by decide +kernel
theorem dX5_checkCanSpare_9 : decode cX5_checkCanSpare 9 = .ok (.invokevirtual 216, 3) := by decide +kernel
theorem dX5_checkCanSpare_12 : decode cX5_checkCanSpare 12 = .ok (.imul, 1) := by decide +kernel
theorem dX5_checkCanSpare_13 : decode cX5_checkCanSpare 13 = .ok (.istore_n 3, 1) := by decide +kernel
theorem dX5_checkCanSpare_14 : decode cX5_checkCanSpare 14 = .ok (.aload_n 0, 1) := by decide +kernel
theorem dX5_checkCanSpare_15 : decode cX5_checkCanSpare 15 = .ok (.getfield 123, 3) := by decide +kernel
theorem dX5_checkCanSpare_18 : decode cX5_checkCanSpare 18 = .ok (.iload_n 1, 1) := by decide +kernel
theorem dX5_checkCanSpare_19 : decode cX5_checkCanSpare 19 = .ok (.invokevirtual 219, 3) := by decide +kernel
theorem dX5_checkCanSpare_22 : decode cX5_checkCanSpare 22 = .ok (.iload_n 3, 1) := by decide +kernel
theorem dX5_checkCanSpare_23 : decode cX5_checkCanSpare 23 = .ok (.if_icmp .ge 13, 3) := by decide +kernel
theorem dX5_checkCanSpare_26 : decode cX5_checkCanSpare 26 = .ok (.new 77, 3) := by decide +kernel
theorem dX5_checkCanSpare_29 : decode cX5_checkCanSpare 29 = .ok (.dup, 1) := by decide +kernel
theorem dX5_checkCanSpare_30 : decode cX5_checkCanSpare 30 = .ok (.ldc 222, 2) := by decide +kernel
theorem dX5_checkCanSpare_32 : decode cX5_checkCanSpare 32 = .ok (.invokespecial 81, 3) := by decide +kernel
theorem dX5_checkCanSpare_35 : decode cX5_checkCanSpare 35 = .ok (.athrow, 1) := by decide +kernel
theorem dX5_checkCanSpare_36 : decode cX5_checkCanSpare 36 = .ok (.return_, 1) := by decide +kernel
theorem dX5_part_0 : decode cX5_part 0 = .ok (.iload_n 3, 1) := by decide +kernel
theorem dX5_part_1 : decode cX5_part 1 = .ok (.ifCond .gt 5, 3) := by decide +kernel
theorem dX5_part_4 : decode cX5_part 4 = .ok (.iconst 0, 1) := by decide +kernel
theorem dX5_part_5 : decode cX5_part 5 = .ok (.ireturn, 1) := by decide +kernel
theorem dX5_part_6 : decode cX5_part 6 = .ok (.iload_n 0, 1) := by decide +kernel
theorem dX5_part_7 : decode cX5_part 7 = .ok (.i2l, 1) := by decide +kernel
theorem dX5_part_8 : decode cX5_part 8 = .ok (.iload_n 2, 1) := by decide +kernel
theorem dX5_part_9 : decode cX5_part 9 = .ok (.i2l, 1) := by decide +kernel
theorem dX5_part_10 : decode cX5_part 10 = .ok (.lmul, 1) := by decide +kernel
theorem dX5_part_11 : decode cX5_part 11 = .ok (.iload_n 3, 1) := by decide +kernel
theorem dX5_part_12 : decode cX5_part 12 = .ok (.i2l, 1) := by decide +kernel
theorem dX5_part_13 : decode cX5_part 13 = .ok (.ldiv, 1) := by decide +kernel
theorem dX5_part_14 : decode cX5_part 14 = .ok (.iload_n 0, 1) := by decide +kernel
theorem dX5_part_15 : decode cX5_part 15 = .ok (.i2l, 1) := by decide +kernel
theorem dX5_part_16 : decode cX5_part 16 = .ok (.iload_n 1, 1) := by decide +kernel
theorem dX5_part_17 : decode cX5_part 17 = .ok (.i2l, 1) := by decide +kernel
theorem dX5_part_18 : decode cX5_part 18 = .ok (.lmul, 1) := by decide +kernel
theorem dX5_part_19 : decode cX5_part 19 = .ok (.iload_n 3, 1) := by decide +kernel
theorem dX5_part_20 : decode cX5_part 20 = .ok (.i2l, 1) := by decide +kernel
theorem dX5_part_21 : decode cX5_part 21 = .ok (.ldiv, 1) := by decide +kernel
theorem dX5_part_22 : decode cX5_part 22 = .ok (.lsub, 1) := by decide +kernel
theorem dX5_part_23 : decode cX5_part 23 = .ok (.l2i, 1) := by decide +kernel
theorem dX5_part_24 : decode cX5_part 24 = .ok (.ireturn, 1) := by decide +kernel
theorem dJ9_max_7cf53_0 : decode cJ9_max_7cf53 0 = .ok (.iload_n 0, 1) := by decide +kernel
theorem dJ9_max_7cf53_1 : decode cJ9_max_7cf53 1 = .ok (.iload_n 1, 1) := by decide +kernel
theorem dJ9_max_7cf53_2 : decode cJ9_max_7cf53 2 = .ok (.if_icmp .lt 7, 3) := by decide +kernel
theorem dJ9_max_7cf53_5 : decode cJ9_max_7cf53 5 = .ok (.iload_n 0, 1) := by decide +kernel
theorem dJ9_max_7cf53_6 : decode cJ9_max_7cf53 6 = .ok (.goto 4, 3) := by decide +kernel
theorem dJ9_max_7cf53_9 : decode cJ9_max_7cf53 9 = .ok (.iload_n 1, 1) := by decide +kernel
theorem dJ9_max_7cf53_10 : decode cJ9_max_7cf53 10 = .ok (.ireturn, 1) := by decide +kernel
theorem dJ9_min_7cf53_0 : decode cJ9_min_7cf53 0 = .ok (.iload_n 0, 1) := by decide +kernel
theorem dJ9_min_7cf53_1 : decode cJ9_min_7cf53 1 = .ok (.iload_n 1, 1) := by decide +kernel
theorem dJ9_min_7cf53_2 : decode cJ9_min_7cf53 2 = .ok (.if_icmp .gt 7, 3) := by decide +kernel
theorem dJ9_min_7cf53_5 : decode cJ9_min_7cf53 5 = .ok (.iload_n 0, 1) := by decide +kernel
theorem dJ9_min_7cf53_6 : decode cJ9_min_7cf53 6 = .ok (.goto 4, 3) := by decide +kernel
theorem dJ9_min_7cf53_9 : decode cJ9_min_7cf53 9 = .ok (.iload_n 1, 1) := by decide +kernel
theorem dJ9_min_7cf53_10 : decode cJ9_min_7cf53 10 = .ok (.ireturn, 1) := by decide +kernel
