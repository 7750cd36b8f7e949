theorem dX0_init_0 : decode cX0_init 0 = .ok (.aload_n 0, 1) := by decide +kernel
theorem dX0_init_1 : decode cX0_init 1 = .ok (.invokespecial 3, 3) := by decide +kernel
theorem dX0_init_4 : decode cX0_init 4 = .ok (.aload_n 0, 1) := by decide +kernel
theorem dX0_init_5 : decode cX0_init 5 = .ok (.bipush 60, 2) := by decide +kernel
theorem dX0_init_7 : decode cX0_init 7 = .ok (.newarray .boolean, 2) := by decide +kernel
theorem dX0_init_9 : decode cX0_init 9 = .ok (.putfield 9, 3) := by decide +kernel
theorem dX0_init_12 : decode cX0_init 12 = .ok (.aload_n 0, 1) := by decide +kernel
theorem dX0_init_13 : decode cX0_init 13 = .ok (.bipush 60, 2) := by decide +kernel
theorem dX0_init_15 : decode cX0_init 15 = .ok (.newarray .boolean, 2) := by decide +kernel
theorem dX0_init_17 : decode cX0_init 17 = .ok (.putfield 15, 3) := by decide +kernel
theorem dX0_init_20 : decode cX0_init 20 = .ok (.aload_n 0, 1) := by decide +kernel
theorem dX0_init_21 : decode cX0_init 21 = .ok (.bipush 60, 2) := by decide +kernel
theorem dX0_init_23 : decode cX0_init 23 = .ok (.newarray .int, 2) := by decide +kernel
theorem dX0_init_25 : decode cX0_init 25 = .ok (.putfield 18, 3) := by decide +kernel
theorem dX0_init_28 : decode cX0_init 28 = .ok (.aload_n 0, 1) := by decide +kernel
theorem dX0_init_29 : decode cX0_init 29 = .ok (.bipush 60, 2) := by decide +kernel
theorem dX0_init_31 : decode cX0_init 31 = .ok (.newarray .int, 2) := by decide +kernel
theorem dX0_init_33 : decode cX0_init 33 = .ok (.putfield 22, 3) := by decide +kernel
theorem dX0_init_36 : decode cX0_init 36 = .ok (.aload_n 0, 1) := by decide +kernel
theorem dX0_init_37 : decode cX0_init 37 = .ok (.bipush 60, 2) := by decide +kernel
theorem dX0_init_39 : decode cX0_init 39 = .ok (.newarray .int, 2) := by decide +kernel
theorem dX0_init_41 : decode cX0_init 41 = .ok (.putfield 25, 3) := by decide +kernel
theorem dX0_init_44 : decode cX0_init 44 = .ok (.aload_n 0, 1) := by decide +kernel
theorem dX0_init_45 : decode cX0_init 45 = .ok (.bipush 60, 2) := by decide +kernel
theorem dX0_init_47 : decode cX0_init 47 = .ok (.newarray .int, 2) := by decide +kernel
theorem dX0_init_49 : decode cX0_init 49 = .ok (.putfield 28, 3) := by decide +kernel
theorem dX0_init_52 : decode cX0_init 52 = .ok (.aload_n 0, 1) := by decide +kernel
theorem dX0_init_53 : decode cX0_init 53 = .ok (.iconst 0, 1) := by decide +kernel
theorem dX0_init_54 : decode cX0_init 54 = .ok (.putfield 31, 3) := by decide +kernel
theorem dX0_init_57 : decode cX0_init 57 = .ok (.return_, 1) := by decide +kernel
theorem dX0_isFull_0 : decode cX0_isFull 0 = .ok (.aload_n 0, 1) := by decide +kernel
theorem dX0_isFull_1 : decode cX0_isFull 1 = .ok (.getfield 31, 3) := by decide +kernel
theorem dX0_isFull_4 : decode cX0_isFull 4 = .ok (.bipush 60, 2) := by decide +kernel
theorem dX0_isFull_6 : decode cX0_isFull 6 = .ok (.if_icmp .lt 7, 3) := by decide +kernel
theorem dX0_isFull_9 : decode cX0_isFull 9 = .ok (.iconst 1, 1) := by decide +kernel
theorem dX0_isFull_10 : decode cX0_isFull 10 = .ok (.goto 4, 3) := by decide +kernel
theorem dX0_isFull_13 : decode cX0_isFull 13 = .ok (.iconst 0, 1) := by decide +kernel
theorem dX0_isFull_14 : decode cX0_isFull 14 = .ok (.ireturn, 1) := by decide +kernel
set_option maxRecDepth 20000 in
theorem ggX0_enter_X0_isFull : GoodIn wsX0_enter wsX0_isFull := goodIn_r _ [11, 1, 12, 13, 14, 15, 16, 17, 18] (by decide +kernel) (by decide +kernel)
set_option maxRecDepth 20000 in
theorem gX0_enter_X0_isFull : GoodIn wsX0_enter (wsV RX0 35 RX0 yX0_isFull wsX0_isFull) := goodIn_app (goodIn_of _ (by decide +kernel)) ggX0_enter_X0_isFull
theorem dX0_enter_0 : decode cX0_enter 0 = .ok (.aload_n 0, 1) := by decide +kernel
theorem dX0_enter_1 : decode cX0_enter 1 = .ok (.invokevirtual 35, 3) := by decide +kernel
theorem dX0_enter_4 : decode cX0_enter 4 = .ok (.ifCond .eq 5, 3) := by decide +kernel
theorem dX0_enter_7 : decode cX0_enter 7 = .ok (.iconst (-1), 1) := by decide +kernel
theorem dX0_enter_8 : decode cX0_enter 8 = .ok (.ireturn, 1) := by decide +kernel
theorem dX0_enter_9 : decode cX0_enter 9 = .ok (.aload_n 0, 1) := by decide +kernel
theorem dX0_enter_10 : decode cX0_enter 10 = .ok (.getfield 31, 3) := by decide +kernel
theorem dX0_enter_13 : decode cX0_enter 13 = .ok (.istore 6, 2) := by decide +kernel
theorem dX0_enter_15 : decode cX0_enter 15 = .ok (.aload_n 0, 1) := by decide +kernel
theorem dX0_enter_16 : decode cX0_enter 16 = .ok (.getfield 9, 3) := by decide +kernel
theorem dX0_enter_19 : decode cX0_enter 19 = .ok (.iload 6, 2) := by decide +kernel
theorem dX0_enter_21 : decode cX0_enter 21 = .ok (.iload_n 1, 1) := by decide +kernel
theorem dX0_enter_22 : decode cX0_enter 22 = .ok (.bastore, 1) := by decide +kernel
theorem dX0_enter_23 : decode cX0_enter 23 = .ok (.aload_n 0, 1) := by decide +kernel
theorem dX0_enter_24 : decode cX0_enter 24 = .ok (.getfield 18, 3) := by decide +kernel
theorem dX0_enter_27 : decode cX0_enter 27 = .ok (.iload 6, 2) := by decide +kernel
theorem dX0_enter_29 : decode cX0_enter 29 = .ok (.iload_n 2, 1) := by decide +kernel
theorem dX0_enter_30 : decode cX0_enter 30 = .ok (.iastore, 1) := by decide +kernel
theorem dX0_enter_31 : decode cX0_enter 31 = .ok (.aload_n 0, 1) := by decide +kernel
theorem dX0_enter_32 : decode cX0_enter 32 = .ok (.getfield 22, 3) := by decide +kernel
theorem dX0_enter_35 : decode cX0_enter 35 = .ok (.iload 6, 2) := by decide +kernel
theorem dX0_enter_37 : decode cX0_enter 37 = .ok (.iload_n 3, 1) := by decide +kernel
theorem dX0_enter_38 : decode cX0_enter 38 = .ok (.iastore, 1) := by decide +kernel
theorem dX0_enter_39 : decode cX0_enter 39 = .ok (.aload_n 0, 1) := by decide +kernel
theorem dX0_enter_40 : decode cX0_enter 40 = .ok (.getfield 25, 3) := by decide +kernel
theorem dX0_enter_43 : decode cX0_enter 43 = .ok (.iload 6, 2) := by decide +kernel
theorem dX0_enter_45 : decode cX0_enter 45 = .ok (.iload 4, 2) := by decide +kernel
theorem dX0_enter_47 : decode cX0_enter 47 = .ok (.iastore, 1) := by decide +kernel
theorem dX0_enter_48 : decode cX0_enter 48 = .ok (.aload_n 0, 1) := by decide +kernel
theorem dX0_enter_49 : decode cX0_enter 49 = .ok (.getfield 28, 3) := by decide +kernel
theorem dX0_enter_52 : decode cX0_enter 52 = .ok (.iload 6, 2) := by decide +kernel
theorem dX0_enter_54 : decode cX0_enter 54 = .ok (.iload 5, 2) := by decide +kernel
theorem dX0_enter_56 : decode cX0_enter 56 = .ok (.iastore, 1) := by decide +kernel
theorem dX0_enter_57 : decode cX0_enter 57 = .ok (.aload_n 0, 1) := by decide +kernel
theorem dX0_enter_58 : decode cX0_enter 58 = .ok (.dup, 1) := by decide +kernel
theorem dX0_enter_59 : decode cX0_enter 59 = .ok (.getfield 31, 3) := by decide +kernel
theorem dX0_enter_62 : decode cX0_enter 62 = .ok (.iconst 1, 1) := by decide +kernel
theorem dX0_enter_63 : decode cX0_enter 63 = .ok (.iadd, 1) := by decide +kernel
theorem dX0_enter_64 : decode cX0_enter 64 = .ok (.putfield 31, 3) := by decide +kernel
theorem dX0_enter_67 : decode cX0_enter 67 = .ok (.iload 6, 2) := by decide +kernel
theorem dX0_enter_69 : decode cX0_enter 69 = .ok (.ireturn, 1) := by decide +kernel
theorem dX0_counts_0 : decode cX0_counts 0 = .ok (.aload_n 0, 1) := by decide +kernel
theorem dX0_counts_1 : decode cX0_counts 1 = .ok (.getfield 18, 3) := by decide +kernel
theorem dX0_counts_4 : decode cX0_counts 4 = .ok (.iload_n 1, 1) := by decide +kernel
theorem dX0_counts_5 : decode cX0_counts 5 = .ok (.iaload, 1) := by decide +kernel
theorem dX0_counts_6 : decode cX0_counts 6 = .ok (.iload_n 2, 1) := by decide +kernel
theorem dX0_counts_7 : decode cX0_counts 7 = .ok (.if_icmp .ne 16, 3) := by decide +kernel
theorem dX0_counts_10 : decode cX0_counts 10 = .ok (.aload_n 0, 1) := by decide +kernel
theorem dX0_counts_11 : decode cX0_counts 11 = .ok (.getfield 15, 3) := by decide +kernel
theorem dX0_counts_14 : decode cX0_counts 14 = .ok (.iload_n 1, 1) := by decide +kernel
theorem dX0_counts_15 : decode cX0_counts 15 = .ok (.baload, 1) := by decide +kernel
theorem dX0_counts_16 : decode cX0_counts 16 = .ok (.ifCond .ne 7, 3) := by decide +kernel
theorem dX0_counts_19 : decode cX0_counts 19 = .ok (.iconst 1, 1) := by decide +kernel
theorem dX0_counts_20 : decode cX0_counts 20 = .ok (.goto 4, 3) := by decide +kernel
theorem dX0_counts_23 : decode cX0_counts 23 = .ok (.iconst 0, 1) := by decide +kernel
theorem dX0_counts_24 : decode cX0_counts 24 = .ok (.ireturn, 1) := by decide +kernel
set_option maxRecDepth 20000 in
theorem ggX1_init_X4_init : GoodIn wsX1_init wsX4_init := goodIn_r _ [18, 19, 2, 3, 20, 21, 22, 23, 47, 48, 49] (by decide +kernel) (by decide +kernel)
set_option maxRecDepth 20000 in
theorem gX1_init_X4_init_n11 : GoodIn wsX1_init (wsX4_init) := ggX1_init_X4_init
set_option maxRecDepth 20000 in
theorem ggX1_init_X3_init : GoodIn wsX1_init wsX3_init := goodIn_r _ [25, 26, 2, 3, 20, 27, 28, 29, 30, 31, 32, 33, 34, 35, 36, 54, 55, 56, 57, 58, 59, 60, 61, 62, 63] (by decide +kernel) (by decide +kernel)
set_option maxRecDepth 20000 in
theorem gX1_init_X3_init_n20 : GoodIn wsX1_init (wsX3_init) := ggX1_init_X3_init
set_option maxRecDepth 20000 in
theorem ggX1_init_X2_init : GoodIn wsX1_init wsX2_init := goodIn_r _ [38, 39, 2, 3, 20, 40, 41, 42, 43, 44, 45, 46, 64, 65, 66, 67, 68, 69, 70] (by decide +kernel) (by decide +kernel)
set_option maxRecDepth 20000 in
theorem gX1_init_X2_init_n27 : GoodIn wsX1_init (wsX2_init) := ggX1_init_X2_init
theorem dX1_init_0 : decode cX1_init 0 = .ok (.aload_n 0, 1) := by decide +kernel
theorem dX1_init_1 : decode cX1_init 1 = .ok (.invokespecial 3, 3) := by decide +kernel
theorem dX1_init_4 : decode cX1_init 4 = .ok (.aload_n 0, 1) := by decide +kernel
theorem dX1_init_5 : decode cX1_init 5 = .ok (.new 9, 3) := by decide +kernel
theorem dX1_init_8 : decode cX1_init 8 = .ok (.dup, 1) := by decide +kernel
theorem dX1_init_9 : decode cX1_init 9 = .ok (.invokespecial 11, 3) := by decide +kernel
theorem dX1_init_12 : decode cX1_init 12 = .ok (.putfield 12, 3) := by decide +kernel
theorem dX1_init_15 : decode cX1_init 15 = .ok (.aload_n 0, 1) := by decide +kernel
theorem dX1_init_16 : decode cX1_init 16 = .ok (.new 18, 3) := by decide +kernel
theorem dX1_init_19 : decode cX1_init 19 = .ok (.dup, 1) := by decide +kernel
theorem dX1_init_20 : decode cX1_init 20 = .ok (.invokespecial 20, 3) := by decide +kernel
theorem dX1_init_23 : decode cX1_init 23 = .ok (.putfield 21, 3) := by decide +kernel
theorem dX1_init_26 : decode cX1_init 26 = .ok (.aload_n 0, 1) := by decide +kernel
theorem dX1_init_27 : decode cX1_init 27 = .ok (.new 25, 3) := by decide +kernel
theorem dX1_init_30 : decode cX1_init 30 = .ok (.dup, 1) := by decide +kernel
theorem dX1_init_31 : decode cX1_init 31 = .ok (.invokespecial 27, 3) := by decide +kernel
theorem dX1_init_34 : decode cX1_init 34 = .ok (.putfield 28, 3) := by decide +kernel
theorem dX1_init_37 : decode cX1_init 37 = .ok (.aload_n 0, 1) := by decide +kernel
theorem dX1_init_38 : decode cX1_init 38 = .ok (.iload_n 1, 1) := by decide +kernel
theorem dX1_init_39 : decode cX1_init 39 = .ok (.putfield 32, 3) := by decide +kernel
theorem dX1_init_42 : decode cX1_init 42 = .ok (.return_, 1) := by decide +kernel
set_option maxRecDepth 20000 in
theorem ggX1_reckon_X3_fill : GoodIn wsX1_reckon wsX3_fill := goodIn_r _ [9, 10, 11, 12, 8, 13, 14, 15, 16, 17, 18, 19, 20, 21, 22, 23, 24, 25, 26, 27, 28, 29, 30, 31, 32, 33, 34, 35, 36, 37, 38, 39, 40, 41, 42, 43, 44, 45, 46, 47, 48, 49, 50, 51, 52, 53, 54, 55, 56, 115, 116, 117, 118, 119, 120, 121, 105, 106, 107, 108, 109, 110, 111, 112, 113, 114, 122, 123, 124] (by decide +kernel) (by decide +kernel)
set_option maxRecDepth 20000 in
theorem gX1_reckon_X3_fill : GoodIn wsX1_reckon (wsV RX1 36 RX3 yX3_fill wsX3_fill) := goodIn_app (goodIn_of _ (by decide +kernel)) ggX1_reckon_X3_fill
set_option maxRecDepth 20000 in
theorem ggX1_reckon_X1_matchSameDay : GoodIn wsX1_reckon wsX1_matchSameDay := goodIn_r _ [61, 1, 62, 52, 53, 54, 4, 63, 64, 65, 66, 67, 68, 69, 70, 71, 72, 73, 74, 75, 76, 77, 94, 95, 96, 97, 105, 106, 107, 108, 109, 110, 111, 112, 113, 114, 98, 99, 100, 101, 102, 103, 104] (by decide +kernel) (by decide +kernel)
set_option maxRecDepth 20000 in
theorem gX1_reckon_X1_matchSameDay : GoodIn wsX1_reckon (wsV RX1 44 RX1 yX1_matchSameDay wsX1_matchSameDay) := goodIn_app (goodIn_of _ (by decide +kernel)) ggX1_reckon_X1_matchSameDay
set_option maxRecDepth 20000 in
theorem ggX1_reckon_X1_matchLaterDays : GoodIn wsX1_reckon wsX1_matchLaterDays := goodIn_r _ [81, 1, 62, 52, 53, 54, 4, 82, 83, 84, 60, 85, 63, 64, 65, 86, 87, 88, 89, 66, 67, 68, 69, 70, 71, 72, 73, 74, 75, 76, 77, 94, 95, 96, 97, 105, 106, 107, 108, 109, 110, 111, 112, 113, 114, 98, 99, 100, 101, 102, 103, 104] (by decide +kernel) (by decide +kernel)
set_option maxRecDepth 20000 in
theorem gX1_reckon_X1_matchLaterDays : GoodIn wsX1_reckon (wsV RX1 48 RX1 yX1_matchLaterDays wsX1_matchLaterDays) := goodIn_app (goodIn_of _ (by decide +kernel)) ggX1_reckon_X1_matchLaterDays
set_option maxRecDepth 20000 in
theorem ggX1_reckon_X1_pool : GoodIn wsX1_reckon wsX1_pool := goodIn_r _ [93, 1, 4, 82, 83, 84, 60, 85, 63, 64, 65, 86, 87, 88, 89, 66, 67, 68, 69, 70, 71, 72, 73, 74, 75, 76, 77, 94, 95, 96, 97, 105, 106, 107, 108, 109, 110, 111, 112, 113, 114, 98, 99, 100, 101, 102, 103, 104] (by decide +kernel) (by decide +kernel)
set_option maxRecDepth 20000 in
theorem gX1_reckon_X1_pool : GoodIn wsX1_reckon (wsV RX1 52 RX1 yX1_pool wsX1_pool) := goodIn_app (goodIn_of _ (by decide +kernel)) ggX1_reckon_X1_pool
theorem dX1_reckon_0 : decode cX1_reckon 0 = .ok (.aload_n 0, 1) := by decide +kernel
theorem dX1_reckon_1 : decode cX1_reckon 1 = .ok (.getfield 21, 3) := by decide +kernel
theorem dX1_reckon_4 : decode cX1_reckon 4 = .ok (.aload_n 1, 1) := by decide +kernel
theorem dX1_reckon_5 : decode cX1_reckon 5 = .ok (.aload_n 0, 1) := by decide +kernel
theorem dX1_reckon_6 : decode cX1_reckon 6 = .ok (.getfield 32, 3) := by decide +kernel
theorem dX1_reckon_9 : decode cX1_reckon 9 = .ok (.aload_n 0, 1) := by decide +kernel
theorem dX1_reckon_10 : decode cX1_reckon 10 = .ok (.getfield 12, 3) := by decide +kernel
theorem dX1_reckon_13 : decode cX1_reckon 13 = .ok (.invokevirtual 36, 3) := by decide +kernel
theorem dX1_reckon_16 : decode cX1_reckon 16 = .ok (.aload_n 0, 1) := by decide +kernel
theorem dX1_reckon_17 : decode cX1_reckon 17 = .ok (.getfield 28, 3) := by decide +kernel
theorem dX1_reckon_20 : decode cX1_reckon 20 = .ok (.iconst 0, 1) := by decide +kernel
theorem dX1_reckon_21 : decode cX1_reckon 21 = .ok (.putfield 40, 3) := by decide +kernel
theorem dX1_reckon_24 : decode cX1_reckon 24 = .ok (.iconst 0, 1) := by decide +kernel
theorem dX1_reckon_25 : decode cX1_reckon 25 = .ok (.istore_n 3, 1) := by decide +kernel
theorem dX1_reckon_26 : decode cX1_reckon 26 = .ok (.iload_n 3, 1) := by decide +kernel
theorem dX1_reckon_27 : decode cX1_reckon 27 = .ok (.aload_n 0, 1) := by decide +kernel
theorem dX1_reckon_28 : decode cX1_reckon 28 = .ok (.getfield 21, 3) := by decide +kernel
theorem dX1_reckon_31 : decode cX1_reckon 31 = .ok (.getfield 43, 3) := by decide +kernel
theorem dX1_reckon_34 : decode cX1_reckon 34 = .ok (.if_icmp .ge 25, 3) := by decide +kernel
theorem dX1_reckon_37 : decode cX1_reckon 37 = .ok (.aload_n 0, 1) := by decide +kernel
theorem dX1_reckon_38 : decode cX1_reckon 38 = .ok (.iload_n 3, 1) := by decide +kernel
theorem dX1_reckon_39 : decode cX1_reckon 39 = .ok (.invokevirtual 44, 3) := by decide +kernel
theorem dX1_reckon_42 : decode cX1_reckon 42 = .ok (.aload_n 0, 1) := by decide +kernel
theorem dX1_reckon_43 : decode cX1_reckon 43 = .ok (.iload_n 3, 1) := by decide +kernel
theorem dX1_reckon_44 : decode cX1_reckon 44 = .ok (.iload_n 2, 1) := by decide +kernel
theorem dX1_reckon_45 : decode cX1_reckon 45 = .ok (.invokevirtual 48, 3) := by decide +kernel
theorem dX1_reckon_48 : decode cX1_reckon 48 = .ok (.aload_n 0, 1) := by decide +kernel
theorem dX1_reckon_49 : decode cX1_reckon 49 = .ok (.iload_n 3, 1) := by decide +kernel
theorem dX1_reckon_50 : decode cX1_reckon 50 = .ok (.invokevirtual 52, 3) := by decide +kernel
theorem dX1_reckon_53 : decode cX1_reckon 53 = .ok (.iinc 3 1, 3) := by decide +kernel
theorem dX1_reckon_56 : decode cX1_reckon 56 = .ok (.goto (-30), 3) := by decide +kernel
theorem dX1_reckon_59 : decode cX1_reckon 59 = .ok (.return_, 1) := by decide +kernel
set_option maxRecDepth 20000 in
theorem ggX1_heldShares_X0_counts : GoodIn wsX1_heldShares wsX0_counts := goodIn_r _ [7, 8, 9, 18, 19, 20, 21, 22, 23, 24] (by decide +kernel) (by decide +kernel)
set_option maxRecDepth 20000 in
theorem gX1_heldShares_X0_counts : GoodIn wsX1_heldShares (wsV RX1 62 RX0 yX0_counts wsX0_counts) := goodIn_app (goodIn_of _ (by decide +kernel)) ggX1_heldShares_X0_counts
set_option maxRecDepth 20000 in
theorem ggX1_heldShares_X4_factorBetween : GoodIn wsX1_heldShares wsX4_factorBetween := goodIn_r _ [14, 15, 16, 17, 29, 30, 31] (by decide +kernel) (by decide +kernel)
set_option maxRecDepth 20000 in
theorem gX1_heldShares_X4_factorBetween : GoodIn wsX1_heldShares (wsV RX1 69 RX4 yX4_factorBetween wsX4_factorBetween) := goodIn_app (goodIn_of _ (by decide +kernel)) ggX1_heldShares_X4_factorBetween
theorem dX1_heldShares_0 : decode cX1_heldShares 0 = .ok (.iconst 0, 1) := by decide +kernel
theorem dX1_heldShares_1 : decode cX1_heldShares 1 = .ok (.istore_n 3, 1) := by decide +kernel
theorem dX1_heldShares_2 : decode cX1_heldShares 2 = .ok (.iconst 0, 1) := by decide +kernel
theorem dX1_heldShares_3 : decode cX1_heldShares 3 = .ok (.istore 4, 2) := by decide +kernel
theorem dX1_heldShares_5 : decode cX1_heldShares 5 = .ok (.iload 4, 2) := by decide +kernel
theorem dX1_heldShares_7 : decode cX1_heldShares 7 = .ok (.aload_n 1, 1) := by decide +kernel
theorem dX1_heldShares_8 : decode cX1_heldShares 8 = .ok (.getfield 55, 3) := by decide +kernel
theorem dX1_heldShares_11 : decode cX1_heldShares 11 = .ok (.if_icmp .ge 78, 3) := by decide +kernel
theorem dX1_heldShares_14 : decode cX1_heldShares 14 = .ok (.aload_n 1, 1) := by decide +kernel
theorem dX1_heldShares_15 : decode cX1_heldShares 15 = .ok (.getfield 58, 3) := by decide +kernel
theorem dX1_heldShares_18 : decode cX1_heldShares 18 = .ok (.iload 4, 2) := by decide +kernel
theorem dX1_heldShares_20 : decode cX1_heldShares 20 = .ok (.iaload, 1) := by decide +kernel
theorem dX1_heldShares_21 : decode cX1_heldShares 21 = .ok (.istore 5, 2) := by decide +kernel
theorem dX1_heldShares_23 : decode cX1_heldShares 23 = .ok (.aload_n 1, 1) := by decide +kernel
theorem dX1_heldShares_24 : decode cX1_heldShares 24 = .ok (.iload 4, 2) := by decide +kernel
theorem dX1_heldShares_26 : decode cX1_heldShares 26 = .ok (.aload_n 0, 1) := by decide +kernel
theorem dX1_heldShares_27 : decode cX1_heldShares 27 = .ok (.getfield 32, 3) := by decide +kernel
theorem dX1_heldShares_30 : decode cX1_heldShares 30 = .ok (.invokevirtual 62, 3) := by decide +kernel
theorem dX1_heldShares_33 : decode cX1_heldShares 33 = .ok (.ifCond .eq 50, 3) := by decide +kernel
theorem dX1_heldShares_36 : decode cX1_heldShares 36 = .ok (.iload 5, 2) := by decide +kernel
theorem dX1_heldShares_38 : decode cX1_heldShares 38 = .ok (.iload_n 2, 1) := by decide +kernel
theorem dX1_heldShares_39 : decode cX1_heldShares 39 = .ok (.if_icmp .gt 44, 3) := by decide +kernel
theorem dX1_heldShares_42 : decode cX1_heldShares 42 = .ok (.aload_n 1, 1) := by decide +kernel
theorem dX1_heldShares_43 : decode cX1_heldShares 43 = .ok (.getfield 66, 3) := by decide +kernel
theorem dX1_heldShares_46 : decode cX1_heldShares 46 = .ok (.iload 4, 2) := by decide +kernel
theorem dX1_heldShares_48 : decode cX1_heldShares 48 = .ok (.iaload, 1) := by decide +kernel
theorem dX1_heldShares_49 : decode cX1_heldShares 49 = .ok (.aload_n 0, 1) := by decide +kernel
theorem dX1_heldShares_50 : decode cX1_heldShares 50 = .ok (.getfield 12, 3) := by decide +kernel
theorem dX1_heldShares_53 : decode cX1_heldShares 53 = .ok (.iload 5, 2) := by decide +kernel
theorem dX1_heldShares_55 : decode cX1_heldShares 55 = .ok (.iload_n 2, 1) := by decide +kernel
theorem dX1_heldShares_56 : decode cX1_heldShares 56 = .ok (.invokevirtual 69, 3) := by decide +kernel
theorem dX1_heldShares_59 : decode cX1_heldShares 59 = .ok (.imul, 1) := by decide +kernel
theorem dX1_heldShares_60 : decode cX1_heldShares 60 = .ok (.istore 6, 2) := by decide +kernel
theorem dX1_heldShares_62 : decode cX1_heldShares 62 = .ok (.iload_n 3, 1) := by decide +kernel
theorem dX1_heldShares_63 : decode cX1_heldShares 63 = .ok (.aload_n 1, 1) := by decide +kernel
theorem dX1_heldShares_64 : decode cX1_heldShares 64 = .ok (.getfield 73, 3) := by decide +kernel
theorem dX1_heldShares_67 : decode cX1_heldShares 67 = .ok (.iload 4, 2) := by decide +kernel
theorem dX1_heldShares_69 : decode cX1_heldShares 69 = .ok (.baload, 1) := by decide +kernel
theorem dX1_heldShares_70 : decode cX1_heldShares 70 = .ok (.ifCond .eq 9, 3) := by decide +kernel
theorem dX1_heldShares_73 : decode cX1_heldShares 73 = .ok (.iload 6, 2) := by decide +kernel
theorem dX1_heldShares_75 : decode cX1_heldShares 75 = .ok (.ineg, 1) := by decide +kernel
theorem dX1_heldShares_76 : decode cX1_heldShares 76 = .ok (.goto 5, 3) := by decide +kernel
theorem dX1_heldShares_79 : decode cX1_heldShares 79 = .ok (.iload 6, 2) := by decide +kernel
theorem dX1_heldShares_81 : decode cX1_heldShares 81 = .ok (.iadd, 1) := by decide +kernel
theorem dX1_heldShares_82 : decode cX1_heldShares 82 = .ok (.istore_n 3, 1) := by decide +kernel
theorem dX1_heldShares_83 : decode cX1_heldShares 83 = .ok (.iinc 4 1, 3) := by decide +kernel
theorem dX1_heldShares_86 : decode cX1_heldShares 86 = .ok (.goto (-81), 3) := by decide +kernel
theorem dX1_heldShares_89 : decode cX1_heldShares 89 = .ok (.iload_n 3, 1) := by decide +kernel
theorem dX1_heldShares_90 : decode cX1_heldShares 90 = .ok (.ireturn, 1) := by decide +kernel
set_option maxRecDepth 20000 in
theorem ggX1_matchSameDay_X5_part : GoodIn wsX1_matchSameDay wsX5_part := goodIn_r _ [9] (by decide +kernel) (by decide +kernel)
set_option maxRecDepth 20000 in
theorem gX1_matchSameDay_X5_part_n91 : GoodIn wsX1_matchSameDay (wsX5_part) := ggX1_matchSameDay_X5_part
set_option maxRecDepth 20000 in
theorem ggX1_matchSameDay_X2_add : GoodIn wsX1_matchSameDay wsX2_add := goodIn_r _ [14, 15, 16, 17, 18, 19, 20, 21, 36, 37, 38, 39, 40, 41, 42] (by decide +kernel) (by decide +kernel)
set_option maxRecDepth 20000 in
theorem gX1_matchSameDay_X2_add : GoodIn wsX1_matchSameDay (wsV RX1 99 RX2 yX2_add wsX2_add) := goodIn_app (goodIn_of _ (by decide +kernel)) ggX1_matchSameDay_X2_add
theorem dX1_matchSameDay_0 : decode cX1_matchSameDay 0 = .ok (.aload_n 0, 1) := by decide +kernel
theorem dX1_matchSameDay_1 : decode cX1_matchSameDay 1 = .ok (.getfield 21, 3) := by decide +kernel
theorem dX1_matchSameDay_4 : decode cX1_matchSameDay 4 = .ok (.getfield 77, 3) := by decide +kernel
theorem dX1_matchSameDay_7 : decode cX1_matchSameDay 7 = .ok (.iload_n 1, 1) := by decide +kernel
theorem dX1_matchSameDay_8 : decode cX1_matchSameDay 8 = .ok (.iaload, 1) := by decide +kernel
theorem dX1_matchSameDay_9 : decode cX1_matchSameDay 9 = .ok (.aload_n 0, 1) := by decide +kernel
theorem dX1_matchSameDay_10 : decode cX1_matchSameDay 10 = .ok (.getfield 21, 3) := by decide +kernel
theorem dX1_matchSameDay_13 : decode cX1_matchSameDay 13 = .ok (.getfield 80, 3) := by decide +kernel
theorem dX1_matchSameDay_16 : decode cX1_matchSameDay 16 = .ok (.iload_n 1, 1) := by decide +kernel
theorem dX1_matchSameDay_17 : decode cX1_matchSameDay 17 = .ok (.iaload, 1) := by decide +kernel
theorem dX1_matchSameDay_18 : decode cX1_matchSameDay 18 = .ok (.invokestatic 83, 3) := by decide +kernel
theorem dX1_matchSameDay_21 : decode cX1_matchSameDay 21 = .ok (.istore_n 2, 1) := by decide +kernel
theorem dX1_matchSameDay_22 : decode cX1_matchSameDay 22 = .ok (.iload_n 2, 1) := by decide +kernel
theorem dX1_matchSameDay_23 : decode cX1_matchSameDay 23 = .ok (.ifCond .le 82, 3) := by decide +kernel
theorem dX1_matchSameDay_26 : decode cX1_matchSameDay 26 = .ok (.aload_n 0, 1) := by decide +kernel
theorem dX1_matchSameDay_27 : decode cX1_matchSameDay 27 = .ok (.getfield 21, 3) := by decide +kernel
theorem dX1_matchSameDay_30 : decode cX1_matchSameDay 30 = .ok (.getfield 88, 3) := by decide +kernel
theorem dX1_matchSameDay_33 : decode cX1_matchSameDay 33 = .ok (.iload_n 1, 1) := by decide +kernel
theorem dX1_matchSameDay_34 : decode cX1_matchSameDay 34 = .ok (.iaload, 1) := by decide +kernel
theorem dX1_matchSameDay_35 : decode cX1_matchSameDay 35 = .ok (.iconst 0, 1) := by decide +kernel
theorem dX1_matchSameDay_36 : decode cX1_matchSameDay 36 = .ok (.iload_n 2, 1) := by decide +kernel
theorem dX1_matchSameDay_37 : decode cX1_matchSameDay 37 = .ok (.aload_n 0, 1) := by decide +kernel
theorem dX1_matchSameDay_38 : decode cX1_matchSameDay 38 = .ok (.getfield 21, 3) := by decide +kernel
theorem dX1_matchSameDay_41 : decode cX1_matchSameDay 41 = .ok (.getfield 77, 3) := by decide +kernel
theorem dX1_matchSameDay_44 : decode cX1_matchSameDay 44 = .ok (.iload_n 1, 1) := by decide +kernel
theorem dX1_matchSameDay_45 : decode cX1_matchSameDay 45 = .ok (.iaload, 1) := by decide +kernel
theorem dX1_matchSameDay_46 : decode cX1_matchSameDay 46 = .ok (.invokestatic 91, 3) := by decide +kernel
theorem dX1_matchSameDay_49 : decode cX1_matchSameDay 49 = .ok (.istore_n 3, 1) := by decide +kernel
theorem dX1_matchSameDay_50 : decode cX1_matchSameDay 50 = .ok (.aload_n 0, 1) := by decide +kernel
theorem dX1_matchSameDay_51 : decode cX1_matchSameDay 51 = .ok (.getfield 21, 3) := by decide +kernel
theorem dX1_matchSameDay_54 : decode cX1_matchSameDay 54 = .ok (.getfield 95, 3) := by decide +kernel
theorem dX1_matchSameDay_57 : decode cX1_matchSameDay 57 = .ok (.iload_n 1, 1) := by decide +kernel
theorem dX1_matchSameDay_58 : decode cX1_matchSameDay 58 = .ok (.iaload, 1) := by decide +kernel
theorem dX1_matchSameDay_59 : decode cX1_matchSameDay 59 = .ok (.iconst 0, 1) := by decide +kernel
theorem dX1_matchSameDay_60 : decode cX1_matchSameDay 60 = .ok (.iload_n 2, 1) := by decide +kernel
theorem dX1_matchSameDay_61 : decode cX1_matchSameDay 61 = .ok (.aload_n 0, 1) := by decide +kernel
theorem dX1_matchSameDay_62 : decode cX1_matchSameDay 62 = .ok (.getfield 21, 3) := by decide +kernel
theorem dX1_matchSameDay_65 : decode cX1_matchSameDay 65 = .ok (.getfield 80, 3) := by decide +kernel
theorem dX1_matchSameDay_68 : decode cX1_matchSameDay 68 = .ok (.iload_n 1, 1) := by decide +kernel
theorem dX1_matchSameDay_69 : decode cX1_matchSameDay 69 = .ok (.iaload, 1) := by decide +kernel
theorem dX1_matchSameDay_70 : decode cX1_matchSameDay 70 = .ok (.invokestatic 91, 3) := by decide +kernel
theorem dX1_matchSameDay_73 : decode cX1_matchSameDay 73 = .ok (.istore 4, 2) := by decide +kernel
theorem dX1_matchSameDay_75 : decode cX1_matchSameDay 75 = .ok (.aload_n 0, 1) := by decide +kernel
theorem dX1_matchSameDay_76 : decode cX1_matchSameDay 76 = .ok (.getfield 28, 3) := by decide +kernel
theorem dX1_matchSameDay_79 : decode cX1_matchSameDay 79 = .ok (.iconst 0, 1) := by decide +kernel
theorem dX1_matchSameDay_80 : decode cX1_matchSameDay 80 = .ok (.aload_n 0, 1) := by decide +kernel
theorem dX1_matchSameDay_81 : decode cX1_matchSameDay 81 = .ok (.getfield 21, 3) := by decide +kernel
theorem dX1_matchSameDay_84 : decode cX1_matchSameDay 84 = .ok (.getfield 98, 3) := by decide +kernel
theorem dX1_matchSameDay_87 : decode cX1_matchSameDay 87 = .ok (.iload_n 1, 1) := by decide +kernel
theorem dX1_matchSameDay_88 : decode cX1_matchSameDay 88 = .ok (.iaload, 1) := by decide +kernel
theorem dX1_matchSameDay_89 : decode cX1_matchSameDay 89 = .ok (.aload_n 0, 1) := by decide +kernel
theorem dX1_matchSameDay_90 : decode cX1_matchSameDay 90 = .ok (.getfield 21, 3) := by decide +kernel
theorem dX1_matchSameDay_93 : decode cX1_matchSameDay 93 = .ok (.getfield 98, 3) := by decide +kernel
theorem dX1_matchSameDay_96 : decode cX1_matchSameDay 96 = .ok (.iload_n 1, 1) := by decide +kernel
theorem dX1_matchSameDay_97 : decode cX1_matchSameDay 97 = .ok (.iaload, 1) := by decide +kernel
theorem dX1_matchSameDay_98 : decode cX1_matchSameDay 98 = .ok (.iload_n 2, 1) := by decide +kernel
theorem dX1_matchSameDay_99 : decode cX1_matchSameDay 99 = .ok (.iload_n 3, 1) := by decide +kernel
theorem dX1_matchSameDay_100 : decode cX1_matchSameDay 100 = .ok (.iload 4, 2) := by decide +kernel
theorem dX1_matchSameDay_102 : decode cX1_matchSameDay 102 = .ok (.invokevirtual 99, 3) := by decide +kernel
theorem dX1_matchSameDay_105 : decode cX1_matchSameDay 105 = .ok (.return_, 1) := by decide +kernel
set_option maxRecDepth 20000 in
theorem ggX1_matchLaterDays_X1_takeBought : GoodIn wsX1_matchLaterDays wsX1_takeBought := goodIn_r _ [11, 1, 12, 13, 14, 31, 32, 33, 34, 35, 36, 37, 38, 39, 40, 41, 42, 43, 44] (by decide +kernel) (by decide +kernel)
set_option maxRecDepth 20000 in
theorem gX1_matchLaterDays_X1_takeBought : GoodIn wsX1_matchLaterDays (wsV RX1 109 RX1 yX1_takeBought wsX1_takeBought) := goodIn_app (goodIn_of _ (by decide +kernel)) ggX1_matchLaterDays_X1_takeBought
set_option maxRecDepth 20000 in
theorem ggX1_matchLaterDays_X1_takeSold : GoodIn wsX1_matchLaterDays wsX1_takeSold := goodIn_r _ [18, 1, 12, 13, 14, 31, 32, 33, 34, 35, 36, 37, 38, 39, 40, 41, 42, 43, 44] (by decide +kernel) (by decide +kernel)
set_option maxRecDepth 20000 in
theorem gX1_matchLaterDays_X1_takeSold : GoodIn wsX1_matchLaterDays (wsV RX1 112 RX1 yX1_takeSold wsX1_takeSold) := goodIn_app (goodIn_of _ (by decide +kernel)) ggX1_matchLaterDays_X1_takeSold
set_option maxRecDepth 20000 in
theorem ggX1_matchLaterDays_X2_add : GoodIn wsX1_matchLaterDays wsX2_add := goodIn_r _ [23, 24, 25, 26, 27, 28, 29, 30, 45, 46, 47, 48, 49, 50, 51] (by decide +kernel) (by decide +kernel)
set_option maxRecDepth 20000 in
theorem gX1_matchLaterDays_X2_add : GoodIn wsX1_matchLaterDays (wsV RX1 99 RX2 yX2_add wsX2_add) := goodIn_app (goodIn_of _ (by decide +kernel)) ggX1_matchLaterDays_X2_add
theorem dX1_matchLaterDays_0 : decode cX1_matchLaterDays 0 = .ok (.aload_n 0, 1) := by decide +kernel
theorem dX1_matchLaterDays_1 : decode cX1_matchLaterDays 1 = .ok (.getfield 21, 3) := by decide +kernel
theorem dX1_matchLaterDays_4 : decode cX1_matchLaterDays 4 = .ok (.getfield 98, 3) := by decide +kernel
theorem dX1_matchLaterDays_7 : decode cX1_matchLaterDays 7 = .ok (.iload_n 1, 1) := by decide +kernel
theorem dX1_matchLaterDays_8 : decode cX1_matchLaterDays 8 = .ok (.iaload, 1) := by decide +kernel
theorem dX1_matchLaterDays_9 : decode cX1_matchLaterDays 9 = .ok (.iload_n 2, 1) := by decide +kernel
theorem dX1_matchLaterDays_10 : decode cX1_matchLaterDays 10 = .ok (.iadd, 1) := by decide +kernel
theorem dX1_matchLaterDays_11 : decode cX1_matchLaterDays 11 = .ok (.istore_n 3, 1) := by decide +kernel
theorem dX1_matchLaterDays_12 : decode cX1_matchLaterDays 12 = .ok (.iload_n 1, 1) := by decide +kernel
theorem dX1_matchLaterDays_13 : decode cX1_matchLaterDays 13 = .ok (.iconst 1, 1) := by decide +kernel
theorem dX1_matchLaterDays_14 : decode cX1_matchLaterDays 14 = .ok (.iadd, 1) := by decide +kernel
theorem dX1_matchLaterDays_15 : decode cX1_matchLaterDays 15 = .ok (.istore 4, 2) := by decide +kernel
theorem dX1_matchLaterDays_17 : decode cX1_matchLaterDays 17 = .ok (.iload 4, 2) := by decide +kernel
theorem dX1_matchLaterDays_19 : decode cX1_matchLaterDays 19 = .ok (.aload_n 0, 1) := by decide +kernel
theorem dX1_matchLaterDays_20 : decode cX1_matchLaterDays 20 = .ok (.getfield 21, 3) := by decide +kernel
theorem dX1_matchLaterDays_23 : decode cX1_matchLaterDays 23 = .ok (.getfield 43, 3) := by decide +kernel
theorem dX1_matchLaterDays_26 : decode cX1_matchLaterDays 26 = .ok (.if_icmp .ge 129, 3) := by decide +kernel
theorem dX1_matchLaterDays_29 : decode cX1_matchLaterDays 29 = .ok (.aload_n 0, 1) := by decide +kernel
theorem dX1_matchLaterDays_30 : decode cX1_matchLaterDays 30 = .ok (.getfield 21, 3) := by decide +kernel
theorem dX1_matchLaterDays_33 : decode cX1_matchLaterDays 33 = .ok (.getfield 98, 3) := by decide +kernel
theorem dX1_matchLaterDays_36 : decode cX1_matchLaterDays 36 = .ok (.iload 4, 2) := by decide +kernel
theorem dX1_matchLaterDays_38 : decode cX1_matchLaterDays 38 = .ok (.iaload, 1) := by decide +kernel
theorem dX1_matchLaterDays_39 : decode cX1_matchLaterDays 39 = .ok (.iload_n 3, 1) := by decide +kernel
theorem dX1_matchLaterDays_40 : decode cX1_matchLaterDays 40 = .ok (.if_icmp .gt 115, 3) := by decide +kernel
theorem dX1_matchLaterDays_43 : decode cX1_matchLaterDays 43 = .ok (.aload_n 0, 1) := by decide +kernel
theorem dX1_matchLaterDays_44 : decode cX1_matchLaterDays 44 = .ok (.getfield 21, 3) := by decide +kernel
theorem dX1_matchLaterDays_47 : decode cX1_matchLaterDays 47 = .ok (.getfield 77, 3) := by decide +kernel
theorem dX1_matchLaterDays_50 : decode cX1_matchLaterDays 50 = .ok (.iload 4, 2) := by decide +kernel
theorem dX1_matchLaterDays_52 : decode cX1_matchLaterDays 52 = .ok (.iaload, 1) := by decide +kernel
theorem dX1_matchLaterDays_53 : decode cX1_matchLaterDays 53 = .ok (.aload_n 0, 1) := by decide +kernel
theorem dX1_matchLaterDays_54 : decode cX1_matchLaterDays 54 = .ok (.getfield 21, 3) := by decide +kernel
theorem dX1_matchLaterDays_57 : decode cX1_matchLaterDays 57 = .ok (.getfield 103, 3) := by decide +kernel
theorem dX1_matchLaterDays_60 : decode cX1_matchLaterDays 60 = .ok (.iload 4, 2) := by decide +kernel
theorem dX1_matchLaterDays_62 : decode cX1_matchLaterDays 62 = .ok (.iaload, 1) := by decide +kernel
theorem dX1_matchLaterDays_63 : decode cX1_matchLaterDays 63 = .ok (.isub, 1) := by decide +kernel
theorem dX1_matchLaterDays_64 : decode cX1_matchLaterDays 64 = .ok (.istore 5, 2) := by decide +kernel
theorem dX1_matchLaterDays_66 : decode cX1_matchLaterDays 66 = .ok (.iload 5, 2) := by decide +kernel
theorem dX1_matchLaterDays_68 : decode cX1_matchLaterDays 68 = .ok (.aload_n 0, 1) := by decide +kernel
theorem dX1_matchLaterDays_69 : decode cX1_matchLaterDays 69 = .ok (.getfield 21, 3) := by decide +kernel
theorem dX1_matchLaterDays_72 : decode cX1_matchLaterDays 72 = .ok (.getfield 80, 3) := by decide +kernel
theorem dX1_matchLaterDays_75 : decode cX1_matchLaterDays 75 = .ok (.iload_n 1, 1) := by decide +kernel
theorem dX1_matchLaterDays_76 : decode cX1_matchLaterDays 76 = .ok (.iaload, 1) := by decide +kernel
theorem dX1_matchLaterDays_77 : decode cX1_matchLaterDays 77 = .ok (.aload_n 0, 1) := by decide +kernel
theorem dX1_matchLaterDays_78 : decode cX1_matchLaterDays 78 = .ok (.getfield 21, 3) := by decide +kernel
theorem dX1_matchLaterDays_81 : decode cX1_matchLaterDays 81 = .ok (.getfield 106, 3) := by decide +kernel
theorem dX1_matchLaterDays_84 : decode cX1_matchLaterDays 84 = .ok (.iload_n 1, 1) := by decide +kernel
theorem dX1_matchLaterDays_85 : decode cX1_matchLaterDays 85 = .ok (.iaload, 1) := by decide +kernel
theorem dX1_matchLaterDays_86 : decode cX1_matchLaterDays 86 = .ok (.isub, 1) := by decide +kernel
theorem dX1_matchLaterDays_87 : decode cX1_matchLaterDays 87 = .ok (.invokestatic 83, 3) := by decide +kernel
theorem dX1_matchLaterDays_90 : decode cX1_matchLaterDays 90 = .ok (.istore 6, 2) := by decide +kernel
theorem dX1_matchLaterDays_92 : decode cX1_matchLaterDays 92 = .ok (.iload 6, 2) := by decide +kernel
theorem dX1_matchLaterDays_94 : decode cX1_matchLaterDays 94 = .ok (.ifCond .le 55, 3) := by decide +kernel
theorem dX1_matchLaterDays_97 : decode cX1_matchLaterDays 97 = .ok (.aload_n 0, 1) := by decide +kernel
theorem dX1_matchLaterDays_98 : decode cX1_matchLaterDays 98 = .ok (.iload 4, 2) := by decide +kernel
theorem dX1_matchLaterDays_100 : decode cX1_matchLaterDays 100 = .ok (.iload 6, 2) := by decide +kernel
theorem dX1_matchLaterDays_102 : decode cX1_matchLaterDays 102 = .ok (.invokevirtual 109, 3) := by decide +kernel
theorem dX1_matchLaterDays_105 : decode cX1_matchLaterDays 105 = .ok (.istore 7, 2) := by decide +kernel
theorem dX1_matchLaterDays_107 : decode cX1_matchLaterDays 107 = .ok (.aload_n 0, 1) := by decide +kernel
theorem dX1_matchLaterDays_108 : decode cX1_matchLaterDays 108 = .ok (.iload_n 1, 1) := by decide +kernel
theorem dX1_matchLaterDays_109 : decode cX1_matchLaterDays 109 = .ok (.iload 6, 2) := by decide +kernel
theorem dX1_matchLaterDays_111 : decode cX1_matchLaterDays 111 = .ok (.invokevirtual 112, 3) := by decide +kernel
theorem dX1_matchLaterDays_114 : decode cX1_matchLaterDays 114 = .ok (.istore 8, 2) := by decide +kernel
theorem dX1_matchLaterDays_116 : decode cX1_matchLaterDays 116 = .ok (.aload_n 0, 1) := by decide +kernel
theorem dX1_matchLaterDays_117 : decode cX1_matchLaterDays 117 = .ok (.getfield 28, 3) := by decide +kernel
theorem dX1_matchLaterDays_120 : decode cX1_matchLaterDays 120 = .ok (.iconst 1, 1) := by decide +kernel
theorem dX1_matchLaterDays_121 : decode cX1_matchLaterDays 121 = .ok (.aload_n 0, 1) := by decide +kernel
theorem dX1_matchLaterDays_122 : decode cX1_matchLaterDays 122 = .ok (.getfield 21, 3) := by decide +kernel
theorem dX1_matchLaterDays_125 : decode cX1_matchLaterDays 125 = .ok (.getfield 98, 3) := by decide +kernel
theorem dX1_matchLaterDays_128 : decode cX1_matchLaterDays 128 = .ok (.iload_n 1, 1) := by decide +kernel
theorem dX1_matchLaterDays_129 : decode cX1_matchLaterDays 129 = .ok (.iaload, 1) := by decide +kernel
theorem dX1_matchLaterDays_130 : decode cX1_matchLaterDays 130 = .ok (.aload_n 0, 1) := by decide +kernel
theorem dX1_matchLaterDays_131 : decode cX1_matchLaterDays 131 = .ok (.getfield 21, 3) := by decide +kernel
theorem dX1_matchLaterDays_134 : decode cX1_matchLaterDays 134 = .ok (.getfield 98, 3) := by decide +kernel
theorem dX1_matchLaterDays_137 : decode cX1_matchLaterDays 137 = .ok (.iload 4, 2) := by decide +kernel
theorem dX1_matchLaterDays_139 : decode cX1_matchLaterDays 139 = .ok (.iaload, 1) := by decide +kernel
theorem dX1_matchLaterDays_140 : decode cX1_matchLaterDays 140 = .ok (.iload 6, 2) := by decide +kernel
theorem dX1_matchLaterDays_142 : decode cX1_matchLaterDays 142 = .ok (.iload 7, 2) := by decide +kernel
theorem dX1_matchLaterDays_144 : decode cX1_matchLaterDays 144 = .ok (.iload 8, 2) := by decide +kernel
theorem dX1_matchLaterDays_146 : decode cX1_matchLaterDays 146 = .ok (.invokevirtual 99, 3) := by decide +kernel
theorem dX1_matchLaterDays_149 : decode cX1_matchLaterDays 149 = .ok (.iinc 4 1, 3) := by decide +kernel
theorem dX1_matchLaterDays_152 : decode cX1_matchLaterDays 152 = .ok (.goto (-135), 3) := by decide +kernel
theorem dX1_matchLaterDays_155 : decode cX1_matchLaterDays 155 = .ok (.return_, 1) := by decide +kernel
set_option maxRecDepth 20000 in
theorem ggX1_pool_X1_takeBought : GoodIn wsX1_pool wsX1_takeBought := goodIn_r _ [7, 1, 8, 9, 10, 27, 28, 29, 30, 31, 32, 33, 34, 35, 36, 37, 38, 39, 40] (by decide +kernel) (by decide +kernel)
set_option maxRecDepth 20000 in
theorem gX1_pool_X1_takeBought : GoodIn wsX1_pool (wsV RX1 109 RX1 yX1_takeBought wsX1_takeBought) := goodIn_app (goodIn_of _ (by decide +kernel)) ggX1_pool_X1_takeBought
set_option maxRecDepth 20000 in
theorem ggX1_pool_X5_part : GoodIn wsX1_pool wsX5_part := goodIn_r _ [10] (by decide +kernel) (by decide +kernel)
set_option maxRecDepth 20000 in
theorem gX1_pool_X5_part_n91 : GoodIn wsX1_pool (wsX5_part) := ggX1_pool_X5_part
set_option maxRecDepth 20000 in
theorem ggX1_pool_X1_takeSold : GoodIn wsX1_pool wsX1_takeSold := goodIn_r _ [14, 1, 8, 9, 10, 27, 28, 29, 30, 31, 32, 33, 34, 35, 36, 37, 38, 39, 40] (by decide +kernel) (by decide +kernel)
set_option maxRecDepth 20000 in
theorem gX1_pool_X1_takeSold : GoodIn wsX1_pool (wsV RX1 112 RX1 yX1_takeSold wsX1_takeSold) := goodIn_app (goodIn_of _ (by decide +kernel)) ggX1_pool_X1_takeSold
set_option maxRecDepth 20000 in
theorem ggX1_pool_X2_add : GoodIn wsX1_pool wsX2_add := goodIn_r _ [19, 20, 21, 22, 23, 24, 25, 26, 41, 42, 43, 44, 45, 46, 47] (by decide +kernel) (by decide +kernel)
set_option maxRecDepth 20000 in
theorem gX1_pool_X2_add : GoodIn wsX1_pool (wsV RX1 99 RX2 yX2_add wsX2_add) := goodIn_app (goodIn_of _ (by decide +kernel)) ggX1_pool_X2_add
theorem dX1_pool_0 : decode cX1_pool 0 = .ok (.iload_n 1, 1) := by decide +kernel
theorem dX1_pool_1 : decode cX1_pool 1 = .ok (.ifCond .le 17, 3) := by decide +kernel
theorem dX1_pool_4 : decode cX1_pool 4 = .ok (.aload_n 0, 1) := by decide +kernel
theorem dX1_pool_5 : decode cX1_pool 5 = .ok (.getfield 21, 3) := by decide +kernel
theorem dX1_pool_8 : decode cX1_pool 8 = .ok (.getfield 115, 3) := by decide +kernel
theorem dX1_pool_11 : decode cX1_pool 11 = .ok (.iload_n 1, 1) := by decide +kernel
theorem dX1_pool_12 : decode cX1_pool 12 = .ok (.iconst 1, 1) := by decide +kernel
theorem dX1_pool_13 : decode cX1_pool 13 = .ok (.isub, 1) := by decide +kernel
theorem dX1_pool_14 : decode cX1_pool 14 = .ok (.iaload, 1) := by decide +kernel
theorem dX1_pool_15 : decode cX1_pool 15 = .ok (.goto 4, 3) := by decide +kernel
theorem dX1_pool_18 : decode cX1_pool 18 = .ok (.iconst 0, 1) := by decide +kernel
theorem dX1_pool_19 : decode cX1_pool 19 = .ok (.istore_n 2, 1) := by decide +kernel
theorem dX1_pool_20 : decode cX1_pool 20 = .ok (.iload_n 1, 1) := by decide +kernel
theorem dX1_pool_21 : decode cX1_pool 21 = .ok (.ifCond .le 17, 3) := by decide +kernel
theorem dX1_pool_24 : decode cX1_pool 24 = .ok (.aload_n 0, 1) := by decide +kernel
theorem dX1_pool_25 : decode cX1_pool 25 = .ok (.getfield 21, 3) := by decide +kernel
theorem dX1_pool_28 : decode cX1_pool 28 = .ok (.getfield 118, 3) := by decide +kernel
theorem dX1_pool_31 : decode cX1_pool 31 = .ok (.iload_n 1, 1) := by decide +kernel
theorem dX1_pool_32 : decode cX1_pool 32 = .ok (.iconst 1, 1) := by decide +kernel
theorem dX1_pool_33 : decode cX1_pool 33 = .ok (.isub, 1) := by decide +kernel
theorem dX1_pool_34 : decode cX1_pool 34 = .ok (.iaload, 1) := by decide +kernel
theorem dX1_pool_35 : decode cX1_pool 35 = .ok (.goto 4, 3) := by decide +kernel
theorem dX1_pool_38 : decode cX1_pool 38 = .ok (.iconst 0, 1) := by decide +kernel
theorem dX1_pool_39 : decode cX1_pool 39 = .ok (.istore_n 3, 1) := by decide +kernel
theorem dX1_pool_40 : decode cX1_pool 40 = .ok (.aload_n 0, 1) := by decide +kernel
theorem dX1_pool_41 : decode cX1_pool 41 = .ok (.getfield 21, 3) := by decide +kernel
theorem dX1_pool_44 : decode cX1_pool 44 = .ok (.getfield 77, 3) := by decide +kernel
theorem dX1_pool_47 : decode cX1_pool 47 = .ok (.iload_n 1, 1) := by decide +kernel
theorem dX1_pool_48 : decode cX1_pool 48 = .ok (.iaload, 1) := by decide +kernel
theorem dX1_pool_49 : decode cX1_pool 49 = .ok (.aload_n 0, 1) := by decide +kernel
theorem dX1_pool_50 : decode cX1_pool 50 = .ok (.getfield 21, 3) := by decide +kernel
theorem dX1_pool_53 : decode cX1_pool 53 = .ok (.getfield 103, 3) := by decide +kernel
theorem dX1_pool_56 : decode cX1_pool 56 = .ok (.iload_n 1, 1) := by decide +kernel
theorem dX1_pool_57 : decode cX1_pool 57 = .ok (.iaload, 1) := by decide +kernel
theorem dX1_pool_58 : decode cX1_pool 58 = .ok (.isub, 1) := by decide +kernel
theorem dX1_pool_59 : decode cX1_pool 59 = .ok (.istore 4, 2) := by decide +kernel
theorem dX1_pool_61 : decode cX1_pool 61 = .ok (.iload_n 2, 1) := by decide +kernel
theorem dX1_pool_62 : decode cX1_pool 62 = .ok (.iload 4, 2) := by decide +kernel
theorem dX1_pool_64 : decode cX1_pool 64 = .ok (.iadd, 1) := by decide +kernel
theorem dX1_pool_65 : decode cX1_pool 65 = .ok (.istore_n 2, 1) := by decide +kernel
theorem dX1_pool_66 : decode cX1_pool 66 = .ok (.iload_n 3, 1) := by decide +kernel
theorem dX1_pool_67 : decode cX1_pool 67 = .ok (.aload_n 0, 1) := by decide +kernel
theorem dX1_pool_68 : decode cX1_pool 68 = .ok (.iload_n 1, 1) := by decide +kernel
theorem dX1_pool_69 : decode cX1_pool 69 = .ok (.iload 4, 2) := by decide +kernel
theorem dX1_pool_71 : decode cX1_pool 71 = .ok (.invokevirtual 109, 3) := by decide +kernel
theorem dX1_pool_74 : decode cX1_pool 74 = .ok (.iadd, 1) := by decide +kernel
theorem dX1_pool_75 : decode cX1_pool 75 = .ok (.istore_n 3, 1) := by decide +kernel
theorem dX1_pool_76 : decode cX1_pool 76 = .ok (.aload_n 0, 1) := by decide +kernel
theorem dX1_pool_77 : decode cX1_pool 77 = .ok (.getfield 21, 3) := by decide +kernel
theorem dX1_pool_80 : decode cX1_pool 80 = .ok (.getfield 80, 3) := by decide +kernel
theorem dX1_pool_83 : decode cX1_pool 83 = .ok (.iload_n 1, 1) := by decide +kernel
theorem dX1_pool_84 : decode cX1_pool 84 = .ok (.iaload, 1) := by decide +kernel
theorem dX1_pool_85 : decode cX1_pool 85 = .ok (.aload_n 0, 1) := by decide +kernel
theorem dX1_pool_86 : decode cX1_pool 86 = .ok (.getfield 21, 3) := by decide +kernel
theorem dX1_pool_89 : decode cX1_pool 89 = .ok (.getfield 106, 3) := by decide +kernel
theorem dX1_pool_92 : decode cX1_pool 92 = .ok (.iload_n 1, 1) := by decide +kernel
theorem dX1_pool_93 : decode cX1_pool 93 = .ok (.iaload, 1) := by decide +kernel
theorem dX1_pool_94 : decode cX1_pool 94 = .ok (.isub, 1) := by decide +kernel
theorem dX1_pool_95 : decode cX1_pool 95 = .ok (.istore 5, 2) := by decide +kernel
theorem dX1_pool_97 : decode cX1_pool 97 = .ok (.iload 5, 2) := by decide +kernel
theorem dX1_pool_99 : decode cX1_pool 99 = .ok (.ifCond .le 52, 3) := by decide +kernel
theorem dX1_pool_102 : decode cX1_pool 102 = .ok (.iload_n 3, 1) := by decide +kernel
theorem dX1_pool_103 : decode cX1_pool 103 = .ok (.iconst 0, 1) := by decide +kernel
theorem dX1_pool_104 : decode cX1_pool 104 = .ok (.iload 5, 2) := by decide +kernel
theorem dX1_pool_106 : decode cX1_pool 106 = .ok (.iload_n 2, 1) := by decide +kernel
theorem dX1_pool_107 : decode cX1_pool 107 = .ok (.invokestatic 91, 3) := by decide +kernel
theorem dX1_pool_110 : decode cX1_pool 110 = .ok (.istore 6, 2) := by decide +kernel
theorem dX1_pool_112 : decode cX1_pool 112 = .ok (.iload_n 2, 1) := by decide +kernel
theorem dX1_pool_113 : decode cX1_pool 113 = .ok (.iload 5, 2) := by decide +kernel
theorem dX1_pool_115 : decode cX1_pool 115 = .ok (.isub, 1) := by decide +kernel
theorem dX1_pool_116 : decode cX1_pool 116 = .ok (.istore_n 2, 1) := by decide +kernel
theorem dX1_pool_117 : decode cX1_pool 117 = .ok (.iload_n 3, 1) := by decide +kernel
theorem dX1_pool_118 : decode cX1_pool 118 = .ok (.iload 6, 2) := by decide +kernel
theorem dX1_pool_120 : decode cX1_pool 120 = .ok (.isub, 1) := by decide +kernel
theorem dX1_pool_121 : decode cX1_pool 121 = .ok (.istore_n 3, 1) := by decide +kernel
theorem dX1_pool_122 : decode cX1_pool 122 = .ok (.aload_n 0, 1) := by decide +kernel
theorem dX1_pool_123 : decode cX1_pool 123 = .ok (.getfield 28, 3) := by decide +kernel
theorem dX1_pool_126 : decode cX1_pool 126 = .ok (.iconst 2, 1) := by decide +kernel
theorem dX1_pool_127 : decode cX1_pool 127 = .ok (.aload_n 0, 1) := by decide +kernel
theorem dX1_pool_128 : decode cX1_pool 128 = .ok (.getfield 21, 3) := by decide +kernel
theorem dX1_pool_131 : decode cX1_pool 131 = .ok (.getfield 98, 3) := by decide +kernel
theorem dX1_pool_134 : decode cX1_pool 134 = .ok (.iload_n 1, 1) := by decide +kernel
theorem dX1_pool_135 : decode cX1_pool 135 = .ok (.iaload, 1) := by decide +kernel
theorem dX1_pool_136 : decode cX1_pool 136 = .ok (.iconst (-1), 1) := by decide +kernel
theorem dX1_pool_137 : decode cX1_pool 137 = .ok (.iload 5, 2) := by decide +kernel
theorem dX1_pool_139 : decode cX1_pool 139 = .ok (.iload 6, 2) := by decide +kernel
theorem dX1_pool_141 : decode cX1_pool 141 = .ok (.aload_n 0, 1) := by decide +kernel
theorem dX1_pool_142 : decode cX1_pool 142 = .ok (.iload_n 1, 1) := by decide +kernel
theorem dX1_pool_143 : decode cX1_pool 143 = .ok (.iload 5, 2) := by decide +kernel
theorem dX1_pool_145 : decode cX1_pool 145 = .ok (.invokevirtual 112, 3) := by decide +kernel
theorem dX1_pool_148 : decode cX1_pool 148 = .ok (.invokevirtual 99, 3) := by decide +kernel
theorem dX1_pool_151 : decode cX1_pool 151 = .ok (.aload_n 0, 1) := by decide +kernel
theorem dX1_pool_152 : decode cX1_pool 152 = .ok (.getfield 21, 3) := by decide +kernel
theorem dX1_pool_155 : decode cX1_pool 155 = .ok (.getfield 115, 3) := by decide +kernel
theorem dX1_pool_158 : decode cX1_pool 158 = .ok (.iload_n 1, 1) := by decide +kernel
theorem dX1_pool_159 : decode cX1_pool 159 = .ok (.iload_n 2, 1) := by decide +kernel
theorem dX1_pool_160 : decode cX1_pool 160 = .ok (.iastore, 1) := by decide +kernel
theorem dX1_pool_161 : decode cX1_pool 161 = .ok (.aload_n 0, 1) := by decide +kernel
theorem dX1_pool_162 : decode cX1_pool 162 = .ok (.getfield 21, 3) := by decide +kernel
theorem dX1_pool_165 : decode cX1_pool 165 = .ok (.getfield 118, 3) := by decide +kernel
theorem dX1_pool_168 : decode cX1_pool 168 = .ok (.iload_n 1, 1) := by decide +kernel
theorem dX1_pool_169 : decode cX1_pool 169 = .ok (.iload_n 3, 1) := by decide +kernel
theorem dX1_pool_170 : decode cX1_pool 170 = .ok (.iastore, 1) := by decide +kernel
theorem dX1_pool_171 : decode cX1_pool 171 = .ok (.return_, 1) := by decide +kernel
set_option maxRecDepth 20000 in
theorem ggX1_takeBought_X5_part : GoodIn wsX1_takeBought wsX5_part := goodIn_r _ [4] (by decide +kernel) (by decide +kernel)
set_option maxRecDepth 20000 in
theorem gX1_takeBought_X5_part_n91 : GoodIn wsX1_takeBought (wsX5_part) := ggX1_takeBought_X5_part
theorem dX1_takeBought_0 : decode cX1_takeBought 0 = .ok (.aload_n 0, 1) := by decide +kernel
theorem dX1_takeBought_1 : decode cX1_takeBought 1 = .ok (.getfield 21, 3) := by decide +kernel
theorem dX1_takeBought_4 : decode cX1_takeBought 4 = .ok (.getfield 103, 3) := by decide +kernel
theorem dX1_takeBought_7 : decode cX1_takeBought 7 = .ok (.iload_n 1, 1) := by decide +kernel
theorem dX1_takeBought_8 : decode cX1_takeBought 8 = .ok (.iaload, 1) := by decide +kernel
theorem dX1_takeBought_9 : decode cX1_takeBought 9 = .ok (.istore_n 3, 1) := by decide +kernel
theorem dX1_takeBought_10 : decode cX1_takeBought 10 = .ok (.aload_n 0, 1) := by decide +kernel
theorem dX1_takeBought_11 : decode cX1_takeBought 11 = .ok (.getfield 21, 3) := by decide +kernel
theorem dX1_takeBought_14 : decode cX1_takeBought 14 = .ok (.getfield 103, 3) := by decide +kernel
theorem dX1_takeBought_17 : decode cX1_takeBought 17 = .ok (.iload_n 1, 1) := by decide +kernel
theorem dX1_takeBought_18 : decode cX1_takeBought 18 = .ok (.iload_n 3, 1) := by decide +kernel
theorem dX1_takeBought_19 : decode cX1_takeBought 19 = .ok (.iload_n 2, 1) := by decide +kernel
theorem dX1_takeBought_20 : decode cX1_takeBought 20 = .ok (.iadd, 1) := by decide +kernel
theorem dX1_takeBought_21 : decode cX1_takeBought 21 = .ok (.iastore, 1) := by decide +kernel
theorem dX1_takeBought_22 : decode cX1_takeBought 22 = .ok (.aload_n 0, 1) := by decide +kernel
theorem dX1_takeBought_23 : decode cX1_takeBought 23 = .ok (.getfield 21, 3) := by decide +kernel
theorem dX1_takeBought_26 : decode cX1_takeBought 26 = .ok (.getfield 88, 3) := by decide +kernel
theorem dX1_takeBought_29 : decode cX1_takeBought 29 = .ok (.iload_n 1, 1) := by decide +kernel
theorem dX1_takeBought_30 : decode cX1_takeBought 30 = .ok (.iaload, 1) := by decide +kernel
theorem dX1_takeBought_31 : decode cX1_takeBought 31 = .ok (.iload_n 3, 1) := by decide +kernel
theorem dX1_takeBought_32 : decode cX1_takeBought 32 = .ok (.iload_n 3, 1) := by decide +kernel
theorem dX1_takeBought_33 : decode cX1_takeBought 33 = .ok (.iload_n 2, 1) := by decide +kernel
theorem dX1_takeBought_34 : decode cX1_takeBought 34 = .ok (.iadd, 1) := by decide +kernel
theorem dX1_takeBought_35 : decode cX1_takeBought 35 = .ok (.aload_n 0, 1) := by decide +kernel
theorem dX1_takeBought_36 : decode cX1_takeBought 36 = .ok (.getfield 21, 3) := by decide +kernel
theorem dX1_takeBought_39 : decode cX1_takeBought 39 = .ok (.getfield 77, 3) := by decide +kernel
theorem dX1_takeBought_42 : decode cX1_takeBought 42 = .ok (.iload_n 1, 1) := by decide +kernel
theorem dX1_takeBought_43 : decode cX1_takeBought 43 = .ok (.iaload, 1) := by decide +kernel
theorem dX1_takeBought_44 : decode cX1_takeBought 44 = .ok (.invokestatic 91, 3) := by decide +kernel
theorem dX1_takeBought_47 : decode cX1_takeBought 47 = .ok (.ireturn, 1) := by decide +kernel
set_option maxRecDepth 20000 in
theorem ggX1_takeSold_X5_part : GoodIn wsX1_takeSold wsX5_part := goodIn_r _ [4] (by decide +kernel) (by decide +kernel)
set_option maxRecDepth 20000 in
theorem gX1_takeSold_X5_part_n91 : GoodIn wsX1_takeSold (wsX5_part) := ggX1_takeSold_X5_part
theorem dX1_takeSold_0 : decode cX1_takeSold 0 = .ok (.aload_n 0, 1) := by decide +kernel
theorem dX1_takeSold_1 : decode cX1_takeSold 1 = .ok (.getfield 21, 3) := by decide +kernel
theorem dX1_takeSold_4 : decode cX1_takeSold 4 = .ok (.getfield 106, 3) := by decide +kernel
theorem dX1_takeSold_7 : decode cX1_takeSold 7 = .ok (.iload_n 1, 1) := by decide +kernel
theorem dX1_takeSold_8 : decode cX1_takeSold 8 = .ok (.iaload, 1) := by decide +kernel
theorem dX1_takeSold_9 : decode cX1_takeSold 9 = .ok (.istore_n 3, 1) := by decide +kernel
theorem dX1_takeSold_10 : decode cX1_takeSold 10 = .ok (.aload_n 0, 1) := by decide +kernel
theorem dX1_takeSold_11 : decode cX1_takeSold 11 = .ok (.getfield 21, 3) := by decide +kernel
theorem dX1_takeSold_14 : decode cX1_takeSold 14 = .ok (.getfield 106, 3) := by decide +kernel
theorem dX1_takeSold_17 : decode cX1_takeSold 17 = .ok (.iload_n 1, 1) := by decide +kernel
theorem dX1_takeSold_18 : decode cX1_takeSold 18 = .ok (.iload_n 3, 1) := by decide +kernel
theorem dX1_takeSold_19 : decode cX1_takeSold 19 = .ok (.iload_n 2, 1) := by decide +kernel
theorem dX1_takeSold_20 : decode cX1_takeSold 20 = .ok (.iadd, 1) := by decide +kernel
theorem dX1_takeSold_21 : decode cX1_takeSold 21 = .ok (.iastore, 1) := by decide +kernel
theorem dX1_takeSold_22 : decode cX1_takeSold 22 = .ok (.aload_n 0, 1) := by decide +kernel
theorem dX1_takeSold_23 : decode cX1_takeSold 23 = .ok (.getfield 21, 3) := by decide +kernel
theorem dX1_takeSold_26 : decode cX1_takeSold 26 = .ok (.getfield 95, 3) := by decide +kernel
theorem dX1_takeSold_29 : decode cX1_takeSold 29 = .ok (.iload_n 1, 1) := by decide +kernel
theorem dX1_takeSold_30 : decode cX1_takeSold 30 = .ok (.iaload, 1) := by decide +kernel
theorem dX1_takeSold_31 : decode cX1_takeSold 31 = .ok (.iload_n 3, 1) := by decide +kernel
theorem dX1_takeSold_32 : decode cX1_takeSold 32 = .ok (.iload_n 3, 1) := by decide +kernel
theorem dX1_takeSold_33 : decode cX1_takeSold 33 = .ok (.iload_n 2, 1) := by decide +kernel
theorem dX1_takeSold_34 : decode cX1_takeSold 34 = .ok (.iadd, 1) := by decide +kernel
theorem dX1_takeSold_35 : decode cX1_takeSold 35 = .ok (.aload_n 0, 1) := by decide +kernel
theorem dX1_takeSold_36 : decode cX1_takeSold 36 = .ok (.getfield 21, 3) := by decide +kernel
theorem dX1_takeSold_39 : decode cX1_takeSold 39 = .ok (.getfield 80, 3) := by decide +kernel
theorem dX1_takeSold_42 : decode cX1_takeSold 42 = .ok (.iload_n 1, 1) := by decide +kernel
theorem dX1_takeSold_43 : decode cX1_takeSold 43 = .ok (.iaload, 1) := by decide +kernel
theorem dX1_takeSold_44 : decode cX1_takeSold 44 = .ok (.invokestatic 91, 3) := by decide +kernel
theorem dX1_takeSold_47 : decode cX1_takeSold 47 = .ok (.ireturn, 1) := by decide +kernel
theorem dX2_init_0 : decode cX2_init 0 = .ok (.aload_n 0, 1) := by decide +kernel
theorem dX2_init_1 : decode cX2_init 1 = .ok (.invokespecial 3, 3) := by decide +kernel
theorem dX2_init_4 : decode cX2_init 4 = .ok (.aload_n 0, 1) := by decide +kernel
theorem dX2_init_5 : decode cX2_init 5 = .ok (.bipush 60, 2) := by decide +kernel
theorem dX2_init_7 : decode cX2_init 7 = .ok (.newarray .int, 2) := by decide +kernel
theorem dX2_init_9 : decode cX2_init 9 = .ok (.putfield 9, 3) := by decide +kernel
theorem dX2_init_12 : decode cX2_init 12 = .ok (.aload_n 0, 1) := by decide +kernel
theorem dX2_init_13 : decode cX2_init 13 = .ok (.bipush 60, 2) := by decide +kernel
theorem dX2_init_15 : decode cX2_init 15 = .ok (.newarray .int, 2) := by decide +kernel
theorem dX2_init_17 : decode cX2_init 17 = .ok (.putfield 15, 3) := by decide +kernel
theorem dX2_init_20 : decode cX2_init 20 = .ok (.aload_n 0, 1) := by decide +kernel
theorem dX2_init_21 : decode cX2_init 21 = .ok (.bipush 60, 2) := by decide +kernel
theorem dX2_init_23 : decode cX2_init 23 = .ok (.newarray .int, 2) := by decide +kernel
theorem dX2_init_25 : decode cX2_init 25 = .ok (.putfield 18, 3) := by decide +kernel
theorem dX2_init_28 : decode cX2_init 28 = .ok (.aload_n 0, 1) := by decide +kernel
theorem dX2_init_29 : decode cX2_init 29 = .ok (.bipush 60, 2) := by decide +kernel
theorem dX2_init_31 : decode cX2_init 31 = .ok (.newarray .int, 2) := by decide +kernel
theorem dX2_init_33 : decode cX2_init 33 = .ok (.putfield 21, 3) := by decide +kernel
theorem dX2_init_36 : decode cX2_init 36 = .ok (.aload_n 0, 1) := by decide +kernel
theorem dX2_init_37 : decode cX2_init 37 = .ok (.bipush 60, 2) := by decide +kernel
theorem dX2_init_39 : decode cX2_init 39 = .ok (.newarray .int, 2) := by decide +kernel
theorem dX2_init_41 : decode cX2_init 41 = .ok (.putfield 24, 3) := by decide +kernel
theorem dX2_init_44 : decode cX2_init 44 = .ok (.aload_n 0, 1) := by decide +kernel
theorem dX2_init_45 : decode cX2_init 45 = .ok (.bipush 60, 2) := by decide +kernel
theorem dX2_init_47 : decode cX2_init 47 = .ok (.newarray .int, 2) := by decide +kernel
theorem dX2_init_49 : decode cX2_init 49 = .ok (.putfield 27, 3) := by decide +kernel
theorem dX2_init_52 : decode cX2_init 52 = .ok (.aload_n 0, 1) := by decide +kernel
theorem dX2_init_53 : decode cX2_init 53 = .ok (.iconst 0, 1) := by decide +kernel
theorem dX2_init_54 : decode cX2_init 54 = .ok (.putfield 30, 3) := by decide +kernel
theorem dX2_init_57 : decode cX2_init 57 = .ok (.return_, 1) := by decide +kernel
theorem dX2_add_0 : decode cX2_add 0 = .ok (.aload_n 0, 1) := by decide +kernel
theorem dX2_add_1 : decode cX2_add 1 = .ok (.getfield 30, 3) := by decide +kernel
theorem dX2_add_4 : decode cX2_add 4 = .ok (.bipush 60, 2) := by decide +kernel
theorem dX2_add_6 : decode cX2_add 6 = .ok (.if_icmp .lt 4, 3) := by decide +kernel
theorem dX2_add_9 : decode cX2_add 9 = .ok (.return_, 1) := by decide +kernel
theorem dX2_add_10 : decode cX2_add 10 = .ok (.aload_n 0, 1) := by decide +kernel
theorem dX2_add_11 : decode cX2_add 11 = .ok (.getfield 9, 3) := by decide +kernel
theorem dX2_add_14 : decode cX2_add 14 = .ok (.aload_n 0, 1) := by decide +kernel
theorem dX2_add_15 : decode cX2_add 15 = .ok (.getfield 30, 3) := by decide +kernel
theorem dX2_add_18 : decode cX2_add 18 = .ok (.iload_n 1, 1) := by decide +kernel
theorem dX2_add_19 : decode cX2_add 19 = .ok (.iastore, 1) := by decide +kernel
theorem dX2_add_20 : decode cX2_add 20 = .ok (.aload_n 0, 1) := by decide +kernel
theorem dX2_add_21 : decode cX2_add 21 = .ok (.getfield 15, 3) := by decide +kernel
theorem dX2_add_24 : decode cX2_add 24 = .ok (.aload_n 0, 1) := by decide +kernel
theorem dX2_add_25 : decode cX2_add 25 = .ok (.getfield 30, 3) := by decide +kernel
theorem dX2_add_28 : decode cX2_add 28 = .ok (.iload_n 2, 1) := by decide +kernel
theorem dX2_add_29 : decode cX2_add 29 = .ok (.iastore, 1) := by decide +kernel
theorem dX2_add_30 : decode cX2_add 30 = .ok (.aload_n 0, 1) := by decide +kernel
theorem dX2_add_31 : decode cX2_add 31 = .ok (.getfield 18, 3) := by decide +kernel
theorem dX2_add_34 : decode cX2_add 34 = .ok (.aload_n 0, 1) := by decide +kernel
theorem dX2_add_35 : decode cX2_add 35 = .ok (.getfield 30, 3) := by decide +kernel
theorem dX2_add_38 : decode cX2_add 38 = .ok (.iload_n 3, 1) := by decide +kernel
theorem dX2_add_39 : decode cX2_add 39 = .ok (.iastore, 1) := by decide +kernel
theorem dX2_add_40 : decode cX2_add 40 = .ok (.aload_n 0, 1) := by decide +kernel
theorem dX2_add_41 : decode cX2_add 41 = .ok (.getfield 21, 3) := by decide +kernel
theorem dX2_add_44 : decode cX2_add 44 = .ok (.aload_n 0, 1) := by decide +kernel
theorem dX2_add_45 : decode cX2_add 45 = .ok (.getfield 30, 3) := by decide +kernel
theorem dX2_add_48 : decode cX2_add 48 = .ok (.iload 4, 2) := by decide +kernel
theorem dX2_add_50 : decode cX2_add 50 = .ok (.iastore, 1) := by decide +kernel
theorem dX2_add_51 : decode cX2_add 51 = .ok (.aload_n 0, 1) := by decide +kernel
theorem dX2_add_52 : decode cX2_add 52 = .ok (.getfield 24, 3) := by decide +kernel
theorem dX2_add_55 : decode cX2_add 55 = .ok (.aload_n 0, 1) := by decide +kernel
theorem dX2_add_56 : decode cX2_add 56 = .ok (.getfield 30, 3) := by decide +kernel
theorem dX2_add_59 : decode cX2_add 59 = .ok (.iload 5, 2) := by decide +kernel
theorem dX2_add_61 : decode cX2_add 61 = .ok (.iastore, 1) := by decide +kernel
theorem dX2_add_62 : decode cX2_add 62 = .ok (.aload_n 0, 1) := by decide +kernel
theorem dX2_add_63 : decode cX2_add 63 = .ok (.getfield 27, 3) := by decide +kernel
theorem dX2_add_66 : decode cX2_add 66 = .ok (.aload_n 0, 1) := by decide +kernel
theorem dX2_add_67 : decode cX2_add 67 = .ok (.getfield 30, 3) := by decide +kernel
theorem dX2_add_70 : decode cX2_add 70 = .ok (.iload 6, 2) := by decide +kernel
theorem dX2_add_72 : decode cX2_add 72 = .ok (.iastore, 1) := by decide +kernel
theorem dX2_add_73 : decode cX2_add 73 = .ok (.aload_n 0, 1) := by decide +kernel
theorem dX2_add_74 : decode cX2_add 74 = .ok (.dup, 1) := by decide +kernel
theorem dX2_add_75 : decode cX2_add 75 = .ok (.getfield 30, 3) := by decide +kernel
theorem dX2_add_78 : decode cX2_add 78 = .ok (.iconst 1, 1) := by decide +kernel
theorem dX2_add_79 : decode cX2_add 79 = .ok (.iadd, 1) := by decide +kernel
theorem dX2_add_80 : decode cX2_add 80 = .ok (.putfield 30, 3) := by decide +kernel
theorem dX2_add_83 : decode cX2_add 83 = .ok (.return_, 1) := by decide +kernel
theorem dX2_costOfAll_0 : decode cX2_costOfAll 0 = .ok (.iconst 0, 1) := by decide +kernel
theorem dX2_costOfAll_1 : decode cX2_costOfAll 1 = .ok (.istore_n 1, 1) := by decide +kernel
theorem dX2_costOfAll_2 : decode cX2_costOfAll 2 = .ok (.iconst 0, 1) := by decide +kernel
theorem dX2_costOfAll_3 : decode cX2_costOfAll 3 = .ok (.istore_n 2, 1) := by decide +kernel
theorem dX2_costOfAll_4 : decode cX2_costOfAll 4 = .ok (.iload_n 2, 1) := by decide +kernel
theorem dX2_costOfAll_5 : decode cX2_costOfAll 5 = .ok (.aload_n 0, 1) := by decide +kernel
theorem dX2_costOfAll_6 : decode cX2_costOfAll 6 = .ok (.getfield 30, 3) := by decide +kernel
theorem dX2_costOfAll_9 : decode cX2_costOfAll 9 = .ok (.if_icmp .ge 18, 3) := by decide +kernel
theorem dX2_costOfAll_12 : decode cX2_costOfAll 12 = .ok (.iload_n 1, 1) := by decide +kernel
theorem dX2_costOfAll_13 : decode cX2_costOfAll 13 = .ok (.aload_n 0, 1) := by decide +kernel
theorem dX2_costOfAll_14 : decode cX2_costOfAll 14 = .ok (.getfield 24, 3) := by decide +kernel
theorem dX2_costOfAll_17 : decode cX2_costOfAll 17 = .ok (.iload_n 2, 1) := by decide +kernel
theorem dX2_costOfAll_18 : decode cX2_costOfAll 18 = .ok (.iaload, 1) := by decide +kernel
theorem dX2_costOfAll_19 : decode cX2_costOfAll 19 = .ok (.iadd, 1) := by decide +kernel
theorem dX2_costOfAll_20 : decode cX2_costOfAll 20 = .ok (.istore_n 1, 1) := by decide +kernel
theorem dX2_costOfAll_21 : decode cX2_costOfAll 21 = .ok (.iinc 2 1, 3) := by decide +kernel
theorem dX2_costOfAll_24 : decode cX2_costOfAll 24 = .ok (.goto (-20), 3) := by decide +kernel
theorem dX2_costOfAll_27 : decode cX2_costOfAll 27 = .ok (.iload_n 1, 1) := by decide +kernel
theorem dX2_costOfAll_28 : decode cX2_costOfAll 28 = .ok (.ireturn, 1) := by decide +kernel
theorem dX2_gainOfYear_0 : decode cX2_gainOfYear 0 = .ok (.iconst 0, 1) := by decide +kernel
theorem dX2_gainOfYear_1 : decode cX2_gainOfYear 1 = .ok (.istore_n 2, 1) := by decide +kernel
theorem dX2_gainOfYear_2 : decode cX2_gainOfYear 2 = .ok (.iconst 0, 1) := by decide +kernel
theorem dX2_gainOfYear_3 : decode cX2_gainOfYear 3 = .ok (.istore_n 3, 1) := by decide +kernel
theorem dX2_gainOfYear_4 : decode cX2_gainOfYear 4 = .ok (.iload_n 3, 1) := by decide +kernel
theorem dX2_gainOfYear_5 : decode cX2_gainOfYear 5 = .ok (.aload_n 0, 1) := by decide +kernel
theorem dX2_gainOfYear_6 : decode cX2_gainOfYear 6 = .ok (.getfield 30, 3) := by decide +kernel
theorem dX2_gainOfYear_9 : decode cX2_gainOfYear 9 = .ok (.if_icmp .ge 39, 3) := by decide +kernel
theorem dX2_gainOfYear_12 : decode cX2_gainOfYear 12 = .ok (.aload_n 0, 1) := by decide +kernel
theorem dX2_gainOfYear_13 : decode cX2_gainOfYear 13 = .ok (.getfield 15, 3) := by decide +kernel
theorem dX2_gainOfYear_16 : decode cX2_gainOfYear 16 = .ok (.iload_n 3, 1) := by decide +kernel
theorem dX2_gainOfYear_17 : decode cX2_gainOfYear 17 = .ok (.iaload, 1) := by decide +kernel
theorem dX2_gainOfYear_18 : decode cX2_gainOfYear 18 = .ok (.sipush 365, 3) := by decide +kernel
theorem dX2_gainOfYear_21 : decode cX2_gainOfYear 21 = .ok (.idiv, 1) := by decide +kernel
theorem dX2_gainOfYear_22 : decode cX2_gainOfYear 22 = .ok (.iload_n 1, 1) := by decide +kernel
theorem dX2_gainOfYear_23 : decode cX2_gainOfYear 23 = .ok (.if_icmp .ne 19, 3) := by decide +kernel
theorem dX2_gainOfYear_26 : decode cX2_gainOfYear 26 = .ok (.iload_n 2, 1) := by decide +kernel
theorem dX2_gainOfYear_27 : decode cX2_gainOfYear 27 = .ok (.aload_n 0, 1) := by decide +kernel
theorem dX2_gainOfYear_28 : decode cX2_gainOfYear 28 = .ok (.getfield 27, 3) := by decide +kernel
theorem dX2_gainOfYear_31 : decode cX2_gainOfYear 31 = .ok (.iload_n 3, 1) := by decide +kernel
theorem dX2_gainOfYear_32 : decode cX2_gainOfYear 32 = .ok (.iaload, 1) := by decide +kernel
theorem dX2_gainOfYear_33 : decode cX2_gainOfYear 33 = .ok (.aload_n 0, 1) := by decide +kernel
theorem dX2_gainOfYear_34 : decode cX2_gainOfYear 34 = .ok (.getfield 24, 3) := by decide +kernel
theorem dX2_gainOfYear_37 : decode cX2_gainOfYear 37 = .ok (.iload_n 3, 1) := by decide +kernel
theorem dX2_gainOfYear_38 : decode cX2_gainOfYear 38 = .ok (.iaload, 1) := by decide +kernel
theorem dX2_gainOfYear_39 : decode cX2_gainOfYear 39 = .ok (.isub, 1) := by decide +kernel
theorem dX2_gainOfYear_40 : decode cX2_gainOfYear 40 = .ok (.iadd, 1) := by decide +kernel
theorem dX2_gainOfYear_41 : decode cX2_gainOfYear 41 = .ok (.istore_n 2, 1) := by decide +kernel
theorem dX2_gainOfYear_42 : decode cX2_gainOfYear 42 = .ok (.iinc 3 1, 3) := by decide +kernel
theorem dX2_gainOfYear_45 : decode cX2_gainOfYear 45 = .ok (.goto (-41), 3) := by decide +kernel
theorem dX2_gainOfYear_48 : decode cX2_gainOfYear 48 = .ok (.iload_n 2, 1) := by decide +kernel
theorem dX2_gainOfYear_49 : decode cX2_gainOfYear 49 = .ok (.ireturn, 1) := by decide +kernel
theorem dX3_init_0 : decode cX3_init 0 = .ok (.aload_n 0, 1) := by decide +kernel
theorem dX3_init_1 : decode cX3_init 1 = .ok (.invokespecial 3, 3) := by decide +kernel
theorem dX3_init_4 : decode cX3_init 4 = .ok (.aload_n 0, 1) := by decide +kernel
theorem dX3_init_5 : decode cX3_init 5 = .ok (.bipush 60, 2) := by decide +kernel
theorem dX3_init_7 : decode cX3_init 7 = .ok (.newarray .int, 2) := by decide +kernel
theorem dX3_init_9 : decode cX3_init 9 = .ok (.putfield 9, 3) := by decide +kernel
theorem dX3_init_12 : decode cX3_init 12 = .ok (.aload_n 0, 1) := by decide +kernel
theorem dX3_init_13 : decode cX3_init 13 = .ok (.bipush 60, 2) := by decide +kernel
theorem dX3_init_15 : decode cX3_init 15 = .ok (.newarray .int, 2) := by decide +kernel
theorem dX3_init_17 : decode cX3_init 17 = .ok (.putfield 15, 3) := by decide +kernel
theorem dX3_init_20 : decode cX3_init 20 = .ok (.aload_n 0, 1) := by decide +kernel
theorem dX3_init_21 : decode cX3_init 21 = .ok (.bipush 60, 2) := by decide +kernel
theorem dX3_init_23 : decode cX3_init 23 = .ok (.newarray .int, 2) := by decide +kernel
theorem dX3_init_25 : decode cX3_init 25 = .ok (.putfield 18, 3) := by decide +kernel
theorem dX3_init_28 : decode cX3_init 28 = .ok (.aload_n 0, 1) := by decide +kernel
theorem dX3_init_29 : decode cX3_init 29 = .ok (.bipush 60, 2) := by decide +kernel
theorem dX3_init_31 : decode cX3_init 31 = .ok (.newarray .int, 2) := by decide +kernel
theorem dX3_init_33 : decode cX3_init 33 = .ok (.putfield 21, 3) := by decide +kernel
theorem dX3_init_36 : decode cX3_init 36 = .ok (.aload_n 0, 1) := by decide +kernel
theorem dX3_init_37 : decode cX3_init 37 = .ok (.bipush 60, 2) := by decide +kernel
theorem dX3_init_39 : decode cX3_init 39 = .ok (.newarray .int, 2) := by decide +kernel
theorem dX3_init_41 : decode cX3_init 41 = .ok (.putfield 24, 3) := by decide +kernel
theorem dX3_init_44 : decode cX3_init 44 = .ok (.aload_n 0, 1) := by decide +kernel
theorem dX3_init_45 : decode cX3_init 45 = .ok (.bipush 60, 2) := by decide +kernel
theorem dX3_init_47 : decode cX3_init 47 = .ok (.newarray .int, 2) := by decide +kernel
theorem dX3_init_49 : decode cX3_init 49 = .ok (.putfield 27, 3) := by decide +kernel
theorem dX3_init_52 : decode cX3_init 52 = .ok (.aload_n 0, 1) := by decide +kernel
theorem dX3_init_53 : decode cX3_init 53 = .ok (.bipush 60, 2) := by decide +kernel
theorem dX3_init_55 : decode cX3_init 55 = .ok (.newarray .int, 2) := by decide +kernel
theorem dX3_init_57 : decode cX3_init 57 = .ok (.putfield 30, 3) := by decide +kernel
theorem dX3_init_60 : decode cX3_init 60 = .ok (.aload_n 0, 1) := by decide +kernel
theorem dX3_init_61 : decode cX3_init 61 = .ok (.bipush 60, 2) := by decide +kernel
theorem dX3_init_63 : decode cX3_init 63 = .ok (.newarray .int, 2) := by decide +kernel
theorem dX3_init_65 : decode cX3_init 65 = .ok (.putfield 33, 3) := by decide +kernel
theorem dX3_init_68 : decode cX3_init 68 = .ok (.aload_n 0, 1) := by decide +kernel
theorem dX3_init_69 : decode cX3_init 69 = .ok (.bipush 60, 2) := by decide +kernel
theorem dX3_init_71 : decode cX3_init 71 = .ok (.newarray .int, 2) := by decide +kernel
theorem dX3_init_73 : decode cX3_init 73 = .ok (.putfield 36, 3) := by decide +kernel
theorem dX3_init_76 : decode cX3_init 76 = .ok (.aload_n 0, 1) := by decide +kernel
theorem dX3_init_77 : decode cX3_init 77 = .ok (.iconst 0, 1) := by decide +kernel
theorem dX3_init_78 : decode cX3_init 78 = .ok (.putfield 39, 3) := by decide +kernel
theorem dX3_init_81 : decode cX3_init 81 = .ok (.return_, 1) := by decide +kernel
set_option maxRecDepth 20000 in
theorem ggX3_fill_X3_openRows : GoodIn wsX3_fill wsX3_openRows := goodIn_r _ [5, 6, 7, 8, 9, 10, 11, 12, 13, 14, 15, 16, 17, 18, 19, 20, 4, 21, 22, 23, 24, 25, 26, 56, 57, 58, 59, 60, 61, 62, 63, 64, 65, 49, 50, 51, 52, 53, 54, 55] (by decide +kernel) (by decide +kernel)
set_option maxRecDepth 20000 in
theorem gX3_fill_X3_openRows : GoodIn wsX3_fill (wsV RX3 43 RX3 yX3_openRows wsX3_openRows) := goodIn_app (goodIn_of _ (by decide +kernel)) ggX3_fill_X3_openRows
set_option maxRecDepth 20000 in
theorem ggX3_fill_X0_counts : GoodIn wsX3_fill wsX0_counts := goodIn_r _ [15, 16, 17, 49, 50, 51, 52, 53, 54, 55] (by decide +kernel) (by decide +kernel)
set_option maxRecDepth 20000 in
theorem gX3_fill_X0_counts : GoodIn wsX3_fill (wsV RX3 50 RX0 yX0_counts wsX0_counts) := goodIn_app (goodIn_of _ (by decide +kernel)) ggX3_fill_X0_counts
set_option maxRecDepth 20000 in
theorem ggX3_fill_X4_factorBetween : GoodIn wsX3_fill wsX4_factorBetween := goodIn_r _ [31, 32, 33, 34, 66, 67, 68] (by decide +kernel) (by decide +kernel)
set_option maxRecDepth 20000 in
theorem gX3_fill_X4_factorBetween : GoodIn wsX3_fill (wsV RX3 58 RX4 yX4_factorBetween wsX4_factorBetween) := goodIn_app (goodIn_of _ (by decide +kernel)) ggX3_fill_X4_factorBetween
set_option maxRecDepth 20000 in
theorem ggX3_fill_X3_addTrade : GoodIn wsX3_fill wsX3_addTrade := goodIn_r _ [38, 9, 10, 7, 8, 23, 24, 25, 4, 26, 6, 22, 49, 50, 51, 52, 53, 54, 55, 56, 57, 58, 59, 60, 61, 62, 63, 64, 65] (by decide +kernel) (by decide +kernel)
set_option maxRecDepth 20000 in
theorem gX3_fill_X3_addTrade : GoodIn wsX3_fill (wsV RX3 64 RX3 yX3_addTrade wsX3_addTrade) := goodIn_app (goodIn_of _ (by decide +kernel)) ggX3_fill_X3_addTrade
set_option maxRecDepth 20000 in
theorem ggX3_fill_X3_setSameDaysAside : GoodIn wsX3_fill wsX3_setSameDaysAside := goodIn_r _ [42, 6, 7, 9, 43, 44, 45, 46, 47, 48, 56, 57, 58, 59, 60, 61, 62, 63, 64, 65] (by decide +kernel) (by decide +kernel)
set_option maxRecDepth 20000 in
theorem gX3_fill_X3_setSameDaysAside : GoodIn wsX3_fill (wsV RX3 68 RX3 yX3_setSameDaysAside wsX3_setSameDaysAside) := goodIn_app (goodIn_of _ (by decide +kernel)) ggX3_fill_X3_setSameDaysAside
theorem dX3_fill_0 : decode cX3_fill 0 = .ok (.aload_n 0, 1) := by decide +kernel
theorem dX3_fill_1 : decode cX3_fill 1 = .ok (.aload_n 1, 1) := by decide +kernel
theorem dX3_fill_2 : decode cX3_fill 2 = .ok (.iload_n 2, 1) := by decide +kernel
theorem dX3_fill_3 : decode cX3_fill 3 = .ok (.invokevirtual 43, 3) := by decide +kernel
theorem dX3_fill_6 : decode cX3_fill 6 = .ok (.iconst 0, 1) := by decide +kernel
theorem dX3_fill_7 : decode cX3_fill 7 = .ok (.istore 4, 2) := by decide +kernel
theorem dX3_fill_9 : decode cX3_fill 9 = .ok (.iload 4, 2) := by decide +kernel
theorem dX3_fill_11 : decode cX3_fill 11 = .ok (.aload_n 1, 1) := by decide +kernel
theorem dX3_fill_12 : decode cX3_fill 12 = .ok (.getfield 47, 3) := by decide +kernel
theorem dX3_fill_15 : decode cX3_fill 15 = .ok (.if_icmp .ge 52, 3) := by decide +kernel
theorem dX3_fill_18 : decode cX3_fill 18 = .ok (.aload_n 1, 1) := by decide +kernel
theorem dX3_fill_19 : decode cX3_fill 19 = .ok (.iload 4, 2) := by decide +kernel
theorem dX3_fill_21 : decode cX3_fill 21 = .ok (.iload_n 2, 1) := by decide +kernel
theorem dX3_fill_22 : decode cX3_fill 22 = .ok (.invokevirtual 50, 3) := by decide +kernel
theorem dX3_fill_25 : decode cX3_fill 25 = .ok (.ifCond .eq 36, 3) := by decide +kernel
theorem dX3_fill_28 : decode cX3_fill 28 = .ok (.aload_n 1, 1) := by decide +kernel
theorem dX3_fill_29 : decode cX3_fill 29 = .ok (.getfield 54, 3) := by decide +kernel
theorem dX3_fill_32 : decode cX3_fill 32 = .ok (.iload 4, 2) := by decide +kernel
theorem dX3_fill_34 : decode cX3_fill 34 = .ok (.iaload, 1) := by decide +kernel
theorem dX3_fill_35 : decode cX3_fill 35 = .ok (.aload_n 3, 1) := by decide +kernel
theorem dX3_fill_36 : decode cX3_fill 36 = .ok (.aload_n 1, 1) := by decide +kernel
theorem dX3_fill_37 : decode cX3_fill 37 = .ok (.getfield 57, 3) := by decide +kernel
theorem dX3_fill_40 : decode cX3_fill 40 = .ok (.iload 4, 2) := by decide +kernel
theorem dX3_fill_42 : decode cX3_fill 42 = .ok (.iaload, 1) := by decide +kernel
theorem dX3_fill_43 : decode cX3_fill 43 = .ok (.sipush 1825, 3) := by decide +kernel
theorem dX3_fill_46 : decode cX3_fill 46 = .ok (.invokevirtual 58, 3) := by decide +kernel
theorem dX3_fill_49 : decode cX3_fill 49 = .ok (.imul, 1) := by decide +kernel
theorem dX3_fill_50 : decode cX3_fill 50 = .ok (.istore 5, 2) := by decide +kernel
theorem dX3_fill_52 : decode cX3_fill 52 = .ok (.aload_n 0, 1) := by decide +kernel
theorem dX3_fill_53 : decode cX3_fill 53 = .ok (.aload_n 1, 1) := by decide +kernel
theorem dX3_fill_54 : decode cX3_fill 54 = .ok (.iload 4, 2) := by decide +kernel
theorem dX3_fill_56 : decode cX3_fill 56 = .ok (.iload 5, 2) := by decide +kernel
theorem dX3_fill_58 : decode cX3_fill 58 = .ok (.invokevirtual 64, 3) := by decide +kernel
theorem dX3_fill_61 : decode cX3_fill 61 = .ok (.iinc 4 1, 3) := by decide +kernel
theorem dX3_fill_64 : decode cX3_fill 64 = .ok (.goto (-55), 3) := by decide +kernel
theorem dX3_fill_67 : decode cX3_fill 67 = .ok (.aload_n 0, 1) := by decide +kernel
theorem dX3_fill_68 : decode cX3_fill 68 = .ok (.invokevirtual 68, 3) := by decide +kernel
theorem dX3_fill_71 : decode cX3_fill 71 = .ok (.return_, 1) := by decide +kernel
set_option maxRecDepth 20000 in
theorem ggX3_openRows_X0_counts : GoodIn wsX3_openRows wsX0_counts := goodIn_r _ [10, 11, 12, 33, 34, 35, 36, 37, 38, 39] (by decide +kernel) (by decide +kernel)
set_option maxRecDepth 20000 in
theorem gX3_openRows_X0_counts : GoodIn wsX3_openRows (wsV RX3 50 RX0 yX0_counts wsX0_counts) := goodIn_app (goodIn_of _ (by decide +kernel)) ggX3_openRows_X0_counts
set_option maxRecDepth 20000 in
theorem ggX3_openRows_X3_openRow : GoodIn wsX3_openRows wsX3_openRow := goodIn_r _ [17, 1, 18, 19, 20, 21, 16, 22, 23, 24, 25, 26, 27, 28, 29, 30, 31, 32] (by decide +kernel) (by decide +kernel)
set_option maxRecDepth 20000 in
theorem gX3_openRows_X3_openRow : GoodIn wsX3_openRows (wsV RX3 71 RX3 yX3_openRow wsX3_openRow) := goodIn_app (goodIn_of _ (by decide +kernel)) ggX3_openRows_X3_openRow
theorem dX3_openRows_0 : decode cX3_openRows 0 = .ok (.aload_n 0, 1) := by decide +kernel
theorem dX3_openRows_1 : decode cX3_openRows 1 = .ok (.iconst 0, 1) := by decide +kernel
theorem dX3_openRows_2 : decode cX3_openRows 2 = .ok (.putfield 39, 3) := by decide +kernel
theorem dX3_openRows_5 : decode cX3_openRows 5 = .ok (.iconst 0, 1) := by decide +kernel
theorem dX3_openRows_6 : decode cX3_openRows 6 = .ok (.istore_n 3, 1) := by decide +kernel
theorem dX3_openRows_7 : decode cX3_openRows 7 = .ok (.iload_n 3, 1) := by decide +kernel
theorem dX3_openRows_8 : decode cX3_openRows 8 = .ok (.aload_n 1, 1) := by decide +kernel
theorem dX3_openRows_9 : decode cX3_openRows 9 = .ok (.getfield 47, 3) := by decide +kernel
theorem dX3_openRows_12 : decode cX3_openRows 12 = .ok (.if_icmp .ge 28, 3) := by decide +kernel
theorem dX3_openRows_15 : decode cX3_openRows 15 = .ok (.aload_n 1, 1) := by decide +kernel
theorem dX3_openRows_16 : decode cX3_openRows 16 = .ok (.iload_n 3, 1) := by decide +kernel
theorem dX3_openRows_17 : decode cX3_openRows 17 = .ok (.iload_n 2, 1) := by decide +kernel
theorem dX3_openRows_18 : decode cX3_openRows 18 = .ok (.invokevirtual 50, 3) := by decide +kernel
theorem dX3_openRows_21 : decode cX3_openRows 21 = .ok (.ifCond .eq 13, 3) := by decide +kernel
theorem dX3_openRows_24 : decode cX3_openRows 24 = .ok (.aload_n 0, 1) := by decide +kernel
theorem dX3_openRows_25 : decode cX3_openRows 25 = .ok (.aload_n 1, 1) := by decide +kernel
theorem dX3_openRows_26 : decode cX3_openRows 26 = .ok (.getfield 57, 3) := by decide +kernel
theorem dX3_openRows_29 : decode cX3_openRows 29 = .ok (.iload_n 3, 1) := by decide +kernel
theorem dX3_openRows_30 : decode cX3_openRows 30 = .ok (.iaload, 1) := by decide +kernel
theorem dX3_openRows_31 : decode cX3_openRows 31 = .ok (.invokevirtual 71, 3) := by decide +kernel
theorem dX3_openRows_34 : decode cX3_openRows 34 = .ok (.iinc 3 1, 3) := by decide +kernel
theorem dX3_openRows_37 : decode cX3_openRows 37 = .ok (.goto (-30), 3) := by decide +kernel
theorem dX3_openRows_40 : decode cX3_openRows 40 = .ok (.iconst 0, 1) := by decide +kernel
theorem dX3_openRows_41 : decode cX3_openRows 41 = .ok (.istore_n 3, 1) := by decide +kernel
theorem dX3_openRows_42 : decode cX3_openRows 42 = .ok (.iload_n 3, 1) := by decide +kernel
theorem dX3_openRows_43 : decode cX3_openRows 43 = .ok (.aload_n 0, 1) := by decide +kernel
theorem dX3_openRows_44 : decode cX3_openRows 44 = .ok (.getfield 39, 3) := by decide +kernel
theorem dX3_openRows_47 : decode cX3_openRows 47 = .ok (.if_icmp .ge 37, 3) := by decide +kernel
theorem dX3_openRows_50 : decode cX3_openRows 50 = .ok (.aload_n 0, 1) := by decide +kernel
theorem dX3_openRows_51 : decode cX3_openRows 51 = .ok (.getfield 15, 3) := by decide +kernel
theorem dX3_openRows_54 : decode cX3_openRows 54 = .ok (.iload_n 3, 1) := by decide +kernel
theorem dX3_openRows_55 : decode cX3_openRows 55 = .ok (.iconst 0, 1) := by decide +kernel
theorem dX3_openRows_56 : decode cX3_openRows 56 = .ok (.iastore, 1) := by decide +kernel
theorem dX3_openRows_57 : decode cX3_openRows 57 = .ok (.aload_n 0, 1) := by decide +kernel
theorem dX3_openRows_58 : decode cX3_openRows 58 = .ok (.getfield 21, 3) := by decide +kernel
theorem dX3_openRows_61 : decode cX3_openRows 61 = .ok (.iload_n 3, 1) := by decide +kernel
theorem dX3_openRows_62 : decode cX3_openRows 62 = .ok (.iconst 0, 1) := by decide +kernel
theorem dX3_openRows_63 : decode cX3_openRows 63 = .ok (.iastore, 1) := by decide +kernel
theorem dX3_openRows_64 : decode cX3_openRows 64 = .ok (.aload_n 0, 1) := by decide +kernel
theorem dX3_openRows_65 : decode cX3_openRows 65 = .ok (.getfield 24, 3) := by decide +kernel
theorem dX3_openRows_68 : decode cX3_openRows 68 = .ok (.iload_n 3, 1) := by decide +kernel
theorem dX3_openRows_69 : decode cX3_openRows 69 = .ok (.iconst 0, 1) := by decide +kernel
theorem dX3_openRows_70 : decode cX3_openRows 70 = .ok (.iastore, 1) := by decide +kernel
theorem dX3_openRows_71 : decode cX3_openRows 71 = .ok (.aload_n 0, 1) := by decide +kernel
theorem dX3_openRows_72 : decode cX3_openRows 72 = .ok (.getfield 30, 3) := by decide +kernel
theorem dX3_openRows_75 : decode cX3_openRows 75 = .ok (.iload_n 3, 1) := by decide +kernel
theorem dX3_openRows_76 : decode cX3_openRows 76 = .ok (.iconst 0, 1) := by decide +kernel
theorem dX3_openRows_77 : decode cX3_openRows 77 = .ok (.iastore, 1) := by decide +kernel
theorem dX3_openRows_78 : decode cX3_openRows 78 = .ok (.iinc 3 1, 3) := by decide +kernel
theorem dX3_openRows_81 : decode cX3_openRows 81 = .ok (.goto (-39), 3) := by decide +kernel
theorem dX3_openRows_84 : decode cX3_openRows 84 = .ok (.return_, 1) := by decide +kernel
set_option maxRecDepth 20000 in
theorem ggX3_openRow_X3_lastRowUpTo : GoodIn wsX3_openRow wsX3_lastRowUpTo := goodIn_r _ [7, 1, 2, 8, 9, 10, 11, 12, 13, 14, 15, 16, 17] (by decide +kernel) (by decide +kernel)
set_option maxRecDepth 20000 in
theorem gX3_openRow_X3_lastRowUpTo : GoodIn wsX3_openRow (wsV RX3 75 RX3 yX3_lastRowUpTo wsX3_lastRowUpTo) := goodIn_app (goodIn_of _ (by decide +kernel)) ggX3_openRow_X3_lastRowUpTo
theorem dX3_openRow_0 : decode cX3_openRow 0 = .ok (.aload_n 0, 1) := by decide +kernel
theorem dX3_openRow_1 : decode cX3_openRow 1 = .ok (.iload_n 1, 1) := by decide +kernel
theorem dX3_openRow_2 : decode cX3_openRow 2 = .ok (.invokevirtual 75, 3) := by decide +kernel
theorem dX3_openRow_5 : decode cX3_openRow 5 = .ok (.istore_n 2, 1) := by decide +kernel
theorem dX3_openRow_6 : decode cX3_openRow 6 = .ok (.aload_n 0, 1) := by decide +kernel
theorem dX3_openRow_7 : decode cX3_openRow 7 = .ok (.getfield 39, 3) := by decide +kernel
theorem dX3_openRow_10 : decode cX3_openRow 10 = .ok (.bipush 60, 2) := by decide +kernel
theorem dX3_openRow_12 : decode cX3_openRow 12 = .ok (.if_icmp .ge 17, 3) := by decide +kernel
theorem dX3_openRow_15 : decode cX3_openRow 15 = .ok (.iload_n 2, 1) := by decide +kernel
theorem dX3_openRow_16 : decode cX3_openRow 16 = .ok (.ifCond .lt 14, 3) := by decide +kernel
theorem dX3_openRow_19 : decode cX3_openRow 19 = .ok (.aload_n 0, 1) := by decide +kernel
theorem dX3_openRow_20 : decode cX3_openRow 20 = .ok (.getfield 9, 3) := by decide +kernel
theorem dX3_openRow_23 : decode cX3_openRow 23 = .ok (.iload_n 2, 1) := by decide +kernel
theorem dX3_openRow_24 : decode cX3_openRow 24 = .ok (.iaload, 1) := by decide +kernel
theorem dX3_openRow_25 : decode cX3_openRow 25 = .ok (.iload_n 1, 1) := by decide +kernel
theorem dX3_openRow_26 : decode cX3_openRow 26 = .ok (.if_icmp .ne 4, 3) := by decide +kernel
theorem dX3_openRow_29 : decode cX3_openRow 29 = .ok (.return_, 1) := by decide +kernel
theorem dX3_openRow_30 : decode cX3_openRow 30 = .ok (.aload_n 0, 1) := by decide +kernel
theorem dX3_openRow_31 : decode cX3_openRow 31 = .ok (.getfield 39, 3) := by decide +kernel
theorem dX3_openRow_34 : decode cX3_openRow 34 = .ok (.istore_n 3, 1) := by decide +kernel
theorem dX3_openRow_35 : decode cX3_openRow 35 = .ok (.iload_n 3, 1) := by decide +kernel
theorem dX3_openRow_36 : decode cX3_openRow 36 = .ok (.iload_n 2, 1) := by decide +kernel
theorem dX3_openRow_37 : decode cX3_openRow 37 = .ok (.iconst 1, 1) := by decide +kernel
theorem dX3_openRow_38 : decode cX3_openRow 38 = .ok (.iadd, 1) := by decide +kernel
theorem dX3_openRow_39 : decode cX3_openRow 39 = .ok (.if_icmp .le 23, 3) := by decide +kernel
theorem dX3_openRow_42 : decode cX3_openRow 42 = .ok (.aload_n 0, 1) := by decide +kernel
theorem dX3_openRow_43 : decode cX3_openRow 43 = .ok (.getfield 9, 3) := by decide +kernel
theorem dX3_openRow_46 : decode cX3_openRow 46 = .ok (.iload_n 3, 1) := by decide +kernel
theorem dX3_openRow_47 : decode cX3_openRow 47 = .ok (.aload_n 0, 1) := by decide +kernel
theorem dX3_openRow_48 : decode cX3_openRow 48 = .ok (.getfield 9, 3) := by decide +kernel
theorem dX3_openRow_51 : decode cX3_openRow 51 = .ok (.iload_n 3, 1) := by decide +kernel
theorem dX3_openRow_52 : decode cX3_openRow 52 = .ok (.iconst 1, 1) := by decide +kernel
theorem dX3_openRow_53 : decode cX3_openRow 53 = .ok (.isub, 1) := by decide +kernel
theorem dX3_openRow_54 : decode cX3_openRow 54 = .ok (.iaload, 1) := by decide +kernel
theorem dX3_openRow_55 : decode cX3_openRow 55 = .ok (.iastore, 1) := by decide +kernel
theorem dX3_openRow_56 : decode cX3_openRow 56 = .ok (.iinc 3 (-1), 3) := by decide +kernel
theorem dX3_openRow_59 : decode cX3_openRow 59 = .ok (.goto (-24), 3) := by decide +kernel
theorem dX3_openRow_62 : decode cX3_openRow 62 = .ok (.aload_n 0, 1) := by decide +kernel
theorem dX3_openRow_63 : decode cX3_openRow 63 = .ok (.getfield 9, 3) := by decide +kernel
theorem dX3_openRow_66 : decode cX3_openRow 66 = .ok (.iload_n 2, 1) := by decide +kernel
theorem dX3_openRow_67 : decode cX3_openRow 67 = .ok (.iconst 1, 1) := by decide +kernel
theorem dX3_openRow_68 : decode cX3_openRow 68 = .ok (.iadd, 1) := by decide +kernel
theorem dX3_openRow_69 : decode cX3_openRow 69 = .ok (.iload_n 1, 1) := by decide +kernel
theorem dX3_openRow_70 : decode cX3_openRow 70 = .ok (.iastore, 1) := by decide +kernel
theorem dX3_openRow_71 : decode cX3_openRow 71 = .ok (.aload_n 0, 1) := by decide +kernel
theorem dX3_openRow_72 : decode cX3_openRow 72 = .ok (.dup, 1) := by decide +kernel
theorem dX3_openRow_73 : decode cX3_openRow 73 = .ok (.getfield 39, 3) := by decide +kernel
theorem dX3_openRow_76 : decode cX3_openRow 76 = .ok (.iconst 1, 1) := by decide +kernel
theorem dX3_openRow_77 : decode cX3_openRow 77 = .ok (.iadd, 1) := by decide +kernel
theorem dX3_openRow_78 : decode cX3_openRow 78 = .ok (.putfield 39, 3) := by decide +kernel
theorem dX3_openRow_81 : decode cX3_openRow 81 = .ok (.return_, 1) := by decide +kernel
set_option maxRecDepth 20000 in
theorem ggX3_addTrade_X3_lastRowUpTo : GoodIn wsX3_addTrade wsX3_lastRowUpTo := goodIn_r _ [9, 10, 11, 19, 20, 21, 22, 23, 24, 25, 26, 27, 28] (by decide +kernel) (by decide +kernel)
set_option maxRecDepth 20000 in
theorem gX3_addTrade_X3_lastRowUpTo : GoodIn wsX3_addTrade (wsV RX3 75 RX3 yX3_lastRowUpTo wsX3_lastRowUpTo) := goodIn_app (goodIn_of _ (by decide +kernel)) ggX3_addTrade_X3_lastRowUpTo
theorem dX3_addTrade_0 : decode cX3_addTrade 0 = .ok (.aload_n 0, 1) := by decide +kernel
theorem dX3_addTrade_1 : decode cX3_addTrade 1 = .ok (.aload_n 1, 1) := by decide +kernel
theorem dX3_addTrade_2 : decode cX3_addTrade 2 = .ok (.getfield 57, 3) := by decide +kernel
theorem dX3_addTrade_5 : decode cX3_addTrade 5 = .ok (.iload_n 2, 1) := by decide +kernel
theorem dX3_addTrade_6 : decode cX3_addTrade 6 = .ok (.iaload, 1) := by decide +kernel
theorem dX3_addTrade_7 : decode cX3_addTrade 7 = .ok (.invokevirtual 75, 3) := by decide +kernel
theorem dX3_addTrade_10 : decode cX3_addTrade 10 = .ok (.istore 4, 2) := by decide +kernel
theorem dX3_addTrade_12 : decode cX3_addTrade 12 = .ok (.iload 4, 2) := by decide +kernel
theorem dX3_addTrade_14 : decode cX3_addTrade 14 = .ok (.ifCond .ge 4, 3) := by decide +kernel
theorem dX3_addTrade_17 : decode cX3_addTrade 17 = .ok (.return_, 1) := by decide +kernel
theorem dX3_addTrade_18 : decode cX3_addTrade 18 = .ok (.aload_n 1, 1) := by decide +kernel
theorem dX3_addTrade_19 : decode cX3_addTrade 19 = .ok (.getfield 79, 3) := by decide +kernel
theorem dX3_addTrade_22 : decode cX3_addTrade 22 = .ok (.iload_n 2, 1) := by decide +kernel
theorem dX3_addTrade_23 : decode cX3_addTrade 23 = .ok (.baload, 1) := by decide +kernel
theorem dX3_addTrade_24 : decode cX3_addTrade 24 = .ok (.ifCond .eq 33, 3) := by decide +kernel
theorem dX3_addTrade_27 : decode cX3_addTrade 27 = .ok (.aload_n 0, 1) := by decide +kernel
theorem dX3_addTrade_28 : decode cX3_addTrade 28 = .ok (.getfield 24, 3) := by decide +kernel
theorem dX3_addTrade_31 : decode cX3_addTrade 31 = .ok (.iload 4, 2) := by decide +kernel
theorem dX3_addTrade_33 : decode cX3_addTrade 33 = .ok (.dup2, 1) := by decide +kernel
theorem dX3_addTrade_34 : decode cX3_addTrade 34 = .ok (.iaload, 1) := by decide +kernel
theorem dX3_addTrade_35 : decode cX3_addTrade 35 = .ok (.iload_n 3, 1) := by decide +kernel
theorem dX3_addTrade_36 : decode cX3_addTrade 36 = .ok (.iadd, 1) := by decide +kernel
theorem dX3_addTrade_37 : decode cX3_addTrade 37 = .ok (.iastore, 1) := by decide +kernel
theorem dX3_addTrade_38 : decode cX3_addTrade 38 = .ok (.aload_n 0, 1) := by decide +kernel
theorem dX3_addTrade_39 : decode cX3_addTrade 39 = .ok (.getfield 30, 3) := by decide +kernel
theorem dX3_addTrade_42 : decode cX3_addTrade 42 = .ok (.iload 4, 2) := by decide +kernel
theorem dX3_addTrade_44 : decode cX3_addTrade 44 = .ok (.dup2, 1) := by decide +kernel
theorem dX3_addTrade_45 : decode cX3_addTrade 45 = .ok (.iaload, 1) := by decide +kernel
theorem dX3_addTrade_46 : decode cX3_addTrade 46 = .ok (.aload_n 1, 1) := by decide +kernel
theorem dX3_addTrade_47 : decode cX3_addTrade 47 = .ok (.getfield 83, 3) := by decide +kernel
theorem dX3_addTrade_50 : decode cX3_addTrade 50 = .ok (.iload_n 2, 1) := by decide +kernel
theorem dX3_addTrade_51 : decode cX3_addTrade 51 = .ok (.iaload, 1) := by decide +kernel
theorem dX3_addTrade_52 : decode cX3_addTrade 52 = .ok (.iadd, 1) := by decide +kernel
theorem dX3_addTrade_53 : decode cX3_addTrade 53 = .ok (.iastore, 1) := by decide +kernel
theorem dX3_addTrade_54 : decode cX3_addTrade 54 = .ok (.goto 30, 3) := by decide +kernel
theorem dX3_addTrade_57 : decode cX3_addTrade 57 = .ok (.aload_n 0, 1) := by decide +kernel
theorem dX3_addTrade_58 : decode cX3_addTrade 58 = .ok (.getfield 15, 3) := by decide +kernel
theorem dX3_addTrade_61 : decode cX3_addTrade 61 = .ok (.iload 4, 2) := by decide +kernel
theorem dX3_addTrade_63 : decode cX3_addTrade 63 = .ok (.dup2, 1) := by decide +kernel
theorem dX3_addTrade_64 : decode cX3_addTrade 64 = .ok (.iaload, 1) := by decide +kernel
theorem dX3_addTrade_65 : decode cX3_addTrade 65 = .ok (.iload_n 3, 1) := by decide +kernel
theorem dX3_addTrade_66 : decode cX3_addTrade 66 = .ok (.iadd, 1) := by decide +kernel
theorem dX3_addTrade_67 : decode cX3_addTrade 67 = .ok (.iastore, 1) := by decide +kernel
theorem dX3_addTrade_68 : decode cX3_addTrade 68 = .ok (.aload_n 0, 1) := by decide +kernel
theorem dX3_addTrade_69 : decode cX3_addTrade 69 = .ok (.getfield 21, 3) := by decide +kernel
theorem dX3_addTrade_72 : decode cX3_addTrade 72 = .ok (.iload 4, 2) := by decide +kernel
theorem dX3_addTrade_74 : decode cX3_addTrade 74 = .ok (.dup2, 1) := by decide +kernel
theorem dX3_addTrade_75 : decode cX3_addTrade 75 = .ok (.iaload, 1) := by decide +kernel
theorem dX3_addTrade_76 : decode cX3_addTrade 76 = .ok (.aload_n 1, 1) := by decide +kernel
theorem dX3_addTrade_77 : decode cX3_addTrade 77 = .ok (.getfield 83, 3) := by decide +kernel
theorem dX3_addTrade_80 : decode cX3_addTrade 80 = .ok (.iload_n 2, 1) := by decide +kernel
theorem dX3_addTrade_81 : decode cX3_addTrade 81 = .ok (.iaload, 1) := by decide +kernel
theorem dX3_addTrade_82 : decode cX3_addTrade 82 = .ok (.iadd, 1) := by decide +kernel
theorem dX3_addTrade_83 : decode cX3_addTrade 83 = .ok (.iastore, 1) := by decide +kernel
theorem dX3_addTrade_84 : decode cX3_addTrade 84 = .ok (.return_, 1) := by decide +kernel
theorem dX3_setSameDaysAside_0 : decode cX3_setSameDaysAside 0 = .ok (.iconst 0, 1) := by decide +kernel
theorem dX3_setSameDaysAside_1 : decode cX3_setSameDaysAside 1 = .ok (.istore_n 1, 1) := by decide +kernel
theorem dX3_setSameDaysAside_2 : decode cX3_setSameDaysAside 2 = .ok (.iload_n 1, 1) := by decide +kernel
theorem dX3_setSameDaysAside_3 : decode cX3_setSameDaysAside 3 = .ok (.aload_n 0, 1) := by decide +kernel
theorem dX3_setSameDaysAside_4 : decode cX3_setSameDaysAside 4 = .ok (.getfield 39, 3) := by decide +kernel
theorem dX3_setSameDaysAside_7 : decode cX3_setSameDaysAside 7 = .ok (.if_icmp .ge 39, 3) := by decide +kernel
theorem dX3_setSameDaysAside_10 : decode cX3_setSameDaysAside 10 = .ok (.aload_n 0, 1) := by decide +kernel
theorem dX3_setSameDaysAside_11 : decode cX3_setSameDaysAside 11 = .ok (.getfield 15, 3) := by decide +kernel
theorem dX3_setSameDaysAside_14 : decode cX3_setSameDaysAside 14 = .ok (.iload_n 1, 1) := by decide +kernel
theorem dX3_setSameDaysAside_15 : decode cX3_setSameDaysAside 15 = .ok (.iaload, 1) := by decide +kernel
theorem dX3_setSameDaysAside_16 : decode cX3_setSameDaysAside 16 = .ok (.aload_n 0, 1) := by decide +kernel
theorem dX3_setSameDaysAside_17 : decode cX3_setSameDaysAside 17 = .ok (.getfield 24, 3) := by decide +kernel
theorem dX3_setSameDaysAside_20 : decode cX3_setSameDaysAside 20 = .ok (.iload_n 1, 1) := by decide +kernel
theorem dX3_setSameDaysAside_21 : decode cX3_setSameDaysAside 21 = .ok (.iaload, 1) := by decide +kernel
theorem dX3_setSameDaysAside_22 : decode cX3_setSameDaysAside 22 = .ok (.invokestatic 86, 3) := by decide +kernel
theorem dX3_setSameDaysAside_25 : decode cX3_setSameDaysAside 25 = .ok (.istore_n 2, 1) := by decide +kernel
theorem dX3_setSameDaysAside_26 : decode cX3_setSameDaysAside 26 = .ok (.aload_n 0, 1) := by decide +kernel
theorem dX3_setSameDaysAside_27 : decode cX3_setSameDaysAside 27 = .ok (.getfield 18, 3) := by decide +kernel
theorem dX3_setSameDaysAside_30 : decode cX3_setSameDaysAside 30 = .ok (.iload_n 1, 1) := by decide +kernel
theorem dX3_setSameDaysAside_31 : decode cX3_setSameDaysAside 31 = .ok (.iload_n 2, 1) := by decide +kernel
theorem dX3_setSameDaysAside_32 : decode cX3_setSameDaysAside 32 = .ok (.iastore, 1) := by decide +kernel
theorem dX3_setSameDaysAside_33 : decode cX3_setSameDaysAside 33 = .ok (.aload_n 0, 1) := by decide +kernel
theorem dX3_setSameDaysAside_34 : decode cX3_setSameDaysAside 34 = .ok (.getfield 27, 3) := by decide +kernel
theorem dX3_setSameDaysAside_37 : decode cX3_setSameDaysAside 37 = .ok (.iload_n 1, 1) := by decide +kernel
theorem dX3_setSameDaysAside_38 : decode cX3_setSameDaysAside 38 = .ok (.iload_n 2, 1) := by decide +kernel
theorem dX3_setSameDaysAside_39 : decode cX3_setSameDaysAside 39 = .ok (.iastore, 1) := by decide +kernel
theorem dX3_setSameDaysAside_40 : decode cX3_setSameDaysAside 40 = .ok (.iinc 1 1, 3) := by decide +kernel
theorem dX3_setSameDaysAside_43 : decode cX3_setSameDaysAside 43 = .ok (.goto (-41), 3) := by decide +kernel
theorem dX3_setSameDaysAside_46 : decode cX3_setSameDaysAside 46 = .ok (.return_, 1) := by decide +kernel
theorem dX3_lastRowUpTo_0 : decode cX3_lastRowUpTo 0 = .ok (.iconst (-1), 1) := by decide +kernel
theorem dX3_lastRowUpTo_1 : decode cX3_lastRowUpTo 1 = .ok (.istore_n 2, 1) := by decide +kernel
theorem dX3_lastRowUpTo_2 : decode cX3_lastRowUpTo 2 = .ok (.iconst 0, 1) := by decide +kernel
theorem dX3_lastRowUpTo_3 : decode cX3_lastRowUpTo 3 = .ok (.istore_n 3, 1) := by decide +kernel
theorem dX3_lastRowUpTo_4 : decode cX3_lastRowUpTo 4 = .ok (.iload_n 3, 1) := by decide +kernel
theorem dX3_lastRowUpTo_5 : decode cX3_lastRowUpTo 5 = .ok (.aload_n 0, 1) := by decide +kernel
theorem dX3_lastRowUpTo_6 : decode cX3_lastRowUpTo 6 = .ok (.getfield 39, 3) := by decide +kernel
theorem dX3_lastRowUpTo_9 : decode cX3_lastRowUpTo 9 = .ok (.if_icmp .ge 21, 3) := by decide +kernel
theorem dX3_lastRowUpTo_12 : decode cX3_lastRowUpTo 12 = .ok (.aload_n 0, 1) := by decide +kernel
theorem dX3_lastRowUpTo_13 : decode cX3_lastRowUpTo 13 = .ok (.getfield 9, 3) := by decide +kernel
theorem dX3_lastRowUpTo_16 : decode cX3_lastRowUpTo 16 = .ok (.iload_n 3, 1) := by decide +kernel
theorem dX3_lastRowUpTo_17 : decode cX3_lastRowUpTo 17 = .ok (.iaload, 1) := by decide +kernel
theorem dX3_lastRowUpTo_18 : decode cX3_lastRowUpTo 18 = .ok (.iload_n 1, 1) := by decide +kernel
theorem dX3_lastRowUpTo_19 : decode cX3_lastRowUpTo 19 = .ok (.if_icmp .gt 11, 3) := by decide +kernel
theorem dX3_lastRowUpTo_22 : decode cX3_lastRowUpTo 22 = .ok (.iload_n 3, 1) := by decide +kernel
theorem dX3_lastRowUpTo_23 : decode cX3_lastRowUpTo 23 = .ok (.istore_n 2, 1) := by decide +kernel
theorem dX3_lastRowUpTo_24 : decode cX3_lastRowUpTo 24 = .ok (.iinc 3 1, 3) := by decide +kernel
theorem dX3_lastRowUpTo_27 : decode cX3_lastRowUpTo 27 = .ok (.goto (-23), 3) := by decide +kernel
theorem dX3_lastRowUpTo_30 : decode cX3_lastRowUpTo 30 = .ok (.iload_n 2, 1) := by decide +kernel
theorem dX3_lastRowUpTo_31 : decode cX3_lastRowUpTo 31 = .ok (.ireturn, 1) := by decide +kernel
theorem dX3_leastUnitsFrom_0 : decode cX3_leastUnitsFrom 0 = .ok (.iconst 0, 1) := by decide +kernel
theorem dX3_leastUnitsFrom_1 : decode cX3_leastUnitsFrom 1 = .ok (.istore_n 2, 1) := by decide +kernel
theorem dX3_leastUnitsFrom_2 : decode cX3_leastUnitsFrom 2 = .ok (.iconst 0, 1) := by decide +kernel
theorem dX3_leastUnitsFrom_3 : decode cX3_leastUnitsFrom 3 = .ok (.istore_n 3, 1) := by decide +kernel
theorem dX3_leastUnitsFrom_4 : decode cX3_leastUnitsFrom 4 = .ok (.iload_n 3, 1) := by decide +kernel
theorem dX3_leastUnitsFrom_5 : decode cX3_leastUnitsFrom 5 = .ok (.aload_n 0, 1) := by decide +kernel
theorem dX3_leastUnitsFrom_6 : decode cX3_leastUnitsFrom 6 = .ok (.getfield 39, 3) := by decide +kernel
theorem dX3_leastUnitsFrom_9 : decode cX3_leastUnitsFrom 9 = .ok (.if_icmp .ge 35, 3) := by decide +kernel
theorem dX3_leastUnitsFrom_12 : decode cX3_leastUnitsFrom 12 = .ok (.aload_n 0, 1) := by decide +kernel
theorem dX3_leastUnitsFrom_13 : decode cX3_leastUnitsFrom 13 = .ok (.getfield 9, 3) := by decide +kernel
theorem dX3_leastUnitsFrom_16 : decode cX3_leastUnitsFrom 16 = .ok (.iload_n 3, 1) := by decide +kernel
theorem dX3_leastUnitsFrom_17 : decode cX3_leastUnitsFrom 17 = .ok (.iaload, 1) := by decide +kernel
theorem dX3_leastUnitsFrom_18 : decode cX3_leastUnitsFrom 18 = .ok (.iload_n 1, 1) := by decide +kernel
theorem dX3_leastUnitsFrom_19 : decode cX3_leastUnitsFrom 19 = .ok (.if_icmp .gt 25, 3) := by decide +kernel
theorem dX3_leastUnitsFrom_22 : decode cX3_leastUnitsFrom 22 = .ok (.iload_n 2, 1) := by decide +kernel
theorem dX3_leastUnitsFrom_23 : decode cX3_leastUnitsFrom 23 = .ok (.aload_n 0, 1) := by decide +kernel
theorem dX3_leastUnitsFrom_24 : decode cX3_leastUnitsFrom 24 = .ok (.getfield 15, 3) := by decide +kernel
theorem dX3_leastUnitsFrom_27 : decode cX3_leastUnitsFrom 27 = .ok (.iload_n 3, 1) := by decide +kernel
theorem dX3_leastUnitsFrom_28 : decode cX3_leastUnitsFrom 28 = .ok (.iaload, 1) := by decide +kernel
theorem dX3_leastUnitsFrom_29 : decode cX3_leastUnitsFrom 29 = .ok (.aload_n 0, 1) := by decide +kernel
theorem dX3_leastUnitsFrom_30 : decode cX3_leastUnitsFrom 30 = .ok (.getfield 24, 3) := by decide +kernel
theorem dX3_leastUnitsFrom_33 : decode cX3_leastUnitsFrom 33 = .ok (.iload_n 3, 1) := by decide +kernel
theorem dX3_leastUnitsFrom_34 : decode cX3_leastUnitsFrom 34 = .ok (.iaload, 1) := by decide +kernel
theorem dX3_leastUnitsFrom_35 : decode cX3_leastUnitsFrom 35 = .ok (.isub, 1) := by decide +kernel
theorem dX3_leastUnitsFrom_36 : decode cX3_leastUnitsFrom 36 = .ok (.iadd, 1) := by decide +kernel
theorem dX3_leastUnitsFrom_37 : decode cX3_leastUnitsFrom 37 = .ok (.istore_n 2, 1) := by decide +kernel
theorem dX3_leastUnitsFrom_38 : decode cX3_leastUnitsFrom 38 = .ok (.iinc 3 1, 3) := by decide +kernel
theorem dX3_leastUnitsFrom_41 : decode cX3_leastUnitsFrom 41 = .ok (.goto (-37), 3) := by decide +kernel
theorem dX3_leastUnitsFrom_44 : decode cX3_leastUnitsFrom 44 = .ok (.iload_n 2, 1) := by decide +kernel
theorem dX3_leastUnitsFrom_45 : decode cX3_leastUnitsFrom 45 = .ok (.istore 4, 2) := by decide +kernel
theorem dX3_leastUnitsFrom_47 : decode cX3_leastUnitsFrom 47 = .ok (.iload_n 3, 1) := by decide +kernel
theorem dX3_leastUnitsFrom_48 : decode cX3_leastUnitsFrom 48 = .ok (.aload_n 0, 1) := by decide +kernel
theorem dX3_leastUnitsFrom_49 : decode cX3_leastUnitsFrom 49 = .ok (.getfield 39, 3) := by decide +kernel
theorem dX3_leastUnitsFrom_52 : decode cX3_leastUnitsFrom 52 = .ok (.if_icmp .ge 33, 3) := by decide +kernel
theorem dX3_leastUnitsFrom_55 : decode cX3_leastUnitsFrom 55 = .ok (.iload_n 2, 1) := by decide +kernel
theorem dX3_leastUnitsFrom_56 : decode cX3_leastUnitsFrom 56 = .ok (.aload_n 0, 1) := by decide +kernel
theorem dX3_leastUnitsFrom_57 : decode cX3_leastUnitsFrom 57 = .ok (.getfield 15, 3) := by decide +kernel
theorem dX3_leastUnitsFrom_60 : decode cX3_leastUnitsFrom 60 = .ok (.iload_n 3, 1) := by decide +kernel
theorem dX3_leastUnitsFrom_61 : decode cX3_leastUnitsFrom 61 = .ok (.iaload, 1) := by decide +kernel
theorem dX3_leastUnitsFrom_62 : decode cX3_leastUnitsFrom 62 = .ok (.aload_n 0, 1) := by decide +kernel
theorem dX3_leastUnitsFrom_63 : decode cX3_leastUnitsFrom 63 = .ok (.getfield 24, 3) := by decide +kernel
theorem dX3_leastUnitsFrom_66 : decode cX3_leastUnitsFrom 66 = .ok (.iload_n 3, 1) := by decide +kernel
theorem dX3_leastUnitsFrom_67 : decode cX3_leastUnitsFrom 67 = .ok (.iaload, 1) := by decide +kernel
theorem dX3_leastUnitsFrom_68 : decode cX3_leastUnitsFrom 68 = .ok (.isub, 1) := by decide +kernel
theorem dX3_leastUnitsFrom_69 : decode cX3_leastUnitsFrom 69 = .ok (.iadd, 1) := by decide +kernel
theorem dX3_leastUnitsFrom_70 : decode cX3_leastUnitsFrom 70 = .ok (.istore_n 2, 1) := by decide +kernel
theorem dX3_leastUnitsFrom_71 : decode cX3_leastUnitsFrom 71 = .ok (.iload 4, 2) := by decide +kernel
theorem dX3_leastUnitsFrom_73 : decode cX3_leastUnitsFrom 73 = .ok (.iload_n 2, 1) := by decide +kernel
theorem dX3_leastUnitsFrom_74 : decode cX3_leastUnitsFrom 74 = .ok (.invokestatic 86, 3) := by decide +kernel
theorem dX3_leastUnitsFrom_77 : decode cX3_leastUnitsFrom 77 = .ok (.istore 4, 2) := by decide +kernel
theorem dX3_leastUnitsFrom_79 : decode cX3_leastUnitsFrom 79 = .ok (.iinc 3 1, 3) := by decide +kernel
theorem dX3_leastUnitsFrom_82 : decode cX3_leastUnitsFrom 82 = .ok (.goto (-35), 3) := by decide +kernel
theorem dX3_leastUnitsFrom_85 : decode cX3_leastUnitsFrom 85 = .ok (.iload 4, 2) := by decide +kernel
theorem dX3_leastUnitsFrom_87 : decode cX3_leastUnitsFrom 87 = .ok (.ireturn, 1) := by decide +kernel
theorem dX3_costOfBuys_0 : decode cX3_costOfBuys 0 = .ok (.iconst 0, 1) := by decide +kernel
theorem dX3_costOfBuys_1 : decode cX3_costOfBuys 1 = .ok (.istore_n 1, 1) := by decide +kernel
theorem dX3_costOfBuys_2 : decode cX3_costOfBuys 2 = .ok (.iconst 0, 1) := by decide +kernel
theorem dX3_costOfBuys_3 : decode cX3_costOfBuys 3 = .ok (.istore_n 2, 1) := by decide +kernel
theorem dX3_costOfBuys_4 : decode cX3_costOfBuys 4 = .ok (.iload_n 2, 1) := by decide +kernel
theorem dX3_costOfBuys_5 : decode cX3_costOfBuys 5 = .ok (.aload_n 0, 1) := by decide +kernel
theorem dX3_costOfBuys_6 : decode cX3_costOfBuys 6 = .ok (.getfield 39, 3) := by decide +kernel
theorem dX3_costOfBuys_9 : decode cX3_costOfBuys 9 = .ok (.if_icmp .ge 18, 3) := by decide +kernel
theorem dX3_costOfBuys_12 : decode cX3_costOfBuys 12 = .ok (.iload_n 1, 1) := by decide +kernel
theorem dX3_costOfBuys_13 : decode cX3_costOfBuys 13 = .ok (.aload_n 0, 1) := by decide +kernel
theorem dX3_costOfBuys_14 : decode cX3_costOfBuys 14 = .ok (.getfield 21, 3) := by decide +kernel
theorem dX3_costOfBuys_17 : decode cX3_costOfBuys 17 = .ok (.iload_n 2, 1) := by decide +kernel
theorem dX3_costOfBuys_18 : decode cX3_costOfBuys 18 = .ok (.iaload, 1) := by decide +kernel
theorem dX3_costOfBuys_19 : decode cX3_costOfBuys 19 = .ok (.iadd, 1) := by decide +kernel
theorem dX3_costOfBuys_20 : decode cX3_costOfBuys 20 = .ok (.istore_n 1, 1) := by decide +kernel
theorem dX3_costOfBuys_21 : decode cX3_costOfBuys 21 = .ok (.iinc 2 1, 3) := by decide +kernel
theorem dX3_costOfBuys_24 : decode cX3_costOfBuys 24 = .ok (.goto (-20), 3) := by decide +kernel
theorem dX3_costOfBuys_27 : decode cX3_costOfBuys 27 = .ok (.iload_n 1, 1) := by decide +kernel
theorem dX3_costOfBuys_28 : decode cX3_costOfBuys 28 = .ok (.ireturn, 1) := by decide +kernel
theorem dX4_init_0 : decode cX4_init 0 = .ok (.aload_n 0, 1) := by decide +kernel
theorem dX4_init_1 : decode cX4_init 1 = .ok (.invokespecial 3, 3) := by decide +kernel
theorem dX4_init_4 : decode cX4_init 4 = .ok (.aload_n 0, 1) := by decide +kernel
theorem dX4_init_5 : decode cX4_init 5 = .ok (.iconst 4, 1) := by decide +kernel
theorem dX4_init_6 : decode cX4_init 6 = .ok (.newarray .int, 2) := by decide +kernel
theorem dX4_init_8 : decode cX4_init 8 = .ok (.putfield 9, 3) := by decide +kernel
theorem dX4_init_11 : decode cX4_init 11 = .ok (.aload_n 0, 1) := by decide +kernel
theorem dX4_init_12 : decode cX4_init 12 = .ok (.iconst 4, 1) := by decide +kernel
theorem dX4_init_13 : decode cX4_init 13 = .ok (.newarray .int, 2) := by decide +kernel
theorem dX4_init_15 : decode cX4_init 15 = .ok (.putfield 15, 3) := by decide +kernel
theorem dX4_init_18 : decode cX4_init 18 = .ok (.aload_n 0, 1) := by decide +kernel
theorem dX4_init_19 : decode cX4_init 19 = .ok (.iconst 0, 1) := by decide +kernel
theorem dX4_init_20 : decode cX4_init 20 = .ok (.putfield 18, 3) := by decide +kernel
theorem dX4_init_23 : decode cX4_init 23 = .ok (.return_, 1) := by decide +kernel
theorem dX4_isFull_0 : decode cX4_isFull 0 = .ok (.aload_n 0, 1) := by decide +kernel
theorem dX4_isFull_1 : decode cX4_isFull 1 = .ok (.getfield 18, 3) := by decide +kernel
theorem dX4_isFull_4 : decode cX4_isFull 4 = .ok (.iconst 4, 1) := by decide +kernel
theorem dX4_isFull_5 : decode cX4_isFull 5 = .ok (.if_icmp .lt 7, 3) := by decide +kernel
theorem dX4_isFull_8 : decode cX4_isFull 8 = .ok (.iconst 1, 1) := by decide +kernel
theorem dX4_isFull_9 : decode cX4_isFull 9 = .ok (.goto 4, 3) := by decide +kernel
theorem dX4_isFull_12 : decode cX4_isFull 12 = .ok (.iconst 0, 1) := by decide +kernel
theorem dX4_isFull_13 : decode cX4_isFull 13 = .ok (.ireturn, 1) := by decide +kernel
theorem dX4_hasDay_0 : decode cX4_hasDay 0 = .ok (.iconst 0, 1) := by decide +kernel
theorem dX4_hasDay_1 : decode cX4_hasDay 1 = .ok (.istore_n 2, 1) := by decide +kernel
theorem dX4_hasDay_2 : decode cX4_hasDay 2 = .ok (.iload_n 2, 1) := by decide +kernel
theorem dX4_hasDay_3 : decode cX4_hasDay 3 = .ok (.aload_n 0, 1) := by decide +kernel
theorem dX4_hasDay_4 : decode cX4_hasDay 4 = .ok (.getfield 18, 3) := by decide +kernel
theorem dX4_hasDay_7 : decode cX4_hasDay 7 = .ok (.if_icmp .ge 21, 3) := by decide +kernel
theorem dX4_hasDay_10 : decode cX4_hasDay 10 = .ok (.aload_n 0, 1) := by decide +kernel
theorem dX4_hasDay_11 : decode cX4_hasDay 11 = .ok (.getfield 9, 3) := by decide +kernel
theorem dX4_hasDay_14 : decode cX4_hasDay 14 = .ok (.iload_n 2, 1) := by decide +kernel
theorem dX4_hasDay_15 : decode cX4_hasDay 15 = .ok (.iaload, 1) := by decide +kernel
theorem dX4_hasDay_16 : decode cX4_hasDay 16 = .ok (.iload_n 1, 1) := by decide +kernel
theorem dX4_hasDay_17 : decode cX4_hasDay 17 = .ok (.if_icmp .ne 5, 3) := by decide +kernel
theorem dX4_hasDay_20 : decode cX4_hasDay 20 = .ok (.iconst 1, 1) := by decide +kernel
theorem dX4_hasDay_21 : decode cX4_hasDay 21 = .ok (.ireturn, 1) := by decide +kernel
theorem dX4_hasDay_22 : decode cX4_hasDay 22 = .ok (.iinc 2 1, 3) := by decide +kernel
theorem dX4_hasDay_25 : decode cX4_hasDay 25 = .ok (.goto (-23), 3) := by decide +kernel
theorem dX4_hasDay_28 : decode cX4_hasDay 28 = .ok (.iconst 0, 1) := by decide +kernel
theorem dX4_hasDay_29 : decode cX4_hasDay 29 = .ok (.ireturn, 1) := by decide +kernel
set_option maxRecDepth 20000 in
theorem ggX4_enter_X4_isFull : GoodIn wsX4_enter wsX4_isFull := goodIn_r _ [8, 2, 9, 10, 11] (by decide +kernel) (by decide +kernel)
set_option maxRecDepth 20000 in
theorem gX4_enter_X4_isFull : GoodIn wsX4_enter (wsV RX4 22 RX4 yX4_isFull wsX4_isFull) := goodIn_app (goodIn_of _ (by decide +kernel)) ggX4_enter_X4_isFull
theorem dX4_enter_0 : decode cX4_enter 0 = .ok (.aload_n 0, 1) := by decide +kernel
theorem dX4_enter_1 : decode cX4_enter 1 = .ok (.invokevirtual 22, 3) := by decide +kernel
theorem dX4_enter_4 : decode cX4_enter 4 = .ok (.ifCond .eq 4, 3) := by decide +kernel
theorem dX4_enter_7 : decode cX4_enter 7 = .ok (.return_, 1) := by decide +kernel
theorem dX4_enter_8 : decode cX4_enter 8 = .ok (.aload_n 0, 1) := by decide +kernel
theorem dX4_enter_9 : decode cX4_enter 9 = .ok (.getfield 9, 3) := by decide +kernel
theorem dX4_enter_12 : decode cX4_enter 12 = .ok (.aload_n 0, 1) := by decide +kernel
theorem dX4_enter_13 : decode cX4_enter 13 = .ok (.getfield 18, 3) := by decide +kernel
theorem dX4_enter_16 : decode cX4_enter 16 = .ok (.iload_n 1, 1) := by decide +kernel
theorem dX4_enter_17 : decode cX4_enter 17 = .ok (.iastore, 1) := by decide +kernel
theorem dX4_enter_18 : decode cX4_enter 18 = .ok (.aload_n 0, 1) := by decide +kernel
theorem dX4_enter_19 : decode cX4_enter 19 = .ok (.getfield 15, 3) := by decide +kernel
theorem dX4_enter_22 : decode cX4_enter 22 = .ok (.aload_n 0, 1) := by decide +kernel
theorem dX4_enter_23 : decode cX4_enter 23 = .ok (.getfield 18, 3) := by decide +kernel
theorem dX4_enter_26 : decode cX4_enter 26 = .ok (.iload_n 2, 1) := by decide +kernel
theorem dX4_enter_27 : decode cX4_enter 27 = .ok (.iastore, 1) := by decide +kernel
theorem dX4_enter_28 : decode cX4_enter 28 = .ok (.aload_n 0, 1) := by decide +kernel
theorem dX4_enter_29 : decode cX4_enter 29 = .ok (.dup, 1) := by decide +kernel
theorem dX4_enter_30 : decode cX4_enter 30 = .ok (.getfield 18, 3) := by decide +kernel
theorem dX4_enter_33 : decode cX4_enter 33 = .ok (.iconst 1, 1) := by decide +kernel
theorem dX4_enter_34 : decode cX4_enter 34 = .ok (.iadd, 1) := by decide +kernel
theorem dX4_enter_35 : decode cX4_enter 35 = .ok (.putfield 18, 3) := by decide +kernel
theorem dX4_enter_38 : decode cX4_enter 38 = .ok (.return_, 1) := by decide +kernel
theorem dX4_factorBetween_0 : decode cX4_factorBetween 0 = .ok (.iconst 1, 1) := by decide +kernel
theorem dX4_factorBetween_1 : decode cX4_factorBetween 1 = .ok (.istore_n 3, 1) := by decide +kernel
theorem dX4_factorBetween_2 : decode cX4_factorBetween 2 = .ok (.iconst 0, 1) := by decide +kernel
theorem dX4_factorBetween_3 : decode cX4_factorBetween 3 = .ok (.istore 4, 2) := by decide +kernel
theorem dX4_factorBetween_5 : decode cX4_factorBetween 5 = .ok (.iload 4, 2) := by decide +kernel
theorem dX4_factorBetween_7 : decode cX4_factorBetween 7 = .ok (.aload_n 0, 1) := by decide +kernel
theorem dX4_factorBetween_8 : decode cX4_factorBetween 8 = .ok (.getfield 18, 3) := by decide +kernel
theorem dX4_factorBetween_11 : decode cX4_factorBetween 11 = .ok (.if_icmp .ge 41, 3) := by decide +kernel
theorem dX4_factorBetween_14 : decode cX4_factorBetween 14 = .ok (.aload_n 0, 1) := by decide +kernel
theorem dX4_factorBetween_15 : decode cX4_factorBetween 15 = .ok (.getfield 9, 3) := by decide +kernel
theorem dX4_factorBetween_18 : decode cX4_factorBetween 18 = .ok (.iload 4, 2) := by decide +kernel
theorem dX4_factorBetween_20 : decode cX4_factorBetween 20 = .ok (.iaload, 1) := by decide +kernel
theorem dX4_factorBetween_21 : decode cX4_factorBetween 21 = .ok (.iload_n 1, 1) := by decide +kernel
theorem dX4_factorBetween_22 : decode cX4_factorBetween 22 = .ok (.if_icmp .le 24, 3) := by decide +kernel
theorem dX4_factorBetween_25 : decode cX4_factorBetween 25 = .ok (.aload_n 0, 1) := by decide +kernel
theorem dX4_factorBetween_26 : decode cX4_factorBetween 26 = .ok (.getfield 9, 3) := by decide +kernel
theorem dX4_factorBetween_29 : decode cX4_factorBetween 29 = .ok (.iload 4, 2) := by decide +kernel
theorem dX4_factorBetween_31 : decode cX4_factorBetween 31 = .ok (.iaload, 1) := by decide +kernel
theorem dX4_factorBetween_32 : decode cX4_factorBetween 32 = .ok (.iload_n 2, 1) := by decide +kernel
theorem dX4_factorBetween_33 : decode cX4_factorBetween 33 = .ok (.if_icmp .gt 13, 3) := by decide +kernel
theorem dX4_factorBetween_36 : decode cX4_factorBetween 36 = .ok (.iload_n 3, 1) := by decide +kernel
theorem dX4_factorBetween_37 : decode cX4_factorBetween 37 = .ok (.aload_n 0, 1) := by decide +kernel
theorem dX4_factorBetween_38 : decode cX4_factorBetween 38 = .ok (.getfield 15, 3) := by decide +kernel
theorem dX4_factorBetween_41 : decode cX4_factorBetween 41 = .ok (.iload 4, 2) := by decide +kernel
theorem dX4_factorBetween_43 : decode cX4_factorBetween 43 = .ok (.iaload, 1) := by decide +kernel
theorem dX4_factorBetween_44 : decode cX4_factorBetween 44 = .ok (.imul, 1) := by decide +kernel
theorem dX4_factorBetween_45 : decode cX4_factorBetween 45 = .ok (.istore_n 3, 1) := by decide +kernel
theorem dX4_factorBetween_46 : decode cX4_factorBetween 46 = .ok (.iinc 4 1, 3) := by decide +kernel
theorem dX4_factorBetween_49 : decode cX4_factorBetween 49 = .ok (.goto (-44), 3) := by decide +kernel
theorem dX4_factorBetween_52 : decode cX4_factorBetween 52 = .ok (.iload_n 3, 1) := by decide +kernel
theorem dX4_factorBetween_53 : decode cX4_factorBetween 53 = .ok (.ireturn, 1) := by decide +kernel
