set_option maxRecDepth 20000 in
theorem ggL_splits_X5_init_p0 : GoodIn wsL_splits [.code yX5_init cX5_init 2 none] := goodIn_r _ [6] (by decide +kernel) (by decide +kernel)
set_option maxRecDepth 20000 in
theorem ggL_splits_X5_init_p1 : GoodIn wsL_splits wsX5_init_r1 := goodIn_r _ [7, 8, 9, 10, 11, 12, 13, 14, 15, 16, 17, 18, 19, 20, 21, 22, 23, 24, 25, 26, 27, 28, 29, 30] (by decide +kernel) (by decide +kernel)
set_option maxRecDepth 20000 in
theorem ggL_splits_X5_init_p2 : GoodIn wsL_splits wsX5_init_r2 := goodIn_r _ [31, 32, 33, 34, 35, 36, 37, 38, 39, 40, 41, 42, 43, 44, 45, 46, 47, 48, 49, 50, 51, 52, 53, 54] (by decide +kernel) (by decide +kernel)
set_option maxRecDepth 20000 in
theorem ggL_splits_X5_init_p3 : GoodIn wsL_splits wsX5_init_r3 := goodIn_r _ [55, 56, 57, 58, 59, 60, 61, 62, 63, 64, 65, 66, 67, 68, 69, 70, 71, 72, 73, 74, 75, 76, 77] (by decide +kernel) (by decide +kernel)
set_option maxRecDepth 20000 in
theorem ggL_splits_X5_init_x0 : GoodIn wsL_splits wsX00 := goodIn_r _ [356, 357, 358, 359, 360, 361, 362] (by decide +kernel) (by decide +kernel)
set_option maxRecDepth 20000 in
theorem ggL_splits_X5_init_x5 : GoodIn wsL_splits wsX50 := goodIn_r _ [352, 353, 354, 355] (by decide +kernel) (by decide +kernel)
set_option maxRecDepth 20000 in
theorem ggL_splits_X5_init_x1 : GoodIn wsL_splits wsX10 := goodIn_r _ [363, 364, 365, 366] (by decide +kernel) (by decide +kernel)
set_option maxRecDepth 20000 in
theorem ggL_splits_X5_init_x4 : GoodIn wsL_splits wsX40 := goodIn_r _ [367, 368, 369] (by decide +kernel) (by decide +kernel)
set_option maxRecDepth 20000 in
theorem ggL_splits_X5_init_x3 : GoodIn wsL_splits wsX30 := goodIn_r _ [370, 371, 372, 373, 374, 375, 376, 377, 378, 379] (by decide +kernel) (by decide +kernel)
set_option maxRecDepth 20000 in
theorem ggL_splits_X5_init_x2 : GoodIn wsL_splits wsX20 := goodIn_r _ [380, 381, 382, 383, 384, 385, 386] (by decide +kernel) (by decide +kernel)
set_option maxRecDepth 20000 in
theorem ggL_splits_X5_init : GoodIn wsL_splits wsX5_init := goodIn_c1 ggL_splits_X5_init_p0 (goodIn_app (goodIn_app (goodIn_app (goodIn_app (goodIn_app (goodIn_app (goodIn_app ggL_splits_X5_init_p1 (goodIn_app ggL_splits_X5_init_p2 (ggL_splits_X5_init_p3))) ggL_splits_X5_init_x0) ggL_splits_X5_init_x5) ggL_splits_X5_init_x1) ggL_splits_X5_init_x4) ggL_splits_X5_init_x3) ggL_splits_X5_init_x2)
set_option maxRecDepth 20000 in
theorem gL_splits_X5_init : GoodIn wsL_splits (wsX5_init) := ggL_splits_X5_init
set_option maxRecDepth 20000 in
theorem ggL_splits_X5_buy_p0 : GoodIn wsL_splits [.code yX5_buy cX5_buy 7 (some .int)] := goodIn_r _ [81] (by decide +kernel) (by decide +kernel)
set_option maxRecDepth 20000 in
theorem ggL_splits_X5_buy_p1 : GoodIn wsL_splits wsX5_buy_r1 := goodIn_r _ [13, 20, 82, 83, 84, 3, 85, 86, 87, 88, 89, 90, 91, 15, 92, 93, 94, 95, 96, 97, 98, 99, 100, 101] (by decide +kernel) (by decide +kernel)
set_option maxRecDepth 20000 in
theorem ggL_splits_X5_buy_p2 : GoodIn wsL_splits wsX5_buy_r2 := goodIn_r _ [102, 103, 104, 105, 106, 107, 108, 109, 12, 110, 31, 111, 112, 113, 114, 25, 27, 28, 29, 30, 115, 116, 117, 118] (by decide +kernel) (by decide +kernel)
set_option maxRecDepth 20000 in
theorem ggL_splits_X5_buy_p3 : GoodIn wsL_splits wsX5_buy_r3 := goodIn_r _ [17, 119, 43, 48, 39, 47, 120, 121, 122, 42, 123, 124, 125, 126, 127, 67, 59, 61, 62, 64, 128, 129, 130, 131] (by decide +kernel) (by decide +kernel)
set_option maxRecDepth 20000 in
theorem ggL_splits_X5_buy_p4 : GoodIn wsL_splits wsX5_buy_r4 := goodIn_r _ [26, 132, 133, 134, 135, 58, 136, 137, 138, 139, 140, 141, 142, 38, 143, 54, 52, 53, 144, 145, 146, 147, 148, 149] (by decide +kernel) (by decide +kernel)
set_option maxRecDepth 20000 in
theorem ggL_splits_X5_buy_p5 : GoodIn wsL_splits wsX5_buy_r5 := goodIn_r _ [150, 151, 152, 153, 154, 155, 60, 63, 156, 157, 158, 159, 160, 161, 162, 163, 164, 165, 46, 166, 77, 71, 72, 73] (by decide +kernel) (by decide +kernel)
set_option maxRecDepth 20000 in
theorem ggL_splits_X5_buy_p6 : GoodIn wsL_splits wsX5_buy_r6 := goodIn_r _ [74, 75, 76, 167, 168, 169, 170, 171, 172, 173, 174, 175, 176, 177, 178, 179, 180, 181, 182] (by decide +kernel) (by decide +kernel)
set_option maxRecDepth 20000 in
theorem ggL_splits_X5_buy_x5 : GoodIn wsL_splits wsX50 := goodIn_r _ [352, 353, 354, 355] (by decide +kernel) (by decide +kernel)
set_option maxRecDepth 20000 in
theorem ggL_splits_X5_buy_x0 : GoodIn wsL_splits wsX00 := goodIn_r _ [356, 357, 358, 359, 360, 361, 362] (by decide +kernel) (by decide +kernel)
set_option maxRecDepth 20000 in
theorem ggL_splits_X5_buy_x1 : GoodIn wsL_splits wsX10 := goodIn_r _ [363, 364, 365, 366] (by decide +kernel) (by decide +kernel)
set_option maxRecDepth 20000 in
theorem ggL_splits_X5_buy_x2 : GoodIn wsL_splits wsX20 := goodIn_r _ [380, 381, 382, 383, 384, 385, 386] (by decide +kernel) (by decide +kernel)
set_option maxRecDepth 20000 in
theorem ggL_splits_X5_buy_x3 : GoodIn wsL_splits wsX30 := goodIn_r _ [370, 371, 372, 373, 374, 375, 376, 377, 378, 379] (by decide +kernel) (by decide +kernel)
set_option maxRecDepth 20000 in
theorem ggL_splits_X5_buy_x4 : GoodIn wsL_splits wsX40 := goodIn_r _ [367, 368, 369] (by decide +kernel) (by decide +kernel)
set_option maxRecDepth 20000 in
theorem ggL_splits_X5_buy : GoodIn wsL_splits wsX5_buy := goodIn_ca (goodIn_ca (goodIn_ca (goodIn_c1 ggL_splits_X5_buy_p0 (goodIn_app (goodIn_app (goodIn_app (goodIn_app (goodIn_app (goodIn_app (goodIn_app ggL_splits_X5_buy_p1 (goodIn_app ggL_splits_X5_buy_p2 (goodIn_app ggL_splits_X5_buy_p3 (goodIn_app ggL_splits_X5_buy_p4 (goodIn_app ggL_splits_X5_buy_p5 (ggL_splits_X5_buy_p6)))))) ggL_splits_X5_buy_x5) ggL_splits_X5_buy_x0) ggL_splits_X5_buy_x1) ggL_splits_X5_buy_x2) ggL_splits_X5_buy_x3) ggL_splits_X5_buy_x4)) (goodIn_sub (fun _ h => List.mem_cons_of_mem _ (List.mem_append_left _ (List.mem_append_left _ (List.mem_append_right _ h)))) (by decide +kernel))) (goodIn_sub (fun _ h => List.mem_cons_of_mem _ (List.mem_append_left _ (List.mem_append_right _ h))) (by decide +kernel))) (goodIn_sub (fun _ h => List.mem_cons_of_mem _ (List.mem_append_right _ h)) (by decide +kernel))
set_option maxRecDepth 20000 in
theorem gL_splits_X5_buy : GoodIn wsL_splits (wsV RL 17 RX5 yX5_buy wsX5_buy) := goodIn_app (goodIn_of _ (by decide +kernel)) ggL_splits_X5_buy
set_option maxRecDepth 20000 in
theorem ggL_splits_X5_split_p0 : GoodIn wsL_splits [.code yX5_split cX5_split 5 (some .int)] := goodIn_r _ [186] (by decide +kernel) (by decide +kernel)
set_option maxRecDepth 20000 in
theorem ggL_splits_X5_split_p1 : GoodIn wsL_splits wsX5_split_r1 := goodIn_r _ [95, 96, 105, 106, 13, 20, 82, 83, 84, 3, 85, 86, 87, 88, 89, 90, 91, 15, 187, 188, 189, 38, 190, 54] (by decide +kernel) (by decide +kernel)
set_option maxRecDepth 20000 in
theorem ggL_splits_X5_split_p2 : GoodIn wsL_splits wsX5_split_r2 := goodIn_r _ [191, 192, 193, 194, 52, 195, 196, 197, 198, 53, 199, 116, 117, 118, 17, 119, 43, 48, 39, 47, 120, 121, 122, 42] (by decide +kernel) (by decide +kernel)
set_option maxRecDepth 20000 in
theorem ggL_splits_X5_split_p3 : GoodIn wsL_splits wsX5_split_r3 := goodIn_r _ [123, 124, 125, 126, 127, 67, 59, 61, 62, 64, 128, 129, 130, 12, 131, 27, 26, 132, 133, 134, 135, 58, 136, 137] (by decide +kernel) (by decide +kernel)
set_option maxRecDepth 20000 in
theorem ggL_splits_X5_split_p4 : GoodIn wsL_splits wsX5_split_r4 := goodIn_r _ [138, 139, 140, 141, 142, 143, 144, 145, 146, 147, 148, 149, 150, 151, 152, 153, 154, 155, 60, 63, 156, 157, 158, 159] (by decide +kernel) (by decide +kernel)
set_option maxRecDepth 20000 in
theorem ggL_splits_X5_split_p5 : GoodIn wsL_splits wsX5_split_r5 := goodIn_r _ [160, 161, 162, 163, 164, 165, 46, 166, 77, 71, 72, 73, 74, 75, 76, 167, 168, 169, 170, 171, 172, 173, 174, 175] (by decide +kernel) (by decide +kernel)
set_option maxRecDepth 20000 in
theorem ggL_splits_X5_split_p6 : GoodIn wsL_splits wsX5_split_r6 := goodIn_r _ [176, 177, 178, 179, 180, 181, 182] (by decide +kernel) (by decide +kernel)
set_option maxRecDepth 20000 in
theorem ggL_splits_X5_split_x1 : GoodIn wsL_splits wsX10 := goodIn_r _ [363, 364, 365, 366] (by decide +kernel) (by decide +kernel)
set_option maxRecDepth 20000 in
theorem ggL_splits_X5_split_x5 : GoodIn wsL_splits wsX50 := goodIn_r _ [352, 353, 354, 355] (by decide +kernel) (by decide +kernel)
set_option maxRecDepth 20000 in
theorem ggL_splits_X5_split_x4 : GoodIn wsL_splits wsX40 := goodIn_r _ [367, 368, 369] (by decide +kernel) (by decide +kernel)
set_option maxRecDepth 20000 in
theorem ggL_splits_X5_split_x2 : GoodIn wsL_splits wsX20 := goodIn_r _ [380, 381, 382, 383, 384, 385, 386] (by decide +kernel) (by decide +kernel)
set_option maxRecDepth 20000 in
theorem ggL_splits_X5_split_x3 : GoodIn wsL_splits wsX30 := goodIn_r _ [370, 371, 372, 373, 374, 375, 376, 377, 378, 379] (by decide +kernel) (by decide +kernel)
set_option maxRecDepth 20000 in
theorem ggL_splits_X5_split_x0 : GoodIn wsL_splits wsX00 := goodIn_r _ [356, 357, 358, 359, 360, 361, 362] (by decide +kernel) (by decide +kernel)
set_option maxRecDepth 20000 in
theorem ggL_splits_X5_split : GoodIn wsL_splits wsX5_split := goodIn_ca (goodIn_ca (goodIn_ca (goodIn_c1 ggL_splits_X5_split_p0 (goodIn_app (goodIn_app (goodIn_app (goodIn_app (goodIn_app (goodIn_app (goodIn_app ggL_splits_X5_split_p1 (goodIn_app ggL_splits_X5_split_p2 (goodIn_app ggL_splits_X5_split_p3 (goodIn_app ggL_splits_X5_split_p4 (goodIn_app ggL_splits_X5_split_p5 (ggL_splits_X5_split_p6)))))) ggL_splits_X5_split_x1) ggL_splits_X5_split_x5) ggL_splits_X5_split_x4) ggL_splits_X5_split_x2) ggL_splits_X5_split_x3) ggL_splits_X5_split_x0)) (goodIn_sub (fun _ h => List.mem_cons_of_mem _ (List.mem_append_left _ (List.mem_append_right _ h))) (by decide +kernel))) (goodIn_sub (fun _ h => List.mem_cons_of_mem _ (List.mem_append_right _ h)) (by decide +kernel))) (goodIn_sub (fun _ h => List.mem_cons_of_mem _ (List.mem_append_left _ (List.mem_append_left _ (List.mem_append_right _ h)))) (by decide +kernel))
set_option maxRecDepth 20000 in
theorem gL_splits_X5_split : GoodIn wsL_splits (wsV RL 24 RX5 yX5_split wsX5_split) := goodIn_app (goodIn_of _ (by decide +kernel)) ggL_splits_X5_split
set_option maxRecDepth 20000 in
theorem ggL_splits_X5_sell_p0 : GoodIn wsL_splits [.code yX5_sell cX5_sell 7 (some .int)] := goodIn_r _ [203] (by decide +kernel) (by decide +kernel)
set_option maxRecDepth 20000 in
theorem ggL_splits_X5_sell_p1 : GoodIn wsL_splits wsX5_sell_r1 := goodIn_r _ [13, 20, 82, 83, 84, 3, 85, 86, 87, 88, 89, 90, 91, 15, 92, 93, 94, 95, 96, 97, 98, 99, 100, 101] (by decide +kernel) (by decide +kernel)
set_option maxRecDepth 20000 in
theorem ggL_splits_X5_sell_p2 : GoodIn wsL_splits wsX5_sell_r2 := goodIn_r _ [102, 103, 104, 105, 106, 107, 108, 109, 12, 110, 31, 204, 205, 206, 207, 141, 142, 38, 143, 54, 52, 53, 208, 209] (by decide +kernel) (by decide +kernel)
set_option maxRecDepth 20000 in
theorem ggL_splits_X5_sell_p3 : GoodIn wsL_splits wsX5_sell_r3 := goodIn_r _ [210, 42, 211, 67, 58, 59, 62, 152, 153, 154, 155, 111, 112, 113, 114, 25, 27, 28, 29, 30, 115, 116, 117, 118] (by decide +kernel) (by decide +kernel)
set_option maxRecDepth 20000 in
theorem ggL_splits_X5_sell_p4 : GoodIn wsL_splits wsX5_sell_r4 := goodIn_r _ [17, 119, 43, 48, 39, 47, 120, 121, 122, 123, 124, 125, 126, 127, 61, 64, 128, 129, 130, 131, 26, 132, 133, 134] (by decide +kernel) (by decide +kernel)
set_option maxRecDepth 20000 in
theorem ggL_splits_X5_sell_p5 : GoodIn wsL_splits wsX5_sell_r5 := goodIn_r _ [135, 136, 137, 138, 139, 140, 144, 145, 146, 147, 148, 149, 150, 151, 60, 63, 156, 157, 158, 159, 160, 161, 162, 163] (by decide +kernel) (by decide +kernel)
set_option maxRecDepth 20000 in
theorem ggL_splits_X5_sell_p6 : GoodIn wsL_splits wsX5_sell_r6 := goodIn_r _ [164, 165, 46, 166, 77, 71, 72, 73, 74, 75, 76, 167, 168, 169, 170, 171, 172, 173, 174, 175, 176, 177, 178, 179] (by decide +kernel) (by decide +kernel)
set_option maxRecDepth 20000 in
theorem ggL_splits_X5_sell_p7 : GoodIn wsL_splits wsX5_sell_r7 := goodIn_r _ [180, 181, 182] (by decide +kernel) (by decide +kernel)
set_option maxRecDepth 20000 in
theorem ggL_splits_X5_sell_x5 : GoodIn wsL_splits wsX50 := goodIn_r _ [352, 353, 354, 355] (by decide +kernel) (by decide +kernel)
set_option maxRecDepth 20000 in
theorem ggL_splits_X5_sell_x0 : GoodIn wsL_splits wsX00 := goodIn_r _ [356, 357, 358, 359, 360, 361, 362] (by decide +kernel) (by decide +kernel)
set_option maxRecDepth 20000 in
theorem ggL_splits_X5_sell_x1 : GoodIn wsL_splits wsX10 := goodIn_r _ [363, 364, 365, 366] (by decide +kernel) (by decide +kernel)
set_option maxRecDepth 20000 in
theorem ggL_splits_X5_sell_x4 : GoodIn wsL_splits wsX40 := goodIn_r _ [367, 368, 369] (by decide +kernel) (by decide +kernel)
set_option maxRecDepth 20000 in
theorem ggL_splits_X5_sell_x3 : GoodIn wsL_splits wsX30 := goodIn_r _ [370, 371, 372, 373, 374, 375, 376, 377, 378, 379] (by decide +kernel) (by decide +kernel)
set_option maxRecDepth 20000 in
theorem ggL_splits_X5_sell_x2 : GoodIn wsL_splits wsX20 := goodIn_r _ [380, 381, 382, 383, 384, 385, 386] (by decide +kernel) (by decide +kernel)
set_option maxRecDepth 20000 in
theorem ggL_splits_X5_sell : GoodIn wsL_splits wsX5_sell := goodIn_ca (goodIn_ca (goodIn_ca (goodIn_c1 ggL_splits_X5_sell_p0 (goodIn_app (goodIn_app (goodIn_app (goodIn_app (goodIn_app (goodIn_app (goodIn_app ggL_splits_X5_sell_p1 (goodIn_app ggL_splits_X5_sell_p2 (goodIn_app ggL_splits_X5_sell_p3 (goodIn_app ggL_splits_X5_sell_p4 (goodIn_app ggL_splits_X5_sell_p5 (goodIn_app ggL_splits_X5_sell_p6 (ggL_splits_X5_sell_p7))))))) ggL_splits_X5_sell_x5) ggL_splits_X5_sell_x0) ggL_splits_X5_sell_x1) ggL_splits_X5_sell_x4) ggL_splits_X5_sell_x3) ggL_splits_X5_sell_x2)) (goodIn_sub (fun _ h => List.mem_cons_of_mem _ (List.mem_append_left _ (List.mem_append_left _ (List.mem_append_right _ h)))) (by decide +kernel))) (goodIn_sub (fun _ h => List.mem_cons_of_mem _ (List.mem_append_left _ (List.mem_append_right _ h))) (by decide +kernel))) (goodIn_sub (fun _ h => List.mem_cons_of_mem _ (List.mem_append_right _ h)) (by decide +kernel))
set_option maxRecDepth 20000 in
theorem gL_splits_X5_sell : GoodIn wsL_splits (wsV RL 21 RX5 yX5_sell wsX5_sell) := goodIn_app (goodIn_of _ (by decide +kernel)) ggL_splits_X5_sell
set_option maxRecDepth 20000 in
theorem ggL_splits_L_is : GoodIn wsL_splits wsL_is := goodIn_ca (goodIn_r _ [215, 216, 217, 218, 3, 219, 220, 221, 222, 223, 86, 87, 88, 89, 90, 91, 15, 224, 225, 226, 227, 228, 229, 230, 231, 232, 233, 234, 235, 236, 237, 238, 239, 240, 241, 242, 243, 380, 381, 382, 383, 384, 385, 386, 363, 364, 365, 366, 352, 353, 354, 355] (by decide +kernel) (by decide +kernel)) (goodIn_sub (fun _ h => List.mem_cons_of_mem _ (List.mem_append_left _ (List.mem_append_left _ (List.mem_append_right _ h)))) (by decide +kernel))
set_option maxRecDepth 20000 in
theorem gL_splits_L_is : GoodIn wsL_splits (va_wsS RL 106 yL_is wsL_is) := goodIn_app (goodIn_of _ (by decide +kernel)) ggL_splits_L_is
set_option maxRecDepth 20000 in
theorem ggL_splits_X5_holding : GoodIn wsL_splits wsX5_holding := goodIn_ca (goodIn_r _ [247, 13, 82, 83, 84, 3, 85, 86, 87, 88, 89, 90, 91, 15, 248, 249, 250, 17, 251, 48, 39, 252, 129, 130, 12, 131, 27, 26, 253, 141, 142, 38, 143, 54, 52, 53, 352, 353, 354, 355, 356, 357, 358, 359, 360, 361, 362, 363, 364, 365, 366, 367, 368, 369] (by decide +kernel) (by decide +kernel)) (goodIn_sub (fun _ h => List.mem_cons_of_mem _ (List.mem_append_left _ (List.mem_append_left _ (List.mem_append_right _ h)))) (by decide +kernel))
set_option maxRecDepth 20000 in
theorem gL_splits_X5_holding : GoodIn wsL_splits (wsV RL 36 RX5 yX5_holding wsX5_holding) := goodIn_app (goodIn_of _ (by decide +kernel)) ggL_splits_X5_holding
set_option maxRecDepth 20000 in
theorem ggL_splits_X5_poolUnits : GoodIn wsL_splits wsX5_poolUnits := goodIn_ca (goodIn_r _ [257, 82, 83, 84, 3, 85, 86, 87, 88, 89, 90, 91, 15, 258, 137, 138, 42, 139, 67, 58, 363, 364, 365, 366, 370, 371, 372, 373, 374, 375, 376, 377, 378, 379, 352, 353, 354, 355] (by decide +kernel) (by decide +kernel)) (goodIn_sub (fun _ h => List.mem_cons_of_mem _ (List.mem_append_left _ (List.mem_append_left _ (List.mem_append_right _ h)))) (by decide +kernel))
set_option maxRecDepth 20000 in
theorem gL_splits_X5_poolUnits : GoodIn wsL_splits (wsV RL 39 RX5 yX5_poolUnits wsX5_poolUnits) := goodIn_app (goodIn_of _ (by decide +kernel)) ggL_splits_X5_poolUnits
