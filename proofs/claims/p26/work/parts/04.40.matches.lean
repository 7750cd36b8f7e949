set_option maxRecDepth 20000 in
theorem ggL_matches_X5_init : GoodIn wsL_matches wsX5_init := goodIn_r _ [6, 7, 8, 9, 10, 11, 12, 13, 14, 15, 16, 17, 18, 19, 20, 21, 22, 23, 24, 25, 26, 27, 28, 29, 30, 31, 32, 33, 34, 35, 36, 37, 38, 39, 40, 41, 42, 43, 44, 45, 46, 47, 48, 49, 50, 51, 52, 53, 54, 55, 56, 57, 58, 59, 60, 61, 62, 63, 64, 65, 66, 67, 68, 69, 70, 71, 72, 73, 74, 75, 76, 77, 356, 357, 358, 359, 360, 361, 362, 352, 353, 354, 355, 363, 364, 365, 366, 367, 368, 369, 370, 371, 372, 373, 374, 375, 376, 377, 378, 379, 380, 381, 382, 383, 384, 385, 386] (by decide +kernel) (by decide +kernel)
set_option maxRecDepth 20000 in
theorem gL_matches_X5_init : GoodIn wsL_matches (wsX5_init) := ggL_matches_X5_init
set_option maxRecDepth 20000 in
theorem ggL_matches_X5_trades : GoodIn wsL_matches wsX5_trades := goodIn_r _ [81, 13, 352, 353, 354, 355, 356, 357, 358, 359, 360, 361, 362] (by decide +kernel) (by decide +kernel)
set_option maxRecDepth 20000 in
theorem gL_matches_X5_trades : GoodIn wsL_matches (wsV RL 86 RX5 yX5_trades wsX5_trades) := goodIn_app (goodIn_of _ (by decide +kernel)) ggL_matches_X5_trades
set_option maxRecDepth 20000 in
theorem ggL_matches_X5_matches : GoodIn wsL_matches wsX5_matches := goodIn_ca (goodIn_r _ [85, 86, 87, 88, 3, 89, 90, 91, 15, 363, 364, 365, 366, 380, 381, 382, 383, 384, 385, 386, 352, 353, 354, 355] (by decide +kernel) (by decide +kernel)) (goodIn_sub (fun _ h => List.mem_cons_of_mem _ (List.mem_append_left _ (List.mem_append_left _ (List.mem_append_right _ h)))) (by decide +kernel))
set_option maxRecDepth 20000 in
theorem gL_matches_X5_matches : GoodIn wsL_matches (wsV RL 72 RX5 yX5_matches wsX5_matches) := goodIn_app (goodIn_of _ (by decide +kernel)) ggL_matches_X5_matches
set_option maxRecDepth 20000 in
theorem ggL_matches_X5_net : GoodIn wsL_matches wsX5_net := goodIn_ca (goodIn_r _ [95, 96, 97, 3, 98, 90, 91, 99, 100, 101, 102, 15, 103, 104, 105, 46, 106, 77, 72, 76, 75, 352, 353, 354, 355, 363, 364, 365, 366, 380, 381, 382, 383, 384, 385, 386] (by decide +kernel) (by decide +kernel)) (goodIn_sub (fun _ h => List.mem_cons_of_mem _ (List.mem_append_left _ (List.mem_append_left _ (List.mem_append_right _ h)))) (by decide +kernel))
set_option maxRecDepth 20000 in
theorem gL_matches_X5_net : GoodIn wsL_matches (wsV RL 75 RX5 yX5_net wsX5_net) := goodIn_app (goodIn_of _ (by decide +kernel)) ggL_matches_X5_net
set_option maxRecDepth 20000 in
theorem ggL_matches_X5_carried : GoodIn wsL_matches wsX5_carried := goodIn_ca (goodIn_r _ [110, 96, 97, 3, 98, 90, 91, 111, 112, 113, 114, 115, 116, 117, 118, 99, 100, 101, 102, 15, 103, 104, 105, 46, 106, 77, 72, 76, 75, 119, 120, 121, 122, 19, 123, 124, 125, 352, 353, 354, 355, 363, 364, 365, 366, 380, 381, 382, 383, 384, 385, 386] (by decide +kernel) (by decide +kernel)) (goodIn_sub (fun _ h => List.mem_cons_of_mem _ (List.mem_append_left _ (List.mem_append_left _ (List.mem_append_right _ h)))) (by decide +kernel))
set_option maxRecDepth 20000 in
theorem gL_matches_X5_carried : GoodIn wsL_matches (wsV RL 78 RX5 yX5_carried wsX5_carried) := goodIn_app (goodIn_of _ (by decide +kernel)) ggL_matches_X5_carried
set_option maxRecDepth 20000 in
theorem ggL_matches_X5_holding : GoodIn wsL_matches wsX5_holding := goodIn_ca (goodIn_r _ [129, 13, 130, 131, 132, 3, 133, 90, 91, 86, 87, 88, 89, 15, 134, 135, 136, 17, 137, 48, 39, 138, 139, 140, 12, 141, 27, 26, 142, 143, 144, 38, 145, 54, 52, 53, 352, 353, 354, 355, 356, 357, 358, 359, 360, 361, 362, 363, 364, 365, 366, 367, 368, 369] (by decide +kernel) (by decide +kernel)) (goodIn_sub (fun _ h => List.mem_cons_of_mem _ (List.mem_append_left _ (List.mem_append_left _ (List.mem_append_right _ h)))) (by decide +kernel))
set_option maxRecDepth 20000 in
theorem gL_matches_X5_holding : GoodIn wsL_matches (wsV RL 36 RX5 yX5_holding wsX5_holding) := goodIn_app (goodIn_of _ (by decide +kernel)) ggL_matches_X5_holding
set_option maxRecDepth 20000 in
theorem ggL_matches_X5_poolUnits : GoodIn wsL_matches wsX5_poolUnits := goodIn_ca (goodIn_r _ [149, 130, 131, 132, 3, 133, 90, 91, 86, 87, 88, 89, 15, 150, 151, 152, 42, 153, 67, 58, 363, 364, 365, 366, 370, 371, 372, 373, 374, 375, 376, 377, 378, 379, 352, 353, 354, 355] (by decide +kernel) (by decide +kernel)) (goodIn_sub (fun _ h => List.mem_cons_of_mem _ (List.mem_append_left _ (List.mem_append_left _ (List.mem_append_right _ h)))) (by decide +kernel))
set_option maxRecDepth 20000 in
theorem gL_matches_X5_poolUnits : GoodIn wsL_matches (wsV RL 39 RX5 yX5_poolUnits wsX5_poolUnits) := goodIn_app (goodIn_of _ (by decide +kernel)) ggL_matches_X5_poolUnits
