set_option maxRecDepth 20000 in
theorem ggL_is_X5_kindOf : GoodIn wsL_is wsX5_kindOf := goodIn_ca (goodIn_r _ [5, 6, 7, 8, 4, 9, 10, 11, 12, 13, 14, 15, 16, 37, 38, 39, 40, 41, 42, 43, 44, 45, 46, 47, 48, 49, 50, 51] (by decide +kernel) (by decide +kernel)) (goodIn_sub (fun _ h => List.mem_cons_of_mem _ (List.mem_append_right _ h)) (by decide +kernel))
set_option maxRecDepth 20000 in
theorem gL_is_X5_kindOf : GoodIn wsL_is (wsV RL 48 RX5 yX5_kindOf wsX5_kindOf) := goodIn_app (goodIn_of _ (by decide +kernel)) ggL_is_X5_kindOf
set_option maxRecDepth 20000 in
theorem ggL_is_X5_saleDay : GoodIn wsL_is wsX5_saleDay := goodIn_ca (goodIn_r _ [20, 6, 7, 8, 4, 9, 10, 11, 12, 13, 14, 15, 16, 37, 38, 39, 40, 41, 42, 43, 44, 45, 46, 47, 48, 49, 50, 51] (by decide +kernel) (by decide +kernel)) (goodIn_sub (fun _ h => List.mem_cons_of_mem _ (List.mem_append_right _ h)) (by decide +kernel))
set_option maxRecDepth 20000 in
theorem gL_is_X5_saleDay : GoodIn wsL_is (wsV RL 51 RX5 yX5_saleDay wsX5_saleDay) := goodIn_app (goodIn_of _ (by decide +kernel)) ggL_is_X5_saleDay
set_option maxRecDepth 20000 in
theorem ggL_is_X5_buyDay : GoodIn wsL_is wsX5_buyDay := goodIn_ca (goodIn_r _ [24, 6, 7, 8, 4, 9, 10, 11, 12, 13, 14, 15, 16, 37, 38, 39, 40, 41, 42, 43, 44, 45, 46, 47, 48, 49, 50, 51] (by decide +kernel) (by decide +kernel)) (goodIn_sub (fun _ h => List.mem_cons_of_mem _ (List.mem_append_right _ h)) (by decide +kernel))
set_option maxRecDepth 20000 in
theorem gL_is_X5_buyDay : GoodIn wsL_is (wsV RL 54 RX5 yX5_buyDay wsX5_buyDay) := goodIn_app (goodIn_of _ (by decide +kernel)) ggL_is_X5_buyDay
set_option maxRecDepth 20000 in
theorem ggL_is_X5_unitsOf : GoodIn wsL_is wsX5_unitsOf := goodIn_ca (goodIn_r _ [28, 6, 7, 8, 4, 9, 10, 11, 12, 13, 14, 15, 16, 37, 38, 39, 40, 41, 42, 43, 44, 45, 46, 47, 48, 49, 50, 51] (by decide +kernel) (by decide +kernel)) (goodIn_sub (fun _ h => List.mem_cons_of_mem _ (List.mem_append_right _ h)) (by decide +kernel))
set_option maxRecDepth 20000 in
theorem gL_is_X5_unitsOf : GoodIn wsL_is (wsV RL 57 RX5 yX5_unitsOf wsX5_unitsOf) := goodIn_app (goodIn_of _ (by decide +kernel)) ggL_is_X5_unitsOf
set_option maxRecDepth 20000 in
theorem ggL_is_X5_costOf : GoodIn wsL_is wsX5_costOf := goodIn_ca (goodIn_r _ [32, 6, 7, 8, 4, 9, 10, 11, 12, 13, 14, 15, 16, 37, 38, 39, 40, 41, 42, 43, 44, 45, 46, 47, 48, 49, 50, 51] (by decide +kernel) (by decide +kernel)) (goodIn_sub (fun _ h => List.mem_cons_of_mem _ (List.mem_append_right _ h)) (by decide +kernel))
set_option maxRecDepth 20000 in
theorem gL_is_X5_costOf : GoodIn wsL_is (wsV RL 60 RX5 yX5_costOf wsX5_costOf) := goodIn_app (goodIn_of _ (by decide +kernel)) ggL_is_X5_costOf
set_option maxRecDepth 20000 in
theorem ggL_is_X5_proceedsOf : GoodIn wsL_is wsX5_proceedsOf := goodIn_ca (goodIn_r _ [36, 6, 7, 8, 4, 9, 10, 11, 12, 13, 14, 15, 16, 37, 38, 39, 40, 41, 42, 43, 44, 45, 46, 47, 48, 49, 50, 51] (by decide +kernel) (by decide +kernel)) (goodIn_sub (fun _ h => List.mem_cons_of_mem _ (List.mem_append_right _ h)) (by decide +kernel))
set_option maxRecDepth 20000 in
theorem gL_is_X5_proceedsOf : GoodIn wsL_is (wsV RL 63 RX5 yX5_proceedsOf wsX5_proceedsOf) := goodIn_app (goodIn_of _ (by decide +kernel)) ggL_is_X5_proceedsOf
