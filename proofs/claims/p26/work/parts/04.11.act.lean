set_option maxRecDepth 20000 in
theorem ggL_act_X5_poolCost : GoodIn wsL_act wsX5_poolCost := goodIn_ca (goodIn_r _ [206, 11, 12, 13, 7, 14, 15, 16, 17, 18, 19, 20, 21, 202, 87, 88, 65, 89, 71, 85, 302, 303, 304, 305, 313, 314, 315, 316, 317, 318, 319, 320, 321, 322, 291, 292, 293, 294] (by decide +kernel) (by decide +kernel)) (goodIn_sub (fun _ h => List.mem_cons_of_mem _ (List.mem_append_left _ (List.mem_append_left _ (List.mem_append_right _ h)))) (by decide +kernel))
set_option maxRecDepth 20000 in
theorem gL_act_X5_poolCost : GoodIn wsL_act (wsV RL 42 RX5 yX5_poolCost wsX5_poolCost) := goodIn_app (goodIn_of _ (by decide +kernel)) ggL_act_X5_poolCost
set_option maxRecDepth 20000 in
theorem ggL_act_X5_gain : GoodIn wsL_act wsX5_gain := goodIn_ca (goodIn_r _ [210, 17, 18, 19, 7, 20, 15, 16, 21, 181, 182, 183, 211, 212, 213, 122, 214, 124, 126, 130, 129, 302, 303, 304, 305, 291, 292, 293, 294, 306, 307, 308, 309, 310, 311, 312] (by decide +kernel) (by decide +kernel)) (goodIn_sub (fun _ h => List.mem_cons_of_mem _ (List.mem_append_left _ (List.mem_append_left _ (List.mem_append_right _ h)))) (by decide +kernel))
set_option maxRecDepth 20000 in
theorem gL_act_X5_gain : GoodIn wsL_act (wsV RL 45 RX5 yX5_gain wsX5_gain) := goodIn_app (goodIn_of _ (by decide +kernel)) ggL_act_X5_gain
set_option maxRecDepth 20000 in
theorem ggL_act_X5_kindOf : GoodIn wsL_act wsX5_kindOf := goodIn_ca (goodIn_r _ [218, 219, 220, 221, 7, 222, 15, 16, 17, 18, 19, 20, 21, 306, 307, 308, 309, 310, 311, 312, 302, 303, 304, 305, 291, 292, 293, 294] (by decide +kernel) (by decide +kernel)) (goodIn_sub (fun _ h => List.mem_cons_of_mem _ (List.mem_append_left _ (List.mem_append_left _ (List.mem_append_right _ h)))) (by decide +kernel))
set_option maxRecDepth 20000 in
theorem gL_act_X5_kindOf : GoodIn wsL_act (wsV RL 48 RX5 yX5_kindOf wsX5_kindOf) := goodIn_app (goodIn_of _ (by decide +kernel)) ggL_act_X5_kindOf
set_option maxRecDepth 20000 in
theorem ggL_act_X5_saleDay : GoodIn wsL_act wsX5_saleDay := goodIn_ca (goodIn_r _ [226, 219, 220, 221, 7, 222, 15, 16, 17, 18, 19, 20, 21, 306, 307, 308, 309, 310, 311, 312, 302, 303, 304, 305, 291, 292, 293, 294] (by decide +kernel) (by decide +kernel)) (goodIn_sub (fun _ h => List.mem_cons_of_mem _ (List.mem_append_left _ (List.mem_append_left _ (List.mem_append_right _ h)))) (by decide +kernel))
set_option maxRecDepth 20000 in
theorem gL_act_X5_saleDay : GoodIn wsL_act (wsV RL 51 RX5 yX5_saleDay wsX5_saleDay) := goodIn_app (goodIn_of _ (by decide +kernel)) ggL_act_X5_saleDay
set_option maxRecDepth 20000 in
theorem ggL_act_X5_buyDay : GoodIn wsL_act wsX5_buyDay := goodIn_ca (goodIn_r _ [230, 219, 220, 221, 7, 222, 15, 16, 17, 18, 19, 20, 21, 306, 307, 308, 309, 310, 311, 312, 302, 303, 304, 305, 291, 292, 293, 294] (by decide +kernel) (by decide +kernel)) (goodIn_sub (fun _ h => List.mem_cons_of_mem _ (List.mem_append_left _ (List.mem_append_left _ (List.mem_append_right _ h)))) (by decide +kernel))
set_option maxRecDepth 20000 in
theorem gL_act_X5_buyDay : GoodIn wsL_act (wsV RL 54 RX5 yX5_buyDay wsX5_buyDay) := goodIn_app (goodIn_of _ (by decide +kernel)) ggL_act_X5_buyDay
set_option maxRecDepth 20000 in
theorem ggL_act_X5_unitsOf : GoodIn wsL_act wsX5_unitsOf := goodIn_ca (goodIn_r _ [234, 219, 220, 221, 7, 222, 15, 16, 17, 18, 19, 20, 21, 306, 307, 308, 309, 310, 311, 312, 302, 303, 304, 305, 291, 292, 293, 294] (by decide +kernel) (by decide +kernel)) (goodIn_sub (fun _ h => List.mem_cons_of_mem _ (List.mem_append_left _ (List.mem_append_left _ (List.mem_append_right _ h)))) (by decide +kernel))
set_option maxRecDepth 20000 in
theorem gL_act_X5_unitsOf : GoodIn wsL_act (wsV RL 57 RX5 yX5_unitsOf wsX5_unitsOf) := goodIn_app (goodIn_of _ (by decide +kernel)) ggL_act_X5_unitsOf
set_option maxRecDepth 20000 in
theorem ggL_act_X5_costOf : GoodIn wsL_act wsX5_costOf := goodIn_ca (goodIn_r _ [238, 219, 220, 221, 7, 222, 15, 16, 17, 18, 19, 20, 21, 306, 307, 308, 309, 310, 311, 312, 302, 303, 304, 305, 291, 292, 293, 294] (by decide +kernel) (by decide +kernel)) (goodIn_sub (fun _ h => List.mem_cons_of_mem _ (List.mem_append_left _ (List.mem_append_left _ (List.mem_append_right _ h)))) (by decide +kernel))
set_option maxRecDepth 20000 in
theorem gL_act_X5_costOf : GoodIn wsL_act (wsV RL 60 RX5 yX5_costOf wsX5_costOf) := goodIn_app (goodIn_of _ (by decide +kernel)) ggL_act_X5_costOf
