set_option maxRecDepth 20000 in
theorem ggL_act_X5_proceedsOf : GoodIn wsL_act wsX5_proceedsOf := goodIn_ca (goodIn_r _ [242, 219, 220, 221, 7, 222, 15, 16, 17, 18, 19, 20, 21, 306, 307, 308, 309, 310, 311, 312, 302, 303, 304, 305, 291, 292, 293, 294] (by decide +kernel) (by decide +kernel)) (goodIn_sub (fun _ h => List.mem_cons_of_mem _ (List.mem_append_left _ (List.mem_append_left _ (List.mem_append_right _ h)))) (by decide +kernel))
set_option maxRecDepth 20000 in
theorem gL_act_X5_proceedsOf : GoodIn wsL_act (wsV RL 63 RX5 yX5_proceedsOf wsX5_proceedsOf) := goodIn_app (goodIn_of _ (by decide +kernel)) ggL_act_X5_proceedsOf
set_option maxRecDepth 20000 in
theorem ggL_act_X5_costIn : GoodIn wsL_act wsX5_costIn := goodIn_ca (goodIn_r _ [246, 17, 18, 19, 7, 20, 15, 16, 21, 247, 248, 249, 65, 250, 71, 73, 302, 303, 304, 305, 291, 292, 293, 294, 313, 314, 315, 316, 317, 318, 319, 320, 321, 322] (by decide +kernel) (by decide +kernel)) (goodIn_sub (fun _ h => List.mem_cons_of_mem _ (List.mem_append_left _ (List.mem_append_left _ (List.mem_append_right _ h)))) (by decide +kernel))
set_option maxRecDepth 20000 in
theorem gL_act_X5_costIn : GoodIn wsL_act (wsV RL 66 RX5 yX5_costIn wsX5_costIn) := goodIn_app (goodIn_of _ (by decide +kernel)) ggL_act_X5_costIn
set_option maxRecDepth 20000 in
theorem ggL_act_X5_costMatched : GoodIn wsL_act wsX5_costMatched := goodIn_ca (goodIn_r _ [254, 17, 18, 19, 7, 20, 15, 16, 21, 255, 256, 257, 122, 258, 124, 129, 302, 303, 304, 305, 291, 292, 293, 294, 306, 307, 308, 309, 310, 311, 312] (by decide +kernel) (by decide +kernel)) (goodIn_sub (fun _ h => List.mem_cons_of_mem _ (List.mem_append_left _ (List.mem_append_left _ (List.mem_append_right _ h)))) (by decide +kernel))
set_option maxRecDepth 20000 in
theorem gL_act_X5_costMatched : GoodIn wsL_act (wsV RL 69 RX5 yX5_costMatched wsX5_costMatched) := goodIn_app (goodIn_of _ (by decide +kernel)) ggL_act_X5_costMatched
set_option maxRecDepth 20000 in
theorem ggL_act_X5_matches : GoodIn wsL_act wsX5_matches := goodIn_ca (goodIn_r _ [262, 17, 18, 19, 7, 20, 15, 16, 21, 302, 303, 304, 305, 306, 307, 308, 309, 310, 311, 312, 291, 292, 293, 294] (by decide +kernel) (by decide +kernel)) (goodIn_sub (fun _ h => List.mem_cons_of_mem _ (List.mem_append_left _ (List.mem_append_left _ (List.mem_append_right _ h)))) (by decide +kernel))
set_option maxRecDepth 20000 in
theorem gL_act_X5_matches : GoodIn wsL_act (wsV RL 72 RX5 yX5_matches wsX5_matches) := goodIn_app (goodIn_of _ (by decide +kernel)) ggL_act_X5_matches
set_option maxRecDepth 20000 in
theorem ggL_act_X5_net : GoodIn wsL_act wsX5_net := goodIn_ca (goodIn_r _ [266, 181, 182, 7, 183, 15, 16, 267, 268, 269, 270, 21, 211, 212, 213, 122, 214, 124, 126, 130, 129, 291, 292, 293, 294, 302, 303, 304, 305, 306, 307, 308, 309, 310, 311, 312] (by decide +kernel) (by decide +kernel)) (goodIn_sub (fun _ h => List.mem_cons_of_mem _ (List.mem_append_left _ (List.mem_append_left _ (List.mem_append_right _ h)))) (by decide +kernel))
set_option maxRecDepth 20000 in
theorem gL_act_X5_net : GoodIn wsL_act (wsV RL 75 RX5 yX5_net wsX5_net) := goodIn_app (goodIn_of _ (by decide +kernel)) ggL_act_X5_net
set_option maxRecDepth 20000 in
theorem ggL_act_X5_carried : GoodIn wsL_act wsX5_carried := goodIn_ca (goodIn_r _ [274, 181, 182, 7, 183, 15, 16, 275, 276, 277, 278, 279, 107, 108, 109, 267, 268, 269, 270, 21, 211, 212, 213, 122, 214, 124, 126, 130, 129, 280, 281, 282, 283, 180, 284, 285, 286, 291, 292, 293, 294, 302, 303, 304, 305, 306, 307, 308, 309, 310, 311, 312] (by decide +kernel) (by decide +kernel)) (goodIn_sub (fun _ h => List.mem_cons_of_mem _ (List.mem_append_left _ (List.mem_append_left _ (List.mem_append_right _ h)))) (by decide +kernel))
set_option maxRecDepth 20000 in
theorem gL_act_X5_carried : GoodIn wsL_act (wsV RL 78 RX5 yX5_carried wsX5_carried) := goodIn_app (goodIn_of _ (by decide +kernel)) ggL_act_X5_carried
set_option maxRecDepth 20000 in
theorem ggL_act_X5_taxable : GoodIn wsL_act wsX5_taxable := goodIn_ca (goodIn_r _ [290, 279, 107, 108, 109, 181, 182, 7, 183, 15, 16, 280, 281, 282, 283, 180, 284, 285, 286, 267, 268, 269, 270, 21, 211, 212, 213, 122, 214, 124, 126, 130, 129, 275, 276, 277, 278, 291, 292, 293, 294, 302, 303, 304, 305, 306, 307, 308, 309, 310, 311, 312] (by decide +kernel) (by decide +kernel)) (goodIn_sub (fun _ h => List.mem_cons_of_mem _ (List.mem_append_left _ (List.mem_append_left _ (List.mem_append_right _ h)))) (by decide +kernel))
set_option maxRecDepth 20000 in
theorem gL_act_X5_taxable : GoodIn wsL_act (wsV RL 81 RX5 yX5_taxable wsX5_taxable) := goodIn_app (goodIn_of _ (by decide +kernel)) ggL_act_X5_taxable
