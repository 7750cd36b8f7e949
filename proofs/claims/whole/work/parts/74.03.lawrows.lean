set_option maxRecDepth 20000 in
theorem ggL_law_X6_costIn : GoodIn wsL_law wsX6_costIn := goodIn_r _ [429, 232, 233, 90, 85, 89, 88, 234, 235, 5, 236, 237, 238, 239, 622, 623, 624, 625, 626, 627, 628, 629, 630, 631, 632, 633, 634, 635, 636, 637, 638, 639, 640, 641, 642, 643, 644, 645, 646, 647, 648, 649, 650, 651] (by decide +kernel) (by decide +kernel)
set_option maxRecDepth 20000 in
theorem gL_law_X6_costIn : GoodIn wsL_law (wsV RL 134 RX6 yX6_costIn wsX6_costIn) := goodIn_app (goodIn_of _ (by decide +kernel)) ggL_law_X6_costIn
set_option maxRecDepth 20000 in
theorem ggL_law_L_costMatched : GoodIn wsL_law wsL_costMatched := goodIn_ca (goodIn_r _ [432, 115, 433, 434, 435, 2, 436, 128, 129, 130, 131, 126, 127, 18, 437, 438, 439, 49, 440, 80, 78, 659, 660, 661, 662, 618, 619, 620, 621, 676, 677, 678, 679, 680, 681, 682] (by decide +kernel) (by decide +kernel)) (goodIn_sub (fun _ h => List.mem_append_left _ (List.mem_append_left _ (List.mem_append_right _ h))) (by decide +kernel))
set_option maxRecDepth 20000 in
theorem gL_law_L_costMatched : GoodIn wsL_law (va_wsS RL 135 yL_costMatched wsL_costMatched) := goodIn_app (goodIn_of _ (by decide +kernel)) ggL_law_L_costMatched
set_option maxRecDepth 20000 in
theorem ggL_law_X6_costMatched : GoodIn wsL_law wsX6_costMatched := goodIn_r _ [444, 232, 383, 109, 234, 235, 5, 236, 237, 238, 239, 379, 380, 381, 382, 384, 96, 95, 385, 386, 387, 388, 233, 90, 85, 86, 97, 98, 99, 100, 87, 89, 88, 101, 102, 251, 252, 253, 254, 91, 92, 93, 389, 390, 391, 392, 105, 106, 107, 108, 110, 393, 394, 395, 396, 397, 398, 399, 103, 104, 622, 623, 624, 625, 626, 627, 628, 629, 630, 631, 632, 633, 634, 635, 636, 637, 638, 639, 640, 641, 642, 643, 644, 645, 646, 647, 648, 649, 650, 651] (by decide +kernel) (by decide +kernel)
set_option maxRecDepth 20000 in
theorem gL_law_X6_costMatched : GoodIn wsL_law (wsV RL 137 RX6 yX6_costMatched wsX6_costMatched) := goodIn_app (goodIn_of _ (by decide +kernel)) ggL_law_X6_costMatched
set_option maxRecDepth 20000 in
theorem ggL_law_L_matches : GoodIn wsL_law wsL_matches := goodIn_ca (goodIn_r _ [447, 115, 448, 449, 450, 2, 451, 128, 129, 130, 131, 126, 127, 18, 659, 660, 661, 662, 676, 677, 678, 679, 680, 681, 682, 618, 619, 620, 621] (by decide +kernel) (by decide +kernel)) (goodIn_sub (fun _ h => List.mem_append_left _ (List.mem_append_left _ (List.mem_append_right _ h))) (by decide +kernel))
set_option maxRecDepth 20000 in
theorem gL_law_L_matches : GoodIn wsL_law (va_wsS RL 138 yL_matches wsL_matches) := goodIn_app (goodIn_of _ (by decide +kernel)) ggL_law_L_matches
set_option maxRecDepth 20000 in
theorem ggL_law_X6_matches : GoodIn wsL_law wsX6_matches := goodIn_r _ [455, 232, 383, 234, 235, 5, 236, 237, 238, 239, 379, 380, 381, 382, 384, 96, 95, 385, 386, 387, 388, 233, 90, 85, 86, 97, 98, 99, 100, 87, 89, 88, 101, 102, 251, 252, 253, 254, 91, 92, 93, 389, 390, 391, 392, 105, 106, 107, 108, 109, 110, 393, 394, 395, 396, 397, 398, 399, 103, 104, 622, 623, 624, 625, 626, 627, 628, 629, 630, 631, 632, 633, 634, 635, 636, 637, 638, 639, 640, 641, 642, 643, 644, 645, 646, 647, 648, 649, 650, 651] (by decide +kernel) (by decide +kernel)
set_option maxRecDepth 20000 in
theorem gL_law_X6_matches : GoodIn wsL_law (wsV RL 140 RX6 yX6_matches wsX6_matches) := goodIn_app (goodIn_of _ (by decide +kernel)) ggL_law_X6_matches
set_option maxRecDepth 20000 in
theorem ggL_law_L_kindOf : GoodIn wsL_law wsL_kindOf := goodIn_ca (goodIn_r _ [458, 115, 459, 460, 461, 2, 462, 463, 464, 465, 466, 126, 127, 128, 129, 130, 131, 18, 676, 677, 678, 679, 680, 681, 682, 659, 660, 661, 662, 618, 619, 620, 621] (by decide +kernel) (by decide +kernel)) (goodIn_sub (fun _ h => List.mem_append_left _ (List.mem_append_left _ (List.mem_append_right _ h))) (by decide +kernel))
set_option maxRecDepth 20000 in
theorem gL_law_L_kindOf : GoodIn wsL_law (va_wsS RL 141 yL_kindOf wsL_kindOf) := goodIn_app (goodIn_of _ (by decide +kernel)) ggL_law_L_kindOf
set_option maxRecDepth 20000 in
theorem ggL_law_X6_kindOf : GoodIn wsL_law wsX6_kindOf := goodIn_r _ [470, 107, 471, 472, 473, 5, 474, 232, 383, 234, 235, 236, 237, 238, 239, 379, 380, 381, 382, 384, 96, 95, 385, 386, 387, 388, 233, 90, 85, 86, 97, 98, 99, 100, 87, 89, 88, 101, 102, 251, 252, 253, 254, 91, 92, 93, 389, 390, 391, 392, 105, 106, 108, 109, 110, 393, 394, 395, 396, 397, 398, 399, 103, 104, 475, 476, 477, 478, 622, 623, 624, 625, 626, 627, 628, 629, 630, 631, 632, 633, 634, 635, 636, 637, 638, 639, 640, 641, 642, 643, 644, 645, 646, 647, 648, 649, 650, 651] (by decide +kernel) (by decide +kernel)
set_option maxRecDepth 20000 in
theorem gL_law_X6_kindOf : GoodIn wsL_law (wsV RL 143 RX6 yX6_kindOf wsX6_kindOf) := goodIn_app (goodIn_of _ (by decide +kernel)) ggL_law_X6_kindOf
set_option maxRecDepth 20000 in
theorem ggL_law_L_saleDay : GoodIn wsL_law wsL_saleDay := goodIn_ca (goodIn_r _ [481, 115, 482, 483, 484, 2, 485, 463, 464, 465, 466, 126, 127, 128, 129, 130, 131, 18, 676, 677, 678, 679, 680, 681, 682, 659, 660, 661, 662, 618, 619, 620, 621] (by decide +kernel) (by decide +kernel)) (goodIn_sub (fun _ h => List.mem_append_left _ (List.mem_append_left _ (List.mem_append_right _ h))) (by decide +kernel))
set_option maxRecDepth 20000 in
theorem gL_law_L_saleDay : GoodIn wsL_law (va_wsS RL 144 yL_saleDay wsL_saleDay) := goodIn_app (goodIn_of _ (by decide +kernel)) ggL_law_L_saleDay
