set_option maxRecDepth 20000 in
theorem ggL_law_X6_saleDay : GoodIn wsL_law wsX6_saleDay := goodIn_r _ [489, 96, 105, 471, 472, 473, 5, 474, 232, 383, 234, 235, 236, 237, 238, 239, 379, 380, 381, 382, 384, 95, 385, 386, 387, 388, 233, 90, 85, 86, 97, 98, 99, 100, 87, 89, 88, 101, 102, 251, 252, 253, 254, 91, 92, 93, 389, 390, 391, 392, 106, 107, 108, 109, 110, 393, 394, 395, 396, 397, 398, 399, 103, 104, 475, 476, 477, 478, 622, 623, 624, 625, 626, 627, 628, 629, 630, 631, 632, 633, 634, 635, 636, 637, 638, 639, 640, 641, 642, 643, 644, 645, 646, 647, 648, 649, 650, 651] (by decide +kernel) (by decide +kernel)
set_option maxRecDepth 20000 in
theorem gL_law_X6_saleDay : GoodIn wsL_law (wsV RL 146 RX6 yX6_saleDay wsX6_saleDay) := goodIn_app (goodIn_of _ (by decide +kernel)) ggL_law_X6_saleDay
set_option maxRecDepth 20000 in
theorem ggL_law_L_buyDay : GoodIn wsL_law wsL_buyDay := goodIn_ca (goodIn_r _ [492, 115, 493, 494, 495, 2, 496, 463, 464, 465, 466, 126, 127, 128, 129, 130, 131, 18, 676, 677, 678, 679, 680, 681, 682, 659, 660, 661, 662, 618, 619, 620, 621] (by decide +kernel) (by decide +kernel)) (goodIn_sub (fun _ h => List.mem_append_left _ (List.mem_append_left _ (List.mem_append_right _ h))) (by decide +kernel))
set_option maxRecDepth 20000 in
theorem gL_law_L_buyDay : GoodIn wsL_law (va_wsS RL 147 yL_buyDay wsL_buyDay) := goodIn_app (goodIn_of _ (by decide +kernel)) ggL_law_L_buyDay
set_option maxRecDepth 20000 in
theorem ggL_law_X6_buyDay : GoodIn wsL_law wsX6_buyDay := goodIn_r _ [500, 106, 96, 471, 472, 473, 5, 474, 232, 383, 234, 235, 236, 237, 238, 239, 379, 380, 381, 382, 384, 95, 385, 386, 387, 388, 233, 90, 85, 86, 97, 98, 99, 100, 87, 89, 88, 101, 102, 251, 252, 253, 254, 91, 92, 93, 389, 390, 391, 392, 105, 107, 108, 109, 110, 393, 394, 395, 396, 397, 398, 399, 103, 104, 475, 476, 477, 478, 622, 623, 624, 625, 626, 627, 628, 629, 630, 631, 632, 633, 634, 635, 636, 637, 638, 639, 640, 641, 642, 643, 644, 645, 646, 647, 648, 649, 650, 651] (by decide +kernel) (by decide +kernel)
set_option maxRecDepth 20000 in
theorem gL_law_X6_buyDay : GoodIn wsL_law (wsV RL 149 RX6 yX6_buyDay wsX6_buyDay) := goodIn_app (goodIn_of _ (by decide +kernel)) ggL_law_X6_buyDay
set_option maxRecDepth 20000 in
theorem ggL_law_L_unitsOf : GoodIn wsL_law wsL_unitsOf := goodIn_ca (goodIn_r _ [503, 115, 504, 505, 506, 2, 507, 463, 464, 465, 466, 126, 127, 128, 129, 130, 131, 18, 676, 677, 678, 679, 680, 681, 682, 659, 660, 661, 662, 618, 619, 620, 621] (by decide +kernel) (by decide +kernel)) (goodIn_sub (fun _ h => List.mem_append_left _ (List.mem_append_left _ (List.mem_append_right _ h))) (by decide +kernel))
set_option maxRecDepth 20000 in
theorem gL_law_L_unitsOf : GoodIn wsL_law (va_wsS RL 150 yL_unitsOf wsL_unitsOf) := goodIn_app (goodIn_of _ (by decide +kernel)) ggL_law_L_unitsOf
set_option maxRecDepth 20000 in
theorem ggL_law_X6_unitsOf : GoodIn wsL_law wsX6_unitsOf := goodIn_r _ [511, 108, 471, 472, 473, 5, 474, 232, 383, 234, 235, 236, 237, 238, 239, 379, 380, 381, 382, 384, 96, 95, 385, 386, 387, 388, 233, 90, 85, 86, 97, 98, 99, 100, 87, 89, 88, 101, 102, 251, 252, 253, 254, 91, 92, 93, 389, 390, 391, 392, 105, 106, 107, 109, 110, 393, 394, 395, 396, 397, 398, 399, 103, 104, 475, 476, 477, 478, 622, 623, 624, 625, 626, 627, 628, 629, 630, 631, 632, 633, 634, 635, 636, 637, 638, 639, 640, 641, 642, 643, 644, 645, 646, 647, 648, 649, 650, 651] (by decide +kernel) (by decide +kernel)
set_option maxRecDepth 20000 in
theorem gL_law_X6_unitsOf : GoodIn wsL_law (wsV RL 152 RX6 yX6_unitsOf wsX6_unitsOf) := goodIn_app (goodIn_of _ (by decide +kernel)) ggL_law_X6_unitsOf
set_option maxRecDepth 20000 in
theorem ggL_law_L_costOf : GoodIn wsL_law wsL_costOf := goodIn_ca (goodIn_r _ [514, 115, 515, 516, 517, 2, 518, 463, 464, 465, 466, 126, 127, 128, 129, 130, 131, 18, 676, 677, 678, 679, 680, 681, 682, 659, 660, 661, 662, 618, 619, 620, 621] (by decide +kernel) (by decide +kernel)) (goodIn_sub (fun _ h => List.mem_append_left _ (List.mem_append_left _ (List.mem_append_right _ h))) (by decide +kernel))
set_option maxRecDepth 20000 in
theorem gL_law_L_costOf : GoodIn wsL_law (va_wsS RL 153 yL_costOf wsL_costOf) := goodIn_app (goodIn_of _ (by decide +kernel)) ggL_law_L_costOf
set_option maxRecDepth 20000 in
theorem ggL_law_X6_costOf : GoodIn wsL_law wsX6_costOf := goodIn_r _ [522, 109, 471, 472, 473, 5, 474, 232, 383, 234, 235, 236, 237, 238, 239, 379, 380, 381, 382, 384, 96, 95, 385, 386, 387, 388, 233, 90, 85, 86, 97, 98, 99, 100, 87, 89, 88, 101, 102, 251, 252, 253, 254, 91, 92, 93, 389, 390, 391, 392, 105, 106, 107, 108, 110, 393, 394, 395, 396, 397, 398, 399, 103, 104, 475, 476, 477, 478, 622, 623, 624, 625, 626, 627, 628, 629, 630, 631, 632, 633, 634, 635, 636, 637, 638, 639, 640, 641, 642, 643, 644, 645, 646, 647, 648, 649, 650, 651] (by decide +kernel) (by decide +kernel)
set_option maxRecDepth 20000 in
theorem gL_law_X6_costOf : GoodIn wsL_law (wsV RL 155 RX6 yX6_costOf wsX6_costOf) := goodIn_app (goodIn_of _ (by decide +kernel)) ggL_law_X6_costOf
set_option maxRecDepth 20000 in
theorem ggL_law_L_proceedsOf : GoodIn wsL_law wsL_proceedsOf := goodIn_ca (goodIn_r _ [525, 115, 526, 527, 528, 2, 529, 463, 464, 465, 466, 126, 127, 128, 129, 130, 131, 18, 676, 677, 678, 679, 680, 681, 682, 659, 660, 661, 662, 618, 619, 620, 621] (by decide +kernel) (by decide +kernel)) (goodIn_sub (fun _ h => List.mem_append_left _ (List.mem_append_left _ (List.mem_append_right _ h))) (by decide +kernel))
set_option maxRecDepth 20000 in
theorem gL_law_L_proceedsOf : GoodIn wsL_law (va_wsS RL 156 yL_proceedsOf wsL_proceedsOf) := goodIn_app (goodIn_of _ (by decide +kernel)) ggL_law_L_proceedsOf
