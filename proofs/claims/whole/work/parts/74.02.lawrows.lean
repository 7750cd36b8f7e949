set_option maxRecDepth 20000 in
theorem ggL_law_X6_trades : GoodIn wsL_law wsX6_trades := goodIn_r _ [345, 232, 233, 622, 623, 624, 625, 626, 627, 628, 629, 630, 631, 632, 633, 634, 635, 636, 637, 638, 639, 640, 641, 642, 643, 644, 645, 646, 647, 648, 649, 650, 651] (by decide +kernel) (by decide +kernel)
set_option maxRecDepth 20000 in
theorem gL_law_X6_trades : GoodIn wsL_law (wsV RL 122 RX6 yX6_trades wsX6_trades) := goodIn_app (goodIn_of _ (by decide +kernel)) ggL_law_X6_trades
set_option maxRecDepth 20000 in
theorem ggL_law_L_holding : GoodIn wsL_law wsL_holding := goodIn_ca (goodIn_r _ [348, 115, 349, 350, 351, 2, 352, 16, 122, 123, 124, 125, 126, 127, 128, 129, 130, 131, 18, 353, 354, 355, 20, 356, 51, 42, 357, 169, 170, 15, 171, 30, 29, 358, 181, 182, 41, 183, 57, 55, 56, 618, 619, 620, 621, 652, 653, 654, 655, 656, 657, 658, 659, 660, 661, 662, 663, 664, 665] (by decide +kernel) (by decide +kernel)) (goodIn_sub (fun _ h => List.mem_append_left _ (List.mem_append_left _ (List.mem_append_right _ h))) (by decide +kernel))
set_option maxRecDepth 20000 in
theorem gL_law_L_holding : GoodIn wsL_law (va_wsS RL 123 yL_holding wsL_holding) := goodIn_app (goodIn_of _ (by decide +kernel)) ggL_law_L_holding
set_option maxRecDepth 20000 in
theorem ggL_law_X6_holding : GoodIn wsL_law wsX6_holding := goodIn_r _ [362, 363, 364, 365, 5, 366, 232, 234, 235, 236, 237, 238, 239, 240, 241, 242, 247, 248, 249, 250, 233, 90, 85, 86, 87, 89, 251, 252, 253, 254, 91, 92, 93, 622, 623, 624, 625, 626, 627, 628, 629, 630, 631, 632, 633, 634, 635, 636, 637, 638, 639, 640, 641, 642, 643, 644, 645, 646, 647, 648, 649, 650, 651] (by decide +kernel) (by decide +kernel)
set_option maxRecDepth 20000 in
theorem gL_law_X6_holding : GoodIn wsL_law (wsV RL 125 RX6 yX6_holding wsX6_holding) := goodIn_app (goodIn_of _ (by decide +kernel)) ggL_law_X6_holding
set_option maxRecDepth 20000 in
theorem ggL_law_L_poolUnits : GoodIn wsL_law wsL_poolUnits := goodIn_ca (goodIn_r _ [369, 115, 370, 371, 372, 2, 373, 122, 123, 124, 125, 126, 127, 128, 129, 130, 131, 18, 374, 177, 178, 45, 179, 70, 61, 659, 660, 661, 662, 666, 667, 668, 669, 670, 671, 672, 673, 674, 675, 618, 619, 620, 621] (by decide +kernel) (by decide +kernel)) (goodIn_sub (fun _ h => List.mem_append_left _ (List.mem_append_left _ (List.mem_append_right _ h))) (by decide +kernel))
set_option maxRecDepth 20000 in
theorem gL_law_L_poolUnits : GoodIn wsL_law (va_wsS RL 126 yL_poolUnits wsL_poolUnits) := goodIn_app (goodIn_of _ (by decide +kernel)) ggL_law_L_poolUnits
set_option maxRecDepth 20000 in
theorem ggL_law_X6_poolUnits : GoodIn wsL_law wsX6_poolUnits := goodIn_r _ [378, 103, 363, 364, 365, 5, 366, 232, 234, 235, 236, 237, 238, 239, 240, 241, 242, 379, 380, 381, 382, 383, 384, 96, 95, 385, 386, 387, 388, 233, 90, 85, 86, 97, 98, 99, 100, 87, 89, 88, 101, 102, 251, 252, 253, 254, 91, 92, 93, 389, 390, 391, 392, 105, 106, 107, 108, 109, 110, 393, 394, 395, 396, 397, 398, 399, 104, 400, 401, 402, 403, 622, 623, 624, 625, 626, 627, 628, 629, 630, 631, 632, 633, 634, 635, 636, 637, 638, 639, 640, 641, 642, 643, 644, 645, 646, 647, 648, 649, 650, 651] (by decide +kernel) (by decide +kernel)
set_option maxRecDepth 20000 in
theorem gL_law_X6_poolUnits : GoodIn wsL_law (wsV RL 128 RX6 yX6_poolUnits wsX6_poolUnits) := goodIn_app (goodIn_of _ (by decide +kernel)) ggL_law_X6_poolUnits
set_option maxRecDepth 20000 in
theorem ggL_law_L_poolCost : GoodIn wsL_law wsL_poolCost := goodIn_ca (goodIn_r _ [406, 115, 407, 408, 409, 2, 410, 122, 123, 124, 125, 126, 127, 128, 129, 130, 131, 18, 374, 177, 178, 45, 179, 70, 61, 659, 660, 661, 662, 666, 667, 668, 669, 670, 671, 672, 673, 674, 675, 618, 619, 620, 621] (by decide +kernel) (by decide +kernel)) (goodIn_sub (fun _ h => List.mem_append_left _ (List.mem_append_left _ (List.mem_append_right _ h))) (by decide +kernel))
set_option maxRecDepth 20000 in
theorem gL_law_L_poolCost : GoodIn wsL_law (va_wsS RL 129 yL_poolCost wsL_poolCost) := goodIn_app (goodIn_of _ (by decide +kernel)) ggL_law_L_poolCost
set_option maxRecDepth 20000 in
theorem ggL_law_X6_poolCost : GoodIn wsL_law wsX6_poolCost := goodIn_r _ [414, 104, 363, 364, 365, 5, 366, 232, 234, 235, 236, 237, 238, 239, 240, 241, 242, 379, 380, 381, 382, 383, 384, 96, 95, 385, 386, 387, 388, 233, 90, 85, 86, 97, 98, 99, 100, 87, 89, 88, 101, 102, 251, 252, 253, 254, 91, 92, 93, 389, 390, 391, 392, 105, 106, 107, 108, 109, 110, 393, 394, 395, 396, 397, 398, 399, 103, 400, 401, 402, 403, 622, 623, 624, 625, 626, 627, 628, 629, 630, 631, 632, 633, 634, 635, 636, 637, 638, 639, 640, 641, 642, 643, 644, 645, 646, 647, 648, 649, 650, 651] (by decide +kernel) (by decide +kernel)
set_option maxRecDepth 20000 in
theorem gL_law_X6_poolCost : GoodIn wsL_law (wsV RL 131 RX6 yX6_poolCost wsX6_poolCost) := goodIn_app (goodIn_of _ (by decide +kernel)) ggL_law_X6_poolCost
set_option maxRecDepth 20000 in
theorem ggL_law_L_costIn : GoodIn wsL_law wsL_costIn := goodIn_ca (goodIn_r _ [417, 115, 418, 419, 420, 2, 421, 128, 129, 130, 131, 126, 127, 18, 422, 423, 424, 45, 425, 70, 64, 659, 660, 661, 662, 618, 619, 620, 621, 666, 667, 668, 669, 670, 671, 672, 673, 674, 675] (by decide +kernel) (by decide +kernel)) (goodIn_sub (fun _ h => List.mem_append_left _ (List.mem_append_left _ (List.mem_append_right _ h))) (by decide +kernel))
set_option maxRecDepth 20000 in
theorem gL_law_L_costIn : GoodIn wsL_law (va_wsS RL 132 yL_costIn wsL_costIn) := goodIn_app (goodIn_of _ (by decide +kernel)) ggL_law_L_costIn
