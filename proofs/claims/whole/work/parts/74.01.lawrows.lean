set_option maxRecDepth 20000 in
theorem ggL_law_X6_split : GoodIn wsL_law wsX6_split := goodIn_r _ [301, 232, 91, 92, 93, 234, 235, 5, 236, 237, 238, 239, 240, 241, 242, 622, 623, 624, 625, 626, 627, 628, 629, 630, 631, 632, 633, 634, 635, 636, 637, 638, 639, 640, 641, 642, 643, 644, 645, 646, 647, 648, 649, 650, 651] (by decide +kernel) (by decide +kernel)
set_option maxRecDepth 20000 in
theorem gL_law_X6_split : GoodIn wsL_law (wsV RL 106 RX6 yX6_split wsX6_split) := goodIn_app (goodIn_of _ (by decide +kernel)) ggL_law_X6_split
set_option maxRecDepth 20000 in
theorem ggL_law_L_cancel : GoodIn wsL_law wsL_cancel := goodIn_ca (goodIn_ca (goodIn_r _ [304, 115, 117, 305, 306, 307, 2, 308, 126, 127, 145, 146, 16, 23, 122, 123, 124, 125, 128, 129, 130, 131, 18, 266, 267, 268, 269, 181, 182, 41, 183, 57, 55, 56, 270, 271, 272, 45, 273, 70, 61, 62, 65, 192, 193, 194, 195, 156, 157, 158, 20, 159, 46, 51, 42, 50, 160, 161, 162, 163, 164, 165, 166, 167, 64, 67, 168, 169, 170, 15, 171, 30, 29, 172, 173, 174, 175, 176, 177, 178, 179, 180, 184, 185, 186, 187, 188, 189, 190, 191, 63, 66, 196, 197, 198, 199, 200, 201, 202, 203, 204, 205, 49, 206, 80, 74, 75, 76, 77, 78, 79, 207, 208, 209, 210, 211, 212, 213, 214, 215, 216, 217, 218, 219, 220, 221, 222, 618, 619, 620, 621, 652, 653, 654, 655, 656, 657, 658, 659, 660, 661, 662, 663, 664, 665, 666, 667, 668, 669, 670, 671, 672, 673, 674, 675, 676, 677, 678, 679, 680, 681, 682] (by decide +kernel) (by decide +kernel)) (goodIn_sub (fun _ h => List.mem_append_left _ (List.mem_append_left _ (List.mem_append_right _ h))) (by decide +kernel))) (goodIn_sub (fun _ h => List.mem_append_right _ h) (by decide +kernel))
set_option maxRecDepth 20000 in
theorem gL_law_L_cancel : GoodIn wsL_law (va_wsS RL 107 yL_cancel wsL_cancel) := goodIn_app (goodIn_of _ (by decide +kernel)) ggL_law_L_cancel
set_option maxRecDepth 20000 in
theorem ggL_law_X6_cancel : GoodIn wsL_law wsX6_cancel := goodIn_r _ [312, 233, 90, 232, 85, 237, 238, 5, 239, 243, 244, 245, 246, 86, 247, 248, 249, 250, 87, 89, 251, 252, 253, 254, 91, 92, 93, 622, 623, 624, 625, 626, 627, 628, 629, 630, 631, 632, 633, 634, 635, 636, 637, 638, 639, 640, 641, 642, 643, 644, 645, 646, 647, 648, 649, 650, 651] (by decide +kernel) (by decide +kernel)
set_option maxRecDepth 20000 in
theorem gL_law_X6_cancel : GoodIn wsL_law (wsV RL 110 RX6 yX6_cancel wsX6_cancel) := goodIn_app (goodIn_of _ (by decide +kernel)) ggL_law_X6_cancel
set_option maxRecDepth 20000 in
theorem ggL_law_L_setAllowance : GoodIn wsL_law wsL_setAllowance := goodIn_ca (goodIn_ca (goodIn_r _ [315, 115, 116, 316, 317, 318, 2, 319, 22, 320, 321, 322, 126, 127, 137, 138, 139, 135, 136, 140, 618, 619, 620, 621] (by decide +kernel) (by decide +kernel)) (goodIn_sub (fun _ h => List.mem_append_left _ (List.mem_append_left _ (List.mem_append_right _ h))) (by decide +kernel))) (goodIn_sub (fun _ h => List.mem_append_left _ (List.mem_append_right _ h)) (by decide +kernel))
set_option maxRecDepth 20000 in
theorem gL_law_L_setAllowance : GoodIn wsL_law (va_wsS RL 111 yL_setAllowance wsL_setAllowance) := goodIn_app (goodIn_of _ (by decide +kernel)) ggL_law_L_setAllowance
set_option maxRecDepth 20000 in
theorem ggL_law_X6_setAllowance : GoodIn wsL_law wsX6_setAllowance := goodIn_r _ [326, 231, 232, 94, 237, 238, 5, 239, 622, 623, 624, 625, 626, 627, 628, 629, 630, 631, 632, 633, 634, 635, 636, 637, 638, 639, 640, 641, 642, 643, 644, 645, 646, 647, 648, 649, 650, 651] (by decide +kernel) (by decide +kernel)
set_option maxRecDepth 20000 in
theorem gL_law_X6_setAllowance : GoodIn wsL_law (wsV RL 114 RX6 yX6_setAllowance wsX6_setAllowance) := goodIn_app (goodIn_of _ (by decide +kernel)) ggL_law_X6_setAllowance
set_option maxRecDepth 20000 in
theorem ggL_law_L_setWindow : GoodIn wsL_law wsL_setWindow := goodIn_ca (goodIn_r _ [329, 116, 330, 331, 332, 2, 333, 135, 136, 23, 18, 16, 156, 157, 158, 20, 159, 46, 51, 42, 50, 160, 161, 162, 45, 163, 164, 165, 166, 167, 70, 62, 64, 65, 67, 168, 169, 170, 15, 171, 30, 29, 172, 173, 174, 175, 61, 176, 177, 178, 179, 180, 181, 182, 41, 183, 57, 55, 56, 184, 185, 186, 187, 188, 189, 190, 191, 192, 193, 194, 195, 63, 66, 196, 197, 198, 199, 200, 201, 202, 203, 204, 205, 49, 206, 80, 74, 75, 76, 77, 78, 79, 207, 208, 209, 210, 211, 212, 213, 214, 215, 216, 217, 218, 219, 220, 221, 222, 618, 619, 620, 621, 659, 660, 661, 662, 676, 677, 678, 679, 680, 681, 682, 666, 667, 668, 669, 670, 671, 672, 673, 674, 675, 652, 653, 654, 655, 656, 657, 658, 663, 664, 665] (by decide +kernel) (by decide +kernel)) (goodIn_sub (fun _ h => List.mem_append_left _ (List.mem_append_right _ h)) (by decide +kernel))
set_option maxRecDepth 20000 in
theorem gL_law_L_setWindow : GoodIn wsL_law (va_wsS RL 115 yL_setWindow wsL_setWindow) := goodIn_app (goodIn_of _ (by decide +kernel)) ggL_law_L_setWindow
set_option maxRecDepth 20000 in
theorem ggL_law_X6_setWindow : GoodIn wsL_law wsX6_setWindow := goodIn_r _ [337, 232, 95, 237, 238, 5, 239, 622, 623, 624, 625, 626, 627, 628, 629, 630, 631, 632, 633, 634, 635, 636, 637, 638, 639, 640, 641, 642, 643, 644, 645, 646, 647, 648, 649, 650, 651] (by decide +kernel) (by decide +kernel)
set_option maxRecDepth 20000 in
theorem gL_law_X6_setWindow : GoodIn wsL_law (wsV RL 118 RX6 yX6_setWindow wsX6_setWindow) := goodIn_app (goodIn_of _ (by decide +kernel)) ggL_law_X6_setWindow
set_option maxRecDepth 20000 in
theorem ggL_law_X5_trades : GoodIn wsL_law wsX5_trades := goodIn_r _ [341, 16, 618, 619, 620, 621, 652, 653, 654, 655, 656, 657, 658] (by decide +kernel) (by decide +kernel)
set_option maxRecDepth 20000 in
theorem gL_law_X5_trades : GoodIn wsL_law (wsV RL 119 RX5 yX5_trades wsX5_trades) := goodIn_app (goodIn_of _ (by decide +kernel)) ggL_law_X5_trades
