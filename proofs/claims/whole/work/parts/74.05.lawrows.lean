set_option maxRecDepth 20000 in
theorem ggL_law_X6_proceedsOf : GoodIn wsL_law wsX6_proceedsOf := goodIn_r _ [533, 110, 471, 472, 473, 5, 474, 232, 383, 234, 235, 236, 237, 238, 239, 379, 380, 381, 382, 384, 96, 95, 385, 386, 387, 388, 233, 90, 85, 86, 97, 98, 99, 100, 87, 89, 88, 101, 102, 251, 252, 253, 254, 91, 92, 93, 389, 390, 391, 392, 105, 106, 107, 108, 109, 393, 394, 395, 396, 397, 398, 399, 103, 104, 475, 476, 477, 478, 622, 623, 624, 625, 626, 627, 628, 629, 630, 631, 632, 633, 634, 635, 636, 637, 638, 639, 640, 641, 642, 643, 644, 645, 646, 647, 648, 649, 650, 651] (by decide +kernel) (by decide +kernel)
set_option maxRecDepth 20000 in
theorem gL_law_X6_proceedsOf : GoodIn wsL_law (wsV RL 158 RX6 yX6_proceedsOf wsX6_proceedsOf) := goodIn_app (goodIn_of _ (by decide +kernel)) ggL_law_X6_proceedsOf
set_option maxRecDepth 20000 in
theorem ggL_law_L_gain : GoodIn wsL_law wsL_gain := goodIn_ca (goodIn_r _ [536, 115, 537, 538, 539, 2, 540, 128, 129, 130, 131, 126, 127, 18, 320, 321, 322, 541, 542, 543, 49, 544, 80, 75, 79, 78, 659, 660, 661, 662, 618, 619, 620, 621, 676, 677, 678, 679, 680, 681, 682] (by decide +kernel) (by decide +kernel)) (goodIn_sub (fun _ h => List.mem_append_left _ (List.mem_append_left _ (List.mem_append_right _ h))) (by decide +kernel))
set_option maxRecDepth 20000 in
theorem gL_law_L_gain : GoodIn wsL_law (va_wsS RL 159 yL_gain wsL_gain) := goodIn_app (goodIn_of _ (by decide +kernel)) ggL_law_L_gain
set_option maxRecDepth 20000 in
theorem ggL_law_X6_gain : GoodIn wsL_law wsX6_gain := goodIn_r _ [548, 232, 234, 235, 5, 236, 237, 238, 239, 549, 550, 551, 552, 383, 96, 105, 110, 109, 379, 380, 381, 382, 384, 95, 385, 386, 387, 388, 233, 90, 85, 86, 97, 98, 99, 100, 87, 89, 88, 101, 102, 251, 252, 253, 254, 91, 92, 93, 389, 390, 391, 392, 106, 107, 108, 393, 394, 395, 396, 397, 398, 399, 103, 104, 622, 623, 624, 625, 626, 627, 628, 629, 630, 631, 632, 633, 634, 635, 636, 637, 638, 639, 640, 641, 642, 643, 644, 645, 646, 647, 648, 649, 650, 651] (by decide +kernel) (by decide +kernel)
set_option maxRecDepth 20000 in
theorem gL_law_X6_gain : GoodIn wsL_law (wsV RL 161 RX6 yX6_gain wsX6_gain) := goodIn_app (goodIn_of _ (by decide +kernel)) ggL_law_X6_gain
set_option maxRecDepth 20000 in
theorem ggL_law_L_net : GoodIn wsL_law wsL_net := goodIn_ca (goodIn_r _ [555, 115, 556, 557, 558, 2, 559, 320, 321, 322, 126, 127, 560, 561, 562, 563, 18, 541, 542, 543, 49, 544, 80, 75, 79, 78, 618, 619, 620, 621, 659, 660, 661, 662, 676, 677, 678, 679, 680, 681, 682] (by decide +kernel) (by decide +kernel)) (goodIn_sub (fun _ h => List.mem_append_left _ (List.mem_append_left _ (List.mem_append_right _ h))) (by decide +kernel))
set_option maxRecDepth 20000 in
theorem gL_law_L_net : GoodIn wsL_law (va_wsS RL 162 yL_net wsL_net) := goodIn_app (goodIn_of _ (by decide +kernel)) ggL_law_L_net
set_option maxRecDepth 20000 in
theorem ggL_law_X6_net : GoodIn wsL_law wsX6_net := goodIn_r _ [567, 568, 569, 570, 5, 571, 232, 237, 238, 239, 572, 573, 574, 575, 549, 550, 551, 552, 383, 96, 105, 110, 109, 379, 380, 381, 382, 384, 95, 385, 386, 387, 388, 233, 90, 85, 86, 97, 98, 99, 100, 87, 89, 88, 101, 102, 251, 252, 253, 254, 91, 92, 93, 389, 390, 391, 392, 106, 107, 108, 393, 394, 395, 396, 397, 398, 399, 103, 104, 622, 623, 624, 625, 626, 627, 628, 629, 630, 631, 632, 633, 634, 635, 636, 637, 638, 639, 640, 641, 642, 643, 644, 645, 646, 647, 648, 649, 650, 651] (by decide +kernel) (by decide +kernel)
set_option maxRecDepth 20000 in
theorem gL_law_X6_net : GoodIn wsL_law (wsV RL 164 RX6 yX6_net wsX6_net) := goodIn_app (goodIn_of _ (by decide +kernel)) ggL_law_X6_net
set_option maxRecDepth 20000 in
theorem ggL_law_L_carried : GoodIn wsL_law wsL_carried := goodIn_ca (goodIn_r _ [578, 115, 579, 580, 581, 2, 582, 320, 321, 322, 126, 127, 583, 584, 585, 586, 587, 193, 194, 195, 560, 561, 562, 563, 18, 541, 542, 543, 49, 544, 80, 75, 79, 78, 588, 589, 590, 591, 22, 592, 593, 594, 618, 619, 620, 621, 659, 660, 661, 662, 676, 677, 678, 679, 680, 681, 682] (by decide +kernel) (by decide +kernel)) (goodIn_sub (fun _ h => List.mem_append_left _ (List.mem_append_left _ (List.mem_append_right _ h))) (by decide +kernel))
set_option maxRecDepth 20000 in
theorem gL_law_L_carried : GoodIn wsL_law (va_wsS RL 165 yL_carried wsL_carried) := goodIn_app (goodIn_of _ (by decide +kernel)) ggL_law_L_carried
set_option maxRecDepth 20000 in
theorem ggL_law_X6_carried : GoodIn wsL_law wsX6_carried := goodIn_r _ [598, 568, 569, 570, 5, 571, 232, 237, 238, 239, 599, 600, 601, 602, 572, 573, 574, 575, 549, 550, 551, 552, 383, 96, 105, 110, 109, 379, 380, 381, 382, 384, 95, 385, 386, 387, 388, 233, 90, 85, 86, 97, 98, 99, 100, 87, 89, 88, 101, 102, 251, 252, 253, 254, 91, 92, 93, 389, 390, 391, 392, 106, 107, 108, 393, 394, 395, 396, 397, 398, 399, 103, 104, 603, 604, 605, 606, 94, 622, 623, 624, 625, 626, 627, 628, 629, 630, 631, 632, 633, 634, 635, 636, 637, 638, 639, 640, 641, 642, 643, 644, 645, 646, 647, 648, 649, 650, 651] (by decide +kernel) (by decide +kernel)
set_option maxRecDepth 20000 in
theorem gL_law_X6_carried : GoodIn wsL_law (wsV RL 167 RX6 yX6_carried wsX6_carried) := goodIn_app (goodIn_of _ (by decide +kernel)) ggL_law_X6_carried
set_option maxRecDepth 20000 in
theorem ggL_law_L_taxable : GoodIn wsL_law wsL_taxable := goodIn_ca (goodIn_r _ [609, 115, 610, 611, 612, 2, 613, 587, 193, 194, 195, 320, 321, 322, 126, 127, 588, 589, 590, 591, 22, 592, 593, 594, 560, 561, 562, 563, 18, 541, 542, 543, 49, 544, 80, 75, 79, 78, 583, 584, 585, 586, 618, 619, 620, 621, 659, 660, 661, 662, 676, 677, 678, 679, 680, 681, 682] (by decide +kernel) (by decide +kernel)) (goodIn_sub (fun _ h => List.mem_append_left _ (List.mem_append_left _ (List.mem_append_right _ h))) (by decide +kernel))
set_option maxRecDepth 20000 in
theorem gL_law_L_taxable : GoodIn wsL_law (va_wsS RL 168 yL_taxable wsL_taxable) := goodIn_app (goodIn_of _ (by decide +kernel)) ggL_law_L_taxable
