set_option maxRecDepth 20000 in
theorem ggL_law_X6_taxable : GoodIn wsL_law wsX6_taxable := goodIn_r _ [617, 568, 569, 570, 5, 571, 232, 237, 238, 239, 603, 604, 605, 606, 94, 572, 573, 574, 575, 549, 550, 551, 552, 383, 96, 105, 110, 109, 379, 380, 381, 382, 384, 95, 385, 386, 387, 388, 233, 90, 85, 86, 97, 98, 99, 100, 87, 89, 88, 101, 102, 251, 252, 253, 254, 91, 92, 93, 389, 390, 391, 392, 106, 107, 108, 393, 394, 395, 396, 397, 398, 399, 103, 104, 599, 600, 601, 602, 622, 623, 624, 625, 626, 627, 628, 629, 630, 631, 632, 633, 634, 635, 636, 637, 638, 639, 640, 641, 642, 643, 644, 645, 646, 647, 648, 649, 650, 651] (by decide +kernel) (by decide +kernel)
set_option maxRecDepth 20000 in
theorem gL_law_X6_taxable : GoodIn wsL_law (wsV RL 170 RX6 yX6_taxable wsX6_taxable) := goodIn_app (goodIn_of _ (by decide +kernel)) ggL_law_X6_taxable

