set_option maxRecDepth 20000 in
theorem ggL_law_L_matches_p0 : GoodIn wsL_law [.code yL_matches cL_matches 1 (some .boolean)] := goodIn_c1 (goodIn_1 (w := .code yL_matches cL_matches 1 (some .boolean)) 7 rfl (by decide +kernel)) (goodIn_nil)
set_option maxRecDepth 20000 in
theorem ggL_law_L_matches_p1 : GoodIn wsL_law wsL_matches_r1 := goodIn_r _ [0, 1, 2, 8, 9, 10, 11, 12, 13, 14, 15, 16, 17, 18, 19, 20, 21, 22, 23, 24, 25, 26, 27, 28] (by decide +kernel) (by decide +kernel)
set_option maxRecDepth 20000 in
theorem ggL_law_L_matches_p2 : GoodIn wsL_law wsL_matches_r2 := goodIn_r _ [29, 30, 31, 32, 33, 34, 35, 36, 37, 38, 39, 40, 41, 42, 43, 44, 45, 46, 47, 48, 49, 50, 51, 52] (by decide +kernel) (by decide +kernel)
set_option maxRecDepth 20000 in
theorem ggL_law_L_matches_p3 : GoodIn wsL_law wsL_matches_r3 := goodIn_r _ [53, 54, 55, 56, 57, 58, 59, 60, 61, 62, 63, 64, 65, 66, 67, 68, 69, 70, 71, 72, 73, 74, 75, 76] (by decide +kernel) (by decide +kernel)
set_option maxRecDepth 20000 in
theorem ggL_law_L_matches_p4 : GoodIn wsL_law wsL_matches_r4 := goodIn_r _ [77, 78, 79, 80, 81, 82, 83, 84, 85, 86, 87, 88, 89, 90, 91, 92, 93, 94, 95, 96, 97, 98, 99, 100] (by decide +kernel) (by decide +kernel)
set_option maxRecDepth 20000 in
theorem ggL_law_L_matches_p5 : GoodIn wsL_law wsL_matches_r5 := goodIn_r _ [101, 102, 103, 104, 105, 106, 107, 108, 109, 110, 111, 112, 113, 114, 115, 116, 117, 118, 119, 120, 121, 122, 123, 124] (by decide +kernel) (by decide +kernel)
set_option maxRecDepth 20000 in
theorem ggL_law_L_matches_p6 : GoodIn wsL_law wsL_matches_r6 := goodIn_r _ [125, 126, 127, 128, 129, 130, 131, 132, 133, 134, 135, 136, 137, 138, 139, 140, 141, 142, 143, 144, 145, 146, 147, 148] (by decide +kernel) (by decide +kernel)
set_option maxRecDepth 20000 in
theorem ggL_law_L_matches_p7 : GoodIn wsL_law wsL_matches_r7 := goodIn_app (a := [Cond.code yX4_factorBetween cX4_factorBetween 5 (some .int), Cond.methodLink RL 39 yX5_poolUnits, Cond.instanceMethod yX5_poolUnits, Cond.selects RX5 yX5_poolUnits yX5_poolUnits, Cond.code yX5_poolUnits cX5_poolUnits 5 (some .int), Cond.methodLink RX5 127 yX3_lastRowUpTo, Cond.instanceMethod yX3_lastRowUpTo, Cond.selects RX3 yX3_lastRowUpTo yX3_lastRowUpTo, Cond.code yX3_lastRowUpTo cX3_lastRowUpTo 4 (some .int), Cond.methodLink RL 102 yL_refuses, Cond.static yL_refuses, Cond.initialized RL]) (goodIn_r _ [149, 150, 151, 152, 153, 154, 155, 156, 157, 158, 159, 6] (by decide +kernel) (by decide +kernel)) (goodIn_c1 (goodIn_1 (w := Cond.code yL_refuses cL_refuses 14 (some .boolean)) 160 rfl (by decide +kernel)) (goodIn_app (a := [Cond.constant RL 90 (2147483647), Cond.constant RL 91 (1000001), Cond.methodLink RL 92 yL_cancel, Cond.static yL_cancel, Cond.codeWith yL_cancel cL_cancel 3 (some .int) [(0, 6, 7, 13), (0, 6, 11, 15)], Cond.classLink RL 13 "java/lang/IndexOutOfBoundsException", Cond.classLink RL 15 "java/lang/IllegalStateException", Cond.methodLink RL 7 yX5_cancel, Cond.instanceMethod yX5_cancel, Cond.selects RX5 yX5_cancel yX5_cancel, Cond.code yX5_cancel cX5_cancel 3 none]) (goodIn_r _ [161, 3, 162, 163, 164, 165, 166, 167, 168, 169, 170] (by decide +kernel) (by decide +kernel)) (goodIn_nil)))
set_option maxRecDepth 20000 in
theorem ggL_law_L_matches_p8 : GoodIn wsL_law wsL_matches_r8 := goodIn_r _ [171, 172, 173, 174, 175, 176, 177, 178, 179, 180, 181, 182, 183, 184, 185, 186, 187, 188, 189, 190, 191, 192, 193, 194] (by decide +kernel) (by decide +kernel)
set_option maxRecDepth 20000 in
theorem ggL_law_L_matches_p9 : GoodIn wsL_law wsL_matches_r9 := goodIn_r _ [195, 196, 197, 198, 199, 200, 201, 202, 203, 204, 205, 206, 207, 208, 209, 210, 211, 212, 213, 214, 215, 216, 217, 218] (by decide +kernel) (by decide +kernel)
set_option maxRecDepth 20000 in
theorem ggL_law_L_matches_p10 : GoodIn wsL_law wsL_matches_r10 := goodIn_app (a := [Cond.code yX2_add cX2_add 7 none, Cond.methodLink RX1 48 yX1_matchLaterDays, Cond.instanceMethod yX1_matchLaterDays, Cond.selects RX1 yX1_matchLaterDays yX1_matchLaterDays, Cond.code yX1_matchLaterDays cX1_matchLaterDays 9 none, Cond.methodLink RX1 109 yX1_takeBought, Cond.instanceMethod yX1_takeBought, Cond.selects RX1 yX1_takeBought yX1_takeBought, Cond.code yX1_takeBought cX1_takeBought 4 (some .int), Cond.methodLink RX1 112 yX1_takeSold, Cond.instanceMethod yX1_takeSold, Cond.selects RX1 yX1_takeSold yX1_takeSold, Cond.code yX1_takeSold cX1_takeSold 4 (some .int), Cond.methodLink RX1 52 yX1_pool, Cond.instanceMethod yX1_pool, Cond.selects RX1 yX1_pool yX1_pool, Cond.code yX1_pool cX1_pool 7 none, Cond.methodLink RL 97 yL_act, Cond.static yL_act]) (goodIn_r _ [219, 220, 221, 222, 223, 224, 225, 226, 227, 228, 229, 230, 231, 232, 233, 234, 235, 236, 237] (by decide +kernel) (by decide +kernel)) (goodIn_c1 (goodIn_1 (w := Cond.codeWith yL_act cL_act 7 (some .int) [(0, 302, 303, 13), (0, 302, 308, 84), (0, 302, 313, 15)]) 238 rfl (by decide +kernel)) (goodIn_app (a := [Cond.classLink RL 84 "java/lang/IllegalArgumentException", Cond.methodLink RL 17 yX5_buy, Cond.instanceMethod yX5_buy, Cond.selects RX5 yX5_buy yX5_buy]) (goodIn_r _ [239, 240, 241, 242] (by decide +kernel) (by decide +kernel)) (goodIn_nil)))
set_option maxRecDepth 20000 in
theorem ggL_law_L_matches_p11 : GoodIn wsL_law wsL_matches_r11 := goodIn_r _ [243, 244, 245, 246, 247, 248, 249, 250, 251, 252, 253, 254, 255, 256, 257, 258, 259, 260, 261, 262, 263, 264, 265, 266] (by decide +kernel) (by decide +kernel)
set_option maxRecDepth 20000 in
theorem ggL_law_L_matches_p12 : GoodIn wsL_law wsL_matches_r12 := goodIn_r _ [267, 268, 269, 270, 271, 272, 273, 274, 275, 276, 277, 278, 279, 280, 281, 282, 283, 284, 285, 286, 287, 288, 289, 290] (by decide +kernel) (by decide +kernel)
set_option maxRecDepth 20000 in
theorem ggL_law_L_matches_p13 : GoodIn wsL_law wsL_matches_r13 := goodIn_r _ [291, 292, 293, 294, 295, 296, 297, 298, 299, 300, 301, 302, 303, 304, 305, 306, 307, 308, 309, 310, 311, 312, 313, 314] (by decide +kernel) (by decide +kernel)
set_option maxRecDepth 20000 in
theorem ggL_law_L_matches_p14 : GoodIn wsL_law wsL_matches_r14 := goodIn_r _ [315, 316, 317, 318, 319, 320, 321, 322, 323, 324, 325, 326, 327, 328, 329, 330, 331, 332, 333, 334, 335, 336, 337, 338] (by decide +kernel) (by decide +kernel)
set_option maxRecDepth 20000 in
theorem ggL_law_L_matches_p15 : GoodIn wsL_law wsL_matches_r15 := goodIn_r _ [339, 340, 341, 342, 343, 344, 345, 346, 347, 348, 349, 350, 351, 352, 353] (by decide +kernel) (by decide +kernel)
set_option maxRecDepth 20000 in
theorem ggL_law_L_matches_x5 : GoodIn wsL_law wsX50 := goodIn_r _ [360, 361, 362, 363] (by decide +kernel) (by decide +kernel)
set_option maxRecDepth 20000 in
theorem ggL_law_L_matches_x0 : GoodIn wsL_law wsX00 := goodIn_r _ [364, 365, 366, 367, 368, 369, 370] (by decide +kernel) (by decide +kernel)
set_option maxRecDepth 20000 in
theorem ggL_law_L_matches_x1 : GoodIn wsL_law wsX10 := goodIn_r _ [371, 372, 373, 374] (by decide +kernel) (by decide +kernel)
set_option maxRecDepth 20000 in
theorem ggL_law_L_matches_x4 : GoodIn wsL_law wsX40 := goodIn_r _ [375, 376, 377] (by decide +kernel) (by decide +kernel)
set_option maxRecDepth 20000 in
theorem ggL_law_L_matches_x3 : GoodIn wsL_law wsX30 := goodIn_r _ [378, 379, 380, 381, 382, 383, 384, 385, 386, 387] (by decide +kernel) (by decide +kernel)
set_option maxRecDepth 20000 in
theorem ggL_law_L_matches_x2 : GoodIn wsL_law wsX20 := goodIn_r _ [388, 389, 390, 391, 392, 393, 394] (by decide +kernel) (by decide +kernel)
set_option maxRecDepth 20000 in
theorem ggL_law_L_matches : GoodIn wsL_law wsL_matches := goodIn_ca (goodIn_ca (goodIn_ca (goodIn_c1 ggL_law_L_matches_p0 (goodIn_app (goodIn_app (goodIn_app (goodIn_app (goodIn_app (goodIn_app (goodIn_app ggL_law_L_matches_p1 (goodIn_app ggL_law_L_matches_p2 (goodIn_app ggL_law_L_matches_p3 (goodIn_app ggL_law_L_matches_p4 (goodIn_app ggL_law_L_matches_p5 (goodIn_app ggL_law_L_matches_p6 (goodIn_app ggL_law_L_matches_p7 (goodIn_app ggL_law_L_matches_p8 (goodIn_app ggL_law_L_matches_p9 (goodIn_app ggL_law_L_matches_p10 (goodIn_app ggL_law_L_matches_p11 (goodIn_app ggL_law_L_matches_p12 (goodIn_app ggL_law_L_matches_p13 (goodIn_app ggL_law_L_matches_p14 (ggL_law_L_matches_p15))))))))))))))) ggL_law_L_matches_x5) ggL_law_L_matches_x0) ggL_law_L_matches_x1) ggL_law_L_matches_x4) ggL_law_L_matches_x3) ggL_law_L_matches_x2)) (goodIn_sub (fun _ h => List.mem_append_left _ (List.mem_append_left _ (List.mem_append_right _ h))) (by decide +kernel))) (goodIn_sub (fun _ h => List.mem_append_left _ (List.mem_append_right _ h)) (by decide +kernel))) (goodIn_sub (fun _ h => List.mem_append_right _ h) (by decide +kernel))
set_option maxRecDepth 20000 in
theorem gL_law_L_matches : GoodIn wsL_law (va_wsS RL 110 yL_matches wsL_matches) := goodIn_app (goodIn_of _ (by decide +kernel)) ggL_law_L_matches
set_option maxRecDepth 20000 in
theorem ggL_law_L_splits_p0 : GoodIn wsL_law [.code yL_splits cL_splits 1 (some .boolean)] := goodIn_c1 (goodIn_1 (w := .code yL_splits cL_splits 1 (some .boolean)) 356 rfl (by decide +kernel)) (goodIn_nil)
set_option maxRecDepth 20000 in
theorem ggL_law_L_splits_p1 : GoodIn wsL_law wsL_splits_r1 := goodIn_r _ [0, 1, 2, 8, 9, 10, 11, 12, 13, 14, 15, 16, 17, 18, 19, 20, 21, 22, 23, 24, 25, 26, 27, 28] (by decide +kernel) (by decide +kernel)
set_option maxRecDepth 20000 in
theorem ggL_law_L_splits_p2 : GoodIn wsL_law wsL_splits_r2 := goodIn_r _ [29, 30, 31, 32, 33, 34, 35, 36, 37, 38, 39, 40, 41, 42, 43, 44, 45, 46, 47, 48, 49, 50, 51, 52] (by decide +kernel) (by decide +kernel)
set_option maxRecDepth 20000 in
theorem ggL_law_L_splits_p3 : GoodIn wsL_law wsL_splits_r3 := goodIn_r _ [53, 54, 55, 56, 57, 58, 59, 60, 61, 62, 63, 64, 65, 66, 67, 68, 69, 70, 71, 72, 73, 74, 75, 76] (by decide +kernel) (by decide +kernel)
set_option maxRecDepth 20000 in
theorem ggL_law_L_splits_p4 : GoodIn wsL_law wsL_splits_r4 := goodIn_r _ [77, 78, 79, 80, 81, 240, 241, 242, 243, 134, 135, 136, 137, 94, 95, 90, 91, 92, 93, 244, 245, 246, 247, 248] (by decide +kernel) (by decide +kernel)
set_option maxRecDepth 20000 in
theorem ggL_law_L_splits_p5 : GoodIn wsL_law wsL_splits_r5 := goodIn_r _ [249, 250, 251, 252, 253, 254, 255, 256, 171, 172, 257, 258, 259, 260, 261, 262, 263, 264, 265, 182, 183, 184, 185, 186] (by decide +kernel) (by decide +kernel)
set_option maxRecDepth 20000 in
theorem ggL_law_L_splits_p6 : GoodIn wsL_law wsL_splits_r6 := goodIn_r _ [187, 188, 189, 190, 191, 192, 193, 194, 143, 144, 145, 195, 196, 197, 198, 199, 155, 156, 157, 200, 147, 148, 149, 201] (by decide +kernel) (by decide +kernel)
set_option maxRecDepth 20000 in
theorem ggL_law_L_splits_p7 : GoodIn wsL_law wsL_splits_r7 := goodIn_r _ [202, 203, 204, 205, 206, 207, 208, 181, 120, 121, 122, 209, 210, 211, 212, 213, 214, 215, 216, 217, 218, 219, 220, 221] (by decide +kernel) (by decide +kernel)
set_option maxRecDepth 20000 in
theorem ggL_law_L_splits_p8 : GoodIn wsL_law wsL_splits_r8 := goodIn_r _ [222, 223, 224, 225, 226, 227, 228, 229, 230, 231, 232, 233, 234, 235, 270, 271, 272, 273, 274, 275, 276, 277, 278, 279] (by decide +kernel) (by decide +kernel)
set_option maxRecDepth 20000 in
theorem ggL_law_L_splits_p9 : GoodIn wsL_law wsL_splits_r9 := goodIn_r _ [280, 281, 282, 283, 284, 285, 286, 266, 267, 268, 269, 173, 174, 175, 176, 177, 178, 179, 180, 351, 352, 6, 353, 303] (by decide +kernel) (by decide +kernel)
set_option maxRecDepth 20000 in
theorem ggL_law_L_splits_p10 : GoodIn wsL_law wsL_splits_r10 := goodIn_r _ [304, 305, 306, 307, 308, 309, 310, 311, 312, 313, 314, 315, 316, 317, 318, 319, 320, 321, 322, 323, 324, 325, 326, 327] (by decide +kernel) (by decide +kernel)
set_option maxRecDepth 20000 in
theorem ggL_law_L_splits_p11 : GoodIn wsL_law wsL_splits_r11 := goodIn_app (a := [Cond.instanceMethod yX5_proceedsOf, Cond.selects RX5 yX5_proceedsOf yX5_proceedsOf, Cond.code yX5_proceedsOf cX5_proceedsOf 3 (some .int), Cond.methodLink RL 36 yX5_holding, Cond.instanceMethod yX5_holding, Cond.selects RX5 yX5_holding yX5_holding, Cond.code yX5_holding cX5_holding 3 (some .int), Cond.methodLink RX5 119 yX1_heldShares, Cond.instanceMethod yX1_heldShares, Cond.selects RX1 yX1_heldShares yX1_heldShares, Cond.code yX1_heldShares cX1_heldShares 7 (some .int), Cond.methodLink RX1 62 yX0_counts, Cond.methodLink RX1 69 yX4_factorBetween, Cond.methodLink RL 39 yX5_poolUnits, Cond.instanceMethod yX5_poolUnits, Cond.selects RX5 yX5_poolUnits yX5_poolUnits, Cond.code yX5_poolUnits cX5_poolUnits 5 (some .int), Cond.methodLink RX5 127 yX3_lastRowUpTo, Cond.methodLink RL 97 yL_act, Cond.static yL_act]) (goodIn_r _ [328, 329, 330, 130, 131, 132, 133, 138, 139, 140, 141, 142, 146, 150, 151, 152, 153, 154, 236, 237] (by decide +kernel) (by decide +kernel)) (goodIn_c1 (goodIn_1 (w := Cond.codeWith yL_act cL_act 7 (some .int) [(0, 302, 303, 13), (0, 302, 308, 84), (0, 302, 313, 15)]) 238 rfl (by decide +kernel)) (goodIn_app (a := [Cond.classLink RL 13 "java/lang/IndexOutOfBoundsException", Cond.classLink RL 84 "java/lang/IllegalArgumentException", Cond.classLink RL 15 "java/lang/IllegalStateException"]) (goodIn_r _ [165, 239, 166] (by decide +kernel) (by decide +kernel)) (goodIn_nil)))
set_option maxRecDepth 20000 in
theorem ggL_law_L_splits_p12 : GoodIn wsL_law wsL_splits_r12 := goodIn_r _ [287, 288, 289, 290, 100, 101, 102, 291, 292, 293, 294, 295, 296, 297, 298, 299, 300, 301, 302, 107, 108, 109, 110, 331] (by decide +kernel) (by decide +kernel)
set_option maxRecDepth 20000 in
theorem ggL_law_L_splits_p13 : GoodIn wsL_law wsL_splits_r13 := goodIn_r _ [332, 333, 334, 335, 336, 337, 338, 339, 340, 341, 342, 343, 344, 345, 346, 86, 87, 88, 89, 96, 97, 98, 99, 103] (by decide +kernel) (by decide +kernel)
set_option maxRecDepth 20000 in
theorem ggL_law_L_splits_p14 : GoodIn wsL_law wsL_splits_r14 := goodIn_r _ [104, 105, 106, 111, 112, 113, 114, 115, 116, 117, 118, 119, 123, 124, 125, 126, 127, 128, 129, 347, 348, 349, 350, 158] (by decide +kernel) (by decide +kernel)
set_option maxRecDepth 20000 in
theorem ggL_law_L_splits_p15 : GoodIn wsL_law wsL_splits_r15 := goodIn_app (a := [Cond.static yL_refuses]) (goodIn_r _ [159] (by decide +kernel) (by decide +kernel)) (goodIn_c1 (goodIn_1 (w := Cond.code yL_refuses cL_refuses 14 (some .boolean)) 160 rfl (by decide +kernel)) (goodIn_app (a := [Cond.constant RL 90 (2147483647), Cond.constant RL 91 (1000001), Cond.methodLink RL 86 yX5_trades, Cond.instanceMethod yX5_trades, Cond.selects RX5 yX5_trades yX5_trades, Cond.code yX5_trades cX5_trades 1 (some .int), Cond.methodLink RL 92 yL_cancel, Cond.static yL_cancel, Cond.codeWith yL_cancel cL_cancel 3 (some .int) [(0, 6, 7, 13), (0, 6, 11, 15)], Cond.methodLink RL 7 yX5_cancel, Cond.instanceMethod yX5_cancel, Cond.selects RX5 yX5_cancel yX5_cancel, Cond.code yX5_cancel cX5_cancel 3 none]) (goodIn_r _ [161, 3, 82, 83, 84, 85, 162, 163, 164, 167, 168, 169, 170] (by decide +kernel) (by decide +kernel)) (goodIn_nil)))
set_option maxRecDepth 20000 in
theorem ggL_law_L_splits_x5 : GoodIn wsL_law wsX50 := goodIn_r _ [360, 361, 362, 363] (by decide +kernel) (by decide +kernel)
set_option maxRecDepth 20000 in
theorem ggL_law_L_splits_x0 : GoodIn wsL_law wsX00 := goodIn_r _ [364, 365, 366, 367, 368, 369, 370] (by decide +kernel) (by decide +kernel)
set_option maxRecDepth 20000 in
theorem ggL_law_L_splits_x1 : GoodIn wsL_law wsX10 := goodIn_r _ [371, 372, 373, 374] (by decide +kernel) (by decide +kernel)
set_option maxRecDepth 20000 in
theorem ggL_law_L_splits_x4 : GoodIn wsL_law wsX40 := goodIn_r _ [375, 376, 377] (by decide +kernel) (by decide +kernel)
set_option maxRecDepth 20000 in
theorem ggL_law_L_splits_x3 : GoodIn wsL_law wsX30 := goodIn_r _ [378, 379, 380, 381, 382, 383, 384, 385, 386, 387] (by decide +kernel) (by decide +kernel)
set_option maxRecDepth 20000 in
theorem ggL_law_L_splits_x2 : GoodIn wsL_law wsX20 := goodIn_r _ [388, 389, 390, 391, 392, 393, 394] (by decide +kernel) (by decide +kernel)
set_option maxRecDepth 20000 in
theorem ggL_law_L_splits : GoodIn wsL_law wsL_splits := goodIn_ca (goodIn_ca (goodIn_ca (goodIn_c1 ggL_law_L_splits_p0 (goodIn_app (goodIn_app (goodIn_app (goodIn_app (goodIn_app (goodIn_app (goodIn_app ggL_law_L_splits_p1 (goodIn_app ggL_law_L_splits_p2 (goodIn_app ggL_law_L_splits_p3 (goodIn_app ggL_law_L_splits_p4 (goodIn_app ggL_law_L_splits_p5 (goodIn_app ggL_law_L_splits_p6 (goodIn_app ggL_law_L_splits_p7 (goodIn_app ggL_law_L_splits_p8 (goodIn_app ggL_law_L_splits_p9 (goodIn_app ggL_law_L_splits_p10 (goodIn_app ggL_law_L_splits_p11 (goodIn_app ggL_law_L_splits_p12 (goodIn_app ggL_law_L_splits_p13 (goodIn_app ggL_law_L_splits_p14 (ggL_law_L_splits_p15))))))))))))))) ggL_law_L_splits_x5) ggL_law_L_splits_x0) ggL_law_L_splits_x1) ggL_law_L_splits_x4) ggL_law_L_splits_x3) ggL_law_L_splits_x2)) (goodIn_sub (fun _ h => List.mem_append_left _ (List.mem_append_left _ (List.mem_append_right _ h))) (by decide +kernel))) (goodIn_sub (fun _ h => List.mem_append_right _ h) (by decide +kernel))) (goodIn_sub (fun _ h => List.mem_append_left _ (List.mem_append_right _ h)) (by decide +kernel))
set_option maxRecDepth 20000 in
theorem gL_law_L_splits : GoodIn wsL_law (va_wsS RL 113 yL_splits wsL_splits) := goodIn_app (goodIn_of _ (by decide +kernel)) ggL_law_L_splits
set_option maxRecDepth 20000 in
theorem ggL_law_L_years_p0 : GoodIn wsL_law [.code yL_years cL_years 2 (some .boolean)] := goodIn_c1 (goodIn_1 (w := .code yL_years cL_years 2 (some .boolean)) 359 rfl (by decide +kernel)) (goodIn_nil)
set_option maxRecDepth 20000 in
theorem ggL_law_L_years_p1 : GoodIn wsL_law wsL_years_r1 := goodIn_r _ [0, 1, 2, 8, 9, 10, 11, 12, 13, 14, 15, 16, 17, 18, 19, 20, 21, 22, 23, 24, 25, 26, 27, 28] (by decide +kernel) (by decide +kernel)
set_option maxRecDepth 20000 in
theorem ggL_law_L_years_p2 : GoodIn wsL_law wsL_years_r2 := goodIn_r _ [29, 30, 31, 32, 33, 34, 35, 36, 37, 38, 39, 40, 41, 42, 43, 44, 45, 46, 47, 48, 49, 50, 51, 52] (by decide +kernel) (by decide +kernel)
set_option maxRecDepth 20000 in
theorem ggL_law_L_years_p3 : GoodIn wsL_law wsL_years_r3 := goodIn_r _ [53, 54, 55, 56, 57, 58, 59, 60, 61, 62, 63, 64, 65, 66, 67, 68, 69, 70, 71, 72, 73, 74, 75, 76] (by decide +kernel) (by decide +kernel)
set_option maxRecDepth 20000 in
theorem ggL_law_L_years_p4 : GoodIn wsL_law wsL_years_r4 := goodIn_r _ [77, 78, 79, 80, 81, 240, 241, 242, 243, 134, 135, 136, 137, 94, 95, 90, 91, 92, 93, 244, 245, 246, 247, 248] (by decide +kernel) (by decide +kernel)
set_option maxRecDepth 20000 in
theorem ggL_law_L_years_p5 : GoodIn wsL_law wsL_years_r5 := goodIn_r _ [249, 250, 251, 252, 253, 254, 255, 256, 171, 172, 257, 258, 259, 260, 261, 262, 263, 264, 265, 182, 183, 184, 185, 186] (by decide +kernel) (by decide +kernel)
set_option maxRecDepth 20000 in
theorem ggL_law_L_years_p6 : GoodIn wsL_law wsL_years_r6 := goodIn_r _ [187, 188, 189, 190, 191, 192, 193, 194, 143, 144, 145, 195, 196, 197, 198, 199, 155, 156, 157, 200, 147, 148, 149, 201] (by decide +kernel) (by decide +kernel)
set_option maxRecDepth 20000 in
theorem ggL_law_L_years_p7 : GoodIn wsL_law wsL_years_r7 := goodIn_r _ [202, 203, 204, 205, 206, 207, 208, 181, 120, 121, 122, 209, 210, 211, 212, 213, 214, 215, 216, 217, 218, 219, 220, 221] (by decide +kernel) (by decide +kernel)
set_option maxRecDepth 20000 in
theorem ggL_law_L_years_p8 : GoodIn wsL_law wsL_years_r8 := goodIn_r _ [222, 223, 224, 225, 226, 227, 228, 229, 230, 231, 232, 233, 234, 235, 266, 267, 268, 269, 173, 174, 175, 176, 177, 178] (by decide +kernel) (by decide +kernel)
set_option maxRecDepth 20000 in
theorem ggL_law_L_years_p9 : GoodIn wsL_law wsL_years_r9 := goodIn_r _ [179, 180, 96, 97, 98, 99, 100, 101, 102, 103, 104, 105, 106, 107, 108, 109, 110, 347, 348, 349, 350, 119, 123, 124] (by decide +kernel) (by decide +kernel)
set_option maxRecDepth 20000 in
theorem ggL_law_L_years_p10 : GoodIn wsL_law wsL_years_r10 := goodIn_r _ [125, 126, 127, 128, 129, 115, 116, 117, 118, 111, 112, 113, 114, 287, 288, 289, 290, 299, 300, 301, 302, 158, 159, 6] (by decide +kernel) (by decide +kernel)
set_option maxRecDepth 20000 in
theorem ggL_law_L_years_p11 : GoodIn wsL_law wsL_years_r11 := goodIn_c1 (goodIn_1 (w := Cond.code yL_refuses cL_refuses 14 (some .boolean)) 160 rfl (by decide +kernel)) (goodIn_app (a := [Cond.constant RL 90 (2147483647), Cond.constant RL 91 (1000001), Cond.methodLink RL 86 yX5_trades, Cond.instanceMethod yX5_trades, Cond.selects RX5 yX5_trades yX5_trades, Cond.code yX5_trades cX5_trades 1 (some .int), Cond.methodLink RL 36 yX5_holding, Cond.instanceMethod yX5_holding, Cond.selects RX5 yX5_holding yX5_holding, Cond.code yX5_holding cX5_holding 3 (some .int), Cond.methodLink RX5 119 yX1_heldShares, Cond.instanceMethod yX1_heldShares, Cond.selects RX1 yX1_heldShares yX1_heldShares, Cond.code yX1_heldShares cX1_heldShares 7 (some .int), Cond.methodLink RX1 62 yX0_counts, Cond.methodLink RX1 69 yX4_factorBetween, Cond.methodLink RL 92 yL_cancel, Cond.static yL_cancel, Cond.codeWith yL_cancel cL_cancel 3 (some .int) [(0, 6, 7, 13), (0, 6, 11, 15)], Cond.classLink RL 13 "java/lang/IndexOutOfBoundsException", Cond.classLink RL 15 "java/lang/IllegalStateException", Cond.methodLink RL 7 yX5_cancel, Cond.instanceMethod yX5_cancel]) (goodIn_r _ [161, 3, 82, 83, 84, 85, 130, 131, 132, 133, 138, 139, 140, 141, 142, 146, 162, 163, 164, 165, 166, 167, 168] (by decide +kernel) (by decide +kernel)) (goodIn_nil))
set_option maxRecDepth 20000 in
theorem ggL_law_L_years_p12 : GoodIn wsL_law wsL_years_r12 := goodIn_app (a := [Cond.selects RX5 yX5_cancel yX5_cancel, Cond.code yX5_cancel cX5_cancel 3 none, Cond.methodLink RL 97 yL_act, Cond.static yL_act]) (goodIn_r _ [169, 170, 236, 237] (by decide +kernel) (by decide +kernel)) (goodIn_c1 (goodIn_1 (w := Cond.codeWith yL_act cL_act 7 (some .int) [(0, 302, 303, 13), (0, 302, 308, 84), (0, 302, 313, 15)]) 238 rfl (by decide +kernel)) (goodIn_app (a := [Cond.classLink RL 84 "java/lang/IllegalArgumentException", Cond.methodLink RL 24 yX5_split, Cond.instanceMethod yX5_split, Cond.selects RX5 yX5_split yX5_split, Cond.code yX5_split cX5_split 5 (some .int), Cond.methodLink RX5 67 yX4_isFull, Cond.instanceMethod yX4_isFull, Cond.selects RX4 yX4_isFull yX4_isFull, Cond.code yX4_isFull cX4_isFull 1 (some .boolean), Cond.methodLink RX5 73 yX4_hasDay, Cond.instanceMethod yX4_hasDay, Cond.selects RX4 yX4_hasDay yX4_hasDay, Cond.code yX4_hasDay cX4_hasDay 3 (some .boolean), Cond.methodLink RX5 82 yX4_enter, Cond.instanceMethod yX4_enter, Cond.selects RX4 yX4_enter yX4_enter, Cond.code yX4_enter cX4_enter 3 none, Cond.methodLink RX4 22 yX4_isFull, Cond.methodLink RL 32 yX5_setWindow]) (goodIn_r _ [239, 270, 271, 272, 273, 274, 275, 276, 277, 278, 279, 280, 281, 282, 283, 284, 285, 286, 291] (by decide +kernel) (by decide +kernel)) (goodIn_nil)))
set_option maxRecDepth 20000 in
theorem ggL_law_L_years_p13 : GoodIn wsL_law wsL_years_r13 := goodIn_r _ [292, 293, 294, 150, 151, 152, 153, 154, 295, 296, 297, 298, 303, 304, 305, 306, 307, 308, 309, 310, 311, 312, 313, 314] (by decide +kernel) (by decide +kernel)
set_option maxRecDepth 20000 in
theorem ggL_law_L_years_p14 : GoodIn wsL_law wsL_years_r14 := goodIn_r _ [315, 316, 317, 318, 319, 320, 321, 322, 323, 324, 325, 326, 327, 328, 329, 330, 331, 332, 333, 334, 335, 336, 337, 338] (by decide +kernel) (by decide +kernel)
set_option maxRecDepth 20000 in
theorem ggL_law_L_years_p15 : GoodIn wsL_law wsL_years_r15 := goodIn_r _ [339, 340, 341, 342, 343, 344, 345, 346, 86, 87, 88, 89] (by decide +kernel) (by decide +kernel)
set_option maxRecDepth 20000 in
theorem ggL_law_L_years_x5 : GoodIn wsL_law wsX50 := goodIn_r _ [360, 361, 362, 363] (by decide +kernel) (by decide +kernel)
set_option maxRecDepth 20000 in
theorem ggL_law_L_years_x0 : GoodIn wsL_law wsX00 := goodIn_r _ [364, 365, 366, 367, 368, 369, 370] (by decide +kernel) (by decide +kernel)
set_option maxRecDepth 20000 in
theorem ggL_law_L_years_x1 : GoodIn wsL_law wsX10 := goodIn_r _ [371, 372, 373, 374] (by decide +kernel) (by decide +kernel)
set_option maxRecDepth 20000 in
theorem ggL_law_L_years_x4 : GoodIn wsL_law wsX40 := goodIn_r _ [375, 376, 377] (by decide +kernel) (by decide +kernel)
set_option maxRecDepth 20000 in
theorem ggL_law_L_years_x3 : GoodIn wsL_law wsX30 := goodIn_r _ [378, 379, 380, 381, 382, 383, 384, 385, 386, 387] (by decide +kernel) (by decide +kernel)
set_option maxRecDepth 20000 in
theorem ggL_law_L_years_x2 : GoodIn wsL_law wsX20 := goodIn_r _ [388, 389, 390, 391, 392, 393, 394] (by decide +kernel) (by decide +kernel)
set_option maxRecDepth 20000 in
theorem ggL_law_L_years : GoodIn wsL_law wsL_years := goodIn_ca (goodIn_ca (goodIn_ca (goodIn_c1 ggL_law_L_years_p0 (goodIn_app (goodIn_app (goodIn_app (goodIn_app (goodIn_app (goodIn_app (goodIn_app ggL_law_L_years_p1 (goodIn_app ggL_law_L_years_p2 (goodIn_app ggL_law_L_years_p3 (goodIn_app ggL_law_L_years_p4 (goodIn_app ggL_law_L_years_p5 (goodIn_app ggL_law_L_years_p6 (goodIn_app ggL_law_L_years_p7 (goodIn_app ggL_law_L_years_p8 (goodIn_app ggL_law_L_years_p9 (goodIn_app ggL_law_L_years_p10 (goodIn_app ggL_law_L_years_p11 (goodIn_app ggL_law_L_years_p12 (goodIn_app ggL_law_L_years_p13 (goodIn_app ggL_law_L_years_p14 (ggL_law_L_years_p15))))))))))))))) ggL_law_L_years_x5) ggL_law_L_years_x0) ggL_law_L_years_x1) ggL_law_L_years_x4) ggL_law_L_years_x3) ggL_law_L_years_x2)) (goodIn_sub (fun _ h => List.mem_append_left _ (List.mem_append_left _ (List.mem_append_right _ h))) (by decide +kernel))) (goodIn_sub (fun _ h => List.mem_append_right _ h) (by decide +kernel))) (goodIn_sub (fun _ h => List.mem_append_left _ (List.mem_append_right _ h)) (by decide +kernel))
set_option maxRecDepth 20000 in
theorem gL_law_L_years : GoodIn wsL_law (va_wsS RL 116 yL_years wsL_years) := goodIn_app (goodIn_of _ (by decide +kernel)) ggL_law_L_years
set_option maxRecDepth 20000 in
theorem ggL_law_X5_init_p0 : GoodIn wsL_law [.code yX5_init cX5_init 2 none] := goodIn_r _ [10] (by decide +kernel) (by decide +kernel)
set_option maxRecDepth 20000 in
theorem ggL_law_X5_init_p1 : GoodIn wsL_law wsX5_init_r1 := goodIn_r _ [11, 12, 13, 14, 15, 16, 17, 18, 19, 20, 21, 22, 23, 24, 25, 26, 27, 28, 29, 30, 31, 32, 33, 34] (by decide +kernel) (by decide +kernel)
set_option maxRecDepth 20000 in
theorem ggL_law_X5_init_p2 : GoodIn wsL_law wsX5_init_r2 := goodIn_r _ [35, 36, 37, 38, 39, 40, 41, 42, 43, 44, 45, 46, 47, 48, 49, 50, 51, 52, 53, 54, 55, 56, 57, 58] (by decide +kernel) (by decide +kernel)
set_option maxRecDepth 20000 in
theorem ggL_law_X5_init_p3 : GoodIn wsL_law wsX5_init_r3 := goodIn_r _ [59, 60, 61, 62, 63, 64, 65, 66, 67, 68, 69, 70, 71, 72, 73, 74, 75, 76, 77, 78, 79, 80, 81] (by decide +kernel) (by decide +kernel)
set_option maxRecDepth 20000 in
theorem ggL_law_X5_init_x0 : GoodIn wsL_law wsX00 := goodIn_r _ [364, 365, 366, 367, 368, 369, 370] (by decide +kernel) (by decide +kernel)
set_option maxRecDepth 20000 in
theorem ggL_law_X5_init_x5 : GoodIn wsL_law wsX50 := goodIn_r _ [360, 361, 362, 363] (by decide +kernel) (by decide +kernel)
set_option maxRecDepth 20000 in
theorem ggL_law_X5_init_x1 : GoodIn wsL_law wsX10 := goodIn_r _ [371, 372, 373, 374] (by decide +kernel) (by decide +kernel)
set_option maxRecDepth 20000 in
theorem ggL_law_X5_init_x4 : GoodIn wsL_law wsX40 := goodIn_r _ [375, 376, 377] (by decide +kernel) (by decide +kernel)
set_option maxRecDepth 20000 in
theorem ggL_law_X5_init_x3 : GoodIn wsL_law wsX30 := goodIn_r _ [378, 379, 380, 381, 382, 383, 384, 385, 386, 387] (by decide +kernel) (by decide +kernel)
set_option maxRecDepth 20000 in
theorem ggL_law_X5_init_x2 : GoodIn wsL_law wsX20 := goodIn_r _ [388, 389, 390, 391, 392, 393, 394] (by decide +kernel) (by decide +kernel)
set_option maxRecDepth 20000 in
theorem ggL_law_X5_init : GoodIn wsL_law wsX5_init := goodIn_c1 ggL_law_X5_init_p0 (goodIn_app (goodIn_app (goodIn_app (goodIn_app (goodIn_app (goodIn_app (goodIn_app ggL_law_X5_init_p1 (goodIn_app ggL_law_X5_init_p2 (ggL_law_X5_init_p3))) ggL_law_X5_init_x0) ggL_law_X5_init_x5) ggL_law_X5_init_x1) ggL_law_X5_init_x4) ggL_law_X5_init_x3) ggL_law_X5_init_x2)
set_option maxRecDepth 20000 in
theorem gL_law_X5_init : GoodIn wsL_law (wsX5_init) := ggL_law_X5_init
set_option maxRecDepth 20000 in
theorem ggL_law_X5_holding : GoodIn wsL_law wsX5_holding := goodIn_ca (goodIn_r _ [133, 17, 134, 135, 136, 2, 137, 94, 95, 90, 91, 92, 93, 19, 138, 139, 140, 21, 141, 52, 43, 142, 143, 144, 16, 145, 31, 30, 146, 147, 148, 42, 149, 58, 56, 57, 360, 361, 362, 363, 364, 365, 366, 367, 368, 369, 370, 371, 372, 373, 374, 375, 376, 377] (by decide +kernel) (by decide +kernel)) (goodIn_sub (fun _ h => List.mem_append_left _ (List.mem_append_left _ (List.mem_append_right _ h))) (by decide +kernel))
set_option maxRecDepth 20000 in
theorem gL_law_X5_holding : GoodIn wsL_law (wsV RL 36 RX5 yX5_holding wsX5_holding) := goodIn_app (goodIn_of _ (by decide +kernel)) ggL_law_X5_holding
set_option maxRecDepth 20000 in
theorem ggL_law_L_act_p0 : GoodIn wsL_law [.codeWith yL_act cL_act 7 (some .int) [(0, 302, 303, 13), (0, 302, 308, 84), (0, 302, 313, 15)]] := goodIn_c1 (goodIn_1 (w := .codeWith yL_act cL_act 7 (some .int) [(0, 302, 303, 13), (0, 302, 308, 84), (0, 302, 313, 15)]) 238 rfl (by decide +kernel)) (goodIn_nil)
set_option maxRecDepth 20000 in
theorem ggL_law_L_act_p1 : GoodIn wsL_law wsL_act_r1 := goodIn_r _ [165, 239, 166, 240, 241, 242, 2, 243, 17, 24, 134, 135, 136, 137, 94, 95, 90, 91, 92, 93, 19, 244, 245, 246] (by decide +kernel) (by decide +kernel)
set_option maxRecDepth 20000 in
theorem ggL_law_L_act_p2 : GoodIn wsL_law wsL_act_r2 := goodIn_r _ [247, 248, 249, 250, 251, 252, 253, 254, 255, 256, 171, 172, 257, 258, 259, 16, 260, 35, 261, 262, 263, 264, 29, 31] (by decide +kernel) (by decide +kernel)
set_option maxRecDepth 20000 in
theorem ggL_law_L_act_p3 : GoodIn wsL_law wsL_act_r3 := goodIn_r _ [32, 33, 34, 265, 182, 183, 184, 21, 185, 47, 52, 43, 51, 186, 187, 188, 46, 189, 190, 191, 192, 193, 71, 63] (by decide +kernel) (by decide +kernel)
set_option maxRecDepth 20000 in
theorem ggL_law_L_act_p4 : GoodIn wsL_law wsL_act_r4 := goodIn_r _ [65, 66, 68, 194, 143, 144, 145, 30, 195, 196, 197, 198, 62, 199, 155, 156, 157, 200, 147, 148, 42, 149, 58, 56] (by decide +kernel) (by decide +kernel)
set_option maxRecDepth 20000 in
theorem ggL_law_L_act_p5 : GoodIn wsL_law wsL_act_r5 := goodIn_r _ [57, 201, 202, 203, 204, 205, 206, 207, 208, 181, 120, 121, 122, 64, 67, 209, 210, 211, 212, 213, 214, 215, 216, 217] (by decide +kernel) (by decide +kernel)
set_option maxRecDepth 20000 in
theorem ggL_law_L_act_p6 : GoodIn wsL_law wsL_act_r6 := goodIn_r _ [218, 50, 219, 81, 75, 76, 77, 78, 79, 80, 220, 221, 222, 223, 224, 225, 226, 227, 228, 229, 230, 231, 232, 233] (by decide +kernel) (by decide +kernel)
set_option maxRecDepth 20000 in
theorem ggL_law_L_act_p7 : GoodIn wsL_law wsL_act_r7 := goodIn_r _ [234, 235, 266, 267, 268, 269, 173, 174, 175, 176, 177, 178, 179, 180, 270, 271, 272, 273, 274, 275, 276, 277, 278, 279] (by decide +kernel) (by decide +kernel)
set_option maxRecDepth 20000 in
theorem ggL_law_L_act_p8 : GoodIn wsL_law wsL_act_r8 := goodIn_r _ [280, 281, 282, 283, 284, 285, 286, 287, 288, 289, 290, 23, 100, 101, 102, 291, 292, 293, 294, 130, 131, 132, 133, 138] (by decide +kernel) (by decide +kernel)
set_option maxRecDepth 20000 in
theorem ggL_law_L_act_p9 : GoodIn wsL_law wsL_act_r9 := goodIn_r _ [139, 140, 141, 142, 146, 150, 151, 152, 153, 154, 295, 296, 297, 298, 299, 300, 301, 302, 107, 108, 109, 110, 303, 304] (by decide +kernel) (by decide +kernel)
set_option maxRecDepth 20000 in
theorem ggL_law_L_act_p10 : GoodIn wsL_law wsL_act_r10 := goodIn_r _ [305, 306, 307, 308, 309, 310, 311, 312, 313, 314, 315, 316, 317, 318, 319, 320, 321, 322, 323, 324, 325, 326, 327, 328] (by decide +kernel) (by decide +kernel)
set_option maxRecDepth 20000 in
theorem ggL_law_L_act_p11 : GoodIn wsL_law wsL_act_r11 := goodIn_r _ [329, 330, 331, 332, 333, 334, 335, 336, 337, 338, 339, 340, 341, 342, 343, 344, 345, 346, 86, 87, 88, 89, 96, 97] (by decide +kernel) (by decide +kernel)
set_option maxRecDepth 20000 in
theorem ggL_law_L_act_p12 : GoodIn wsL_law wsL_act_r12 := goodIn_r _ [98, 99, 103, 104, 105, 106, 111, 112, 113, 114, 115, 116, 117, 118, 119, 123, 124, 125, 126, 127, 128, 129, 347, 348] (by decide +kernel) (by decide +kernel)
set_option maxRecDepth 20000 in
theorem ggL_law_L_act_p13 : GoodIn wsL_law wsL_act_r13 := goodIn_r _ [349, 350] (by decide +kernel) (by decide +kernel)
set_option maxRecDepth 20000 in
theorem ggL_law_L_act_x5 : GoodIn wsL_law wsX50 := goodIn_r _ [360, 361, 362, 363] (by decide +kernel) (by decide +kernel)
set_option maxRecDepth 20000 in
theorem ggL_law_L_act_x0 : GoodIn wsL_law wsX00 := goodIn_r _ [364, 365, 366, 367, 368, 369, 370] (by decide +kernel) (by decide +kernel)
set_option maxRecDepth 20000 in
theorem ggL_law_L_act_x1 : GoodIn wsL_law wsX10 := goodIn_r _ [371, 372, 373, 374] (by decide +kernel) (by decide +kernel)
set_option maxRecDepth 20000 in
theorem ggL_law_L_act_x2 : GoodIn wsL_law wsX20 := goodIn_r _ [388, 389, 390, 391, 392, 393, 394] (by decide +kernel) (by decide +kernel)
set_option maxRecDepth 20000 in
theorem ggL_law_L_act_x3 : GoodIn wsL_law wsX30 := goodIn_r _ [378, 379, 380, 381, 382, 383, 384, 385, 386, 387] (by decide +kernel) (by decide +kernel)
set_option maxRecDepth 20000 in
theorem ggL_law_L_act_x4 : GoodIn wsL_law wsX40 := goodIn_r _ [375, 376, 377] (by decide +kernel) (by decide +kernel)
set_option maxRecDepth 20000 in
theorem ggL_law_L_act : GoodIn wsL_law wsL_act := goodIn_ca (goodIn_ca (goodIn_ca (goodIn_c1 ggL_law_L_act_p0 (goodIn_app (goodIn_app (goodIn_app (goodIn_app (goodIn_app (goodIn_app (goodIn_app ggL_law_L_act_p1 (goodIn_app ggL_law_L_act_p2 (goodIn_app ggL_law_L_act_p3 (goodIn_app ggL_law_L_act_p4 (goodIn_app ggL_law_L_act_p5 (goodIn_app ggL_law_L_act_p6 (goodIn_app ggL_law_L_act_p7 (goodIn_app ggL_law_L_act_p8 (goodIn_app ggL_law_L_act_p9 (goodIn_app ggL_law_L_act_p10 (goodIn_app ggL_law_L_act_p11 (goodIn_app ggL_law_L_act_p12 (ggL_law_L_act_p13))))))))))))) ggL_law_L_act_x5) ggL_law_L_act_x0) ggL_law_L_act_x1) ggL_law_L_act_x2) ggL_law_L_act_x3) ggL_law_L_act_x4)) (goodIn_sub (fun _ h => List.mem_append_left _ (List.mem_append_left _ (List.mem_append_right _ h))) (by decide +kernel))) (goodIn_sub (fun _ h => List.mem_append_right _ h) (by decide +kernel))) (goodIn_sub (fun _ h => List.mem_append_left _ (List.mem_append_right _ h)) (by decide +kernel))
set_option maxRecDepth 20000 in
theorem gL_law_L_act : GoodIn wsL_law (va_wsS RL 97 yL_act wsL_act) := goodIn_app (goodIn_of _ (by decide +kernel)) ggL_law_L_act
set_option maxRecDepth 20000 in
theorem ggL_law_L_refuses_p0 : GoodIn wsL_law [.code yL_refuses cL_refuses 14 (some .boolean)] := goodIn_c1 (goodIn_1 (w := .code yL_refuses cL_refuses 14 (some .boolean)) 160 rfl (by decide +kernel)) (goodIn_nil)
set_option maxRecDepth 20000 in
theorem ggL_law_L_refuses_p1 : GoodIn wsL_law wsL_refuses_r1 := goodIn_r _ [161, 3, 82, 83, 84, 2, 85, 17, 96, 97, 98, 99, 100, 101, 102, 94, 95, 103, 104, 105, 106, 19, 107, 108] (by decide +kernel) (by decide +kernel)
set_option maxRecDepth 20000 in
theorem ggL_law_L_refuses_p2 : GoodIn wsL_law wsL_refuses_r2 := goodIn_r _ [109, 50, 110, 81, 76, 80, 79, 130, 131, 132, 133, 134, 135, 136, 137, 90, 91, 92, 93, 138, 139, 140, 21, 141] (by decide +kernel) (by decide +kernel)
set_option maxRecDepth 20000 in
theorem ggL_law_L_refuses_p3 : GoodIn wsL_law wsL_refuses_r3 := goodIn_r _ [52, 43, 142, 143, 144, 16, 145, 31, 30, 146, 147, 148, 42, 149, 58, 56, 57, 162, 163, 6, 164, 165, 166, 167] (by decide +kernel) (by decide +kernel)
set_option maxRecDepth 20000 in
theorem ggL_law_L_refuses_p4 : GoodIn wsL_law wsL_refuses_r4 := goodIn_r _ [168, 169, 170, 171, 172, 24, 173, 174, 175, 176, 177, 178, 179, 46, 180, 71, 62, 63, 66, 181, 120, 121, 122, 182] (by decide +kernel) (by decide +kernel)
set_option maxRecDepth 20000 in
theorem ggL_law_L_refuses_p5 : GoodIn wsL_law wsL_refuses_r5 := goodIn_r _ [183, 184, 185, 47, 51, 186, 187, 188, 189, 190, 191, 192, 193, 65, 68, 194, 195, 196, 197, 198, 199, 155, 156, 157] (by decide +kernel) (by decide +kernel)
set_option maxRecDepth 20000 in
theorem ggL_law_L_refuses_p6 : GoodIn wsL_law wsL_refuses_r6 := goodIn_r _ [200, 201, 202, 203, 204, 205, 206, 207, 208, 64, 67, 209, 210, 211, 212, 213, 214, 215, 216, 217, 218, 219, 75, 77] (by decide +kernel) (by decide +kernel)
set_option maxRecDepth 20000 in
theorem ggL_law_L_refuses_p7 : GoodIn wsL_law wsL_refuses_r7 := goodIn_app (a := [Cond.fieldLink RX2 21 "GainsReckoner$Matches" "units" "[I", Cond.methodLink RX1 48 yX1_matchLaterDays, Cond.instanceMethod yX1_matchLaterDays, Cond.selects RX1 yX1_matchLaterDays yX1_matchLaterDays, Cond.code yX1_matchLaterDays cX1_matchLaterDays 9 none, Cond.methodLink RX1 109 yX1_takeBought, Cond.instanceMethod yX1_takeBought, Cond.selects RX1 yX1_takeBought yX1_takeBought, Cond.code yX1_takeBought cX1_takeBought 4 (some .int), Cond.methodLink RX1 112 yX1_takeSold, Cond.instanceMethod yX1_takeSold, Cond.selects RX1 yX1_takeSold yX1_takeSold, Cond.code yX1_takeSold cX1_takeSold 4 (some .int), Cond.methodLink RX1 52 yX1_pool, Cond.instanceMethod yX1_pool, Cond.selects RX1 yX1_pool yX1_pool, Cond.code yX1_pool cX1_pool 7 none, Cond.methodLink RL 97 yL_act, Cond.static yL_act]) (goodIn_r _ [78, 220, 221, 222, 223, 224, 225, 226, 227, 228, 229, 230, 231, 232, 233, 234, 235, 236, 237] (by decide +kernel) (by decide +kernel)) (goodIn_c1 (goodIn_1 (w := Cond.codeWith yL_act cL_act 7 (some .int) [(0, 302, 303, 13), (0, 302, 308, 84), (0, 302, 313, 15)]) 238 rfl (by decide +kernel)) (goodIn_app (a := [Cond.classLink RL 84 "java/lang/IllegalArgumentException", Cond.methodLink RL 17 yX5_buy, Cond.instanceMethod yX5_buy, Cond.selects RX5 yX5_buy yX5_buy]) (goodIn_r _ [239, 240, 241, 242] (by decide +kernel) (by decide +kernel)) (goodIn_nil)))
set_option maxRecDepth 20000 in
theorem ggL_law_L_refuses_p8 : GoodIn wsL_law wsL_refuses_r8 := goodIn_r _ [243, 244, 245, 246, 247, 248, 249, 250, 251, 252, 253, 254, 255, 256, 257, 258, 259, 260, 35, 261, 262, 263, 264, 29] (by decide +kernel) (by decide +kernel)
set_option maxRecDepth 20000 in
theorem ggL_law_L_refuses_p9 : GoodIn wsL_law wsL_refuses_r9 := goodIn_r _ [32, 33, 34, 265, 266, 267, 268, 269, 270, 271, 272, 273, 274, 275, 276, 277, 278, 279, 280, 281, 282, 283, 284, 285] (by decide +kernel) (by decide +kernel)
set_option maxRecDepth 20000 in
theorem ggL_law_L_refuses_p10 : GoodIn wsL_law wsL_refuses_r10 := goodIn_r _ [286, 287, 288, 289, 290, 23, 291, 292, 293, 294, 150, 151, 152, 153, 154, 295, 296, 297, 298, 299, 300, 301, 302, 303] (by decide +kernel) (by decide +kernel)
set_option maxRecDepth 20000 in
theorem ggL_law_L_refuses_p11 : GoodIn wsL_law wsL_refuses_r11 := goodIn_r _ [304, 305, 306, 307, 308, 309, 310, 311, 312, 313, 314, 315, 316, 317, 318, 319, 320, 321, 322, 323, 324, 325, 326, 327] (by decide +kernel) (by decide +kernel)
set_option maxRecDepth 20000 in
theorem ggL_law_L_refuses_p12 : GoodIn wsL_law wsL_refuses_r12 := goodIn_r _ [328, 329, 330, 331, 332, 333, 334, 335, 336, 337, 338, 339, 340, 341, 342, 343, 344, 345, 346, 86, 87, 88, 89, 111] (by decide +kernel) (by decide +kernel)
set_option maxRecDepth 20000 in
theorem ggL_law_L_refuses_p13 : GoodIn wsL_law wsL_refuses_r13 := goodIn_r _ [112, 113, 114, 115, 116, 117, 118, 119, 123, 124, 125, 126, 127, 128, 129, 347, 348, 349, 350] (by decide +kernel) (by decide +kernel)
set_option maxRecDepth 20000 in
theorem ggL_law_L_refuses_x5 : GoodIn wsL_law wsX50 := goodIn_r _ [360, 361, 362, 363] (by decide +kernel) (by decide +kernel)
set_option maxRecDepth 20000 in
theorem ggL_law_L_refuses_x0 : GoodIn wsL_law wsX00 := goodIn_r _ [364, 365, 366, 367, 368, 369, 370] (by decide +kernel) (by decide +kernel)
set_option maxRecDepth 20000 in
theorem ggL_law_L_refuses_x1 : GoodIn wsL_law wsX10 := goodIn_r _ [371, 372, 373, 374] (by decide +kernel) (by decide +kernel)
set_option maxRecDepth 20000 in
theorem ggL_law_L_refuses_x2 : GoodIn wsL_law wsX20 := goodIn_r _ [388, 389, 390, 391, 392, 393, 394] (by decide +kernel) (by decide +kernel)
set_option maxRecDepth 20000 in
theorem ggL_law_L_refuses_x4 : GoodIn wsL_law wsX40 := goodIn_r _ [375, 376, 377] (by decide +kernel) (by decide +kernel)
set_option maxRecDepth 20000 in
theorem ggL_law_L_refuses_x3 : GoodIn wsL_law wsX30 := goodIn_r _ [378, 379, 380, 381, 382, 383, 384, 385, 386, 387] (by decide +kernel) (by decide +kernel)
set_option maxRecDepth 20000 in
theorem ggL_law_L_refuses : GoodIn wsL_law wsL_refuses := goodIn_ca (goodIn_ca (goodIn_ca (goodIn_c1 ggL_law_L_refuses_p0 (goodIn_app (goodIn_app (goodIn_app (goodIn_app (goodIn_app (goodIn_app (goodIn_app ggL_law_L_refuses_p1 (goodIn_app ggL_law_L_refuses_p2 (goodIn_app ggL_law_L_refuses_p3 (goodIn_app ggL_law_L_refuses_p4 (goodIn_app ggL_law_L_refuses_p5 (goodIn_app ggL_law_L_refuses_p6 (goodIn_app ggL_law_L_refuses_p7 (goodIn_app ggL_law_L_refuses_p8 (goodIn_app ggL_law_L_refuses_p9 (goodIn_app ggL_law_L_refuses_p10 (goodIn_app ggL_law_L_refuses_p11 (goodIn_app ggL_law_L_refuses_p12 (ggL_law_L_refuses_p13))))))))))))) ggL_law_L_refuses_x5) ggL_law_L_refuses_x0) ggL_law_L_refuses_x1) ggL_law_L_refuses_x2) ggL_law_L_refuses_x4) ggL_law_L_refuses_x3)) (goodIn_sub (fun _ h => List.mem_append_left _ (List.mem_append_left _ (List.mem_append_right _ h))) (by decide +kernel))) (goodIn_sub (fun _ h => List.mem_append_left _ (List.mem_append_right _ h)) (by decide +kernel))) (goodIn_sub (fun _ h => List.mem_append_right _ h) (by decide +kernel))
set_option maxRecDepth 20000 in
theorem gL_law_L_refuses : GoodIn wsL_law (va_wsS RL 102 yL_refuses wsL_refuses) := goodIn_app (goodIn_of _ (by decide +kernel)) ggL_law_L_refuses
