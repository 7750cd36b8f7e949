set_option maxRecDepth 20000 in
theorem ggL_matches_L_refuses_p0 : GoodIn wsL_matches [.code yL_refuses cL_refuses 14 (some .boolean)] := goodIn_c1 (goodIn_1 (w := .code yL_refuses cL_refuses 14 (some .boolean)) 157 rfl (by decide +kernel)) (goodIn_nil)
set_option maxRecDepth 20000 in
theorem ggL_matches_L_refuses_p1 : GoodIn wsL_matches wsL_refuses_r1 := goodIn_r _ [158, 159, 78, 79, 80, 3, 81, 13, 92, 93, 94, 95, 96, 97, 98, 90, 91, 99, 100, 101, 102, 15, 103, 104] (by decide +kernel) (by decide +kernel)
set_option maxRecDepth 20000 in
theorem ggL_matches_L_refuses_p2 : GoodIn wsL_matches wsL_refuses_r2 := goodIn_r _ [105, 46, 106, 77, 72, 76, 75, 126, 127, 128, 129, 130, 131, 132, 133, 86, 87, 88, 89, 134, 135, 136, 17, 137] (by decide +kernel) (by decide +kernel)
set_option maxRecDepth 20000 in
theorem ggL_matches_L_refuses_p3 : GoodIn wsL_matches wsL_refuses_r3 := goodIn_r _ [48, 39, 138, 139, 140, 12, 141, 27, 26, 142, 143, 144, 38, 145, 54, 52, 53, 160, 161, 156, 162, 163, 164, 165] (by decide +kernel) (by decide +kernel)
set_option maxRecDepth 20000 in
theorem ggL_matches_L_refuses_p4 : GoodIn wsL_matches wsL_refuses_r4 := goodIn_r _ [166, 167, 168, 169, 170, 20, 171, 172, 173, 174, 175, 176, 177, 42, 178, 67, 58, 59, 62, 179, 116, 117, 118, 180] (by decide +kernel) (by decide +kernel)
set_option maxRecDepth 20000 in
theorem ggL_matches_L_refuses_p5 : GoodIn wsL_matches wsL_refuses_r5 := goodIn_r _ [181, 182, 183, 43, 47, 184, 185, 186, 187, 188, 189, 190, 191, 61, 64, 192, 193, 194, 195, 196, 197, 151, 152, 153] (by decide +kernel) (by decide +kernel)
set_option maxRecDepth 20000 in
theorem ggL_matches_L_refuses_p6 : GoodIn wsL_matches wsL_refuses_r6 := goodIn_r _ [198, 199, 200, 201, 202, 203, 204, 205, 206, 60, 63, 207, 208, 209, 210, 211, 212, 213, 214, 215, 216, 217, 71, 73] (by decide +kernel) (by decide +kernel)
set_option maxRecDepth 20000 in
theorem ggL_matches_L_refuses_p7 : GoodIn wsL_matches wsL_refuses_r7 := goodIn_app (a := [Cond.fieldLink RX2 21 "GainsReckoner$Matches" "units" "[I", Cond.methodLink RX1 48 yX1_matchLaterDays, Cond.instanceMethod yX1_matchLaterDays, Cond.selects RX1 yX1_matchLaterDays yX1_matchLaterDays, Cond.code yX1_matchLaterDays cX1_matchLaterDays 9 none, Cond.methodLink RX1 109 yX1_takeBought, Cond.instanceMethod yX1_takeBought, Cond.selects RX1 yX1_takeBought yX1_takeBought, Cond.code yX1_takeBought cX1_takeBought 4 (some .int), Cond.methodLink RX1 112 yX1_takeSold, Cond.instanceMethod yX1_takeSold, Cond.selects RX1 yX1_takeSold yX1_takeSold, Cond.code yX1_takeSold cX1_takeSold 4 (some .int), Cond.methodLink RX1 52 yX1_pool, Cond.instanceMethod yX1_pool, Cond.selects RX1 yX1_pool yX1_pool, Cond.code yX1_pool cX1_pool 7 none, Cond.methodLink RL 97 yL_act, Cond.static yL_act]) (goodIn_r _ [74, 218, 219, 220, 221, 222, 223, 224, 225, 226, 227, 228, 229, 230, 231, 232, 233, 234, 235] (by decide +kernel) (by decide +kernel)) (goodIn_c1 (goodIn_1 (w := Cond.codeWith yL_act cL_act 7 (some .int) [(0, 302, 303, 13), (0, 302, 308, 84), (0, 302, 313, 15)]) 236 rfl (by decide +kernel)) (goodIn_app (a := [Cond.classLink RL 84 "java/lang/IllegalArgumentException", Cond.methodLink RL 17 yX5_buy, Cond.instanceMethod yX5_buy, Cond.selects RX5 yX5_buy yX5_buy]) (goodIn_r _ [237, 238, 239, 240] (by decide +kernel) (by decide +kernel)) (goodIn_nil)))
set_option maxRecDepth 20000 in
theorem ggL_matches_L_refuses_p8 : GoodIn wsL_matches wsL_refuses_r8 := goodIn_r _ [241, 242, 243, 244, 245, 246, 247, 248, 249, 250, 251, 252, 253, 254, 255, 256, 257, 258, 31, 259, 260, 261, 262, 25] (by decide +kernel) (by decide +kernel)
set_option maxRecDepth 20000 in
theorem ggL_matches_L_refuses_p9 : GoodIn wsL_matches wsL_refuses_r9 := goodIn_r _ [28, 29, 30, 263, 264, 265, 266, 267, 268, 269, 270, 271, 272, 273, 274, 275, 276, 277, 278, 279, 280, 281, 282, 283] (by decide +kernel) (by decide +kernel)
set_option maxRecDepth 20000 in
theorem ggL_matches_L_refuses_p10 : GoodIn wsL_matches wsL_refuses_r10 := goodIn_r _ [284, 285, 286, 287, 288, 19, 289, 290, 291, 292, 146, 147, 148, 149, 150, 293, 294, 295, 296, 297, 298, 299, 300, 301] (by decide +kernel) (by decide +kernel)
set_option maxRecDepth 20000 in
theorem ggL_matches_L_refuses_p11 : GoodIn wsL_matches wsL_refuses_r11 := goodIn_r _ [302, 303, 304, 305, 306, 307, 308, 309, 310, 311, 312, 313, 314, 315, 316, 317, 318, 319, 320, 321, 322, 323, 324, 325] (by decide +kernel) (by decide +kernel)
set_option maxRecDepth 20000 in
theorem ggL_matches_L_refuses_p12 : GoodIn wsL_matches wsL_refuses_r12 := goodIn_r _ [326, 327, 328, 329, 330, 331, 332, 333, 334, 335, 336, 337, 338, 339, 340, 341, 342, 343, 344, 82, 83, 84, 85, 107] (by decide +kernel) (by decide +kernel)
set_option maxRecDepth 20000 in
theorem ggL_matches_L_refuses_p13 : GoodIn wsL_matches wsL_refuses_r13 := goodIn_r _ [108, 109, 110, 111, 112, 113, 114, 115, 119, 120, 121, 122, 123, 124, 125, 345, 346, 347, 348] (by decide +kernel) (by decide +kernel)
set_option maxRecDepth 20000 in
theorem ggL_matches_L_refuses_x5 : GoodIn wsL_matches wsX50 := goodIn_r _ [352, 353, 354, 355] (by decide +kernel) (by decide +kernel)
set_option maxRecDepth 20000 in
theorem ggL_matches_L_refuses_x0 : GoodIn wsL_matches wsX00 := goodIn_r _ [356, 357, 358, 359, 360, 361, 362] (by decide +kernel) (by decide +kernel)
set_option maxRecDepth 20000 in
theorem ggL_matches_L_refuses_x1 : GoodIn wsL_matches wsX10 := goodIn_r _ [363, 364, 365, 366] (by decide +kernel) (by decide +kernel)
set_option maxRecDepth 20000 in
theorem ggL_matches_L_refuses_x2 : GoodIn wsL_matches wsX20 := goodIn_r _ [380, 381, 382, 383, 384, 385, 386] (by decide +kernel) (by decide +kernel)
set_option maxRecDepth 20000 in
theorem ggL_matches_L_refuses_x4 : GoodIn wsL_matches wsX40 := goodIn_r _ [367, 368, 369] (by decide +kernel) (by decide +kernel)
set_option maxRecDepth 20000 in
theorem ggL_matches_L_refuses_x3 : GoodIn wsL_matches wsX30 := goodIn_r _ [370, 371, 372, 373, 374, 375, 376, 377, 378, 379] (by decide +kernel) (by decide +kernel)
set_option maxRecDepth 20000 in
theorem ggL_matches_L_refuses : GoodIn wsL_matches wsL_refuses := goodIn_ca (goodIn_ca (goodIn_ca (goodIn_c1 ggL_matches_L_refuses_p0 (goodIn_app (goodIn_app (goodIn_app (goodIn_app (goodIn_app (goodIn_app (goodIn_app ggL_matches_L_refuses_p1 (goodIn_app ggL_matches_L_refuses_p2 (goodIn_app ggL_matches_L_refuses_p3 (goodIn_app ggL_matches_L_refuses_p4 (goodIn_app ggL_matches_L_refuses_p5 (goodIn_app ggL_matches_L_refuses_p6 (goodIn_app ggL_matches_L_refuses_p7 (goodIn_app ggL_matches_L_refuses_p8 (goodIn_app ggL_matches_L_refuses_p9 (goodIn_app ggL_matches_L_refuses_p10 (goodIn_app ggL_matches_L_refuses_p11 (goodIn_app ggL_matches_L_refuses_p12 (ggL_matches_L_refuses_p13))))))))))))) ggL_matches_L_refuses_x5) ggL_matches_L_refuses_x0) ggL_matches_L_refuses_x1) ggL_matches_L_refuses_x2) ggL_matches_L_refuses_x4) ggL_matches_L_refuses_x3)) (goodIn_sub (fun _ h => List.mem_cons_of_mem _ (List.mem_append_left _ (List.mem_append_left _ (List.mem_append_right _ h)))) (by decide +kernel))) (goodIn_sub (fun _ h => List.mem_cons_of_mem _ (List.mem_append_left _ (List.mem_append_right _ h))) (by decide +kernel))) (goodIn_sub (fun _ h => List.mem_cons_of_mem _ (List.mem_append_right _ h)) (by decide +kernel))
set_option maxRecDepth 20000 in
theorem gL_matches_L_refuses : GoodIn wsL_matches (va_wsS RL 102 yL_refuses wsL_refuses) := goodIn_app (goodIn_of _ (by decide +kernel)) ggL_matches_L_refuses
set_option maxRecDepth 20000 in
theorem ggL_matches_L_act_p0 : GoodIn wsL_matches [.codeWith yL_act cL_act 7 (some .int) [(0, 302, 303, 13), (0, 302, 308, 84), (0, 302, 313, 15)]] := goodIn_c1 (goodIn_1 (w := .codeWith yL_act cL_act 7 (some .int) [(0, 302, 303, 13), (0, 302, 308, 84), (0, 302, 313, 15)]) 236 rfl (by decide +kernel)) (goodIn_nil)
set_option maxRecDepth 20000 in
theorem ggL_matches_L_act_p1 : GoodIn wsL_matches wsL_act_r1 := goodIn_r _ [163, 237, 164, 238, 239, 240, 3, 241, 13, 20, 130, 131, 132, 133, 90, 91, 86, 87, 88, 89, 15, 242, 243, 244] (by decide +kernel) (by decide +kernel)
set_option maxRecDepth 20000 in
theorem ggL_matches_L_act_p2 : GoodIn wsL_matches wsL_act_r2 := goodIn_r _ [245, 246, 247, 248, 249, 250, 251, 252, 253, 254, 169, 170, 255, 256, 257, 12, 258, 31, 259, 260, 261, 262, 25, 27] (by decide +kernel) (by decide +kernel)
set_option maxRecDepth 20000 in
theorem ggL_matches_L_act_p3 : GoodIn wsL_matches wsL_act_r3 := goodIn_r _ [28, 29, 30, 263, 180, 181, 182, 17, 183, 43, 48, 39, 47, 184, 185, 186, 42, 187, 188, 189, 190, 191, 67, 59] (by decide +kernel) (by decide +kernel)
set_option maxRecDepth 20000 in
theorem ggL_matches_L_act_p4 : GoodIn wsL_matches wsL_act_r4 := goodIn_r _ [61, 62, 64, 192, 139, 140, 141, 26, 193, 194, 195, 196, 58, 197, 151, 152, 153, 198, 143, 144, 38, 145, 54, 52] (by decide +kernel) (by decide +kernel)
set_option maxRecDepth 20000 in
theorem ggL_matches_L_act_p5 : GoodIn wsL_matches wsL_act_r5 := goodIn_r _ [53, 199, 200, 201, 202, 203, 204, 205, 206, 179, 116, 117, 118, 60, 63, 207, 208, 209, 210, 211, 212, 213, 214, 215] (by decide +kernel) (by decide +kernel)
set_option maxRecDepth 20000 in
theorem ggL_matches_L_act_p6 : GoodIn wsL_matches wsL_act_r6 := goodIn_r _ [216, 46, 217, 77, 71, 72, 73, 74, 75, 76, 218, 219, 220, 221, 222, 223, 224, 225, 226, 227, 228, 229, 230, 231] (by decide +kernel) (by decide +kernel)
set_option maxRecDepth 20000 in
theorem ggL_matches_L_act_p7 : GoodIn wsL_matches wsL_act_r7 := goodIn_r _ [232, 233, 264, 265, 266, 267, 171, 172, 173, 174, 175, 176, 177, 178, 268, 269, 270, 271, 272, 273, 274, 275, 276, 277] (by decide +kernel) (by decide +kernel)
set_option maxRecDepth 20000 in
theorem ggL_matches_L_act_p8 : GoodIn wsL_matches wsL_act_r8 := goodIn_r _ [278, 279, 280, 281, 282, 283, 284, 285, 286, 287, 288, 19, 96, 97, 98, 289, 290, 291, 292, 126, 127, 128, 129, 134] (by decide +kernel) (by decide +kernel)
set_option maxRecDepth 20000 in
theorem ggL_matches_L_act_p9 : GoodIn wsL_matches wsL_act_r9 := goodIn_r _ [135, 136, 137, 138, 142, 146, 147, 148, 149, 150, 293, 294, 295, 296, 297, 298, 299, 300, 103, 104, 105, 106, 301, 302] (by decide +kernel) (by decide +kernel)
set_option maxRecDepth 20000 in
theorem ggL_matches_L_act_p10 : GoodIn wsL_matches wsL_act_r10 := goodIn_r _ [303, 304, 305, 306, 307, 308, 309, 310, 311, 312, 313, 314, 315, 316, 317, 318, 319, 320, 321, 322, 323, 324, 325, 326] (by decide +kernel) (by decide +kernel)
set_option maxRecDepth 20000 in
theorem ggL_matches_L_act_p11 : GoodIn wsL_matches wsL_act_r11 := goodIn_r _ [327, 328, 329, 330, 331, 332, 333, 334, 335, 336, 337, 338, 339, 340, 341, 342, 343, 344, 82, 83, 84, 85, 92, 93] (by decide +kernel) (by decide +kernel)
set_option maxRecDepth 20000 in
theorem ggL_matches_L_act_p12 : GoodIn wsL_matches wsL_act_r12 := goodIn_r _ [94, 95, 99, 100, 101, 102, 107, 108, 109, 110, 111, 112, 113, 114, 115, 119, 120, 121, 122, 123, 124, 125, 345, 346] (by decide +kernel) (by decide +kernel)
set_option maxRecDepth 20000 in
theorem ggL_matches_L_act_p13 : GoodIn wsL_matches wsL_act_r13 := goodIn_r _ [347, 348] (by decide +kernel) (by decide +kernel)
set_option maxRecDepth 20000 in
theorem ggL_matches_L_act_x5 : GoodIn wsL_matches wsX50 := goodIn_r _ [352, 353, 354, 355] (by decide +kernel) (by decide +kernel)
set_option maxRecDepth 20000 in
theorem ggL_matches_L_act_x0 : GoodIn wsL_matches wsX00 := goodIn_r _ [356, 357, 358, 359, 360, 361, 362] (by decide +kernel) (by decide +kernel)
set_option maxRecDepth 20000 in
theorem ggL_matches_L_act_x1 : GoodIn wsL_matches wsX10 := goodIn_r _ [363, 364, 365, 366] (by decide +kernel) (by decide +kernel)
set_option maxRecDepth 20000 in
theorem ggL_matches_L_act_x2 : GoodIn wsL_matches wsX20 := goodIn_r _ [380, 381, 382, 383, 384, 385, 386] (by decide +kernel) (by decide +kernel)
set_option maxRecDepth 20000 in
theorem ggL_matches_L_act_x3 : GoodIn wsL_matches wsX30 := goodIn_r _ [370, 371, 372, 373, 374, 375, 376, 377, 378, 379] (by decide +kernel) (by decide +kernel)
set_option maxRecDepth 20000 in
theorem ggL_matches_L_act_x4 : GoodIn wsL_matches wsX40 := goodIn_r _ [367, 368, 369] (by decide +kernel) (by decide +kernel)
set_option maxRecDepth 20000 in
theorem ggL_matches_L_act : GoodIn wsL_matches wsL_act := goodIn_ca (goodIn_ca (goodIn_ca (goodIn_c1 ggL_matches_L_act_p0 (goodIn_app (goodIn_app (goodIn_app (goodIn_app (goodIn_app (goodIn_app (goodIn_app ggL_matches_L_act_p1 (goodIn_app ggL_matches_L_act_p2 (goodIn_app ggL_matches_L_act_p3 (goodIn_app ggL_matches_L_act_p4 (goodIn_app ggL_matches_L_act_p5 (goodIn_app ggL_matches_L_act_p6 (goodIn_app ggL_matches_L_act_p7 (goodIn_app ggL_matches_L_act_p8 (goodIn_app ggL_matches_L_act_p9 (goodIn_app ggL_matches_L_act_p10 (goodIn_app ggL_matches_L_act_p11 (goodIn_app ggL_matches_L_act_p12 (ggL_matches_L_act_p13))))))))))))) ggL_matches_L_act_x5) ggL_matches_L_act_x0) ggL_matches_L_act_x1) ggL_matches_L_act_x2) ggL_matches_L_act_x3) ggL_matches_L_act_x4)) (goodIn_sub (fun _ h => List.mem_cons_of_mem _ (List.mem_append_left _ (List.mem_append_left _ (List.mem_append_right _ h)))) (by decide +kernel))) (goodIn_sub (fun _ h => List.mem_cons_of_mem _ (List.mem_append_right _ h)) (by decide +kernel))) (goodIn_sub (fun _ h => List.mem_cons_of_mem _ (List.mem_append_left _ (List.mem_append_right _ h))) (by decide +kernel))
set_option maxRecDepth 20000 in
theorem gL_matches_L_act : GoodIn wsL_matches (va_wsS RL 97 yL_act wsL_act) := goodIn_app (goodIn_of _ (by decide +kernel)) ggL_matches_L_act
set_option maxRecDepth 20000 in
theorem ggL_matches_X5_buy_p0 : GoodIn wsL_matches [.code yX5_buy cX5_buy 7 (some .int)] := goodIn_r _ [241] (by decide +kernel) (by decide +kernel)
set_option maxRecDepth 20000 in
theorem ggL_matches_X5_buy_p1 : GoodIn wsL_matches wsX5_buy_r1 := goodIn_r _ [13, 20, 130, 131, 132, 3, 133, 90, 91, 86, 87, 88, 89, 15, 242, 243, 244, 245, 246, 247, 248, 249, 250, 251] (by decide +kernel) (by decide +kernel)
set_option maxRecDepth 20000 in
theorem ggL_matches_X5_buy_p2 : GoodIn wsL_matches wsX5_buy_r2 := goodIn_r _ [252, 253, 254, 169, 170, 255, 256, 257, 12, 258, 31, 259, 260, 261, 262, 25, 27, 28, 29, 30, 263, 180, 181, 182] (by decide +kernel) (by decide +kernel)
set_option maxRecDepth 20000 in
theorem ggL_matches_X5_buy_p3 : GoodIn wsL_matches wsX5_buy_r3 := goodIn_r _ [17, 183, 43, 48, 39, 47, 184, 185, 186, 42, 187, 188, 189, 190, 191, 67, 59, 61, 62, 64, 192, 139, 140, 141] (by decide +kernel) (by decide +kernel)
set_option maxRecDepth 20000 in
theorem ggL_matches_X5_buy_p4 : GoodIn wsL_matches wsX5_buy_r4 := goodIn_r _ [26, 193, 194, 195, 196, 58, 197, 151, 152, 153, 198, 143, 144, 38, 145, 54, 52, 53, 199, 200, 201, 202, 203, 204] (by decide +kernel) (by decide +kernel)
set_option maxRecDepth 20000 in
theorem ggL_matches_X5_buy_p5 : GoodIn wsL_matches wsX5_buy_r5 := goodIn_r _ [205, 206, 179, 116, 117, 118, 60, 63, 207, 208, 209, 210, 211, 212, 213, 214, 215, 216, 46, 217, 77, 71, 72, 73] (by decide +kernel) (by decide +kernel)
set_option maxRecDepth 20000 in
theorem ggL_matches_X5_buy_p6 : GoodIn wsL_matches wsX5_buy_r6 := goodIn_r _ [74, 75, 76, 218, 219, 220, 221, 222, 223, 224, 225, 226, 227, 228, 229, 230, 231, 232, 233] (by decide +kernel) (by decide +kernel)
set_option maxRecDepth 20000 in
theorem ggL_matches_X5_buy_x5 : GoodIn wsL_matches wsX50 := goodIn_r _ [352, 353, 354, 355] (by decide +kernel) (by decide +kernel)
set_option maxRecDepth 20000 in
theorem ggL_matches_X5_buy_x0 : GoodIn wsL_matches wsX00 := goodIn_r _ [356, 357, 358, 359, 360, 361, 362] (by decide +kernel) (by decide +kernel)
set_option maxRecDepth 20000 in
theorem ggL_matches_X5_buy_x1 : GoodIn wsL_matches wsX10 := goodIn_r _ [363, 364, 365, 366] (by decide +kernel) (by decide +kernel)
set_option maxRecDepth 20000 in
theorem ggL_matches_X5_buy_x2 : GoodIn wsL_matches wsX20 := goodIn_r _ [380, 381, 382, 383, 384, 385, 386] (by decide +kernel) (by decide +kernel)
set_option maxRecDepth 20000 in
theorem ggL_matches_X5_buy_x3 : GoodIn wsL_matches wsX30 := goodIn_r _ [370, 371, 372, 373, 374, 375, 376, 377, 378, 379] (by decide +kernel) (by decide +kernel)
set_option maxRecDepth 20000 in
theorem ggL_matches_X5_buy_x4 : GoodIn wsL_matches wsX40 := goodIn_r _ [367, 368, 369] (by decide +kernel) (by decide +kernel)
set_option maxRecDepth 20000 in
theorem ggL_matches_X5_buy : GoodIn wsL_matches wsX5_buy := goodIn_ca (goodIn_ca (goodIn_ca (goodIn_c1 ggL_matches_X5_buy_p0 (goodIn_app (goodIn_app (goodIn_app (goodIn_app (goodIn_app (goodIn_app (goodIn_app ggL_matches_X5_buy_p1 (goodIn_app ggL_matches_X5_buy_p2 (goodIn_app ggL_matches_X5_buy_p3 (goodIn_app ggL_matches_X5_buy_p4 (goodIn_app ggL_matches_X5_buy_p5 (ggL_matches_X5_buy_p6)))))) ggL_matches_X5_buy_x5) ggL_matches_X5_buy_x0) ggL_matches_X5_buy_x1) ggL_matches_X5_buy_x2) ggL_matches_X5_buy_x3) ggL_matches_X5_buy_x4)) (goodIn_sub (fun _ h => List.mem_cons_of_mem _ (List.mem_append_left _ (List.mem_append_left _ (List.mem_append_right _ h)))) (by decide +kernel))) (goodIn_sub (fun _ h => List.mem_cons_of_mem _ (List.mem_append_right _ h)) (by decide +kernel))) (goodIn_sub (fun _ h => List.mem_cons_of_mem _ (List.mem_append_left _ (List.mem_append_right _ h))) (by decide +kernel))
set_option maxRecDepth 20000 in
theorem gL_matches_X5_buy : GoodIn wsL_matches (wsV RL 17 RX5 yX5_buy wsX5_buy) := goodIn_app (goodIn_of _ (by decide +kernel)) ggL_matches_X5_buy
set_option maxRecDepth 20000 in
theorem ggL_matches_X5_sell_p0 : GoodIn wsL_matches [.code yX5_sell cX5_sell 7 (some .int)] := goodIn_r _ [267] (by decide +kernel) (by decide +kernel)
set_option maxRecDepth 20000 in
theorem ggL_matches_X5_sell_p1 : GoodIn wsL_matches wsX5_sell_r1 := goodIn_r _ [13, 20, 130, 131, 132, 3, 133, 90, 91, 86, 87, 88, 89, 15, 242, 243, 244, 245, 246, 247, 248, 249, 250, 251] (by decide +kernel) (by decide +kernel)
set_option maxRecDepth 20000 in
theorem ggL_matches_X5_sell_p2 : GoodIn wsL_matches wsX5_sell_r2 := goodIn_r _ [252, 253, 254, 169, 170, 255, 256, 257, 12, 258, 31, 171, 172, 173, 174, 143, 144, 38, 145, 54, 52, 53, 175, 176] (by decide +kernel) (by decide +kernel)
set_option maxRecDepth 20000 in
theorem ggL_matches_X5_sell_p3 : GoodIn wsL_matches wsX5_sell_r3 := goodIn_r _ [177, 42, 178, 67, 58, 59, 62, 179, 116, 117, 118, 259, 260, 261, 262, 25, 27, 28, 29, 30, 263, 180, 181, 182] (by decide +kernel) (by decide +kernel)
set_option maxRecDepth 20000 in
theorem ggL_matches_X5_sell_p4 : GoodIn wsL_matches wsX5_sell_r4 := goodIn_r _ [17, 183, 43, 48, 39, 47, 184, 185, 186, 187, 188, 189, 190, 191, 61, 64, 192, 139, 140, 141, 26, 193, 194, 195] (by decide +kernel) (by decide +kernel)
set_option maxRecDepth 20000 in
theorem ggL_matches_X5_sell_p5 : GoodIn wsL_matches wsX5_sell_r5 := goodIn_r _ [196, 197, 151, 152, 153, 198, 199, 200, 201, 202, 203, 204, 205, 206, 60, 63, 207, 208, 209, 210, 211, 212, 213, 214] (by decide +kernel) (by decide +kernel)
set_option maxRecDepth 20000 in
theorem ggL_matches_X5_sell_p6 : GoodIn wsL_matches wsX5_sell_r6 := goodIn_r _ [215, 216, 46, 217, 77, 71, 72, 73, 74, 75, 76, 218, 219, 220, 221, 222, 223, 224, 225, 226, 227, 228, 229, 230] (by decide +kernel) (by decide +kernel)
set_option maxRecDepth 20000 in
theorem ggL_matches_X5_sell_p7 : GoodIn wsL_matches wsX5_sell_r7 := goodIn_r _ [231, 232, 233] (by decide +kernel) (by decide +kernel)
set_option maxRecDepth 20000 in
theorem ggL_matches_X5_sell_x5 : GoodIn wsL_matches wsX50 := goodIn_r _ [352, 353, 354, 355] (by decide +kernel) (by decide +kernel)
set_option maxRecDepth 20000 in
theorem ggL_matches_X5_sell_x0 : GoodIn wsL_matches wsX00 := goodIn_r _ [356, 357, 358, 359, 360, 361, 362] (by decide +kernel) (by decide +kernel)
set_option maxRecDepth 20000 in
theorem ggL_matches_X5_sell_x1 : GoodIn wsL_matches wsX10 := goodIn_r _ [363, 364, 365, 366] (by decide +kernel) (by decide +kernel)
set_option maxRecDepth 20000 in
theorem ggL_matches_X5_sell_x4 : GoodIn wsL_matches wsX40 := goodIn_r _ [367, 368, 369] (by decide +kernel) (by decide +kernel)
set_option maxRecDepth 20000 in
theorem ggL_matches_X5_sell_x3 : GoodIn wsL_matches wsX30 := goodIn_r _ [370, 371, 372, 373, 374, 375, 376, 377, 378, 379] (by decide +kernel) (by decide +kernel)
set_option maxRecDepth 20000 in
theorem ggL_matches_X5_sell_x2 : GoodIn wsL_matches wsX20 := goodIn_r _ [380, 381, 382, 383, 384, 385, 386] (by decide +kernel) (by decide +kernel)
set_option maxRecDepth 20000 in
theorem ggL_matches_X5_sell : GoodIn wsL_matches wsX5_sell := goodIn_ca (goodIn_ca (goodIn_ca (goodIn_c1 ggL_matches_X5_sell_p0 (goodIn_app (goodIn_app (goodIn_app (goodIn_app (goodIn_app (goodIn_app (goodIn_app ggL_matches_X5_sell_p1 (goodIn_app ggL_matches_X5_sell_p2 (goodIn_app ggL_matches_X5_sell_p3 (goodIn_app ggL_matches_X5_sell_p4 (goodIn_app ggL_matches_X5_sell_p5 (goodIn_app ggL_matches_X5_sell_p6 (ggL_matches_X5_sell_p7))))))) ggL_matches_X5_sell_x5) ggL_matches_X5_sell_x0) ggL_matches_X5_sell_x1) ggL_matches_X5_sell_x4) ggL_matches_X5_sell_x3) ggL_matches_X5_sell_x2)) (goodIn_sub (fun _ h => List.mem_cons_of_mem _ (List.mem_append_left _ (List.mem_append_left _ (List.mem_append_right _ h)))) (by decide +kernel))) (goodIn_sub (fun _ h => List.mem_cons_of_mem _ (List.mem_append_right _ h)) (by decide +kernel))) (goodIn_sub (fun _ h => List.mem_cons_of_mem _ (List.mem_append_left _ (List.mem_append_right _ h))) (by decide +kernel))
set_option maxRecDepth 20000 in
theorem gL_matches_X5_sell : GoodIn wsL_matches (wsV RL 21 RX5 yX5_sell wsX5_sell) := goodIn_app (goodIn_of _ (by decide +kernel)) ggL_matches_X5_sell
set_option maxRecDepth 20000 in
theorem ggL_matches_L_is : GoodIn wsL_matches wsL_is := goodIn_ca (goodIn_r _ [351, 301, 302, 303, 3, 304, 305, 306, 307, 308, 90, 91, 86, 87, 88, 89, 15, 309, 310, 311, 312, 313, 314, 315, 316, 317, 318, 319, 320, 321, 322, 323, 324, 325, 326, 327, 328, 380, 381, 382, 383, 384, 385, 386, 363, 364, 365, 366, 352, 353, 354, 355] (by decide +kernel) (by decide +kernel)) (goodIn_sub (fun _ h => List.mem_cons_of_mem _ (List.mem_append_left _ (List.mem_append_left _ (List.mem_append_right _ h)))) (by decide +kernel))
set_option maxRecDepth 20000 in
theorem gL_matches_L_is : GoodIn wsL_matches (va_wsS RL 106 yL_is wsL_is) := goodIn_app (goodIn_of _ (by decide +kernel)) ggL_matches_L_is
set_option maxRecDepth 20000 in
theorem ggL_matches_X5_gain : GoodIn wsL_matches wsX5_gain := goodIn_ca (goodIn_r _ [300, 86, 87, 88, 3, 89, 90, 91, 15, 96, 97, 98, 103, 104, 105, 46, 106, 77, 72, 76, 75, 363, 364, 365, 366, 352, 353, 354, 355, 380, 381, 382, 383, 384, 385, 386] (by decide +kernel) (by decide +kernel)) (goodIn_sub (fun _ h => List.mem_cons_of_mem _ (List.mem_append_left _ (List.mem_append_left _ (List.mem_append_right _ h)))) (by decide +kernel))
set_option maxRecDepth 20000 in
theorem gL_matches_X5_gain : GoodIn wsL_matches (wsV RL 45 RX5 yX5_gain wsX5_gain) := goodIn_app (goodIn_of _ (by decide +kernel)) ggL_matches_X5_gain
set_option maxRecDepth 20000 in
theorem ggL_matches_X5_poolCost : GoodIn wsL_matches wsX5_poolCost := goodIn_ca (goodIn_r _ [296, 130, 131, 132, 3, 133, 90, 91, 86, 87, 88, 89, 15, 150, 151, 152, 42, 153, 67, 58, 363, 364, 365, 366, 370, 371, 372, 373, 374, 375, 376, 377, 378, 379, 352, 353, 354, 355] (by decide +kernel) (by decide +kernel)) (goodIn_sub (fun _ h => List.mem_cons_of_mem _ (List.mem_append_left _ (List.mem_append_left _ (List.mem_append_right _ h)))) (by decide +kernel))
set_option maxRecDepth 20000 in
theorem gL_matches_X5_poolCost : GoodIn wsL_matches (wsV RL 42 RX5 yX5_poolCost wsX5_poolCost) := goodIn_app (goodIn_of _ (by decide +kernel)) ggL_matches_X5_poolCost
