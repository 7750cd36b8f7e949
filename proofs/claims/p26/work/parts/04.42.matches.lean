set_option maxRecDepth 20000 in
theorem ggL_matches_X5_setWindow_p0 : GoodIn wsL_matches [.code yX5_setWindow cX5_setWindow 4 (some .int)] := goodIn_r _ [292] (by decide +kernel) (by decide +kernel)
set_option maxRecDepth 20000 in
theorem ggL_matches_X5_setWindow_p1 : GoodIn wsL_matches wsX5_setWindow_r1 := goodIn_r _ [245, 246, 20, 15, 13, 180, 181, 182, 17, 183, 43, 48, 39, 47, 184, 185, 186, 42, 187, 188, 189, 190, 191, 67] (by decide +kernel) (by decide +kernel)
set_option maxRecDepth 20000 in
theorem ggL_matches_X5_setWindow_p2 : GoodIn wsL_matches wsX5_setWindow_r2 := goodIn_r _ [59, 61, 62, 64, 192, 139, 140, 12, 141, 27, 26, 193, 194, 195, 196, 58, 197, 151, 152, 153, 198, 143, 144, 38] (by decide +kernel) (by decide +kernel)
set_option maxRecDepth 20000 in
theorem ggL_matches_X5_setWindow_p3 : GoodIn wsL_matches wsX5_setWindow_r3 := goodIn_r _ [145, 54, 52, 53, 199, 200, 201, 202, 203, 204, 205, 206, 179, 116, 117, 118, 60, 63, 207, 208, 209, 210, 211, 212] (by decide +kernel) (by decide +kernel)
set_option maxRecDepth 20000 in
theorem ggL_matches_X5_setWindow_p4 : GoodIn wsL_matches wsX5_setWindow_r4 := goodIn_r _ [3, 213, 214, 215, 216, 46, 217, 77, 71, 72, 73, 74, 75, 76, 218, 219, 220, 221, 222, 223, 224, 225, 226, 227] (by decide +kernel) (by decide +kernel)
set_option maxRecDepth 20000 in
theorem ggL_matches_X5_setWindow_p5 : GoodIn wsL_matches wsX5_setWindow_r5 := goodIn_r _ [228, 229, 230, 231, 232, 233] (by decide +kernel) (by decide +kernel)
set_option maxRecDepth 20000 in
theorem ggL_matches_X5_setWindow_x5 : GoodIn wsL_matches wsX50 := goodIn_r _ [352, 353, 354, 355] (by decide +kernel) (by decide +kernel)
set_option maxRecDepth 20000 in
theorem ggL_matches_X5_setWindow_x1 : GoodIn wsL_matches wsX10 := goodIn_r _ [363, 364, 365, 366] (by decide +kernel) (by decide +kernel)
set_option maxRecDepth 20000 in
theorem ggL_matches_X5_setWindow_x2 : GoodIn wsL_matches wsX20 := goodIn_r _ [380, 381, 382, 383, 384, 385, 386] (by decide +kernel) (by decide +kernel)
set_option maxRecDepth 20000 in
theorem ggL_matches_X5_setWindow_x3 : GoodIn wsL_matches wsX30 := goodIn_r _ [370, 371, 372, 373, 374, 375, 376, 377, 378, 379] (by decide +kernel) (by decide +kernel)
set_option maxRecDepth 20000 in
theorem ggL_matches_X5_setWindow_x0 : GoodIn wsL_matches wsX00 := goodIn_r _ [356, 357, 358, 359, 360, 361, 362] (by decide +kernel) (by decide +kernel)
set_option maxRecDepth 20000 in
theorem ggL_matches_X5_setWindow_x4 : GoodIn wsL_matches wsX40 := goodIn_r _ [367, 368, 369] (by decide +kernel) (by decide +kernel)
set_option maxRecDepth 20000 in
theorem ggL_matches_X5_setWindow : GoodIn wsL_matches wsX5_setWindow := goodIn_ca (goodIn_c1 ggL_matches_X5_setWindow_p0 (goodIn_app (goodIn_app (goodIn_app (goodIn_app (goodIn_app (goodIn_app (goodIn_app ggL_matches_X5_setWindow_p1 (goodIn_app ggL_matches_X5_setWindow_p2 (goodIn_app ggL_matches_X5_setWindow_p3 (goodIn_app ggL_matches_X5_setWindow_p4 (ggL_matches_X5_setWindow_p5))))) ggL_matches_X5_setWindow_x5) ggL_matches_X5_setWindow_x1) ggL_matches_X5_setWindow_x2) ggL_matches_X5_setWindow_x3) ggL_matches_X5_setWindow_x0) ggL_matches_X5_setWindow_x4)) (goodIn_sub (fun _ h => List.mem_cons_of_mem _ (List.mem_append_right _ h)) (by decide +kernel))
set_option maxRecDepth 20000 in
theorem gL_matches_X5_setWindow : GoodIn wsL_matches (wsV RL 32 RX5 yX5_setWindow wsX5_setWindow) := goodIn_app (goodIn_of _ (by decide +kernel)) ggL_matches_X5_setWindow
set_option maxRecDepth 20000 in
theorem ggL_matches_L_cancel_p0 : GoodIn wsL_matches [.codeWith yL_cancel cL_cancel 3 (some .int) [(0, 6, 7, 13), (0, 6, 11, 15)]] := goodIn_r _ [162] (by decide +kernel) (by decide +kernel)
set_option maxRecDepth 20000 in
theorem ggL_matches_L_cancel_p1 : GoodIn wsL_matches wsL_cancel_r1 := goodIn_r _ [163, 164, 165, 166, 167, 3, 168, 90, 91, 169, 170, 13, 20, 130, 131, 132, 133, 86, 87, 88, 89, 15, 171, 172] (by decide +kernel) (by decide +kernel)
set_option maxRecDepth 20000 in
theorem ggL_matches_L_cancel_p2 : GoodIn wsL_matches wsL_cancel_r2 := goodIn_r _ [173, 174, 143, 144, 38, 145, 54, 52, 53, 175, 176, 177, 42, 178, 67, 58, 59, 62, 179, 116, 117, 118, 180, 181] (by decide +kernel) (by decide +kernel)
set_option maxRecDepth 20000 in
theorem ggL_matches_L_cancel_p3 : GoodIn wsL_matches wsL_cancel_r3 := goodIn_r _ [182, 17, 183, 43, 48, 39, 47, 184, 185, 186, 187, 188, 189, 190, 191, 61, 64, 192, 139, 140, 12, 141, 27, 26] (by decide +kernel) (by decide +kernel)
set_option maxRecDepth 20000 in
theorem ggL_matches_L_cancel_p4 : GoodIn wsL_matches wsL_cancel_r4 := goodIn_r _ [193, 194, 195, 196, 197, 151, 152, 153, 198, 199, 200, 201, 202, 203, 204, 205, 206, 60, 63, 207, 208, 209, 210, 211] (by decide +kernel) (by decide +kernel)
set_option maxRecDepth 20000 in
theorem ggL_matches_L_cancel_p5 : GoodIn wsL_matches wsL_cancel_r5 := goodIn_r _ [212, 213, 214, 215, 216, 46, 217, 77, 71, 72, 73, 74, 75, 76, 218, 219, 220, 221, 222, 223, 224, 225, 226, 227] (by decide +kernel) (by decide +kernel)
set_option maxRecDepth 20000 in
theorem ggL_matches_L_cancel_p6 : GoodIn wsL_matches wsL_cancel_r6 := goodIn_r _ [228, 229, 230, 231, 232, 233] (by decide +kernel) (by decide +kernel)
set_option maxRecDepth 20000 in
theorem ggL_matches_L_cancel_x5 : GoodIn wsL_matches wsX50 := goodIn_r _ [352, 353, 354, 355] (by decide +kernel) (by decide +kernel)
set_option maxRecDepth 20000 in
theorem ggL_matches_L_cancel_x0 : GoodIn wsL_matches wsX00 := goodIn_r _ [356, 357, 358, 359, 360, 361, 362] (by decide +kernel) (by decide +kernel)
set_option maxRecDepth 20000 in
theorem ggL_matches_L_cancel_x1 : GoodIn wsL_matches wsX10 := goodIn_r _ [363, 364, 365, 366] (by decide +kernel) (by decide +kernel)
set_option maxRecDepth 20000 in
theorem ggL_matches_L_cancel_x4 : GoodIn wsL_matches wsX40 := goodIn_r _ [367, 368, 369] (by decide +kernel) (by decide +kernel)
set_option maxRecDepth 20000 in
theorem ggL_matches_L_cancel_x3 : GoodIn wsL_matches wsX30 := goodIn_r _ [370, 371, 372, 373, 374, 375, 376, 377, 378, 379] (by decide +kernel) (by decide +kernel)
set_option maxRecDepth 20000 in
theorem ggL_matches_L_cancel_x2 : GoodIn wsL_matches wsX20 := goodIn_r _ [380, 381, 382, 383, 384, 385, 386] (by decide +kernel) (by decide +kernel)
set_option maxRecDepth 20000 in
theorem ggL_matches_L_cancel : GoodIn wsL_matches wsL_cancel := goodIn_ca (goodIn_ca (goodIn_c1 ggL_matches_L_cancel_p0 (goodIn_app (goodIn_app (goodIn_app (goodIn_app (goodIn_app (goodIn_app (goodIn_app ggL_matches_L_cancel_p1 (goodIn_app ggL_matches_L_cancel_p2 (goodIn_app ggL_matches_L_cancel_p3 (goodIn_app ggL_matches_L_cancel_p4 (goodIn_app ggL_matches_L_cancel_p5 (ggL_matches_L_cancel_p6)))))) ggL_matches_L_cancel_x5) ggL_matches_L_cancel_x0) ggL_matches_L_cancel_x1) ggL_matches_L_cancel_x4) ggL_matches_L_cancel_x3) ggL_matches_L_cancel_x2)) (goodIn_sub (fun _ h => List.mem_cons_of_mem _ (List.mem_append_left _ (List.mem_append_left _ (List.mem_append_right _ h)))) (by decide +kernel))) (goodIn_sub (fun _ h => List.mem_cons_of_mem _ (List.mem_append_left _ (List.mem_append_right _ h))) (by decide +kernel))
set_option maxRecDepth 20000 in
theorem gL_matches_L_cancel : GoodIn wsL_matches (va_wsS RL 92 yL_cancel wsL_cancel) := goodIn_app (goodIn_of _ (by decide +kernel)) ggL_matches_L_cancel
set_option maxRecDepth 20000 in
theorem ggL_matches_X5_costIn : GoodIn wsL_matches wsX5_costIn := goodIn_ca (goodIn_r _ [332, 86, 87, 88, 3, 89, 90, 91, 15, 333, 334, 335, 42, 336, 67, 61, 363, 364, 365, 366, 352, 353, 354, 355, 370, 371, 372, 373, 374, 375, 376, 377, 378, 379] (by decide +kernel) (by decide +kernel)) (goodIn_sub (fun _ h => List.mem_cons_of_mem _ (List.mem_append_left _ (List.mem_append_left _ (List.mem_append_right _ h)))) (by decide +kernel))
set_option maxRecDepth 20000 in
theorem gL_matches_X5_costIn : GoodIn wsL_matches (wsV RL 66 RX5 yX5_costIn wsX5_costIn) := goodIn_app (goodIn_of _ (by decide +kernel)) ggL_matches_X5_costIn
set_option maxRecDepth 20000 in
theorem ggL_matches_X5_costMatched : GoodIn wsL_matches wsX5_costMatched := goodIn_ca (goodIn_r _ [340, 86, 87, 88, 3, 89, 90, 91, 15, 341, 342, 343, 46, 344, 77, 75, 363, 364, 365, 366, 352, 353, 354, 355, 380, 381, 382, 383, 384, 385, 386] (by decide +kernel) (by decide +kernel)) (goodIn_sub (fun _ h => List.mem_cons_of_mem _ (List.mem_append_left _ (List.mem_append_left _ (List.mem_append_right _ h)))) (by decide +kernel))
set_option maxRecDepth 20000 in
theorem gL_matches_X5_costMatched : GoodIn wsL_matches (wsV RL 69 RX5 yX5_costMatched wsX5_costMatched) := goodIn_app (goodIn_of _ (by decide +kernel)) ggL_matches_X5_costMatched
