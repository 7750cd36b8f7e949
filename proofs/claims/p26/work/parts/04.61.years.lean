set_option maxRecDepth 20000 in
theorem ggL_years_X5_gain : GoodIn wsL_years wsX5_gain := goodIn_ca (goodIn_r _ [237, 88, 89, 90, 3, 91, 86, 87, 15, 199, 200, 201, 206, 207, 208, 46, 209, 77, 72, 76, 75, 360, 361, 362, 363, 349, 350, 351, 352, 377, 378, 379, 380, 381, 382, 383] (by decide +kernel) (by decide +kernel)) (goodIn_sub (fun _ h => List.mem_cons_of_mem _ (List.mem_append_left _ (List.mem_append_left _ (List.mem_append_right _ h)))) (by decide +kernel))
set_option maxRecDepth 20000 in
theorem gL_years_X5_gain : GoodIn wsL_years (wsV RL 45 RX5 yX5_gain wsX5_gain) := goodIn_app (goodIn_of _ (by decide +kernel)) ggL_years_X5_gain
set_option maxRecDepth 20000 in
theorem ggL_years_L_refuses_p0 : GoodIn wsL_years [.code yL_refuses cL_refuses 14 (some .boolean)] := goodIn_c1 (goodIn_1 (w := .code yL_refuses cL_refuses 14 (some .boolean)) 241 rfl (by decide +kernel)) (goodIn_nil)
set_option maxRecDepth 20000 in
theorem ggL_years_L_refuses_p1 : GoodIn wsL_years wsL_refuses_r1 := goodIn_r _ [242, 243, 244, 245, 246, 3, 247, 13, 195, 196, 197, 198, 199, 200, 201, 86, 87, 202, 203, 204, 205, 15, 206, 207] (by decide +kernel) (by decide +kernel)
set_option maxRecDepth 20000 in
theorem ggL_years_L_refuses_p2 : GoodIn wsL_years wsL_refuses_r2 := goodIn_r _ [208, 46, 209, 77, 72, 76, 75, 248, 249, 250, 251, 82, 83, 84, 85, 88, 89, 90, 91, 252, 253, 254, 17, 255] (by decide +kernel) (by decide +kernel)
set_option maxRecDepth 20000 in
theorem ggL_years_L_refuses_p3 : GoodIn wsL_years wsL_refuses_r3 := goodIn_r _ [48, 39, 256, 129, 130, 12, 131, 27, 26, 257, 141, 142, 38, 143, 54, 52, 53, 258, 259, 240, 260, 261, 262, 263] (by decide +kernel) (by decide +kernel)
set_option maxRecDepth 20000 in
theorem ggL_years_L_refuses_p4 : GoodIn wsL_years wsL_refuses_r4 := goodIn_r _ [264, 265, 266, 105, 106, 20, 187, 188, 189, 190, 191, 192, 193, 42, 194, 67, 58, 59, 62, 152, 153, 154, 155, 116] (by decide +kernel) (by decide +kernel)
set_option maxRecDepth 20000 in
theorem ggL_years_L_refuses_p5 : GoodIn wsL_years wsL_refuses_r5 := goodIn_r _ [117, 118, 119, 43, 47, 120, 121, 122, 123, 124, 125, 126, 127, 61, 64, 128, 132, 133, 134, 135, 136, 137, 138, 139] (by decide +kernel) (by decide +kernel)
set_option maxRecDepth 20000 in
theorem ggL_years_L_refuses_p6 : GoodIn wsL_years wsL_refuses_r6 := goodIn_r _ [140, 144, 145, 146, 147, 148, 149, 150, 151, 60, 63, 156, 157, 158, 159, 160, 161, 162, 163, 164, 165, 166, 71, 73] (by decide +kernel) (by decide +kernel)
set_option maxRecDepth 20000 in
theorem ggL_years_L_refuses_p7 : GoodIn wsL_years wsL_refuses_r7 := goodIn_app (a := [Cond.fieldLink RX2 21 "GainsReckoner$Matches" "units" "[I", Cond.methodLink RX1 48 yX1_matchLaterDays, Cond.instanceMethod yX1_matchLaterDays, Cond.selects RX1 yX1_matchLaterDays yX1_matchLaterDays, Cond.code yX1_matchLaterDays cX1_matchLaterDays 9 none, Cond.methodLink RX1 109 yX1_takeBought, Cond.instanceMethod yX1_takeBought, Cond.selects RX1 yX1_takeBought yX1_takeBought, Cond.code yX1_takeBought cX1_takeBought 4 (some .int), Cond.methodLink RX1 112 yX1_takeSold, Cond.instanceMethod yX1_takeSold, Cond.selects RX1 yX1_takeSold yX1_takeSold, Cond.code yX1_takeSold cX1_takeSold 4 (some .int), Cond.methodLink RX1 52 yX1_pool, Cond.instanceMethod yX1_pool, Cond.selects RX1 yX1_pool yX1_pool, Cond.code yX1_pool cX1_pool 7 none, Cond.methodLink RL 97 yL_act, Cond.static yL_act]) (goodIn_r _ [74, 167, 168, 169, 170, 171, 172, 173, 174, 175, 176, 177, 178, 179, 180, 181, 182, 267, 268] (by decide +kernel) (by decide +kernel)) (goodIn_c1 (goodIn_1 (w := Cond.codeWith yL_act cL_act 7 (some .int) [(0, 302, 303, 13), (0, 302, 308, 84), (0, 302, 313, 15)]) 269 rfl (by decide +kernel)) (goodIn_app (a := [Cond.classLink RL 84 "java/lang/IllegalArgumentException", Cond.methodLink RL 17 yX5_buy, Cond.instanceMethod yX5_buy, Cond.selects RX5 yX5_buy yX5_buy]) (goodIn_r _ [270, 78, 79, 80] (by decide +kernel) (by decide +kernel)) (goodIn_nil)))
set_option maxRecDepth 20000 in
theorem ggL_years_L_refuses_p8 : GoodIn wsL_years wsL_refuses_r8 := goodIn_r _ [81, 92, 93, 94, 95, 96, 97, 98, 99, 100, 101, 102, 103, 104, 107, 108, 109, 110, 31, 111, 112, 113, 114, 25] (by decide +kernel) (by decide +kernel)
set_option maxRecDepth 20000 in
theorem ggL_years_L_refuses_p9 : GoodIn wsL_years wsL_refuses_r9 := goodIn_r _ [28, 29, 30, 115, 183, 184, 185, 186, 271, 272, 273, 274, 275, 276, 277, 278, 279, 280, 281, 282, 283, 284, 285, 286] (by decide +kernel) (by decide +kernel)
set_option maxRecDepth 20000 in
theorem ggL_years_L_refuses_p10 : GoodIn wsL_years wsL_refuses_r10 := goodIn_r _ [287, 230, 231, 232, 233, 19, 288, 289, 290, 291, 292, 293, 294, 295, 296, 297, 298, 299, 300, 234, 235, 236, 237, 301] (by decide +kernel) (by decide +kernel)
set_option maxRecDepth 20000 in
theorem ggL_years_L_refuses_p11 : GoodIn wsL_years wsL_refuses_r11 := goodIn_r _ [302, 303, 304, 305, 306, 307, 308, 309, 310, 311, 312, 313, 314, 315, 316, 317, 318, 319, 320, 321, 322, 323, 324, 325] (by decide +kernel) (by decide +kernel)
set_option maxRecDepth 20000 in
theorem ggL_years_L_refuses_p12 : GoodIn wsL_years wsL_refuses_r12 := goodIn_r _ [326, 327, 328, 329, 330, 331, 332, 333, 334, 335, 336, 337, 338, 339, 340, 341, 342, 343, 344, 345, 346, 347, 348, 226] (by decide +kernel) (by decide +kernel)
set_option maxRecDepth 20000 in
theorem ggL_years_L_refuses_p13 : GoodIn wsL_years wsL_refuses_r13 := goodIn_r _ [227, 228, 229, 222, 223, 224, 225, 214, 215, 216, 217, 218, 219, 220, 221, 210, 211, 212, 213] (by decide +kernel) (by decide +kernel)
set_option maxRecDepth 20000 in
theorem ggL_years_L_refuses_x5 : GoodIn wsL_years wsX50 := goodIn_r _ [349, 350, 351, 352] (by decide +kernel) (by decide +kernel)
set_option maxRecDepth 20000 in
theorem ggL_years_L_refuses_x0 : GoodIn wsL_years wsX00 := goodIn_r _ [353, 354, 355, 356, 357, 358, 359] (by decide +kernel) (by decide +kernel)
set_option maxRecDepth 20000 in
theorem ggL_years_L_refuses_x1 : GoodIn wsL_years wsX10 := goodIn_r _ [360, 361, 362, 363] (by decide +kernel) (by decide +kernel)
set_option maxRecDepth 20000 in
theorem ggL_years_L_refuses_x2 : GoodIn wsL_years wsX20 := goodIn_r _ [377, 378, 379, 380, 381, 382, 383] (by decide +kernel) (by decide +kernel)
set_option maxRecDepth 20000 in
theorem ggL_years_L_refuses_x4 : GoodIn wsL_years wsX40 := goodIn_r _ [364, 365, 366] (by decide +kernel) (by decide +kernel)
set_option maxRecDepth 20000 in
theorem ggL_years_L_refuses_x3 : GoodIn wsL_years wsX30 := goodIn_r _ [367, 368, 369, 370, 371, 372, 373, 374, 375, 376] (by decide +kernel) (by decide +kernel)
set_option maxRecDepth 20000 in
theorem ggL_years_L_refuses : GoodIn wsL_years wsL_refuses := goodIn_ca (goodIn_ca (goodIn_ca (goodIn_c1 ggL_years_L_refuses_p0 (goodIn_app (goodIn_app (goodIn_app (goodIn_app (goodIn_app (goodIn_app (goodIn_app ggL_years_L_refuses_p1 (goodIn_app ggL_years_L_refuses_p2 (goodIn_app ggL_years_L_refuses_p3 (goodIn_app ggL_years_L_refuses_p4 (goodIn_app ggL_years_L_refuses_p5 (goodIn_app ggL_years_L_refuses_p6 (goodIn_app ggL_years_L_refuses_p7 (goodIn_app ggL_years_L_refuses_p8 (goodIn_app ggL_years_L_refuses_p9 (goodIn_app ggL_years_L_refuses_p10 (goodIn_app ggL_years_L_refuses_p11 (goodIn_app ggL_years_L_refuses_p12 (ggL_years_L_refuses_p13))))))))))))) ggL_years_L_refuses_x5) ggL_years_L_refuses_x0) ggL_years_L_refuses_x1) ggL_years_L_refuses_x2) ggL_years_L_refuses_x4) ggL_years_L_refuses_x3)) (goodIn_sub (fun _ h => List.mem_cons_of_mem _ (List.mem_append_left _ (List.mem_append_left _ (List.mem_append_right _ h)))) (by decide +kernel))) (goodIn_sub (fun _ h => List.mem_cons_of_mem _ (List.mem_append_right _ h)) (by decide +kernel))) (goodIn_sub (fun _ h => List.mem_cons_of_mem _ (List.mem_append_left _ (List.mem_append_right _ h))) (by decide +kernel))
set_option maxRecDepth 20000 in
theorem gL_years_L_refuses : GoodIn wsL_years (va_wsS RL 102 yL_refuses wsL_refuses) := goodIn_app (goodIn_of _ (by decide +kernel)) ggL_years_L_refuses
set_option maxRecDepth 20000 in
theorem ggL_years_L_act_p0 : GoodIn wsL_years [.codeWith yL_act cL_act 7 (some .int) [(0, 302, 303, 13), (0, 302, 308, 84), (0, 302, 313, 15)]] := goodIn_c1 (goodIn_1 (w := .codeWith yL_act cL_act 7 (some .int) [(0, 302, 303, 13), (0, 302, 308, 84), (0, 302, 313, 15)]) 269 rfl (by decide +kernel)) (goodIn_nil)
set_option maxRecDepth 20000 in
theorem ggL_years_L_act_p1 : GoodIn wsL_years wsL_act_r1 := goodIn_r _ [261, 270, 262, 78, 79, 80, 3, 81, 13, 20, 82, 83, 84, 85, 86, 87, 88, 89, 90, 91, 15, 92, 93, 94] (by decide +kernel) (by decide +kernel)
set_option maxRecDepth 20000 in
theorem ggL_years_L_act_p2 : GoodIn wsL_years wsL_act_r2 := goodIn_r _ [95, 96, 97, 98, 99, 100, 101, 102, 103, 104, 105, 106, 107, 108, 109, 12, 110, 31, 111, 112, 113, 114, 25, 27] (by decide +kernel) (by decide +kernel)
set_option maxRecDepth 20000 in
theorem ggL_years_L_act_p3 : GoodIn wsL_years wsL_act_r3 := goodIn_r _ [28, 29, 30, 115, 116, 117, 118, 17, 119, 43, 48, 39, 47, 120, 121, 122, 42, 123, 124, 125, 126, 127, 67, 59] (by decide +kernel) (by decide +kernel)
set_option maxRecDepth 20000 in
theorem ggL_years_L_act_p4 : GoodIn wsL_years wsL_act_r4 := goodIn_r _ [61, 62, 64, 128, 129, 130, 131, 26, 132, 133, 134, 135, 58, 136, 137, 138, 139, 140, 141, 142, 38, 143, 54, 52] (by decide +kernel) (by decide +kernel)
set_option maxRecDepth 20000 in
theorem ggL_years_L_act_p5 : GoodIn wsL_years wsL_act_r5 := goodIn_r _ [53, 144, 145, 146, 147, 148, 149, 150, 151, 152, 153, 154, 155, 60, 63, 156, 157, 158, 159, 160, 161, 162, 163, 164] (by decide +kernel) (by decide +kernel)
set_option maxRecDepth 20000 in
theorem ggL_years_L_act_p6 : GoodIn wsL_years wsL_act_r6 := goodIn_r _ [165, 46, 166, 77, 71, 72, 73, 74, 75, 76, 167, 168, 169, 170, 171, 172, 173, 174, 175, 176, 177, 178, 179, 180] (by decide +kernel) (by decide +kernel)
set_option maxRecDepth 20000 in
theorem ggL_years_L_act_p7 : GoodIn wsL_years wsL_act_r7 := goodIn_r _ [181, 182, 183, 184, 185, 186, 187, 188, 189, 190, 191, 192, 193, 194, 271, 272, 273, 274, 275, 276, 277, 278, 279, 280] (by decide +kernel) (by decide +kernel)
set_option maxRecDepth 20000 in
theorem ggL_years_L_act_p8 : GoodIn wsL_years wsL_act_r8 := goodIn_r _ [281, 282, 283, 284, 285, 286, 287, 230, 231, 232, 233, 19, 199, 200, 201, 288, 289, 290, 291, 248, 249, 250, 251, 252] (by decide +kernel) (by decide +kernel)
set_option maxRecDepth 20000 in
theorem ggL_years_L_act_p9 : GoodIn wsL_years wsL_act_r9 := goodIn_r _ [253, 254, 255, 256, 257, 292, 293, 294, 295, 296, 297, 298, 299, 300, 234, 235, 236, 237, 206, 207, 208, 209, 301, 302] (by decide +kernel) (by decide +kernel)
set_option maxRecDepth 20000 in
theorem ggL_years_L_act_p10 : GoodIn wsL_years wsL_act_r10 := goodIn_r _ [303, 304, 305, 306, 307, 308, 309, 310, 311, 312, 313, 314, 315, 316, 317, 318, 319, 320, 321, 322, 323, 324, 325, 326] (by decide +kernel) (by decide +kernel)
set_option maxRecDepth 20000 in
theorem ggL_years_L_act_p11 : GoodIn wsL_years wsL_act_r11 := goodIn_r _ [327, 328, 329, 330, 331, 332, 333, 334, 335, 336, 337, 338, 339, 340, 341, 342, 343, 344, 345, 346, 347, 348, 195, 196] (by decide +kernel) (by decide +kernel)
set_option maxRecDepth 20000 in
theorem ggL_years_L_act_p12 : GoodIn wsL_years wsL_act_r12 := goodIn_r _ [197, 198, 202, 203, 204, 205, 226, 227, 228, 229, 222, 223, 224, 225, 214, 215, 216, 217, 218, 219, 220, 221, 210, 211] (by decide +kernel) (by decide +kernel)
set_option maxRecDepth 20000 in
theorem ggL_years_L_act_p13 : GoodIn wsL_years wsL_act_r13 := goodIn_r _ [212, 213] (by decide +kernel) (by decide +kernel)
set_option maxRecDepth 20000 in
theorem ggL_years_L_act_x5 : GoodIn wsL_years wsX50 := goodIn_r _ [349, 350, 351, 352] (by decide +kernel) (by decide +kernel)
set_option maxRecDepth 20000 in
theorem ggL_years_L_act_x0 : GoodIn wsL_years wsX00 := goodIn_r _ [353, 354, 355, 356, 357, 358, 359] (by decide +kernel) (by decide +kernel)
set_option maxRecDepth 20000 in
theorem ggL_years_L_act_x1 : GoodIn wsL_years wsX10 := goodIn_r _ [360, 361, 362, 363] (by decide +kernel) (by decide +kernel)
set_option maxRecDepth 20000 in
theorem ggL_years_L_act_x2 : GoodIn wsL_years wsX20 := goodIn_r _ [377, 378, 379, 380, 381, 382, 383] (by decide +kernel) (by decide +kernel)
set_option maxRecDepth 20000 in
theorem ggL_years_L_act_x3 : GoodIn wsL_years wsX30 := goodIn_r _ [367, 368, 369, 370, 371, 372, 373, 374, 375, 376] (by decide +kernel) (by decide +kernel)
set_option maxRecDepth 20000 in
theorem ggL_years_L_act_x4 : GoodIn wsL_years wsX40 := goodIn_r _ [364, 365, 366] (by decide +kernel) (by decide +kernel)
set_option maxRecDepth 20000 in
theorem ggL_years_L_act : GoodIn wsL_years wsL_act := goodIn_ca (goodIn_ca (goodIn_ca (goodIn_c1 ggL_years_L_act_p0 (goodIn_app (goodIn_app (goodIn_app (goodIn_app (goodIn_app (goodIn_app (goodIn_app ggL_years_L_act_p1 (goodIn_app ggL_years_L_act_p2 (goodIn_app ggL_years_L_act_p3 (goodIn_app ggL_years_L_act_p4 (goodIn_app ggL_years_L_act_p5 (goodIn_app ggL_years_L_act_p6 (goodIn_app ggL_years_L_act_p7 (goodIn_app ggL_years_L_act_p8 (goodIn_app ggL_years_L_act_p9 (goodIn_app ggL_years_L_act_p10 (goodIn_app ggL_years_L_act_p11 (goodIn_app ggL_years_L_act_p12 (ggL_years_L_act_p13))))))))))))) ggL_years_L_act_x5) ggL_years_L_act_x0) ggL_years_L_act_x1) ggL_years_L_act_x2) ggL_years_L_act_x3) ggL_years_L_act_x4)) (goodIn_sub (fun _ h => List.mem_cons_of_mem _ (List.mem_append_left _ (List.mem_append_left _ (List.mem_append_right _ h)))) (by decide +kernel))) (goodIn_sub (fun _ h => List.mem_cons_of_mem _ (List.mem_append_left _ (List.mem_append_right _ h))) (by decide +kernel))) (goodIn_sub (fun _ h => List.mem_cons_of_mem _ (List.mem_append_right _ h)) (by decide +kernel))
set_option maxRecDepth 20000 in
theorem gL_years_L_act : GoodIn wsL_years (va_wsS RL 97 yL_act wsL_act) := goodIn_app (goodIn_of _ (by decide +kernel)) ggL_years_L_act
set_option maxRecDepth 20000 in
theorem ggL_years_L_cancel_p0 : GoodIn wsL_years [.codeWith yL_cancel cL_cancel 3 (some .int) [(0, 6, 7, 13), (0, 6, 11, 15)]] := goodIn_r _ [260] (by decide +kernel) (by decide +kernel)
set_option maxRecDepth 20000 in
theorem ggL_years_L_cancel_p1 : GoodIn wsL_years wsL_cancel_r1 := goodIn_r _ [261, 262, 263, 264, 265, 3, 266, 86, 87, 105, 106, 13, 20, 82, 83, 84, 85, 88, 89, 90, 91, 15, 187, 188] (by decide +kernel) (by decide +kernel)
set_option maxRecDepth 20000 in
theorem ggL_years_L_cancel_p2 : GoodIn wsL_years wsL_cancel_r2 := goodIn_r _ [189, 190, 141, 142, 38, 143, 54, 52, 53, 191, 192, 193, 42, 194, 67, 58, 59, 62, 152, 153, 154, 155, 116, 117] (by decide +kernel) (by decide +kernel)
set_option maxRecDepth 20000 in
theorem ggL_years_L_cancel_p3 : GoodIn wsL_years wsL_cancel_r3 := goodIn_r _ [118, 17, 119, 43, 48, 39, 47, 120, 121, 122, 123, 124, 125, 126, 127, 61, 64, 128, 129, 130, 12, 131, 27, 26] (by decide +kernel) (by decide +kernel)
set_option maxRecDepth 20000 in
theorem ggL_years_L_cancel_p4 : GoodIn wsL_years wsL_cancel_r4 := goodIn_r _ [132, 133, 134, 135, 136, 137, 138, 139, 140, 144, 145, 146, 147, 148, 149, 150, 151, 60, 63, 156, 157, 158, 159, 160] (by decide +kernel) (by decide +kernel)
set_option maxRecDepth 20000 in
theorem ggL_years_L_cancel_p5 : GoodIn wsL_years wsL_cancel_r5 := goodIn_r _ [161, 162, 163, 164, 165, 46, 166, 77, 71, 72, 73, 74, 75, 76, 167, 168, 169, 170, 171, 172, 173, 174, 175, 176] (by decide +kernel) (by decide +kernel)
set_option maxRecDepth 20000 in
theorem ggL_years_L_cancel_p6 : GoodIn wsL_years wsL_cancel_r6 := goodIn_r _ [177, 178, 179, 180, 181, 182] (by decide +kernel) (by decide +kernel)
set_option maxRecDepth 20000 in
theorem ggL_years_L_cancel_x5 : GoodIn wsL_years wsX50 := goodIn_r _ [349, 350, 351, 352] (by decide +kernel) (by decide +kernel)
set_option maxRecDepth 20000 in
theorem ggL_years_L_cancel_x0 : GoodIn wsL_years wsX00 := goodIn_r _ [353, 354, 355, 356, 357, 358, 359] (by decide +kernel) (by decide +kernel)
set_option maxRecDepth 20000 in
theorem ggL_years_L_cancel_x1 : GoodIn wsL_years wsX10 := goodIn_r _ [360, 361, 362, 363] (by decide +kernel) (by decide +kernel)
set_option maxRecDepth 20000 in
theorem ggL_years_L_cancel_x4 : GoodIn wsL_years wsX40 := goodIn_r _ [364, 365, 366] (by decide +kernel) (by decide +kernel)
set_option maxRecDepth 20000 in
theorem ggL_years_L_cancel_x3 : GoodIn wsL_years wsX30 := goodIn_r _ [367, 368, 369, 370, 371, 372, 373, 374, 375, 376] (by decide +kernel) (by decide +kernel)
set_option maxRecDepth 20000 in
theorem ggL_years_L_cancel_x2 : GoodIn wsL_years wsX20 := goodIn_r _ [377, 378, 379, 380, 381, 382, 383] (by decide +kernel) (by decide +kernel)
set_option maxRecDepth 20000 in
theorem ggL_years_L_cancel : GoodIn wsL_years wsL_cancel := goodIn_ca (goodIn_ca (goodIn_c1 ggL_years_L_cancel_p0 (goodIn_app (goodIn_app (goodIn_app (goodIn_app (goodIn_app (goodIn_app (goodIn_app ggL_years_L_cancel_p1 (goodIn_app ggL_years_L_cancel_p2 (goodIn_app ggL_years_L_cancel_p3 (goodIn_app ggL_years_L_cancel_p4 (goodIn_app ggL_years_L_cancel_p5 (ggL_years_L_cancel_p6)))))) ggL_years_L_cancel_x5) ggL_years_L_cancel_x0) ggL_years_L_cancel_x1) ggL_years_L_cancel_x4) ggL_years_L_cancel_x3) ggL_years_L_cancel_x2)) (goodIn_sub (fun _ h => List.mem_cons_of_mem _ (List.mem_append_left _ (List.mem_append_left _ (List.mem_append_right _ h)))) (by decide +kernel))) (goodIn_sub (fun _ h => List.mem_cons_of_mem _ (List.mem_append_right _ h)) (by decide +kernel))
set_option maxRecDepth 20000 in
theorem gL_years_L_cancel : GoodIn wsL_years (va_wsS RL 92 yL_cancel wsL_cancel) := goodIn_app (goodIn_of _ (by decide +kernel)) ggL_years_L_cancel
set_option maxRecDepth 20000 in
theorem ggL_years_X5_trades : GoodIn wsL_years wsX5_trades := goodIn_r _ [247, 13, 349, 350, 351, 352, 353, 354, 355, 356, 357, 358, 359] (by decide +kernel) (by decide +kernel)
set_option maxRecDepth 20000 in
theorem gL_years_X5_trades : GoodIn wsL_years (wsV RL 86 RX5 yX5_trades wsX5_trades) := goodIn_app (goodIn_of _ (by decide +kernel)) ggL_years_X5_trades
set_option maxRecDepth 20000 in
theorem ggL_years_X5_holding : GoodIn wsL_years wsX5_holding := goodIn_ca (goodIn_r _ [251, 13, 82, 83, 84, 3, 85, 86, 87, 88, 89, 90, 91, 15, 252, 253, 254, 17, 255, 48, 39, 256, 129, 130, 12, 131, 27, 26, 257, 141, 142, 38, 143, 54, 52, 53, 349, 350, 351, 352, 353, 354, 355, 356, 357, 358, 359, 360, 361, 362, 363, 364, 365, 366] (by decide +kernel) (by decide +kernel)) (goodIn_sub (fun _ h => List.mem_cons_of_mem _ (List.mem_append_left _ (List.mem_append_left _ (List.mem_append_right _ h)))) (by decide +kernel))
set_option maxRecDepth 20000 in
theorem gL_years_X5_holding : GoodIn wsL_years (wsV RL 36 RX5 yX5_holding wsX5_holding) := goodIn_app (goodIn_of _ (by decide +kernel)) ggL_years_X5_holding
