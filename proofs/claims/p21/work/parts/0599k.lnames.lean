/-! the law: words of calls: law L_areBoxes -/
set_option maxRecDepth 20000 in
theorem ggL_law_L_areBoxes_r1 : GoodIn wsL_law wsL_areBoxes_r1 := goodIn_r _ [40, 202, 203, 37, 204, 39, 71, 73, 205, 206, 207, 2, 208, 50, 51, 78, 79, 114, 209, 210, 211, 212, 213, 115] (by decide +kernel) (by decide +kernel)
set_option maxRecDepth 20000 in
theorem ggL_law_L_areBoxes_r2 : GoodIn wsL_law wsL_areBoxes_r2 := goodIn_r _ [157, 113, 116, 117, 118, 119, 11, 214, 215, 216, 156, 343, 344, 345, 346, 347, 348, 349, 235, 236, 237, 238, 46, 47] (by decide +kernel) (by decide +kernel)
set_option maxRecDepth 20000 in
theorem ggL_law_L_areBoxes_r3 : GoodIn wsL_law wsL_areBoxes_r3 := goodIn_r _ [48, 49, 14, 350, 351, 352, 16, 353, 29, 178, 179, 180, 181, 28, 354, 355, 356, 357, 322, 358, 359, 360, 83, 361] (by decide +kernel) (by decide +kernel)
set_option maxRecDepth 20000 in
theorem ggL_law_L_areBoxes_r4 : GoodIn wsL_law wsL_areBoxes_r4 := goodIn_r _ [100, 362, 363, 364, 365, 366, 367, 368, 369, 370, 371, 372, 373, 374, 375, 376, 45, 377, 378, 379, 380, 96, 98, 97] (by decide +kernel) (by decide +kernel)
set_option maxRecDepth 20000 in
theorem ggL_law_L_areBoxes_r5 : GoodIn wsL_law wsL_areBoxes_r5 := goodIn_r _ [381, 382, 383, 384, 99, 385, 386, 387, 388, 389, 390, 391, 392] (by decide +kernel) (by decide +kernel)
set_option maxRecDepth 20000 in
theorem ggL_law_L_areBoxes_wsX10 : GoodIn wsL_law wsX10 := goodIn_r _ [442, 443, 444, 445, 446, 447, 448, 449, 450, 451] (by decide +kernel) (by decide +kernel)
set_option maxRecDepth 20000 in
theorem ggL_law_L_areBoxes_wsX40 : GoodIn wsL_law wsX40 := goodIn_r _ [431, 432, 433, 434, 435, 436, 437] (by decide +kernel) (by decide +kernel)
set_option maxRecDepth 20000 in
theorem ggL_law_L_areBoxes_wsX30 : GoodIn wsL_law wsX30 := goodIn_r _ [438, 439] (by decide +kernel) (by decide +kernel)
set_option maxRecDepth 20000 in
theorem ggL_law_L_areBoxes : GoodIn wsL_law wsL_areBoxes := goodIn_ca (goodIn_ca (goodIn_app (a := [.code yL_areBoxes cL_areBoxes 7 (some .boolean)]) (goodIn_r _ [430] (by decide +kernel) (by decide +kernel)) (goodIn_app (goodIn_app (goodIn_app (goodIn_app ggL_law_L_areBoxes_r1 (goodIn_app ggL_law_L_areBoxes_r2 (goodIn_app ggL_law_L_areBoxes_r3 (goodIn_app ggL_law_L_areBoxes_r4 ggL_law_L_areBoxes_r5)))) ggL_law_L_areBoxes_wsX10) ggL_law_L_areBoxes_wsX40) ggL_law_L_areBoxes_wsX30)) (goodIn_sub (fun _ h => List.mem_append_left _ (List.mem_append_left _ (List.mem_append_right _ h))) (by decide +kernel))) (goodIn_sub (fun _ h => List.mem_append_left _ (List.mem_append_right _ h)) (by decide +kernel))
set_option maxRecDepth 20000 in
theorem gL_law_L_areBoxes : GoodIn wsL_law (va_wsS RL 152 yL_areBoxes wsL_areBoxes) := goodIn_app (goodIn_of _ (by decide +kernel)) ggL_law_L_areBoxes
