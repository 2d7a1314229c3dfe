/-! the law: words of calls: acts L_areBoxes -/
set_option maxRecDepth 20000 in
theorem ggL_acts_L_areBoxes_r1 : GoodIn wsL_acts wsL_areBoxes_r1 := goodIn_r _ [16, 165, 166, 3, 167, 13, 14, 17, 168, 169, 170, 21, 171, 36, 37, 23, 24, 73, 172, 173, 174, 175, 176, 74] (by decide +kernel) (by decide +kernel)
set_option maxRecDepth 20000 in
theorem ggL_acts_L_areBoxes_r2 : GoodIn wsL_acts wsL_areBoxes_r2 := goodIn_r _ [116, 72, 75, 76, 77, 78, 28, 177, 178, 179, 115, 319, 320, 321, 322, 323, 324, 325, 198, 199, 200, 201, 32, 33] (by decide +kernel) (by decide +kernel)
set_option maxRecDepth 20000 in
theorem ggL_acts_L_areBoxes_r3 : GoodIn wsL_acts wsL_areBoxes_r3 := goodIn_r _ [34, 35, 38, 326, 327, 328, 128, 329, 130, 140, 141, 142, 143, 131, 330, 331, 332, 333, 294, 334, 335, 336, 31, 337] (by decide +kernel) (by decide +kernel)
set_option maxRecDepth 20000 in
theorem ggL_acts_L_areBoxes_r4 : GoodIn wsL_acts wsL_areBoxes_r4 := goodIn_r _ [57, 338, 339, 340, 341, 342, 343, 344, 345, 346, 347, 348, 349, 350, 351, 352, 67, 353, 354, 355, 356, 53, 55, 54] (by decide +kernel) (by decide +kernel)
set_option maxRecDepth 20000 in
theorem ggL_acts_L_areBoxes_r5 : GoodIn wsL_acts wsL_areBoxes_r5 := goodIn_r _ [357, 358, 359, 360, 56, 361, 362, 363, 364, 365, 366, 367, 368] (by decide +kernel) (by decide +kernel)
set_option maxRecDepth 20000 in
theorem ggL_acts_L_areBoxes_wsX10 : GoodIn wsL_acts wsX10 := goodIn_r _ [414, 415, 416, 417, 418, 419, 420, 421, 422, 423] (by decide +kernel) (by decide +kernel)
set_option maxRecDepth 20000 in
theorem ggL_acts_L_areBoxes_wsX40 : GoodIn wsL_acts wsX40 := goodIn_r _ [407, 408, 409, 410, 411, 412, 413] (by decide +kernel) (by decide +kernel)
set_option maxRecDepth 20000 in
theorem ggL_acts_L_areBoxes_wsX30 : GoodIn wsL_acts wsX30 := goodIn_r _ [424, 425] (by decide +kernel) (by decide +kernel)
set_option maxRecDepth 20000 in
theorem ggL_acts_L_areBoxes : GoodIn wsL_acts wsL_areBoxes := goodIn_ca (goodIn_ca (goodIn_app (a := [.code yL_areBoxes cL_areBoxes 7 (some .boolean)]) (goodIn_r _ [406] (by decide +kernel) (by decide +kernel)) (goodIn_app (goodIn_app (goodIn_app (goodIn_app ggL_acts_L_areBoxes_r1 (goodIn_app ggL_acts_L_areBoxes_r2 (goodIn_app ggL_acts_L_areBoxes_r3 (goodIn_app ggL_acts_L_areBoxes_r4 ggL_acts_L_areBoxes_r5)))) ggL_acts_L_areBoxes_wsX10) ggL_acts_L_areBoxes_wsX40) ggL_acts_L_areBoxes_wsX30)) (goodIn_sub (fun _ h => List.mem_cons_of_mem _ (List.mem_append_right _ h)) (by decide +kernel))) (goodIn_sub (fun _ h => List.mem_cons_of_mem _ (List.mem_append_left _ (List.mem_append_left _ (List.mem_append_right _ h)))) (by decide +kernel))
set_option maxRecDepth 20000 in
theorem gL_acts_L_areBoxes : GoodIn wsL_acts (va_wsS RL 152 yL_areBoxes wsL_areBoxes) := goodIn_app (goodIn_of _ (by decide +kernel)) ggL_acts_L_areBoxes
