/-! the law: words of calls: acts L_approves -/
set_option maxRecDepth 20000 in
theorem ggL_acts_L_approves_r1 : GoodIn wsL_acts wsL_approves_r1 := goodIn_r _ [9, 1, 2, 3, 4, 5, 259, 260, 261, 13, 15, 16, 262, 263, 264, 21, 265, 36, 37, 25, 26, 266, 67, 153] (by decide +kernel) (by decide +kernel)
set_option maxRecDepth 20000 in
theorem ggL_acts_L_approves_r2 : GoodIn wsL_acts wsL_approves_r2 := goodIn_r _ [267, 268, 158, 32, 33, 34, 35, 38, 269, 270, 271, 272, 46, 47, 160, 273, 161, 274, 275, 276, 277, 278, 279, 280] (by decide +kernel) (by decide +kernel)
set_option maxRecDepth 20000 in
theorem ggL_acts_L_approves_r3 : GoodIn wsL_acts wsL_approves_r3 := goodIn_r _ [180, 181, 182, 183, 184, 185, 186, 187, 155, 156, 157, 159] (by decide +kernel) (by decide +kernel)
set_option maxRecDepth 20000 in
theorem ggL_acts_L_approves_wsX40 : GoodIn wsL_acts wsX40 := goodIn_r _ [407, 408, 409, 410, 411, 412, 413] (by decide +kernel) (by decide +kernel)
set_option maxRecDepth 20000 in
theorem ggL_acts_L_approves_wsX30 : GoodIn wsL_acts wsX30 := goodIn_r _ [424, 425] (by decide +kernel) (by decide +kernel)
set_option maxRecDepth 20000 in
theorem ggL_acts_L_approves_wsX00 : GoodIn wsL_acts wsX00 := goodIn_r _ [426, 427, 428] (by decide +kernel) (by decide +kernel)
set_option maxRecDepth 20000 in
theorem ggL_acts_L_approves : GoodIn wsL_acts wsL_approves := goodIn_ca (goodIn_ca (goodIn_app (a := [.code yL_approves cL_approves 8 (some .boolean)]) (goodIn_r _ [258] (by decide +kernel) (by decide +kernel)) (goodIn_app (goodIn_app (goodIn_app (goodIn_app ggL_acts_L_approves_r1 (goodIn_app ggL_acts_L_approves_r2 ggL_acts_L_approves_r3)) ggL_acts_L_approves_wsX40) ggL_acts_L_approves_wsX30) ggL_acts_L_approves_wsX00)) (goodIn_sub (fun _ h => List.mem_cons_of_mem _ (List.mem_append_right _ h)) (by decide +kernel))) (goodIn_sub (fun _ h => List.mem_cons_of_mem _ (List.mem_append_left _ (List.mem_append_right _ h))) (by decide +kernel))
set_option maxRecDepth 20000 in
theorem gL_acts_L_approves : GoodIn wsL_acts (va_wsS RL 140 yL_approves wsL_approves) := goodIn_app (goodIn_of _ (by decide +kernel)) ggL_acts_L_approves
