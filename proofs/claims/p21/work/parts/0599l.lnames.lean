/-! the law: words of calls: law rest -/
set_option maxRecDepth 20000 in
theorem ggL_law_L_boxes : GoodIn wsL_law wsL_boxes := goodIn_ca (goodIn_r _ [38, 39, 40, 41, 42, 43, 2, 44, 45, 46, 47, 48, 49, 50, 51, 14, 438, 439, 431, 432, 433, 434, 435, 436, 437] (by decide +kernel) (by decide +kernel)) (goodIn_sub (fun _ h => List.mem_append_left _ (List.mem_append_left _ (List.mem_append_right _ h))) (by decide +kernel))
set_option maxRecDepth 20000 in
theorem gL_law_L_boxes : GoodIn wsL_law (va_wsS RL 80 yL_boxes wsL_boxes) := goodIn_app (goodIn_of _ (by decide +kernel)) ggL_law_L_boxes
set_option maxRecDepth 20000 in
theorem ggL_law_L_at : GoodIn wsL_law wsL_at := goodIn_r _ [54, 55, 56] (by decide +kernel) (by decide +kernel)
set_option maxRecDepth 20000 in
theorem gL_law_L_at : GoodIn wsL_law (va_wsS RL 157 yL_at wsL_at) := goodIn_app (goodIn_of _ (by decide +kernel)) ggL_law_L_at
set_option maxRecDepth 20000 in
theorem ggL_law_L_areApprovals_r1 : GoodIn wsL_law wsL_areApprovals_r1 := goodIn_r _ [40, 421, 422, 37, 423, 39, 424, 425, 426, 2, 427, 50, 51, 23, 191, 217, 218, 219, 220, 221, 222, 223, 224, 46] (by decide +kernel) (by decide +kernel)
set_option maxRecDepth 20000 in
theorem ggL_law_L_areApprovals_r2 : GoodIn wsL_law wsL_areApprovals_r2 := goodIn_r _ [47, 48, 49, 14, 192, 193, 194, 195, 196, 197, 198] (by decide +kernel) (by decide +kernel)
set_option maxRecDepth 20000 in
theorem ggL_law_L_areApprovals_wsX40 : GoodIn wsL_law wsX40 := goodIn_r _ [431, 432, 433, 434, 435, 436, 437] (by decide +kernel) (by decide +kernel)
set_option maxRecDepth 20000 in
theorem ggL_law_L_areApprovals_wsX00 : GoodIn wsL_law wsX00 := goodIn_r _ [452, 453, 454] (by decide +kernel) (by decide +kernel)
set_option maxRecDepth 20000 in
theorem ggL_law_L_areApprovals : GoodIn wsL_law wsL_areApprovals := goodIn_ca (goodIn_app (a := [.code yL_areApprovals cL_areApprovals 8 (some .boolean)]) (goodIn_r _ [420] (by decide +kernel) (by decide +kernel)) (goodIn_app (goodIn_app (goodIn_app ggL_law_L_areApprovals_r1 ggL_law_L_areApprovals_r2) ggL_law_L_areApprovals_wsX40) ggL_law_L_areApprovals_wsX00)) (goodIn_sub (fun _ h => List.mem_append_left _ (List.mem_append_left _ (List.mem_append_right _ h))) (by decide +kernel))
set_option maxRecDepth 20000 in
theorem gL_law_L_areApprovals : GoodIn wsL_law (va_wsS RL 148 yL_areApprovals wsL_areApprovals) := goodIn_app (goodIn_of _ (by decide +kernel)) ggL_law_L_areApprovals
