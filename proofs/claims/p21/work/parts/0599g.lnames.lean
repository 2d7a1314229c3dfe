/-! the law: words of calls: acts rest -/
set_option maxRecDepth 20000 in
theorem ggL_acts_L_low : GoodIn wsL_acts wsL_low := goodIn_r _ [4, 5] (by decide +kernel) (by decide +kernel)
set_option maxRecDepth 20000 in
theorem gL_acts_L_low : GoodIn wsL_acts (va_wsS RL 104 yL_low wsL_low) := goodIn_app (goodIn_of _ (by decide +kernel)) ggL_acts_L_low
set_option maxRecDepth 20000 in
theorem ggL_acts_L_areApprovals_r1 : GoodIn wsL_acts wsL_areApprovals_r1 := goodIn_r _ [16, 397, 398, 3, 399, 13, 400, 401, 402, 21, 403, 36, 37, 153, 154, 180, 181, 182, 183, 184, 185, 186, 187, 32] (by decide +kernel) (by decide +kernel)
set_option maxRecDepth 20000 in
theorem ggL_acts_L_areApprovals_r2 : GoodIn wsL_acts wsL_areApprovals_r2 := goodIn_r _ [33, 34, 35, 38, 155, 156, 157, 158, 159, 160, 161] (by decide +kernel) (by decide +kernel)
set_option maxRecDepth 20000 in
theorem ggL_acts_L_areApprovals_wsX40 : GoodIn wsL_acts wsX40 := goodIn_r _ [407, 408, 409, 410, 411, 412, 413] (by decide +kernel) (by decide +kernel)
set_option maxRecDepth 20000 in
theorem ggL_acts_L_areApprovals_wsX00 : GoodIn wsL_acts wsX00 := goodIn_r _ [426, 427, 428] (by decide +kernel) (by decide +kernel)
set_option maxRecDepth 20000 in
theorem ggL_acts_L_areApprovals : GoodIn wsL_acts wsL_areApprovals := goodIn_ca (goodIn_app (a := [.code yL_areApprovals cL_areApprovals 8 (some .boolean)]) (goodIn_r _ [396] (by decide +kernel) (by decide +kernel)) (goodIn_app (goodIn_app (goodIn_app ggL_acts_L_areApprovals_r1 ggL_acts_L_areApprovals_r2) ggL_acts_L_areApprovals_wsX40) ggL_acts_L_areApprovals_wsX00)) (goodIn_sub (fun _ h => List.mem_cons_of_mem _ (List.mem_append_right _ h)) (by decide +kernel))
set_option maxRecDepth 20000 in
theorem gL_acts_L_areApprovals : GoodIn wsL_acts (va_wsS RL 148 yL_areApprovals wsL_areApprovals) := goodIn_app (goodIn_of _ (by decide +kernel)) ggL_acts_L_areApprovals
