/-! the law: words of calls: acts L_alters -/
set_option maxRecDepth 20000 in
theorem ggL_acts_L_alters_r1 : GoodIn wsL_acts wsL_alters_r1 := goodIn_r _ [16, 17, 9, 1, 2, 3, 4, 5, 216, 217, 218, 13, 219, 220, 221, 21, 222, 72, 73, 198, 199, 200, 201, 36] (by decide +kernel) (by decide +kernel)
set_option maxRecDepth 20000 in
theorem ggL_acts_L_alters_r2 : GoodIn wsL_acts wsL_alters_r2 := goodIn_r _ [37, 75, 76, 77, 78, 28, 223, 224, 225, 31, 226, 49, 50, 227, 228, 229, 230, 58, 59, 60, 61, 62, 32, 33] (by decide +kernel) (by decide +kernel)
set_option maxRecDepth 20000 in
theorem ggL_acts_L_alters_r3 : GoodIn wsL_acts wsL_alters_r3 := goodIn_r _ [34, 35, 38, 63, 64, 65, 66, 67, 68, 69, 70, 71, 27, 74, 79, 80, 81, 82, 83, 84, 85, 86, 87, 88] (by decide +kernel) (by decide +kernel)
set_option maxRecDepth 20000 in
theorem ggL_acts_L_alters_r4 : GoodIn wsL_acts wsL_alters_r4 := goodIn_r _ [89, 90, 91, 92, 93, 94, 95, 96, 97, 98, 99, 100, 101, 102, 54, 56, 53, 55, 103, 104, 105, 106, 107, 108] (by decide +kernel) (by decide +kernel)
set_option maxRecDepth 20000 in
theorem ggL_acts_L_alters_r5 : GoodIn wsL_acts wsL_alters_r5 := goodIn_r _ [109, 110, 111, 112, 113, 114, 115, 116, 117, 118, 119, 120, 121, 122, 123, 124, 51, 125, 126, 127, 128, 129, 130, 131] (by decide +kernel) (by decide +kernel)
set_option maxRecDepth 20000 in
theorem ggL_acts_L_alters_r6 : GoodIn wsL_acts wsL_alters_r6 := goodIn_r _ [132, 133, 134, 135, 136, 137, 138, 139, 140, 141, 142, 143, 144, 145, 146, 147, 148, 149, 150, 151, 152, 153, 154, 155] (by decide +kernel) (by decide +kernel)
set_option maxRecDepth 20000 in
theorem ggL_acts_L_alters_r7 : GoodIn wsL_acts wsL_alters_r7 := goodIn_r _ [156, 157, 158, 159, 160, 161, 162, 163, 164, 165, 166, 167, 14, 168, 169, 170, 171, 23, 24, 172, 173, 174, 175, 176] (by decide +kernel) (by decide +kernel)
set_option maxRecDepth 20000 in
theorem ggL_acts_L_alters_r8 : GoodIn wsL_acts wsL_alters_r8 := goodIn_r _ [177, 178, 179, 231, 232, 233, 234, 235, 236, 237, 39, 40, 41, 238, 239, 240, 15, 241, 242, 243, 244, 25, 26, 245] (by decide +kernel) (by decide +kernel)
set_option maxRecDepth 20000 in
theorem ggL_acts_L_alters_r9 : GoodIn wsL_acts wsL_alters_r9 := goodIn_r _ [246, 247, 248, 249, 250, 251, 252, 253, 254, 255] (by decide +kernel) (by decide +kernel)
set_option maxRecDepth 20000 in
theorem ggL_acts_L_alters_wsX10 : GoodIn wsL_acts wsX10 := goodIn_r _ [414, 415, 416, 417, 418, 419, 420, 421, 422, 423] (by decide +kernel) (by decide +kernel)
set_option maxRecDepth 20000 in
theorem ggL_acts_L_alters_wsX40 : GoodIn wsL_acts wsX40 := goodIn_r _ [407, 408, 409, 410, 411, 412, 413] (by decide +kernel) (by decide +kernel)
set_option maxRecDepth 20000 in
theorem ggL_acts_L_alters_wsX30 : GoodIn wsL_acts wsX30 := goodIn_r _ [424, 425] (by decide +kernel) (by decide +kernel)
set_option maxRecDepth 20000 in
theorem ggL_acts_L_alters_wsX00 : GoodIn wsL_acts wsX00 := goodIn_r _ [426, 427, 428] (by decide +kernel) (by decide +kernel)
set_option maxRecDepth 20000 in
theorem ggL_acts_L_alters : GoodIn wsL_acts wsL_alters := goodIn_ca (goodIn_ca (goodIn_ca (goodIn_app (a := [.code yL_alters cL_alters 12 (some .boolean)]) (goodIn_r _ [215] (by decide +kernel) (by decide +kernel)) (goodIn_app (goodIn_app (goodIn_app (goodIn_app (goodIn_app ggL_acts_L_alters_r1 (goodIn_app ggL_acts_L_alters_r2 (goodIn_app ggL_acts_L_alters_r3 (goodIn_app ggL_acts_L_alters_r4 (goodIn_app ggL_acts_L_alters_r5 (goodIn_app ggL_acts_L_alters_r6 (goodIn_app ggL_acts_L_alters_r7 (goodIn_app ggL_acts_L_alters_r8 ggL_acts_L_alters_r9)))))))) ggL_acts_L_alters_wsX10) ggL_acts_L_alters_wsX40) ggL_acts_L_alters_wsX30) ggL_acts_L_alters_wsX00)) (goodIn_sub (fun _ h => List.mem_cons_of_mem _ (List.mem_append_right _ h)) (by decide +kernel))) (goodIn_sub (fun _ h => List.mem_cons_of_mem _ (List.mem_append_left _ (List.mem_append_left _ (List.mem_append_right _ h)))) (by decide +kernel))) (goodIn_sub (fun _ h => List.mem_cons_of_mem _ (List.mem_append_left _ (List.mem_append_right _ h))) (by decide +kernel))
set_option maxRecDepth 20000 in
theorem gL_acts_L_alters : GoodIn wsL_acts (va_wsS RL 136 yL_alters wsL_alters) := goodIn_app (goodIn_of _ (by decide +kernel)) ggL_acts_L_alters
