/-! the law: words of calls: acts L_places -/
set_option maxRecDepth 20000 in
theorem ggL_acts_L_places_r1 : GoodIn wsL_acts wsL_places_r1 := goodIn_r _ [9, 1, 2, 3, 4, 5, 10, 11, 12, 13, 14, 15, 16, 17, 18, 19, 20, 21, 22, 23, 24, 25, 26, 27] (by decide +kernel) (by decide +kernel)
set_option maxRecDepth 20000 in
theorem ggL_acts_L_places_r2 : GoodIn wsL_acts wsL_places_r2 := goodIn_r _ [28, 29, 30, 31, 32, 33, 34, 35, 36, 37, 38, 39, 40, 41, 42, 43, 44, 45, 46, 47, 48, 49, 50, 51] (by decide +kernel) (by decide +kernel)
set_option maxRecDepth 20000 in
theorem ggL_acts_L_places_r3 : GoodIn wsL_acts wsL_places_r3 := goodIn_r _ [52, 53, 54, 55, 56, 57, 58, 59, 60, 61, 62, 63, 64, 65, 66, 67, 68, 69, 70, 71, 72, 73, 74, 75] (by decide +kernel) (by decide +kernel)
set_option maxRecDepth 20000 in
theorem ggL_acts_L_places_r4 : GoodIn wsL_acts wsL_places_r4 := goodIn_r _ [76, 77, 78, 79, 80, 81, 82, 83, 84, 85, 86, 87, 88, 89, 90, 91, 92, 93, 94, 95, 96, 97, 98, 99] (by decide +kernel) (by decide +kernel)
set_option maxRecDepth 20000 in
theorem ggL_acts_L_places_r5 : GoodIn wsL_acts wsL_places_r5 := goodIn_r _ [100, 101, 102, 103, 104, 105, 106, 107, 108, 109, 110, 111, 112, 113, 114, 115, 116, 117, 118, 119, 120, 121, 122, 123] (by decide +kernel) (by decide +kernel)
set_option maxRecDepth 20000 in
theorem ggL_acts_L_places_r6 : GoodIn wsL_acts wsL_places_r6 := goodIn_r _ [124, 125, 126, 127, 128, 129, 130, 131, 132, 133, 134, 135, 136, 137, 138, 139, 140, 141, 142, 143, 144, 145, 146, 147] (by decide +kernel) (by decide +kernel)
set_option maxRecDepth 20000 in
theorem ggL_acts_L_places_r7 : GoodIn wsL_acts wsL_places_r7 := goodIn_r _ [148, 149, 150, 151, 152, 153, 154, 155, 156, 157, 158, 159, 160, 161, 162, 163, 164, 165, 166, 167, 168, 169, 170, 171] (by decide +kernel) (by decide +kernel)
set_option maxRecDepth 20000 in
theorem ggL_acts_L_places_r8 : GoodIn wsL_acts wsL_places_r8 := goodIn_r _ [172, 173, 174, 175, 176, 177, 178, 179, 180, 181, 182, 183, 184, 185, 186, 187] (by decide +kernel) (by decide +kernel)
set_option maxRecDepth 20000 in
theorem ggL_acts_L_places_wsX40 : GoodIn wsL_acts wsX40 := goodIn_r _ [407, 408, 409, 410, 411, 412, 413] (by decide +kernel) (by decide +kernel)
set_option maxRecDepth 20000 in
theorem ggL_acts_L_places_wsX10 : GoodIn wsL_acts wsX10 := goodIn_r _ [414, 415, 416, 417, 418, 419, 420, 421, 422, 423] (by decide +kernel) (by decide +kernel)
set_option maxRecDepth 20000 in
theorem ggL_acts_L_places_wsX30 : GoodIn wsL_acts wsX30 := goodIn_r _ [424, 425] (by decide +kernel) (by decide +kernel)
set_option maxRecDepth 20000 in
theorem ggL_acts_L_places_wsX00 : GoodIn wsL_acts wsX00 := goodIn_r _ [426, 427, 428] (by decide +kernel) (by decide +kernel)
set_option maxRecDepth 20000 in
theorem ggL_acts_L_places : GoodIn wsL_acts wsL_places := goodIn_ca (goodIn_ca (goodIn_ca (goodIn_app (a := [.code yL_places cL_places 14 (some .boolean)]) (goodIn_r _ [8] (by decide +kernel) (by decide +kernel)) (goodIn_app (goodIn_app (goodIn_app (goodIn_app (goodIn_app ggL_acts_L_places_r1 (goodIn_app ggL_acts_L_places_r2 (goodIn_app ggL_acts_L_places_r3 (goodIn_app ggL_acts_L_places_r4 (goodIn_app ggL_acts_L_places_r5 (goodIn_app ggL_acts_L_places_r6 (goodIn_app ggL_acts_L_places_r7 ggL_acts_L_places_r8))))))) ggL_acts_L_places_wsX40) ggL_acts_L_places_wsX10) ggL_acts_L_places_wsX30) ggL_acts_L_places_wsX00)) (goodIn_sub (fun _ h => List.mem_cons_of_mem _ (List.mem_append_left _ (List.mem_append_left _ (List.mem_append_right _ h)))) (by decide +kernel))) (goodIn_sub (fun _ h => List.mem_cons_of_mem _ (List.mem_append_left _ (List.mem_append_right _ h))) (by decide +kernel))) (goodIn_sub (fun _ h => List.mem_cons_of_mem _ (List.mem_append_right _ h)) (by decide +kernel))
set_option maxRecDepth 20000 in
theorem gL_acts_L_places : GoodIn wsL_acts (va_wsS RL 129 yL_places wsL_places) := goodIn_app (goodIn_of _ (by decide +kernel)) ggL_acts_L_places
