/-! the law: its printed names, 0597 -/
set_option maxRecDepth 20000 in
theorem ggL_places_L_low : GoodIn wsL_places wsL_low := goodIn_r _ [5, 6] (by decide +kernel) (by decide +kernel)
set_option maxRecDepth 20000 in
theorem gL_places_L_low : GoodIn wsL_places (va_wsS RL 104 yL_low wsL_low) := goodIn_app (goodIn_of _ (by decide +kernel)) ggL_places_L_low
set_option maxRecDepth 20000 in
theorem ggL_places_L_box : GoodIn wsL_places wsL_box := goodIn_ca (goodIn_ca (goodIn_ca (goodIn_r _ [9, 10, 11, 12, 13, 14, 1, 15, 16, 17, 18, 19, 20, 21, 22, 23, 24, 25, 26, 27, 28, 29, 30, 31, 32, 33, 34, 35, 36, 37, 38, 39, 40, 41, 42, 43, 44, 45, 46, 47, 48, 49, 50, 51, 52, 53, 54, 55, 56, 57, 58, 59, 60, 61, 62, 63, 64, 65, 66, 67, 68, 69, 70, 71, 72, 73, 74, 75, 76, 77, 78, 79, 80, 81, 82, 83, 84, 85, 86, 87, 88, 89, 90, 91, 92, 93, 94, 95, 96, 97, 98, 99, 100, 101, 102, 103, 104, 105, 106, 107, 108, 109, 110, 111, 112, 113, 114, 115, 116, 117, 118, 119, 120, 121, 122, 123, 124, 125, 126, 127, 128, 129, 130, 131, 132, 133, 134, 135, 136, 137, 138, 139, 140, 141, 142, 143, 144, 145, 146, 147, 148, 149, 150, 151, 152, 153, 154, 155, 156, 157, 158, 185, 186, 187, 188, 189, 190, 191, 192, 193, 194, 195, 196, 197, 198, 199, 200, 201, 202, 203, 204, 205, 206] (by decide +kernel) (by decide +kernel)) (goodIn_sub (fun _ h => List.mem_cons_of_mem _ (List.mem_append_left _ (List.mem_append_left _ (List.mem_append_right _ h)))) (by decide +kernel))) (goodIn_sub (fun _ h => List.mem_cons_of_mem _ (List.mem_append_left _ (List.mem_append_right _ h))) (by decide +kernel))) (goodIn_sub (fun _ h => List.mem_cons_of_mem _ (List.mem_append_right _ h)) (by decide +kernel))
set_option maxRecDepth 20000 in
theorem gL_places_L_box : GoodIn wsL_places (va_wsS RL 107 yL_box wsL_box) := goodIn_app (goodIn_of _ (by decide +kernel)) ggL_places_L_box
set_option maxRecDepth 20000 in
theorem ggL_places_L_fall : GoodIn wsL_places wsL_fall := goodIn_r _ [161] (by decide +kernel) (by decide +kernel)
set_option maxRecDepth 20000 in
theorem gL_places_L_fall : GoodIn wsL_places (va_wsS RL 110 yL_fall wsL_fall) := goodIn_app (goodIn_of _ (by decide +kernel)) ggL_places_L_fall
set_option maxRecDepth 20000 in
theorem ggL_places_L_about : GoodIn wsL_places wsL_about := goodIn_ca (goodIn_ca (goodIn_r _ [164, 10, 11, 13, 14, 165, 166, 167, 18, 168, 33, 34, 20, 21, 70, 169, 170, 171, 172, 173, 71, 113, 69, 72, 73, 74, 75, 25, 174, 175, 176, 112, 192, 193, 194, 195, 196, 197, 198, 199, 200, 201, 185, 186, 187, 188, 189, 190, 191] (by decide +kernel) (by decide +kernel)) (goodIn_sub (fun _ h => List.mem_cons_of_mem _ (List.mem_append_right _ h)) (by decide +kernel))) (goodIn_sub (fun _ h => List.mem_cons_of_mem _ (List.mem_append_left _ (List.mem_append_left _ (List.mem_append_right _ h)))) (by decide +kernel))
set_option maxRecDepth 20000 in
theorem gL_places_L_about : GoodIn wsL_places (va_wsS RL 94 yL_about wsL_about) := goodIn_app (goodIn_of _ (by decide +kernel)) ggL_places_L_about
set_option maxRecDepth 20000 in
theorem ggL_places_L_approvers : GoodIn wsL_places wsL_approvers := goodIn_ca (goodIn_r _ [179, 10, 13, 180, 181, 182, 18, 183, 150, 184, 29, 30, 31, 32, 33, 34, 35, 152, 153, 154, 155, 156, 157, 158, 185, 186, 187, 188, 189, 190, 191, 204, 205, 206] (by decide +kernel) (by decide +kernel)) (goodIn_sub (fun _ h => List.mem_cons_of_mem _ (List.mem_append_right _ h)) (by decide +kernel))
set_option maxRecDepth 20000 in
theorem gL_places_L_approvers : GoodIn wsL_places (va_wsS RL 102 yL_approvers wsL_approvers) := goodIn_app (goodIn_of _ (by decide +kernel)) ggL_places_L_approvers
set_option maxRecDepth 20000 in
theorem ggL_moves_L_low : GoodIn wsL_moves wsL_low := goodIn_r _ [6, 7] (by decide +kernel) (by decide +kernel)
set_option maxRecDepth 20000 in
theorem gL_moves_L_low : GoodIn wsL_moves (va_wsS RL 104 yL_low wsL_low) := goodIn_app (goodIn_of _ (by decide +kernel)) ggL_moves_L_low
set_option maxRecDepth 20000 in
theorem ggL_moves_L_move : GoodIn wsL_moves wsL_move := goodIn_ca (goodIn_ca (goodIn_r _ [10, 11, 12, 1, 2, 13, 14, 15, 16, 17, 18, 19, 20, 21, 22, 23, 24, 25, 26, 27, 28, 29, 30, 31, 32, 33, 34, 35, 36, 37, 38, 39, 40, 41, 42, 43, 44, 45, 46, 47, 48, 49, 50, 51, 52, 53, 54, 55, 56, 57, 58, 59, 60, 61, 62, 63, 64, 65, 66, 67, 68, 69, 70, 71, 72, 73, 74, 75, 76, 77, 78, 79, 80, 81, 82, 83, 84, 85, 86, 87, 88, 89, 90, 91, 92, 93, 94, 95, 96, 97, 98, 99, 100, 101, 102, 103, 104, 105, 106, 107, 108, 109, 110, 111, 112, 113, 114, 115, 116, 117, 118, 119, 120, 121, 122, 123, 124, 125, 126, 127, 128, 129, 130, 131, 132, 133, 134, 135, 136, 137, 138, 139, 140, 141, 142, 143, 144, 145, 146, 147, 148, 149, 175, 176, 177, 178, 179, 180, 181, 182, 183, 184, 185, 186, 187, 188, 189, 190, 191, 192, 193, 194, 195, 196] (by decide +kernel) (by decide +kernel)) (goodIn_sub (fun _ h => List.mem_cons_of_mem _ (List.mem_append_left _ (List.mem_append_right _ h))) (by decide +kernel))) (goodIn_sub (fun _ h => List.mem_cons_of_mem _ (List.mem_append_right _ h)) (by decide +kernel))
set_option maxRecDepth 20000 in
theorem gL_moves_L_move : GoodIn wsL_moves (va_wsS RL 114 yL_move wsL_move) := goodIn_app (goodIn_of _ (by decide +kernel)) ggL_moves_L_move
set_option maxRecDepth 20000 in
theorem ggL_moves_L_breaks : GoodIn wsL_moves wsL_breaks := goodIn_ca (goodIn_ca (goodIn_r _ [152, 11, 12, 1, 2, 153, 154, 155, 16, 156, 18, 19, 20, 21, 22, 44, 23, 24, 25, 26, 27, 28, 29, 30, 31, 32, 33, 34, 35, 36, 37, 38, 39, 50, 51, 52, 53, 54, 55, 56, 57, 58, 59, 60, 61, 62, 63, 64, 65, 66, 67, 68, 69, 70, 71, 72, 73, 74, 75, 76, 77, 78, 79, 80, 81, 82, 83, 84, 85, 86, 87, 88, 89, 90, 91, 92, 93, 94, 95, 96, 97, 98, 99, 100, 101, 102, 103, 104, 105, 106, 107, 108, 109, 110, 111, 112, 113, 114, 115, 116, 117, 118, 119, 120, 121, 122, 123, 45, 46, 47, 48, 49, 124, 125, 126, 127, 128, 129, 130, 131, 157, 158, 159, 160, 141, 143, 144, 145, 146, 147, 148, 149, 175, 176, 177, 178, 179, 180, 181, 182, 183, 184, 185, 186, 187, 188, 189, 190, 191, 192, 193, 194, 195, 196] (by decide +kernel) (by decide +kernel)) (goodIn_sub (fun _ h => List.mem_cons_of_mem _ (List.mem_append_left _ (List.mem_append_right _ h))) (by decide +kernel))) (goodIn_sub (fun _ h => List.mem_cons_of_mem _ (List.mem_append_right _ h)) (by decide +kernel))
set_option maxRecDepth 20000 in
theorem gL_moves_L_breaks : GoodIn wsL_moves (va_wsS RL 117 yL_breaks wsL_breaks) := goodIn_app (goodIn_of _ (by decide +kernel)) ggL_moves_L_breaks
set_option maxRecDepth 20000 in
theorem ggL_moves_L_about : GoodIn wsL_moves wsL_about := goodIn_ca (goodIn_ca (goodIn_r _ [163, 11, 12, 1, 2, 164, 165, 166, 16, 167, 27, 28, 38, 39, 22, 20, 21, 18, 19, 168, 60, 103, 29, 30, 31, 32, 33, 34, 169, 170, 171, 102, 175, 176, 177, 178, 179, 180, 181, 182, 183, 184, 185, 186, 187, 188, 189, 190, 191] (by decide +kernel) (by decide +kernel)) (goodIn_sub (fun _ h => List.mem_cons_of_mem _ (List.mem_append_left _ (List.mem_append_right _ h))) (by decide +kernel))) (goodIn_sub (fun _ h => List.mem_cons_of_mem _ (List.mem_append_right _ h)) (by decide +kernel))
set_option maxRecDepth 20000 in
theorem gL_moves_L_about : GoodIn wsL_moves (va_wsS RL 94 yL_about wsL_about) := goodIn_app (goodIn_of _ (by decide +kernel)) ggL_moves_L_about
set_option maxRecDepth 20000 in
theorem ggL_moves_L_fall : GoodIn wsL_moves wsL_fall := goodIn_r _ [174] (by decide +kernel) (by decide +kernel)
set_option maxRecDepth 20000 in
theorem gL_moves_L_fall : GoodIn wsL_moves (va_wsS RL 110 yL_fall wsL_fall) := goodIn_app (goodIn_of _ (by decide +kernel)) ggL_moves_L_fall
