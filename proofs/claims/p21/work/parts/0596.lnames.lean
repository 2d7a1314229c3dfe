/-! the law: its printed names, 0596 -/
set_option maxRecDepth 20000 in
theorem ggL_isPage_L_boxes : GoodIn wsL_isPage wsL_boxes := goodIn_ca (goodIn_r _ [4, 5, 6, 7, 8, 9, 10, 11, 12, 13, 14, 15, 16, 17, 18, 19, 227, 228, 229, 230, 231, 232, 233, 234, 235] (by decide +kernel) (by decide +kernel)) (goodIn_sub (fun _ h => List.mem_cons_of_mem _ (List.mem_append_left _ (List.mem_append_right _ h))) (by decide +kernel))
set_option maxRecDepth 20000 in
theorem gL_isPage_L_boxes : GoodIn wsL_isPage (va_wsS RL 80 yL_boxes wsL_boxes) := goodIn_app (goodIn_of _ (by decide +kernel)) ggL_isPage_L_boxes
set_option maxRecDepth 20000 in
theorem ggL_isPage_L_order : GoodIn wsL_isPage wsL_order := goodIn_ca (goodIn_r _ [22, 5, 6, 23, 24, 25, 10, 26, 13, 14, 15, 16, 17, 18, 19, 27, 28, 29, 30, 31, 32, 33, 34, 35, 36, 229, 230, 231, 232, 233, 234, 235, 227, 228] (by decide +kernel) (by decide +kernel)) (goodIn_sub (fun _ h => List.mem_cons_of_mem _ (List.mem_append_left _ (List.mem_append_right _ h))) (by decide +kernel))
set_option maxRecDepth 20000 in
theorem gL_isPage_L_order : GoodIn wsL_isPage (va_wsS RL 85 yL_order wsL_order) := goodIn_app (goodIn_of _ (by decide +kernel)) ggL_isPage_L_order
set_option maxRecDepth 20000 in
theorem ggL_isPage_L_orderAnew : GoodIn wsL_isPage wsL_orderAnew := goodIn_ca (goodIn_r _ [39, 5, 6, 40, 41, 42, 10, 43, 44, 13, 14, 15, 16, 17, 18, 19, 27, 28, 29, 45, 46, 47, 48, 12, 49, 50, 51, 52, 53, 54, 55, 56, 57, 58, 59, 60, 61, 62, 63, 64, 65, 66, 67, 68, 69, 70, 71, 72, 73, 74, 75, 76, 77, 78, 79, 80, 81, 82, 83, 84, 85, 86, 87, 88, 89, 90, 91, 92, 93, 94, 95, 96, 97, 98, 99, 100, 101, 102, 103, 104, 105, 106, 107, 108, 109, 110, 111, 112, 113, 114, 115, 116, 117, 118, 119, 120, 121, 122, 123, 124, 125, 33, 126, 35, 36, 30, 31, 32, 34, 229, 230, 231, 232, 233, 234, 235, 227, 228, 236, 237, 238, 239, 240, 241, 242, 243, 244, 245, 246, 247] (by decide +kernel) (by decide +kernel)) (goodIn_sub (fun _ h => List.mem_cons_of_mem _ (List.mem_append_left _ (List.mem_append_right _ h))) (by decide +kernel))
set_option maxRecDepth 20000 in
theorem gL_isPage_L_orderAnew : GoodIn wsL_isPage (va_wsS RL 88 yL_orderAnew wsL_orderAnew) := goodIn_app (goodIn_of _ (by decide +kernel)) ggL_isPage_L_orderAnew
set_option maxRecDepth 20000 in
theorem ggL_isPage_L_faults : GoodIn wsL_isPage wsL_faults := goodIn_ca (goodIn_r _ [129, 5, 6, 130, 131, 132, 10, 133, 57, 112, 134, 135, 136, 137, 17, 18, 56, 59, 60, 61, 62, 63, 13, 14, 15, 16, 19, 138, 139, 140, 33, 141, 35, 142, 31, 32, 34, 36, 143, 144, 145, 146, 147, 148, 30, 149, 150, 151, 94, 152, 153, 154, 155, 156, 157, 158, 159, 160, 161, 162, 163, 164, 165, 166, 167, 168, 12, 169, 170, 171, 172, 98, 99, 96, 173, 174, 175, 176, 97, 177, 238, 239, 240, 241, 242, 243, 244, 245, 246, 247, 229, 230, 231, 232, 233, 234, 235, 227, 228] (by decide +kernel) (by decide +kernel)) (goodIn_sub (fun _ h => List.mem_cons_of_mem _ (List.mem_append_left _ (List.mem_append_right _ h))) (by decide +kernel))
set_option maxRecDepth 20000 in
theorem gL_isPage_L_faults : GoodIn wsL_isPage (va_wsS RL 90 yL_faults wsL_faults) := goodIn_app (goodIn_of _ (by decide +kernel)) ggL_isPage_L_faults
set_option maxRecDepth 20000 in
theorem ggL_isPage_L_placeOf : GoodIn wsL_isPage wsL_placeOf := goodIn_ca (goodIn_r _ [180, 5, 6, 181, 182, 183, 10, 184, 57, 112, 134, 135, 136, 137, 17, 18, 56, 59, 60, 61, 62, 63, 13, 14, 15, 16, 19, 138, 139, 140, 33, 141, 35, 142, 31, 32, 34, 36, 238, 239, 240, 241, 242, 243, 244, 245, 246, 247, 229, 230, 231, 232, 233, 234, 235, 227, 228] (by decide +kernel) (by decide +kernel)) (goodIn_sub (fun _ h => List.mem_cons_of_mem _ (List.mem_append_left _ (List.mem_append_right _ h))) (by decide +kernel))
set_option maxRecDepth 20000 in
theorem gL_isPage_L_placeOf : GoodIn wsL_isPage (va_wsS RL 92 yL_placeOf wsL_placeOf) := goodIn_app (goodIn_of _ (by decide +kernel)) ggL_isPage_L_placeOf
set_option maxRecDepth 20000 in
theorem ggL_isPage_L_about : GoodIn wsL_isPage wsL_about := goodIn_ca (goodIn_ca (goodIn_r _ [187, 5, 188, 6, 189, 190, 191, 192, 10, 193, 17, 18, 194, 195, 57, 196, 148, 197, 198, 147, 58, 113, 56, 59, 60, 61, 62, 63, 199, 200, 201, 112, 238, 239, 240, 241, 242, 243, 244, 245, 246, 247, 229, 230, 231, 232, 233, 234, 235] (by decide +kernel) (by decide +kernel)) (goodIn_sub (fun _ h => List.mem_cons_of_mem _ (List.mem_append_left _ (List.mem_append_right _ h))) (by decide +kernel))) (goodIn_sub (fun _ h => List.mem_cons_of_mem _ (List.mem_append_right _ h)) (by decide +kernel))
set_option maxRecDepth 20000 in
theorem gL_isPage_L_about : GoodIn wsL_isPage (va_wsS RL 94 yL_about wsL_about) := goodIn_app (goodIn_of _ (by decide +kernel)) ggL_isPage_L_about
set_option maxRecDepth 20000 in
theorem ggL_isPage_L_faulty : GoodIn wsL_isPage wsL_faulty := goodIn_ca (goodIn_r _ [204, 5, 6, 205, 206, 207, 10, 208, 12, 13, 14, 15, 16, 17, 18, 19, 143, 144, 145, 146, 147, 148, 30, 31, 32, 33, 34, 35, 36, 59, 60, 61, 62, 63, 149, 150, 151, 94, 152, 153, 154, 155, 156, 157, 158, 159, 160, 161, 162, 163, 164, 165, 166, 167, 168, 169, 170, 171, 172, 98, 99, 96, 173, 174, 175, 176, 97, 177, 227, 228, 229, 230, 231, 232, 233, 234, 235, 238, 239, 240, 241, 242, 243, 244, 245, 246, 247] (by decide +kernel) (by decide +kernel)) (goodIn_sub (fun _ h => List.mem_cons_of_mem _ (List.mem_append_left _ (List.mem_append_right _ h))) (by decide +kernel))
set_option maxRecDepth 20000 in
theorem gL_isPage_L_faulty : GoodIn wsL_isPage (va_wsS RL 96 yL_faulty wsL_faulty) := goodIn_app (goodIn_of _ (by decide +kernel)) ggL_isPage_L_faulty
set_option maxRecDepth 20000 in
theorem ggL_isPage_L_way : GoodIn wsL_isPage wsL_way := goodIn_ca (goodIn_r _ [211, 5, 6, 212, 213, 214, 10, 215, 12, 216, 217, 85, 218, 13, 14, 15, 16, 17, 18, 19, 30, 31, 32, 33, 34, 35, 36, 59, 60, 61, 62, 63, 219, 220, 221, 94, 222, 98, 99, 223, 224, 225, 226, 96, 97, 227, 228, 229, 230, 231, 232, 233, 234, 235, 238, 239, 240, 241, 242, 243, 244, 245, 246, 247] (by decide +kernel) (by decide +kernel)) (goodIn_sub (fun _ h => List.mem_cons_of_mem _ (List.mem_append_left _ (List.mem_append_right _ h))) (by decide +kernel))
set_option maxRecDepth 20000 in
theorem gL_isPage_L_way : GoodIn wsL_isPage (va_wsS RL 98 yL_way wsL_way) := goodIn_app (goodIn_of _ (by decide +kernel)) ggL_isPage_L_way
set_option maxRecDepth 20000 in
theorem ggL_areBoxes_L_about : GoodIn wsL_areBoxes wsL_about := goodIn_ca (goodIn_ca (goodIn_r _ [5, 6, 7, 1, 8, 9, 10, 11, 12, 13, 14, 15, 16, 17, 18, 19, 20, 21, 22, 23, 24, 25, 26, 27, 28, 29, 30, 31, 32, 33, 34, 35, 110, 111, 112, 113, 114, 115, 116, 117, 118, 119, 120, 121, 122, 123, 124, 125, 126] (by decide +kernel) (by decide +kernel)) (goodIn_sub (fun _ h => List.mem_cons_of_mem _ (List.mem_append_left _ (List.mem_append_right _ h))) (by decide +kernel))) (goodIn_sub (fun _ h => List.mem_cons_of_mem _ (List.mem_append_right _ h)) (by decide +kernel))
set_option maxRecDepth 20000 in
theorem gL_areBoxes_L_about : GoodIn wsL_areBoxes (va_wsS RL 94 yL_about wsL_about) := goodIn_app (goodIn_of _ (by decide +kernel)) ggL_areBoxes_L_about
set_option maxRecDepth 20000 in
theorem ggL_areBoxes_L_faults : GoodIn wsL_areBoxes wsL_faults := goodIn_ca (goodIn_r _ [38, 6, 1, 39, 40, 41, 12, 42, 18, 35, 43, 44, 45, 46, 14, 15, 26, 27, 28, 29, 30, 31, 47, 48, 49, 50, 51, 52, 53, 54, 55, 56, 57, 58, 59, 60, 61, 62, 63, 64, 65, 66, 23, 20, 67, 68, 69, 70, 71, 72, 73, 74, 75, 76, 77, 78, 79, 80, 81, 82, 83, 84, 85, 86, 87, 88, 89, 90, 91, 92, 93, 94, 95, 96, 97, 98, 99, 100, 101, 102, 110, 111, 112, 113, 114, 115, 116, 117, 118, 119, 120, 121, 122, 123, 124, 125, 126, 127, 128] (by decide +kernel) (by decide +kernel)) (goodIn_sub (fun _ h => List.mem_cons_of_mem _ (List.mem_append_left _ (List.mem_append_right _ h))) (by decide +kernel))
set_option maxRecDepth 20000 in
theorem gL_areBoxes_L_faults : GoodIn wsL_areBoxes (va_wsS RL 90 yL_faults wsL_faults) := goodIn_app (goodIn_of _ (by decide +kernel)) ggL_areBoxes_L_faults
set_option maxRecDepth 20000 in
theorem ggL_areBoxes_L_placeOf : GoodIn wsL_areBoxes wsL_placeOf := goodIn_ca (goodIn_r _ [105, 6, 1, 106, 107, 108, 12, 109, 18, 35, 43, 44, 45, 46, 14, 15, 26, 27, 28, 29, 30, 31, 47, 48, 49, 50, 51, 52, 53, 54, 55, 56, 57, 58, 59, 60, 61, 62, 110, 111, 112, 113, 114, 115, 116, 117, 118, 119, 120, 121, 122, 123, 124, 125, 126, 127, 128] (by decide +kernel) (by decide +kernel)) (goodIn_sub (fun _ h => List.mem_cons_of_mem _ (List.mem_append_left _ (List.mem_append_right _ h))) (by decide +kernel))
set_option maxRecDepth 20000 in
theorem gL_areBoxes_L_placeOf : GoodIn wsL_areBoxes (va_wsS RL 92 yL_placeOf wsL_placeOf) := goodIn_app (goodIn_of _ (by decide +kernel)) ggL_areBoxes_L_placeOf
set_option maxRecDepth 20000 in
theorem ggL_areApprovals_L_stands : GoodIn wsL_areApprovals wsL_stands := goodIn_ca (goodIn_r _ [5, 6, 1, 7, 8, 9, 10, 11, 12, 13, 14, 15, 36, 37, 38, 39, 40, 41, 42, 43, 44, 45] (by decide +kernel) (by decide +kernel)) (goodIn_sub (fun _ h => List.mem_cons_of_mem _ (List.mem_append_right _ h)) (by decide +kernel))
set_option maxRecDepth 20000 in
theorem gL_areApprovals_L_stands : GoodIn wsL_areApprovals (va_wsS RL 100 yL_stands wsL_stands) := goodIn_app (goodIn_of _ (by decide +kernel)) ggL_areApprovals_L_stands
set_option maxRecDepth 20000 in
theorem ggL_areApprovals_L_approvers : GoodIn wsL_areApprovals wsL_approvers := goodIn_ca (goodIn_r _ [18, 6, 1, 19, 20, 21, 10, 22, 14, 23, 24, 25, 26, 27, 12, 13, 28, 29, 30, 31, 32, 33, 34, 35, 36, 37, 38, 39, 40, 41, 42, 43, 44, 45] (by decide +kernel) (by decide +kernel)) (goodIn_sub (fun _ h => List.mem_cons_of_mem _ (List.mem_append_right _ h)) (by decide +kernel))
set_option maxRecDepth 20000 in
theorem gL_areApprovals_L_approvers : GoodIn wsL_areApprovals (va_wsS RL 102 yL_approvers wsL_approvers) := goodIn_app (goodIn_of _ (by decide +kernel)) ggL_areApprovals_L_approvers
