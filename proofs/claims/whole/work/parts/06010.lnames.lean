/-! the law: words of its calls, 0 -/
set_option maxRecDepth 20000 in
theorem ggL_box_X4_box : GoodIn wsL_box wsX4_box := goodIn_ca (goodIn_ca (goodIn_ca (goodIn_r _ [8, 9, 10, 11, 12, 13, 14, 15, 16, 17, 18, 19, 20, 7, 21, 22, 23, 24, 25, 26, 27, 28, 29, 30, 31, 32, 33, 34, 35, 36, 37, 38, 39, 40, 41, 42, 43, 44, 45, 46, 47, 48, 49, 50, 51, 52, 53, 54, 55, 56, 57, 58, 59, 60, 61, 62, 63, 64, 65, 66, 67, 68, 69, 70, 71, 72, 73, 74, 75, 76, 77, 78, 79, 80, 81, 82, 83, 84, 85, 86, 87, 88, 89, 90, 91, 92, 93, 94, 95, 96, 97, 98, 99, 100, 101, 102, 103, 104, 105, 106, 107, 108, 109, 110, 111, 112, 113, 114, 115, 116, 117, 118, 119, 120, 121, 122, 123, 124, 125, 126, 127, 128, 129, 130, 131, 132, 133, 134, 135, 136, 137, 138, 139, 140, 141, 142, 143, 144, 145, 146, 147, 148, 149, 150, 151, 152, 153, 154, 155, 156, 157, 158, 159, 160, 161, 162, 163, 164, 165, 166, 167, 168, 169] (by decide +kernel) (by decide +kernel)) (goodIn_sub (fun _ h => List.mem_cons_of_mem _ (List.mem_append_left _ (List.mem_append_left _ (List.mem_append_right _ h)))) (by decide +kernel))) (goodIn_sub (fun _ h => List.mem_cons_of_mem _ (List.mem_append_left _ (List.mem_append_right _ h))) (by decide +kernel))) (goodIn_sub (fun _ h => List.mem_cons_of_mem _ (List.mem_append_right _ h)) (by decide +kernel))
set_option maxRecDepth 20000 in
theorem gL_box_X4_box : GoodIn wsL_box (wsV RL 7 RX4 yX4_box wsX4_box) := goodIn_app (goodIn_of _ (by decide +kernel)) ggL_box_X4_box
theorem dL_box_0 : decode cL_box 0 = .ok (.aload 7, 2) := by decide +kernel
theorem dL_box_2 : decode cL_box 2 = .ok (.iconst 0, 1) := by decide +kernel
theorem dL_box_3 : decode cL_box 3 = .ok (.aload_n 0, 1) := by decide +kernel
theorem dL_box_4 : decode cL_box 4 = .ok (.iload_n 1, 1) := by decide +kernel
theorem dL_box_5 : decode cL_box 5 = .ok (.iload_n 2, 1) := by decide +kernel
theorem dL_box_6 : decode cL_box 6 = .ok (.iload_n 3, 1) := by decide +kernel
theorem dL_box_7 : decode cL_box 7 = .ok (.iload 4, 2) := by decide +kernel
theorem dL_box_9 : decode cL_box 9 = .ok (.iload 5, 2) := by decide +kernel
theorem dL_box_11 : decode cL_box 11 = .ok (.iload 6, 2) := by decide +kernel
theorem dL_box_13 : decode cL_box 13 = .ok (.invokevirtual 7, 3) := by decide +kernel
theorem dL_box_16 : decode cL_box 16 = .ok (.i2l, 1) := by decide +kernel
theorem dL_box_17 : decode cL_box 17 = .ok (.lastore, 1) := by decide +kernel
theorem dL_box_18 : decode cL_box 18 = .ok (.goto 15, 3) := by decide +kernel
theorem dL_box_21 : decode cL_box 21 = .ok (.astore 8, 2) := by decide +kernel
theorem dL_box_23 : decode cL_box 23 = .ok (.iconst 1, 1) := by decide +kernel
theorem dL_box_24 : decode cL_box 24 = .ok (.ireturn, 1) := by decide +kernel
theorem dL_box_25 : decode cL_box 25 = .ok (.astore 8, 2) := by decide +kernel
theorem dL_box_27 : decode cL_box 27 = .ok (.iconst 2, 1) := by decide +kernel
theorem dL_box_28 : decode cL_box 28 = .ok (.ireturn, 1) := by decide +kernel
theorem dL_box_29 : decode cL_box 29 = .ok (.astore 8, 2) := by decide +kernel
theorem dL_box_31 : decode cL_box 31 = .ok (.iconst 3, 1) := by decide +kernel
theorem dL_box_32 : decode cL_box 32 = .ok (.ireturn, 1) := by decide +kernel
theorem dL_box_33 : decode cL_box 33 = .ok (.iconst 0, 1) := by decide +kernel
theorem dL_box_34 : decode cL_box 34 = .ok (.ireturn, 1) := by decide +kernel
set_option maxRecDepth 20000 in
theorem ggL_move_X4_move : GoodIn wsL_move wsX4_move := goodIn_ca (goodIn_ca (goodIn_r _ [7, 8, 9, 10, 11, 12, 13, 14, 15, 6, 16, 17, 18, 19, 20, 21, 22, 23, 24, 25, 26, 27, 28, 29, 30, 31, 32, 33, 34, 35, 36, 37, 38, 39, 40, 41, 42, 43, 44, 45, 46, 47, 48, 49, 50, 51, 52, 53, 54, 55, 56, 57, 58, 59, 60, 61, 62, 63, 64, 65, 66, 67, 68, 69, 70, 71, 72, 73, 74, 75, 76, 77, 78, 79, 80, 81, 82, 83, 84, 85, 86, 87, 88, 89, 90, 91, 92, 93, 94, 95, 96, 97, 98, 99, 100, 101, 102, 103, 104, 105, 106, 107, 108, 109, 110, 111, 112, 113, 114, 115, 116, 117, 118, 119, 120, 121, 122, 123, 124, 125, 126, 127, 128, 129, 130, 131, 132, 133, 134, 135, 136, 137, 138, 139, 140, 141, 142, 143, 144, 145, 146, 147, 148, 149, 150, 151, 152, 153, 154, 155, 156, 157, 158, 159, 160, 161] (by decide +kernel) (by decide +kernel)) (goodIn_sub (fun _ h => List.mem_cons_of_mem _ (List.mem_append_left _ (List.mem_append_right _ h))) (by decide +kernel))) (goodIn_sub (fun _ h => List.mem_cons_of_mem _ (List.mem_append_right _ h)) (by decide +kernel))
set_option maxRecDepth 20000 in
theorem gL_move_X4_move : GoodIn wsL_move (wsV RL 19 RX4 yX4_move wsX4_move) := goodIn_app (goodIn_of _ (by decide +kernel)) ggL_move_X4_move
theorem dL_move_0 : decode cL_move 0 = .ok (.aload 4, 2) := by decide +kernel
theorem dL_move_2 : decode cL_move 2 = .ok (.iconst 0, 1) := by decide +kernel
theorem dL_move_3 : decode cL_move 3 = .ok (.aload_n 0, 1) := by decide +kernel
theorem dL_move_4 : decode cL_move 4 = .ok (.iload_n 1, 1) := by decide +kernel
theorem dL_move_5 : decode cL_move 5 = .ok (.iload_n 2, 1) := by decide +kernel
theorem dL_move_6 : decode cL_move 6 = .ok (.iload_n 3, 1) := by decide +kernel
theorem dL_move_7 : decode cL_move 7 = .ok (.invokevirtual 19, 3) := by decide +kernel
theorem dL_move_10 : decode cL_move 10 = .ok (.i2l, 1) := by decide +kernel
theorem dL_move_11 : decode cL_move 11 = .ok (.lastore, 1) := by decide +kernel
theorem dL_move_12 : decode cL_move 12 = .ok (.goto 11, 3) := by decide +kernel
theorem dL_move_15 : decode cL_move 15 = .ok (.astore 5, 2) := by decide +kernel
theorem dL_move_17 : decode cL_move 17 = .ok (.iconst 1, 1) := by decide +kernel
theorem dL_move_18 : decode cL_move 18 = .ok (.ireturn, 1) := by decide +kernel
theorem dL_move_19 : decode cL_move 19 = .ok (.astore 5, 2) := by decide +kernel
theorem dL_move_21 : decode cL_move 21 = .ok (.iconst 2, 1) := by decide +kernel
theorem dL_move_22 : decode cL_move 22 = .ok (.ireturn, 1) := by decide +kernel
theorem dL_move_23 : decode cL_move 23 = .ok (.iconst 0, 1) := by decide +kernel
theorem dL_move_24 : decode cL_move 24 = .ok (.ireturn, 1) := by decide +kernel
set_option maxRecDepth 20000 in
theorem ggL_resize_X4_resize : GoodIn wsL_resize wsX4_resize := goodIn_ca (goodIn_ca (goodIn_r _ [7, 8, 9, 10, 11, 12, 13, 14, 15, 6, 16, 17, 18, 19, 20, 21, 22, 23, 24, 25, 26, 27, 28, 29, 30, 31, 32, 33, 34, 35, 36, 37, 38, 39, 40, 41, 42, 43, 44, 45, 46, 47, 48, 49, 50, 51, 52, 53, 54, 55, 56, 57, 58, 59, 60, 61, 62, 63, 64, 65, 66, 67, 68, 69, 70, 71, 72, 73, 74, 75, 76, 77, 78, 79, 80, 81, 82, 83, 84, 85, 86, 87, 88, 89, 90, 91, 92, 93, 94, 95, 96, 97, 98, 99, 100, 101, 102, 103, 104, 105, 106, 107, 108, 109, 110, 111, 112, 113, 114, 115, 116, 117, 118, 119, 120, 121, 122, 123, 124, 125, 126, 127, 128, 129, 130, 131, 132, 133, 134, 135, 136, 137, 138, 139, 140, 141, 142, 143, 144, 145, 146, 147, 148, 149, 150, 151, 152, 153, 154, 155, 156, 157, 158, 159, 160, 161] (by decide +kernel) (by decide +kernel)) (goodIn_sub (fun _ h => List.mem_cons_of_mem _ (List.mem_append_left _ (List.mem_append_right _ h))) (by decide +kernel))) (goodIn_sub (fun _ h => List.mem_cons_of_mem _ (List.mem_append_right _ h)) (by decide +kernel))
set_option maxRecDepth 20000 in
theorem gL_resize_X4_resize : GoodIn wsL_resize (wsV RL 23 RX4 yX4_resize wsX4_resize) := goodIn_app (goodIn_of _ (by decide +kernel)) ggL_resize_X4_resize
theorem dL_resize_0 : decode cL_resize 0 = .ok (.aload 4, 2) := by decide +kernel
theorem dL_resize_2 : decode cL_resize 2 = .ok (.iconst 0, 1) := by decide +kernel
theorem dL_resize_3 : decode cL_resize 3 = .ok (.aload_n 0, 1) := by decide +kernel
theorem dL_resize_4 : decode cL_resize 4 = .ok (.iload_n 1, 1) := by decide +kernel
theorem dL_resize_5 : decode cL_resize 5 = .ok (.iload_n 2, 1) := by decide +kernel
theorem dL_resize_6 : decode cL_resize 6 = .ok (.iload_n 3, 1) := by decide +kernel
theorem dL_resize_7 : decode cL_resize 7 = .ok (.invokevirtual 23, 3) := by decide +kernel
theorem dL_resize_10 : decode cL_resize 10 = .ok (.i2l, 1) := by decide +kernel
theorem dL_resize_11 : decode cL_resize 11 = .ok (.lastore, 1) := by decide +kernel
theorem dL_resize_12 : decode cL_resize 12 = .ok (.goto 11, 3) := by decide +kernel
theorem dL_resize_15 : decode cL_resize 15 = .ok (.astore 5, 2) := by decide +kernel
theorem dL_resize_17 : decode cL_resize 17 = .ok (.iconst 1, 1) := by decide +kernel
theorem dL_resize_18 : decode cL_resize 18 = .ok (.ireturn, 1) := by decide +kernel
theorem dL_resize_19 : decode cL_resize 19 = .ok (.astore 5, 2) := by decide +kernel
theorem dL_resize_21 : decode cL_resize 21 = .ok (.iconst 2, 1) := by decide +kernel
theorem dL_resize_22 : decode cL_resize 22 = .ok (.ireturn, 1) := by decide +kernel
theorem dL_resize_23 : decode cL_resize 23 = .ok (.iconst 0, 1) := by decide +kernel
theorem dL_resize_24 : decode cL_resize 24 = .ok (.ireturn, 1) := by decide +kernel
set_option maxRecDepth 20000 in
theorem ggL_remove_X4_remove : GoodIn wsL_remove wsX4_remove := goodIn_ca (goodIn_r _ [6, 7, 8, 9, 10, 11, 5, 12, 13, 14, 15, 16, 17, 18, 19, 20, 21, 22, 23, 24, 25, 26, 27, 28, 29, 30, 31, 32, 33, 34, 35, 36, 37, 38, 39, 40, 41, 42, 43, 44, 45, 46, 47, 48, 49, 50, 51, 52, 53, 54, 55, 56, 57, 58, 59, 60, 61, 62, 63, 64, 65, 66, 67, 68, 69, 70, 71, 72, 73, 74, 75, 76, 77, 78, 79, 80, 81, 82, 83, 84, 85, 86, 87, 88, 89, 90, 91, 92, 93, 94, 95, 96, 97, 98, 99, 100, 101, 102, 103, 104, 105, 106, 107, 108, 109, 110, 111, 112, 113, 114, 115, 116, 117, 118, 119, 120, 121, 122, 123, 124, 125, 126, 127, 128, 129, 130, 131, 132, 133, 134, 135, 136, 137, 138, 139, 140, 141, 142, 143, 144, 145, 146, 147, 148, 149, 150, 151, 152, 153, 154, 155, 156, 157, 158, 159, 160, 161] (by decide +kernel) (by decide +kernel)) (goodIn_sub (fun _ h => List.mem_cons_of_mem _ (List.mem_append_right _ h)) (by decide +kernel))
set_option maxRecDepth 20000 in
theorem gL_remove_X4_remove : GoodIn wsL_remove (wsV RL 26 RX4 yX4_remove wsX4_remove) := goodIn_app (goodIn_of _ (by decide +kernel)) ggL_remove_X4_remove
theorem dL_remove_0 : decode cL_remove 0 = .ok (.aload_n 2, 1) := by decide +kernel
theorem dL_remove_1 : decode cL_remove 1 = .ok (.iconst 0, 1) := by decide +kernel
theorem dL_remove_2 : decode cL_remove 2 = .ok (.aload_n 0, 1) := by decide +kernel
theorem dL_remove_3 : decode cL_remove 3 = .ok (.iload_n 1, 1) := by decide +kernel
theorem dL_remove_4 : decode cL_remove 4 = .ok (.invokevirtual 26, 3) := by decide +kernel
theorem dL_remove_7 : decode cL_remove 7 = .ok (.i2l, 1) := by decide +kernel
theorem dL_remove_8 : decode cL_remove 8 = .ok (.lastore, 1) := by decide +kernel
theorem dL_remove_9 : decode cL_remove 9 = .ok (.goto 6, 3) := by decide +kernel
theorem dL_remove_12 : decode cL_remove 12 = .ok (.astore_n 3, 1) := by decide +kernel
theorem dL_remove_13 : decode cL_remove 13 = .ok (.iconst 1, 1) := by decide +kernel
theorem dL_remove_14 : decode cL_remove 14 = .ok (.ireturn, 1) := by decide +kernel
theorem dL_remove_15 : decode cL_remove 15 = .ok (.iconst 0, 1) := by decide +kernel
theorem dL_remove_16 : decode cL_remove 16 = .ok (.ireturn, 1) := by decide +kernel
set_option maxRecDepth 20000 in
theorem ggL_tie_X4_tie : GoodIn wsL_tie wsX4_tie := goodIn_ca (goodIn_ca (goodIn_ca (goodIn_r _ [8, 9, 10, 11, 12, 13, 14, 15, 16, 17, 18, 7, 19, 20, 21, 22, 23, 24, 25, 26, 27, 28, 29, 30, 31, 32, 33, 34, 35, 36, 37, 38, 39, 40, 41, 42, 43, 44, 45, 46, 47, 48, 49, 50, 51, 52, 53, 54, 55, 56, 57, 58, 59, 60, 61, 62, 63, 64, 65, 66, 67, 68, 69, 70, 71, 72, 73, 74, 75, 76, 77, 78, 79, 80, 81, 82, 83, 84, 85, 86, 87, 88, 89, 90, 91, 92, 93, 94, 95, 96, 97, 98, 99, 100, 101, 102, 103, 104, 105, 106, 107, 108, 109, 110, 111, 112, 113, 114, 115, 116, 117, 118, 119, 120, 121, 122, 123, 124, 125, 126, 127, 128, 129, 130, 131, 132, 133, 134, 135, 136, 137, 138, 139, 140, 141, 142, 143, 144, 145, 146, 147, 148, 149, 150, 151, 152, 153, 154, 155, 156, 157, 158, 159, 160, 161, 162] (by decide +kernel) (by decide +kernel)) (goodIn_sub (fun _ h => List.mem_cons_of_mem _ (List.mem_append_left _ (List.mem_append_left _ (List.mem_append_right _ h)))) (by decide +kernel))) (goodIn_sub (fun _ h => List.mem_cons_of_mem _ (List.mem_append_left _ (List.mem_append_right _ h))) (by decide +kernel))) (goodIn_sub (fun _ h => List.mem_cons_of_mem _ (List.mem_append_right _ h)) (by decide +kernel))
set_option maxRecDepth 20000 in
theorem gL_tie_X4_tie : GoodIn wsL_tie (wsV RL 30 RX4 yX4_tie wsX4_tie) := goodIn_app (goodIn_of _ (by decide +kernel)) ggL_tie_X4_tie
theorem dL_tie_0 : decode cL_tie 0 = .ok (.aload_n 3, 1) := by decide +kernel
theorem dL_tie_1 : decode cL_tie 1 = .ok (.iconst 0, 1) := by decide +kernel
theorem dL_tie_2 : decode cL_tie 2 = .ok (.aload_n 0, 1) := by decide +kernel
theorem dL_tie_3 : decode cL_tie 3 = .ok (.iload_n 1, 1) := by decide +kernel
theorem dL_tie_4 : decode cL_tie 4 = .ok (.iload_n 2, 1) := by decide +kernel
theorem dL_tie_5 : decode cL_tie 5 = .ok (.invokevirtual 30, 3) := by decide +kernel
theorem dL_tie_8 : decode cL_tie 8 = .ok (.i2l, 1) := by decide +kernel
theorem dL_tie_9 : decode cL_tie 9 = .ok (.lastore, 1) := by decide +kernel
theorem dL_tie_10 : decode cL_tie 10 = .ok (.goto 15, 3) := by decide +kernel
theorem dL_tie_13 : decode cL_tie 13 = .ok (.astore 4, 2) := by decide +kernel
theorem dL_tie_15 : decode cL_tie 15 = .ok (.iconst 1, 1) := by decide +kernel
theorem dL_tie_16 : decode cL_tie 16 = .ok (.ireturn, 1) := by decide +kernel
theorem dL_tie_17 : decode cL_tie 17 = .ok (.astore 4, 2) := by decide +kernel
theorem dL_tie_19 : decode cL_tie 19 = .ok (.iconst 2, 1) := by decide +kernel
theorem dL_tie_20 : decode cL_tie 20 = .ok (.ireturn, 1) := by decide +kernel
theorem dL_tie_21 : decode cL_tie 21 = .ok (.astore 4, 2) := by decide +kernel
theorem dL_tie_23 : decode cL_tie 23 = .ok (.iconst 3, 1) := by decide +kernel
theorem dL_tie_24 : decode cL_tie 24 = .ok (.ireturn, 1) := by decide +kernel
theorem dL_tie_25 : decode cL_tie 25 = .ok (.iconst 0, 1) := by decide +kernel
theorem dL_tie_26 : decode cL_tie 26 = .ok (.ireturn, 1) := by decide +kernel
