/-! the law: words of its calls, 2 -/
set_option maxRecDepth 20000 in
theorem ggL_faults_X4_faults : GoodIn wsL_faults wsX4_faults := goodIn_ca (goodIn_r _ [6, 7, 8, 9, 10, 11, 5, 12, 13, 14, 15, 16, 17, 18, 19, 20, 21, 22, 23, 24, 25, 26, 27, 28, 29, 30, 31, 32, 33, 34, 35, 36, 37, 38, 39, 40, 41, 42, 43, 44, 45, 46, 47, 48, 49, 50, 51, 52, 53, 54, 55, 56, 57, 58, 59, 60, 61, 62, 63, 64, 65, 66, 67, 68, 69, 70, 71, 72, 73, 74, 75, 76, 77, 78, 79, 80, 81, 82, 83, 84, 85, 86, 87, 88, 89, 90, 91, 92, 93, 94, 95, 96, 97] (by decide +kernel) (by decide +kernel)) (goodIn_sub (fun _ h => List.mem_cons_of_mem _ (List.mem_append_right _ h)) (by decide +kernel))
set_option maxRecDepth 20000 in
theorem gL_faults_X4_faults : GoodIn wsL_faults (wsV RL 55 RX4 yX4_faults wsX4_faults) := goodIn_app (goodIn_of _ (by decide +kernel)) ggL_faults_X4_faults
theorem dL_faults_0 : decode cL_faults 0 = .ok (.aload_n 2, 1) := by decide +kernel
theorem dL_faults_1 : decode cL_faults 1 = .ok (.iconst 0, 1) := by decide +kernel
theorem dL_faults_2 : decode cL_faults 2 = .ok (.aload_n 0, 1) := by decide +kernel
theorem dL_faults_3 : decode cL_faults 3 = .ok (.iload_n 1, 1) := by decide +kernel
theorem dL_faults_4 : decode cL_faults 4 = .ok (.invokevirtual 55, 3) := by decide +kernel
theorem dL_faults_7 : decode cL_faults 7 = .ok (.i2l, 1) := by decide +kernel
theorem dL_faults_8 : decode cL_faults 8 = .ok (.lastore, 1) := by decide +kernel
theorem dL_faults_9 : decode cL_faults 9 = .ok (.goto 6, 3) := by decide +kernel
theorem dL_faults_12 : decode cL_faults 12 = .ok (.astore_n 3, 1) := by decide +kernel
theorem dL_faults_13 : decode cL_faults 13 = .ok (.iconst 1, 1) := by decide +kernel
theorem dL_faults_14 : decode cL_faults 14 = .ok (.ireturn, 1) := by decide +kernel
theorem dL_faults_15 : decode cL_faults 15 = .ok (.iconst 0, 1) := by decide +kernel
theorem dL_faults_16 : decode cL_faults 16 = .ok (.ireturn, 1) := by decide +kernel
set_option maxRecDepth 20000 in
theorem ggL_faulty_X4_faulty : GoodIn wsL_faulty wsX4_faulty := goodIn_ca (goodIn_r _ [6, 7, 8, 9, 10, 5, 11, 12, 13, 14, 15, 16, 17, 18, 19, 20, 21, 22, 23, 24, 25, 26, 27, 28, 29, 30, 31, 32, 33, 34, 35, 36, 37, 38, 39, 40, 41, 42, 43, 44, 45, 46, 47, 48, 49, 50, 51, 52, 53, 54, 55, 56, 57, 58, 59, 60, 61, 62, 63, 64, 65, 66, 67, 68, 69, 70, 71, 72, 73, 74, 75, 76, 77, 78, 79, 80, 81, 82, 83, 84, 85] (by decide +kernel) (by decide +kernel)) (goodIn_sub (fun _ h => List.mem_cons_of_mem _ (List.mem_append_right _ h)) (by decide +kernel))
set_option maxRecDepth 20000 in
theorem gL_faulty_X4_faulty : GoodIn wsL_faulty (wsV RL 58 RX4 yX4_faulty wsX4_faulty) := goodIn_app (goodIn_of _ (by decide +kernel)) ggL_faulty_X4_faulty
theorem dL_faulty_0 : decode cL_faulty 0 = .ok (.aload_n 2, 1) := by decide +kernel
theorem dL_faulty_1 : decode cL_faulty 1 = .ok (.iconst 0, 1) := by decide +kernel
theorem dL_faulty_2 : decode cL_faulty 2 = .ok (.aload_n 0, 1) := by decide +kernel
theorem dL_faulty_3 : decode cL_faulty 3 = .ok (.iload_n 1, 1) := by decide +kernel
theorem dL_faulty_4 : decode cL_faulty 4 = .ok (.invokevirtual 58, 3) := by decide +kernel
theorem dL_faulty_7 : decode cL_faulty 7 = .ok (.i2l, 1) := by decide +kernel
theorem dL_faulty_8 : decode cL_faulty 8 = .ok (.lastore, 1) := by decide +kernel
theorem dL_faulty_9 : decode cL_faulty 9 = .ok (.goto 6, 3) := by decide +kernel
theorem dL_faulty_12 : decode cL_faulty 12 = .ok (.astore_n 3, 1) := by decide +kernel
theorem dL_faulty_13 : decode cL_faulty 13 = .ok (.iconst 1, 1) := by decide +kernel
theorem dL_faulty_14 : decode cL_faulty 14 = .ok (.ireturn, 1) := by decide +kernel
theorem dL_faulty_15 : decode cL_faulty 15 = .ok (.iconst 0, 1) := by decide +kernel
theorem dL_faulty_16 : decode cL_faulty 16 = .ok (.ireturn, 1) := by decide +kernel
set_option maxRecDepth 20000 in
theorem ggL_approve_X4_approve : GoodIn wsL_approve wsX4_approve := goodIn_ca (goodIn_ca (goodIn_r _ [7, 8, 9, 10, 11, 12, 13, 14, 15, 16, 17, 18, 19, 20, 6, 21, 22, 23, 24, 25, 26, 27, 28, 29, 30, 31, 32, 33, 34, 35, 36, 37, 38, 39, 40, 41, 42, 43] (by decide +kernel) (by decide +kernel)) (goodIn_sub (fun _ h => List.mem_cons_of_mem _ (List.mem_append_left _ (List.mem_append_right _ h))) (by decide +kernel))) (goodIn_sub (fun _ h => List.mem_cons_of_mem _ (List.mem_append_right _ h)) (by decide +kernel))
set_option maxRecDepth 20000 in
theorem gL_approve_X4_approve : GoodIn wsL_approve (wsV RL 61 RX4 yX4_approve wsX4_approve) := goodIn_app (goodIn_of _ (by decide +kernel)) ggL_approve_X4_approve
theorem dL_approve_0 : decode cL_approve 0 = .ok (.aload_n 3, 1) := by decide +kernel
theorem dL_approve_1 : decode cL_approve 1 = .ok (.iconst 0, 1) := by decide +kernel
theorem dL_approve_2 : decode cL_approve 2 = .ok (.aload_n 0, 1) := by decide +kernel
theorem dL_approve_3 : decode cL_approve 3 = .ok (.iload_n 1, 1) := by decide +kernel
theorem dL_approve_4 : decode cL_approve 4 = .ok (.iload_n 2, 1) := by decide +kernel
theorem dL_approve_5 : decode cL_approve 5 = .ok (.invokevirtual 61, 3) := by decide +kernel
theorem dL_approve_8 : decode cL_approve 8 = .ok (.i2l, 1) := by decide +kernel
theorem dL_approve_9 : decode cL_approve 9 = .ok (.lastore, 1) := by decide +kernel
theorem dL_approve_10 : decode cL_approve 10 = .ok (.goto 11, 3) := by decide +kernel
theorem dL_approve_13 : decode cL_approve 13 = .ok (.astore 4, 2) := by decide +kernel
theorem dL_approve_15 : decode cL_approve 15 = .ok (.iconst 1, 1) := by decide +kernel
theorem dL_approve_16 : decode cL_approve 16 = .ok (.ireturn, 1) := by decide +kernel
theorem dL_approve_17 : decode cL_approve 17 = .ok (.astore 4, 2) := by decide +kernel
theorem dL_approve_19 : decode cL_approve 19 = .ok (.iconst 2, 1) := by decide +kernel
theorem dL_approve_20 : decode cL_approve 20 = .ok (.ireturn, 1) := by decide +kernel
theorem dL_approve_21 : decode cL_approve 21 = .ok (.iconst 0, 1) := by decide +kernel
theorem dL_approve_22 : decode cL_approve 22 = .ok (.ireturn, 1) := by decide +kernel
set_option maxRecDepth 20000 in
theorem ggL_stands_X4_stands : GoodIn wsL_stands wsX4_stands := goodIn_ca (goodIn_r _ [6, 7, 8, 9, 10, 11, 12, 13, 14, 15, 16, 17, 18, 19, 20] (by decide +kernel) (by decide +kernel)) (goodIn_sub (fun _ h => List.mem_cons_of_mem _ (List.mem_append_right _ h)) (by decide +kernel))
set_option maxRecDepth 20000 in
theorem gL_stands_X4_stands : GoodIn wsL_stands (wsV RL 64 RX4 yX4_stands wsX4_stands) := goodIn_app (goodIn_of _ (by decide +kernel)) ggL_stands_X4_stands
theorem dL_stands_0 : decode cL_stands 0 = .ok (.aload_n 2, 1) := by decide +kernel
theorem dL_stands_1 : decode cL_stands 1 = .ok (.iconst 0, 1) := by decide +kernel
theorem dL_stands_2 : decode cL_stands 2 = .ok (.aload_n 0, 1) := by decide +kernel
theorem dL_stands_3 : decode cL_stands 3 = .ok (.iload_n 1, 1) := by decide +kernel
theorem dL_stands_4 : decode cL_stands 4 = .ok (.invokevirtual 64, 3) := by decide +kernel
theorem dL_stands_7 : decode cL_stands 7 = .ok (.ifCond .eq 7, 3) := by decide +kernel
theorem dL_stands_10 : decode cL_stands 10 = .ok (.lconst 1, 1) := by decide +kernel
theorem dL_stands_11 : decode cL_stands 11 = .ok (.goto 4, 3) := by decide +kernel
theorem dL_stands_14 : decode cL_stands 14 = .ok (.lconst 0, 1) := by decide +kernel
theorem dL_stands_15 : decode cL_stands 15 = .ok (.lastore, 1) := by decide +kernel
theorem dL_stands_16 : decode cL_stands 16 = .ok (.goto 6, 3) := by decide +kernel
theorem dL_stands_19 : decode cL_stands 19 = .ok (.astore_n 3, 1) := by decide +kernel
theorem dL_stands_20 : decode cL_stands 20 = .ok (.iconst 1, 1) := by decide +kernel
theorem dL_stands_21 : decode cL_stands 21 = .ok (.ireturn, 1) := by decide +kernel
theorem dL_stands_22 : decode cL_stands 22 = .ok (.iconst 0, 1) := by decide +kernel
theorem dL_stands_23 : decode cL_stands 23 = .ok (.ireturn, 1) := by decide +kernel
set_option maxRecDepth 20000 in
theorem ggL_approvers_X4_approvers : GoodIn wsL_approvers wsX4_approvers := goodIn_ca (goodIn_r _ [6, 7, 8, 9, 10, 11, 5, 12, 13, 14, 15, 16, 17, 18, 19, 20, 21, 22, 23, 24, 25, 26, 27, 28, 29, 30, 31, 32] (by decide +kernel) (by decide +kernel)) (goodIn_sub (fun _ h => List.mem_cons_of_mem _ (List.mem_append_right _ h)) (by decide +kernel))
set_option maxRecDepth 20000 in
theorem gL_approvers_X4_approvers : GoodIn wsL_approvers (wsV RL 68 RX4 yX4_approvers wsX4_approvers) := goodIn_app (goodIn_of _ (by decide +kernel)) ggL_approvers_X4_approvers
theorem dL_approvers_0 : decode cL_approvers 0 = .ok (.aload_n 2, 1) := by decide +kernel
theorem dL_approvers_1 : decode cL_approvers 1 = .ok (.iconst 0, 1) := by decide +kernel
theorem dL_approvers_2 : decode cL_approvers 2 = .ok (.aload_n 0, 1) := by decide +kernel
theorem dL_approvers_3 : decode cL_approvers 3 = .ok (.iload_n 1, 1) := by decide +kernel
theorem dL_approvers_4 : decode cL_approvers 4 = .ok (.invokevirtual 68, 3) := by decide +kernel
theorem dL_approvers_7 : decode cL_approvers 7 = .ok (.i2l, 1) := by decide +kernel
theorem dL_approvers_8 : decode cL_approvers 8 = .ok (.lastore, 1) := by decide +kernel
theorem dL_approvers_9 : decode cL_approvers 9 = .ok (.goto 6, 3) := by decide +kernel
theorem dL_approvers_12 : decode cL_approvers 12 = .ok (.astore_n 3, 1) := by decide +kernel
theorem dL_approvers_13 : decode cL_approvers 13 = .ok (.iconst 1, 1) := by decide +kernel
theorem dL_approvers_14 : decode cL_approvers 14 = .ok (.ireturn, 1) := by decide +kernel
theorem dL_approvers_15 : decode cL_approvers 15 = .ok (.iconst 0, 1) := by decide +kernel
theorem dL_approvers_16 : decode cL_approvers 16 = .ok (.ireturn, 1) := by decide +kernel
set_option maxRecDepth 20000 in
theorem ggL_breaks_X4_breaks : GoodIn wsL_breaks wsX4_breaks := goodIn_ca (goodIn_ca (goodIn_r _ [7, 8, 9, 10, 11, 12, 13, 14, 15, 16, 6, 17, 18, 19, 20, 21, 22, 23, 24, 25, 26, 27, 28, 29, 30, 31, 32, 33, 34, 35, 36, 37, 38, 39, 40, 41, 42, 43, 44, 45, 46, 47, 48, 49, 50, 51, 52, 53, 54, 55, 56, 57, 58, 59, 60, 61, 62, 63, 64, 65, 66, 67, 68, 69, 70, 71, 72, 73, 74, 75, 76, 77, 78, 79, 80, 81, 82, 83, 84, 85, 86, 87, 88, 89, 90, 91, 92, 93, 94, 95, 96, 97, 98, 99, 100, 101, 102, 103, 104, 105, 106, 107, 108, 109, 110, 111, 112, 113, 114, 115, 116, 117, 118, 119, 120, 121, 122, 123, 124, 125, 126, 127, 128, 129, 130, 131, 132, 133, 134, 135, 136, 137, 138, 139, 140, 141, 142, 143, 144, 145, 146, 147, 148, 149, 150, 151] (by decide +kernel) (by decide +kernel)) (goodIn_sub (fun _ h => List.mem_cons_of_mem _ (List.mem_append_left _ (List.mem_append_right _ h))) (by decide +kernel))) (goodIn_sub (fun _ h => List.mem_cons_of_mem _ (List.mem_append_right _ h)) (by decide +kernel))
set_option maxRecDepth 20000 in
theorem gL_breaks_X4_breaks : GoodIn wsL_breaks (wsV RL 71 RX4 yX4_breaks wsX4_breaks) := goodIn_app (goodIn_of _ (by decide +kernel)) ggL_breaks_X4_breaks
theorem dL_breaks_0 : decode cL_breaks 0 = .ok (.aload 4, 2) := by decide +kernel
theorem dL_breaks_2 : decode cL_breaks 2 = .ok (.iconst 0, 1) := by decide +kernel
theorem dL_breaks_3 : decode cL_breaks 3 = .ok (.aload_n 0, 1) := by decide +kernel
theorem dL_breaks_4 : decode cL_breaks 4 = .ok (.iload_n 1, 1) := by decide +kernel
theorem dL_breaks_5 : decode cL_breaks 5 = .ok (.iload_n 2, 1) := by decide +kernel
theorem dL_breaks_6 : decode cL_breaks 6 = .ok (.iload_n 3, 1) := by decide +kernel
theorem dL_breaks_7 : decode cL_breaks 7 = .ok (.invokevirtual 71, 3) := by decide +kernel
theorem dL_breaks_10 : decode cL_breaks 10 = .ok (.i2l, 1) := by decide +kernel
theorem dL_breaks_11 : decode cL_breaks 11 = .ok (.lastore, 1) := by decide +kernel
theorem dL_breaks_12 : decode cL_breaks 12 = .ok (.goto 11, 3) := by decide +kernel
theorem dL_breaks_15 : decode cL_breaks 15 = .ok (.astore 5, 2) := by decide +kernel
theorem dL_breaks_17 : decode cL_breaks 17 = .ok (.iconst 1, 1) := by decide +kernel
theorem dL_breaks_18 : decode cL_breaks 18 = .ok (.ireturn, 1) := by decide +kernel
theorem dL_breaks_19 : decode cL_breaks 19 = .ok (.astore 5, 2) := by decide +kernel
theorem dL_breaks_21 : decode cL_breaks 21 = .ok (.iconst 2, 1) := by decide +kernel
theorem dL_breaks_22 : decode cL_breaks 22 = .ok (.ireturn, 1) := by decide +kernel
theorem dL_breaks_23 : decode cL_breaks 23 = .ok (.iconst 0, 1) := by decide +kernel
theorem dL_breaks_24 : decode cL_breaks 24 = .ok (.ireturn, 1) := by decide +kernel
