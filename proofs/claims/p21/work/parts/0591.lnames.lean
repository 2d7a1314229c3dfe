/-! the law: its printed names, 0591 -/
theorem dL_at_0 : decode cL_at 0 = .ok (.iload_n 1, 1) := by decide +kernel
theorem dL_at_1 : decode cL_at 1 = .ok (.aload_n 0, 1) := by decide +kernel
theorem dL_at_2 : decode cL_at 2 = .ok (.arraylength, 1) := by decide +kernel
theorem dL_at_3 : decode cL_at 3 = .ok (.if_icmp .ge 9, 3) := by decide +kernel
theorem dL_at_6 : decode cL_at 6 = .ok (.aload_n 0, 1) := by decide +kernel
theorem dL_at_7 : decode cL_at 7 = .ok (.iload_n 1, 1) := by decide +kernel
theorem dL_at_8 : decode cL_at 8 = .ok (.iaload, 1) := by decide +kernel
theorem dL_at_9 : decode cL_at 9 = .ok (.goto 12, 3) := by decide +kernel
theorem dL_at_12 : decode cL_at 12 = .ok (.ldc 7, 2) := by decide +kernel
theorem dL_at_14 : decode cL_at 14 = .ok (.iload_n 1, 1) := by decide +kernel
theorem dL_at_15 : decode cL_at 15 = .ok (.iconst 1, 1) := by decide +kernel
theorem dL_at_16 : decode cL_at 16 = .ok (.iadd, 1) := by decide +kernel
theorem dL_at_17 : decode cL_at 17 = .ok (.imul, 1) := by decide +kernel
theorem dL_at_18 : decode cL_at 18 = .ok (.ldc 8, 2) := by decide +kernel
theorem dL_at_20 : decode cL_at 20 = .ok (.iadd, 1) := by decide +kernel
theorem dL_at_21 : decode cL_at 21 = .ok (.ireturn, 1) := by decide +kernel
theorem dL_low_0 : decode cL_low 0 = .ok (.iload_n 0, 1) := by decide +kernel
theorem dL_low_1 : decode cL_low 1 = .ok (.ldc 9, 2) := by decide +kernel
theorem dL_low_3 : decode cL_low 3 = .ok (.iand, 1) := by decide +kernel
theorem dL_low_4 : decode cL_low 4 = .ok (.iload_n 1, 1) := by decide +kernel
theorem dL_low_5 : decode cL_low 5 = .ok (.irem, 1) := by decide +kernel
theorem dL_low_6 : decode cL_low 6 = .ok (.ireturn, 1) := by decide +kernel
theorem dL_box_0 : decode cL_box 0 = .ok (.aload_n 0, 1) := by decide +kernel
theorem dL_box_1 : decode cL_box 1 = .ok (.iload_n 1, 1) := by decide +kernel
theorem dL_box_2 : decode cL_box 2 = .ok (.iload_n 2, 1) := by decide +kernel
theorem dL_box_3 : decode cL_box 3 = .ok (.iload_n 3, 1) := by decide +kernel
theorem dL_box_4 : decode cL_box 4 = .ok (.iload 4, 2) := by decide +kernel
theorem dL_box_6 : decode cL_box 6 = .ok (.iload 5, 2) := by decide +kernel
theorem dL_box_8 : decode cL_box 8 = .ok (.iload 6, 2) := by decide +kernel
theorem dL_box_10 : decode cL_box 10 = .ok (.invokevirtual 10, 3) := by decide +kernel
theorem dL_box_13 : decode cL_box 13 = .ok (.ireturn, 1) := by decide +kernel
theorem dL_box_14 : decode cL_box 14 = .ok (.astore 7, 2) := by decide +kernel
theorem dL_box_16 : decode cL_box 16 = .ok (.ldc 18, 2) := by decide +kernel
theorem dL_box_18 : decode cL_box 18 = .ok (.ireturn, 1) := by decide +kernel
theorem dL_box_19 : decode cL_box 19 = .ok (.astore 7, 2) := by decide +kernel
theorem dL_box_21 : decode cL_box 21 = .ok (.ldc 21, 2) := by decide +kernel
theorem dL_box_23 : decode cL_box 23 = .ok (.ireturn, 1) := by decide +kernel
theorem dL_box_24 : decode cL_box 24 = .ok (.astore 7, 2) := by decide +kernel
theorem dL_box_26 : decode cL_box 26 = .ok (.ldc 24, 2) := by decide +kernel
theorem dL_box_28 : decode cL_box 28 = .ok (.ireturn, 1) := by decide +kernel
theorem dL_move_0 : decode cL_move 0 = .ok (.aload_n 0, 1) := by decide +kernel
theorem dL_move_1 : decode cL_move 1 = .ok (.iload_n 1, 1) := by decide +kernel
theorem dL_move_2 : decode cL_move 2 = .ok (.iload_n 2, 1) := by decide +kernel
theorem dL_move_3 : decode cL_move 3 = .ok (.iload_n 3, 1) := by decide +kernel
theorem dL_move_4 : decode cL_move 4 = .ok (.invokevirtual 25, 3) := by decide +kernel
theorem dL_move_7 : decode cL_move 7 = .ok (.ireturn, 1) := by decide +kernel
theorem dL_move_8 : decode cL_move 8 = .ok (.astore 4, 2) := by decide +kernel
theorem dL_move_10 : decode cL_move 10 = .ok (.ldc 18, 2) := by decide +kernel
theorem dL_move_12 : decode cL_move 12 = .ok (.ireturn, 1) := by decide +kernel
theorem dL_move_13 : decode cL_move 13 = .ok (.astore 4, 2) := by decide +kernel
theorem dL_move_15 : decode cL_move 15 = .ok (.ldc 21, 2) := by decide +kernel
theorem dL_move_17 : decode cL_move 17 = .ok (.ireturn, 1) := by decide +kernel
theorem dL_resize_0 : decode cL_resize 0 = .ok (.aload_n 0, 1) := by decide +kernel
theorem dL_resize_1 : decode cL_resize 1 = .ok (.iload_n 1, 1) := by decide +kernel
theorem dL_resize_2 : decode cL_resize 2 = .ok (.iload_n 2, 1) := by decide +kernel
theorem dL_resize_3 : decode cL_resize 3 = .ok (.iload_n 3, 1) := by decide +kernel
theorem dL_resize_4 : decode cL_resize 4 = .ok (.invokevirtual 29, 3) := by decide +kernel
theorem dL_resize_7 : decode cL_resize 7 = .ok (.ireturn, 1) := by decide +kernel
theorem dL_resize_8 : decode cL_resize 8 = .ok (.astore 4, 2) := by decide +kernel
theorem dL_resize_10 : decode cL_resize 10 = .ok (.ldc 18, 2) := by decide +kernel
theorem dL_resize_12 : decode cL_resize 12 = .ok (.ireturn, 1) := by decide +kernel
theorem dL_resize_13 : decode cL_resize 13 = .ok (.astore 4, 2) := by decide +kernel
theorem dL_resize_15 : decode cL_resize 15 = .ok (.ldc 21, 2) := by decide +kernel
theorem dL_resize_17 : decode cL_resize 17 = .ok (.ireturn, 1) := by decide +kernel
theorem dL_remove_0 : decode cL_remove 0 = .ok (.aload_n 0, 1) := by decide +kernel
theorem dL_remove_1 : decode cL_remove 1 = .ok (.iload_n 1, 1) := by decide +kernel
theorem dL_remove_2 : decode cL_remove 2 = .ok (.invokevirtual 32, 3) := by decide +kernel
theorem dL_remove_5 : decode cL_remove 5 = .ok (.ireturn, 1) := by decide +kernel
theorem dL_remove_6 : decode cL_remove 6 = .ok (.astore_n 2, 1) := by decide +kernel
theorem dL_remove_7 : decode cL_remove 7 = .ok (.ldc 18, 2) := by decide +kernel
theorem dL_remove_9 : decode cL_remove 9 = .ok (.ireturn, 1) := by decide +kernel
theorem dL_tie_0 : decode cL_tie 0 = .ok (.aload_n 0, 1) := by decide +kernel
theorem dL_tie_1 : decode cL_tie 1 = .ok (.iload_n 1, 1) := by decide +kernel
theorem dL_tie_2 : decode cL_tie 2 = .ok (.iload_n 2, 1) := by decide +kernel
theorem dL_tie_3 : decode cL_tie 3 = .ok (.invokevirtual 36, 3) := by decide +kernel
theorem dL_tie_6 : decode cL_tie 6 = .ok (.ireturn, 1) := by decide +kernel
theorem dL_tie_7 : decode cL_tie 7 = .ok (.astore_n 3, 1) := by decide +kernel
theorem dL_tie_8 : decode cL_tie 8 = .ok (.ldc 18, 2) := by decide +kernel
theorem dL_tie_10 : decode cL_tie 10 = .ok (.ireturn, 1) := by decide +kernel
theorem dL_tie_11 : decode cL_tie 11 = .ok (.astore_n 3, 1) := by decide +kernel
theorem dL_tie_12 : decode cL_tie 12 = .ok (.ldc 21, 2) := by decide +kernel
theorem dL_tie_14 : decode cL_tie 14 = .ok (.ireturn, 1) := by decide +kernel
theorem dL_tie_15 : decode cL_tie 15 = .ok (.astore_n 3, 1) := by decide +kernel
theorem dL_tie_16 : decode cL_tie 16 = .ok (.ldc 24, 2) := by decide +kernel
theorem dL_tie_18 : decode cL_tie 18 = .ok (.ireturn, 1) := by decide +kernel
theorem dL_untie_0 : decode cL_untie 0 = .ok (.aload_n 0, 1) := by decide +kernel
theorem dL_untie_1 : decode cL_untie 1 = .ok (.iload_n 1, 1) := by decide +kernel
theorem dL_untie_2 : decode cL_untie 2 = .ok (.invokevirtual 40, 3) := by decide +kernel
theorem dL_untie_5 : decode cL_untie 5 = .ok (.ireturn, 1) := by decide +kernel
theorem dL_untie_6 : decode cL_untie 6 = .ok (.astore_n 2, 1) := by decide +kernel
theorem dL_untie_7 : decode cL_untie 7 = .ok (.ldc 18, 2) := by decide +kernel
theorem dL_untie_9 : decode cL_untie 9 = .ok (.ireturn, 1) := by decide +kernel
theorem dL_untie_10 : decode cL_untie 10 = .ok (.astore_n 2, 1) := by decide +kernel
theorem dL_untie_11 : decode cL_untie 11 = .ok (.ldc 24, 2) := by decide +kernel
theorem dL_untie_13 : decode cL_untie 13 = .ok (.ireturn, 1) := by decide +kernel
theorem dL_order_0 : decode cL_order 0 = .ok (.aload_n 0, 1) := by decide +kernel
theorem dL_order_1 : decode cL_order 1 = .ok (.iload_n 1, 1) := by decide +kernel
theorem dL_order_2 : decode cL_order 2 = .ok (.iload_n 2, 1) := by decide +kernel
theorem dL_order_3 : decode cL_order 3 = .ok (.invokevirtual 43, 3) := by decide +kernel
theorem dL_order_6 : decode cL_order 6 = .ok (.ireturn, 1) := by decide +kernel
theorem dL_order_7 : decode cL_order 7 = .ok (.astore_n 3, 1) := by decide +kernel
theorem dL_order_8 : decode cL_order 8 = .ok (.ldc 18, 2) := by decide +kernel
theorem dL_order_10 : decode cL_order 10 = .ok (.ireturn, 1) := by decide +kernel
theorem dL_orderAnew_0 : decode cL_orderAnew 0 = .ok (.aload_n 0, 1) := by decide +kernel
theorem dL_orderAnew_1 : decode cL_orderAnew 1 = .ok (.iload_n 1, 1) := by decide +kernel
theorem dL_orderAnew_2 : decode cL_orderAnew 2 = .ok (.iload_n 2, 1) := by decide +kernel
theorem dL_orderAnew_3 : decode cL_orderAnew 3 = .ok (.invokevirtual 46, 3) := by decide +kernel
theorem dL_orderAnew_6 : decode cL_orderAnew 6 = .ok (.ireturn, 1) := by decide +kernel
theorem dL_orderAnew_7 : decode cL_orderAnew 7 = .ok (.astore_n 3, 1) := by decide +kernel
theorem dL_orderAnew_8 : decode cL_orderAnew 8 = .ok (.ldc 18, 2) := by decide +kernel
theorem dL_orderAnew_10 : decode cL_orderAnew 10 = .ok (.ireturn, 1) := by decide +kernel
theorem dL_placeOf_0 : decode cL_placeOf 0 = .ok (.aload_n 0, 1) := by decide +kernel
theorem dL_placeOf_1 : decode cL_placeOf 1 = .ok (.iload_n 1, 1) := by decide +kernel
theorem dL_placeOf_2 : decode cL_placeOf 2 = .ok (.invokevirtual 49, 3) := by decide +kernel
theorem dL_placeOf_5 : decode cL_placeOf 5 = .ok (.ireturn, 1) := by decide +kernel
theorem dL_placeOf_6 : decode cL_placeOf 6 = .ok (.astore_n 2, 1) := by decide +kernel
theorem dL_placeOf_7 : decode cL_placeOf 7 = .ok (.ldc 18, 2) := by decide +kernel
theorem dL_placeOf_9 : decode cL_placeOf 9 = .ok (.ireturn, 1) := by decide +kernel
theorem dL_boxes_0 : decode cL_boxes 0 = .ok (.aload_n 0, 1) := by decide +kernel
theorem dL_boxes_1 : decode cL_boxes 1 = .ok (.iload_n 1, 1) := by decide +kernel
theorem dL_boxes_2 : decode cL_boxes 2 = .ok (.invokevirtual 52, 3) := by decide +kernel
theorem dL_boxes_5 : decode cL_boxes 5 = .ok (.ireturn, 1) := by decide +kernel
theorem dL_boxes_6 : decode cL_boxes 6 = .ok (.astore_n 2, 1) := by decide +kernel
theorem dL_boxes_7 : decode cL_boxes 7 = .ok (.ldc 18, 2) := by decide +kernel
theorem dL_boxes_9 : decode cL_boxes 9 = .ok (.ireturn, 1) := by decide +kernel
theorem dL_about_0 : decode cL_about 0 = .ok (.aload_n 0, 1) := by decide +kernel
theorem dL_about_1 : decode cL_about 1 = .ok (.iload_n 1, 1) := by decide +kernel
theorem dL_about_2 : decode cL_about 2 = .ok (.iload_n 2, 1) := by decide +kernel
theorem dL_about_3 : decode cL_about 3 = .ok (.invokevirtual 55, 3) := by decide +kernel
theorem dL_about_6 : decode cL_about 6 = .ok (.ireturn, 1) := by decide +kernel
theorem dL_about_7 : decode cL_about 7 = .ok (.astore_n 3, 1) := by decide +kernel
theorem dL_about_8 : decode cL_about 8 = .ok (.ldc 18, 2) := by decide +kernel
theorem dL_about_10 : decode cL_about 10 = .ok (.ireturn, 1) := by decide +kernel
theorem dL_about_11 : decode cL_about 11 = .ok (.astore_n 3, 1) := by decide +kernel
theorem dL_about_12 : decode cL_about 12 = .ok (.ldc 21, 2) := by decide +kernel
theorem dL_about_14 : decode cL_about 14 = .ok (.ireturn, 1) := by decide +kernel
theorem dL_way_0 : decode cL_way 0 = .ok (.aload_n 0, 1) := by decide +kernel
theorem dL_way_1 : decode cL_way 1 = .ok (.iload_n 1, 1) := by decide +kernel
theorem dL_way_2 : decode cL_way 2 = .ok (.invokevirtual 58, 3) := by decide +kernel
theorem dL_way_5 : decode cL_way 5 = .ok (.ireturn, 1) := by decide +kernel
theorem dL_way_6 : decode cL_way 6 = .ok (.astore_n 2, 1) := by decide +kernel
theorem dL_way_7 : decode cL_way 7 = .ok (.ldc 18, 2) := by decide +kernel
theorem dL_way_9 : decode cL_way 9 = .ok (.ireturn, 1) := by decide +kernel
theorem dL_faults_0 : decode cL_faults 0 = .ok (.aload_n 0, 1) := by decide +kernel
theorem dL_faults_1 : decode cL_faults 1 = .ok (.iload_n 1, 1) := by decide +kernel
theorem dL_faults_2 : decode cL_faults 2 = .ok (.invokevirtual 61, 3) := by decide +kernel
theorem dL_faults_5 : decode cL_faults 5 = .ok (.ireturn, 1) := by decide +kernel
theorem dL_faults_6 : decode cL_faults 6 = .ok (.astore_n 2, 1) := by decide +kernel
theorem dL_faults_7 : decode cL_faults 7 = .ok (.ldc 18, 2) := by decide +kernel
theorem dL_faults_9 : decode cL_faults 9 = .ok (.ireturn, 1) := by decide +kernel
theorem dL_faulty_0 : decode cL_faulty 0 = .ok (.aload_n 0, 1) := by decide +kernel
theorem dL_faulty_1 : decode cL_faulty 1 = .ok (.iload_n 1, 1) := by decide +kernel
theorem dL_faulty_2 : decode cL_faulty 2 = .ok (.invokevirtual 64, 3) := by decide +kernel
theorem dL_faulty_5 : decode cL_faulty 5 = .ok (.ireturn, 1) := by decide +kernel
theorem dL_faulty_6 : decode cL_faulty 6 = .ok (.astore_n 2, 1) := by decide +kernel
theorem dL_faulty_7 : decode cL_faulty 7 = .ok (.ldc 18, 2) := by decide +kernel
theorem dL_faulty_9 : decode cL_faulty 9 = .ok (.ireturn, 1) := by decide +kernel
theorem dL_approve_0 : decode cL_approve 0 = .ok (.aload_n 0, 1) := by decide +kernel
theorem dL_approve_1 : decode cL_approve 1 = .ok (.iload_n 1, 1) := by decide +kernel
theorem dL_approve_2 : decode cL_approve 2 = .ok (.iload_n 2, 1) := by decide +kernel
theorem dL_approve_3 : decode cL_approve 3 = .ok (.invokevirtual 67, 3) := by decide +kernel
theorem dL_approve_6 : decode cL_approve 6 = .ok (.ireturn, 1) := by decide +kernel
theorem dL_approve_7 : decode cL_approve 7 = .ok (.astore_n 3, 1) := by decide +kernel
theorem dL_approve_8 : decode cL_approve 8 = .ok (.ldc 18, 2) := by decide +kernel
theorem dL_approve_10 : decode cL_approve 10 = .ok (.ireturn, 1) := by decide +kernel
theorem dL_approve_11 : decode cL_approve 11 = .ok (.astore_n 3, 1) := by decide +kernel
theorem dL_approve_12 : decode cL_approve 12 = .ok (.ldc 24, 2) := by decide +kernel
theorem dL_approve_14 : decode cL_approve 14 = .ok (.ireturn, 1) := by decide +kernel
theorem dL_stands_0 : decode cL_stands 0 = .ok (.aload_n 0, 1) := by decide +kernel
theorem dL_stands_1 : decode cL_stands 1 = .ok (.iload_n 1, 1) := by decide +kernel
theorem dL_stands_2 : decode cL_stands 2 = .ok (.invokevirtual 70, 3) := by decide +kernel
theorem dL_stands_5 : decode cL_stands 5 = .ok (.ifCond .eq 7, 3) := by decide +kernel
theorem dL_stands_8 : decode cL_stands 8 = .ok (.iconst 1, 1) := by decide +kernel
theorem dL_stands_9 : decode cL_stands 9 = .ok (.goto 4, 3) := by decide +kernel
theorem dL_stands_12 : decode cL_stands 12 = .ok (.iconst 0, 1) := by decide +kernel
theorem dL_stands_13 : decode cL_stands 13 = .ok (.ireturn, 1) := by decide +kernel
theorem dL_stands_14 : decode cL_stands 14 = .ok (.astore_n 2, 1) := by decide +kernel
theorem dL_stands_15 : decode cL_stands 15 = .ok (.ldc 18, 2) := by decide +kernel
theorem dL_stands_17 : decode cL_stands 17 = .ok (.ireturn, 1) := by decide +kernel
theorem dL_approvers_0 : decode cL_approvers 0 = .ok (.aload_n 0, 1) := by decide +kernel
theorem dL_approvers_1 : decode cL_approvers 1 = .ok (.iload_n 1, 1) := by decide +kernel
theorem dL_approvers_2 : decode cL_approvers 2 = .ok (.invokevirtual 74, 3) := by decide +kernel
theorem dL_approvers_5 : decode cL_approvers 5 = .ok (.ireturn, 1) := by decide +kernel
theorem dL_approvers_6 : decode cL_approvers 6 = .ok (.astore_n 2, 1) := by decide +kernel
theorem dL_approvers_7 : decode cL_approvers 7 = .ok (.ldc 18, 2) := by decide +kernel
theorem dL_approvers_9 : decode cL_approvers 9 = .ok (.ireturn, 1) := by decide +kernel
theorem dL_breaks_0 : decode cL_breaks 0 = .ok (.aload_n 0, 1) := by decide +kernel
theorem dL_breaks_1 : decode cL_breaks 1 = .ok (.iload_n 1, 1) := by decide +kernel
theorem dL_breaks_2 : decode cL_breaks 2 = .ok (.iload_n 2, 1) := by decide +kernel
theorem dL_breaks_3 : decode cL_breaks 3 = .ok (.iload_n 3, 1) := by decide +kernel
theorem dL_breaks_4 : decode cL_breaks 4 = .ok (.invokevirtual 77, 3) := by decide +kernel
theorem dL_breaks_7 : decode cL_breaks 7 = .ok (.ireturn, 1) := by decide +kernel
theorem dL_breaks_8 : decode cL_breaks 8 = .ok (.astore 4, 2) := by decide +kernel
theorem dL_breaks_10 : decode cL_breaks 10 = .ok (.ldc 18, 2) := by decide +kernel
theorem dL_breaks_12 : decode cL_breaks 12 = .ok (.ireturn, 1) := by decide +kernel
theorem dL_breaks_13 : decode cL_breaks 13 = .ok (.astore 4, 2) := by decide +kernel
theorem dL_breaks_15 : decode cL_breaks 15 = .ok (.ldc 21, 2) := by decide +kernel
theorem dL_breaks_17 : decode cL_breaks 17 = .ok (.ireturn, 1) := by decide +kernel
theorem dL_fall_0 : decode cL_fall 0 = .ok (.iconst 0, 1) := by decide +kernel
theorem dL_fall_1 : decode cL_fall 1 = .ok (.istore 5, 2) := by decide +kernel
theorem dL_fall_3 : decode cL_fall 3 = .ok (.iconst 0, 1) := by decide +kernel
theorem dL_fall_4 : decode cL_fall 4 = .ok (.istore 6, 2) := by decide +kernel
theorem dL_fall_6 : decode cL_fall 6 = .ok (.iload 6, 2) := by decide +kernel
theorem dL_fall_8 : decode cL_fall 8 = .ok (.aload_n 1, 1) := by decide +kernel
theorem dL_fall_9 : decode cL_fall 9 = .ok (.iconst 1, 1) := by decide +kernel
theorem dL_fall_10 : decode cL_fall 10 = .ok (.iaload, 1) := by decide +kernel
theorem dL_fall_11 : decode cL_fall 11 = .ok (.if_icmp .ge 27, 3) := by decide +kernel
theorem dL_fall_14 : decode cL_fall 14 = .ok (.iload 5, 2) := by decide +kernel
theorem dL_fall_16 : decode cL_fall 16 = .ok (.aload_n 2, 1) := by decide +kernel
theorem dL_fall_17 : decode cL_fall 17 = .ok (.iload 6, 2) := by decide +kernel
theorem dL_fall_19 : decode cL_fall 19 = .ok (.iaload, 1) := by decide +kernel
theorem dL_fall_20 : decode cL_fall 20 = .ok (.iload_n 3, 1) := by decide +kernel
theorem dL_fall_21 : decode cL_fall 21 = .ok (.if_icmp .ne 7, 3) := by decide +kernel
theorem dL_fall_24 : decode cL_fall 24 = .ok (.iconst 1, 1) := by decide +kernel
theorem dL_fall_25 : decode cL_fall 25 = .ok (.goto 4, 3) := by decide +kernel
theorem dL_fall_28 : decode cL_fall 28 = .ok (.iconst 0, 1) := by decide +kernel
theorem dL_fall_29 : decode cL_fall 29 = .ok (.iadd, 1) := by decide +kernel
theorem dL_fall_30 : decode cL_fall 30 = .ok (.istore 5, 2) := by decide +kernel
theorem dL_fall_32 : decode cL_fall 32 = .ok (.iinc 6 1, 3) := by decide +kernel
theorem dL_fall_35 : decode cL_fall 35 = .ok (.goto (-29), 3) := by decide +kernel
theorem dL_fall_38 : decode cL_fall 38 = .ok (.iconst 0, 1) := by decide +kernel
theorem dL_fall_39 : decode cL_fall 39 = .ok (.istore 6, 2) := by decide +kernel
theorem dL_fall_41 : decode cL_fall 41 = .ok (.iload 6, 2) := by decide +kernel
theorem dL_fall_43 : decode cL_fall 43 = .ok (.aload_n 1, 1) := by decide +kernel
theorem dL_fall_44 : decode cL_fall 44 = .ok (.iconst 1, 1) := by decide +kernel
theorem dL_fall_45 : decode cL_fall 45 = .ok (.iaload, 1) := by decide +kernel
theorem dL_fall_46 : decode cL_fall 46 = .ok (.if_icmp .ge 35, 3) := by decide +kernel
theorem dL_fall_49 : decode cL_fall 49 = .ok (.iload 4, 2) := by decide +kernel
theorem dL_fall_51 : decode cL_fall 51 = .ok (.ifCond .le 30, 3) := by decide +kernel
theorem dL_fall_54 : decode cL_fall 54 = .ok (.aload_n 2, 1) := by decide +kernel
theorem dL_fall_55 : decode cL_fall 55 = .ok (.iload 6, 2) := by decide +kernel
theorem dL_fall_57 : decode cL_fall 57 = .ok (.aload_n 2, 1) := by decide +kernel
theorem dL_fall_58 : decode cL_fall 58 = .ok (.iload 6, 2) := by decide +kernel
theorem dL_fall_60 : decode cL_fall 60 = .ok (.iaload, 1) := by decide +kernel
theorem dL_fall_61 : decode cL_fall 61 = .ok (.iload_n 3, 1) := by decide +kernel
theorem dL_fall_62 : decode cL_fall 62 = .ok (.if_icmp .ne 8, 3) := by decide +kernel
theorem dL_fall_65 : decode cL_fall 65 = .ok (.bipush 9, 2) := by decide +kernel
theorem dL_fall_67 : decode cL_fall 67 = .ok (.goto 7, 3) := by decide +kernel
theorem dL_fall_70 : decode cL_fall 70 = .ok (.aload_n 2, 1) := by decide +kernel
theorem dL_fall_71 : decode cL_fall 71 = .ok (.iload 6, 2) := by decide +kernel
theorem dL_fall_73 : decode cL_fall 73 = .ok (.iaload, 1) := by decide +kernel
theorem dL_fall_74 : decode cL_fall 74 = .ok (.iastore, 1) := by decide +kernel
theorem dL_fall_75 : decode cL_fall 75 = .ok (.iinc 6 1, 3) := by decide +kernel
theorem dL_fall_78 : decode cL_fall 78 = .ok (.goto (-37), 3) := by decide +kernel
theorem dL_fall_81 : decode cL_fall 81 = .ok (.iload 4, 2) := by decide +kernel
theorem dL_fall_83 : decode cL_fall 83 = .ok (.ifCond .eq 10, 3) := by decide +kernel
theorem dL_fall_86 : decode cL_fall 86 = .ok (.iload 4, 2) := by decide +kernel
theorem dL_fall_88 : decode cL_fall 88 = .ok (.iload 5, 2) := by decide +kernel
theorem dL_fall_90 : decode cL_fall 90 = .ok (.if_icmp .ne 7, 3) := by decide +kernel
theorem dL_fall_93 : decode cL_fall 93 = .ok (.iconst 1, 1) := by decide +kernel
theorem dL_fall_94 : decode cL_fall 94 = .ok (.goto 4, 3) := by decide +kernel
theorem dL_fall_97 : decode cL_fall 97 = .ok (.iconst 0, 1) := by decide +kernel
theorem dL_fall_98 : decode cL_fall 98 = .ok (.ireturn, 1) := by decide +kernel
