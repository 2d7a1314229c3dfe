set_option maxRecDepth 20000 in
theorem ggX4_init_X3_init : GoodIn wsX4_init wsX3_init := goodIn_r _ [20, 21, 2, 3, 22, 23, 24, 37, 38] (by decide +kernel) (by decide +kernel)
set_option maxRecDepth 20000 in
theorem gX4_init_X3_init_n25 : GoodIn wsX4_init (wsX3_init) := ggX4_init_X3_init
set_option maxRecDepth 20000 in
theorem ggX4_init_X2_init : GoodIn wsX4_init wsX2_init := goodIn_r _ [26, 27, 2, 3, 22, 28, 29, 39, 40] (by decide +kernel) (by decide +kernel)
set_option maxRecDepth 20000 in
theorem gX4_init_X2_init_n32 : GoodIn wsX4_init (wsX2_init) := ggX4_init_X2_init
theorem dX4_init_0 : decode cX4_init 0 = .ok (.aload_n 0, 1) := by decide +kernel
theorem dX4_init_1 : decode cX4_init 1 = .ok (.invokespecial 1, 3) := by decide +kernel
theorem dX4_init_4 : decode cX4_init 4 = .ok (.aload_n 0, 1) := by decide +kernel
theorem dX4_init_5 : decode cX4_init 5 = .ok (.bipush 24, 2) := by decide +kernel
theorem dX4_init_7 : decode cX4_init 7 = .ok (.anewarray 9, 3) := by decide +kernel
theorem dX4_init_10 : decode cX4_init 10 = .ok (.putfield 11, 3) := by decide +kernel
theorem dX4_init_13 : decode cX4_init 13 = .ok (.aload_n 0, 1) := by decide +kernel
theorem dX4_init_14 : decode cX4_init 14 = .ok (.iconst 0, 1) := by decide +kernel
theorem dX4_init_15 : decode cX4_init 15 = .ok (.putfield 15, 3) := by decide +kernel
theorem dX4_init_18 : decode cX4_init 18 = .ok (.aload_n 0, 1) := by decide +kernel
theorem dX4_init_19 : decode cX4_init 19 = .ok (.iconst 5, 1) := by decide +kernel
theorem dX4_init_20 : decode cX4_init 20 = .ok (.anewarray 19, 3) := by decide +kernel
theorem dX4_init_23 : decode cX4_init 23 = .ok (.putfield 21, 3) := by decide +kernel
theorem dX4_init_26 : decode cX4_init 26 = .ok (.aload_n 0, 1) := by decide +kernel
theorem dX4_init_27 : decode cX4_init 27 = .ok (.new 19, 3) := by decide +kernel
theorem dX4_init_30 : decode cX4_init 30 = .ok (.dup, 1) := by decide +kernel
theorem dX4_init_31 : decode cX4_init 31 = .ok (.invokespecial 25, 3) := by decide +kernel
theorem dX4_init_34 : decode cX4_init 34 = .ok (.putfield 26, 3) := by decide +kernel
theorem dX4_init_37 : decode cX4_init 37 = .ok (.aload_n 0, 1) := by decide +kernel
theorem dX4_init_38 : decode cX4_init 38 = .ok (.new 30, 3) := by decide +kernel
theorem dX4_init_41 : decode cX4_init 41 = .ok (.dup, 1) := by decide +kernel
theorem dX4_init_42 : decode cX4_init 42 = .ok (.invokespecial 32, 3) := by decide +kernel
theorem dX4_init_45 : decode cX4_init 45 = .ok (.putfield 33, 3) := by decide +kernel
theorem dX4_init_48 : decode cX4_init 48 = .ok (.aload_n 0, 1) := by decide +kernel
theorem dX4_init_49 : decode cX4_init 49 = .ok (.bipush 20, 2) := by decide +kernel
theorem dX4_init_51 : decode cX4_init 51 = .ok (.anewarray 37, 3) := by decide +kernel
theorem dX4_init_54 : decode cX4_init 54 = .ok (.putfield 39, 3) := by decide +kernel
theorem dX4_init_57 : decode cX4_init 57 = .ok (.aload_n 0, 1) := by decide +kernel
theorem dX4_init_58 : decode cX4_init 58 = .ok (.iconst 0, 1) := by decide +kernel
theorem dX4_init_59 : decode cX4_init 59 = .ok (.putfield 43, 3) := by decide +kernel
theorem dX4_init_62 : decode cX4_init 62 = .ok (.iconst 0, 1) := by decide +kernel
theorem dX4_init_63 : decode cX4_init 63 = .ok (.istore_n 1, 1) := by decide +kernel
theorem dX4_init_64 : decode cX4_init 64 = .ok (.iload_n 1, 1) := by decide +kernel
theorem dX4_init_65 : decode cX4_init 65 = .ok (.aload_n 0, 1) := by decide +kernel
theorem dX4_init_66 : decode cX4_init 66 = .ok (.getfield 21, 3) := by decide +kernel
theorem dX4_init_69 : decode cX4_init 69 = .ok (.arraylength, 1) := by decide +kernel
theorem dX4_init_70 : decode cX4_init 70 = .ok (.if_icmp .ge 22, 3) := by decide +kernel
theorem dX4_init_73 : decode cX4_init 73 = .ok (.aload_n 0, 1) := by decide +kernel
theorem dX4_init_74 : decode cX4_init 74 = .ok (.getfield 21, 3) := by decide +kernel
theorem dX4_init_77 : decode cX4_init 77 = .ok (.iload_n 1, 1) := by decide +kernel
theorem dX4_init_78 : decode cX4_init 78 = .ok (.new 19, 3) := by decide +kernel
theorem dX4_init_81 : decode cX4_init 81 = .ok (.dup, 1) := by decide +kernel
theorem dX4_init_82 : decode cX4_init 82 = .ok (.invokespecial 25, 3) := by decide +kernel
theorem dX4_init_85 : decode cX4_init 85 = .ok (.aastore, 1) := by decide +kernel
theorem dX4_init_86 : decode cX4_init 86 = .ok (.iinc 1 1, 3) := by decide +kernel
theorem dX4_init_89 : decode cX4_init 89 = .ok (.goto (-25), 3) := by decide +kernel
theorem dX4_init_92 : decode cX4_init 92 = .ok (.return_, 1) := by decide +kernel
set_option maxRecDepth 20000 in
theorem ggX4_box_X4_readingOf : GoodIn wsX4_box wsX4_readingOf := goodIn_ca (goodIn_r _ [14, 15, 16, 17, 141, 142, 143, 144, 145, 146, 147] (by decide +kernel) (by decide +kernel)) (goodIn_sub (fun _ h => List.mem_cons_of_mem _ (List.mem_append_right _ h)) (by decide +kernel))
set_option maxRecDepth 20000 in
theorem gX4_box_X4_readingOf : GoodIn wsX4_box (wsV RX4 46 RX4 yX4_readingOf wsX4_readingOf) := goodIn_app (goodIn_of _ (by decide +kernel)) ggX4_box_X4_readingOf
set_option maxRecDepth 20000 in
theorem ggX4_box_X4_checkWithinPage : GoodIn wsX4_box wsX4_checkWithinPage := goodIn_ca (goodIn_r _ [20, 1, 2] (by decide +kernel) (by decide +kernel)) (goodIn_sub (fun _ h => List.mem_cons_of_mem _ (List.mem_append_left _ (List.mem_append_left _ (List.mem_append_right _ h)))) (by decide +kernel))
set_option maxRecDepth 20000 in
theorem gX4_box_X4_checkWithinPage : GoodIn wsX4_box (va_wsS RX4 57 yX4_checkWithinPage wsX4_checkWithinPage) := goodIn_app (goodIn_of _ (by decide +kernel)) ggX4_box_X4_checkWithinPage
set_option maxRecDepth 20000 in
theorem ggX4_box_X1_init : GoodIn wsX4_box wsX1_init := goodIn_r _ [23, 24, 25, 26, 27, 28, 29, 30, 31, 32, 33, 34, 35, 36, 148, 149, 150, 151, 152, 153, 154, 155, 156, 157] (by decide +kernel) (by decide +kernel)
set_option maxRecDepth 20000 in
theorem gX4_box_X1_init : GoodIn wsX4_box (wsX1_init) := ggX4_box_X1_init
set_option maxRecDepth 20000 in
theorem ggX4_box_X4_readAgain : GoodIn wsX4_box wsX4_readAgain := goodIn_ca (goodIn_r _ [40, 41, 10, 11, 12, 13, 14, 15, 16, 17, 42, 43, 44, 45, 46, 47, 48, 49, 50, 5, 51, 52, 53, 54, 55, 56, 57, 6, 58, 59, 60, 61, 62, 63, 64, 65, 66, 67, 68, 69, 70, 71, 72, 73, 74, 75, 76, 77, 78, 79, 80, 9, 81, 33, 35, 32, 34, 82, 83, 84, 85, 86, 87, 88, 89, 90, 91, 92, 93, 94, 95, 96, 97, 98, 99, 100, 101, 102, 103, 30, 104, 105, 106, 107, 108, 109, 110, 111, 112, 113, 114, 115, 116, 117, 118, 119, 120, 121, 122, 123, 124, 125, 126, 127, 128, 129, 130, 131, 132, 133, 134, 135, 136, 137, 138, 139, 140, 141, 142, 143, 144, 145, 146, 147, 158, 159, 148, 149, 150, 151, 152, 153, 154, 155, 156, 157, 160, 161, 162] (by decide +kernel) (by decide +kernel)) (goodIn_sub (fun _ h => List.mem_cons_of_mem _ (List.mem_append_right _ h)) (by decide +kernel))
set_option maxRecDepth 20000 in
theorem gX4_box_X4_readAgain : GoodIn wsX4_box (wsV RX4 69 RX4 yX4_readAgain wsX4_readAgain) := goodIn_app (goodIn_of _ (by decide +kernel)) ggX4_box_X4_readAgain
theorem dX4_box_0 : decode cX4_box 0 = .ok (.aload_n 0, 1) := by decide +kernel
theorem dX4_box_1 : decode cX4_box 1 = .ok (.iload_n 1, 1) := by decide +kernel
theorem dX4_box_2 : decode cX4_box 2 = .ok (.invokevirtual 46, 3) := by decide +kernel
theorem dX4_box_5 : decode cX4_box 5 = .ok (.pop, 1) := by decide +kernel
theorem dX4_box_6 : decode cX4_box 6 = .ok (.iload 6, 2) := by decide +kernel
theorem dX4_box_8 : decode cX4_box 8 = .ok (.ifCond .lt 10, 3) := by decide +kernel
theorem dX4_box_11 : decode cX4_box 11 = .ok (.iload 6, 2) := by decide +kernel
theorem dX4_box_13 : decode cX4_box 13 = .ok (.bipush 6, 2) := by decide +kernel
theorem dX4_box_15 : decode cX4_box 15 = .ok (.if_icmp .le 13, 3) := by decide +kernel
theorem dX4_box_18 : decode cX4_box 18 = .ok (.new 50, 3) := by decide +kernel
theorem dX4_box_21 : decode cX4_box 21 = .ok (.dup, 1) := by decide +kernel
theorem dX4_box_22 : decode cX4_box 22 = .ok (.ldc 52, 2) := by decide +kernel
theorem dX4_box_24 : decode cX4_box 24 = .ok (.invokespecial 54, 3) := by decide +kernel
theorem dX4_box_27 : decode cX4_box 27 = .ok (.athrow, 1) := by decide +kernel
theorem dX4_box_28 : decode cX4_box 28 = .ok (.iload_n 2, 1) := by decide +kernel
theorem dX4_box_29 : decode cX4_box 29 = .ok (.iload_n 3, 1) := by decide +kernel
theorem dX4_box_30 : decode cX4_box 30 = .ok (.iload 4, 2) := by decide +kernel
theorem dX4_box_32 : decode cX4_box 32 = .ok (.iload 5, 2) := by decide +kernel
theorem dX4_box_34 : decode cX4_box 34 = .ok (.invokestatic 57, 3) := by decide +kernel
theorem dX4_box_37 : decode cX4_box 37 = .ok (.aload_n 0, 1) := by decide +kernel
theorem dX4_box_38 : decode cX4_box 38 = .ok (.getfield 15, 3) := by decide +kernel
theorem dX4_box_41 : decode cX4_box 41 = .ok (.istore 7, 2) := by decide +kernel
theorem dX4_box_43 : decode cX4_box 43 = .ok (.iload 7, 2) := by decide +kernel
theorem dX4_box_45 : decode cX4_box 45 = .ok (.ifCond .lt 13, 3) := by decide +kernel
theorem dX4_box_48 : decode cX4_box 48 = .ok (.iload 7, 2) := by decide +kernel
theorem dX4_box_50 : decode cX4_box 50 = .ok (.aload_n 0, 1) := by decide +kernel
theorem dX4_box_51 : decode cX4_box 51 = .ok (.getfield 11, 3) := by decide +kernel
theorem dX4_box_54 : decode cX4_box 54 = .ok (.arraylength, 1) := by decide +kernel
theorem dX4_box_55 : decode cX4_box 55 = .ok (.if_icmp .lt 13, 3) := by decide +kernel
theorem dX4_box_58 : decode cX4_box 58 = .ok (.new 61, 3) := by decide +kernel
theorem dX4_box_61 : decode cX4_box 61 = .ok (.dup, 1) := by decide +kernel
theorem dX4_box_62 : decode cX4_box 62 = .ok (.ldc 63, 2) := by decide +kernel
theorem dX4_box_64 : decode cX4_box 64 = .ok (.invokespecial 65, 3) := by decide +kernel
theorem dX4_box_67 : decode cX4_box 67 = .ok (.athrow, 1) := by decide +kernel
theorem dX4_box_68 : decode cX4_box 68 = .ok (.aload_n 0, 1) := by decide +kernel
theorem dX4_box_69 : decode cX4_box 69 = .ok (.getfield 11, 3) := by decide +kernel
theorem dX4_box_72 : decode cX4_box 72 = .ok (.iload 7, 2) := by decide +kernel
theorem dX4_box_74 : decode cX4_box 74 = .ok (.new 9, 3) := by decide +kernel
theorem dX4_box_77 : decode cX4_box 77 = .ok (.dup, 1) := by decide +kernel
theorem dX4_box_78 : decode cX4_box 78 = .ok (.iload 7, 2) := by decide +kernel
theorem dX4_box_80 : decode cX4_box 80 = .ok (.iload_n 1, 1) := by decide +kernel
theorem dX4_box_81 : decode cX4_box 81 = .ok (.iload_n 2, 1) := by decide +kernel
theorem dX4_box_82 : decode cX4_box 82 = .ok (.iload_n 3, 1) := by decide +kernel
theorem dX4_box_83 : decode cX4_box 83 = .ok (.iload 4, 2) := by decide +kernel
theorem dX4_box_85 : decode cX4_box 85 = .ok (.iload 5, 2) := by decide +kernel
theorem dX4_box_87 : decode cX4_box 87 = .ok (.iload 6, 2) := by decide +kernel
theorem dX4_box_89 : decode cX4_box 89 = .ok (.invokespecial 66, 3) := by decide +kernel
theorem dX4_box_92 : decode cX4_box 92 = .ok (.aastore, 1) := by decide +kernel
theorem dX4_box_93 : decode cX4_box 93 = .ok (.aload_n 0, 1) := by decide +kernel
theorem dX4_box_94 : decode cX4_box 94 = .ok (.iload 7, 2) := by decide +kernel
theorem dX4_box_96 : decode cX4_box 96 = .ok (.iconst 1, 1) := by decide +kernel
theorem dX4_box_97 : decode cX4_box 97 = .ok (.iadd, 1) := by decide +kernel
theorem dX4_box_98 : decode cX4_box 98 = .ok (.putfield 15, 3) := by decide +kernel
theorem dX4_box_101 : decode cX4_box 101 = .ok (.aload_n 0, 1) := by decide +kernel
theorem dX4_box_102 : decode cX4_box 102 = .ok (.iload_n 1, 1) := by decide +kernel
theorem dX4_box_103 : decode cX4_box 103 = .ok (.invokevirtual 69, 3) := by decide +kernel
theorem dX4_box_106 : decode cX4_box 106 = .ok (.pop, 1) := by decide +kernel
theorem dX4_box_107 : decode cX4_box 107 = .ok (.iload 7, 2) := by decide +kernel
theorem dX4_box_109 : decode cX4_box 109 = .ok (.ireturn, 1) := by decide +kernel
set_option maxRecDepth 20000 in
theorem ggX4_move_X4_presentBox : GoodIn wsX4_move wsX4_presentBox := goodIn_ca (goodIn_r _ [10, 11, 12, 13, 14, 15, 16, 9, 17, 18, 134, 135, 136, 137, 138, 139, 140, 141, 142, 143, 144, 145, 146, 147, 148, 149, 150] (by decide +kernel) (by decide +kernel)) (goodIn_sub (fun _ h => List.mem_cons_of_mem _ (List.mem_append_left _ (List.mem_append_right _ h))) (by decide +kernel))
set_option maxRecDepth 20000 in
theorem gX4_move_X4_presentBox : GoodIn wsX4_move (wsV RX4 73 RX4 yX4_presentBox wsX4_presentBox) := goodIn_app (goodIn_of _ (by decide +kernel)) ggX4_move_X4_presentBox
set_option maxRecDepth 20000 in
theorem ggX4_move_X4_checkWithinPage : GoodIn wsX4_move wsX4_checkWithinPage := goodIn_ca (goodIn_r _ [21, 22, 23] (by decide +kernel) (by decide +kernel)) (goodIn_sub (fun _ h => List.mem_cons_of_mem _ (List.mem_append_right _ h)) (by decide +kernel))
set_option maxRecDepth 20000 in
theorem gX4_move_X4_checkWithinPage : GoodIn wsX4_move (va_wsS RX4 57 yX4_checkWithinPage wsX4_checkWithinPage) := goodIn_app (goodIn_of _ (by decide +kernel)) ggX4_move_X4_checkWithinPage
set_option maxRecDepth 20000 in
theorem ggX4_move_X4_readAgain : GoodIn wsX4_move wsX4_readAgain := goodIn_ca (goodIn_r _ [27, 28, 29, 30, 31, 9, 32, 11, 12, 33, 34, 35, 36, 37, 38, 39, 40, 41, 42, 43, 13, 5, 44, 14, 15, 16, 17, 18, 45, 46, 47, 48, 49, 50, 51, 52, 53, 54, 55, 56, 57, 58, 59, 60, 61, 62, 63, 64, 65, 66, 67, 68, 69, 70, 71, 72, 73, 74, 75, 76, 77, 78, 79, 80, 81, 82, 83, 84, 85, 86, 87, 88, 89, 90, 91, 92, 93, 94, 95, 96, 97, 98, 99, 100, 101, 102, 103, 104, 105, 106, 107, 108, 109, 110, 111, 112, 113, 114, 115, 116, 117, 118, 119, 120, 121, 122, 123, 124, 125, 126, 127, 128, 129, 130, 131, 132, 133, 144, 145, 146, 147, 148, 149, 150, 151, 152, 134, 135, 136, 137, 138, 139, 140, 141, 142, 143, 153, 154, 155] (by decide +kernel) (by decide +kernel)) (goodIn_sub (fun _ h => List.mem_cons_of_mem _ (List.mem_append_left _ (List.mem_append_right _ h))) (by decide +kernel))
set_option maxRecDepth 20000 in
theorem gX4_move_X4_readAgain : GoodIn wsX4_move (wsV RX4 69 RX4 yX4_readAgain wsX4_readAgain) := goodIn_app (goodIn_of _ (by decide +kernel)) ggX4_move_X4_readAgain
theorem dX4_move_0 : decode cX4_move 0 = .ok (.aload_n 0, 1) := by decide +kernel
theorem dX4_move_1 : decode cX4_move 1 = .ok (.iload_n 1, 1) := by decide +kernel
theorem dX4_move_2 : decode cX4_move 2 = .ok (.invokevirtual 73, 3) := by decide +kernel
theorem dX4_move_5 : decode cX4_move 5 = .ok (.astore 4, 2) := by decide +kernel
theorem dX4_move_7 : decode cX4_move 7 = .ok (.iload_n 2, 1) := by decide +kernel
theorem dX4_move_8 : decode cX4_move 8 = .ok (.iload_n 3, 1) := by decide +kernel
theorem dX4_move_9 : decode cX4_move 9 = .ok (.aload 4, 2) := by decide +kernel
theorem dX4_move_11 : decode cX4_move 11 = .ok (.getfield 77, 3) := by decide +kernel
theorem dX4_move_14 : decode cX4_move 14 = .ok (.aload 4, 2) := by decide +kernel
theorem dX4_move_16 : decode cX4_move 16 = .ok (.getfield 80, 3) := by decide +kernel
theorem dX4_move_19 : decode cX4_move 19 = .ok (.invokestatic 57, 3) := by decide +kernel
theorem dX4_move_22 : decode cX4_move 22 = .ok (.aload 4, 2) := by decide +kernel
theorem dX4_move_24 : decode cX4_move 24 = .ok (.iload_n 2, 1) := by decide +kernel
theorem dX4_move_25 : decode cX4_move 25 = .ok (.putfield 83, 3) := by decide +kernel
theorem dX4_move_28 : decode cX4_move 28 = .ok (.aload 4, 2) := by decide +kernel
theorem dX4_move_30 : decode cX4_move 30 = .ok (.iload_n 3, 1) := by decide +kernel
theorem dX4_move_31 : decode cX4_move 31 = .ok (.putfield 86, 3) := by decide +kernel
theorem dX4_move_34 : decode cX4_move 34 = .ok (.aload_n 0, 1) := by decide +kernel
theorem dX4_move_35 : decode cX4_move 35 = .ok (.aload 4, 2) := by decide +kernel
theorem dX4_move_37 : decode cX4_move 37 = .ok (.getfield 89, 3) := by decide +kernel
theorem dX4_move_40 : decode cX4_move 40 = .ok (.invokevirtual 69, 3) := by decide +kernel
theorem dX4_move_43 : decode cX4_move 43 = .ok (.ireturn, 1) := by decide +kernel
set_option maxRecDepth 20000 in
theorem ggX4_resize_X4_presentBox : GoodIn wsX4_resize wsX4_presentBox := goodIn_ca (goodIn_r _ [10, 11, 12, 13, 14, 15, 16, 9, 17, 18, 134, 135, 136, 137, 138, 139, 140, 141, 142, 143, 144, 145, 146, 147, 148, 149, 150] (by decide +kernel) (by decide +kernel)) (goodIn_sub (fun _ h => List.mem_cons_of_mem _ (List.mem_append_left _ (List.mem_append_right _ h))) (by decide +kernel))
set_option maxRecDepth 20000 in
theorem gX4_resize_X4_presentBox : GoodIn wsX4_resize (wsV RX4 73 RX4 yX4_presentBox wsX4_presentBox) := goodIn_app (goodIn_of _ (by decide +kernel)) ggX4_resize_X4_presentBox
set_option maxRecDepth 20000 in
theorem ggX4_resize_X4_checkWithinPage : GoodIn wsX4_resize wsX4_checkWithinPage := goodIn_ca (goodIn_r _ [21, 22, 23] (by decide +kernel) (by decide +kernel)) (goodIn_sub (fun _ h => List.mem_cons_of_mem _ (List.mem_append_right _ h)) (by decide +kernel))
set_option maxRecDepth 20000 in
theorem gX4_resize_X4_checkWithinPage : GoodIn wsX4_resize (va_wsS RX4 57 yX4_checkWithinPage wsX4_checkWithinPage) := goodIn_app (goodIn_of _ (by decide +kernel)) ggX4_resize_X4_checkWithinPage
set_option maxRecDepth 20000 in
theorem ggX4_resize_X4_readAgain : GoodIn wsX4_resize wsX4_readAgain := goodIn_ca (goodIn_r _ [27, 28, 29, 30, 31, 9, 32, 11, 12, 33, 34, 35, 36, 37, 38, 39, 40, 41, 42, 43, 13, 5, 44, 14, 15, 16, 17, 18, 45, 46, 47, 48, 49, 50, 51, 52, 53, 54, 55, 56, 57, 58, 59, 60, 61, 62, 63, 64, 65, 66, 67, 68, 69, 70, 71, 72, 73, 74, 75, 76, 77, 78, 79, 80, 81, 82, 83, 84, 85, 86, 87, 88, 89, 90, 91, 92, 93, 94, 95, 96, 97, 98, 99, 100, 101, 102, 103, 104, 105, 106, 107, 108, 109, 110, 111, 112, 113, 114, 115, 116, 117, 118, 119, 120, 121, 122, 123, 124, 125, 126, 127, 128, 129, 130, 131, 132, 133, 144, 145, 146, 147, 148, 149, 150, 151, 152, 134, 135, 136, 137, 138, 139, 140, 141, 142, 143, 153, 154, 155] (by decide +kernel) (by decide +kernel)) (goodIn_sub (fun _ h => List.mem_cons_of_mem _ (List.mem_append_left _ (List.mem_append_right _ h))) (by decide +kernel))
set_option maxRecDepth 20000 in
theorem gX4_resize_X4_readAgain : GoodIn wsX4_resize (wsV RX4 69 RX4 yX4_readAgain wsX4_readAgain) := goodIn_app (goodIn_of _ (by decide +kernel)) ggX4_resize_X4_readAgain
theorem dX4_resize_0 : decode cX4_resize 0 = .ok (.aload_n 0, 1) := by decide +kernel
theorem dX4_resize_1 : decode cX4_resize 1 = .ok (.iload_n 1, 1) := by decide +kernel
theorem dX4_resize_2 : decode cX4_resize 2 = .ok (.invokevirtual 73, 3) := by decide +kernel
theorem dX4_resize_5 : decode cX4_resize 5 = .ok (.astore 4, 2) := by decide +kernel
theorem dX4_resize_7 : decode cX4_resize 7 = .ok (.aload 4, 2) := by decide +kernel
theorem dX4_resize_9 : decode cX4_resize 9 = .ok (.getfield 83, 3) := by decide +kernel
theorem dX4_resize_12 : decode cX4_resize 12 = .ok (.aload 4, 2) := by decide +kernel
theorem dX4_resize_14 : decode cX4_resize 14 = .ok (.getfield 86, 3) := by decide +kernel
theorem dX4_resize_17 : decode cX4_resize 17 = .ok (.iload_n 2, 1) := by decide +kernel
theorem dX4_resize_18 : decode cX4_resize 18 = .ok (.iload_n 3, 1) := by decide +kernel
theorem dX4_resize_19 : decode cX4_resize 19 = .ok (.invokestatic 57, 3) := by decide +kernel
theorem dX4_resize_22 : decode cX4_resize 22 = .ok (.aload 4, 2) := by decide +kernel
theorem dX4_resize_24 : decode cX4_resize 24 = .ok (.iload_n 2, 1) := by decide +kernel
theorem dX4_resize_25 : decode cX4_resize 25 = .ok (.putfield 77, 3) := by decide +kernel
theorem dX4_resize_28 : decode cX4_resize 28 = .ok (.aload 4, 2) := by decide +kernel
theorem dX4_resize_30 : decode cX4_resize 30 = .ok (.iload_n 3, 1) := by decide +kernel
theorem dX4_resize_31 : decode cX4_resize 31 = .ok (.putfield 80, 3) := by decide +kernel
theorem dX4_resize_34 : decode cX4_resize 34 = .ok (.aload_n 0, 1) := by decide +kernel
theorem dX4_resize_35 : decode cX4_resize 35 = .ok (.aload 4, 2) := by decide +kernel
theorem dX4_resize_37 : decode cX4_resize 37 = .ok (.getfield 89, 3) := by decide +kernel
theorem dX4_resize_40 : decode cX4_resize 40 = .ok (.invokevirtual 69, 3) := by decide +kernel
theorem dX4_resize_43 : decode cX4_resize 43 = .ok (.ireturn, 1) := by decide +kernel
set_option maxRecDepth 20000 in
theorem ggX4_remove_X4_presentBox : GoodIn wsX4_remove wsX4_presentBox := goodIn_ca (goodIn_r _ [7, 8, 9, 1, 10, 11, 12, 6, 13, 14, 135, 136, 137, 138, 139, 140, 141, 142, 143, 144, 145, 146, 147, 148, 149, 150, 151] (by decide +kernel) (by decide +kernel)) (goodIn_sub (fun _ h => List.mem_cons_of_mem _ (List.mem_append_right _ h)) (by decide +kernel))
set_option maxRecDepth 20000 in
theorem gX4_remove_X4_presentBox : GoodIn wsX4_remove (wsV RX4 73 RX4 yX4_presentBox wsX4_presentBox) := goodIn_app (goodIn_of _ (by decide +kernel)) ggX4_remove_X4_presentBox
set_option maxRecDepth 20000 in
theorem ggX4_remove_X1_loosenFromLeader : GoodIn wsX4_remove wsX1_loosenFromLeader := goodIn_r _ [19, 20, 21, 135, 136, 137, 138, 139, 140, 141, 142, 143, 144] (by decide +kernel) (by decide +kernel)
set_option maxRecDepth 20000 in
theorem gX4_remove_X1_loosenFromLeader : GoodIn wsX4_remove (wsV RX4 92 RX1 yX1_loosenFromLeader wsX1_loosenFromLeader) := goodIn_app (goodIn_of _ (by decide +kernel)) ggX4_remove_X1_loosenFromLeader
set_option maxRecDepth 20000 in
theorem ggX4_remove_X1_loosenFromFollower : GoodIn wsX4_remove wsX1_loosenFromFollower := goodIn_r _ [25, 21, 20, 135, 136, 137, 138, 139, 140, 141, 142, 143, 144] (by decide +kernel) (by decide +kernel)
set_option maxRecDepth 20000 in
theorem gX4_remove_X1_loosenFromFollower : GoodIn wsX4_remove (wsV RX4 95 RX1 yX1_loosenFromFollower wsX1_loosenFromFollower) := goodIn_app (goodIn_of _ (by decide +kernel)) ggX4_remove_X1_loosenFromFollower
set_option maxRecDepth 20000 in
theorem ggX4_remove_X4_readAgain : GoodIn wsX4_remove wsX4_readAgain := goodIn_ca (goodIn_r _ [29, 30, 31, 32, 33, 6, 34, 8, 9, 35, 36, 37, 38, 39, 40, 41, 42, 43, 44, 45, 1, 2, 46, 10, 11, 12, 13, 14, 47, 48, 49, 50, 51, 52, 53, 54, 55, 56, 57, 58, 59, 60, 61, 62, 63, 64, 65, 66, 67, 68, 69, 18, 70, 71, 72, 73, 74, 75, 76, 77, 78, 79, 80, 81, 82, 83, 84, 85, 86, 87, 88, 89, 90, 91, 92, 93, 94, 95, 96, 97, 98, 99, 100, 101, 102, 103, 104, 105, 106, 107, 108, 109, 110, 111, 112, 113, 114, 115, 116, 117, 118, 119, 120, 121, 122, 123, 124, 125, 126, 127, 128, 129, 130, 131, 132, 133, 134, 145, 146, 147, 148, 149, 150, 151, 152, 153, 135, 136, 137, 138, 139, 140, 141, 142, 143, 144, 154, 155, 156] (by decide +kernel) (by decide +kernel)) (goodIn_sub (fun _ h => List.mem_cons_of_mem _ (List.mem_append_right _ h)) (by decide +kernel))
set_option maxRecDepth 20000 in
theorem gX4_remove_X4_readAgain : GoodIn wsX4_remove (wsV RX4 69 RX4 yX4_readAgain wsX4_readAgain) := goodIn_app (goodIn_of _ (by decide +kernel)) ggX4_remove_X4_readAgain
theorem dX4_remove_0 : decode cX4_remove 0 = .ok (.aload_n 0, 1) := by decide +kernel
theorem dX4_remove_1 : decode cX4_remove 1 = .ok (.iload_n 1, 1) := by decide +kernel
theorem dX4_remove_2 : decode cX4_remove 2 = .ok (.invokevirtual 73, 3) := by decide +kernel
theorem dX4_remove_5 : decode cX4_remove 5 = .ok (.astore_n 2, 1) := by decide +kernel
theorem dX4_remove_6 : decode cX4_remove 6 = .ok (.aload_n 2, 1) := by decide +kernel
theorem dX4_remove_7 : decode cX4_remove 7 = .ok (.invokevirtual 92, 3) := by decide +kernel
theorem dX4_remove_10 : decode cX4_remove 10 = .ok (.aload_n 2, 1) := by decide +kernel
theorem dX4_remove_11 : decode cX4_remove 11 = .ok (.invokevirtual 95, 3) := by decide +kernel
theorem dX4_remove_14 : decode cX4_remove 14 = .ok (.aload_n 2, 1) := by decide +kernel
theorem dX4_remove_15 : decode cX4_remove 15 = .ok (.iconst 1, 1) := by decide +kernel
theorem dX4_remove_16 : decode cX4_remove 16 = .ok (.putfield 98, 3) := by decide +kernel
theorem dX4_remove_19 : decode cX4_remove 19 = .ok (.aload_n 0, 1) := by decide +kernel
theorem dX4_remove_20 : decode cX4_remove 20 = .ok (.aload_n 2, 1) := by decide +kernel
theorem dX4_remove_21 : decode cX4_remove 21 = .ok (.getfield 89, 3) := by decide +kernel
theorem dX4_remove_24 : decode cX4_remove 24 = .ok (.invokevirtual 69, 3) := by decide +kernel
theorem dX4_remove_27 : decode cX4_remove 27 = .ok (.ireturn, 1) := by decide +kernel
set_option maxRecDepth 20000 in
theorem ggX4_tie_X4_presentBox : GoodIn wsX4_tie wsX4_presentBox := goodIn_ca (goodIn_r _ [12, 13, 14, 15, 16, 17, 18, 11, 19, 20, 134, 135, 136, 137, 138, 139, 140, 141, 142, 143, 144, 145, 146, 147, 148, 149, 150] (by decide +kernel) (by decide +kernel)) (goodIn_sub (fun _ h => List.mem_cons_of_mem _ (List.mem_append_right _ h)) (by decide +kernel))
set_option maxRecDepth 20000 in
theorem gX4_tie_X4_presentBox : GoodIn wsX4_tie (wsV RX4 73 RX4 yX4_presentBox wsX4_presentBox) := goodIn_app (goodIn_of _ (by decide +kernel)) ggX4_tie_X4_presentBox
set_option maxRecDepth 20000 in
theorem ggX4_tie_X1_comesBehind : GoodIn wsX4_tie wsX1_comesBehind := goodIn_r _ [25, 26, 134, 135, 136, 137, 138, 139, 140, 141, 142, 143] (by decide +kernel) (by decide +kernel)
set_option maxRecDepth 20000 in
theorem gX4_tie_X1_comesBehind : GoodIn wsX4_tie (wsV RX4 111 RX1 yX1_comesBehind wsX1_comesBehind) := goodIn_app (goodIn_of _ (by decide +kernel)) ggX4_tie_X1_comesBehind
set_option maxRecDepth 20000 in
theorem ggX4_tie_X4_readAgain : GoodIn wsX4_tie wsX4_readAgain := goodIn_ca (goodIn_r _ [30, 31, 32, 33, 34, 11, 35, 13, 14, 36, 37, 38, 39, 40, 41, 42, 43, 44, 45, 46, 15, 5, 7, 16, 17, 18, 19, 20, 47, 48, 49, 50, 51, 52, 53, 54, 55, 56, 57, 58, 59, 60, 61, 62, 63, 64, 65, 66, 67, 68, 69, 24, 70, 71, 72, 73, 74, 75, 76, 77, 78, 79, 80, 81, 82, 83, 84, 85, 86, 87, 6, 88, 89, 90, 91, 92, 93, 94, 95, 96, 97, 98, 99, 100, 101, 102, 103, 104, 105, 106, 107, 108, 109, 110, 111, 112, 113, 114, 115, 116, 117, 118, 119, 120, 121, 122, 123, 124, 125, 126, 127, 128, 129, 130, 131, 132, 133, 144, 145, 146, 147, 148, 149, 150, 151, 152, 134, 135, 136, 137, 138, 139, 140, 141, 142, 143, 153, 154, 155] (by decide +kernel) (by decide +kernel)) (goodIn_sub (fun _ h => List.mem_cons_of_mem _ (List.mem_append_right _ h)) (by decide +kernel))
set_option maxRecDepth 20000 in
theorem gX4_tie_X4_readAgain : GoodIn wsX4_tie (wsV RX4 69 RX4 yX4_readAgain wsX4_readAgain) := goodIn_app (goodIn_of _ (by decide +kernel)) ggX4_tie_X4_readAgain
theorem dX4_tie_0 : decode cX4_tie 0 = .ok (.aload_n 0, 1) := by decide +kernel
theorem dX4_tie_1 : decode cX4_tie 1 = .ok (.iload_n 1, 1) := by decide +kernel
theorem dX4_tie_2 : decode cX4_tie 2 = .ok (.invokevirtual 73, 3) := by decide +kernel
theorem dX4_tie_5 : decode cX4_tie 5 = .ok (.astore_n 3, 1) := by decide +kernel
theorem dX4_tie_6 : decode cX4_tie 6 = .ok (.aload_n 0, 1) := by decide +kernel
theorem dX4_tie_7 : decode cX4_tie 7 = .ok (.iload_n 2, 1) := by decide +kernel
theorem dX4_tie_8 : decode cX4_tie 8 = .ok (.invokevirtual 73, 3) := by decide +kernel
theorem dX4_tie_11 : decode cX4_tie 11 = .ok (.astore 4, 2) := by decide +kernel
theorem dX4_tie_13 : decode cX4_tie 13 = .ok (.aload_n 3, 1) := by decide +kernel
theorem dX4_tie_14 : decode cX4_tie 14 = .ok (.getfield 89, 3) := by decide +kernel
theorem dX4_tie_17 : decode cX4_tie 17 = .ok (.aload 4, 2) := by decide +kernel
theorem dX4_tie_19 : decode cX4_tie 19 = .ok (.getfield 89, 3) := by decide +kernel
theorem dX4_tie_22 : decode cX4_tie 22 = .ok (.if_icmp .ne 9, 3) := by decide +kernel
theorem dX4_tie_25 : decode cX4_tie 25 = .ok (.aload_n 3, 1) := by decide +kernel
theorem dX4_tie_26 : decode cX4_tie 26 = .ok (.aload 4, 2) := by decide +kernel
theorem dX4_tie_28 : decode cX4_tie 28 = .ok (.if_acmp .ne 13, 3) := by decide +kernel
theorem dX4_tie_31 : decode cX4_tie 31 = .ok (.new 50, 3) := by decide +kernel
theorem dX4_tie_34 : decode cX4_tie 34 = .ok (.dup, 1) := by decide +kernel
theorem dX4_tie_35 : decode cX4_tie 35 = .ok (.ldc 102, 2) := by decide +kernel
theorem dX4_tie_37 : decode cX4_tie 37 = .ok (.invokespecial 54, 3) := by decide +kernel
theorem dX4_tie_40 : decode cX4_tie 40 = .ok (.athrow, 1) := by decide +kernel
theorem dX4_tie_41 : decode cX4_tie 41 = .ok (.aload_n 3, 1) := by decide +kernel
theorem dX4_tie_42 : decode cX4_tie 42 = .ok (.getfield 104, 3) := by decide +kernel
theorem dX4_tie_45 : decode cX4_tie 45 = .ok (.ifnonnull 20, 3) := by decide +kernel
theorem dX4_tie_48 : decode cX4_tie 48 = .ok (.aload 4, 2) := by decide +kernel
theorem dX4_tie_50 : decode cX4_tie 50 = .ok (.getfield 108, 3) := by decide +kernel
theorem dX4_tie_53 : decode cX4_tie 53 = .ok (.ifnonnull 12, 3) := by decide +kernel
theorem dX4_tie_56 : decode cX4_tie 56 = .ok (.aload_n 3, 1) := by decide +kernel
theorem dX4_tie_57 : decode cX4_tie 57 = .ok (.aload 4, 2) := by decide +kernel
theorem dX4_tie_59 : decode cX4_tie 59 = .ok (.invokevirtual 111, 3) := by decide +kernel
theorem dX4_tie_62 : decode cX4_tie 62 = .ok (.ifCond .eq 13, 3) := by decide +kernel
theorem dX4_tie_65 : decode cX4_tie 65 = .ok (.new 61, 3) := by decide +kernel
theorem dX4_tie_68 : decode cX4_tie 68 = .ok (.dup, 1) := by decide +kernel
theorem dX4_tie_69 : decode cX4_tie 69 = .ok (.ldc 115, 2) := by decide +kernel
theorem dX4_tie_71 : decode cX4_tie 71 = .ok (.invokespecial 65, 3) := by decide +kernel
theorem dX4_tie_74 : decode cX4_tie 74 = .ok (.athrow, 1) := by decide +kernel
theorem dX4_tie_75 : decode cX4_tie 75 = .ok (.aload_n 3, 1) := by decide +kernel
theorem dX4_tie_76 : decode cX4_tie 76 = .ok (.aload 4, 2) := by decide +kernel
theorem dX4_tie_78 : decode cX4_tie 78 = .ok (.putfield 104, 3) := by decide +kernel
theorem dX4_tie_81 : decode cX4_tie 81 = .ok (.aload 4, 2) := by decide +kernel
theorem dX4_tie_83 : decode cX4_tie 83 = .ok (.aload_n 3, 1) := by decide +kernel
theorem dX4_tie_84 : decode cX4_tie 84 = .ok (.putfield 108, 3) := by decide +kernel
theorem dX4_tie_87 : decode cX4_tie 87 = .ok (.aload_n 0, 1) := by decide +kernel
theorem dX4_tie_88 : decode cX4_tie 88 = .ok (.aload_n 3, 1) := by decide +kernel
theorem dX4_tie_89 : decode cX4_tie 89 = .ok (.getfield 89, 3) := by decide +kernel
theorem dX4_tie_92 : decode cX4_tie 92 = .ok (.invokevirtual 69, 3) := by decide +kernel
theorem dX4_tie_95 : decode cX4_tie 95 = .ok (.ireturn, 1) := by decide +kernel
set_option maxRecDepth 20000 in
theorem ggX4_untie_X4_presentBox : GoodIn wsX4_untie wsX4_presentBox := goodIn_ca (goodIn_r _ [9, 10, 11, 12, 13, 14, 15, 8, 16, 17, 133, 134, 135, 136, 137, 138, 139, 140, 141, 142, 143, 144, 145, 146, 147, 148, 149] (by decide +kernel) (by decide +kernel)) (goodIn_sub (fun _ h => List.mem_cons_of_mem _ (List.mem_append_right _ h)) (by decide +kernel))
set_option maxRecDepth 20000 in
theorem gX4_untie_X4_presentBox : GoodIn wsX4_untie (wsV RX4 73 RX4 yX4_presentBox wsX4_presentBox) := goodIn_app (goodIn_of _ (by decide +kernel)) ggX4_untie_X4_presentBox
set_option maxRecDepth 20000 in
theorem ggX4_untie_X1_loosenFromLeader : GoodIn wsX4_untie wsX1_loosenFromLeader := goodIn_r _ [22, 23, 24, 133, 134, 135, 136, 137, 138, 139, 140, 141, 142] (by decide +kernel) (by decide +kernel)
set_option maxRecDepth 20000 in
theorem gX4_untie_X1_loosenFromLeader : GoodIn wsX4_untie (wsV RX4 92 RX1 yX1_loosenFromLeader wsX1_loosenFromLeader) := goodIn_app (goodIn_of _ (by decide +kernel)) ggX4_untie_X1_loosenFromLeader
set_option maxRecDepth 20000 in
theorem ggX4_untie_X4_readAgain : GoodIn wsX4_untie wsX4_readAgain := goodIn_ca (goodIn_r _ [28, 29, 30, 31, 32, 8, 33, 10, 11, 34, 35, 36, 37, 38, 39, 40, 41, 42, 43, 44, 12, 4, 3, 13, 14, 15, 16, 17, 45, 46, 47, 48, 49, 50, 51, 52, 53, 54, 55, 56, 57, 58, 59, 60, 61, 62, 63, 64, 65, 66, 67, 21, 68, 69, 70, 71, 72, 73, 74, 75, 76, 77, 78, 79, 80, 81, 82, 83, 84, 85, 86, 87, 88, 89, 90, 91, 92, 93, 94, 95, 96, 97, 98, 99, 100, 101, 102, 103, 104, 105, 106, 107, 108, 109, 110, 111, 112, 113, 114, 115, 116, 117, 118, 119, 120, 121, 122, 123, 124, 125, 126, 127, 128, 129, 130, 131, 132, 143, 144, 145, 146, 147, 148, 149, 150, 151, 133, 134, 135, 136, 137, 138, 139, 140, 141, 142, 152, 153, 154] (by decide +kernel) (by decide +kernel)) (goodIn_sub (fun _ h => List.mem_cons_of_mem _ (List.mem_append_right _ h)) (by decide +kernel))
set_option maxRecDepth 20000 in
theorem gX4_untie_X4_readAgain : GoodIn wsX4_untie (wsV RX4 69 RX4 yX4_readAgain wsX4_readAgain) := goodIn_app (goodIn_of _ (by decide +kernel)) ggX4_untie_X4_readAgain
theorem dX4_untie_0 : decode cX4_untie 0 = .ok (.aload_n 0, 1) := by decide +kernel
theorem dX4_untie_1 : decode cX4_untie 1 = .ok (.iload_n 1, 1) := by decide +kernel
theorem dX4_untie_2 : decode cX4_untie 2 = .ok (.invokevirtual 73, 3) := by decide +kernel
theorem dX4_untie_5 : decode cX4_untie 5 = .ok (.astore_n 2, 1) := by decide +kernel
theorem dX4_untie_6 : decode cX4_untie 6 = .ok (.aload_n 2, 1) := by decide +kernel
theorem dX4_untie_7 : decode cX4_untie 7 = .ok (.getfield 108, 3) := by decide +kernel
theorem dX4_untie_10 : decode cX4_untie 10 = .ok (.ifnonnull 13, 3) := by decide +kernel
theorem dX4_untie_13 : decode cX4_untie 13 = .ok (.new 61, 3) := by decide +kernel
theorem dX4_untie_16 : decode cX4_untie 16 = .ok (.dup, 1) := by decide +kernel
theorem dX4_untie_17 : decode cX4_untie 17 = .ok (.ldc 117, 2) := by decide +kernel
theorem dX4_untie_19 : decode cX4_untie 19 = .ok (.invokespecial 65, 3) := by decide +kernel
theorem dX4_untie_22 : decode cX4_untie 22 = .ok (.athrow, 1) := by decide +kernel
theorem dX4_untie_23 : decode cX4_untie 23 = .ok (.aload_n 2, 1) := by decide +kernel
theorem dX4_untie_24 : decode cX4_untie 24 = .ok (.invokevirtual 92, 3) := by decide +kernel
theorem dX4_untie_27 : decode cX4_untie 27 = .ok (.aload_n 0, 1) := by decide +kernel
theorem dX4_untie_28 : decode cX4_untie 28 = .ok (.aload_n 2, 1) := by decide +kernel
theorem dX4_untie_29 : decode cX4_untie 29 = .ok (.getfield 89, 3) := by decide +kernel
theorem dX4_untie_32 : decode cX4_untie 32 = .ok (.invokevirtual 69, 3) := by decide +kernel
theorem dX4_untie_35 : decode cX4_untie 35 = .ok (.ireturn, 1) := by decide +kernel
set_option maxRecDepth 20000 in
theorem ggX4_order_X4_readingOf : GoodIn wsX4_order wsX4_readingOf := goodIn_ca (goodIn_r _ [5, 6, 7, 8, 19, 20, 21, 22, 23, 24, 25] (by decide +kernel) (by decide +kernel)) (goodIn_sub (fun _ h => List.mem_cons_of_mem _ (List.mem_append_right _ h)) (by decide +kernel))
set_option maxRecDepth 20000 in
theorem gX4_order_X4_readingOf : GoodIn wsX4_order (wsV RX4 46 RX4 yX4_readingOf wsX4_readingOf) := goodIn_app (goodIn_of _ (by decide +kernel)) ggX4_order_X4_readingOf
set_option maxRecDepth 20000 in
theorem ggX4_order_X4_checkPlace : GoodIn wsX4_order wsX4_checkPlace := goodIn_ca (goodIn_r _ [11, 6, 7] (by decide +kernel) (by decide +kernel)) (goodIn_sub (fun _ h => List.mem_cons_of_mem _ (List.mem_append_right _ h)) (by decide +kernel))
set_option maxRecDepth 20000 in
theorem gX4_order_X4_checkPlace : GoodIn wsX4_order (va_wsS RX4 119 yX4_checkPlace wsX4_checkPlace) := goodIn_app (goodIn_of _ (by decide +kernel)) ggX4_order_X4_checkPlace
set_option maxRecDepth 20000 in
theorem ggX4_order_X3_at : GoodIn wsX4_order wsX3_at := goodIn_r _ [16, 17, 18, 26, 27] (by decide +kernel) (by decide +kernel)
set_option maxRecDepth 20000 in
theorem gX4_order_X3_at : GoodIn wsX4_order (wsV RX4 123 RX3 yX3_at wsX3_at) := goodIn_app (goodIn_of _ (by decide +kernel)) ggX4_order_X3_at
theorem dX4_order_0 : decode cX4_order 0 = .ok (.aload_n 0, 1) := by decide +kernel
theorem dX4_order_1 : decode cX4_order 1 = .ok (.iload_n 1, 1) := by decide +kernel
theorem dX4_order_2 : decode cX4_order 2 = .ok (.invokevirtual 46, 3) := by decide +kernel
theorem dX4_order_5 : decode cX4_order 5 = .ok (.astore_n 3, 1) := by decide +kernel
theorem dX4_order_6 : decode cX4_order 6 = .ok (.iload_n 2, 1) := by decide +kernel
theorem dX4_order_7 : decode cX4_order 7 = .ok (.invokestatic 119, 3) := by decide +kernel
theorem dX4_order_10 : decode cX4_order 10 = .ok (.aload_n 3, 1) := by decide +kernel
theorem dX4_order_11 : decode cX4_order 11 = .ok (.iload_n 2, 1) := by decide +kernel
theorem dX4_order_12 : decode cX4_order 12 = .ok (.invokevirtual 123, 3) := by decide +kernel
theorem dX4_order_15 : decode cX4_order 15 = .ok (.ireturn, 1) := by decide +kernel
set_option maxRecDepth 20000 in
theorem ggX4_orderAnew_X4_readingOf : GoodIn wsX4_orderAnew wsX4_readingOf := goodIn_ca (goodIn_r _ [6, 7, 8, 9, 103, 104, 105, 106, 107, 108, 109] (by decide +kernel) (by decide +kernel)) (goodIn_sub (fun _ h => List.mem_cons_of_mem _ (List.mem_append_right _ h)) (by decide +kernel))
set_option maxRecDepth 20000 in
theorem gX4_orderAnew_X4_readingOf : GoodIn wsX4_orderAnew (wsV RX4 46 RX4 yX4_readingOf wsX4_readingOf) := goodIn_app (goodIn_of _ (by decide +kernel)) ggX4_orderAnew_X4_readingOf
set_option maxRecDepth 20000 in
theorem ggX4_orderAnew_X4_checkPlace : GoodIn wsX4_orderAnew wsX4_checkPlace := goodIn_ca (goodIn_r _ [12, 7, 8] (by decide +kernel) (by decide +kernel)) (goodIn_sub (fun _ h => List.mem_cons_of_mem _ (List.mem_append_right _ h)) (by decide +kernel))
set_option maxRecDepth 20000 in
theorem gX4_orderAnew_X4_checkPlace : GoodIn wsX4_orderAnew (va_wsS RX4 119 yX4_checkPlace wsX4_checkPlace) := goodIn_app (goodIn_of _ (by decide +kernel)) ggX4_orderAnew_X4_checkPlace
set_option maxRecDepth 20000 in
theorem ggX4_orderAnew_X4_readWithSetsAside : GoodIn wsX4_orderAnew wsX4_readWithSetsAside := goodIn_r _ [16, 17, 18, 19, 20, 21, 22, 5, 23, 24, 25, 26, 27, 28, 29, 30, 31, 32, 33, 34, 35, 36, 37, 38, 39, 40, 41, 42, 43, 44, 45, 46, 47, 48, 49, 50, 51, 52, 53, 54, 55, 56, 57, 58, 59, 60, 61, 62, 63, 64, 65, 66, 67, 68, 69, 70, 71, 72, 73, 74, 75, 76, 77, 78, 79, 80, 81, 82, 83, 84, 85, 86, 87, 88, 89, 90, 91, 92, 93, 94, 95, 96, 97, 98, 110, 111, 103, 104, 105, 106, 107, 108, 109, 112, 113, 114, 115, 116, 117, 118, 119, 120, 121, 122, 123] (by decide +kernel) (by decide +kernel)
set_option maxRecDepth 20000 in
theorem gX4_orderAnew_X4_readWithSetsAside : GoodIn wsX4_orderAnew (wsV RX4 126 RX4 yX4_readWithSetsAside wsX4_readWithSetsAside) := goodIn_app (goodIn_of _ (by decide +kernel)) ggX4_orderAnew_X4_readWithSetsAside
set_option maxRecDepth 20000 in
theorem ggX4_orderAnew_X3_at : GoodIn wsX4_orderAnew wsX3_at := goodIn_r _ [102, 97, 98, 110, 111] (by decide +kernel) (by decide +kernel)
set_option maxRecDepth 20000 in
theorem gX4_orderAnew_X3_at : GoodIn wsX4_orderAnew (wsV RX4 123 RX3 yX3_at wsX3_at) := goodIn_app (goodIn_of _ (by decide +kernel)) ggX4_orderAnew_X3_at
theorem dX4_orderAnew_0 : decode cX4_orderAnew 0 = .ok (.aload_n 0, 1) := by decide +kernel
theorem dX4_orderAnew_1 : decode cX4_orderAnew 1 = .ok (.iload_n 1, 1) := by decide +kernel
theorem dX4_orderAnew_2 : decode cX4_orderAnew 2 = .ok (.invokevirtual 46, 3) := by decide +kernel
theorem dX4_orderAnew_5 : decode cX4_orderAnew 5 = .ok (.pop, 1) := by decide +kernel
theorem dX4_orderAnew_6 : decode cX4_orderAnew 6 = .ok (.iload_n 2, 1) := by decide +kernel
theorem dX4_orderAnew_7 : decode cX4_orderAnew 7 = .ok (.invokestatic 119, 3) := by decide +kernel
theorem dX4_orderAnew_10 : decode cX4_orderAnew 10 = .ok (.aload_n 0, 1) := by decide +kernel
theorem dX4_orderAnew_11 : decode cX4_orderAnew 11 = .ok (.iload_n 1, 1) := by decide +kernel
theorem dX4_orderAnew_12 : decode cX4_orderAnew 12 = .ok (.aload_n 0, 1) := by decide +kernel
theorem dX4_orderAnew_13 : decode cX4_orderAnew 13 = .ok (.getfield 26, 3) := by decide +kernel
theorem dX4_orderAnew_16 : decode cX4_orderAnew 16 = .ok (.invokevirtual 126, 3) := by decide +kernel
theorem dX4_orderAnew_19 : decode cX4_orderAnew 19 = .ok (.aload_n 0, 1) := by decide +kernel
theorem dX4_orderAnew_20 : decode cX4_orderAnew 20 = .ok (.getfield 26, 3) := by decide +kernel
theorem dX4_orderAnew_23 : decode cX4_orderAnew 23 = .ok (.iload_n 2, 1) := by decide +kernel
theorem dX4_orderAnew_24 : decode cX4_orderAnew 24 = .ok (.invokevirtual 123, 3) := by decide +kernel
theorem dX4_orderAnew_27 : decode cX4_orderAnew 27 = .ok (.ireturn, 1) := by decide +kernel
set_option maxRecDepth 20000 in
theorem ggX4_placeOf_X4_presentBox : GoodIn wsX4_placeOf wsX4_presentBox := goodIn_ca (goodIn_r _ [7, 8, 9, 10, 11, 12, 13, 6, 14, 15, 32, 33, 34, 35, 36, 37, 38, 39, 40, 41, 42, 43, 44, 45, 46, 47, 48] (by decide +kernel) (by decide +kernel)) (goodIn_sub (fun _ h => List.mem_cons_of_mem _ (List.mem_append_right _ h)) (by decide +kernel))
set_option maxRecDepth 20000 in
theorem gX4_placeOf_X4_presentBox : GoodIn wsX4_placeOf (wsV RX4 73 RX4 yX4_presentBox wsX4_presentBox) := goodIn_app (goodIn_of _ (by decide +kernel)) ggX4_placeOf_X4_presentBox
set_option maxRecDepth 20000 in
theorem ggX4_placeOf_X4_readingOf : GoodIn wsX4_placeOf wsX4_readingOf := goodIn_ca (goodIn_r _ [19, 8, 9, 20, 42, 43, 44, 45, 46, 47, 48] (by decide +kernel) (by decide +kernel)) (goodIn_sub (fun _ h => List.mem_cons_of_mem _ (List.mem_append_right _ h)) (by decide +kernel))
set_option maxRecDepth 20000 in
theorem gX4_placeOf_X4_readingOf : GoodIn wsX4_placeOf (wsV RX4 46 RX4 yX4_readingOf wsX4_readingOf) := goodIn_app (goodIn_of _ (by decide +kernel)) ggX4_placeOf_X4_readingOf
set_option maxRecDepth 20000 in
theorem ggX4_placeOf_X3_placeFor : GoodIn wsX4_placeOf wsX3_placeFor := goodIn_r _ [25, 26, 27, 28, 29, 24, 30, 31, 49, 50] (by decide +kernel) (by decide +kernel)
set_option maxRecDepth 20000 in
theorem gX4_placeOf_X3_placeFor : GoodIn wsX4_placeOf (wsV RX4 133 RX3 yX3_placeFor wsX3_placeFor) := goodIn_app (goodIn_of _ (by decide +kernel)) ggX4_placeOf_X3_placeFor
theorem dX4_placeOf_0 : decode cX4_placeOf 0 = .ok (.aload_n 0, 1) := by decide +kernel
theorem dX4_placeOf_1 : decode cX4_placeOf 1 = .ok (.iload_n 1, 1) := by decide +kernel
theorem dX4_placeOf_2 : decode cX4_placeOf 2 = .ok (.invokevirtual 73, 3) := by decide +kernel
theorem dX4_placeOf_5 : decode cX4_placeOf 5 = .ok (.astore_n 2, 1) := by decide +kernel
theorem dX4_placeOf_6 : decode cX4_placeOf 6 = .ok (.aload_n 0, 1) := by decide +kernel
theorem dX4_placeOf_7 : decode cX4_placeOf 7 = .ok (.aload_n 2, 1) := by decide +kernel
theorem dX4_placeOf_8 : decode cX4_placeOf 8 = .ok (.getfield 89, 3) := by decide +kernel
theorem dX4_placeOf_11 : decode cX4_placeOf 11 = .ok (.invokevirtual 46, 3) := by decide +kernel
theorem dX4_placeOf_14 : decode cX4_placeOf 14 = .ok (.aload_n 2, 1) := by decide +kernel
theorem dX4_placeOf_15 : decode cX4_placeOf 15 = .ok (.getfield 130, 3) := by decide +kernel
theorem dX4_placeOf_18 : decode cX4_placeOf 18 = .ok (.invokevirtual 133, 3) := by decide +kernel
theorem dX4_placeOf_21 : decode cX4_placeOf 21 = .ok (.ireturn, 1) := by decide +kernel
set_option maxRecDepth 20000 in
theorem ggX4_boxes_X4_readingOf : GoodIn wsX4_boxes wsX4_readingOf := goodIn_ca (goodIn_r _ [6, 7, 8, 9, 12, 13, 14, 15, 16, 17, 18] (by decide +kernel) (by decide +kernel)) (goodIn_sub (fun _ h => List.mem_cons_of_mem _ (List.mem_append_right _ h)) (by decide +kernel))
set_option maxRecDepth 20000 in
theorem gX4_boxes_X4_readingOf : GoodIn wsX4_boxes (wsV RX4 46 RX4 yX4_readingOf wsX4_readingOf) := goodIn_app (goodIn_of _ (by decide +kernel)) ggX4_boxes_X4_readingOf
theorem dX4_boxes_0 : decode cX4_boxes 0 = .ok (.aload_n 0, 1) := by decide +kernel
theorem dX4_boxes_1 : decode cX4_boxes 1 = .ok (.iload_n 1, 1) := by decide +kernel
theorem dX4_boxes_2 : decode cX4_boxes 2 = .ok (.invokevirtual 46, 3) := by decide +kernel
theorem dX4_boxes_5 : decode cX4_boxes 5 = .ok (.getfield 136, 3) := by decide +kernel
theorem dX4_boxes_8 : decode cX4_boxes 8 = .ok (.ireturn, 1) := by decide +kernel
set_option maxRecDepth 20000 in
theorem ggX4_about_X4_madeBox : GoodIn wsX4_about wsX4_madeBox := goodIn_r _ [18, 19, 34, 35, 36, 37, 38, 39, 40] (by decide +kernel) (by decide +kernel)
set_option maxRecDepth 20000 in
theorem gX4_about_X4_madeBox : GoodIn wsX4_about (wsV RX4 139 RX4 yX4_madeBox wsX4_madeBox) := goodIn_app (goodIn_of _ (by decide +kernel)) ggX4_about_X4_madeBox
set_option maxRecDepth 20000 in
theorem ggX4_about_X4_numberOf : GoodIn wsX4_about wsX4_numberOf := goodIn_r _ [22, 23, 24, 25, 26, 27, 28, 29, 30, 31, 32, 33] (by decide +kernel) (by decide +kernel)
set_option maxRecDepth 20000 in
theorem gX4_about_X4_numberOf : GoodIn wsX4_about (va_wsS RX4 150 yX4_numberOf wsX4_numberOf) := goodIn_app (goodIn_of _ (by decide +kernel)) ggX4_about_X4_numberOf
theorem dX4_about_0 : decode cX4_about 0 = .ok (.aload_n 0, 1) := by decide +kernel
theorem dX4_about_1 : decode cX4_about 1 = .ok (.iload_n 1, 1) := by decide +kernel
theorem dX4_about_2 : decode cX4_about 2 = .ok (.invokevirtual 139, 3) := by decide +kernel
theorem dX4_about_5 : decode cX4_about 5 = .ok (.astore_n 3, 1) := by decide +kernel
theorem dX4_about_6 : decode cX4_about 6 = .ok (.aload_n 3, 1) := by decide +kernel
theorem dX4_about_7 : decode cX4_about 7 = .ok (.ifnonnull 13, 3) := by decide +kernel
theorem dX4_about_10 : decode cX4_about 10 = .ok (.new 142, 3) := by decide +kernel
theorem dX4_about_13 : decode cX4_about 13 = .ok (.dup, 1) := by decide +kernel
theorem dX4_about_14 : decode cX4_about 14 = .ok (.ldc 144, 2) := by decide +kernel
theorem dX4_about_16 : decode cX4_about 16 = .ok (.invokespecial 146, 3) := by decide +kernel
theorem dX4_about_19 : decode cX4_about 19 = .ok (.athrow, 1) := by decide +kernel
theorem dX4_about_20 : decode cX4_about 20 = .ok (.iload_n 2, 1) := by decide +kernel
theorem dX4_about_21 : decode cX4_about 21 = .ok (.tableswitch 110 0 8 #[51, 56, 61, 66, 71, 76, 81, 89, 97], 51) := by decide +kernel
theorem dX4_about_72 : decode cX4_about 72 = .ok (.aload_n 3, 1) := by decide +kernel
theorem dX4_about_73 : decode cX4_about 73 = .ok (.getfield 89, 3) := by decide +kernel
theorem dX4_about_76 : decode cX4_about 76 = .ok (.ireturn, 1) := by decide +kernel
theorem dX4_about_77 : decode cX4_about 77 = .ok (.aload_n 3, 1) := by decide +kernel
theorem dX4_about_78 : decode cX4_about 78 = .ok (.getfield 83, 3) := by decide +kernel
theorem dX4_about_81 : decode cX4_about 81 = .ok (.ireturn, 1) := by decide +kernel
theorem dX4_about_82 : decode cX4_about 82 = .ok (.aload_n 3, 1) := by decide +kernel
theorem dX4_about_83 : decode cX4_about 83 = .ok (.getfield 86, 3) := by decide +kernel
theorem dX4_about_86 : decode cX4_about 86 = .ok (.ireturn, 1) := by decide +kernel
theorem dX4_about_87 : decode cX4_about 87 = .ok (.aload_n 3, 1) := by decide +kernel
theorem dX4_about_88 : decode cX4_about 88 = .ok (.getfield 77, 3) := by decide +kernel
theorem dX4_about_91 : decode cX4_about 91 = .ok (.ireturn, 1) := by decide +kernel
theorem dX4_about_92 : decode cX4_about 92 = .ok (.aload_n 3, 1) := by decide +kernel
theorem dX4_about_93 : decode cX4_about 93 = .ok (.getfield 80, 3) := by decide +kernel
theorem dX4_about_96 : decode cX4_about 96 = .ok (.ireturn, 1) := by decide +kernel
theorem dX4_about_97 : decode cX4_about 97 = .ok (.aload_n 3, 1) := by decide +kernel
theorem dX4_about_98 : decode cX4_about 98 = .ok (.getfield 147, 3) := by decide +kernel
theorem dX4_about_101 : decode cX4_about 101 = .ok (.ireturn, 1) := by decide +kernel
theorem dX4_about_102 : decode cX4_about 102 = .ok (.aload_n 3, 1) := by decide +kernel
theorem dX4_about_103 : decode cX4_about 103 = .ok (.getfield 108, 3) := by decide +kernel
theorem dX4_about_106 : decode cX4_about 106 = .ok (.invokestatic 150, 3) := by decide +kernel
theorem dX4_about_109 : decode cX4_about 109 = .ok (.ireturn, 1) := by decide +kernel
theorem dX4_about_110 : decode cX4_about 110 = .ok (.aload_n 3, 1) := by decide +kernel
theorem dX4_about_111 : decode cX4_about 111 = .ok (.getfield 104, 3) := by decide +kernel
theorem dX4_about_114 : decode cX4_about 114 = .ok (.invokestatic 150, 3) := by decide +kernel
theorem dX4_about_117 : decode cX4_about 117 = .ok (.ireturn, 1) := by decide +kernel
theorem dX4_about_118 : decode cX4_about 118 = .ok (.aload_n 3, 1) := by decide +kernel
theorem dX4_about_119 : decode cX4_about 119 = .ok (.getfield 98, 3) := by decide +kernel
theorem dX4_about_122 : decode cX4_about 122 = .ok (.ifCond .eq 7, 3) := by decide +kernel
theorem dX4_about_125 : decode cX4_about 125 = .ok (.iconst 1, 1) := by decide +kernel
theorem dX4_about_126 : decode cX4_about 126 = .ok (.goto 4, 3) := by decide +kernel
theorem dX4_about_129 : decode cX4_about 129 = .ok (.iconst 0, 1) := by decide +kernel
theorem dX4_about_130 : decode cX4_about 130 = .ok (.ireturn, 1) := by decide +kernel
theorem dX4_about_131 : decode cX4_about 131 = .ok (.new 50, 3) := by decide +kernel
theorem dX4_about_134 : decode cX4_about 134 = .ok (.dup, 1) := by decide +kernel
theorem dX4_about_135 : decode cX4_about 135 = .ok (.ldc 154, 2) := by decide +kernel
theorem dX4_about_137 : decode cX4_about 137 = .ok (.invokespecial 54, 3) := by decide +kernel
theorem dX4_about_140 : decode cX4_about 140 = .ok (.athrow, 1) := by decide +kernel
set_option maxRecDepth 20000 in
theorem ggX4_way_X4_readingOf : GoodIn wsX4_way wsX4_readingOf := goodIn_ca (goodIn_r _ [10, 11, 12, 13, 41, 42, 43, 44, 45, 46, 47] (by decide +kernel) (by decide +kernel)) (goodIn_sub (fun _ h => List.mem_cons_of_mem _ (List.mem_append_right _ h)) (by decide +kernel))
set_option maxRecDepth 20000 in
theorem gX4_way_X4_readingOf : GoodIn wsX4_way (wsV RX4 46 RX4 yX4_readingOf wsX4_readingOf) := goodIn_app (goodIn_of _ (by decide +kernel)) ggX4_way_X4_readingOf
set_option maxRecDepth 20000 in
theorem ggX4_way_X3_at : GoodIn wsX4_way wsX3_at := goodIn_r _ [18, 19, 20, 39, 40] (by decide +kernel) (by decide +kernel)
set_option maxRecDepth 20000 in
theorem gX4_way_X3_at : GoodIn wsX4_way (wsV RX4 123 RX3 yX3_at wsX3_at) := goodIn_app (goodIn_of _ (by decide +kernel)) ggX4_way_X3_at
set_option maxRecDepth 20000 in
theorem ggX4_way_X4_madeBox : GoodIn wsX4_way wsX4_madeBox := goodIn_r _ [24, 25, 41, 42, 43, 44, 45, 46, 47] (by decide +kernel) (by decide +kernel)
set_option maxRecDepth 20000 in
theorem gX4_way_X4_madeBox : GoodIn wsX4_way (wsV RX4 139 RX4 yX4_madeBox wsX4_madeBox) := goodIn_app (goodIn_of _ (by decide +kernel)) ggX4_way_X4_madeBox
set_option maxRecDepth 20000 in
theorem ggX4_way_X1_middleAcross : GoodIn wsX4_way wsX1_middleAcross := goodIn_r _ [30, 31, 32, 48, 49, 50, 51, 52, 53, 54, 55, 56, 57] (by decide +kernel) (by decide +kernel)
set_option maxRecDepth 20000 in
theorem gX4_way_X1_middleAcross : GoodIn wsX4_way (wsV RX4 156 RX1 yX1_middleAcross wsX1_middleAcross) := goodIn_app (goodIn_of _ (by decide +kernel)) ggX4_way_X1_middleAcross
set_option maxRecDepth 20000 in
theorem ggX4_way_X1_middleDown : GoodIn wsX4_way wsX1_middleDown := goodIn_r _ [36, 37, 38, 48, 49, 50, 51, 52, 53, 54, 55, 56, 57] (by decide +kernel) (by decide +kernel)
set_option maxRecDepth 20000 in
theorem gX4_way_X1_middleDown : GoodIn wsX4_way (wsV RX4 165 RX1 yX1_middleDown wsX1_middleDown) := goodIn_app (goodIn_of _ (by decide +kernel)) ggX4_way_X1_middleDown
theorem dX4_way_0 : decode cX4_way 0 = .ok (.aload_n 0, 1) := by decide +kernel
theorem dX4_way_1 : decode cX4_way 1 = .ok (.iload_n 1, 1) := by decide +kernel
theorem dX4_way_2 : decode cX4_way 2 = .ok (.invokevirtual 46, 3) := by decide +kernel
theorem dX4_way_5 : decode cX4_way 5 = .ok (.astore_n 2, 1) := by decide +kernel
theorem dX4_way_6 : decode cX4_way 6 = .ok (.iconst 0, 1) := by decide +kernel
theorem dX4_way_7 : decode cX4_way 7 = .ok (.istore_n 3, 1) := by decide +kernel
theorem dX4_way_8 : decode cX4_way 8 = .ok (.iconst 1, 1) := by decide +kernel
theorem dX4_way_9 : decode cX4_way 9 = .ok (.istore 4, 2) := by decide +kernel
theorem dX4_way_11 : decode cX4_way 11 = .ok (.iload 4, 2) := by decide +kernel
theorem dX4_way_13 : decode cX4_way 13 = .ok (.aload_n 2, 1) := by decide +kernel
theorem dX4_way_14 : decode cX4_way 14 = .ok (.getfield 136, 3) := by decide +kernel
theorem dX4_way_17 : decode cX4_way 17 = .ok (.if_icmp .ge 79, 3) := by decide +kernel
theorem dX4_way_20 : decode cX4_way 20 = .ok (.aload_n 0, 1) := by decide +kernel
theorem dX4_way_21 : decode cX4_way 21 = .ok (.aload_n 2, 1) := by decide +kernel
theorem dX4_way_22 : decode cX4_way 22 = .ok (.iload 4, 2) := by decide +kernel
theorem dX4_way_24 : decode cX4_way 24 = .ok (.iconst 1, 1) := by decide +kernel
theorem dX4_way_25 : decode cX4_way 25 = .ok (.isub, 1) := by decide +kernel
theorem dX4_way_26 : decode cX4_way 26 = .ok (.invokevirtual 123, 3) := by decide +kernel
theorem dX4_way_29 : decode cX4_way 29 = .ok (.invokevirtual 139, 3) := by decide +kernel
theorem dX4_way_32 : decode cX4_way 32 = .ok (.astore 5, 2) := by decide +kernel
theorem dX4_way_34 : decode cX4_way 34 = .ok (.aload_n 0, 1) := by decide +kernel
theorem dX4_way_35 : decode cX4_way 35 = .ok (.aload_n 2, 1) := by decide +kernel
theorem dX4_way_36 : decode cX4_way 36 = .ok (.iload 4, 2) := by decide +kernel
theorem dX4_way_38 : decode cX4_way 38 = .ok (.invokevirtual 123, 3) := by decide +kernel
theorem dX4_way_41 : decode cX4_way 41 = .ok (.invokevirtual 139, 3) := by decide +kernel
theorem dX4_way_44 : decode cX4_way 44 = .ok (.astore 6, 2) := by decide +kernel
theorem dX4_way_46 : decode cX4_way 46 = .ok (.aload 5, 2) := by decide +kernel
theorem dX4_way_48 : decode cX4_way 48 = .ok (.ifnull 42, 3) := by decide +kernel
theorem dX4_way_51 : decode cX4_way 51 = .ok (.aload 6, 2) := by decide +kernel
theorem dX4_way_53 : decode cX4_way 53 = .ok (.ifnull 37, 3) := by decide +kernel
theorem dX4_way_56 : decode cX4_way 56 = .ok (.iload_n 3, 1) := by decide +kernel
theorem dX4_way_57 : decode cX4_way 57 = .ok (.aload 6, 2) := by decide +kernel
theorem dX4_way_59 : decode cX4_way 59 = .ok (.invokevirtual 156, 3) := by decide +kernel
theorem dX4_way_62 : decode cX4_way 62 = .ok (.aload 5, 2) := by decide +kernel
theorem dX4_way_64 : decode cX4_way 64 = .ok (.invokevirtual 156, 3) := by decide +kernel
theorem dX4_way_67 : decode cX4_way 67 = .ok (.isub, 1) := by decide +kernel
theorem dX4_way_68 : decode cX4_way 68 = .ok (.invokestatic 160, 3) := by decide +kernel
theorem dX4_way_71 : decode cX4_way 71 = .ok (.iadd, 1) := by decide +kernel
theorem dX4_way_72 : decode cX4_way 72 = .ok (.istore_n 3, 1) := by decide +kernel
theorem dX4_way_73 : decode cX4_way 73 = .ok (.iload_n 3, 1) := by decide +kernel
theorem dX4_way_74 : decode cX4_way 74 = .ok (.aload 6, 2) := by decide +kernel
theorem dX4_way_76 : decode cX4_way 76 = .ok (.invokevirtual 165, 3) := by decide +kernel
theorem dX4_way_79 : decode cX4_way 79 = .ok (.aload 5, 2) := by decide +kernel
theorem dX4_way_81 : decode cX4_way 81 = .ok (.invokevirtual 165, 3) := by decide +kernel
theorem dX4_way_84 : decode cX4_way 84 = .ok (.isub, 1) := by decide +kernel
theorem dX4_way_85 : decode cX4_way 85 = .ok (.invokestatic 160, 3) := by decide +kernel
theorem dX4_way_88 : decode cX4_way 88 = .ok (.iadd, 1) := by decide +kernel
theorem dX4_way_89 : decode cX4_way 89 = .ok (.istore_n 3, 1) := by decide +kernel
theorem dX4_way_90 : decode cX4_way 90 = .ok (.iinc 4 1, 3) := by decide +kernel
theorem dX4_way_93 : decode cX4_way 93 = .ok (.goto (-82), 3) := by decide +kernel
theorem dX4_way_96 : decode cX4_way 96 = .ok (.iload_n 3, 1) := by decide +kernel
theorem dX4_way_97 : decode cX4_way 97 = .ok (.ireturn, 1) := by decide +kernel
set_option maxRecDepth 20000 in
theorem ggX4_faults_X4_presentBox : GoodIn wsX4_faults wsX4_presentBox := goodIn_ca (goodIn_r _ [7, 8, 9, 10, 11, 12, 13, 6, 14, 15, 74, 75, 76, 77, 78, 79, 80, 81, 82, 83, 84, 85, 86, 87, 88, 89, 90] (by decide +kernel) (by decide +kernel)) (goodIn_sub (fun _ h => List.mem_cons_of_mem _ (List.mem_append_right _ h)) (by decide +kernel))
set_option maxRecDepth 20000 in
theorem gX4_faults_X4_presentBox : GoodIn wsX4_faults (wsV RX4 73 RX4 yX4_presentBox wsX4_presentBox) := goodIn_app (goodIn_of _ (by decide +kernel)) ggX4_faults_X4_presentBox
set_option maxRecDepth 20000 in
theorem ggX4_faults_X4_readingOf : GoodIn wsX4_faults wsX4_readingOf := goodIn_ca (goodIn_r _ [19, 8, 9, 20, 84, 85, 86, 87, 88, 89, 90] (by decide +kernel) (by decide +kernel)) (goodIn_sub (fun _ h => List.mem_cons_of_mem _ (List.mem_append_right _ h)) (by decide +kernel))
set_option maxRecDepth 20000 in
theorem gX4_faults_X4_readingOf : GoodIn wsX4_faults (wsV RX4 46 RX4 yX4_readingOf wsX4_readingOf) := goodIn_app (goodIn_of _ (by decide +kernel)) ggX4_faults_X4_readingOf
set_option maxRecDepth 20000 in
theorem ggX4_faults_X3_placeFor : GoodIn wsX4_faults wsX3_placeFor := goodIn_r _ [25, 26, 27, 28, 29, 24, 30, 31, 91, 92] (by decide +kernel) (by decide +kernel)
set_option maxRecDepth 20000 in
theorem gX4_faults_X3_placeFor : GoodIn wsX4_faults (wsV RX4 133 RX3 yX3_placeFor wsX3_placeFor) := goodIn_app (goodIn_of _ (by decide +kernel)) ggX4_faults_X3_placeFor
set_option maxRecDepth 20000 in
theorem ggX4_faults_X4_faultsAt : GoodIn wsX4_faults wsX4_faultsAt := goodIn_r _ [35, 36, 37, 38, 28, 29, 24, 30, 26, 31, 11, 12, 13, 6, 14, 15, 39, 40, 41, 42, 43, 44, 45, 46, 47, 48, 49, 50, 51, 52, 53, 54, 55, 56, 57, 58, 59, 60, 61, 62, 63, 64, 65, 66, 67, 68, 69, 70, 71, 72, 73, 74, 75, 76, 77, 78, 79, 80, 81, 82, 83, 91, 92, 84, 85, 86, 87, 88, 89, 90] (by decide +kernel) (by decide +kernel)
set_option maxRecDepth 20000 in
theorem gX4_faults_X4_faultsAt : GoodIn wsX4_faults (wsV RX4 168 RX4 yX4_faultsAt wsX4_faultsAt) := goodIn_app (goodIn_of _ (by decide +kernel)) ggX4_faults_X4_faultsAt
theorem dX4_faults_0 : decode cX4_faults 0 = .ok (.aload_n 0, 1) := by decide +kernel
theorem dX4_faults_1 : decode cX4_faults 1 = .ok (.iload_n 1, 1) := by decide +kernel
theorem dX4_faults_2 : decode cX4_faults 2 = .ok (.invokevirtual 73, 3) := by decide +kernel
theorem dX4_faults_5 : decode cX4_faults 5 = .ok (.astore_n 2, 1) := by decide +kernel
theorem dX4_faults_6 : decode cX4_faults 6 = .ok (.aload_n 0, 1) := by decide +kernel
theorem dX4_faults_7 : decode cX4_faults 7 = .ok (.aload_n 2, 1) := by decide +kernel
theorem dX4_faults_8 : decode cX4_faults 8 = .ok (.getfield 89, 3) := by decide +kernel
theorem dX4_faults_11 : decode cX4_faults 11 = .ok (.invokevirtual 46, 3) := by decide +kernel
theorem dX4_faults_14 : decode cX4_faults 14 = .ok (.astore_n 3, 1) := by decide +kernel
theorem dX4_faults_15 : decode cX4_faults 15 = .ok (.aload_n 0, 1) := by decide +kernel
theorem dX4_faults_16 : decode cX4_faults 16 = .ok (.aload_n 3, 1) := by decide +kernel
theorem dX4_faults_17 : decode cX4_faults 17 = .ok (.aload_n 3, 1) := by decide +kernel
theorem dX4_faults_18 : decode cX4_faults 18 = .ok (.aload_n 2, 1) := by decide +kernel
theorem dX4_faults_19 : decode cX4_faults 19 = .ok (.getfield 130, 3) := by decide +kernel
theorem dX4_faults_22 : decode cX4_faults 22 = .ok (.invokevirtual 133, 3) := by decide +kernel
theorem dX4_faults_25 : decode cX4_faults 25 = .ok (.invokevirtual 168, 3) := by decide +kernel
theorem dX4_faults_28 : decode cX4_faults 28 = .ok (.ireturn, 1) := by decide +kernel
set_option maxRecDepth 20000 in
theorem ggX4_faulty_X4_readingOf : GoodIn wsX4_faulty wsX4_readingOf := goodIn_ca (goodIn_r _ [6, 7, 8, 9, 64, 65, 66, 67, 68, 69, 70] (by decide +kernel) (by decide +kernel)) (goodIn_sub (fun _ h => List.mem_cons_of_mem _ (List.mem_append_right _ h)) (by decide +kernel))
set_option maxRecDepth 20000 in
theorem gX4_faulty_X4_readingOf : GoodIn wsX4_faulty (wsV RX4 46 RX4 yX4_readingOf wsX4_readingOf) := goodIn_app (goodIn_of _ (by decide +kernel)) ggX4_faulty_X4_readingOf
set_option maxRecDepth 20000 in
theorem ggX4_faulty_X4_faultsAt : GoodIn wsX4_faulty wsX4_faultsAt := goodIn_r _ [13, 14, 15, 16, 17, 18, 19, 20, 21, 22, 23, 24, 25, 5, 26, 27, 28, 29, 30, 31, 32, 33, 34, 35, 36, 37, 38, 39, 40, 41, 42, 43, 44, 45, 46, 47, 48, 1, 49, 50, 51, 52, 53, 54, 55, 56, 57, 58, 59, 60, 61, 71, 72, 73, 74, 75, 76, 77, 78, 79, 80, 62, 63, 64, 65, 66, 67, 68, 69, 70] (by decide +kernel) (by decide +kernel)
set_option maxRecDepth 20000 in
theorem gX4_faulty_X4_faultsAt : GoodIn wsX4_faulty (wsV RX4 168 RX4 yX4_faultsAt wsX4_faultsAt) := goodIn_app (goodIn_of _ (by decide +kernel)) ggX4_faulty_X4_faultsAt
theorem dX4_faulty_0 : decode cX4_faulty 0 = .ok (.aload_n 0, 1) := by decide +kernel
theorem dX4_faulty_1 : decode cX4_faulty 1 = .ok (.iload_n 1, 1) := by decide +kernel
theorem dX4_faulty_2 : decode cX4_faulty 2 = .ok (.invokevirtual 46, 3) := by decide +kernel
theorem dX4_faulty_5 : decode cX4_faulty 5 = .ok (.astore_n 2, 1) := by decide +kernel
theorem dX4_faulty_6 : decode cX4_faulty 6 = .ok (.iconst 0, 1) := by decide +kernel
theorem dX4_faulty_7 : decode cX4_faulty 7 = .ok (.istore_n 3, 1) := by decide +kernel
theorem dX4_faulty_8 : decode cX4_faulty 8 = .ok (.iconst 0, 1) := by decide +kernel
theorem dX4_faulty_9 : decode cX4_faulty 9 = .ok (.istore 4, 2) := by decide +kernel
theorem dX4_faulty_11 : decode cX4_faulty 11 = .ok (.iload 4, 2) := by decide +kernel
theorem dX4_faulty_13 : decode cX4_faulty 13 = .ok (.aload_n 2, 1) := by decide +kernel
theorem dX4_faulty_14 : decode cX4_faulty 14 = .ok (.getfield 136, 3) := by decide +kernel
theorem dX4_faulty_17 : decode cX4_faulty 17 = .ok (.if_icmp .ge 22, 3) := by decide +kernel
theorem dX4_faulty_20 : decode cX4_faulty 20 = .ok (.aload_n 0, 1) := by decide +kernel
theorem dX4_faulty_21 : decode cX4_faulty 21 = .ok (.aload_n 2, 1) := by decide +kernel
theorem dX4_faulty_22 : decode cX4_faulty 22 = .ok (.iload 4, 2) := by decide +kernel
theorem dX4_faulty_24 : decode cX4_faulty 24 = .ok (.invokevirtual 168, 3) := by decide +kernel
theorem dX4_faulty_27 : decode cX4_faulty 27 = .ok (.ifCond .eq 6, 3) := by decide +kernel
theorem dX4_faulty_30 : decode cX4_faulty 30 = .ok (.iinc 3 1, 3) := by decide +kernel
theorem dX4_faulty_33 : decode cX4_faulty 33 = .ok (.iinc 4 1, 3) := by decide +kernel
theorem dX4_faulty_36 : decode cX4_faulty 36 = .ok (.goto (-25), 3) := by decide +kernel
theorem dX4_faulty_39 : decode cX4_faulty 39 = .ok (.iload_n 3, 1) := by decide +kernel
theorem dX4_faulty_40 : decode cX4_faulty 40 = .ok (.ireturn, 1) := by decide +kernel
set_option maxRecDepth 20000 in
theorem ggX4_approve_X4_readingOf : GoodIn wsX4_approve wsX4_readingOf := goodIn_ca (goodIn_r _ [15, 1, 2, 16, 26, 27, 28, 29, 30, 31, 32] (by decide +kernel) (by decide +kernel)) (goodIn_sub (fun _ h => List.mem_cons_of_mem _ (List.mem_append_left _ (List.mem_append_right _ h))) (by decide +kernel))
set_option maxRecDepth 20000 in
theorem gX4_approve_X4_readingOf : GoodIn wsX4_approve (wsV RX4 46 RX4 yX4_readingOf wsX4_readingOf) := goodIn_app (goodIn_of _ (by decide +kernel)) ggX4_approve_X4_readingOf
set_option maxRecDepth 20000 in
theorem ggX4_approve_X0_init : GoodIn wsX4_approve wsX0_init := goodIn_r _ [19, 20, 21, 22, 23, 24, 25, 35, 36, 37] (by decide +kernel) (by decide +kernel)
set_option maxRecDepth 20000 in
theorem gX4_approve_X0_init : GoodIn wsX4_approve (wsX0_init) := ggX4_approve_X0_init
theorem dX4_approve_0 : decode cX4_approve 0 = .ok (.iload_n 1, 1) := by decide +kernel
theorem dX4_approve_1 : decode cX4_approve 1 = .ok (.ifCond .lt 9, 3) := by decide +kernel
theorem dX4_approve_4 : decode cX4_approve 4 = .ok (.iload_n 1, 1) := by decide +kernel
theorem dX4_approve_5 : decode cX4_approve 5 = .ok (.bipush 6, 2) := by decide +kernel
theorem dX4_approve_7 : decode cX4_approve 7 = .ok (.if_icmp .lt 13, 3) := by decide +kernel
theorem dX4_approve_10 : decode cX4_approve 10 = .ok (.new 142, 3) := by decide +kernel
theorem dX4_approve_13 : decode cX4_approve 13 = .ok (.dup, 1) := by decide +kernel
theorem dX4_approve_14 : decode cX4_approve 14 = .ok (.ldc 172, 2) := by decide +kernel
theorem dX4_approve_16 : decode cX4_approve 16 = .ok (.invokespecial 146, 3) := by decide +kernel
theorem dX4_approve_19 : decode cX4_approve 19 = .ok (.athrow, 1) := by decide +kernel
theorem dX4_approve_20 : decode cX4_approve 20 = .ok (.aload_n 0, 1) := by decide +kernel
theorem dX4_approve_21 : decode cX4_approve 21 = .ok (.iload_n 2, 1) := by decide +kernel
theorem dX4_approve_22 : decode cX4_approve 22 = .ok (.invokevirtual 46, 3) := by decide +kernel
theorem dX4_approve_25 : decode cX4_approve 25 = .ok (.astore_n 3, 1) := by decide +kernel
theorem dX4_approve_26 : decode cX4_approve 26 = .ok (.aload_n 0, 1) := by decide +kernel
theorem dX4_approve_27 : decode cX4_approve 27 = .ok (.getfield 43, 3) := by decide +kernel
theorem dX4_approve_30 : decode cX4_approve 30 = .ok (.istore 4, 2) := by decide +kernel
theorem dX4_approve_32 : decode cX4_approve 32 = .ok (.aload_n 3, 1) := by decide +kernel
theorem dX4_approve_33 : decode cX4_approve 33 = .ok (.getfield 136, 3) := by decide +kernel
theorem dX4_approve_36 : decode cX4_approve 36 = .ok (.ifCond .eq 18, 3) := by decide +kernel
theorem dX4_approve_39 : decode cX4_approve 39 = .ok (.iload 4, 2) := by decide +kernel
theorem dX4_approve_41 : decode cX4_approve 41 = .ok (.ifCond .lt 13, 3) := by decide +kernel
theorem dX4_approve_44 : decode cX4_approve 44 = .ok (.iload 4, 2) := by decide +kernel
theorem dX4_approve_46 : decode cX4_approve 46 = .ok (.aload_n 0, 1) := by decide +kernel
theorem dX4_approve_47 : decode cX4_approve 47 = .ok (.getfield 39, 3) := by decide +kernel
theorem dX4_approve_50 : decode cX4_approve 50 = .ok (.arraylength, 1) := by decide +kernel
theorem dX4_approve_51 : decode cX4_approve 51 = .ok (.if_icmp .lt 13, 3) := by decide +kernel
theorem dX4_approve_54 : decode cX4_approve 54 = .ok (.new 61, 3) := by decide +kernel
theorem dX4_approve_57 : decode cX4_approve 57 = .ok (.dup, 1) := by decide +kernel
theorem dX4_approve_58 : decode cX4_approve 58 = .ok (.ldc 174, 2) := by decide +kernel
theorem dX4_approve_60 : decode cX4_approve 60 = .ok (.invokespecial 65, 3) := by decide +kernel
theorem dX4_approve_63 : decode cX4_approve 63 = .ok (.athrow, 1) := by decide +kernel
theorem dX4_approve_64 : decode cX4_approve 64 = .ok (.aload_n 0, 1) := by decide +kernel
theorem dX4_approve_65 : decode cX4_approve 65 = .ok (.getfield 39, 3) := by decide +kernel
theorem dX4_approve_68 : decode cX4_approve 68 = .ok (.iload 4, 2) := by decide +kernel
theorem dX4_approve_70 : decode cX4_approve 70 = .ok (.new 37, 3) := by decide +kernel
theorem dX4_approve_73 : decode cX4_approve 73 = .ok (.dup, 1) := by decide +kernel
theorem dX4_approve_74 : decode cX4_approve 74 = .ok (.iload_n 1, 1) := by decide +kernel
theorem dX4_approve_75 : decode cX4_approve 75 = .ok (.iload_n 2, 1) := by decide +kernel
theorem dX4_approve_76 : decode cX4_approve 76 = .ok (.invokespecial 176, 3) := by decide +kernel
theorem dX4_approve_79 : decode cX4_approve 79 = .ok (.aastore, 1) := by decide +kernel
theorem dX4_approve_80 : decode cX4_approve 80 = .ok (.aload_n 0, 1) := by decide +kernel
theorem dX4_approve_81 : decode cX4_approve 81 = .ok (.iload 4, 2) := by decide +kernel
theorem dX4_approve_83 : decode cX4_approve 83 = .ok (.iconst 1, 1) := by decide +kernel
theorem dX4_approve_84 : decode cX4_approve 84 = .ok (.iadd, 1) := by decide +kernel
theorem dX4_approve_85 : decode cX4_approve 85 = .ok (.putfield 43, 3) := by decide +kernel
theorem dX4_approve_88 : decode cX4_approve 88 = .ok (.iload 4, 2) := by decide +kernel
theorem dX4_approve_90 : decode cX4_approve 90 = .ok (.ireturn, 1) := by decide +kernel
theorem dX4_stands_0 : decode cX4_stands 0 = .ok (.iload_n 1, 1) := by decide +kernel
theorem dX4_stands_1 : decode cX4_stands 1 = .ok (.ifCond .lt 21, 3) := by decide +kernel
theorem dX4_stands_4 : decode cX4_stands 4 = .ok (.iload_n 1, 1) := by decide +kernel
theorem dX4_stands_5 : decode cX4_stands 5 = .ok (.aload_n 0, 1) := by decide +kernel
theorem dX4_stands_6 : decode cX4_stands 6 = .ok (.getfield 39, 3) := by decide +kernel
theorem dX4_stands_9 : decode cX4_stands 9 = .ok (.arraylength, 1) := by decide +kernel
theorem dX4_stands_10 : decode cX4_stands 10 = .ok (.if_icmp .ge 12, 3) := by decide +kernel
theorem dX4_stands_13 : decode cX4_stands 13 = .ok (.aload_n 0, 1) := by decide +kernel
theorem dX4_stands_14 : decode cX4_stands 14 = .ok (.getfield 39, 3) := by decide +kernel
theorem dX4_stands_17 : decode cX4_stands 17 = .ok (.iload_n 1, 1) := by decide +kernel
theorem dX4_stands_18 : decode cX4_stands 18 = .ok (.aaload, 1) := by decide +kernel
theorem dX4_stands_19 : decode cX4_stands 19 = .ok (.goto 4, 3) := by decide +kernel
theorem dX4_stands_22 : decode cX4_stands 22 = .ok (.aconst_null, 1) := by decide +kernel
theorem dX4_stands_23 : decode cX4_stands 23 = .ok (.astore_n 2, 1) := by decide +kernel
theorem dX4_stands_24 : decode cX4_stands 24 = .ok (.aload_n 2, 1) := by decide +kernel
theorem dX4_stands_25 : decode cX4_stands 25 = .ok (.ifnonnull 13, 3) := by decide +kernel
theorem dX4_stands_28 : decode cX4_stands 28 = .ok (.new 142, 3) := by decide +kernel
theorem dX4_stands_31 : decode cX4_stands 31 = .ok (.dup, 1) := by decide +kernel
theorem dX4_stands_32 : decode cX4_stands 32 = .ok (.ldc 179, 2) := by decide +kernel
theorem dX4_stands_34 : decode cX4_stands 34 = .ok (.invokespecial 146, 3) := by decide +kernel
theorem dX4_stands_37 : decode cX4_stands 37 = .ok (.athrow, 1) := by decide +kernel
theorem dX4_stands_38 : decode cX4_stands 38 = .ok (.aload_n 2, 1) := by decide +kernel
theorem dX4_stands_39 : decode cX4_stands 39 = .ok (.getfield 181, 3) := by decide +kernel
theorem dX4_stands_42 : decode cX4_stands 42 = .ok (.ireturn, 1) := by decide +kernel
set_option maxRecDepth 20000 in
theorem ggX4_approvers_X4_readingOf : GoodIn wsX4_approvers wsX4_readingOf := goodIn_ca (goodIn_r _ [7, 8, 9, 10, 18, 19, 20, 21, 22, 23, 24] (by decide +kernel) (by decide +kernel)) (goodIn_sub (fun _ h => List.mem_cons_of_mem _ (List.mem_append_right _ h)) (by decide +kernel))
set_option maxRecDepth 20000 in
theorem gX4_approvers_X4_readingOf : GoodIn wsX4_approvers (wsV RX4 46 RX4 yX4_readingOf wsX4_readingOf) := goodIn_app (goodIn_of _ (by decide +kernel)) ggX4_approvers_X4_readingOf
set_option maxRecDepth 20000 in
theorem ggX4_approvers_X0_holdsFor : GoodIn wsX4_approvers wsX0_holdsFor := goodIn_r _ [15, 16, 17, 25, 26, 27] (by decide +kernel) (by decide +kernel)
set_option maxRecDepth 20000 in
theorem gX4_approvers_X0_holdsFor : GoodIn wsX4_approvers (wsV RX4 184 RX0 yX0_holdsFor wsX0_holdsFor) := goodIn_app (goodIn_of _ (by decide +kernel)) ggX4_approvers_X0_holdsFor
theorem dX4_approvers_0 : decode cX4_approvers 0 = .ok (.aload_n 0, 1) := by decide +kernel
theorem dX4_approvers_1 : decode cX4_approvers 1 = .ok (.iload_n 1, 1) := by decide +kernel
theorem dX4_approvers_2 : decode cX4_approvers 2 = .ok (.invokevirtual 46, 3) := by decide +kernel
theorem dX4_approvers_5 : decode cX4_approvers 5 = .ok (.pop, 1) := by decide +kernel
theorem dX4_approvers_6 : decode cX4_approvers 6 = .ok (.iconst 0, 1) := by decide +kernel
theorem dX4_approvers_7 : decode cX4_approvers 7 = .ok (.istore_n 2, 1) := by decide +kernel
theorem dX4_approvers_8 : decode cX4_approvers 8 = .ok (.iconst 0, 1) := by decide +kernel
theorem dX4_approvers_9 : decode cX4_approvers 9 = .ok (.istore_n 3, 1) := by decide +kernel
theorem dX4_approvers_10 : decode cX4_approvers 10 = .ok (.iload_n 3, 1) := by decide +kernel
theorem dX4_approvers_11 : decode cX4_approvers 11 = .ok (.aload_n 0, 1) := by decide +kernel
theorem dX4_approvers_12 : decode cX4_approvers 12 = .ok (.getfield 39, 3) := by decide +kernel
theorem dX4_approvers_15 : decode cX4_approvers 15 = .ok (.arraylength, 1) := by decide +kernel
theorem dX4_approvers_16 : decode cX4_approvers 16 = .ok (.if_icmp .ge 41, 3) := by decide +kernel
theorem dX4_approvers_19 : decode cX4_approvers 19 = .ok (.aload_n 0, 1) := by decide +kernel
theorem dX4_approvers_20 : decode cX4_approvers 20 = .ok (.getfield 39, 3) := by decide +kernel
theorem dX4_approvers_23 : decode cX4_approvers 23 = .ok (.iload_n 3, 1) := by decide +kernel
theorem dX4_approvers_24 : decode cX4_approvers 24 = .ok (.aaload, 1) := by decide +kernel
theorem dX4_approvers_25 : decode cX4_approvers 25 = .ok (.astore 4, 2) := by decide +kernel
theorem dX4_approvers_27 : decode cX4_approvers 27 = .ok (.aload 4, 2) := by decide +kernel
theorem dX4_approvers_29 : decode cX4_approvers 29 = .ok (.ifnull 22, 3) := by decide +kernel
theorem dX4_approvers_32 : decode cX4_approvers 32 = .ok (.aload 4, 2) := by decide +kernel
theorem dX4_approvers_34 : decode cX4_approvers 34 = .ok (.iload_n 1, 1) := by decide +kernel
theorem dX4_approvers_35 : decode cX4_approvers 35 = .ok (.invokevirtual 184, 3) := by decide +kernel
theorem dX4_approvers_38 : decode cX4_approvers 38 = .ok (.ifCond .eq 13, 3) := by decide +kernel
theorem dX4_approvers_41 : decode cX4_approvers 41 = .ok (.iload_n 2, 1) := by decide +kernel
theorem dX4_approvers_42 : decode cX4_approvers 42 = .ok (.iconst 1, 1) := by decide +kernel
theorem dX4_approvers_43 : decode cX4_approvers 43 = .ok (.aload 4, 2) := by decide +kernel
theorem dX4_approvers_45 : decode cX4_approvers 45 = .ok (.getfield 188, 3) := by decide +kernel
theorem dX4_approvers_48 : decode cX4_approvers 48 = .ok (.ishl, 1) := by decide +kernel
theorem dX4_approvers_49 : decode cX4_approvers 49 = .ok (.ior, 1) := by decide +kernel
theorem dX4_approvers_50 : decode cX4_approvers 50 = .ok (.istore_n 2, 1) := by decide +kernel
theorem dX4_approvers_51 : decode cX4_approvers 51 = .ok (.iinc 3 1, 3) := by decide +kernel
theorem dX4_approvers_54 : decode cX4_approvers 54 = .ok (.goto (-44), 3) := by decide +kernel
theorem dX4_approvers_57 : decode cX4_approvers 57 = .ok (.iload_n 2, 1) := by decide +kernel
theorem dX4_approvers_58 : decode cX4_approvers 58 = .ok (.ireturn, 1) := by decide +kernel
set_option maxRecDepth 20000 in
theorem ggX4_breaks_X4_presentBox : GoodIn wsX4_breaks wsX4_presentBox := goodIn_ca (goodIn_r _ [11, 12, 13, 14, 15, 16, 17, 10, 18, 19, 124, 125, 126, 127, 128, 129, 130, 131, 132, 133, 134, 135, 136, 137, 138, 139, 140] (by decide +kernel) (by decide +kernel)) (goodIn_sub (fun _ h => List.mem_cons_of_mem _ (List.mem_append_left _ (List.mem_append_right _ h))) (by decide +kernel))
set_option maxRecDepth 20000 in
theorem gX4_breaks_X4_presentBox : GoodIn wsX4_breaks (wsV RX4 73 RX4 yX4_presentBox wsX4_presentBox) := goodIn_app (goodIn_of _ (by decide +kernel)) ggX4_breaks_X4_presentBox
set_option maxRecDepth 20000 in
theorem ggX4_breaks_X4_checkWithinPage : GoodIn wsX4_breaks wsX4_checkWithinPage := goodIn_ca (goodIn_r _ [22, 23, 24] (by decide +kernel) (by decide +kernel)) (goodIn_sub (fun _ h => List.mem_cons_of_mem _ (List.mem_append_right _ h)) (by decide +kernel))
set_option maxRecDepth 20000 in
theorem gX4_breaks_X4_checkWithinPage : GoodIn wsX4_breaks (va_wsS RX4 57 yX4_checkWithinPage wsX4_checkWithinPage) := goodIn_app (goodIn_of _ (by decide +kernel)) ggX4_breaks_X4_checkWithinPage
set_option maxRecDepth 20000 in
theorem ggX4_breaks_X4_readByCuts : GoodIn wsX4_breaks wsX4_readByCuts := goodIn_r _ [28, 29, 30, 31, 32, 10, 33, 34, 14, 5, 35, 15, 16, 17, 18, 19, 36, 37, 38, 39, 40, 41, 42, 43, 44, 45, 46, 47, 48, 49, 50, 51, 52, 53, 54, 55, 56, 57, 58, 59, 60, 61, 62, 63, 64, 65, 66, 67, 68, 69, 70, 71, 72, 73, 74, 75, 76, 77, 78, 79, 80, 81, 82, 83, 84, 85, 86, 87, 88, 89, 90, 91, 92, 93, 94, 95, 96, 97, 98, 141, 142, 134, 135, 136, 137, 138, 139, 140, 124, 125, 126, 127, 128, 129, 130, 131, 132, 133] (by decide +kernel) (by decide +kernel)
set_option maxRecDepth 20000 in
theorem gX4_breaks_X4_readByCuts : GoodIn wsX4_breaks (wsV RX4 191 RX4 yX4_readByCuts wsX4_readByCuts) := goodIn_app (goodIn_of _ (by decide +kernel)) ggX4_breaks_X4_readByCuts
set_option maxRecDepth 20000 in
theorem ggX4_breaks_X4_readingOf : GoodIn wsX4_breaks wsX4_readingOf := goodIn_ca (goodIn_r _ [102, 12, 13, 103, 134, 135, 136, 137, 138, 139, 140] (by decide +kernel) (by decide +kernel)) (goodIn_sub (fun _ h => List.mem_cons_of_mem _ (List.mem_append_left _ (List.mem_append_right _ h))) (by decide +kernel))
set_option maxRecDepth 20000 in
theorem gX4_breaks_X4_readingOf : GoodIn wsX4_breaks (wsV RX4 46 RX4 yX4_readingOf wsX4_readingOf) := goodIn_app (goodIn_of _ (by decide +kernel)) ggX4_breaks_X4_readingOf
set_option maxRecDepth 20000 in
theorem ggX4_breaks_X3_isSameAs : GoodIn wsX4_breaks wsX3_isSameAs := goodIn_r _ [107, 93, 108, 109, 110, 91, 111, 94, 141, 142] (by decide +kernel) (by decide +kernel)
set_option maxRecDepth 20000 in
theorem gX4_breaks_X3_isSameAs : GoodIn wsX4_breaks (wsV RX4 194 RX3 yX3_isSameAs wsX3_isSameAs) := goodIn_app (goodIn_of _ (by decide +kernel)) ggX4_breaks_X3_isSameAs
set_option maxRecDepth 20000 in
theorem ggX4_breaks_X4_countHolding : GoodIn wsX4_breaks wsX4_countHolding := goodIn_r _ [115, 116, 117, 118, 119, 120, 121, 122, 123, 134, 135, 136, 137, 138, 139, 140, 143, 144, 145] (by decide +kernel) (by decide +kernel)
set_option maxRecDepth 20000 in
theorem gX4_breaks_X4_countHolding : GoodIn wsX4_breaks (wsV RX4 198 RX4 yX4_countHolding wsX4_countHolding) := goodIn_app (goodIn_of _ (by decide +kernel)) ggX4_breaks_X4_countHolding
theorem dX4_breaks_0 : decode cX4_breaks 0 = .ok (.aload_n 0, 1) := by decide +kernel
theorem dX4_breaks_1 : decode cX4_breaks 1 = .ok (.iload_n 1, 1) := by decide +kernel
theorem dX4_breaks_2 : decode cX4_breaks 2 = .ok (.invokevirtual 73, 3) := by decide +kernel
theorem dX4_breaks_5 : decode cX4_breaks 5 = .ok (.astore 4, 2) := by decide +kernel
theorem dX4_breaks_7 : decode cX4_breaks 7 = .ok (.iload_n 2, 1) := by decide +kernel
theorem dX4_breaks_8 : decode cX4_breaks 8 = .ok (.iload_n 3, 1) := by decide +kernel
theorem dX4_breaks_9 : decode cX4_breaks 9 = .ok (.aload 4, 2) := by decide +kernel
theorem dX4_breaks_11 : decode cX4_breaks 11 = .ok (.getfield 77, 3) := by decide +kernel
theorem dX4_breaks_14 : decode cX4_breaks 14 = .ok (.aload 4, 2) := by decide +kernel
theorem dX4_breaks_16 : decode cX4_breaks 16 = .ok (.getfield 80, 3) := by decide +kernel
theorem dX4_breaks_19 : decode cX4_breaks 19 = .ok (.invokestatic 57, 3) := by decide +kernel
theorem dX4_breaks_22 : decode cX4_breaks 22 = .ok (.aload 4, 2) := by decide +kernel
theorem dX4_breaks_24 : decode cX4_breaks 24 = .ok (.getfield 83, 3) := by decide +kernel
theorem dX4_breaks_27 : decode cX4_breaks 27 = .ok (.istore 5, 2) := by decide +kernel
theorem dX4_breaks_29 : decode cX4_breaks 29 = .ok (.aload 4, 2) := by decide +kernel
theorem dX4_breaks_31 : decode cX4_breaks 31 = .ok (.getfield 86, 3) := by decide +kernel
theorem dX4_breaks_34 : decode cX4_breaks 34 = .ok (.istore 6, 2) := by decide +kernel
theorem dX4_breaks_36 : decode cX4_breaks 36 = .ok (.aload 4, 2) := by decide +kernel
theorem dX4_breaks_38 : decode cX4_breaks 38 = .ok (.iload_n 2, 1) := by decide +kernel
theorem dX4_breaks_39 : decode cX4_breaks 39 = .ok (.putfield 83, 3) := by decide +kernel
theorem dX4_breaks_42 : decode cX4_breaks 42 = .ok (.aload 4, 2) := by decide +kernel
theorem dX4_breaks_44 : decode cX4_breaks 44 = .ok (.iload_n 3, 1) := by decide +kernel
theorem dX4_breaks_45 : decode cX4_breaks 45 = .ok (.putfield 86, 3) := by decide +kernel
theorem dX4_breaks_48 : decode cX4_breaks 48 = .ok (.aload_n 0, 1) := by decide +kernel
theorem dX4_breaks_49 : decode cX4_breaks 49 = .ok (.aload 4, 2) := by decide +kernel
theorem dX4_breaks_51 : decode cX4_breaks 51 = .ok (.getfield 89, 3) := by decide +kernel
theorem dX4_breaks_54 : decode cX4_breaks 54 = .ok (.aload_n 0, 1) := by decide +kernel
theorem dX4_breaks_55 : decode cX4_breaks 55 = .ok (.getfield 26, 3) := by decide +kernel
theorem dX4_breaks_58 : decode cX4_breaks 58 = .ok (.invokevirtual 191, 3) := by decide +kernel
theorem dX4_breaks_61 : decode cX4_breaks 61 = .ok (.aload 4, 2) := by decide +kernel
theorem dX4_breaks_63 : decode cX4_breaks 63 = .ok (.iload 5, 2) := by decide +kernel
theorem dX4_breaks_65 : decode cX4_breaks 65 = .ok (.putfield 83, 3) := by decide +kernel
theorem dX4_breaks_68 : decode cX4_breaks 68 = .ok (.aload 4, 2) := by decide +kernel
theorem dX4_breaks_70 : decode cX4_breaks 70 = .ok (.iload 6, 2) := by decide +kernel
theorem dX4_breaks_72 : decode cX4_breaks 72 = .ok (.putfield 86, 3) := by decide +kernel
theorem dX4_breaks_75 : decode cX4_breaks 75 = .ok (.aload_n 0, 1) := by decide +kernel
theorem dX4_breaks_76 : decode cX4_breaks 76 = .ok (.getfield 26, 3) := by decide +kernel
theorem dX4_breaks_79 : decode cX4_breaks 79 = .ok (.aload_n 0, 1) := by decide +kernel
theorem dX4_breaks_80 : decode cX4_breaks 80 = .ok (.aload 4, 2) := by decide +kernel
theorem dX4_breaks_82 : decode cX4_breaks 82 = .ok (.getfield 89, 3) := by decide +kernel
theorem dX4_breaks_85 : decode cX4_breaks 85 = .ok (.invokevirtual 46, 3) := by decide +kernel
theorem dX4_breaks_88 : decode cX4_breaks 88 = .ok (.invokevirtual 194, 3) := by decide +kernel
theorem dX4_breaks_91 : decode cX4_breaks 91 = .ok (.ifCond .eq 7, 3) := by decide +kernel
theorem dX4_breaks_94 : decode cX4_breaks 94 = .ok (.iconst 0, 1) := by decide +kernel
theorem dX4_breaks_95 : decode cX4_breaks 95 = .ok (.goto 12, 3) := by decide +kernel
theorem dX4_breaks_98 : decode cX4_breaks 98 = .ok (.aload_n 0, 1) := by decide +kernel
theorem dX4_breaks_99 : decode cX4_breaks 99 = .ok (.aload 4, 2) := by decide +kernel
theorem dX4_breaks_101 : decode cX4_breaks 101 = .ok (.getfield 89, 3) := by decide +kernel
theorem dX4_breaks_104 : decode cX4_breaks 104 = .ok (.invokevirtual 198, 3) := by decide +kernel
theorem dX4_breaks_107 : decode cX4_breaks 107 = .ok (.ireturn, 1) := by decide +kernel
theorem dX4_readingOf_0 : decode cX4_readingOf 0 = .ok (.iload_n 1, 1) := by decide +kernel
theorem dX4_readingOf_1 : decode cX4_readingOf 1 = .ok (.ifCond .lt 21, 3) := by decide +kernel
theorem dX4_readingOf_4 : decode cX4_readingOf 4 = .ok (.iload_n 1, 1) := by decide +kernel
theorem dX4_readingOf_5 : decode cX4_readingOf 5 = .ok (.aload_n 0, 1) := by decide +kernel
theorem dX4_readingOf_6 : decode cX4_readingOf 6 = .ok (.getfield 21, 3) := by decide +kernel
theorem dX4_readingOf_9 : decode cX4_readingOf 9 = .ok (.arraylength, 1) := by decide +kernel
theorem dX4_readingOf_10 : decode cX4_readingOf 10 = .ok (.if_icmp .ge 12, 3) := by decide +kernel
theorem dX4_readingOf_13 : decode cX4_readingOf 13 = .ok (.aload_n 0, 1) := by decide +kernel
theorem dX4_readingOf_14 : decode cX4_readingOf 14 = .ok (.getfield 21, 3) := by decide +kernel
theorem dX4_readingOf_17 : decode cX4_readingOf 17 = .ok (.iload_n 1, 1) := by decide +kernel
theorem dX4_readingOf_18 : decode cX4_readingOf 18 = .ok (.aaload, 1) := by decide +kernel
theorem dX4_readingOf_19 : decode cX4_readingOf 19 = .ok (.goto 4, 3) := by decide +kernel
theorem dX4_readingOf_22 : decode cX4_readingOf 22 = .ok (.aconst_null, 1) := by decide +kernel
theorem dX4_readingOf_23 : decode cX4_readingOf 23 = .ok (.astore_n 2, 1) := by decide +kernel
theorem dX4_readingOf_24 : decode cX4_readingOf 24 = .ok (.aload_n 2, 1) := by decide +kernel
theorem dX4_readingOf_25 : decode cX4_readingOf 25 = .ok (.ifnonnull 13, 3) := by decide +kernel
theorem dX4_readingOf_28 : decode cX4_readingOf 28 = .ok (.new 142, 3) := by decide +kernel
theorem dX4_readingOf_31 : decode cX4_readingOf 31 = .ok (.dup, 1) := by decide +kernel
theorem dX4_readingOf_32 : decode cX4_readingOf 32 = .ok (.ldc 201, 2) := by decide +kernel
theorem dX4_readingOf_34 : decode cX4_readingOf 34 = .ok (.invokespecial 146, 3) := by decide +kernel
theorem dX4_readingOf_37 : decode cX4_readingOf 37 = .ok (.athrow, 1) := by decide +kernel
theorem dX4_readingOf_38 : decode cX4_readingOf 38 = .ok (.aload_n 2, 1) := by decide +kernel
theorem dX4_readingOf_39 : decode cX4_readingOf 39 = .ok (.areturn, 1) := by decide +kernel
set_option maxRecDepth 20000 in
theorem ggX4_presentBox_X4_madeBox : GoodIn wsX4_presentBox wsX4_madeBox := goodIn_r _ [8, 9, 20, 21, 22, 23, 24, 25, 26] (by decide +kernel) (by decide +kernel)
set_option maxRecDepth 20000 in
theorem gX4_presentBox_X4_madeBox : GoodIn wsX4_presentBox (wsV RX4 139 RX4 yX4_madeBox wsX4_madeBox) := goodIn_app (goodIn_of _ (by decide +kernel)) ggX4_presentBox_X4_madeBox
theorem dX4_presentBox_0 : decode cX4_presentBox 0 = .ok (.aload_n 0, 1) := by decide +kernel
theorem dX4_presentBox_1 : decode cX4_presentBox 1 = .ok (.iload_n 1, 1) := by decide +kernel
theorem dX4_presentBox_2 : decode cX4_presentBox 2 = .ok (.invokevirtual 139, 3) := by decide +kernel
theorem dX4_presentBox_5 : decode cX4_presentBox 5 = .ok (.astore_n 2, 1) := by decide +kernel
theorem dX4_presentBox_6 : decode cX4_presentBox 6 = .ok (.aload_n 2, 1) := by decide +kernel
theorem dX4_presentBox_7 : decode cX4_presentBox 7 = .ok (.ifnull 10, 3) := by decide +kernel
theorem dX4_presentBox_10 : decode cX4_presentBox 10 = .ok (.aload_n 2, 1) := by decide +kernel
theorem dX4_presentBox_11 : decode cX4_presentBox 11 = .ok (.getfield 98, 3) := by decide +kernel
theorem dX4_presentBox_14 : decode cX4_presentBox 14 = .ok (.ifCond .eq 13, 3) := by decide +kernel
theorem dX4_presentBox_17 : decode cX4_presentBox 17 = .ok (.new 142, 3) := by decide +kernel
theorem dX4_presentBox_20 : decode cX4_presentBox 20 = .ok (.dup, 1) := by decide +kernel
theorem dX4_presentBox_21 : decode cX4_presentBox 21 = .ok (.ldc 203, 2) := by decide +kernel
theorem dX4_presentBox_23 : decode cX4_presentBox 23 = .ok (.invokespecial 146, 3) := by decide +kernel
theorem dX4_presentBox_26 : decode cX4_presentBox 26 = .ok (.athrow, 1) := by decide +kernel
theorem dX4_presentBox_27 : decode cX4_presentBox 27 = .ok (.aload_n 2, 1) := by decide +kernel
theorem dX4_presentBox_28 : decode cX4_presentBox 28 = .ok (.areturn, 1) := by decide +kernel
theorem dX4_checkPlace_0 : decode cX4_checkPlace 0 = .ok (.iload_n 0, 1) := by decide +kernel
theorem dX4_checkPlace_1 : decode cX4_checkPlace 1 = .ok (.ifCond .ge 13, 3) := by decide +kernel
theorem dX4_checkPlace_4 : decode cX4_checkPlace 4 = .ok (.new 142, 3) := by decide +kernel
theorem dX4_checkPlace_7 : decode cX4_checkPlace 7 = .ok (.dup, 1) := by decide +kernel
theorem dX4_checkPlace_8 : decode cX4_checkPlace 8 = .ok (.ldc 205, 2) := by decide +kernel
theorem dX4_checkPlace_10 : decode cX4_checkPlace 10 = .ok (.invokespecial 146, 3) := by decide +kernel
theorem dX4_checkPlace_13 : decode cX4_checkPlace 13 = .ok (.athrow, 1) := by decide +kernel
theorem dX4_checkPlace_14 : decode cX4_checkPlace 14 = .ok (.return_, 1) := by decide +kernel
theorem dX4_checkWithinPage_0 : decode cX4_checkWithinPage 0 = .ok (.iload_n 0, 1) := by decide +kernel
theorem dX4_checkWithinPage_1 : decode cX4_checkWithinPage 1 = .ok (.ifCond .lt 45, 3) := by decide +kernel
theorem dX4_checkWithinPage_4 : decode cX4_checkWithinPage 4 = .ok (.iload_n 1, 1) := by decide +kernel
theorem dX4_checkWithinPage_5 : decode cX4_checkWithinPage 5 = .ok (.ifCond .lt 41, 3) := by decide +kernel
theorem dX4_checkWithinPage_8 : decode cX4_checkWithinPage 8 = .ok (.iload_n 2, 1) := by decide +kernel
theorem dX4_checkWithinPage_9 : decode cX4_checkWithinPage 9 = .ok (.iconst 1, 1) := by decide +kernel
theorem dX4_checkWithinPage_10 : decode cX4_checkWithinPage 10 = .ok (.if_icmp .lt 36, 3) := by decide +kernel
theorem dX4_checkWithinPage_13 : decode cX4_checkWithinPage 13 = .ok (.iload_n 3, 1) := by decide +kernel
theorem dX4_checkWithinPage_14 : decode cX4_checkWithinPage 14 = .ok (.iconst 1, 1) := by decide +kernel
theorem dX4_checkWithinPage_15 : decode cX4_checkWithinPage 15 = .ok (.if_icmp .lt 31, 3) := by decide +kernel
theorem dX4_checkWithinPage_18 : decode cX4_checkWithinPage 18 = .ok (.iload_n 0, 1) := by decide +kernel
theorem dX4_checkWithinPage_19 : decode cX4_checkWithinPage 19 = .ok (.bipush 60, 2) := by decide +kernel
theorem dX4_checkWithinPage_21 : decode cX4_checkWithinPage 21 = .ok (.if_icmp .gt 25, 3) := by decide +kernel
theorem dX4_checkWithinPage_24 : decode cX4_checkWithinPage 24 = .ok (.iload_n 2, 1) := by decide +kernel
theorem dX4_checkWithinPage_25 : decode cX4_checkWithinPage 25 = .ok (.bipush 60, 2) := by decide +kernel
theorem dX4_checkWithinPage_27 : decode cX4_checkWithinPage 27 = .ok (.iload_n 0, 1) := by decide +kernel
theorem dX4_checkWithinPage_28 : decode cX4_checkWithinPage 28 = .ok (.isub, 1) := by decide +kernel
theorem dX4_checkWithinPage_29 : decode cX4_checkWithinPage 29 = .ok (.if_icmp .gt 17, 3) := by decide +kernel
theorem dX4_checkWithinPage_32 : decode cX4_checkWithinPage 32 = .ok (.iload_n 1, 1) := by decide +kernel
theorem dX4_checkWithinPage_33 : decode cX4_checkWithinPage 33 = .ok (.bipush 80, 2) := by decide +kernel
theorem dX4_checkWithinPage_35 : decode cX4_checkWithinPage 35 = .ok (.if_icmp .gt 11, 3) := by decide +kernel
theorem dX4_checkWithinPage_38 : decode cX4_checkWithinPage 38 = .ok (.iload_n 3, 1) := by decide +kernel
theorem dX4_checkWithinPage_39 : decode cX4_checkWithinPage 39 = .ok (.bipush 80, 2) := by decide +kernel
theorem dX4_checkWithinPage_41 : decode cX4_checkWithinPage 41 = .ok (.iload_n 1, 1) := by decide +kernel
theorem dX4_checkWithinPage_42 : decode cX4_checkWithinPage 42 = .ok (.isub, 1) := by decide +kernel
theorem dX4_checkWithinPage_43 : decode cX4_checkWithinPage 43 = .ok (.if_icmp .le 13, 3) := by decide +kernel
theorem dX4_checkWithinPage_46 : decode cX4_checkWithinPage 46 = .ok (.new 50, 3) := by decide +kernel
theorem dX4_checkWithinPage_49 : decode cX4_checkWithinPage 49 = .ok (.dup, 1) := by decide +kernel
theorem dX4_checkWithinPage_50 : decode cX4_checkWithinPage 50 = .ok (.ldc 207, 2) := by decide +kernel
theorem dX4_checkWithinPage_52 : decode cX4_checkWithinPage 52 = .ok (.invokespecial 54, 3) := by decide +kernel
theorem dX4_checkWithinPage_55 : decode cX4_checkWithinPage 55 = .ok (.athrow, 1) := by decide +kernel
theorem dX4_checkWithinPage_56 : decode cX4_checkWithinPage 56 = .ok (.return_, 1) := by decide +kernel
theorem dX4_madeBox_0 : decode cX4_madeBox 0 = .ok (.iload_n 1, 1) := by decide +kernel
theorem dX4_madeBox_1 : decode cX4_madeBox 1 = .ok (.ifCond .lt 21, 3) := by decide +kernel
theorem dX4_madeBox_4 : decode cX4_madeBox 4 = .ok (.iload_n 1, 1) := by decide +kernel
theorem dX4_madeBox_5 : decode cX4_madeBox 5 = .ok (.aload_n 0, 1) := by decide +kernel
theorem dX4_madeBox_6 : decode cX4_madeBox 6 = .ok (.getfield 11, 3) := by decide +kernel
theorem dX4_madeBox_9 : decode cX4_madeBox 9 = .ok (.arraylength, 1) := by decide +kernel
theorem dX4_madeBox_10 : decode cX4_madeBox 10 = .ok (.if_icmp .ge 12, 3) := by decide +kernel
theorem dX4_madeBox_13 : decode cX4_madeBox 13 = .ok (.aload_n 0, 1) := by decide +kernel
theorem dX4_madeBox_14 : decode cX4_madeBox 14 = .ok (.getfield 11, 3) := by decide +kernel
theorem dX4_madeBox_17 : decode cX4_madeBox 17 = .ok (.iload_n 1, 1) := by decide +kernel
theorem dX4_madeBox_18 : decode cX4_madeBox 18 = .ok (.aaload, 1) := by decide +kernel
theorem dX4_madeBox_19 : decode cX4_madeBox 19 = .ok (.goto 4, 3) := by decide +kernel
theorem dX4_madeBox_22 : decode cX4_madeBox 22 = .ok (.aconst_null, 1) := by decide +kernel
theorem dX4_madeBox_23 : decode cX4_madeBox 23 = .ok (.areturn, 1) := by decide +kernel
theorem dX4_numberOf_0 : decode cX4_numberOf 0 = .ok (.aload_n 0, 1) := by decide +kernel
theorem dX4_numberOf_1 : decode cX4_numberOf 1 = .ok (.ifnonnull 7, 3) := by decide +kernel
theorem dX4_numberOf_4 : decode cX4_numberOf 4 = .ok (.iconst (-1), 1) := by decide +kernel
theorem dX4_numberOf_5 : decode cX4_numberOf 5 = .ok (.goto 7, 3) := by decide +kernel
theorem dX4_numberOf_8 : decode cX4_numberOf 8 = .ok (.aload_n 0, 1) := by decide +kernel
theorem dX4_numberOf_9 : decode cX4_numberOf 9 = .ok (.getfield 130, 3) := by decide +kernel
theorem dX4_numberOf_12 : decode cX4_numberOf 12 = .ok (.ireturn, 1) := by decide +kernel
set_option maxRecDepth 20000 in
theorem ggX4_readAgain_X4_readingOf : GoodIn wsX4_readAgain wsX4_readingOf := goodIn_ca (goodIn_r _ [6, 7, 8, 9, 117, 118, 119, 120, 121, 122, 123] (by decide +kernel) (by decide +kernel)) (goodIn_sub (fun _ h => List.mem_cons_of_mem _ (List.mem_append_right _ h)) (by decide +kernel))
set_option maxRecDepth 20000 in
theorem gX4_readAgain_X4_readingOf : GoodIn wsX4_readAgain (wsV RX4 46 RX4 yX4_readingOf wsX4_readingOf) := goodIn_app (goodIn_of _ (by decide +kernel)) ggX4_readAgain_X4_readingOf
set_option maxRecDepth 20000 in
theorem ggX4_readAgain_X4_readByCuts : GoodIn wsX4_readAgain wsX4_readByCuts := goodIn_r _ [13, 14, 15, 16, 17, 5, 18, 19, 20, 21, 22, 23, 24, 25, 26, 27, 28, 29, 30, 31, 32, 33, 34, 35, 36, 37, 38, 39, 40, 41, 42, 43, 44, 45, 46, 47, 48, 49, 50, 51, 52, 53, 54, 55, 56, 57, 58, 59, 60, 61, 62, 63, 64, 65, 66, 67, 68, 69, 70, 71, 72, 73, 74, 75, 76, 77, 78, 79, 80, 81, 82, 83, 84, 85, 86, 87, 88, 89, 90, 124, 125, 117, 118, 119, 120, 121, 122, 123, 126, 127, 128, 129, 130, 131, 132, 133, 134, 135] (by decide +kernel) (by decide +kernel)
set_option maxRecDepth 20000 in
theorem gX4_readAgain_X4_readByCuts : GoodIn wsX4_readAgain (wsV RX4 191 RX4 yX4_readByCuts wsX4_readByCuts) := goodIn_app (goodIn_of _ (by decide +kernel)) ggX4_readAgain_X4_readByCuts
set_option maxRecDepth 20000 in
theorem ggX4_readAgain_X3_isSameAs : GoodIn wsX4_readAgain wsX3_isSameAs := goodIn_r _ [94, 85, 95, 96, 97, 83, 98, 86, 124, 125] (by decide +kernel) (by decide +kernel)
set_option maxRecDepth 20000 in
theorem gX4_readAgain_X3_isSameAs : GoodIn wsX4_readAgain (wsV RX4 194 RX3 yX3_isSameAs wsX3_isSameAs) := goodIn_app (goodIn_of _ (by decide +kernel)) ggX4_readAgain_X3_isSameAs
set_option maxRecDepth 20000 in
theorem ggX4_readAgain_X3_become : GoodIn wsX4_readAgain wsX3_become := goodIn_r _ [102, 85, 95, 96, 97, 83, 98, 86, 103, 81, 82, 84, 124, 125] (by decide +kernel) (by decide +kernel)
set_option maxRecDepth 20000 in
theorem gX4_readAgain_X3_become : GoodIn wsX4_readAgain (wsV RX4 209 RX3 yX3_become wsX3_become) := goodIn_app (goodIn_of _ (by decide +kernel)) ggX4_readAgain_X3_become
set_option maxRecDepth 20000 in
theorem ggX4_readAgain_X4_letFall : GoodIn wsX4_readAgain wsX4_letFall := goodIn_r _ [107, 108, 109, 110, 111, 112, 113, 114, 115, 116, 117, 118, 119, 120, 121, 122, 123, 136, 137, 138] (by decide +kernel) (by decide +kernel)
set_option maxRecDepth 20000 in
theorem gX4_readAgain_X4_letFall : GoodIn wsX4_readAgain (wsV RX4 213 RX4 yX4_letFall wsX4_letFall) := goodIn_app (goodIn_of _ (by decide +kernel)) ggX4_readAgain_X4_letFall
theorem dX4_readAgain_0 : decode cX4_readAgain 0 = .ok (.aload_n 0, 1) := by decide +kernel
theorem dX4_readAgain_1 : decode cX4_readAgain 1 = .ok (.iload_n 1, 1) := by decide +kernel
theorem dX4_readAgain_2 : decode cX4_readAgain 2 = .ok (.invokevirtual 46, 3) := by decide +kernel
theorem dX4_readAgain_5 : decode cX4_readAgain 5 = .ok (.astore_n 2, 1) := by decide +kernel
theorem dX4_readAgain_6 : decode cX4_readAgain 6 = .ok (.aload_n 0, 1) := by decide +kernel
theorem dX4_readAgain_7 : decode cX4_readAgain 7 = .ok (.iload_n 1, 1) := by decide +kernel
theorem dX4_readAgain_8 : decode cX4_readAgain 8 = .ok (.aload_n 0, 1) := by decide +kernel
theorem dX4_readAgain_9 : decode cX4_readAgain 9 = .ok (.getfield 26, 3) := by decide +kernel
theorem dX4_readAgain_12 : decode cX4_readAgain 12 = .ok (.invokevirtual 191, 3) := by decide +kernel
theorem dX4_readAgain_15 : decode cX4_readAgain 15 = .ok (.aload_n 0, 1) := by decide +kernel
theorem dX4_readAgain_16 : decode cX4_readAgain 16 = .ok (.getfield 26, 3) := by decide +kernel
theorem dX4_readAgain_19 : decode cX4_readAgain 19 = .ok (.aload_n 2, 1) := by decide +kernel
theorem dX4_readAgain_20 : decode cX4_readAgain 20 = .ok (.invokevirtual 194, 3) := by decide +kernel
theorem dX4_readAgain_23 : decode cX4_readAgain 23 = .ok (.ifCond .eq 5, 3) := by decide +kernel
theorem dX4_readAgain_26 : decode cX4_readAgain 26 = .ok (.iconst 0, 1) := by decide +kernel
theorem dX4_readAgain_27 : decode cX4_readAgain 27 = .ok (.ireturn, 1) := by decide +kernel
theorem dX4_readAgain_28 : decode cX4_readAgain 28 = .ok (.aload_n 2, 1) := by decide +kernel
theorem dX4_readAgain_29 : decode cX4_readAgain 29 = .ok (.aload_n 0, 1) := by decide +kernel
theorem dX4_readAgain_30 : decode cX4_readAgain 30 = .ok (.getfield 26, 3) := by decide +kernel
theorem dX4_readAgain_33 : decode cX4_readAgain 33 = .ok (.invokevirtual 209, 3) := by decide +kernel
theorem dX4_readAgain_36 : decode cX4_readAgain 36 = .ok (.aload_n 0, 1) := by decide +kernel
theorem dX4_readAgain_37 : decode cX4_readAgain 37 = .ok (.iload_n 1, 1) := by decide +kernel
theorem dX4_readAgain_38 : decode cX4_readAgain 38 = .ok (.invokevirtual 213, 3) := by decide +kernel
theorem dX4_readAgain_41 : decode cX4_readAgain 41 = .ok (.ireturn, 1) := by decide +kernel
set_option maxRecDepth 20000 in
theorem ggX4_readByCuts_X4_boxesThatFollowNone : GoodIn wsX4_readByCuts wsX4_boxesThatFollowNone := goodIn_r _ [6, 7, 8, 9, 10, 11, 12, 13, 5, 14, 15, 81, 82, 83, 84, 85, 86, 87, 88, 89, 90, 91, 92, 93, 94, 95, 96, 97] (by decide +kernel) (by decide +kernel)
set_option maxRecDepth 20000 in
theorem gX4_readByCuts_X4_boxesThatFollowNone : GoodIn wsX4_readByCuts (wsV RX4 216 RX4 yX4_boxesThatFollowNone wsX4_boxesThatFollowNone) := goodIn_app (goodIn_of _ (by decide +kernel)) ggX4_readByCuts_X4_boxesThatFollowNone
set_option maxRecDepth 20000 in
theorem ggX4_readByCuts_X4_readSet : GoodIn wsX4_readByCuts wsX4_readSet := goodIn_r _ [19, 20, 21, 22, 5, 23, 24, 25, 26, 27, 7, 28, 29, 30, 31, 32, 33, 34, 35, 15, 36, 37, 38, 39, 40, 41, 42, 43, 44, 45, 46, 47, 48, 49, 50, 51, 52, 53, 54, 55, 56, 57, 58, 59, 60, 61, 62, 63, 64, 65, 66, 67, 68, 69, 70, 71, 72, 73, 74, 75, 76, 77, 78, 16, 17, 18, 81, 82, 83, 84, 85, 86, 87, 88, 89, 90, 91, 92, 93, 94, 95, 96, 97, 79, 80] (by decide +kernel) (by decide +kernel)
set_option maxRecDepth 20000 in
theorem gX4_readByCuts_X4_readSet : GoodIn wsX4_readByCuts (wsV RX4 219 RX4 yX4_readSet wsX4_readSet) := goodIn_app (goodIn_of _ (by decide +kernel)) ggX4_readByCuts_X4_readSet
theorem dX4_readByCuts_0 : decode cX4_readByCuts 0 = .ok (.aload_n 2, 1) := by decide +kernel
theorem dX4_readByCuts_1 : decode cX4_readByCuts 1 = .ok (.iconst 0, 1) := by decide +kernel
theorem dX4_readByCuts_2 : decode cX4_readByCuts 2 = .ok (.putfield 136, 3) := by decide +kernel
theorem dX4_readByCuts_5 : decode cX4_readByCuts 5 = .ok (.aload_n 0, 1) := by decide +kernel
theorem dX4_readByCuts_6 : decode cX4_readByCuts 6 = .ok (.aload_n 0, 1) := by decide +kernel
theorem dX4_readByCuts_7 : decode cX4_readByCuts 7 = .ok (.iload_n 1, 1) := by decide +kernel
theorem dX4_readByCuts_8 : decode cX4_readByCuts 8 = .ok (.invokevirtual 216, 3) := by decide +kernel
theorem dX4_readByCuts_11 : decode cX4_readByCuts 11 = .ok (.aload_n 2, 1) := by decide +kernel
theorem dX4_readByCuts_12 : decode cX4_readByCuts 12 = .ok (.iconst 0, 1) := by decide +kernel
theorem dX4_readByCuts_13 : decode cX4_readByCuts 13 = .ok (.invokevirtual 219, 3) := by decide +kernel
theorem dX4_readByCuts_16 : decode cX4_readByCuts 16 = .ok (.return_, 1) := by decide +kernel
set_option maxRecDepth 20000 in
theorem ggX4_readSet_X4_cutOff : GoodIn wsX4_readSet wsX4_cutOff := goodIn_r _ [5, 6, 7, 8, 4, 9, 10, 11, 12, 13, 14, 15, 16, 17, 18, 19, 20, 21, 22, 23, 24, 25, 26, 27, 28, 29, 30, 31, 32, 33, 34, 35, 36, 66, 67, 68, 69, 70, 71, 72, 73, 74, 75, 76, 77, 78, 79, 80, 81, 82] (by decide +kernel) (by decide +kernel)
set_option maxRecDepth 20000 in
theorem gX4_readSet_X4_cutOff : GoodIn wsX4_readSet (wsV RX4 223 RX4 yX4_cutOff wsX4_cutOff) := goodIn_app (goodIn_of _ (by decide +kernel)) ggX4_readSet_X4_cutOff
set_option maxRecDepth 20000 in
theorem ggX4_readSet_X4_readUncut : GoodIn wsX4_readSet wsX4_readUncut := goodIn_r _ [40, 41, 42, 43, 44, 45, 4, 46, 10, 15, 16, 17, 18, 19, 47, 48, 49, 23, 50, 25, 27, 51, 52, 53, 54, 55, 56, 57, 58, 73, 74, 75, 76, 77, 78, 79, 80, 81, 82, 66, 67, 68, 69, 70, 71, 72, 83, 84] (by decide +kernel) (by decide +kernel)
set_option maxRecDepth 20000 in
theorem gX4_readSet_X4_readUncut : GoodIn wsX4_readSet (wsV RX4 226 RX4 yX4_readUncut wsX4_readUncut) := goodIn_app (goodIn_of _ (by decide +kernel)) ggX4_readSet_X4_readUncut
set_option maxRecDepth 20000 in
theorem ggX4_readSet_X4_readParts : GoodIn wsX4_readSet wsX4_readParts := goodIn_r _ [62, 63, 64, 65, 4, 0, 1, 2, 3, 5, 6, 7, 8, 9, 10, 11, 12, 13, 14, 15, 16, 17, 18, 19, 20, 21, 22, 23, 24, 25, 26, 27, 28, 29, 30, 31, 32, 33, 34, 35, 36, 37, 38, 39, 40, 41, 42, 43, 44, 45, 46, 47, 48, 49, 50, 51, 52, 53, 54, 55, 56, 57, 58, 59, 60, 61, 66, 67, 68, 69, 70, 71, 72, 73, 74, 75, 76, 77, 78, 79, 80, 81, 82, 83, 84] (by decide +kernel) (by decide +kernel)
set_option maxRecDepth 20000 in
theorem gX4_readSet_X4_readParts : GoodIn wsX4_readSet (wsV RX4 229 RX4 yX4_readParts wsX4_readParts) := goodIn_app (goodIn_of _ (by decide +kernel)) ggX4_readSet_X4_readParts
theorem dX4_readSet_0 : decode cX4_readSet 0 = .ok (.iload_n 3, 1) := by decide +kernel
theorem dX4_readSet_1 : decode cX4_readSet 1 = .ok (.bipush 24, 2) := by decide +kernel
theorem dX4_readSet_3 : decode cX4_readSet 3 = .ok (.if_icmp .ge 11, 3) := by decide +kernel
theorem dX4_readSet_6 : decode cX4_readSet 6 = .ok (.aload_n 0, 1) := by decide +kernel
theorem dX4_readSet_7 : decode cX4_readSet 7 = .ok (.iload_n 1, 1) := by decide +kernel
theorem dX4_readSet_8 : decode cX4_readSet 8 = .ok (.invokevirtual 223, 3) := by decide +kernel
theorem dX4_readSet_11 : decode cX4_readSet 11 = .ok (.goto 4, 3) := by decide +kernel
theorem dX4_readSet_14 : decode cX4_readSet 14 = .ok (.iconst 0, 1) := by decide +kernel
theorem dX4_readSet_15 : decode cX4_readSet 15 = .ok (.istore 4, 2) := by decide +kernel
theorem dX4_readSet_17 : decode cX4_readSet 17 = .ok (.iload 4, 2) := by decide +kernel
theorem dX4_readSet_19 : decode cX4_readSet 19 = .ok (.ifCond .ne 12, 3) := by decide +kernel
theorem dX4_readSet_22 : decode cX4_readSet 22 = .ok (.aload_n 0, 1) := by decide +kernel
theorem dX4_readSet_23 : decode cX4_readSet 23 = .ok (.iload_n 1, 1) := by decide +kernel
theorem dX4_readSet_24 : decode cX4_readSet 24 = .ok (.aload_n 2, 1) := by decide +kernel
theorem dX4_readSet_25 : decode cX4_readSet 25 = .ok (.invokevirtual 226, 3) := by decide +kernel
theorem dX4_readSet_28 : decode cX4_readSet 28 = .ok (.goto 19, 3) := by decide +kernel
theorem dX4_readSet_31 : decode cX4_readSet 31 = .ok (.aload_n 0, 1) := by decide +kernel
theorem dX4_readSet_32 : decode cX4_readSet 32 = .ok (.iload 4, 2) := by decide +kernel
theorem dX4_readSet_34 : decode cX4_readSet 34 = .ok (.iload_n 1, 1) := by decide +kernel
theorem dX4_readSet_35 : decode cX4_readSet 35 = .ok (.iload 4, 2) := by decide +kernel
theorem dX4_readSet_37 : decode cX4_readSet 37 = .ok (.iconst (-1), 1) := by decide +kernel
theorem dX4_readSet_38 : decode cX4_readSet 38 = .ok (.ixor, 1) := by decide +kernel
theorem dX4_readSet_39 : decode cX4_readSet 39 = .ok (.iand, 1) := by decide +kernel
theorem dX4_readSet_40 : decode cX4_readSet 40 = .ok (.aload_n 2, 1) := by decide +kernel
theorem dX4_readSet_41 : decode cX4_readSet 41 = .ok (.iload_n 3, 1) := by decide +kernel
theorem dX4_readSet_42 : decode cX4_readSet 42 = .ok (.iconst 1, 1) := by decide +kernel
theorem dX4_readSet_43 : decode cX4_readSet 43 = .ok (.iadd, 1) := by decide +kernel
theorem dX4_readSet_44 : decode cX4_readSet 44 = .ok (.invokevirtual 229, 3) := by decide +kernel
theorem dX4_readSet_47 : decode cX4_readSet 47 = .ok (.return_, 1) := by decide +kernel
set_option maxRecDepth 20000 in
theorem ggX4_readParts_X4_readSet : GoodIn wsX4_readParts wsX4_readSet := goodIn_r _ [5, 6, 7, 8, 4, 9, 10, 11, 12, 13, 14, 15, 16, 17, 18, 19, 20, 21, 22, 23, 24, 25, 26, 27, 28, 29, 30, 31, 32, 33, 34, 35, 36, 37, 38, 39, 40, 41, 42, 43, 44, 45, 46, 47, 48, 49, 50, 51, 52, 53, 54, 55, 56, 57, 58, 59, 60, 61, 62, 63, 64, 65, 0, 1, 2, 3, 66, 67, 68, 69, 70, 71, 72, 73, 74, 75, 76, 77, 78, 79, 80, 81, 82, 83, 84] (by decide +kernel) (by decide +kernel)
set_option maxRecDepth 20000 in
theorem gX4_readParts_X4_readSet : GoodIn wsX4_readParts (wsV RX4 219 RX4 yX4_readSet wsX4_readSet) := goodIn_app (goodIn_of _ (by decide +kernel)) ggX4_readParts_X4_readSet
theorem dX4_readParts_0 : decode cX4_readParts 0 = .ok (.aload_n 0, 1) := by decide +kernel
theorem dX4_readParts_1 : decode cX4_readParts 1 = .ok (.iload_n 1, 1) := by decide +kernel
theorem dX4_readParts_2 : decode cX4_readParts 2 = .ok (.aload_n 3, 1) := by decide +kernel
theorem dX4_readParts_3 : decode cX4_readParts 3 = .ok (.iload 4, 2) := by decide +kernel
theorem dX4_readParts_5 : decode cX4_readParts 5 = .ok (.invokevirtual 219, 3) := by decide +kernel
theorem dX4_readParts_8 : decode cX4_readParts 8 = .ok (.aload_n 0, 1) := by decide +kernel
theorem dX4_readParts_9 : decode cX4_readParts 9 = .ok (.iload_n 2, 1) := by decide +kernel
theorem dX4_readParts_10 : decode cX4_readParts 10 = .ok (.aload_n 3, 1) := by decide +kernel
theorem dX4_readParts_11 : decode cX4_readParts 11 = .ok (.iload 4, 2) := by decide +kernel
theorem dX4_readParts_13 : decode cX4_readParts 13 = .ok (.invokevirtual 219, 3) := by decide +kernel
theorem dX4_readParts_16 : decode cX4_readParts 16 = .ok (.return_, 1) := by decide +kernel
set_option maxRecDepth 20000 in
theorem ggX4_readWithSetsAside_X4_boxesThatFollowNone : GoodIn wsX4_readWithSetsAside wsX4_boxesThatFollowNone := goodIn_r _ [8, 9, 10, 11, 12, 13, 14, 15, 7, 16, 17, 86, 87, 88, 89, 90, 91, 92, 95, 96, 97, 98, 99, 100, 101, 102, 103, 104] (by decide +kernel) (by decide +kernel)
set_option maxRecDepth 20000 in
theorem gX4_readWithSetsAside_X4_boxesThatFollowNone : GoodIn wsX4_readWithSetsAside (wsV RX4 216 RX4 yX4_boxesThatFollowNone wsX4_boxesThatFollowNone) := goodIn_app (goodIn_of _ (by decide +kernel)) ggX4_readWithSetsAside_X4_boxesThatFollowNone
set_option maxRecDepth 20000 in
theorem ggX4_readWithSetsAside_X2_put : GoodIn wsX4_readWithSetsAside wsX2_put := goodIn_r _ [22, 23, 24, 93, 94] (by decide +kernel) (by decide +kernel)
set_option maxRecDepth 20000 in
theorem gX4_readWithSetsAside_X2_put : GoodIn wsX4_readWithSetsAside (wsV RX4 234 RX2 yX2_put wsX2_put) := goodIn_app (goodIn_of _ (by decide +kernel)) ggX4_readWithSetsAside_X2_put
set_option maxRecDepth 20000 in
theorem ggX4_readWithSetsAside_X2_take : GoodIn wsX4_readWithSetsAside wsX2_take := goodIn_r _ [28, 23, 24, 93, 94] (by decide +kernel) (by decide +kernel)
set_option maxRecDepth 20000 in
theorem gX4_readWithSetsAside_X2_take : GoodIn wsX4_readWithSetsAside (wsV RX4 237 RX2 yX2_take wsX2_take) := goodIn_app (goodIn_of _ (by decide +kernel)) ggX4_readWithSetsAside_X2_take
set_option maxRecDepth 20000 in
theorem ggX4_readWithSetsAside_X4_cutOff : GoodIn wsX4_readWithSetsAside wsX4_cutOff := goodIn_r _ [32, 33, 34, 35, 7, 36, 9, 37, 38, 39, 40, 41, 42, 43, 44, 17, 45, 46, 47, 48, 49, 50, 51, 52, 53, 54, 55, 56, 57, 58, 59, 60, 61, 86, 87, 88, 89, 90, 91, 92, 95, 96, 97, 98, 99, 100, 101, 102, 103, 104] (by decide +kernel) (by decide +kernel)
set_option maxRecDepth 20000 in
theorem gX4_readWithSetsAside_X4_cutOff : GoodIn wsX4_readWithSetsAside (wsV RX4 223 RX4 yX4_cutOff wsX4_cutOff) := goodIn_app (goodIn_of _ (by decide +kernel)) ggX4_readWithSetsAside_X4_cutOff
set_option maxRecDepth 20000 in
theorem ggX4_readWithSetsAside_X4_readUncut : GoodIn wsX4_readWithSetsAside wsX4_readUncut := goodIn_r _ [65, 66, 67, 68, 69, 70, 7, 71, 9, 41, 42, 43, 44, 17, 72, 73, 74, 48, 75, 50, 52, 76, 77, 78, 79, 80, 81, 82, 83, 95, 96, 97, 98, 99, 100, 101, 102, 103, 104, 86, 87, 88, 89, 90, 91, 92, 84, 85] (by decide +kernel) (by decide +kernel)
set_option maxRecDepth 20000 in
theorem gX4_readWithSetsAside_X4_readUncut : GoodIn wsX4_readWithSetsAside (wsV RX4 226 RX4 yX4_readUncut wsX4_readUncut) := goodIn_app (goodIn_of _ (by decide +kernel)) ggX4_readWithSetsAside_X4_readUncut
theorem dX4_readWithSetsAside_0 : decode cX4_readWithSetsAside 0 = .ok (.aload_n 2, 1) := by decide +kernel
theorem dX4_readWithSetsAside_1 : decode cX4_readWithSetsAside 1 = .ok (.iconst 0, 1) := by decide +kernel
theorem dX4_readWithSetsAside_2 : decode cX4_readWithSetsAside 2 = .ok (.putfield 136, 3) := by decide +kernel
theorem dX4_readWithSetsAside_5 : decode cX4_readWithSetsAside 5 = .ok (.aload_n 0, 1) := by decide +kernel
theorem dX4_readWithSetsAside_6 : decode cX4_readWithSetsAside 6 = .ok (.getfield 33, 3) := by decide +kernel
theorem dX4_readWithSetsAside_9 : decode cX4_readWithSetsAside 9 = .ok (.iconst 0, 1) := by decide +kernel
theorem dX4_readWithSetsAside_10 : decode cX4_readWithSetsAside 10 = .ok (.putfield 233, 3) := by decide +kernel
theorem dX4_readWithSetsAside_13 : decode cX4_readWithSetsAside 13 = .ok (.aload_n 0, 1) := by decide +kernel
theorem dX4_readWithSetsAside_14 : decode cX4_readWithSetsAside 14 = .ok (.getfield 33, 3) := by decide +kernel
theorem dX4_readWithSetsAside_17 : decode cX4_readWithSetsAside 17 = .ok (.aload_n 0, 1) := by decide +kernel
theorem dX4_readWithSetsAside_18 : decode cX4_readWithSetsAside 18 = .ok (.iload_n 1, 1) := by decide +kernel
theorem dX4_readWithSetsAside_19 : decode cX4_readWithSetsAside 19 = .ok (.invokevirtual 216, 3) := by decide +kernel
theorem dX4_readWithSetsAside_22 : decode cX4_readWithSetsAside 22 = .ok (.invokevirtual 234, 3) := by decide +kernel
theorem dX4_readWithSetsAside_25 : decode cX4_readWithSetsAside 25 = .ok (.iconst 0, 1) := by decide +kernel
theorem dX4_readWithSetsAside_26 : decode cX4_readWithSetsAside 26 = .ok (.istore_n 3, 1) := by decide +kernel
theorem dX4_readWithSetsAside_27 : decode cX4_readWithSetsAside 27 = .ok (.iload_n 3, 1) := by decide +kernel
theorem dX4_readWithSetsAside_28 : decode cX4_readWithSetsAside 28 = .ok (.bipush 48, 2) := by decide +kernel
theorem dX4_readWithSetsAside_30 : decode cX4_readWithSetsAside 30 = .ok (.if_icmp .ge 74, 3) := by decide +kernel
theorem dX4_readWithSetsAside_33 : decode cX4_readWithSetsAside 33 = .ok (.aload_n 0, 1) := by decide +kernel
theorem dX4_readWithSetsAside_34 : decode cX4_readWithSetsAside 34 = .ok (.getfield 33, 3) := by decide +kernel
theorem dX4_readWithSetsAside_37 : decode cX4_readWithSetsAside 37 = .ok (.getfield 233, 3) := by decide +kernel
theorem dX4_readWithSetsAside_40 : decode cX4_readWithSetsAside 40 = .ok (.ifCond .le 64, 3) := by decide +kernel
theorem dX4_readWithSetsAside_43 : decode cX4_readWithSetsAside 43 = .ok (.aload_n 0, 1) := by decide +kernel
theorem dX4_readWithSetsAside_44 : decode cX4_readWithSetsAside 44 = .ok (.getfield 33, 3) := by decide +kernel
theorem dX4_readWithSetsAside_47 : decode cX4_readWithSetsAside 47 = .ok (.invokevirtual 237, 3) := by decide +kernel
theorem dX4_readWithSetsAside_50 : decode cX4_readWithSetsAside 50 = .ok (.istore 4, 2) := by decide +kernel
theorem dX4_readWithSetsAside_52 : decode cX4_readWithSetsAside 52 = .ok (.aload_n 0, 1) := by decide +kernel
theorem dX4_readWithSetsAside_53 : decode cX4_readWithSetsAside 53 = .ok (.iload 4, 2) := by decide +kernel
theorem dX4_readWithSetsAside_55 : decode cX4_readWithSetsAside 55 = .ok (.invokevirtual 223, 3) := by decide +kernel
theorem dX4_readWithSetsAside_58 : decode cX4_readWithSetsAside 58 = .ok (.istore 5, 2) := by decide +kernel
theorem dX4_readWithSetsAside_60 : decode cX4_readWithSetsAside 60 = .ok (.iload 5, 2) := by decide +kernel
theorem dX4_readWithSetsAside_62 : decode cX4_readWithSetsAside 62 = .ok (.ifCond .ne 13, 3) := by decide +kernel
theorem dX4_readWithSetsAside_65 : decode cX4_readWithSetsAside 65 = .ok (.aload_n 0, 1) := by decide +kernel
theorem dX4_readWithSetsAside_66 : decode cX4_readWithSetsAside 66 = .ok (.iload 4, 2) := by decide +kernel
theorem dX4_readWithSetsAside_68 : decode cX4_readWithSetsAside 68 = .ok (.aload_n 2, 1) := by decide +kernel
theorem dX4_readWithSetsAside_69 : decode cX4_readWithSetsAside 69 = .ok (.invokevirtual 226, 3) := by decide +kernel
theorem dX4_readWithSetsAside_72 : decode cX4_readWithSetsAside 72 = .ok (.goto 26, 3) := by decide +kernel
theorem dX4_readWithSetsAside_75 : decode cX4_readWithSetsAside 75 = .ok (.aload_n 0, 1) := by decide +kernel
theorem dX4_readWithSetsAside_76 : decode cX4_readWithSetsAside 76 = .ok (.getfield 33, 3) := by decide +kernel
theorem dX4_readWithSetsAside_79 : decode cX4_readWithSetsAside 79 = .ok (.iload 4, 2) := by decide +kernel
theorem dX4_readWithSetsAside_81 : decode cX4_readWithSetsAside 81 = .ok (.iload 5, 2) := by decide +kernel
theorem dX4_readWithSetsAside_83 : decode cX4_readWithSetsAside 83 = .ok (.iconst (-1), 1) := by decide +kernel
theorem dX4_readWithSetsAside_84 : decode cX4_readWithSetsAside 84 = .ok (.ixor, 1) := by decide +kernel
theorem dX4_readWithSetsAside_85 : decode cX4_readWithSetsAside 85 = .ok (.iand, 1) := by decide +kernel
theorem dX4_readWithSetsAside_86 : decode cX4_readWithSetsAside 86 = .ok (.invokevirtual 234, 3) := by decide +kernel
theorem dX4_readWithSetsAside_89 : decode cX4_readWithSetsAside 89 = .ok (.aload_n 0, 1) := by decide +kernel
theorem dX4_readWithSetsAside_90 : decode cX4_readWithSetsAside 90 = .ok (.getfield 33, 3) := by decide +kernel
theorem dX4_readWithSetsAside_93 : decode cX4_readWithSetsAside 93 = .ok (.iload 5, 2) := by decide +kernel
theorem dX4_readWithSetsAside_95 : decode cX4_readWithSetsAside 95 = .ok (.invokevirtual 234, 3) := by decide +kernel
theorem dX4_readWithSetsAside_98 : decode cX4_readWithSetsAside 98 = .ok (.iinc 3 1, 3) := by decide +kernel
theorem dX4_readWithSetsAside_101 : decode cX4_readWithSetsAside 101 = .ok (.goto (-74), 3) := by decide +kernel
theorem dX4_readWithSetsAside_104 : decode cX4_readWithSetsAside 104 = .ok (.return_, 1) := by decide +kernel
set_option maxRecDepth 20000 in
theorem ggX4_boxesThatFollowNone_X4_madeBox : GoodIn wsX4_boxesThatFollowNone wsX4_madeBox := goodIn_r _ [9, 10, 11, 12, 13, 14, 15, 16, 17] (by decide +kernel) (by decide +kernel)
set_option maxRecDepth 20000 in
theorem gX4_boxesThatFollowNone_X4_madeBox : GoodIn wsX4_boxesThatFollowNone (wsV RX4 139 RX4 yX4_madeBox wsX4_madeBox) := goodIn_app (goodIn_of _ (by decide +kernel)) ggX4_boxesThatFollowNone_X4_madeBox
theorem dX4_boxesThatFollowNone_0 : decode cX4_boxesThatFollowNone 0 = .ok (.iconst 0, 1) := by decide +kernel
theorem dX4_boxesThatFollowNone_1 : decode cX4_boxesThatFollowNone 1 = .ok (.istore_n 2, 1) := by decide +kernel
theorem dX4_boxesThatFollowNone_2 : decode cX4_boxesThatFollowNone 2 = .ok (.iconst 0, 1) := by decide +kernel
theorem dX4_boxesThatFollowNone_3 : decode cX4_boxesThatFollowNone 3 = .ok (.istore_n 3, 1) := by decide +kernel
theorem dX4_boxesThatFollowNone_4 : decode cX4_boxesThatFollowNone 4 = .ok (.iload_n 3, 1) := by decide +kernel
theorem dX4_boxesThatFollowNone_5 : decode cX4_boxesThatFollowNone 5 = .ok (.aload_n 0, 1) := by decide +kernel
theorem dX4_boxesThatFollowNone_6 : decode cX4_boxesThatFollowNone 6 = .ok (.getfield 15, 3) := by decide +kernel
theorem dX4_boxesThatFollowNone_9 : decode cX4_boxesThatFollowNone 9 = .ok (.if_icmp .ge 52, 3) := by decide +kernel
theorem dX4_boxesThatFollowNone_12 : decode cX4_boxesThatFollowNone 12 = .ok (.aload_n 0, 1) := by decide +kernel
theorem dX4_boxesThatFollowNone_13 : decode cX4_boxesThatFollowNone 13 = .ok (.iload_n 3, 1) := by decide +kernel
theorem dX4_boxesThatFollowNone_14 : decode cX4_boxesThatFollowNone 14 = .ok (.invokevirtual 139, 3) := by decide +kernel
theorem dX4_boxesThatFollowNone_17 : decode cX4_boxesThatFollowNone 17 = .ok (.astore 4, 2) := by decide +kernel
theorem dX4_boxesThatFollowNone_19 : decode cX4_boxesThatFollowNone 19 = .ok (.aload 4, 2) := by decide +kernel
theorem dX4_boxesThatFollowNone_21 : decode cX4_boxesThatFollowNone 21 = .ok (.ifnull 34, 3) := by decide +kernel
theorem dX4_boxesThatFollowNone_24 : decode cX4_boxesThatFollowNone 24 = .ok (.aload 4, 2) := by decide +kernel
theorem dX4_boxesThatFollowNone_26 : decode cX4_boxesThatFollowNone 26 = .ok (.getfield 98, 3) := by decide +kernel
theorem dX4_boxesThatFollowNone_29 : decode cX4_boxesThatFollowNone 29 = .ok (.ifCond .ne 26, 3) := by decide +kernel
theorem dX4_boxesThatFollowNone_32 : decode cX4_boxesThatFollowNone 32 = .ok (.aload 4, 2) := by decide +kernel
theorem dX4_boxesThatFollowNone_34 : decode cX4_boxesThatFollowNone 34 = .ok (.getfield 89, 3) := by decide +kernel
theorem dX4_boxesThatFollowNone_37 : decode cX4_boxesThatFollowNone 37 = .ok (.iload_n 1, 1) := by decide +kernel
theorem dX4_boxesThatFollowNone_38 : decode cX4_boxesThatFollowNone 38 = .ok (.if_icmp .ne 17, 3) := by decide +kernel
theorem dX4_boxesThatFollowNone_41 : decode cX4_boxesThatFollowNone 41 = .ok (.aload 4, 2) := by decide +kernel
theorem dX4_boxesThatFollowNone_43 : decode cX4_boxesThatFollowNone 43 = .ok (.getfield 108, 3) := by decide +kernel
theorem dX4_boxesThatFollowNone_46 : decode cX4_boxesThatFollowNone 46 = .ok (.ifnonnull 9, 3) := by decide +kernel
theorem dX4_boxesThatFollowNone_49 : decode cX4_boxesThatFollowNone 49 = .ok (.iload_n 2, 1) := by decide +kernel
theorem dX4_boxesThatFollowNone_50 : decode cX4_boxesThatFollowNone 50 = .ok (.iconst 1, 1) := by decide +kernel
theorem dX4_boxesThatFollowNone_51 : decode cX4_boxesThatFollowNone 51 = .ok (.iload_n 3, 1) := by decide +kernel
theorem dX4_boxesThatFollowNone_52 : decode cX4_boxesThatFollowNone 52 = .ok (.ishl, 1) := by decide +kernel
theorem dX4_boxesThatFollowNone_53 : decode cX4_boxesThatFollowNone 53 = .ok (.ior, 1) := by decide +kernel
theorem dX4_boxesThatFollowNone_54 : decode cX4_boxesThatFollowNone 54 = .ok (.istore_n 2, 1) := by decide +kernel
theorem dX4_boxesThatFollowNone_55 : decode cX4_boxesThatFollowNone 55 = .ok (.iinc 3 1, 3) := by decide +kernel
theorem dX4_boxesThatFollowNone_58 : decode cX4_boxesThatFollowNone 58 = .ok (.goto (-54), 3) := by decide +kernel
theorem dX4_boxesThatFollowNone_61 : decode cX4_boxesThatFollowNone 61 = .ok (.iload_n 2, 1) := by decide +kernel
theorem dX4_boxesThatFollowNone_62 : decode cX4_boxesThatFollowNone 62 = .ok (.ireturn, 1) := by decide +kernel
set_option maxRecDepth 20000 in
theorem ggX4_cutOff_X4_leastCut : GoodIn wsX4_cutOff wsX4_leastCut := goodIn_r _ [5, 6, 7, 8, 9, 10, 11, 12, 13, 4, 14, 15, 16, 17, 18, 19, 20, 21, 22, 23, 24, 25, 26, 27, 28, 33, 34, 35, 36, 37, 38, 39, 40, 41, 42, 43, 44, 45, 46, 47, 48, 49] (by decide +kernel) (by decide +kernel)
set_option maxRecDepth 20000 in
theorem gX4_cutOff_X4_leastCut : GoodIn wsX4_cutOff (wsV RX4 240 RX4 yX4_leastCut wsX4_leastCut) := goodIn_app (goodIn_of _ (by decide +kernel)) ggX4_cutOff_X4_leastCut
set_option maxRecDepth 20000 in
theorem ggX4_cutOff_X4_endedBy : GoodIn wsX4_cutOff wsX4_endedBy := goodIn_r _ [32, 6, 11, 12, 13, 4, 14, 15, 16, 17, 18, 19, 20, 21, 22, 23, 24, 33, 34, 35, 36, 37, 38, 39, 40, 41, 42, 43, 44, 45, 46, 47, 48, 49] (by decide +kernel) (by decide +kernel)
set_option maxRecDepth 20000 in
theorem gX4_cutOff_X4_endedBy : GoodIn wsX4_cutOff (wsV RX4 244 RX4 yX4_endedBy wsX4_endedBy) := goodIn_app (goodIn_of _ (by decide +kernel)) ggX4_cutOff_X4_endedBy
theorem dX4_cutOff_0 : decode cX4_cutOff 0 = .ok (.aload_n 0, 1) := by decide +kernel
theorem dX4_cutOff_1 : decode cX4_cutOff 1 = .ok (.aload_n 0, 1) := by decide +kernel
theorem dX4_cutOff_2 : decode cX4_cutOff 2 = .ok (.iload_n 1, 1) := by decide +kernel
theorem dX4_cutOff_3 : decode cX4_cutOff 3 = .ok (.iconst 1, 1) := by decide +kernel
theorem dX4_cutOff_4 : decode cX4_cutOff 4 = .ok (.invokevirtual 240, 3) := by decide +kernel
theorem dX4_cutOff_7 : decode cX4_cutOff 7 = .ok (.iload_n 1, 1) := by decide +kernel
theorem dX4_cutOff_8 : decode cX4_cutOff 8 = .ok (.iconst 1, 1) := by decide +kernel
theorem dX4_cutOff_9 : decode cX4_cutOff 9 = .ok (.invokevirtual 244, 3) := by decide +kernel
theorem dX4_cutOff_12 : decode cX4_cutOff 12 = .ok (.istore_n 2, 1) := by decide +kernel
theorem dX4_cutOff_13 : decode cX4_cutOff 13 = .ok (.iload_n 2, 1) := by decide +kernel
theorem dX4_cutOff_14 : decode cX4_cutOff 14 = .ok (.iload_n 1, 1) := by decide +kernel
theorem dX4_cutOff_15 : decode cX4_cutOff 15 = .ok (.if_icmp .eq 5, 3) := by decide +kernel
theorem dX4_cutOff_18 : decode cX4_cutOff 18 = .ok (.iload_n 2, 1) := by decide +kernel
theorem dX4_cutOff_19 : decode cX4_cutOff 19 = .ok (.ireturn, 1) := by decide +kernel
theorem dX4_cutOff_20 : decode cX4_cutOff 20 = .ok (.aload_n 0, 1) := by decide +kernel
theorem dX4_cutOff_21 : decode cX4_cutOff 21 = .ok (.aload_n 0, 1) := by decide +kernel
theorem dX4_cutOff_22 : decode cX4_cutOff 22 = .ok (.iload_n 1, 1) := by decide +kernel
theorem dX4_cutOff_23 : decode cX4_cutOff 23 = .ok (.iconst 0, 1) := by decide +kernel
theorem dX4_cutOff_24 : decode cX4_cutOff 24 = .ok (.invokevirtual 240, 3) := by decide +kernel
theorem dX4_cutOff_27 : decode cX4_cutOff 27 = .ok (.iload_n 1, 1) := by decide +kernel
theorem dX4_cutOff_28 : decode cX4_cutOff 28 = .ok (.iconst 0, 1) := by decide +kernel
theorem dX4_cutOff_29 : decode cX4_cutOff 29 = .ok (.invokevirtual 244, 3) := by decide +kernel
theorem dX4_cutOff_32 : decode cX4_cutOff 32 = .ok (.istore_n 3, 1) := by decide +kernel
theorem dX4_cutOff_33 : decode cX4_cutOff 33 = .ok (.iload_n 3, 1) := by decide +kernel
theorem dX4_cutOff_34 : decode cX4_cutOff 34 = .ok (.iload_n 1, 1) := by decide +kernel
theorem dX4_cutOff_35 : decode cX4_cutOff 35 = .ok (.if_icmp .eq 7, 3) := by decide +kernel
theorem dX4_cutOff_38 : decode cX4_cutOff 38 = .ok (.iload_n 3, 1) := by decide +kernel
theorem dX4_cutOff_39 : decode cX4_cutOff 39 = .ok (.goto 4, 3) := by decide +kernel
theorem dX4_cutOff_42 : decode cX4_cutOff 42 = .ok (.iconst 0, 1) := by decide +kernel
theorem dX4_cutOff_43 : decode cX4_cutOff 43 = .ok (.ireturn, 1) := by decide +kernel
set_option maxRecDepth 20000 in
theorem ggX4_leastCut_X4_boxOfSet : GoodIn wsX4_leastCut wsX4_boxOfSet := goodIn_r _ [10, 11, 25, 26, 27, 28, 29, 30, 31] (by decide +kernel) (by decide +kernel)
set_option maxRecDepth 20000 in
theorem gX4_leastCut_X4_boxOfSet : GoodIn wsX4_leastCut (wsV RX4 248 RX4 yX4_boxOfSet wsX4_boxOfSet) := goodIn_app (goodIn_of _ (by decide +kernel)) ggX4_leastCut_X4_boxOfSet
set_option maxRecDepth 20000 in
theorem ggX4_leastCut_X1_end : GoodIn wsX4_leastCut wsX1_end := goodIn_r _ [16, 17, 18, 19, 20, 32, 33, 34, 35, 36, 37, 38, 39, 40, 41] (by decide +kernel) (by decide +kernel)
set_option maxRecDepth 20000 in
theorem gX4_leastCut_X1_end : GoodIn wsX4_leastCut (wsV RX4 252 RX1 yX1_end wsX1_end) := goodIn_app (goodIn_of _ (by decide +kernel)) ggX4_leastCut_X1_end
set_option maxRecDepth 20000 in
theorem ggX4_leastCut_X1_begin : GoodIn wsX4_leastCut wsX1_begin := goodIn_r _ [24, 17, 19, 32, 33, 34, 35, 36, 37, 38, 39, 40, 41] (by decide +kernel) (by decide +kernel)
set_option maxRecDepth 20000 in
theorem gX4_leastCut_X1_begin : GoodIn wsX4_leastCut (wsV RX4 260 RX1 yX1_begin wsX1_begin) := goodIn_app (goodIn_of _ (by decide +kernel)) ggX4_leastCut_X1_begin
theorem dX4_leastCut_0 : decode cX4_leastCut 0 = .ok (.iload_n 2, 1) := by decide +kernel
theorem dX4_leastCut_1 : decode cX4_leastCut 1 = .ok (.ifCond .eq 8, 3) := by decide +kernel
theorem dX4_leastCut_4 : decode cX4_leastCut 4 = .ok (.bipush 80, 2) := by decide +kernel
theorem dX4_leastCut_6 : decode cX4_leastCut 6 = .ok (.goto 5, 3) := by decide +kernel
theorem dX4_leastCut_9 : decode cX4_leastCut 9 = .ok (.bipush 60, 2) := by decide +kernel
theorem dX4_leastCut_11 : decode cX4_leastCut 11 = .ok (.istore_n 3, 1) := by decide +kernel
theorem dX4_leastCut_12 : decode cX4_leastCut 12 = .ok (.iconst 0, 1) := by decide +kernel
theorem dX4_leastCut_13 : decode cX4_leastCut 13 = .ok (.istore 4, 2) := by decide +kernel
theorem dX4_leastCut_15 : decode cX4_leastCut 15 = .ok (.iload 4, 2) := by decide +kernel
theorem dX4_leastCut_17 : decode cX4_leastCut 17 = .ok (.aload_n 0, 1) := by decide +kernel
theorem dX4_leastCut_18 : decode cX4_leastCut 18 = .ok (.getfield 15, 3) := by decide +kernel
theorem dX4_leastCut_21 : decode cX4_leastCut 21 = .ok (.if_icmp .ge 38, 3) := by decide +kernel
theorem dX4_leastCut_24 : decode cX4_leastCut 24 = .ok (.aload_n 0, 1) := by decide +kernel
theorem dX4_leastCut_25 : decode cX4_leastCut 25 = .ok (.iload_n 1, 1) := by decide +kernel
theorem dX4_leastCut_26 : decode cX4_leastCut 26 = .ok (.iload 4, 2) := by decide +kernel
theorem dX4_leastCut_28 : decode cX4_leastCut 28 = .ok (.invokevirtual 248, 3) := by decide +kernel
theorem dX4_leastCut_31 : decode cX4_leastCut 31 = .ok (.astore 5, 2) := by decide +kernel
theorem dX4_leastCut_33 : decode cX4_leastCut 33 = .ok (.aload 5, 2) := by decide +kernel
theorem dX4_leastCut_35 : decode cX4_leastCut 35 = .ok (.ifnull 16, 3) := by decide +kernel
theorem dX4_leastCut_38 : decode cX4_leastCut 38 = .ok (.iload_n 3, 1) := by decide +kernel
theorem dX4_leastCut_39 : decode cX4_leastCut 39 = .ok (.aload 5, 2) := by decide +kernel
theorem dX4_leastCut_41 : decode cX4_leastCut 41 = .ok (.iload_n 2, 1) := by decide +kernel
theorem dX4_leastCut_42 : decode cX4_leastCut 42 = .ok (.invokevirtual 252, 3) := by decide +kernel
theorem dX4_leastCut_45 : decode cX4_leastCut 45 = .ok (.invokestatic 256, 3) := by decide +kernel
theorem dX4_leastCut_48 : decode cX4_leastCut 48 = .ok (.goto 4, 3) := by decide +kernel
theorem dX4_leastCut_51 : decode cX4_leastCut 51 = .ok (.iload_n 3, 1) := by decide +kernel
theorem dX4_leastCut_52 : decode cX4_leastCut 52 = .ok (.istore_n 3, 1) := by decide +kernel
theorem dX4_leastCut_53 : decode cX4_leastCut 53 = .ok (.iinc 4 1, 3) := by decide +kernel
theorem dX4_leastCut_56 : decode cX4_leastCut 56 = .ok (.goto (-41), 3) := by decide +kernel
theorem dX4_leastCut_59 : decode cX4_leastCut 59 = .ok (.iconst 1, 1) := by decide +kernel
theorem dX4_leastCut_60 : decode cX4_leastCut 60 = .ok (.istore 4, 2) := by decide +kernel
theorem dX4_leastCut_62 : decode cX4_leastCut 62 = .ok (.iconst 0, 1) := by decide +kernel
theorem dX4_leastCut_63 : decode cX4_leastCut 63 = .ok (.istore 5, 2) := by decide +kernel
theorem dX4_leastCut_65 : decode cX4_leastCut 65 = .ok (.iload 5, 2) := by decide +kernel
theorem dX4_leastCut_67 : decode cX4_leastCut 67 = .ok (.bipush 24, 2) := by decide +kernel
theorem dX4_leastCut_69 : decode cX4_leastCut 69 = .ok (.if_icmp .ge 79, 3) := by decide +kernel
theorem dX4_leastCut_72 : decode cX4_leastCut 72 = .ok (.iload 4, 2) := by decide +kernel
theorem dX4_leastCut_74 : decode cX4_leastCut 74 = .ok (.ifCond .eq 74, 3) := by decide +kernel
theorem dX4_leastCut_77 : decode cX4_leastCut 77 = .ok (.iconst 0, 1) := by decide +kernel
theorem dX4_leastCut_78 : decode cX4_leastCut 78 = .ok (.istore 4, 2) := by decide +kernel
theorem dX4_leastCut_80 : decode cX4_leastCut 80 = .ok (.iconst 0, 1) := by decide +kernel
theorem dX4_leastCut_81 : decode cX4_leastCut 81 = .ok (.istore 6, 2) := by decide +kernel
theorem dX4_leastCut_83 : decode cX4_leastCut 83 = .ok (.iload 6, 2) := by decide +kernel
theorem dX4_leastCut_85 : decode cX4_leastCut 85 = .ok (.aload_n 0, 1) := by decide +kernel
theorem dX4_leastCut_86 : decode cX4_leastCut 86 = .ok (.getfield 15, 3) := by decide +kernel
theorem dX4_leastCut_89 : decode cX4_leastCut 89 = .ok (.if_icmp .ge 53, 3) := by decide +kernel
theorem dX4_leastCut_92 : decode cX4_leastCut 92 = .ok (.aload_n 0, 1) := by decide +kernel
theorem dX4_leastCut_93 : decode cX4_leastCut 93 = .ok (.iload_n 1, 1) := by decide +kernel
theorem dX4_leastCut_94 : decode cX4_leastCut 94 = .ok (.iload 6, 2) := by decide +kernel
theorem dX4_leastCut_96 : decode cX4_leastCut 96 = .ok (.invokevirtual 248, 3) := by decide +kernel
theorem dX4_leastCut_99 : decode cX4_leastCut 99 = .ok (.astore 7, 2) := by decide +kernel
theorem dX4_leastCut_101 : decode cX4_leastCut 101 = .ok (.aload 7, 2) := by decide +kernel
theorem dX4_leastCut_103 : decode cX4_leastCut 103 = .ok (.ifnull 33, 3) := by decide +kernel
theorem dX4_leastCut_106 : decode cX4_leastCut 106 = .ok (.aload 7, 2) := by decide +kernel
theorem dX4_leastCut_108 : decode cX4_leastCut 108 = .ok (.iload_n 2, 1) := by decide +kernel
theorem dX4_leastCut_109 : decode cX4_leastCut 109 = .ok (.invokevirtual 260, 3) := by decide +kernel
theorem dX4_leastCut_112 : decode cX4_leastCut 112 = .ok (.iload_n 3, 1) := by decide +kernel
theorem dX4_leastCut_113 : decode cX4_leastCut 113 = .ok (.if_icmp .ge 23, 3) := by decide +kernel
theorem dX4_leastCut_116 : decode cX4_leastCut 116 = .ok (.aload 7, 2) := by decide +kernel
theorem dX4_leastCut_118 : decode cX4_leastCut 118 = .ok (.iload_n 2, 1) := by decide +kernel
theorem dX4_leastCut_119 : decode cX4_leastCut 119 = .ok (.invokevirtual 252, 3) := by decide +kernel
theorem dX4_leastCut_122 : decode cX4_leastCut 122 = .ok (.iload_n 3, 1) := by decide +kernel
theorem dX4_leastCut_123 : decode cX4_leastCut 123 = .ok (.if_icmp .le 13, 3) := by decide +kernel
theorem dX4_leastCut_126 : decode cX4_leastCut 126 = .ok (.aload 7, 2) := by decide +kernel
theorem dX4_leastCut_128 : decode cX4_leastCut 128 = .ok (.iload_n 2, 1) := by decide +kernel
theorem dX4_leastCut_129 : decode cX4_leastCut 129 = .ok (.invokevirtual 252, 3) := by decide +kernel
theorem dX4_leastCut_132 : decode cX4_leastCut 132 = .ok (.istore_n 3, 1) := by decide +kernel
theorem dX4_leastCut_133 : decode cX4_leastCut 133 = .ok (.iconst 1, 1) := by decide +kernel
theorem dX4_leastCut_134 : decode cX4_leastCut 134 = .ok (.istore 4, 2) := by decide +kernel
theorem dX4_leastCut_136 : decode cX4_leastCut 136 = .ok (.iinc 6 1, 3) := by decide +kernel
theorem dX4_leastCut_139 : decode cX4_leastCut 139 = .ok (.goto (-56), 3) := by decide +kernel
theorem dX4_leastCut_142 : decode cX4_leastCut 142 = .ok (.iinc 5 1, 3) := by decide +kernel
theorem dX4_leastCut_145 : decode cX4_leastCut 145 = .ok (.goto (-80), 3) := by decide +kernel
theorem dX4_leastCut_148 : decode cX4_leastCut 148 = .ok (.iload_n 3, 1) := by decide +kernel
theorem dX4_leastCut_149 : decode cX4_leastCut 149 = .ok (.ireturn, 1) := by decide +kernel
set_option maxRecDepth 20000 in
theorem ggX4_endedBy_X4_boxOfSet : GoodIn wsX4_endedBy wsX4_boxOfSet := goodIn_r _ [6, 7, 17, 18, 19, 20, 21, 22, 23] (by decide +kernel) (by decide +kernel)
set_option maxRecDepth 20000 in
theorem gX4_endedBy_X4_boxOfSet : GoodIn wsX4_endedBy (wsV RX4 248 RX4 yX4_boxOfSet wsX4_boxOfSet) := goodIn_app (goodIn_of _ (by decide +kernel)) ggX4_endedBy_X4_boxOfSet
set_option maxRecDepth 20000 in
theorem ggX4_endedBy_X1_end : GoodIn wsX4_endedBy wsX1_end := goodIn_r _ [12, 13, 14, 15, 16, 24, 25, 26, 27, 28, 29, 30, 31, 32, 33] (by decide +kernel) (by decide +kernel)
set_option maxRecDepth 20000 in
theorem gX4_endedBy_X1_end : GoodIn wsX4_endedBy (wsV RX4 252 RX1 yX1_end wsX1_end) := goodIn_app (goodIn_of _ (by decide +kernel)) ggX4_endedBy_X1_end
theorem dX4_endedBy_0 : decode cX4_endedBy 0 = .ok (.iconst 0, 1) := by decide +kernel
theorem dX4_endedBy_1 : decode cX4_endedBy 1 = .ok (.istore 4, 2) := by decide +kernel
theorem dX4_endedBy_3 : decode cX4_endedBy 3 = .ok (.iconst 0, 1) := by decide +kernel
theorem dX4_endedBy_4 : decode cX4_endedBy 4 = .ok (.istore 5, 2) := by decide +kernel
theorem dX4_endedBy_6 : decode cX4_endedBy 6 = .ok (.iload 5, 2) := by decide +kernel
theorem dX4_endedBy_8 : decode cX4_endedBy 8 = .ok (.aload_n 0, 1) := by decide +kernel
theorem dX4_endedBy_9 : decode cX4_endedBy 9 = .ok (.getfield 15, 3) := by decide +kernel
theorem dX4_endedBy_12 : decode cX4_endedBy 12 = .ok (.if_icmp .ge 42, 3) := by decide +kernel
theorem dX4_endedBy_15 : decode cX4_endedBy 15 = .ok (.aload_n 0, 1) := by decide +kernel
theorem dX4_endedBy_16 : decode cX4_endedBy 16 = .ok (.iload_n 2, 1) := by decide +kernel
theorem dX4_endedBy_17 : decode cX4_endedBy 17 = .ok (.iload 5, 2) := by decide +kernel
theorem dX4_endedBy_19 : decode cX4_endedBy 19 = .ok (.invokevirtual 248, 3) := by decide +kernel
theorem dX4_endedBy_22 : decode cX4_endedBy 22 = .ok (.astore 6, 2) := by decide +kernel
theorem dX4_endedBy_24 : decode cX4_endedBy 24 = .ok (.aload 6, 2) := by decide +kernel
theorem dX4_endedBy_26 : decode cX4_endedBy 26 = .ok (.ifnull 22, 3) := by decide +kernel
theorem dX4_endedBy_29 : decode cX4_endedBy 29 = .ok (.aload 6, 2) := by decide +kernel
theorem dX4_endedBy_31 : decode cX4_endedBy 31 = .ok (.iload_n 3, 1) := by decide +kernel
theorem dX4_endedBy_32 : decode cX4_endedBy 32 = .ok (.invokevirtual 252, 3) := by decide +kernel
theorem dX4_endedBy_35 : decode cX4_endedBy 35 = .ok (.iload_n 1, 1) := by decide +kernel
theorem dX4_endedBy_36 : decode cX4_endedBy 36 = .ok (.if_icmp .gt 12, 3) := by decide +kernel
theorem dX4_endedBy_39 : decode cX4_endedBy 39 = .ok (.iload 4, 2) := by decide +kernel
theorem dX4_endedBy_41 : decode cX4_endedBy 41 = .ok (.iconst 1, 1) := by decide +kernel
theorem dX4_endedBy_42 : decode cX4_endedBy 42 = .ok (.iload 5, 2) := by decide +kernel
theorem dX4_endedBy_44 : decode cX4_endedBy 44 = .ok (.ishl, 1) := by decide +kernel
theorem dX4_endedBy_45 : decode cX4_endedBy 45 = .ok (.ior, 1) := by decide +kernel
theorem dX4_endedBy_46 : decode cX4_endedBy 46 = .ok (.istore 4, 2) := by decide +kernel
theorem dX4_endedBy_48 : decode cX4_endedBy 48 = .ok (.iinc 5 1, 3) := by decide +kernel
theorem dX4_endedBy_51 : decode cX4_endedBy 51 = .ok (.goto (-45), 3) := by decide +kernel
theorem dX4_endedBy_54 : decode cX4_endedBy 54 = .ok (.iload 4, 2) := by decide +kernel
theorem dX4_endedBy_56 : decode cX4_endedBy 56 = .ok (.ireturn, 1) := by decide +kernel
set_option maxRecDepth 20000 in
theorem ggX4_readUncut_X4_firstByEdges : GoodIn wsX4_readUncut wsX4_firstByEdges := goodIn_r _ [7, 8, 9, 10, 11, 6, 12, 13, 14, 15, 16, 17, 18, 19, 20, 21, 39, 40, 41, 42, 43, 44, 45, 29, 30, 31, 32, 33, 34, 35, 36, 37, 38] (by decide +kernel) (by decide +kernel)
set_option maxRecDepth 20000 in
theorem gX4_readUncut_X4_firstByEdges : GoodIn wsX4_readUncut (wsV RX4 263 RX4 yX4_firstByEdges wsX4_firstByEdges) := goodIn_app (goodIn_of _ (by decide +kernel)) ggX4_readUncut_X4_firstByEdges
set_option maxRecDepth 20000 in
theorem ggX4_readUncut_X3_add : GoodIn wsX4_readUncut wsX3_add := goodIn_r _ [26, 27, 28, 46, 47] (by decide +kernel) (by decide +kernel)
set_option maxRecDepth 20000 in
theorem gX4_readUncut_X3_add : GoodIn wsX4_readUncut (wsV RX4 266 RX3 yX3_add wsX3_add) := goodIn_app (goodIn_of _ (by decide +kernel)) ggX4_readUncut_X3_add
theorem dX4_readUncut_0 : decode cX4_readUncut 0 = .ok (.iload_n 1, 1) := by decide +kernel
theorem dX4_readUncut_1 : decode cX4_readUncut 1 = .ok (.istore_n 3, 1) := by decide +kernel
theorem dX4_readUncut_2 : decode cX4_readUncut 2 = .ok (.iconst 0, 1) := by decide +kernel
theorem dX4_readUncut_3 : decode cX4_readUncut 3 = .ok (.istore 4, 2) := by decide +kernel
theorem dX4_readUncut_5 : decode cX4_readUncut 5 = .ok (.iload 4, 2) := by decide +kernel
theorem dX4_readUncut_7 : decode cX4_readUncut 7 = .ok (.bipush 24, 2) := by decide +kernel
theorem dX4_readUncut_9 : decode cX4_readUncut 9 = .ok (.if_icmp .ge 66, 3) := by decide +kernel
theorem dX4_readUncut_12 : decode cX4_readUncut 12 = .ok (.iload_n 3, 1) := by decide +kernel
theorem dX4_readUncut_13 : decode cX4_readUncut 13 = .ok (.ifCond .eq 62, 3) := by decide +kernel
theorem dX4_readUncut_16 : decode cX4_readUncut 16 = .ok (.aload_n 0, 1) := by decide +kernel
theorem dX4_readUncut_17 : decode cX4_readUncut 17 = .ok (.iload_n 3, 1) := by decide +kernel
theorem dX4_readUncut_18 : decode cX4_readUncut 18 = .ok (.invokevirtual 263, 3) := by decide +kernel
theorem dX4_readUncut_21 : decode cX4_readUncut 21 = .ok (.astore 5, 2) := by decide +kernel
theorem dX4_readUncut_23 : decode cX4_readUncut 23 = .ok (.aload 5, 2) := by decide +kernel
theorem dX4_readUncut_25 : decode cX4_readUncut 25 = .ok (.ifnonnull 4, 3) := by decide +kernel
theorem dX4_readUncut_28 : decode cX4_readUncut 28 = .ok (.return_, 1) := by decide +kernel
theorem dX4_readUncut_29 : decode cX4_readUncut 29 = .ok (.iload_n 3, 1) := by decide +kernel
theorem dX4_readUncut_30 : decode cX4_readUncut 30 = .ok (.iconst 1, 1) := by decide +kernel
theorem dX4_readUncut_31 : decode cX4_readUncut 31 = .ok (.aload 5, 2) := by decide +kernel
theorem dX4_readUncut_33 : decode cX4_readUncut 33 = .ok (.getfield 130, 3) := by decide +kernel
theorem dX4_readUncut_36 : decode cX4_readUncut 36 = .ok (.ishl, 1) := by decide +kernel
theorem dX4_readUncut_37 : decode cX4_readUncut 37 = .ok (.iconst (-1), 1) := by decide +kernel
theorem dX4_readUncut_38 : decode cX4_readUncut 38 = .ok (.ixor, 1) := by decide +kernel
theorem dX4_readUncut_39 : decode cX4_readUncut 39 = .ok (.iand, 1) := by decide +kernel
theorem dX4_readUncut_40 : decode cX4_readUncut 40 = .ok (.istore_n 3, 1) := by decide +kernel
theorem dX4_readUncut_41 : decode cX4_readUncut 41 = .ok (.aload 5, 2) := by decide +kernel
theorem dX4_readUncut_43 : decode cX4_readUncut 43 = .ok (.astore 6, 2) := by decide +kernel
theorem dX4_readUncut_45 : decode cX4_readUncut 45 = .ok (.aload 6, 2) := by decide +kernel
theorem dX4_readUncut_47 : decode cX4_readUncut 47 = .ok (.ifnull 22, 3) := by decide +kernel
theorem dX4_readUncut_50 : decode cX4_readUncut 50 = .ok (.aload_n 2, 1) := by decide +kernel
theorem dX4_readUncut_51 : decode cX4_readUncut 51 = .ok (.aload 6, 2) := by decide +kernel
theorem dX4_readUncut_53 : decode cX4_readUncut 53 = .ok (.getfield 130, 3) := by decide +kernel
theorem dX4_readUncut_56 : decode cX4_readUncut 56 = .ok (.invokevirtual 266, 3) := by decide +kernel
theorem dX4_readUncut_59 : decode cX4_readUncut 59 = .ok (.aload 6, 2) := by decide +kernel
theorem dX4_readUncut_61 : decode cX4_readUncut 61 = .ok (.getfield 104, 3) := by decide +kernel
theorem dX4_readUncut_64 : decode cX4_readUncut 64 = .ok (.astore 6, 2) := by decide +kernel
theorem dX4_readUncut_66 : decode cX4_readUncut 66 = .ok (.goto (-21), 3) := by decide +kernel
theorem dX4_readUncut_69 : decode cX4_readUncut 69 = .ok (.iinc 4 1, 3) := by decide +kernel
theorem dX4_readUncut_72 : decode cX4_readUncut 72 = .ok (.goto (-67), 3) := by decide +kernel
theorem dX4_readUncut_75 : decode cX4_readUncut 75 = .ok (.return_, 1) := by decide +kernel
set_option maxRecDepth 20000 in
theorem ggX4_firstByEdges_X4_boxOfSet : GoodIn wsX4_firstByEdges wsX4_boxOfSet := goodIn_r _ [6, 7, 16, 17, 18, 19, 20, 21, 22] (by decide +kernel) (by decide +kernel)
set_option maxRecDepth 20000 in
theorem gX4_firstByEdges_X4_boxOfSet : GoodIn wsX4_firstByEdges (wsV RX4 248 RX4 yX4_boxOfSet wsX4_boxOfSet) := goodIn_app (goodIn_of _ (by decide +kernel)) ggX4_firstByEdges_X4_boxOfSet
set_option maxRecDepth 20000 in
theorem ggX4_firstByEdges_X1_isAheadByEdges : GoodIn wsX4_firstByEdges wsX1_isAheadByEdges := goodIn_r _ [12, 13, 14, 15, 23, 24, 25, 26, 27, 28, 29, 30, 31, 32] (by decide +kernel) (by decide +kernel)
set_option maxRecDepth 20000 in
theorem gX4_firstByEdges_X1_isAheadByEdges : GoodIn wsX4_firstByEdges (wsV RX4 269 RX1 yX1_isAheadByEdges wsX1_isAheadByEdges) := goodIn_app (goodIn_of _ (by decide +kernel)) ggX4_firstByEdges_X1_isAheadByEdges
theorem dX4_firstByEdges_0 : decode cX4_firstByEdges 0 = .ok (.aconst_null, 1) := by decide +kernel
theorem dX4_firstByEdges_1 : decode cX4_firstByEdges 1 = .ok (.astore_n 2, 1) := by decide +kernel
theorem dX4_firstByEdges_2 : decode cX4_firstByEdges 2 = .ok (.iconst 0, 1) := by decide +kernel
theorem dX4_firstByEdges_3 : decode cX4_firstByEdges 3 = .ok (.istore_n 3, 1) := by decide +kernel
theorem dX4_firstByEdges_4 : decode cX4_firstByEdges 4 = .ok (.iload_n 3, 1) := by decide +kernel
theorem dX4_firstByEdges_5 : decode cX4_firstByEdges 5 = .ok (.aload_n 0, 1) := by decide +kernel
theorem dX4_firstByEdges_6 : decode cX4_firstByEdges 6 = .ok (.getfield 15, 3) := by decide +kernel
theorem dX4_firstByEdges_9 : decode cX4_firstByEdges 9 = .ok (.if_icmp .ge 38, 3) := by decide +kernel
theorem dX4_firstByEdges_12 : decode cX4_firstByEdges 12 = .ok (.aload_n 0, 1) := by decide +kernel
theorem dX4_firstByEdges_13 : decode cX4_firstByEdges 13 = .ok (.iload_n 1, 1) := by decide +kernel
theorem dX4_firstByEdges_14 : decode cX4_firstByEdges 14 = .ok (.iload_n 3, 1) := by decide +kernel
theorem dX4_firstByEdges_15 : decode cX4_firstByEdges 15 = .ok (.invokevirtual 248, 3) := by decide +kernel
theorem dX4_firstByEdges_18 : decode cX4_firstByEdges 18 = .ok (.astore 4, 2) := by decide +kernel
theorem dX4_firstByEdges_20 : decode cX4_firstByEdges 20 = .ok (.aload 4, 2) := by decide +kernel
theorem dX4_firstByEdges_22 : decode cX4_firstByEdges 22 = .ok (.ifnull 19, 3) := by decide +kernel
theorem dX4_firstByEdges_25 : decode cX4_firstByEdges 25 = .ok (.aload_n 2, 1) := by decide +kernel
theorem dX4_firstByEdges_26 : decode cX4_firstByEdges 26 = .ok (.ifnull 12, 3) := by decide +kernel
theorem dX4_firstByEdges_29 : decode cX4_firstByEdges 29 = .ok (.aload 4, 2) := by decide +kernel
theorem dX4_firstByEdges_31 : decode cX4_firstByEdges 31 = .ok (.aload_n 2, 1) := by decide +kernel
theorem dX4_firstByEdges_32 : decode cX4_firstByEdges 32 = .ok (.invokevirtual 269, 3) := by decide +kernel
theorem dX4_firstByEdges_35 : decode cX4_firstByEdges 35 = .ok (.ifCond .eq 6, 3) := by decide +kernel
theorem dX4_firstByEdges_38 : decode cX4_firstByEdges 38 = .ok (.aload 4, 2) := by decide +kernel
theorem dX4_firstByEdges_40 : decode cX4_firstByEdges 40 = .ok (.astore_n 2, 1) := by decide +kernel
theorem dX4_firstByEdges_41 : decode cX4_firstByEdges 41 = .ok (.iinc 3 1, 3) := by decide +kernel
theorem dX4_firstByEdges_44 : decode cX4_firstByEdges 44 = .ok (.goto (-40), 3) := by decide +kernel
theorem dX4_firstByEdges_47 : decode cX4_firstByEdges 47 = .ok (.aload_n 2, 1) := by decide +kernel
theorem dX4_firstByEdges_48 : decode cX4_firstByEdges 48 = .ok (.areturn, 1) := by decide +kernel
theorem dX4_boxOfSet_0 : decode cX4_boxOfSet 0 = .ok (.iload_n 2, 1) := by decide +kernel
theorem dX4_boxOfSet_1 : decode cX4_boxOfSet 1 = .ok (.ifCond .lt 24, 3) := by decide +kernel
theorem dX4_boxOfSet_4 : decode cX4_boxOfSet 4 = .ok (.iload_n 2, 1) := by decide +kernel
theorem dX4_boxOfSet_5 : decode cX4_boxOfSet 5 = .ok (.aload_n 0, 1) := by decide +kernel
theorem dX4_boxOfSet_6 : decode cX4_boxOfSet 6 = .ok (.getfield 11, 3) := by decide +kernel
theorem dX4_boxOfSet_9 : decode cX4_boxOfSet 9 = .ok (.arraylength, 1) := by decide +kernel
theorem dX4_boxOfSet_10 : decode cX4_boxOfSet 10 = .ok (.if_icmp .ge 15, 3) := by decide +kernel
theorem dX4_boxOfSet_13 : decode cX4_boxOfSet 13 = .ok (.iload_n 1, 1) := by decide +kernel
theorem dX4_boxOfSet_14 : decode cX4_boxOfSet 14 = .ok (.iload_n 2, 1) := by decide +kernel
theorem dX4_boxOfSet_15 : decode cX4_boxOfSet 15 = .ok (.ishr, 1) := by decide +kernel
theorem dX4_boxOfSet_16 : decode cX4_boxOfSet 16 = .ok (.iconst 1, 1) := by decide +kernel
theorem dX4_boxOfSet_17 : decode cX4_boxOfSet 17 = .ok (.iand, 1) := by decide +kernel
theorem dX4_boxOfSet_18 : decode cX4_boxOfSet 18 = .ok (.ifCond .eq 7, 3) := by decide +kernel
theorem dX4_boxOfSet_21 : decode cX4_boxOfSet 21 = .ok (.iconst 1, 1) := by decide +kernel
theorem dX4_boxOfSet_22 : decode cX4_boxOfSet 22 = .ok (.goto 4, 3) := by decide +kernel
theorem dX4_boxOfSet_25 : decode cX4_boxOfSet 25 = .ok (.iconst 0, 1) := by decide +kernel
theorem dX4_boxOfSet_26 : decode cX4_boxOfSet 26 = .ok (.istore_n 3, 1) := by decide +kernel
theorem dX4_boxOfSet_27 : decode cX4_boxOfSet 27 = .ok (.iload_n 3, 1) := by decide +kernel
theorem dX4_boxOfSet_28 : decode cX4_boxOfSet 28 = .ok (.ifCond .eq 12, 3) := by decide +kernel
theorem dX4_boxOfSet_31 : decode cX4_boxOfSet 31 = .ok (.aload_n 0, 1) := by decide +kernel
theorem dX4_boxOfSet_32 : decode cX4_boxOfSet 32 = .ok (.getfield 11, 3) := by decide +kernel
theorem dX4_boxOfSet_35 : decode cX4_boxOfSet 35 = .ok (.iload_n 2, 1) := by decide +kernel
theorem dX4_boxOfSet_36 : decode cX4_boxOfSet 36 = .ok (.aaload, 1) := by decide +kernel
theorem dX4_boxOfSet_37 : decode cX4_boxOfSet 37 = .ok (.goto 4, 3) := by decide +kernel
theorem dX4_boxOfSet_40 : decode cX4_boxOfSet 40 = .ok (.aconst_null, 1) := by decide +kernel
theorem dX4_boxOfSet_41 : decode cX4_boxOfSet 41 = .ok (.areturn, 1) := by decide +kernel
set_option maxRecDepth 20000 in
theorem ggX4_faultsAt_X3_at : GoodIn wsX4_faultsAt wsX3_at := goodIn_r _ [7, 8, 9, 61, 62] (by decide +kernel) (by decide +kernel)
set_option maxRecDepth 20000 in
theorem gX4_faultsAt_X3_at : GoodIn wsX4_faultsAt (wsV RX4 123 RX3 yX3_at wsX3_at) := goodIn_app (goodIn_of _ (by decide +kernel)) ggX4_faultsAt_X3_at
set_option maxRecDepth 20000 in
theorem ggX4_faultsAt_X4_madeBox : GoodIn wsX4_faultsAt wsX4_madeBox := goodIn_r _ [14, 15, 63, 64, 65, 66, 67, 68, 69] (by decide +kernel) (by decide +kernel)
set_option maxRecDepth 20000 in
theorem gX4_faultsAt_X4_madeBox : GoodIn wsX4_faultsAt (wsV RX4 139 RX4 yX4_madeBox wsX4_madeBox) := goodIn_app (goodIn_of _ (by decide +kernel)) ggX4_faultsAt_X4_madeBox
set_option maxRecDepth 20000 in
theorem ggX4_faultsAt_X1_isHead : GoodIn wsX4_faultsAt wsX1_isHead := goodIn_r _ [20, 21, 51, 52, 53, 54, 55, 56, 57, 58, 59, 60] (by decide +kernel) (by decide +kernel)
set_option maxRecDepth 20000 in
theorem gX4_faultsAt_X1_isHead : GoodIn wsX4_faultsAt (wsV RX4 272 RX1 yX1_isHead wsX1_isHead) := goodIn_app (goodIn_of _ (by decide +kernel)) ggX4_faultsAt_X1_isHead
set_option maxRecDepth 20000 in
theorem ggX4_faultsAt_X1_level : GoodIn wsX4_faultsAt wsX1_level := goodIn_r _ [25, 21, 51, 52, 53, 54, 55, 56, 57, 58, 59, 60] (by decide +kernel) (by decide +kernel)
set_option maxRecDepth 20000 in
theorem gX4_faultsAt_X1_level : GoodIn wsX4_faultsAt (wsV RX4 276 RX1 yX1_level wsX1_level) := goodIn_app (goodIn_of _ (by decide +kernel)) ggX4_faultsAt_X1_level
set_option maxRecDepth 20000 in
theorem ggX4_faultsAt_X4_levelAhead : GoodIn wsX4_faultsAt wsX4_levelAhead := goodIn_r _ [29, 3, 4, 5, 6, 7, 8, 9, 10, 11, 12, 13, 14, 15, 16, 17, 18, 19, 20, 21, 22, 23, 24, 25, 61, 62, 63, 64, 65, 66, 67, 68, 69, 51, 52, 53, 54, 55, 56, 57, 58, 59, 60] (by decide +kernel) (by decide +kernel)
set_option maxRecDepth 20000 in
theorem gX4_faultsAt_X4_levelAhead : GoodIn wsX4_faultsAt (wsV RX4 279 RX4 yX4_levelAhead wsX4_levelAhead) := goodIn_app (goodIn_of _ (by decide +kernel)) ggX4_faultsAt_X4_levelAhead
set_option maxRecDepth 20000 in
theorem ggX4_faultsAt_X4_isOfKind : GoodIn wsX4_faultsAt wsX4_isOfKind := goodIn_r _ [32, 1, 51, 52, 53, 54, 55, 56, 57, 58, 59, 60] (by decide +kernel) (by decide +kernel)
set_option maxRecDepth 20000 in
theorem gX4_faultsAt_X4_isOfKind : GoodIn wsX4_faultsAt (va_wsS RX4 282 yX4_isOfKind wsX4_isOfKind) := goodIn_app (goodIn_of _ (by decide +kernel)) ggX4_faultsAt_X4_isOfKind
set_option maxRecDepth 20000 in
theorem ggX4_faultsAt_X4_overlapsAny : GoodIn wsX4_faultsAt wsX4_overlapsAny := goodIn_r _ [36, 37, 3, 4, 5, 6, 7, 8, 9, 10, 11, 12, 13, 14, 15, 38, 39, 40, 19, 41, 42, 43, 44, 45, 46, 47, 48, 49, 61, 62, 63, 64, 65, 66, 67, 68, 69, 51, 52, 53, 54, 55, 56, 57, 58, 59, 60] (by decide +kernel) (by decide +kernel)
set_option maxRecDepth 20000 in
theorem gX4_faultsAt_X4_overlapsAny : GoodIn wsX4_faultsAt (wsV RX4 286 RX4 yX4_overlapsAny wsX4_overlapsAny) := goodIn_app (goodIn_of _ (by decide +kernel)) ggX4_faultsAt_X4_overlapsAny
set_option maxRecDepth 20000 in
theorem ggX4_faultsAt_X1_bottom : GoodIn wsX4_faultsAt wsX1_bottom := goodIn_r _ [48, 44, 49, 51, 52, 53, 54, 55, 56, 57, 58, 59, 60] (by decide +kernel) (by decide +kernel)
set_option maxRecDepth 20000 in
theorem gX4_faultsAt_X1_bottom : GoodIn wsX4_faultsAt (wsV RX4 290 RX1 yX1_bottom wsX1_bottom) := goodIn_app (goodIn_of _ (by decide +kernel)) ggX4_faultsAt_X1_bottom
theorem dX4_faultsAt_0 : decode cX4_faultsAt 0 = .ok (.aload_n 0, 1) := by decide +kernel
theorem dX4_faultsAt_1 : decode cX4_faultsAt 1 = .ok (.aload_n 1, 1) := by decide +kernel
theorem dX4_faultsAt_2 : decode cX4_faultsAt 2 = .ok (.iload_n 2, 1) := by decide +kernel
theorem dX4_faultsAt_3 : decode cX4_faultsAt 3 = .ok (.invokevirtual 123, 3) := by decide +kernel
theorem dX4_faultsAt_6 : decode cX4_faultsAt 6 = .ok (.invokevirtual 139, 3) := by decide +kernel
theorem dX4_faultsAt_9 : decode cX4_faultsAt 9 = .ok (.astore_n 3, 1) := by decide +kernel
theorem dX4_faultsAt_10 : decode cX4_faultsAt 10 = .ok (.aload_n 3, 1) := by decide +kernel
theorem dX4_faultsAt_11 : decode cX4_faultsAt 11 = .ok (.ifnonnull 5, 3) := by decide +kernel
theorem dX4_faultsAt_14 : decode cX4_faultsAt 14 = .ok (.iconst 0, 1) := by decide +kernel
theorem dX4_faultsAt_15 : decode cX4_faultsAt 15 = .ok (.ireturn, 1) := by decide +kernel
theorem dX4_faultsAt_16 : decode cX4_faultsAt 16 = .ok (.aload_n 0, 1) := by decide +kernel
theorem dX4_faultsAt_17 : decode cX4_faultsAt 17 = .ok (.aload_n 1, 1) := by decide +kernel
theorem dX4_faultsAt_18 : decode cX4_faultsAt 18 = .ok (.iload_n 2, 1) := by decide +kernel
theorem dX4_faultsAt_19 : decode cX4_faultsAt 19 = .ok (.iconst 1, 1) := by decide +kernel
theorem dX4_faultsAt_20 : decode cX4_faultsAt 20 = .ok (.isub, 1) := by decide +kernel
theorem dX4_faultsAt_21 : decode cX4_faultsAt 21 = .ok (.invokevirtual 123, 3) := by decide +kernel
theorem dX4_faultsAt_24 : decode cX4_faultsAt 24 = .ok (.invokevirtual 139, 3) := by decide +kernel
theorem dX4_faultsAt_27 : decode cX4_faultsAt 27 = .ok (.astore 4, 2) := by decide +kernel
theorem dX4_faultsAt_29 : decode cX4_faultsAt 29 = .ok (.aload_n 0, 1) := by decide +kernel
theorem dX4_faultsAt_30 : decode cX4_faultsAt 30 = .ok (.aload_n 1, 1) := by decide +kernel
theorem dX4_faultsAt_31 : decode cX4_faultsAt 31 = .ok (.iload_n 2, 1) := by decide +kernel
theorem dX4_faultsAt_32 : decode cX4_faultsAt 32 = .ok (.iconst 1, 1) := by decide +kernel
theorem dX4_faultsAt_33 : decode cX4_faultsAt 33 = .ok (.iadd, 1) := by decide +kernel
theorem dX4_faultsAt_34 : decode cX4_faultsAt 34 = .ok (.invokevirtual 123, 3) := by decide +kernel
theorem dX4_faultsAt_37 : decode cX4_faultsAt 37 = .ok (.invokevirtual 139, 3) := by decide +kernel
theorem dX4_faultsAt_40 : decode cX4_faultsAt 40 = .ok (.astore 5, 2) := by decide +kernel
theorem dX4_faultsAt_42 : decode cX4_faultsAt 42 = .ok (.iconst 0, 1) := by decide +kernel
theorem dX4_faultsAt_43 : decode cX4_faultsAt 43 = .ok (.istore 6, 2) := by decide +kernel
theorem dX4_faultsAt_45 : decode cX4_faultsAt 45 = .ok (.aload_n 3, 1) := by decide +kernel
theorem dX4_faultsAt_46 : decode cX4_faultsAt 46 = .ok (.invokevirtual 272, 3) := by decide +kernel
theorem dX4_faultsAt_49 : decode cX4_faultsAt 49 = .ok (.ifCond .eq 24, 3) := by decide +kernel
theorem dX4_faultsAt_52 : decode cX4_faultsAt 52 = .ok (.aload_n 3, 1) := by decide +kernel
theorem dX4_faultsAt_53 : decode cX4_faultsAt 53 = .ok (.invokevirtual 276, 3) := by decide +kernel
theorem dX4_faultsAt_56 : decode cX4_faultsAt 56 = .ok (.aload_n 0, 1) := by decide +kernel
theorem dX4_faultsAt_57 : decode cX4_faultsAt 57 = .ok (.aload_n 1, 1) := by decide +kernel
theorem dX4_faultsAt_58 : decode cX4_faultsAt 58 = .ok (.iload_n 2, 1) := by decide +kernel
theorem dX4_faultsAt_59 : decode cX4_faultsAt 59 = .ok (.invokevirtual 279, 3) := by decide +kernel
theorem dX4_faultsAt_62 : decode cX4_faultsAt 62 = .ok (.iconst 1, 1) := by decide +kernel
theorem dX4_faultsAt_63 : decode cX4_faultsAt 63 = .ok (.iadd, 1) := by decide +kernel
theorem dX4_faultsAt_64 : decode cX4_faultsAt 64 = .ok (.if_icmp .le 9, 3) := by decide +kernel
theorem dX4_faultsAt_67 : decode cX4_faultsAt 67 = .ok (.iload 6, 2) := by decide +kernel
theorem dX4_faultsAt_69 : decode cX4_faultsAt 69 = .ok (.iconst 1, 1) := by decide +kernel
theorem dX4_faultsAt_70 : decode cX4_faultsAt 70 = .ok (.ior, 1) := by decide +kernel
theorem dX4_faultsAt_71 : decode cX4_faultsAt 71 = .ok (.istore 6, 2) := by decide +kernel
theorem dX4_faultsAt_73 : decode cX4_faultsAt 73 = .ok (.aload_n 3, 1) := by decide +kernel
theorem dX4_faultsAt_74 : decode cX4_faultsAt 74 = .ok (.getfield 147, 3) := by decide +kernel
theorem dX4_faultsAt_77 : decode cX4_faultsAt 77 = .ok (.iconst 1, 1) := by decide +kernel
theorem dX4_faultsAt_78 : decode cX4_faultsAt 78 = .ok (.if_icmp .ne 27, 3) := by decide +kernel
theorem dX4_faultsAt_81 : decode cX4_faultsAt 81 = .ok (.aload 4, 2) := by decide +kernel
theorem dX4_faultsAt_83 : decode cX4_faultsAt 83 = .ok (.iconst 1, 1) := by decide +kernel
theorem dX4_faultsAt_84 : decode cX4_faultsAt 84 = .ok (.invokestatic 282, 3) := by decide +kernel
theorem dX4_faultsAt_87 : decode cX4_faultsAt 87 = .ok (.ifCond .ne 18, 3) := by decide +kernel
theorem dX4_faultsAt_90 : decode cX4_faultsAt 90 = .ok (.aload 5, 2) := by decide +kernel
theorem dX4_faultsAt_92 : decode cX4_faultsAt 92 = .ok (.iconst 1, 1) := by decide +kernel
theorem dX4_faultsAt_93 : decode cX4_faultsAt 93 = .ok (.invokestatic 282, 3) := by decide +kernel
theorem dX4_faultsAt_96 : decode cX4_faultsAt 96 = .ok (.ifCond .ne 9, 3) := by decide +kernel
theorem dX4_faultsAt_99 : decode cX4_faultsAt 99 = .ok (.iload 6, 2) := by decide +kernel
theorem dX4_faultsAt_101 : decode cX4_faultsAt 101 = .ok (.iconst 2, 1) := by decide +kernel
theorem dX4_faultsAt_102 : decode cX4_faultsAt 102 = .ok (.ior, 1) := by decide +kernel
theorem dX4_faultsAt_103 : decode cX4_faultsAt 103 = .ok (.istore 6, 2) := by decide +kernel
theorem dX4_faultsAt_105 : decode cX4_faultsAt 105 = .ok (.aload_n 3, 1) := by decide +kernel
theorem dX4_faultsAt_106 : decode cX4_faultsAt 106 = .ok (.getfield 147, 3) := by decide +kernel
theorem dX4_faultsAt_109 : decode cX4_faultsAt 109 = .ok (.iconst 3, 1) := by decide +kernel
theorem dX4_faultsAt_110 : decode cX4_faultsAt 110 = .ok (.if_icmp .ne 18, 3) := by decide +kernel
theorem dX4_faultsAt_113 : decode cX4_faultsAt 113 = .ok (.aload 4, 2) := by decide +kernel
theorem dX4_faultsAt_115 : decode cX4_faultsAt 115 = .ok (.iconst 2, 1) := by decide +kernel
theorem dX4_faultsAt_116 : decode cX4_faultsAt 116 = .ok (.invokestatic 282, 3) := by decide +kernel
theorem dX4_faultsAt_119 : decode cX4_faultsAt 119 = .ok (.ifCond .ne 9, 3) := by decide +kernel
theorem dX4_faultsAt_122 : decode cX4_faultsAt 122 = .ok (.iload 6, 2) := by decide +kernel
theorem dX4_faultsAt_124 : decode cX4_faultsAt 124 = .ok (.iconst 4, 1) := by decide +kernel
theorem dX4_faultsAt_125 : decode cX4_faultsAt 125 = .ok (.ior, 1) := by decide +kernel
theorem dX4_faultsAt_126 : decode cX4_faultsAt 126 = .ok (.istore 6, 2) := by decide +kernel
theorem dX4_faultsAt_128 : decode cX4_faultsAt 128 = .ok (.aload_n 0, 1) := by decide +kernel
theorem dX4_faultsAt_129 : decode cX4_faultsAt 129 = .ok (.aload_n 3, 1) := by decide +kernel
theorem dX4_faultsAt_130 : decode cX4_faultsAt 130 = .ok (.aload_n 1, 1) := by decide +kernel
theorem dX4_faultsAt_131 : decode cX4_faultsAt 131 = .ok (.invokevirtual 286, 3) := by decide +kernel
theorem dX4_faultsAt_134 : decode cX4_faultsAt 134 = .ok (.ifCond .eq 10, 3) := by decide +kernel
theorem dX4_faultsAt_137 : decode cX4_faultsAt 137 = .ok (.iload 6, 2) := by decide +kernel
theorem dX4_faultsAt_139 : decode cX4_faultsAt 139 = .ok (.bipush 8, 2) := by decide +kernel
theorem dX4_faultsAt_141 : decode cX4_faultsAt 141 = .ok (.ior, 1) := by decide +kernel
theorem dX4_faultsAt_142 : decode cX4_faultsAt 142 = .ok (.istore 6, 2) := by decide +kernel
theorem dX4_faultsAt_144 : decode cX4_faultsAt 144 = .ok (.aload 4, 2) := by decide +kernel
theorem dX4_faultsAt_146 : decode cX4_faultsAt 146 = .ok (.ifnull 25, 3) := by decide +kernel
theorem dX4_faultsAt_149 : decode cX4_faultsAt 149 = .ok (.aload_n 3, 1) := by decide +kernel
theorem dX4_faultsAt_150 : decode cX4_faultsAt 150 = .ok (.getfield 86, 3) := by decide +kernel
theorem dX4_faultsAt_153 : decode cX4_faultsAt 153 = .ok (.aload 4, 2) := by decide +kernel
theorem dX4_faultsAt_155 : decode cX4_faultsAt 155 = .ok (.invokevirtual 290, 3) := by decide +kernel
theorem dX4_faultsAt_158 : decode cX4_faultsAt 158 = .ok (.bipush 20, 2) := by decide +kernel
theorem dX4_faultsAt_160 : decode cX4_faultsAt 160 = .ok (.iadd, 1) := by decide +kernel
theorem dX4_faultsAt_161 : decode cX4_faultsAt 161 = .ok (.if_icmp .le 10, 3) := by decide +kernel
theorem dX4_faultsAt_164 : decode cX4_faultsAt 164 = .ok (.iload 6, 2) := by decide +kernel
theorem dX4_faultsAt_166 : decode cX4_faultsAt 166 = .ok (.bipush 16, 2) := by decide +kernel
theorem dX4_faultsAt_168 : decode cX4_faultsAt 168 = .ok (.ior, 1) := by decide +kernel
theorem dX4_faultsAt_169 : decode cX4_faultsAt 169 = .ok (.istore 6, 2) := by decide +kernel
theorem dX4_faultsAt_171 : decode cX4_faultsAt 171 = .ok (.iload 6, 2) := by decide +kernel
theorem dX4_faultsAt_173 : decode cX4_faultsAt 173 = .ok (.ireturn, 1) := by decide +kernel
set_option maxRecDepth 20000 in
theorem ggX4_levelAhead_X3_at : GoodIn wsX4_levelAhead wsX3_at := goodIn_r _ [5, 6, 7, 24, 25] (by decide +kernel) (by decide +kernel)
set_option maxRecDepth 20000 in
theorem gX4_levelAhead_X3_at : GoodIn wsX4_levelAhead (wsV RX4 123 RX3 yX3_at wsX3_at) := goodIn_app (goodIn_of _ (by decide +kernel)) ggX4_levelAhead_X3_at
set_option maxRecDepth 20000 in
theorem ggX4_levelAhead_X4_madeBox : GoodIn wsX4_levelAhead wsX4_madeBox := goodIn_r _ [12, 13, 26, 27, 28, 29, 30, 31, 32] (by decide +kernel) (by decide +kernel)
set_option maxRecDepth 20000 in
theorem gX4_levelAhead_X4_madeBox : GoodIn wsX4_levelAhead (wsV RX4 139 RX4 yX4_madeBox wsX4_madeBox) := goodIn_app (goodIn_of _ (by decide +kernel)) ggX4_levelAhead_X4_madeBox
set_option maxRecDepth 20000 in
theorem ggX4_levelAhead_X1_isHead : GoodIn wsX4_levelAhead wsX1_isHead := goodIn_r _ [18, 19, 33, 34, 35, 36, 37, 38, 39, 40, 41, 42] (by decide +kernel) (by decide +kernel)
set_option maxRecDepth 20000 in
theorem gX4_levelAhead_X1_isHead : GoodIn wsX4_levelAhead (wsV RX4 272 RX1 yX1_isHead wsX1_isHead) := goodIn_app (goodIn_of _ (by decide +kernel)) ggX4_levelAhead_X1_isHead
set_option maxRecDepth 20000 in
theorem ggX4_levelAhead_X1_level : GoodIn wsX4_levelAhead wsX1_level := goodIn_r _ [23, 19, 33, 34, 35, 36, 37, 38, 39, 40, 41, 42] (by decide +kernel) (by decide +kernel)
set_option maxRecDepth 20000 in
theorem gX4_levelAhead_X1_level : GoodIn wsX4_levelAhead (wsV RX4 276 RX1 yX1_level wsX1_level) := goodIn_app (goodIn_of _ (by decide +kernel)) ggX4_levelAhead_X1_level
theorem dX4_levelAhead_0 : decode cX4_levelAhead 0 = .ok (.iload_n 2, 1) := by decide +kernel
theorem dX4_levelAhead_1 : decode cX4_levelAhead 1 = .ok (.iconst 1, 1) := by decide +kernel
theorem dX4_levelAhead_2 : decode cX4_levelAhead 2 = .ok (.isub, 1) := by decide +kernel
theorem dX4_levelAhead_3 : decode cX4_levelAhead 3 = .ok (.istore_n 3, 1) := by decide +kernel
theorem dX4_levelAhead_4 : decode cX4_levelAhead 4 = .ok (.iload_n 3, 1) := by decide +kernel
theorem dX4_levelAhead_5 : decode cX4_levelAhead 5 = .ok (.ifCond .lt 39, 3) := by decide +kernel
theorem dX4_levelAhead_8 : decode cX4_levelAhead 8 = .ok (.aload_n 0, 1) := by decide +kernel
theorem dX4_levelAhead_9 : decode cX4_levelAhead 9 = .ok (.aload_n 1, 1) := by decide +kernel
theorem dX4_levelAhead_10 : decode cX4_levelAhead 10 = .ok (.iload_n 3, 1) := by decide +kernel
theorem dX4_levelAhead_11 : decode cX4_levelAhead 11 = .ok (.invokevirtual 123, 3) := by decide +kernel
theorem dX4_levelAhead_14 : decode cX4_levelAhead 14 = .ok (.invokevirtual 139, 3) := by decide +kernel
theorem dX4_levelAhead_17 : decode cX4_levelAhead 17 = .ok (.astore 4, 2) := by decide +kernel
theorem dX4_levelAhead_19 : decode cX4_levelAhead 19 = .ok (.aload 4, 2) := by decide +kernel
theorem dX4_levelAhead_21 : decode cX4_levelAhead 21 = .ok (.ifnull 17, 3) := by decide +kernel
theorem dX4_levelAhead_24 : decode cX4_levelAhead 24 = .ok (.aload 4, 2) := by decide +kernel
theorem dX4_levelAhead_26 : decode cX4_levelAhead 26 = .ok (.invokevirtual 272, 3) := by decide +kernel
theorem dX4_levelAhead_29 : decode cX4_levelAhead 29 = .ok (.ifCond .eq 9, 3) := by decide +kernel
theorem dX4_levelAhead_32 : decode cX4_levelAhead 32 = .ok (.aload 4, 2) := by decide +kernel
theorem dX4_levelAhead_34 : decode cX4_levelAhead 34 = .ok (.invokevirtual 276, 3) := by decide +kernel
theorem dX4_levelAhead_37 : decode cX4_levelAhead 37 = .ok (.ireturn, 1) := by decide +kernel
theorem dX4_levelAhead_38 : decode cX4_levelAhead 38 = .ok (.iinc 3 (-1), 3) := by decide +kernel
theorem dX4_levelAhead_41 : decode cX4_levelAhead 41 = .ok (.goto (-37), 3) := by decide +kernel
theorem dX4_levelAhead_44 : decode cX4_levelAhead 44 = .ok (.iconst 0, 1) := by decide +kernel
theorem dX4_levelAhead_45 : decode cX4_levelAhead 45 = .ok (.ireturn, 1) := by decide +kernel
theorem dX4_isOfKind_0 : decode cX4_isOfKind 0 = .ok (.aload_n 0, 1) := by decide +kernel
theorem dX4_isOfKind_1 : decode cX4_isOfKind 1 = .ok (.ifnull 15, 3) := by decide +kernel
theorem dX4_isOfKind_4 : decode cX4_isOfKind 4 = .ok (.aload_n 0, 1) := by decide +kernel
theorem dX4_isOfKind_5 : decode cX4_isOfKind 5 = .ok (.getfield 147, 3) := by decide +kernel
theorem dX4_isOfKind_8 : decode cX4_isOfKind 8 = .ok (.iload_n 1, 1) := by decide +kernel
theorem dX4_isOfKind_9 : decode cX4_isOfKind 9 = .ok (.if_icmp .ne 7, 3) := by decide +kernel
theorem dX4_isOfKind_12 : decode cX4_isOfKind 12 = .ok (.iconst 1, 1) := by decide +kernel
theorem dX4_isOfKind_13 : decode cX4_isOfKind 13 = .ok (.goto 4, 3) := by decide +kernel
theorem dX4_isOfKind_16 : decode cX4_isOfKind 16 = .ok (.iconst 0, 1) := by decide +kernel
theorem dX4_isOfKind_17 : decode cX4_isOfKind 17 = .ok (.ireturn, 1) := by decide +kernel
set_option maxRecDepth 20000 in
theorem ggX4_overlapsAny_X3_at : GoodIn wsX4_overlapsAny wsX3_at := goodIn_r _ [6, 7, 8, 28, 29] (by decide +kernel) (by decide +kernel)
set_option maxRecDepth 20000 in
theorem gX4_overlapsAny_X3_at : GoodIn wsX4_overlapsAny (wsV RX4 123 RX3 yX3_at wsX3_at) := goodIn_app (goodIn_of _ (by decide +kernel)) ggX4_overlapsAny_X3_at
set_option maxRecDepth 20000 in
theorem ggX4_overlapsAny_X4_madeBox : GoodIn wsX4_overlapsAny wsX4_madeBox := goodIn_r _ [13, 14, 30, 31, 32, 33, 34, 35, 36] (by decide +kernel) (by decide +kernel)
set_option maxRecDepth 20000 in
theorem gX4_overlapsAny_X4_madeBox : GoodIn wsX4_overlapsAny (wsV RX4 139 RX4 yX4_madeBox wsX4_madeBox) := goodIn_app (goodIn_of _ (by decide +kernel)) ggX4_overlapsAny_X4_madeBox
set_option maxRecDepth 20000 in
theorem ggX4_overlapsAny_X1_overlaps : GoodIn wsX4_overlapsAny wsX1_overlaps := goodIn_r _ [19, 20, 21, 22, 23, 24, 25, 18, 26, 27, 37, 38, 39, 40, 41, 42, 43, 44, 45, 46] (by decide +kernel) (by decide +kernel)
set_option maxRecDepth 20000 in
theorem gX4_overlapsAny_X1_overlaps : GoodIn wsX4_overlapsAny (wsV RX4 293 RX1 yX1_overlaps wsX1_overlaps) := goodIn_app (goodIn_of _ (by decide +kernel)) ggX4_overlapsAny_X1_overlaps
theorem dX4_overlapsAny_0 : decode cX4_overlapsAny 0 = .ok (.iconst 0, 1) := by decide +kernel
theorem dX4_overlapsAny_1 : decode cX4_overlapsAny 1 = .ok (.istore_n 3, 1) := by decide +kernel
theorem dX4_overlapsAny_2 : decode cX4_overlapsAny 2 = .ok (.iload_n 3, 1) := by decide +kernel
theorem dX4_overlapsAny_3 : decode cX4_overlapsAny 3 = .ok (.aload_n 2, 1) := by decide +kernel
theorem dX4_overlapsAny_4 : decode cX4_overlapsAny 4 = .ok (.getfield 136, 3) := by decide +kernel
theorem dX4_overlapsAny_7 : decode cX4_overlapsAny 7 = .ok (.if_icmp .ge 42, 3) := by decide +kernel
theorem dX4_overlapsAny_10 : decode cX4_overlapsAny 10 = .ok (.aload_n 0, 1) := by decide +kernel
theorem dX4_overlapsAny_11 : decode cX4_overlapsAny 11 = .ok (.aload_n 2, 1) := by decide +kernel
theorem dX4_overlapsAny_12 : decode cX4_overlapsAny 12 = .ok (.iload_n 3, 1) := by decide +kernel
theorem dX4_overlapsAny_13 : decode cX4_overlapsAny 13 = .ok (.invokevirtual 123, 3) := by decide +kernel
theorem dX4_overlapsAny_16 : decode cX4_overlapsAny 16 = .ok (.invokevirtual 139, 3) := by decide +kernel
theorem dX4_overlapsAny_19 : decode cX4_overlapsAny 19 = .ok (.astore 4, 2) := by decide +kernel
theorem dX4_overlapsAny_21 : decode cX4_overlapsAny 21 = .ok (.aload 4, 2) := by decide +kernel
theorem dX4_overlapsAny_23 : decode cX4_overlapsAny 23 = .ok (.ifnull 20, 3) := by decide +kernel
theorem dX4_overlapsAny_26 : decode cX4_overlapsAny 26 = .ok (.aload 4, 2) := by decide +kernel
theorem dX4_overlapsAny_28 : decode cX4_overlapsAny 28 = .ok (.aload_n 1, 1) := by decide +kernel
theorem dX4_overlapsAny_29 : decode cX4_overlapsAny 29 = .ok (.if_acmp .eq 14, 3) := by decide +kernel
theorem dX4_overlapsAny_32 : decode cX4_overlapsAny 32 = .ok (.aload_n 1, 1) := by decide +kernel
theorem dX4_overlapsAny_33 : decode cX4_overlapsAny 33 = .ok (.aload 4, 2) := by decide +kernel
theorem dX4_overlapsAny_35 : decode cX4_overlapsAny 35 = .ok (.invokevirtual 293, 3) := by decide +kernel
theorem dX4_overlapsAny_38 : decode cX4_overlapsAny 38 = .ok (.ifCond .eq 5, 3) := by decide +kernel
theorem dX4_overlapsAny_41 : decode cX4_overlapsAny 41 = .ok (.iconst 1, 1) := by decide +kernel
theorem dX4_overlapsAny_42 : decode cX4_overlapsAny 42 = .ok (.ireturn, 1) := by decide +kernel
theorem dX4_overlapsAny_43 : decode cX4_overlapsAny 43 = .ok (.iinc 3 1, 3) := by decide +kernel
theorem dX4_overlapsAny_46 : decode cX4_overlapsAny 46 = .ok (.goto (-44), 3) := by decide +kernel
theorem dX4_overlapsAny_49 : decode cX4_overlapsAny 49 = .ok (.iconst 0, 1) := by decide +kernel
theorem dX4_overlapsAny_50 : decode cX4_overlapsAny 50 = .ok (.ireturn, 1) := by decide +kernel
set_option maxRecDepth 20000 in
theorem ggX4_letFall_X0_holdsFor : GoodIn wsX4_letFall wsX0_holdsFor := goodIn_r _ [7, 8, 9, 17, 18, 19] (by decide +kernel) (by decide +kernel)
set_option maxRecDepth 20000 in
theorem gX4_letFall_X0_holdsFor : GoodIn wsX4_letFall (wsV RX4 184 RX0 yX0_holdsFor wsX0_holdsFor) := goodIn_app (goodIn_of _ (by decide +kernel)) ggX4_letFall_X0_holdsFor
theorem dX4_letFall_0 : decode cX4_letFall 0 = .ok (.iconst 0, 1) := by decide +kernel
theorem dX4_letFall_1 : decode cX4_letFall 1 = .ok (.istore_n 2, 1) := by decide +kernel
theorem dX4_letFall_2 : decode cX4_letFall 2 = .ok (.iconst 0, 1) := by decide +kernel
theorem dX4_letFall_3 : decode cX4_letFall 3 = .ok (.istore_n 3, 1) := by decide +kernel
theorem dX4_letFall_4 : decode cX4_letFall 4 = .ok (.iload_n 3, 1) := by decide +kernel
theorem dX4_letFall_5 : decode cX4_letFall 5 = .ok (.aload_n 0, 1) := by decide +kernel
theorem dX4_letFall_6 : decode cX4_letFall 6 = .ok (.getfield 39, 3) := by decide +kernel
theorem dX4_letFall_9 : decode cX4_letFall 9 = .ok (.arraylength, 1) := by decide +kernel
theorem dX4_letFall_10 : decode cX4_letFall 10 = .ok (.if_icmp .ge 40, 3) := by decide +kernel
theorem dX4_letFall_13 : decode cX4_letFall 13 = .ok (.aload_n 0, 1) := by decide +kernel
theorem dX4_letFall_14 : decode cX4_letFall 14 = .ok (.getfield 39, 3) := by decide +kernel
theorem dX4_letFall_17 : decode cX4_letFall 17 = .ok (.iload_n 3, 1) := by decide +kernel
theorem dX4_letFall_18 : decode cX4_letFall 18 = .ok (.aaload, 1) := by decide +kernel
theorem dX4_letFall_19 : decode cX4_letFall 19 = .ok (.astore 4, 2) := by decide +kernel
theorem dX4_letFall_21 : decode cX4_letFall 21 = .ok (.aload 4, 2) := by decide +kernel
theorem dX4_letFall_23 : decode cX4_letFall 23 = .ok (.ifnull 21, 3) := by decide +kernel
theorem dX4_letFall_26 : decode cX4_letFall 26 = .ok (.aload 4, 2) := by decide +kernel
theorem dX4_letFall_28 : decode cX4_letFall 28 = .ok (.iload_n 1, 1) := by decide +kernel
theorem dX4_letFall_29 : decode cX4_letFall 29 = .ok (.invokevirtual 184, 3) := by decide +kernel
theorem dX4_letFall_32 : decode cX4_letFall 32 = .ok (.ifCond .eq 12, 3) := by decide +kernel
theorem dX4_letFall_35 : decode cX4_letFall 35 = .ok (.aload 4, 2) := by decide +kernel
theorem dX4_letFall_37 : decode cX4_letFall 37 = .ok (.iconst 0, 1) := by decide +kernel
theorem dX4_letFall_38 : decode cX4_letFall 38 = .ok (.putfield 181, 3) := by decide +kernel
theorem dX4_letFall_41 : decode cX4_letFall 41 = .ok (.iinc 2 1, 3) := by decide +kernel
theorem dX4_letFall_44 : decode cX4_letFall 44 = .ok (.iinc 3 1, 3) := by decide +kernel
theorem dX4_letFall_47 : decode cX4_letFall 47 = .ok (.goto (-43), 3) := by decide +kernel
theorem dX4_letFall_50 : decode cX4_letFall 50 = .ok (.iload_n 2, 1) := by decide +kernel
theorem dX4_letFall_51 : decode cX4_letFall 51 = .ok (.ireturn, 1) := by decide +kernel
set_option maxRecDepth 20000 in
theorem ggX4_countHolding_X0_holdsFor : GoodIn wsX4_countHolding wsX0_holdsFor := goodIn_r _ [6, 7, 8, 16, 17, 18] (by decide +kernel) (by decide +kernel)
set_option maxRecDepth 20000 in
theorem gX4_countHolding_X0_holdsFor : GoodIn wsX4_countHolding (wsV RX4 184 RX0 yX0_holdsFor wsX0_holdsFor) := goodIn_app (goodIn_of _ (by decide +kernel)) ggX4_countHolding_X0_holdsFor
theorem dX4_countHolding_0 : decode cX4_countHolding 0 = .ok (.iconst 0, 1) := by decide +kernel
theorem dX4_countHolding_1 : decode cX4_countHolding 1 = .ok (.istore_n 2, 1) := by decide +kernel
theorem dX4_countHolding_2 : decode cX4_countHolding 2 = .ok (.iconst 0, 1) := by decide +kernel
theorem dX4_countHolding_3 : decode cX4_countHolding 3 = .ok (.istore_n 3, 1) := by decide +kernel
theorem dX4_countHolding_4 : decode cX4_countHolding 4 = .ok (.iload_n 3, 1) := by decide +kernel
theorem dX4_countHolding_5 : decode cX4_countHolding 5 = .ok (.aload_n 0, 1) := by decide +kernel
theorem dX4_countHolding_6 : decode cX4_countHolding 6 = .ok (.getfield 39, 3) := by decide +kernel
theorem dX4_countHolding_9 : decode cX4_countHolding 9 = .ok (.arraylength, 1) := by decide +kernel
theorem dX4_countHolding_10 : decode cX4_countHolding 10 = .ok (.if_icmp .ge 34, 3) := by decide +kernel
theorem dX4_countHolding_13 : decode cX4_countHolding 13 = .ok (.aload_n 0, 1) := by decide +kernel
theorem dX4_countHolding_14 : decode cX4_countHolding 14 = .ok (.getfield 39, 3) := by decide +kernel
theorem dX4_countHolding_17 : decode cX4_countHolding 17 = .ok (.iload_n 3, 1) := by decide +kernel
theorem dX4_countHolding_18 : decode cX4_countHolding 18 = .ok (.aaload, 1) := by decide +kernel
theorem dX4_countHolding_19 : decode cX4_countHolding 19 = .ok (.astore 4, 2) := by decide +kernel
theorem dX4_countHolding_21 : decode cX4_countHolding 21 = .ok (.aload 4, 2) := by decide +kernel
theorem dX4_countHolding_23 : decode cX4_countHolding 23 = .ok (.ifnull 15, 3) := by decide +kernel
theorem dX4_countHolding_26 : decode cX4_countHolding 26 = .ok (.aload 4, 2) := by decide +kernel
theorem dX4_countHolding_28 : decode cX4_countHolding 28 = .ok (.iload_n 1, 1) := by decide +kernel
theorem dX4_countHolding_29 : decode cX4_countHolding 29 = .ok (.invokevirtual 184, 3) := by decide +kernel
theorem dX4_countHolding_32 : decode cX4_countHolding 32 = .ok (.ifCond .eq 6, 3) := by decide +kernel
theorem dX4_countHolding_35 : decode cX4_countHolding 35 = .ok (.iinc 2 1, 3) := by decide +kernel
theorem dX4_countHolding_38 : decode cX4_countHolding 38 = .ok (.iinc 3 1, 3) := by decide +kernel
theorem dX4_countHolding_41 : decode cX4_countHolding 41 = .ok (.goto (-37), 3) := by decide +kernel
theorem dX4_countHolding_44 : decode cX4_countHolding 44 = .ok (.iload_n 2, 1) := by decide +kernel
theorem dX4_countHolding_45 : decode cX4_countHolding 45 = .ok (.ireturn, 1) := by decide +kernel
