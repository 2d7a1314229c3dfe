theorem dX5_init_0 : decode cX5_init 0 = .ok (.aload_n 0, 1) := by decide +kernel
theorem dX5_init_1 : decode cX5_init 1 = .ok (.invokespecial 1, 3) := by decide +kernel
theorem dX5_init_4 : decode cX5_init 4 = .ok (.aload_n 0, 1) := by decide +kernel
theorem dX5_init_5 : decode cX5_init 5 = .ok (.bipush 24, 2) := by decide +kernel
theorem dX5_init_7 : decode cX5_init 7 = .ok (.newarray .int, 2) := by decide +kernel
theorem dX5_init_9 : decode cX5_init 9 = .ok (.putfield 7, 3) := by decide +kernel
theorem dX5_init_12 : decode cX5_init 12 = .ok (.aload_n 0, 1) := by decide +kernel
theorem dX5_init_13 : decode cX5_init 13 = .ok (.bipush 24, 2) := by decide +kernel
theorem dX5_init_15 : decode cX5_init 15 = .ok (.newarray .int, 2) := by decide +kernel
theorem dX5_init_17 : decode cX5_init 17 = .ok (.putfield 13, 3) := by decide +kernel
theorem dX5_init_20 : decode cX5_init 20 = .ok (.aload_n 0, 1) := by decide +kernel
theorem dX5_init_21 : decode cX5_init 21 = .ok (.bipush 24, 2) := by decide +kernel
theorem dX5_init_23 : decode cX5_init 23 = .ok (.newarray .int, 2) := by decide +kernel
theorem dX5_init_25 : decode cX5_init 25 = .ok (.putfield 16, 3) := by decide +kernel
theorem dX5_init_28 : decode cX5_init 28 = .ok (.aload_n 0, 1) := by decide +kernel
theorem dX5_init_29 : decode cX5_init 29 = .ok (.bipush 24, 2) := by decide +kernel
theorem dX5_init_31 : decode cX5_init 31 = .ok (.newarray .int, 2) := by decide +kernel
theorem dX5_init_33 : decode cX5_init 33 = .ok (.putfield 19, 3) := by decide +kernel
theorem dX5_init_36 : decode cX5_init 36 = .ok (.aload_n 0, 1) := by decide +kernel
theorem dX5_init_37 : decode cX5_init 37 = .ok (.bipush 24, 2) := by decide +kernel
theorem dX5_init_39 : decode cX5_init 39 = .ok (.newarray .int, 2) := by decide +kernel
theorem dX5_init_41 : decode cX5_init 41 = .ok (.putfield 22, 3) := by decide +kernel
theorem dX5_init_44 : decode cX5_init 44 = .ok (.aload_n 0, 1) := by decide +kernel
theorem dX5_init_45 : decode cX5_init 45 = .ok (.bipush 24, 2) := by decide +kernel
theorem dX5_init_47 : decode cX5_init 47 = .ok (.newarray .int, 2) := by decide +kernel
theorem dX5_init_49 : decode cX5_init 49 = .ok (.putfield 25, 3) := by decide +kernel
theorem dX5_init_52 : decode cX5_init 52 = .ok (.aload_n 0, 1) := by decide +kernel
theorem dX5_init_53 : decode cX5_init 53 = .ok (.bipush 24, 2) := by decide +kernel
theorem dX5_init_55 : decode cX5_init 55 = .ok (.newarray .int, 2) := by decide +kernel
theorem dX5_init_57 : decode cX5_init 57 = .ok (.putfield 28, 3) := by decide +kernel
theorem dX5_init_60 : decode cX5_init 60 = .ok (.aload_n 0, 1) := by decide +kernel
theorem dX5_init_61 : decode cX5_init 61 = .ok (.bipush 24, 2) := by decide +kernel
theorem dX5_init_63 : decode cX5_init 63 = .ok (.newarray .int, 2) := by decide +kernel
theorem dX5_init_65 : decode cX5_init 65 = .ok (.putfield 31, 3) := by decide +kernel
theorem dX5_init_68 : decode cX5_init 68 = .ok (.aload_n 0, 1) := by decide +kernel
theorem dX5_init_69 : decode cX5_init 69 = .ok (.bipush 24, 2) := by decide +kernel
theorem dX5_init_71 : decode cX5_init 71 = .ok (.newarray .boolean, 2) := by decide +kernel
theorem dX5_init_73 : decode cX5_init 73 = .ok (.putfield 34, 3) := by decide +kernel
theorem dX5_init_76 : decode cX5_init 76 = .ok (.aload_n 0, 1) := by decide +kernel
theorem dX5_init_77 : decode cX5_init 77 = .ok (.bipush 20, 2) := by decide +kernel
theorem dX5_init_79 : decode cX5_init 79 = .ok (.newarray .int, 2) := by decide +kernel
theorem dX5_init_81 : decode cX5_init 81 = .ok (.putfield 38, 3) := by decide +kernel
theorem dX5_init_84 : decode cX5_init 84 = .ok (.aload_n 0, 1) := by decide +kernel
theorem dX5_init_85 : decode cX5_init 85 = .ok (.bipush 20, 2) := by decide +kernel
theorem dX5_init_87 : decode cX5_init 87 = .ok (.newarray .int, 2) := by decide +kernel
theorem dX5_init_89 : decode cX5_init 89 = .ok (.putfield 41, 3) := by decide +kernel
theorem dX5_init_92 : decode cX5_init 92 = .ok (.aload_n 0, 1) := by decide +kernel
theorem dX5_init_93 : decode cX5_init 93 = .ok (.bipush 20, 2) := by decide +kernel
theorem dX5_init_95 : decode cX5_init 95 = .ok (.newarray .boolean, 2) := by decide +kernel
theorem dX5_init_97 : decode cX5_init 97 = .ok (.putfield 44, 3) := by decide +kernel
theorem dX5_init_100 : decode cX5_init 100 = .ok (.aload_n 0, 1) := by decide +kernel
theorem dX5_init_101 : decode cX5_init 101 = .ok (.bipush 24, 2) := by decide +kernel
theorem dX5_init_103 : decode cX5_init 103 = .ok (.newarray .int, 2) := by decide +kernel
theorem dX5_init_105 : decode cX5_init 105 = .ok (.putfield 47, 3) := by decide +kernel
theorem dX5_init_108 : decode cX5_init 108 = .ok (.aload_n 0, 1) := by decide +kernel
theorem dX5_init_109 : decode cX5_init 109 = .ok (.bipush 24, 2) := by decide +kernel
theorem dX5_init_111 : decode cX5_init 111 = .ok (.newarray .int, 2) := by decide +kernel
theorem dX5_init_113 : decode cX5_init 113 = .ok (.putfield 50, 3) := by decide +kernel
theorem dX5_init_116 : decode cX5_init 116 = .ok (.aload_n 0, 1) := by decide +kernel
theorem dX5_init_117 : decode cX5_init 117 = .ok (.bipush 25, 2) := by decide +kernel
theorem dX5_init_119 : decode cX5_init 119 = .ok (.newarray .int, 2) := by decide +kernel
theorem dX5_init_121 : decode cX5_init 121 = .ok (.putfield 53, 3) := by decide +kernel
theorem dX5_init_124 : decode cX5_init 124 = .ok (.return_, 1) := by decide +kernel
theorem dX5_thrown_0 : decode cX5_thrown 0 = .ok (.aload_n 0, 1) := by decide +kernel
theorem dX5_thrown_1 : decode cX5_thrown 1 = .ok (.getfield 56, 3) := by decide +kernel
theorem dX5_thrown_4 : decode cX5_thrown 4 = .ok (.ireturn, 1) := by decide +kernel
theorem dX5_in_0 : decode cX5_in 0 = .ok (.iload_n 0, 1) := by decide +kernel
theorem dX5_in_1 : decode cX5_in 1 = .ok (.iload_n 1, 1) := by decide +kernel
theorem dX5_in_2 : decode cX5_in 2 = .ok (.if_icmp .lt 12, 3) := by decide +kernel
theorem dX5_in_5 : decode cX5_in 5 = .ok (.iload_n 0, 1) := by decide +kernel
theorem dX5_in_6 : decode cX5_in 6 = .ok (.iload_n 2, 1) := by decide +kernel
theorem dX5_in_7 : decode cX5_in 7 = .ok (.if_icmp .gt 7, 3) := by decide +kernel
theorem dX5_in_10 : decode cX5_in 10 = .ok (.iconst 1, 1) := by decide +kernel
theorem dX5_in_11 : decode cX5_in 11 = .ok (.goto 4, 3) := by decide +kernel
theorem dX5_in_14 : decode cX5_in 14 = .ok (.iconst 0, 1) := by decide +kernel
theorem dX5_in_15 : decode cX5_in 15 = .ok (.ireturn, 1) := by decide +kernel
theorem dX5_goes_0 : decode cX5_goes 0 = .ok (.aload_n 0, 1) := by decide +kernel
theorem dX5_goes_1 : decode cX5_goes 1 = .ok (.iload_n 1, 1) := by decide +kernel
theorem dX5_goes_2 : decode cX5_goes 2 = .ok (.ifCond .ne 7, 3) := by decide +kernel
theorem dX5_goes_5 : decode cX5_goes 5 = .ok (.iconst 1, 1) := by decide +kernel
theorem dX5_goes_6 : decode cX5_goes 6 = .ok (.goto 20, 3) := by decide +kernel
theorem dX5_goes_9 : decode cX5_goes 9 = .ok (.iload_n 2, 1) := by decide +kernel
theorem dX5_goes_10 : decode cX5_goes 10 = .ok (.ifCond .ne 7, 3) := by decide +kernel
theorem dX5_goes_13 : decode cX5_goes 13 = .ok (.iconst 2, 1) := by decide +kernel
theorem dX5_goes_14 : decode cX5_goes 14 = .ok (.goto 12, 3) := by decide +kernel
theorem dX5_goes_17 : decode cX5_goes 17 = .ok (.iload_n 3, 1) := by decide +kernel
theorem dX5_goes_18 : decode cX5_goes 18 = .ok (.ifCond .ne 7, 3) := by decide +kernel
theorem dX5_goes_21 : decode cX5_goes 21 = .ok (.iconst 3, 1) := by decide +kernel
theorem dX5_goes_22 : decode cX5_goes 22 = .ok (.goto 4, 3) := by decide +kernel
theorem dX5_goes_25 : decode cX5_goes 25 = .ok (.iconst 0, 1) := by decide +kernel
theorem dX5_goes_26 : decode cX5_goes 26 = .ok (.putfield 56, 3) := by decide +kernel
theorem dX5_goes_29 : decode cX5_goes 29 = .ok (.aload_n 0, 1) := by decide +kernel
theorem dX5_goes_30 : decode cX5_goes 30 = .ok (.getfield 56, 3) := by decide +kernel
theorem dX5_goes_33 : decode cX5_goes 33 = .ok (.ifCond .ne 7, 3) := by decide +kernel
theorem dX5_goes_36 : decode cX5_goes 36 = .ok (.iconst 1, 1) := by decide +kernel
theorem dX5_goes_37 : decode cX5_goes 37 = .ok (.goto 4, 3) := by decide +kernel
theorem dX5_goes_40 : decode cX5_goes 40 = .ok (.iconst 0, 1) := by decide +kernel
theorem dX5_goes_41 : decode cX5_goes 41 = .ok (.ireturn, 1) := by decide +kernel
set_option maxRecDepth 20000 in
theorem ggX5_isPage_X5_in : GoodIn wsX5_isPage wsX5_in := goodIn_r _ [4] (by decide +kernel) (by decide +kernel)
set_option maxRecDepth 20000 in
theorem gX5_isPage_X5_in : GoodIn wsX5_isPage (va_wsS RX5 60 yX5_in wsX5_in) := goodIn_app (goodIn_of _ (by decide +kernel)) ggX5_isPage_X5_in
theorem dX5_isPage_0 : decode cX5_isPage 0 = .ok (.iload_n 0, 1) := by decide +kernel
theorem dX5_isPage_1 : decode cX5_isPage 1 = .ok (.iconst 0, 1) := by decide +kernel
theorem dX5_isPage_2 : decode cX5_isPage 2 = .ok (.iconst 4, 1) := by decide +kernel
theorem dX5_isPage_3 : decode cX5_isPage 3 = .ok (.invokestatic 60, 3) := by decide +kernel
theorem dX5_isPage_6 : decode cX5_isPage 6 = .ok (.ireturn, 1) := by decide +kernel
set_option maxRecDepth 20000 in
theorem ggX5_isBox_X5_in : GoodIn wsX5_isBox wsX5_in := goodIn_r _ [6] (by decide +kernel) (by decide +kernel)
set_option maxRecDepth 20000 in
theorem gX5_isBox_X5_in : GoodIn wsX5_isBox (va_wsS RX5 60 yX5_in wsX5_in) := goodIn_app (goodIn_of _ (by decide +kernel)) ggX5_isBox_X5_in
theorem dX5_isBox_0 : decode cX5_isBox 0 = .ok (.iload_n 1, 1) := by decide +kernel
theorem dX5_isBox_1 : decode cX5_isBox 1 = .ok (.iconst 0, 1) := by decide +kernel
theorem dX5_isBox_2 : decode cX5_isBox 2 = .ok (.aload_n 0, 1) := by decide +kernel
theorem dX5_isBox_3 : decode cX5_isBox 3 = .ok (.getfield 64, 3) := by decide +kernel
theorem dX5_isBox_6 : decode cX5_isBox 6 = .ok (.iconst 1, 1) := by decide +kernel
theorem dX5_isBox_7 : decode cX5_isBox 7 = .ok (.isub, 1) := by decide +kernel
theorem dX5_isBox_8 : decode cX5_isBox 8 = .ok (.invokestatic 60, 3) := by decide +kernel
theorem dX5_isBox_11 : decode cX5_isBox 11 = .ok (.ifCond .eq 16, 3) := by decide +kernel
theorem dX5_isBox_14 : decode cX5_isBox 14 = .ok (.aload_n 0, 1) := by decide +kernel
theorem dX5_isBox_15 : decode cX5_isBox 15 = .ok (.getfield 34, 3) := by decide +kernel
theorem dX5_isBox_18 : decode cX5_isBox 18 = .ok (.iload_n 1, 1) := by decide +kernel
theorem dX5_isBox_19 : decode cX5_isBox 19 = .ok (.baload, 1) := by decide +kernel
theorem dX5_isBox_20 : decode cX5_isBox 20 = .ok (.ifCond .ne 7, 3) := by decide +kernel
theorem dX5_isBox_23 : decode cX5_isBox 23 = .ok (.iconst 1, 1) := by decide +kernel
theorem dX5_isBox_24 : decode cX5_isBox 24 = .ok (.goto 4, 3) := by decide +kernel
theorem dX5_isBox_27 : decode cX5_isBox 27 = .ok (.iconst 0, 1) := by decide +kernel
theorem dX5_isBox_28 : decode cX5_isBox 28 = .ok (.ireturn, 1) := by decide +kernel
theorem dX5_isWithin_0 : decode cX5_isWithin 0 = .ok (.iload_n 0, 1) := by decide +kernel
theorem dX5_isWithin_1 : decode cX5_isWithin 1 = .ok (.ifCond .lt 37, 3) := by decide +kernel
theorem dX5_isWithin_4 : decode cX5_isWithin 4 = .ok (.iload_n 1, 1) := by decide +kernel
theorem dX5_isWithin_5 : decode cX5_isWithin 5 = .ok (.ifCond .lt 33, 3) := by decide +kernel
theorem dX5_isWithin_8 : decode cX5_isWithin 8 = .ok (.iload_n 2, 1) := by decide +kernel
theorem dX5_isWithin_9 : decode cX5_isWithin 9 = .ok (.iconst 1, 1) := by decide +kernel
theorem dX5_isWithin_10 : decode cX5_isWithin 10 = .ok (.if_icmp .lt 28, 3) := by decide +kernel
theorem dX5_isWithin_13 : decode cX5_isWithin 13 = .ok (.iload_n 3, 1) := by decide +kernel
theorem dX5_isWithin_14 : decode cX5_isWithin 14 = .ok (.iconst 1, 1) := by decide +kernel
theorem dX5_isWithin_15 : decode cX5_isWithin 15 = .ok (.if_icmp .lt 23, 3) := by decide +kernel
theorem dX5_isWithin_18 : decode cX5_isWithin 18 = .ok (.iload_n 2, 1) := by decide +kernel
theorem dX5_isWithin_19 : decode cX5_isWithin 19 = .ok (.bipush 60, 2) := by decide +kernel
theorem dX5_isWithin_21 : decode cX5_isWithin 21 = .ok (.iload_n 0, 1) := by decide +kernel
theorem dX5_isWithin_22 : decode cX5_isWithin 22 = .ok (.isub, 1) := by decide +kernel
theorem dX5_isWithin_23 : decode cX5_isWithin 23 = .ok (.if_icmp .gt 15, 3) := by decide +kernel
theorem dX5_isWithin_26 : decode cX5_isWithin 26 = .ok (.iload_n 3, 1) := by decide +kernel
theorem dX5_isWithin_27 : decode cX5_isWithin 27 = .ok (.bipush 80, 2) := by decide +kernel
theorem dX5_isWithin_29 : decode cX5_isWithin 29 = .ok (.iload_n 1, 1) := by decide +kernel
theorem dX5_isWithin_30 : decode cX5_isWithin 30 = .ok (.isub, 1) := by decide +kernel
theorem dX5_isWithin_31 : decode cX5_isWithin 31 = .ok (.if_icmp .gt 7, 3) := by decide +kernel
theorem dX5_isWithin_34 : decode cX5_isWithin 34 = .ok (.iconst 1, 1) := by decide +kernel
theorem dX5_isWithin_35 : decode cX5_isWithin 35 = .ok (.goto 4, 3) := by decide +kernel
theorem dX5_isWithin_38 : decode cX5_isWithin 38 = .ok (.iconst 0, 1) := by decide +kernel
theorem dX5_isWithin_39 : decode cX5_isWithin 39 = .ok (.ireturn, 1) := by decide +kernel
theorem dX5_has_0 : decode cX5_has 0 = .ok (.iload_n 0, 1) := by decide +kernel
theorem dX5_has_1 : decode cX5_has 1 = .ok (.iload_n 1, 1) := by decide +kernel
theorem dX5_has_2 : decode cX5_has 2 = .ok (.ishr, 1) := by decide +kernel
theorem dX5_has_3 : decode cX5_has 3 = .ok (.iconst 1, 1) := by decide +kernel
theorem dX5_has_4 : decode cX5_has 4 = .ok (.iand, 1) := by decide +kernel
theorem dX5_has_5 : decode cX5_has 5 = .ok (.iconst 1, 1) := by decide +kernel
theorem dX5_has_6 : decode cX5_has 6 = .ok (.if_icmp .ne 7, 3) := by decide +kernel
theorem dX5_has_9 : decode cX5_has 9 = .ok (.iconst 1, 1) := by decide +kernel
theorem dX5_has_10 : decode cX5_has 10 = .ok (.goto 4, 3) := by decide +kernel
theorem dX5_has_13 : decode cX5_has 13 = .ok (.iconst 0, 1) := by decide +kernel
theorem dX5_has_14 : decode cX5_has 14 = .ok (.ireturn, 1) := by decide +kernel
theorem dX5_near_0 : decode cX5_near 0 = .ok (.iload_n 2, 1) := by decide +kernel
theorem dX5_near_1 : decode cX5_near 1 = .ok (.ifCond .eq 12, 3) := by decide +kernel
theorem dX5_near_4 : decode cX5_near 4 = .ok (.aload_n 0, 1) := by decide +kernel
theorem dX5_near_5 : decode cX5_near 5 = .ok (.getfield 16, 3) := by decide +kernel
theorem dX5_near_8 : decode cX5_near 8 = .ok (.iload_n 1, 1) := by decide +kernel
theorem dX5_near_9 : decode cX5_near 9 = .ok (.iaload, 1) := by decide +kernel
theorem dX5_near_10 : decode cX5_near 10 = .ok (.goto 9, 3) := by decide +kernel
theorem dX5_near_13 : decode cX5_near 13 = .ok (.aload_n 0, 1) := by decide +kernel
theorem dX5_near_14 : decode cX5_near 14 = .ok (.getfield 13, 3) := by decide +kernel
theorem dX5_near_17 : decode cX5_near 17 = .ok (.iload_n 1, 1) := by decide +kernel
theorem dX5_near_18 : decode cX5_near 18 = .ok (.iaload, 1) := by decide +kernel
theorem dX5_near_19 : decode cX5_near 19 = .ok (.ireturn, 1) := by decide +kernel
theorem dX5_far_0 : decode cX5_far 0 = .ok (.iload_n 2, 1) := by decide +kernel
theorem dX5_far_1 : decode cX5_far 1 = .ok (.ifCond .eq 19, 3) := by decide +kernel
theorem dX5_far_4 : decode cX5_far 4 = .ok (.aload_n 0, 1) := by decide +kernel
theorem dX5_far_5 : decode cX5_far 5 = .ok (.getfield 16, 3) := by decide +kernel
theorem dX5_far_8 : decode cX5_far 8 = .ok (.iload_n 1, 1) := by decide +kernel
theorem dX5_far_9 : decode cX5_far 9 = .ok (.iaload, 1) := by decide +kernel
theorem dX5_far_10 : decode cX5_far 10 = .ok (.aload_n 0, 1) := by decide +kernel
theorem dX5_far_11 : decode cX5_far 11 = .ok (.getfield 22, 3) := by decide +kernel
theorem dX5_far_14 : decode cX5_far 14 = .ok (.iload_n 1, 1) := by decide +kernel
theorem dX5_far_15 : decode cX5_far 15 = .ok (.iaload, 1) := by decide +kernel
theorem dX5_far_16 : decode cX5_far 16 = .ok (.iadd, 1) := by decide +kernel
theorem dX5_far_17 : decode cX5_far 17 = .ok (.goto 16, 3) := by decide +kernel
theorem dX5_far_20 : decode cX5_far 20 = .ok (.aload_n 0, 1) := by decide +kernel
theorem dX5_far_21 : decode cX5_far 21 = .ok (.getfield 13, 3) := by decide +kernel
theorem dX5_far_24 : decode cX5_far 24 = .ok (.iload_n 1, 1) := by decide +kernel
theorem dX5_far_25 : decode cX5_far 25 = .ok (.iaload, 1) := by decide +kernel
theorem dX5_far_26 : decode cX5_far 26 = .ok (.aload_n 0, 1) := by decide +kernel
theorem dX5_far_27 : decode cX5_far 27 = .ok (.getfield 19, 3) := by decide +kernel
theorem dX5_far_30 : decode cX5_far 30 = .ok (.iload_n 1, 1) := by decide +kernel
theorem dX5_far_31 : decode cX5_far 31 = .ok (.iaload, 1) := by decide +kernel
theorem dX5_far_32 : decode cX5_far 32 = .ok (.iadd, 1) := by decide +kernel
theorem dX5_far_33 : decode cX5_far 33 = .ok (.ireturn, 1) := by decide +kernel
set_option maxRecDepth 20000 in
theorem ggX5_cutAt_X5_has : GoodIn wsX5_cutAt wsX5_has := goodIn_r _ [5] (by decide +kernel) (by decide +kernel)
set_option maxRecDepth 20000 in
theorem gX5_cutAt_X5_has : GoodIn wsX5_cutAt (va_wsS RX5 67 yX5_has wsX5_has) := goodIn_app (goodIn_of _ (by decide +kernel)) ggX5_cutAt_X5_has
set_option maxRecDepth 20000 in
theorem ggX5_cutAt_X5_far : GoodIn wsX5_cutAt wsX5_far := goodIn_r _ [9, 10, 11, 12, 13, 18, 19, 20, 21, 22, 23, 24, 25, 26, 27, 28, 29, 30, 31, 32, 33, 34, 35, 36, 37, 38] (by decide +kernel) (by decide +kernel)
set_option maxRecDepth 20000 in
theorem gX5_cutAt_X5_far : GoodIn wsX5_cutAt (wsV RX5 71 RX5 yX5_far wsX5_far) := goodIn_app (goodIn_of _ (by decide +kernel)) ggX5_cutAt_X5_far
set_option maxRecDepth 20000 in
theorem ggX5_cutAt_X5_near : GoodIn wsX5_cutAt wsX5_near := goodIn_r _ [17, 10, 12, 18, 19, 20, 21, 22, 23, 24, 25, 26, 27, 28, 29, 30, 31, 32, 33, 34, 35, 36, 37, 38] (by decide +kernel) (by decide +kernel)
set_option maxRecDepth 20000 in
theorem gX5_cutAt_X5_near : GoodIn wsX5_cutAt (wsV RX5 75 RX5 yX5_near wsX5_near) := goodIn_app (goodIn_of _ (by decide +kernel)) ggX5_cutAt_X5_near
theorem dX5_cutAt_0 : decode cX5_cutAt 0 = .ok (.iconst 0, 1) := by decide +kernel
theorem dX5_cutAt_1 : decode cX5_cutAt 1 = .ok (.istore 4, 2) := by decide +kernel
theorem dX5_cutAt_3 : decode cX5_cutAt 3 = .ok (.iconst 1, 1) := by decide +kernel
theorem dX5_cutAt_4 : decode cX5_cutAt 4 = .ok (.istore 5, 2) := by decide +kernel
theorem dX5_cutAt_6 : decode cX5_cutAt 6 = .ok (.iconst 0, 1) := by decide +kernel
theorem dX5_cutAt_7 : decode cX5_cutAt 7 = .ok (.istore 6, 2) := by decide +kernel
theorem dX5_cutAt_9 : decode cX5_cutAt 9 = .ok (.iload 6, 2) := by decide +kernel
theorem dX5_cutAt_11 : decode cX5_cutAt 11 = .ok (.aload_n 0, 1) := by decide +kernel
theorem dX5_cutAt_12 : decode cX5_cutAt 12 = .ok (.getfield 64, 3) := by decide +kernel
theorem dX5_cutAt_15 : decode cX5_cutAt 15 = .ok (.if_icmp .ge 82, 3) := by decide +kernel
theorem dX5_cutAt_18 : decode cX5_cutAt 18 = .ok (.iload_n 1, 1) := by decide +kernel
theorem dX5_cutAt_19 : decode cX5_cutAt 19 = .ok (.iload 6, 2) := by decide +kernel
theorem dX5_cutAt_21 : decode cX5_cutAt 21 = .ok (.invokestatic 67, 3) := by decide +kernel
theorem dX5_cutAt_24 : decode cX5_cutAt 24 = .ok (.ifCond .eq 67, 3) := by decide +kernel
theorem dX5_cutAt_27 : decode cX5_cutAt 27 = .ok (.aload_n 0, 1) := by decide +kernel
theorem dX5_cutAt_28 : decode cX5_cutAt 28 = .ok (.iload 6, 2) := by decide +kernel
theorem dX5_cutAt_30 : decode cX5_cutAt 30 = .ok (.iload_n 3, 1) := by decide +kernel
theorem dX5_cutAt_31 : decode cX5_cutAt 31 = .ok (.invokevirtual 71, 3) := by decide +kernel
theorem dX5_cutAt_34 : decode cX5_cutAt 34 = .ok (.iload_n 2, 1) := by decide +kernel
theorem dX5_cutAt_35 : decode cX5_cutAt 35 = .ok (.if_icmp .gt 7, 3) := by decide +kernel
theorem dX5_cutAt_38 : decode cX5_cutAt 38 = .ok (.iconst 1, 1) := by decide +kernel
theorem dX5_cutAt_39 : decode cX5_cutAt 39 = .ok (.goto 4, 3) := by decide +kernel
theorem dX5_cutAt_42 : decode cX5_cutAt 42 = .ok (.iconst 0, 1) := by decide +kernel
theorem dX5_cutAt_43 : decode cX5_cutAt 43 = .ok (.istore 7, 2) := by decide +kernel
theorem dX5_cutAt_45 : decode cX5_cutAt 45 = .ok (.iload 5, 2) := by decide +kernel
theorem dX5_cutAt_47 : decode cX5_cutAt 47 = .ok (.ifCond .eq 23, 3) := by decide +kernel
theorem dX5_cutAt_50 : decode cX5_cutAt 50 = .ok (.iload 7, 2) := by decide +kernel
theorem dX5_cutAt_52 : decode cX5_cutAt 52 = .ok (.ifCond .ne 14, 3) := by decide +kernel
theorem dX5_cutAt_55 : decode cX5_cutAt 55 = .ok (.aload_n 0, 1) := by decide +kernel
theorem dX5_cutAt_56 : decode cX5_cutAt 56 = .ok (.iload 6, 2) := by decide +kernel
theorem dX5_cutAt_58 : decode cX5_cutAt 58 = .ok (.iload_n 3, 1) := by decide +kernel
theorem dX5_cutAt_59 : decode cX5_cutAt 59 = .ok (.invokevirtual 75, 3) := by decide +kernel
theorem dX5_cutAt_62 : decode cX5_cutAt 62 = .ok (.iload_n 2, 1) := by decide +kernel
theorem dX5_cutAt_63 : decode cX5_cutAt 63 = .ok (.if_icmp .lt 7, 3) := by decide +kernel
theorem dX5_cutAt_66 : decode cX5_cutAt 66 = .ok (.iconst 1, 1) := by decide +kernel
theorem dX5_cutAt_67 : decode cX5_cutAt 67 = .ok (.goto 4, 3) := by decide +kernel
theorem dX5_cutAt_70 : decode cX5_cutAt 70 = .ok (.iconst 0, 1) := by decide +kernel
theorem dX5_cutAt_71 : decode cX5_cutAt 71 = .ok (.istore 5, 2) := by decide +kernel
theorem dX5_cutAt_73 : decode cX5_cutAt 73 = .ok (.iload 4, 2) := by decide +kernel
theorem dX5_cutAt_75 : decode cX5_cutAt 75 = .ok (.iload 7, 2) := by decide +kernel
theorem dX5_cutAt_77 : decode cX5_cutAt 77 = .ok (.ifCond .eq 10, 3) := by decide +kernel
theorem dX5_cutAt_80 : decode cX5_cutAt 80 = .ok (.iconst 1, 1) := by decide +kernel
theorem dX5_cutAt_81 : decode cX5_cutAt 81 = .ok (.iload 6, 2) := by decide +kernel
theorem dX5_cutAt_83 : decode cX5_cutAt 83 = .ok (.ishl, 1) := by decide +kernel
theorem dX5_cutAt_84 : decode cX5_cutAt 84 = .ok (.goto 4, 3) := by decide +kernel
theorem dX5_cutAt_87 : decode cX5_cutAt 87 = .ok (.iconst 0, 1) := by decide +kernel
theorem dX5_cutAt_88 : decode cX5_cutAt 88 = .ok (.ior, 1) := by decide +kernel
theorem dX5_cutAt_89 : decode cX5_cutAt 89 = .ok (.istore 4, 2) := by decide +kernel
theorem dX5_cutAt_91 : decode cX5_cutAt 91 = .ok (.iinc 6 1, 3) := by decide +kernel
theorem dX5_cutAt_94 : decode cX5_cutAt 94 = .ok (.goto (-85), 3) := by decide +kernel
theorem dX5_cutAt_97 : decode cX5_cutAt 97 = .ok (.iload 5, 2) := by decide +kernel
theorem dX5_cutAt_99 : decode cX5_cutAt 99 = .ok (.ifCond .eq 14, 3) := by decide +kernel
theorem dX5_cutAt_102 : decode cX5_cutAt 102 = .ok (.iload 4, 2) := by decide +kernel
theorem dX5_cutAt_104 : decode cX5_cutAt 104 = .ok (.iload_n 1, 1) := by decide +kernel
theorem dX5_cutAt_105 : decode cX5_cutAt 105 = .ok (.if_icmp .eq 8, 3) := by decide +kernel
theorem dX5_cutAt_108 : decode cX5_cutAt 108 = .ok (.iload 4, 2) := by decide +kernel
theorem dX5_cutAt_110 : decode cX5_cutAt 110 = .ok (.goto 4, 3) := by decide +kernel
theorem dX5_cutAt_113 : decode cX5_cutAt 113 = .ok (.iconst 0, 1) := by decide +kernel
theorem dX5_cutAt_114 : decode cX5_cutAt 114 = .ok (.ireturn, 1) := by decide +kernel
set_option maxRecDepth 20000 in
theorem ggX5_cut_X5_cutAt : GoodIn wsX5_cut wsX5_cutAt := goodIn_r _ [5, 6, 7, 8, 4, 9, 10, 11, 12, 13, 14, 15, 16, 17, 18, 19, 20, 21, 22, 23, 24, 25, 26, 27, 28, 29, 30, 31, 32, 33, 34, 35, 36, 37, 38, 39, 40, 41, 42] (by decide +kernel) (by decide +kernel)
set_option maxRecDepth 20000 in
theorem gX5_cut_X5_cutAt : GoodIn wsX5_cut (wsV RX5 78 RX5 yX5_cutAt wsX5_cutAt) := goodIn_app (goodIn_of _ (by decide +kernel)) ggX5_cut_X5_cutAt
theorem dX5_cut_0 : decode cX5_cut 0 = .ok (.iconst 0, 1) := by decide +kernel
theorem dX5_cut_1 : decode cX5_cut 1 = .ok (.istore_n 3, 1) := by decide +kernel
theorem dX5_cut_2 : decode cX5_cut 2 = .ok (.iconst 1, 1) := by decide +kernel
theorem dX5_cut_3 : decode cX5_cut 3 = .ok (.istore 4, 2) := by decide +kernel
theorem dX5_cut_5 : decode cX5_cut 5 = .ok (.iload 4, 2) := by decide +kernel
theorem dX5_cut_7 : decode cX5_cut 7 = .ok (.bipush 80, 2) := by decide +kernel
theorem dX5_cut_9 : decode cX5_cut 9 = .ok (.if_icmp .ge 22, 3) := by decide +kernel
theorem dX5_cut_12 : decode cX5_cut 12 = .ok (.iload_n 3, 1) := by decide +kernel
theorem dX5_cut_13 : decode cX5_cut 13 = .ok (.ifCond .ne 18, 3) := by decide +kernel
theorem dX5_cut_16 : decode cX5_cut 16 = .ok (.aload_n 0, 1) := by decide +kernel
theorem dX5_cut_17 : decode cX5_cut 17 = .ok (.iload_n 1, 1) := by decide +kernel
theorem dX5_cut_18 : decode cX5_cut 18 = .ok (.iload 4, 2) := by decide +kernel
theorem dX5_cut_20 : decode cX5_cut 20 = .ok (.iload_n 2, 1) := by decide +kernel
theorem dX5_cut_21 : decode cX5_cut 21 = .ok (.invokevirtual 78, 3) := by decide +kernel
theorem dX5_cut_24 : decode cX5_cut 24 = .ok (.istore_n 3, 1) := by decide +kernel
theorem dX5_cut_25 : decode cX5_cut 25 = .ok (.iinc 4 1, 3) := by decide +kernel
theorem dX5_cut_28 : decode cX5_cut 28 = .ok (.goto (-23), 3) := by decide +kernel
theorem dX5_cut_31 : decode cX5_cut 31 = .ok (.iload_n 3, 1) := by decide +kernel
theorem dX5_cut_32 : decode cX5_cut 32 = .ok (.ireturn, 1) := by decide +kernel
theorem dX5_isAhead_0 : decode cX5_isAhead 0 = .ok (.aload_n 0, 1) := by decide +kernel
theorem dX5_isAhead_1 : decode cX5_isAhead 1 = .ok (.getfield 16, 3) := by decide +kernel
theorem dX5_isAhead_4 : decode cX5_isAhead 4 = .ok (.iload_n 1, 1) := by decide +kernel
theorem dX5_isAhead_5 : decode cX5_isAhead 5 = .ok (.iaload, 1) := by decide +kernel
theorem dX5_isAhead_6 : decode cX5_isAhead 6 = .ok (.aload_n 0, 1) := by decide +kernel
theorem dX5_isAhead_7 : decode cX5_isAhead 7 = .ok (.getfield 16, 3) := by decide +kernel
theorem dX5_isAhead_10 : decode cX5_isAhead 10 = .ok (.iload_n 2, 1) := by decide +kernel
theorem dX5_isAhead_11 : decode cX5_isAhead 11 = .ok (.iaload, 1) := by decide +kernel
theorem dX5_isAhead_12 : decode cX5_isAhead 12 = .ok (.if_icmp .eq 26, 3) := by decide +kernel
theorem dX5_isAhead_15 : decode cX5_isAhead 15 = .ok (.aload_n 0, 1) := by decide +kernel
theorem dX5_isAhead_16 : decode cX5_isAhead 16 = .ok (.getfield 16, 3) := by decide +kernel
theorem dX5_isAhead_19 : decode cX5_isAhead 19 = .ok (.iload_n 1, 1) := by decide +kernel
theorem dX5_isAhead_20 : decode cX5_isAhead 20 = .ok (.iaload, 1) := by decide +kernel
theorem dX5_isAhead_21 : decode cX5_isAhead 21 = .ok (.aload_n 0, 1) := by decide +kernel
theorem dX5_isAhead_22 : decode cX5_isAhead 22 = .ok (.getfield 16, 3) := by decide +kernel
theorem dX5_isAhead_25 : decode cX5_isAhead 25 = .ok (.iload_n 2, 1) := by decide +kernel
theorem dX5_isAhead_26 : decode cX5_isAhead 26 = .ok (.iaload, 1) := by decide +kernel
theorem dX5_isAhead_27 : decode cX5_isAhead 27 = .ok (.if_icmp .ge 7, 3) := by decide +kernel
theorem dX5_isAhead_30 : decode cX5_isAhead 30 = .ok (.iconst 1, 1) := by decide +kernel
theorem dX5_isAhead_31 : decode cX5_isAhead 31 = .ok (.goto 55, 3) := by decide +kernel
theorem dX5_isAhead_34 : decode cX5_isAhead 34 = .ok (.iconst 0, 1) := by decide +kernel
theorem dX5_isAhead_35 : decode cX5_isAhead 35 = .ok (.goto 51, 3) := by decide +kernel
theorem dX5_isAhead_38 : decode cX5_isAhead 38 = .ok (.aload_n 0, 1) := by decide +kernel
theorem dX5_isAhead_39 : decode cX5_isAhead 39 = .ok (.getfield 13, 3) := by decide +kernel
theorem dX5_isAhead_42 : decode cX5_isAhead 42 = .ok (.iload_n 1, 1) := by decide +kernel
theorem dX5_isAhead_43 : decode cX5_isAhead 43 = .ok (.iaload, 1) := by decide +kernel
theorem dX5_isAhead_44 : decode cX5_isAhead 44 = .ok (.aload_n 0, 1) := by decide +kernel
theorem dX5_isAhead_45 : decode cX5_isAhead 45 = .ok (.getfield 13, 3) := by decide +kernel
theorem dX5_isAhead_48 : decode cX5_isAhead 48 = .ok (.iload_n 2, 1) := by decide +kernel
theorem dX5_isAhead_49 : decode cX5_isAhead 49 = .ok (.iaload, 1) := by decide +kernel
theorem dX5_isAhead_50 : decode cX5_isAhead 50 = .ok (.if_icmp .eq 26, 3) := by decide +kernel
theorem dX5_isAhead_53 : decode cX5_isAhead 53 = .ok (.aload_n 0, 1) := by decide +kernel
theorem dX5_isAhead_54 : decode cX5_isAhead 54 = .ok (.getfield 13, 3) := by decide +kernel
theorem dX5_isAhead_57 : decode cX5_isAhead 57 = .ok (.iload_n 1, 1) := by decide +kernel
theorem dX5_isAhead_58 : decode cX5_isAhead 58 = .ok (.iaload, 1) := by decide +kernel
theorem dX5_isAhead_59 : decode cX5_isAhead 59 = .ok (.aload_n 0, 1) := by decide +kernel
theorem dX5_isAhead_60 : decode cX5_isAhead 60 = .ok (.getfield 13, 3) := by decide +kernel
theorem dX5_isAhead_63 : decode cX5_isAhead 63 = .ok (.iload_n 2, 1) := by decide +kernel
theorem dX5_isAhead_64 : decode cX5_isAhead 64 = .ok (.iaload, 1) := by decide +kernel
theorem dX5_isAhead_65 : decode cX5_isAhead 65 = .ok (.if_icmp .ge 7, 3) := by decide +kernel
theorem dX5_isAhead_68 : decode cX5_isAhead 68 = .ok (.iconst 1, 1) := by decide +kernel
theorem dX5_isAhead_69 : decode cX5_isAhead 69 = .ok (.goto 17, 3) := by decide +kernel
theorem dX5_isAhead_72 : decode cX5_isAhead 72 = .ok (.iconst 0, 1) := by decide +kernel
theorem dX5_isAhead_73 : decode cX5_isAhead 73 = .ok (.goto 13, 3) := by decide +kernel
theorem dX5_isAhead_76 : decode cX5_isAhead 76 = .ok (.iload_n 1, 1) := by decide +kernel
theorem dX5_isAhead_77 : decode cX5_isAhead 77 = .ok (.iload_n 2, 1) := by decide +kernel
theorem dX5_isAhead_78 : decode cX5_isAhead 78 = .ok (.if_icmp .ge 7, 3) := by decide +kernel
theorem dX5_isAhead_81 : decode cX5_isAhead 81 = .ok (.iconst 1, 1) := by decide +kernel
theorem dX5_isAhead_82 : decode cX5_isAhead 82 = .ok (.goto 4, 3) := by decide +kernel
theorem dX5_isAhead_85 : decode cX5_isAhead 85 = .ok (.iconst 0, 1) := by decide +kernel
theorem dX5_isAhead_86 : decode cX5_isAhead 86 = .ok (.ireturn, 1) := by decide +kernel
theorem dX5_reads_0 : decode cX5_reads 0 = .ok (.iload_n 1, 1) := by decide +kernel
theorem dX5_reads_1 : decode cX5_reads 1 = .ok (.istore_n 2, 1) := by decide +kernel
theorem dX5_reads_2 : decode cX5_reads 2 = .ok (.iload_n 2, 1) := by decide +kernel
theorem dX5_reads_3 : decode cX5_reads 3 = .ok (.iconst (-1), 1) := by decide +kernel
theorem dX5_reads_4 : decode cX5_reads 4 = .ok (.if_icmp .eq 33, 3) := by decide +kernel
theorem dX5_reads_7 : decode cX5_reads 7 = .ok (.aload_n 0, 1) := by decide +kernel
theorem dX5_reads_8 : decode cX5_reads 8 = .ok (.getfield 47, 3) := by decide +kernel
theorem dX5_reads_11 : decode cX5_reads 11 = .ok (.aload_n 0, 1) := by decide +kernel
theorem dX5_reads_12 : decode cX5_reads 12 = .ok (.getfield 82, 3) := by decide +kernel
theorem dX5_reads_15 : decode cX5_reads 15 = .ok (.iload_n 2, 1) := by decide +kernel
theorem dX5_reads_16 : decode cX5_reads 16 = .ok (.iastore, 1) := by decide +kernel
theorem dX5_reads_17 : decode cX5_reads 17 = .ok (.aload_n 0, 1) := by decide +kernel
theorem dX5_reads_18 : decode cX5_reads 18 = .ok (.dup, 1) := by decide +kernel
theorem dX5_reads_19 : decode cX5_reads 19 = .ok (.getfield 82, 3) := by decide +kernel
theorem dX5_reads_22 : decode cX5_reads 22 = .ok (.iconst 1, 1) := by decide +kernel
theorem dX5_reads_23 : decode cX5_reads 23 = .ok (.iadd, 1) := by decide +kernel
theorem dX5_reads_24 : decode cX5_reads 24 = .ok (.putfield 82, 3) := by decide +kernel
theorem dX5_reads_27 : decode cX5_reads 27 = .ok (.aload_n 0, 1) := by decide +kernel
theorem dX5_reads_28 : decode cX5_reads 28 = .ok (.getfield 31, 3) := by decide +kernel
theorem dX5_reads_31 : decode cX5_reads 31 = .ok (.iload_n 2, 1) := by decide +kernel
theorem dX5_reads_32 : decode cX5_reads 32 = .ok (.iaload, 1) := by decide +kernel
theorem dX5_reads_33 : decode cX5_reads 33 = .ok (.istore_n 2, 1) := by decide +kernel
theorem dX5_reads_34 : decode cX5_reads 34 = .ok (.goto (-32), 3) := by decide +kernel
theorem dX5_reads_37 : decode cX5_reads 37 = .ok (.return_, 1) := by decide +kernel
set_option maxRecDepth 20000 in
theorem ggX5_readsAll_X5_has : GoodIn wsX5_readsAll wsX5_has := goodIn_r _ [5] (by decide +kernel) (by decide +kernel)
set_option maxRecDepth 20000 in
theorem gX5_readsAll_X5_has : GoodIn wsX5_readsAll (va_wsS RX5 67 yX5_has wsX5_has) := goodIn_app (goodIn_of _ (by decide +kernel)) ggX5_readsAll_X5_has
set_option maxRecDepth 20000 in
theorem ggX5_readsAll_X5_isAhead : GoodIn wsX5_readsAll wsX5_isAhead := goodIn_r _ [9, 10, 11, 19, 20, 21, 22, 23, 24, 25, 26, 27, 28, 29, 30, 31, 32, 33, 34, 35, 36, 37, 38, 39] (by decide +kernel) (by decide +kernel)
set_option maxRecDepth 20000 in
theorem gX5_readsAll_X5_isAhead : GoodIn wsX5_readsAll (wsV RX5 85 RX5 yX5_isAhead wsX5_isAhead) := goodIn_app (goodIn_of _ (by decide +kernel)) ggX5_readsAll_X5_isAhead
set_option maxRecDepth 20000 in
theorem ggX5_readsAll_X5_reads : GoodIn wsX5_readsAll wsX5_reads := goodIn_r _ [15, 16, 17, 18, 19, 20, 21, 22, 23, 24, 25, 26, 27, 28, 29, 30, 31, 32, 33, 34, 35, 36, 37, 38, 39] (by decide +kernel) (by decide +kernel)
set_option maxRecDepth 20000 in
theorem gX5_readsAll_X5_reads : GoodIn wsX5_readsAll (wsV RX5 88 RX5 yX5_reads wsX5_reads) := goodIn_app (goodIn_of _ (by decide +kernel)) ggX5_readsAll_X5_reads
theorem dX5_readsAll_0 : decode cX5_readsAll 0 = .ok (.iload_n 1, 1) := by decide +kernel
theorem dX5_readsAll_1 : decode cX5_readsAll 1 = .ok (.istore_n 2, 1) := by decide +kernel
theorem dX5_readsAll_2 : decode cX5_readsAll 2 = .ok (.iload_n 2, 1) := by decide +kernel
theorem dX5_readsAll_3 : decode cX5_readsAll 3 = .ok (.ifCond .eq 70, 3) := by decide +kernel
theorem dX5_readsAll_6 : decode cX5_readsAll 6 = .ok (.iconst (-1), 1) := by decide +kernel
theorem dX5_readsAll_7 : decode cX5_readsAll 7 = .ok (.istore_n 3, 1) := by decide +kernel
theorem dX5_readsAll_8 : decode cX5_readsAll 8 = .ok (.iconst 0, 1) := by decide +kernel
theorem dX5_readsAll_9 : decode cX5_readsAll 9 = .ok (.istore 4, 2) := by decide +kernel
theorem dX5_readsAll_11 : decode cX5_readsAll 11 = .ok (.iload 4, 2) := by decide +kernel
theorem dX5_readsAll_13 : decode cX5_readsAll 13 = .ok (.aload_n 0, 1) := by decide +kernel
theorem dX5_readsAll_14 : decode cX5_readsAll 14 = .ok (.getfield 64, 3) := by decide +kernel
theorem dX5_readsAll_17 : decode cX5_readsAll 17 = .ok (.if_icmp .ge 40, 3) := by decide +kernel
theorem dX5_readsAll_20 : decode cX5_readsAll 20 = .ok (.iload_n 2, 1) := by decide +kernel
theorem dX5_readsAll_21 : decode cX5_readsAll 21 = .ok (.iload 4, 2) := by decide +kernel
theorem dX5_readsAll_23 : decode cX5_readsAll 23 = .ok (.invokestatic 67, 3) := by decide +kernel
theorem dX5_readsAll_26 : decode cX5_readsAll 26 = .ok (.ifCond .eq 23, 3) := by decide +kernel
theorem dX5_readsAll_29 : decode cX5_readsAll 29 = .ok (.iload_n 3, 1) := by decide +kernel
theorem dX5_readsAll_30 : decode cX5_readsAll 30 = .ok (.iconst (-1), 1) := by decide +kernel
theorem dX5_readsAll_31 : decode cX5_readsAll 31 = .ok (.if_icmp .eq 13, 3) := by decide +kernel
theorem dX5_readsAll_34 : decode cX5_readsAll 34 = .ok (.aload_n 0, 1) := by decide +kernel
theorem dX5_readsAll_35 : decode cX5_readsAll 35 = .ok (.iload 4, 2) := by decide +kernel
theorem dX5_readsAll_37 : decode cX5_readsAll 37 = .ok (.iload_n 3, 1) := by decide +kernel
theorem dX5_readsAll_38 : decode cX5_readsAll 38 = .ok (.invokevirtual 85, 3) := by decide +kernel
theorem dX5_readsAll_41 : decode cX5_readsAll 41 = .ok (.ifCond .eq 8, 3) := by decide +kernel
theorem dX5_readsAll_44 : decode cX5_readsAll 44 = .ok (.iload 4, 2) := by decide +kernel
theorem dX5_readsAll_46 : decode cX5_readsAll 46 = .ok (.goto 4, 3) := by decide +kernel
theorem dX5_readsAll_49 : decode cX5_readsAll 49 = .ok (.iload_n 3, 1) := by decide +kernel
theorem dX5_readsAll_50 : decode cX5_readsAll 50 = .ok (.istore_n 3, 1) := by decide +kernel
theorem dX5_readsAll_51 : decode cX5_readsAll 51 = .ok (.iinc 4 1, 3) := by decide +kernel
theorem dX5_readsAll_54 : decode cX5_readsAll 54 = .ok (.goto (-43), 3) := by decide +kernel
theorem dX5_readsAll_57 : decode cX5_readsAll 57 = .ok (.aload_n 0, 1) := by decide +kernel
theorem dX5_readsAll_58 : decode cX5_readsAll 58 = .ok (.iload_n 3, 1) := by decide +kernel
theorem dX5_readsAll_59 : decode cX5_readsAll 59 = .ok (.invokevirtual 88, 3) := by decide +kernel
theorem dX5_readsAll_62 : decode cX5_readsAll 62 = .ok (.iload_n 2, 1) := by decide +kernel
theorem dX5_readsAll_63 : decode cX5_readsAll 63 = .ok (.iconst 1, 1) := by decide +kernel
theorem dX5_readsAll_64 : decode cX5_readsAll 64 = .ok (.iload_n 3, 1) := by decide +kernel
theorem dX5_readsAll_65 : decode cX5_readsAll 65 = .ok (.ishl, 1) := by decide +kernel
theorem dX5_readsAll_66 : decode cX5_readsAll 66 = .ok (.iconst (-1), 1) := by decide +kernel
theorem dX5_readsAll_67 : decode cX5_readsAll 67 = .ok (.ixor, 1) := by decide +kernel
theorem dX5_readsAll_68 : decode cX5_readsAll 68 = .ok (.iand, 1) := by decide +kernel
theorem dX5_readsAll_69 : decode cX5_readsAll 69 = .ok (.istore_n 2, 1) := by decide +kernel
theorem dX5_readsAll_70 : decode cX5_readsAll 70 = .ok (.goto (-68), 3) := by decide +kernel
theorem dX5_readsAll_73 : decode cX5_readsAll 73 = .ok (.return_, 1) := by decide +kernel
theorem dX5_puts_0 : decode cX5_puts 0 = .ok (.aload_n 0, 1) := by decide +kernel
theorem dX5_puts_1 : decode cX5_puts 1 = .ok (.getfield 53, 3) := by decide +kernel
theorem dX5_puts_4 : decode cX5_puts 4 = .ok (.aload_n 0, 1) := by decide +kernel
theorem dX5_puts_5 : decode cX5_puts 5 = .ok (.getfield 92, 3) := by decide +kernel
theorem dX5_puts_8 : decode cX5_puts 8 = .ok (.iload_n 1, 1) := by decide +kernel
theorem dX5_puts_9 : decode cX5_puts 9 = .ok (.iastore, 1) := by decide +kernel
theorem dX5_puts_10 : decode cX5_puts 10 = .ok (.aload_n 0, 1) := by decide +kernel
theorem dX5_puts_11 : decode cX5_puts 11 = .ok (.dup, 1) := by decide +kernel
theorem dX5_puts_12 : decode cX5_puts 12 = .ok (.getfield 92, 3) := by decide +kernel
theorem dX5_puts_15 : decode cX5_puts 15 = .ok (.iconst 1, 1) := by decide +kernel
theorem dX5_puts_16 : decode cX5_puts 16 = .ok (.iadd, 1) := by decide +kernel
theorem dX5_puts_17 : decode cX5_puts 17 = .ok (.putfield 92, 3) := by decide +kernel
theorem dX5_puts_20 : decode cX5_puts 20 = .ok (.return_, 1) := by decide +kernel
set_option maxRecDepth 20000 in
theorem ggX5_finds_X5_puts : GoodIn wsX5_finds wsX5_puts := goodIn_r _ [12, 7, 6, 50, 51, 52, 53, 54, 55, 56, 57, 58, 59, 60, 61, 62, 63, 64, 65, 66, 67, 68, 69, 70] (by decide +kernel) (by decide +kernel)
set_option maxRecDepth 20000 in
theorem gX5_finds_X5_puts : GoodIn wsX5_finds (wsV RX5 95 RX5 yX5_puts wsX5_puts) := goodIn_app (goodIn_of _ (by decide +kernel)) ggX5_finds_X5_puts
set_option maxRecDepth 20000 in
theorem ggX5_finds_X5_cut : GoodIn wsX5_finds wsX5_cut := goodIn_r _ [16, 17, 18, 19, 11, 20, 1, 21, 22, 23, 24, 25, 26, 27, 28, 29, 30, 31, 32, 33, 34, 35, 50, 51, 52, 53, 54, 55, 56, 57, 58, 59, 60, 61, 62, 63, 64, 65, 66, 67, 68, 69, 70] (by decide +kernel) (by decide +kernel)
set_option maxRecDepth 20000 in
theorem gX5_finds_X5_cut : GoodIn wsX5_finds (wsV RX5 98 RX5 yX5_cut wsX5_cut) := goodIn_app (goodIn_of _ (by decide +kernel)) ggX5_finds_X5_cut
set_option maxRecDepth 20000 in
theorem ggX5_finds_X5_readsAll : GoodIn wsX5_finds wsX5_readsAll := goodIn_r _ [39, 1, 21, 22, 11, 23, 40, 41, 42, 43, 28, 30, 44, 45, 46, 47, 48, 5, 49, 50, 51, 52, 53, 54, 55, 56, 57, 58, 59, 60, 61, 62, 63, 64, 65, 66, 67, 68, 69, 70] (by decide +kernel) (by decide +kernel)
set_option maxRecDepth 20000 in
theorem gX5_finds_X5_readsAll : GoodIn wsX5_finds (wsV RX5 101 RX5 yX5_readsAll wsX5_readsAll) := goodIn_app (goodIn_of _ (by decide +kernel)) ggX5_finds_X5_readsAll
theorem dX5_finds_0 : decode cX5_finds 0 = .ok (.iconst 0, 1) := by decide +kernel
theorem dX5_finds_1 : decode cX5_finds 1 = .ok (.istore_n 2, 1) := by decide +kernel
theorem dX5_finds_2 : decode cX5_finds 2 = .ok (.iconst 0, 1) := by decide +kernel
theorem dX5_finds_3 : decode cX5_finds 3 = .ok (.istore_n 3, 1) := by decide +kernel
theorem dX5_finds_4 : decode cX5_finds 4 = .ok (.iload_n 3, 1) := by decide +kernel
theorem dX5_finds_5 : decode cX5_finds 5 = .ok (.aload_n 0, 1) := by decide +kernel
theorem dX5_finds_6 : decode cX5_finds 6 = .ok (.getfield 64, 3) := by decide +kernel
theorem dX5_finds_9 : decode cX5_finds 9 = .ok (.if_icmp .ge 48, 3) := by decide +kernel
theorem dX5_finds_12 : decode cX5_finds 12 = .ok (.iload_n 2, 1) := by decide +kernel
theorem dX5_finds_13 : decode cX5_finds 13 = .ok (.aload_n 0, 1) := by decide +kernel
theorem dX5_finds_14 : decode cX5_finds 14 = .ok (.getfield 7, 3) := by decide +kernel
theorem dX5_finds_17 : decode cX5_finds 17 = .ok (.iload_n 3, 1) := by decide +kernel
theorem dX5_finds_18 : decode cX5_finds 18 = .ok (.iaload, 1) := by decide +kernel
theorem dX5_finds_19 : decode cX5_finds 19 = .ok (.iload_n 1, 1) := by decide +kernel
theorem dX5_finds_20 : decode cX5_finds 20 = .ok (.if_icmp .ne 28, 3) := by decide +kernel
theorem dX5_finds_23 : decode cX5_finds 23 = .ok (.aload_n 0, 1) := by decide +kernel
theorem dX5_finds_24 : decode cX5_finds 24 = .ok (.getfield 34, 3) := by decide +kernel
theorem dX5_finds_27 : decode cX5_finds 27 = .ok (.iload_n 3, 1) := by decide +kernel
theorem dX5_finds_28 : decode cX5_finds 28 = .ok (.baload, 1) := by decide +kernel
theorem dX5_finds_29 : decode cX5_finds 29 = .ok (.ifCond .ne 19, 3) := by decide +kernel
theorem dX5_finds_32 : decode cX5_finds 32 = .ok (.aload_n 0, 1) := by decide +kernel
theorem dX5_finds_33 : decode cX5_finds 33 = .ok (.getfield 28, 3) := by decide +kernel
theorem dX5_finds_36 : decode cX5_finds 36 = .ok (.iload_n 3, 1) := by decide +kernel
theorem dX5_finds_37 : decode cX5_finds 37 = .ok (.iaload, 1) := by decide +kernel
theorem dX5_finds_38 : decode cX5_finds 38 = .ok (.iconst (-1), 1) := by decide +kernel
theorem dX5_finds_39 : decode cX5_finds 39 = .ok (.if_icmp .ne 9, 3) := by decide +kernel
theorem dX5_finds_42 : decode cX5_finds 42 = .ok (.iconst 1, 1) := by decide +kernel
theorem dX5_finds_43 : decode cX5_finds 43 = .ok (.iload_n 3, 1) := by decide +kernel
theorem dX5_finds_44 : decode cX5_finds 44 = .ok (.ishl, 1) := by decide +kernel
theorem dX5_finds_45 : decode cX5_finds 45 = .ok (.goto 4, 3) := by decide +kernel
theorem dX5_finds_48 : decode cX5_finds 48 = .ok (.iconst 0, 1) := by decide +kernel
theorem dX5_finds_49 : decode cX5_finds 49 = .ok (.ior, 1) := by decide +kernel
theorem dX5_finds_50 : decode cX5_finds 50 = .ok (.istore_n 2, 1) := by decide +kernel
theorem dX5_finds_51 : decode cX5_finds 51 = .ok (.iinc 3 1, 3) := by decide +kernel
theorem dX5_finds_54 : decode cX5_finds 54 = .ok (.goto (-50), 3) := by decide +kernel
theorem dX5_finds_57 : decode cX5_finds 57 = .ok (.aload_n 0, 1) := by decide +kernel
theorem dX5_finds_58 : decode cX5_finds 58 = .ok (.iconst 0, 1) := by decide +kernel
theorem dX5_finds_59 : decode cX5_finds 59 = .ok (.putfield 82, 3) := by decide +kernel
theorem dX5_finds_62 : decode cX5_finds 62 = .ok (.aload_n 0, 1) := by decide +kernel
theorem dX5_finds_63 : decode cX5_finds 63 = .ok (.iconst 0, 1) := by decide +kernel
theorem dX5_finds_64 : decode cX5_finds 64 = .ok (.putfield 92, 3) := by decide +kernel
theorem dX5_finds_67 : decode cX5_finds 67 = .ok (.aload_n 0, 1) := by decide +kernel
theorem dX5_finds_68 : decode cX5_finds 68 = .ok (.iload_n 2, 1) := by decide +kernel
theorem dX5_finds_69 : decode cX5_finds 69 = .ok (.invokevirtual 95, 3) := by decide +kernel
theorem dX5_finds_72 : decode cX5_finds 72 = .ok (.aload_n 0, 1) := by decide +kernel
theorem dX5_finds_73 : decode cX5_finds 73 = .ok (.getfield 92, 3) := by decide +kernel
theorem dX5_finds_76 : decode cX5_finds 76 = .ok (.ifCond .le 81, 3) := by decide +kernel
theorem dX5_finds_79 : decode cX5_finds 79 = .ok (.aload_n 0, 1) := by decide +kernel
theorem dX5_finds_80 : decode cX5_finds 80 = .ok (.dup, 1) := by decide +kernel
theorem dX5_finds_81 : decode cX5_finds 81 = .ok (.getfield 92, 3) := by decide +kernel
theorem dX5_finds_84 : decode cX5_finds 84 = .ok (.iconst 1, 1) := by decide +kernel
theorem dX5_finds_85 : decode cX5_finds 85 = .ok (.isub, 1) := by decide +kernel
theorem dX5_finds_86 : decode cX5_finds 86 = .ok (.putfield 92, 3) := by decide +kernel
theorem dX5_finds_89 : decode cX5_finds 89 = .ok (.aload_n 0, 1) := by decide +kernel
theorem dX5_finds_90 : decode cX5_finds 90 = .ok (.getfield 53, 3) := by decide +kernel
theorem dX5_finds_93 : decode cX5_finds 93 = .ok (.aload_n 0, 1) := by decide +kernel
theorem dX5_finds_94 : decode cX5_finds 94 = .ok (.getfield 92, 3) := by decide +kernel
theorem dX5_finds_97 : decode cX5_finds 97 = .ok (.iaload, 1) := by decide +kernel
theorem dX5_finds_98 : decode cX5_finds 98 = .ok (.istore_n 3, 1) := by decide +kernel
theorem dX5_finds_99 : decode cX5_finds 99 = .ok (.aload_n 0, 1) := by decide +kernel
theorem dX5_finds_100 : decode cX5_finds 100 = .ok (.iload_n 3, 1) := by decide +kernel
theorem dX5_finds_101 : decode cX5_finds 101 = .ok (.iconst 1, 1) := by decide +kernel
theorem dX5_finds_102 : decode cX5_finds 102 = .ok (.invokevirtual 98, 3) := by decide +kernel
theorem dX5_finds_105 : decode cX5_finds 105 = .ok (.istore 4, 2) := by decide +kernel
theorem dX5_finds_107 : decode cX5_finds 107 = .ok (.iload 4, 2) := by decide +kernel
theorem dX5_finds_109 : decode cX5_finds 109 = .ok (.ifCond .ne 12, 3) := by decide +kernel
theorem dX5_finds_112 : decode cX5_finds 112 = .ok (.aload_n 0, 1) := by decide +kernel
theorem dX5_finds_113 : decode cX5_finds 113 = .ok (.iload_n 3, 1) := by decide +kernel
theorem dX5_finds_114 : decode cX5_finds 114 = .ok (.iconst 0, 1) := by decide +kernel
theorem dX5_finds_115 : decode cX5_finds 115 = .ok (.invokevirtual 98, 3) := by decide +kernel
theorem dX5_finds_118 : decode cX5_finds 118 = .ok (.goto 5, 3) := by decide +kernel
theorem dX5_finds_121 : decode cX5_finds 121 = .ok (.iload 4, 2) := by decide +kernel
theorem dX5_finds_123 : decode cX5_finds 123 = .ok (.istore 4, 2) := by decide +kernel
theorem dX5_finds_125 : decode cX5_finds 125 = .ok (.iload 4, 2) := by decide +kernel
theorem dX5_finds_127 : decode cX5_finds 127 = .ok (.ifCond .ne 11, 3) := by decide +kernel
theorem dX5_finds_130 : decode cX5_finds 130 = .ok (.aload_n 0, 1) := by decide +kernel
theorem dX5_finds_131 : decode cX5_finds 131 = .ok (.iload_n 3, 1) := by decide +kernel
theorem dX5_finds_132 : decode cX5_finds 132 = .ok (.invokevirtual 101, 3) := by decide +kernel
theorem dX5_finds_135 : decode cX5_finds 135 = .ok (.goto 19, 3) := by decide +kernel
theorem dX5_finds_138 : decode cX5_finds 138 = .ok (.aload_n 0, 1) := by decide +kernel
theorem dX5_finds_139 : decode cX5_finds 139 = .ok (.iload_n 3, 1) := by decide +kernel
theorem dX5_finds_140 : decode cX5_finds 140 = .ok (.iload 4, 2) := by decide +kernel
theorem dX5_finds_142 : decode cX5_finds 142 = .ok (.iconst (-1), 1) := by decide +kernel
theorem dX5_finds_143 : decode cX5_finds 143 = .ok (.ixor, 1) := by decide +kernel
theorem dX5_finds_144 : decode cX5_finds 144 = .ok (.iand, 1) := by decide +kernel
theorem dX5_finds_145 : decode cX5_finds 145 = .ok (.invokevirtual 95, 3) := by decide +kernel
theorem dX5_finds_148 : decode cX5_finds 148 = .ok (.aload_n 0, 1) := by decide +kernel
theorem dX5_finds_149 : decode cX5_finds 149 = .ok (.iload 4, 2) := by decide +kernel
theorem dX5_finds_151 : decode cX5_finds 151 = .ok (.invokevirtual 95, 3) := by decide +kernel
theorem dX5_finds_154 : decode cX5_finds 154 = .ok (.goto (-82), 3) := by decide +kernel
theorem dX5_finds_157 : decode cX5_finds 157 = .ok (.return_, 1) := by decide +kernel
set_option maxRecDepth 20000 in
theorem ggX5_keeps_X5_finds : GoodIn wsX5_keeps wsX5_finds := goodIn_r _ [9, 10, 11, 12, 13, 1, 14, 15, 16, 17, 18, 8, 19, 20, 21, 22, 23, 24, 25, 26, 27, 28, 29, 30, 31, 32, 33, 34, 35, 36, 37, 38, 39, 40, 41, 42, 43, 44, 45, 46, 47, 48, 49, 50, 51, 52, 53, 54, 4, 55, 56, 57, 58, 59, 60, 61, 62, 63, 64, 65, 66, 67, 68, 69, 70, 71, 72, 73, 74, 75, 76] (by decide +kernel) (by decide +kernel)
set_option maxRecDepth 20000 in
theorem gX5_keeps_X5_finds : GoodIn wsX5_keeps (wsV RX5 104 RX5 yX5_finds wsX5_finds) := goodIn_app (goodIn_of _ (by decide +kernel)) ggX5_keeps_X5_finds
theorem dX5_keeps_0 : decode cX5_keeps 0 = .ok (.aload_n 0, 1) := by decide +kernel
theorem dX5_keeps_1 : decode cX5_keeps 1 = .ok (.iload_n 1, 1) := by decide +kernel
theorem dX5_keeps_2 : decode cX5_keeps 2 = .ok (.invokevirtual 104, 3) := by decide +kernel
theorem dX5_keeps_5 : decode cX5_keeps 5 = .ok (.aload_n 0, 1) := by decide +kernel
theorem dX5_keeps_6 : decode cX5_keeps 6 = .ok (.aload_n 0, 1) := by decide +kernel
theorem dX5_keeps_7 : decode cX5_keeps 7 = .ok (.getfield 82, 3) := by decide +kernel
theorem dX5_keeps_10 : decode cX5_keeps 10 = .ok (.putfield 107, 3) := by decide +kernel
theorem dX5_keeps_13 : decode cX5_keeps 13 = .ok (.iconst 0, 1) := by decide +kernel
theorem dX5_keeps_14 : decode cX5_keeps 14 = .ok (.istore_n 2, 1) := by decide +kernel
theorem dX5_keeps_15 : decode cX5_keeps 15 = .ok (.iload_n 2, 1) := by decide +kernel
theorem dX5_keeps_16 : decode cX5_keeps 16 = .ok (.aload_n 0, 1) := by decide +kernel
theorem dX5_keeps_17 : decode cX5_keeps 17 = .ok (.getfield 82, 3) := by decide +kernel
theorem dX5_keeps_20 : decode cX5_keeps 20 = .ok (.if_icmp .ge 21, 3) := by decide +kernel
theorem dX5_keeps_23 : decode cX5_keeps 23 = .ok (.aload_n 0, 1) := by decide +kernel
theorem dX5_keeps_24 : decode cX5_keeps 24 = .ok (.getfield 50, 3) := by decide +kernel
theorem dX5_keeps_27 : decode cX5_keeps 27 = .ok (.iload_n 2, 1) := by decide +kernel
theorem dX5_keeps_28 : decode cX5_keeps 28 = .ok (.aload_n 0, 1) := by decide +kernel
theorem dX5_keeps_29 : decode cX5_keeps 29 = .ok (.getfield 47, 3) := by decide +kernel
theorem dX5_keeps_32 : decode cX5_keeps 32 = .ok (.iload_n 2, 1) := by decide +kernel
theorem dX5_keeps_33 : decode cX5_keeps 33 = .ok (.iaload, 1) := by decide +kernel
theorem dX5_keeps_34 : decode cX5_keeps 34 = .ok (.iastore, 1) := by decide +kernel
theorem dX5_keeps_35 : decode cX5_keeps 35 = .ok (.iinc 2 1, 3) := by decide +kernel
theorem dX5_keeps_38 : decode cX5_keeps 38 = .ok (.goto (-23), 3) := by decide +kernel
theorem dX5_keeps_41 : decode cX5_keeps 41 = .ok (.return_, 1) := by decide +kernel
set_option maxRecDepth 20000 in
theorem ggX5_isOther_X5_finds : GoodIn wsX5_isOther wsX5_finds := goodIn_r _ [9, 10, 11, 12, 13, 1, 14, 15, 16, 17, 18, 8, 19, 20, 21, 22, 23, 24, 25, 26, 27, 28, 29, 30, 31, 32, 33, 34, 35, 36, 37, 38, 39, 40, 41, 42, 43, 44, 45, 46, 47, 48, 49, 50, 51, 52, 53, 54, 3, 55, 56, 57, 58, 59, 60, 61, 62, 63, 64, 65, 66, 67, 68, 69, 70, 71, 72, 73, 74, 75, 76] (by decide +kernel) (by decide +kernel)
set_option maxRecDepth 20000 in
theorem gX5_isOther_X5_finds : GoodIn wsX5_isOther (wsV RX5 104 RX5 yX5_finds wsX5_finds) := goodIn_app (goodIn_of _ (by decide +kernel)) ggX5_isOther_X5_finds
theorem dX5_isOther_0 : decode cX5_isOther 0 = .ok (.aload_n 0, 1) := by decide +kernel
theorem dX5_isOther_1 : decode cX5_isOther 1 = .ok (.iload_n 1, 1) := by decide +kernel
theorem dX5_isOther_2 : decode cX5_isOther 2 = .ok (.invokevirtual 104, 3) := by decide +kernel
theorem dX5_isOther_5 : decode cX5_isOther 5 = .ok (.aload_n 0, 1) := by decide +kernel
theorem dX5_isOther_6 : decode cX5_isOther 6 = .ok (.getfield 82, 3) := by decide +kernel
theorem dX5_isOther_9 : decode cX5_isOther 9 = .ok (.aload_n 0, 1) := by decide +kernel
theorem dX5_isOther_10 : decode cX5_isOther 10 = .ok (.getfield 107, 3) := by decide +kernel
theorem dX5_isOther_13 : decode cX5_isOther 13 = .ok (.if_icmp .eq 7, 3) := by decide +kernel
theorem dX5_isOther_16 : decode cX5_isOther 16 = .ok (.iconst 1, 1) := by decide +kernel
theorem dX5_isOther_17 : decode cX5_isOther 17 = .ok (.goto 4, 3) := by decide +kernel
theorem dX5_isOther_20 : decode cX5_isOther 20 = .ok (.iconst 0, 1) := by decide +kernel
theorem dX5_isOther_21 : decode cX5_isOther 21 = .ok (.istore_n 2, 1) := by decide +kernel
theorem dX5_isOther_22 : decode cX5_isOther 22 = .ok (.iconst 0, 1) := by decide +kernel
theorem dX5_isOther_23 : decode cX5_isOther 23 = .ok (.istore_n 3, 1) := by decide +kernel
theorem dX5_isOther_24 : decode cX5_isOther 24 = .ok (.iload_n 3, 1) := by decide +kernel
theorem dX5_isOther_25 : decode cX5_isOther 25 = .ok (.aload_n 0, 1) := by decide +kernel
theorem dX5_isOther_26 : decode cX5_isOther 26 = .ok (.getfield 82, 3) := by decide +kernel
theorem dX5_isOther_29 : decode cX5_isOther 29 = .ok (.if_icmp .ge 34, 3) := by decide +kernel
theorem dX5_isOther_32 : decode cX5_isOther 32 = .ok (.iload_n 2, 1) := by decide +kernel
theorem dX5_isOther_33 : decode cX5_isOther 33 = .ok (.ifCond .ne 30, 3) := by decide +kernel
theorem dX5_isOther_36 : decode cX5_isOther 36 = .ok (.aload_n 0, 1) := by decide +kernel
theorem dX5_isOther_37 : decode cX5_isOther 37 = .ok (.getfield 47, 3) := by decide +kernel
theorem dX5_isOther_40 : decode cX5_isOther 40 = .ok (.iload_n 3, 1) := by decide +kernel
theorem dX5_isOther_41 : decode cX5_isOther 41 = .ok (.iaload, 1) := by decide +kernel
theorem dX5_isOther_42 : decode cX5_isOther 42 = .ok (.aload_n 0, 1) := by decide +kernel
theorem dX5_isOther_43 : decode cX5_isOther 43 = .ok (.getfield 50, 3) := by decide +kernel
theorem dX5_isOther_46 : decode cX5_isOther 46 = .ok (.iload_n 3, 1) := by decide +kernel
theorem dX5_isOther_47 : decode cX5_isOther 47 = .ok (.iaload, 1) := by decide +kernel
theorem dX5_isOther_48 : decode cX5_isOther 48 = .ok (.if_icmp .eq 7, 3) := by decide +kernel
theorem dX5_isOther_51 : decode cX5_isOther 51 = .ok (.iconst 1, 1) := by decide +kernel
theorem dX5_isOther_52 : decode cX5_isOther 52 = .ok (.goto 4, 3) := by decide +kernel
theorem dX5_isOther_55 : decode cX5_isOther 55 = .ok (.iconst 0, 1) := by decide +kernel
theorem dX5_isOther_56 : decode cX5_isOther 56 = .ok (.istore_n 2, 1) := by decide +kernel
theorem dX5_isOther_57 : decode cX5_isOther 57 = .ok (.iinc 3 1, 3) := by decide +kernel
theorem dX5_isOther_60 : decode cX5_isOther 60 = .ok (.goto (-36), 3) := by decide +kernel
theorem dX5_isOther_63 : decode cX5_isOther 63 = .ok (.iload_n 2, 1) := by decide +kernel
theorem dX5_isOther_64 : decode cX5_isOther 64 = .ok (.ireturn, 1) := by decide +kernel
theorem dX5_standing_0 : decode cX5_standing 0 = .ok (.iconst 0, 1) := by decide +kernel
theorem dX5_standing_1 : decode cX5_standing 1 = .ok (.istore_n 2, 1) := by decide +kernel
theorem dX5_standing_2 : decode cX5_standing 2 = .ok (.iconst 0, 1) := by decide +kernel
theorem dX5_standing_3 : decode cX5_standing 3 = .ok (.istore_n 3, 1) := by decide +kernel
theorem dX5_standing_4 : decode cX5_standing 4 = .ok (.iload_n 3, 1) := by decide +kernel
theorem dX5_standing_5 : decode cX5_standing 5 = .ok (.aload_n 0, 1) := by decide +kernel
theorem dX5_standing_6 : decode cX5_standing 6 = .ok (.getfield 110, 3) := by decide +kernel
theorem dX5_standing_9 : decode cX5_standing 9 = .ok (.if_icmp .ge 36, 3) := by decide +kernel
theorem dX5_standing_12 : decode cX5_standing 12 = .ok (.iload_n 2, 1) := by decide +kernel
theorem dX5_standing_13 : decode cX5_standing 13 = .ok (.aload_n 0, 1) := by decide +kernel
theorem dX5_standing_14 : decode cX5_standing 14 = .ok (.getfield 41, 3) := by decide +kernel
theorem dX5_standing_17 : decode cX5_standing 17 = .ok (.iload_n 3, 1) := by decide +kernel
theorem dX5_standing_18 : decode cX5_standing 18 = .ok (.iaload, 1) := by decide +kernel
theorem dX5_standing_19 : decode cX5_standing 19 = .ok (.iload_n 1, 1) := by decide +kernel
theorem dX5_standing_20 : decode cX5_standing 20 = .ok (.if_icmp .ne 16, 3) := by decide +kernel
theorem dX5_standing_23 : decode cX5_standing 23 = .ok (.aload_n 0, 1) := by decide +kernel
theorem dX5_standing_24 : decode cX5_standing 24 = .ok (.getfield 44, 3) := by decide +kernel
theorem dX5_standing_27 : decode cX5_standing 27 = .ok (.iload_n 3, 1) := by decide +kernel
theorem dX5_standing_28 : decode cX5_standing 28 = .ok (.baload, 1) := by decide +kernel
theorem dX5_standing_29 : decode cX5_standing 29 = .ok (.ifCond .ne 7, 3) := by decide +kernel
theorem dX5_standing_32 : decode cX5_standing 32 = .ok (.iconst 1, 1) := by decide +kernel
theorem dX5_standing_33 : decode cX5_standing 33 = .ok (.goto 4, 3) := by decide +kernel
theorem dX5_standing_36 : decode cX5_standing 36 = .ok (.iconst 0, 1) := by decide +kernel
theorem dX5_standing_37 : decode cX5_standing 37 = .ok (.iadd, 1) := by decide +kernel
theorem dX5_standing_38 : decode cX5_standing 38 = .ok (.istore_n 2, 1) := by decide +kernel
theorem dX5_standing_39 : decode cX5_standing 39 = .ok (.iinc 3 1, 3) := by decide +kernel
theorem dX5_standing_42 : decode cX5_standing 42 = .ok (.goto (-38), 3) := by decide +kernel
theorem dX5_standing_45 : decode cX5_standing 45 = .ok (.iload_n 2, 1) := by decide +kernel
theorem dX5_standing_46 : decode cX5_standing 46 = .ok (.ireturn, 1) := by decide +kernel
set_option maxRecDepth 20000 in
theorem ggX5_falls_X5_isOther : GoodIn wsX5_falls wsX5_isOther := goodIn_r _ [8, 9, 10, 11, 12, 13, 14, 15, 7, 16, 17, 18, 19, 20, 21, 22, 23, 24, 25, 26, 27, 28, 29, 30, 31, 32, 33, 34, 35, 36, 37, 38, 39, 40, 41, 42, 43, 44, 45, 46, 47, 48, 49, 50, 51, 52, 53, 54, 55, 56, 57, 58, 59, 60, 61, 62, 67, 68, 69, 70, 71, 72, 73, 74, 75, 76, 77, 78, 79, 80, 81, 82, 83, 84, 85, 86, 87] (by decide +kernel) (by decide +kernel)
set_option maxRecDepth 20000 in
theorem gX5_falls_X5_isOther : GoodIn wsX5_falls (wsV RX5 113 RX5 yX5_isOther wsX5_isOther) := goodIn_app (goodIn_of _ (by decide +kernel)) ggX5_falls_X5_isOther
set_option maxRecDepth 20000 in
theorem ggX5_falls_X5_standing : GoodIn wsX5_falls wsX5_standing := goodIn_r _ [66, 1, 3, 2, 67, 68, 69, 70, 71, 72, 73, 74, 75, 76, 77, 78, 79, 80, 81, 82, 83, 84, 85, 86, 87] (by decide +kernel) (by decide +kernel)
set_option maxRecDepth 20000 in
theorem gX5_falls_X5_standing : GoodIn wsX5_falls (wsV RX5 117 RX5 yX5_standing wsX5_standing) := goodIn_app (goodIn_of _ (by decide +kernel)) ggX5_falls_X5_standing
theorem dX5_falls_0 : decode cX5_falls 0 = .ok (.aload_n 0, 1) := by decide +kernel
theorem dX5_falls_1 : decode cX5_falls 1 = .ok (.iload_n 1, 1) := by decide +kernel
theorem dX5_falls_2 : decode cX5_falls 2 = .ok (.invokevirtual 113, 3) := by decide +kernel
theorem dX5_falls_5 : decode cX5_falls 5 = .ok (.ifCond .ne 5, 3) := by decide +kernel
theorem dX5_falls_8 : decode cX5_falls 8 = .ok (.iconst 0, 1) := by decide +kernel
theorem dX5_falls_9 : decode cX5_falls 9 = .ok (.ireturn, 1) := by decide +kernel
theorem dX5_falls_10 : decode cX5_falls 10 = .ok (.aload_n 0, 1) := by decide +kernel
theorem dX5_falls_11 : decode cX5_falls 11 = .ok (.iload_n 1, 1) := by decide +kernel
theorem dX5_falls_12 : decode cX5_falls 12 = .ok (.invokevirtual 117, 3) := by decide +kernel
theorem dX5_falls_15 : decode cX5_falls 15 = .ok (.istore_n 2, 1) := by decide +kernel
theorem dX5_falls_16 : decode cX5_falls 16 = .ok (.iconst 0, 1) := by decide +kernel
theorem dX5_falls_17 : decode cX5_falls 17 = .ok (.istore_n 3, 1) := by decide +kernel
theorem dX5_falls_18 : decode cX5_falls 18 = .ok (.iload_n 3, 1) := by decide +kernel
theorem dX5_falls_19 : decode cX5_falls 19 = .ok (.aload_n 0, 1) := by decide +kernel
theorem dX5_falls_20 : decode cX5_falls 20 = .ok (.getfield 110, 3) := by decide +kernel
theorem dX5_falls_23 : decode cX5_falls 23 = .ok (.if_icmp .ge 39, 3) := by decide +kernel
theorem dX5_falls_26 : decode cX5_falls 26 = .ok (.aload_n 0, 1) := by decide +kernel
theorem dX5_falls_27 : decode cX5_falls 27 = .ok (.getfield 44, 3) := by decide +kernel
theorem dX5_falls_30 : decode cX5_falls 30 = .ok (.iload_n 3, 1) := by decide +kernel
theorem dX5_falls_31 : decode cX5_falls 31 = .ok (.aload_n 0, 1) := by decide +kernel
theorem dX5_falls_32 : decode cX5_falls 32 = .ok (.getfield 44, 3) := by decide +kernel
theorem dX5_falls_35 : decode cX5_falls 35 = .ok (.iload_n 3, 1) := by decide +kernel
theorem dX5_falls_36 : decode cX5_falls 36 = .ok (.baload, 1) := by decide +kernel
theorem dX5_falls_37 : decode cX5_falls 37 = .ok (.ifCond .ne 13, 3) := by decide +kernel
theorem dX5_falls_40 : decode cX5_falls 40 = .ok (.aload_n 0, 1) := by decide +kernel
theorem dX5_falls_41 : decode cX5_falls 41 = .ok (.getfield 41, 3) := by decide +kernel
theorem dX5_falls_44 : decode cX5_falls 44 = .ok (.iload_n 3, 1) := by decide +kernel
theorem dX5_falls_45 : decode cX5_falls 45 = .ok (.iaload, 1) := by decide +kernel
theorem dX5_falls_46 : decode cX5_falls 46 = .ok (.iload_n 1, 1) := by decide +kernel
theorem dX5_falls_47 : decode cX5_falls 47 = .ok (.if_icmp .ne 7, 3) := by decide +kernel
theorem dX5_falls_50 : decode cX5_falls 50 = .ok (.iconst 1, 1) := by decide +kernel
theorem dX5_falls_51 : decode cX5_falls 51 = .ok (.goto 4, 3) := by decide +kernel
theorem dX5_falls_54 : decode cX5_falls 54 = .ok (.iconst 0, 1) := by decide +kernel
theorem dX5_falls_55 : decode cX5_falls 55 = .ok (.bastore, 1) := by decide +kernel
theorem dX5_falls_56 : decode cX5_falls 56 = .ok (.iinc 3 1, 3) := by decide +kernel
theorem dX5_falls_59 : decode cX5_falls 59 = .ok (.goto (-41), 3) := by decide +kernel
theorem dX5_falls_62 : decode cX5_falls 62 = .ok (.iload_n 2, 1) := by decide +kernel
theorem dX5_falls_63 : decode cX5_falls 63 = .ok (.ireturn, 1) := by decide +kernel
set_option maxRecDepth 20000 in
theorem ggX5_box_X5_isPage : GoodIn wsX5_box wsX5_isPage := goodIn_r _ [13, 14, 15, 12, 16] (by decide +kernel) (by decide +kernel)
set_option maxRecDepth 20000 in
theorem gX5_box_X5_isPage : GoodIn wsX5_box (va_wsS RX5 121 yX5_isPage wsX5_isPage) := goodIn_app (goodIn_of _ (by decide +kernel)) ggX5_box_X5_isPage
set_option maxRecDepth 20000 in
theorem ggX5_box_X5_in : GoodIn wsX5_box wsX5_in := goodIn_r _ [16] (by decide +kernel) (by decide +kernel)
set_option maxRecDepth 20000 in
theorem gX5_box_X5_in : GoodIn wsX5_box (va_wsS RX5 60 yX5_in wsX5_in) := goodIn_app (goodIn_of _ (by decide +kernel)) ggX5_box_X5_in
set_option maxRecDepth 20000 in
theorem ggX5_box_X5_isWithin : GoodIn wsX5_box wsX5_isWithin := goodIn_r _ [19] (by decide +kernel) (by decide +kernel)
set_option maxRecDepth 20000 in
theorem gX5_box_X5_isWithin : GoodIn wsX5_box (va_wsS RX5 124 yX5_isWithin wsX5_isWithin) := goodIn_app (goodIn_of _ (by decide +kernel)) ggX5_box_X5_isWithin
set_option maxRecDepth 20000 in
theorem ggX5_box_X5_goes : GoodIn wsX5_box wsX5_goes := goodIn_r _ [23, 24, 90, 91, 92, 93, 94, 95, 96, 97, 98, 99, 100, 101, 102, 103, 104, 105, 106, 107, 108, 109, 110] (by decide +kernel) (by decide +kernel)
set_option maxRecDepth 20000 in
theorem gX5_box_X5_goes : GoodIn wsX5_box (wsV RX5 128 RX5 yX5_goes wsX5_goes) := goodIn_app (goodIn_of _ (by decide +kernel)) ggX5_box_X5_goes
set_option maxRecDepth 20000 in
theorem ggX5_box_X5_keeps : GoodIn wsX5_box wsX5_keeps := goodIn_r _ [28, 29, 30, 31, 32, 33, 34, 35, 12, 36, 1, 2, 37, 8, 38, 39, 40, 41, 42, 43, 44, 45, 46, 47, 48, 49, 50, 51, 52, 53, 54, 55, 56, 57, 58, 4, 6, 3, 5, 59, 60, 61, 62, 63, 64, 65, 66, 67, 68, 69, 70, 71, 72, 73, 74, 9, 90, 91, 92, 93, 94, 95, 96, 97, 98, 99, 100, 101, 102, 103, 104, 105, 106, 107, 108, 109, 110] (by decide +kernel) (by decide +kernel)
set_option maxRecDepth 20000 in
theorem gX5_box_X5_keeps : GoodIn wsX5_box (wsV RX5 132 RX5 yX5_keeps wsX5_keeps) := goodIn_app (goodIn_of _ (by decide +kernel)) ggX5_box_X5_keeps
set_option maxRecDepth 20000 in
theorem ggX5_box_X5_falls : GoodIn wsX5_box wsX5_falls := goodIn_r _ [78, 79, 80, 81, 82, 83, 84, 12, 85, 29, 30, 32, 31, 33, 34, 35, 36, 1, 2, 37, 8, 38, 39, 40, 41, 42, 43, 44, 45, 46, 47, 48, 49, 50, 51, 52, 53, 54, 55, 56, 57, 58, 4, 6, 3, 5, 59, 60, 61, 62, 63, 64, 65, 66, 67, 68, 69, 70, 71, 72, 73, 74, 9, 86, 87, 88, 89, 90, 91, 92, 93, 94, 95, 96, 97, 98, 99, 100, 101, 102, 103, 104, 105, 106, 107, 108, 109, 110] (by decide +kernel) (by decide +kernel)
set_option maxRecDepth 20000 in
theorem gX5_box_X5_falls : GoodIn wsX5_box (wsV RX5 135 RX5 yX5_falls wsX5_falls) := goodIn_app (goodIn_of _ (by decide +kernel)) ggX5_box_X5_falls
theorem dX5_box_0 : decode cX5_box 0 = .ok (.aload_n 0, 1) := by decide +kernel
theorem dX5_box_1 : decode cX5_box 1 = .ok (.iload_n 1, 1) := by decide +kernel
theorem dX5_box_2 : decode cX5_box 2 = .ok (.invokestatic 121, 3) := by decide +kernel
theorem dX5_box_5 : decode cX5_box 5 = .ok (.iload 6, 2) := by decide +kernel
theorem dX5_box_7 : decode cX5_box 7 = .ok (.iconst 0, 1) := by decide +kernel
theorem dX5_box_8 : decode cX5_box 8 = .ok (.bipush 6, 2) := by decide +kernel
theorem dX5_box_10 : decode cX5_box 10 = .ok (.invokestatic 60, 3) := by decide +kernel
theorem dX5_box_13 : decode cX5_box 13 = .ok (.ifCond .eq 19, 3) := by decide +kernel
theorem dX5_box_16 : decode cX5_box 16 = .ok (.iload_n 2, 1) := by decide +kernel
theorem dX5_box_17 : decode cX5_box 17 = .ok (.iload_n 3, 1) := by decide +kernel
theorem dX5_box_18 : decode cX5_box 18 = .ok (.iload 4, 2) := by decide +kernel
theorem dX5_box_20 : decode cX5_box 20 = .ok (.iload 5, 2) := by decide +kernel
theorem dX5_box_22 : decode cX5_box 22 = .ok (.invokestatic 124, 3) := by decide +kernel
theorem dX5_box_25 : decode cX5_box 25 = .ok (.ifCond .eq 7, 3) := by decide +kernel
theorem dX5_box_28 : decode cX5_box 28 = .ok (.iconst 1, 1) := by decide +kernel
theorem dX5_box_29 : decode cX5_box 29 = .ok (.goto 4, 3) := by decide +kernel
theorem dX5_box_32 : decode cX5_box 32 = .ok (.iconst 0, 1) := by decide +kernel
theorem dX5_box_33 : decode cX5_box 33 = .ok (.aload_n 0, 1) := by decide +kernel
theorem dX5_box_34 : decode cX5_box 34 = .ok (.getfield 64, 3) := by decide +kernel
theorem dX5_box_37 : decode cX5_box 37 = .ok (.bipush 24, 2) := by decide +kernel
theorem dX5_box_39 : decode cX5_box 39 = .ok (.if_icmp .ge 7, 3) := by decide +kernel
theorem dX5_box_42 : decode cX5_box 42 = .ok (.iconst 1, 1) := by decide +kernel
theorem dX5_box_43 : decode cX5_box 43 = .ok (.goto 4, 3) := by decide +kernel
theorem dX5_box_46 : decode cX5_box 46 = .ok (.iconst 0, 1) := by decide +kernel
theorem dX5_box_47 : decode cX5_box 47 = .ok (.invokevirtual 128, 3) := by decide +kernel
theorem dX5_box_50 : decode cX5_box 50 = .ok (.ifCond .ne 5, 3) := by decide +kernel
theorem dX5_box_53 : decode cX5_box 53 = .ok (.iconst 0, 1) := by decide +kernel
theorem dX5_box_54 : decode cX5_box 54 = .ok (.ireturn, 1) := by decide +kernel
theorem dX5_box_55 : decode cX5_box 55 = .ok (.aload_n 0, 1) := by decide +kernel
theorem dX5_box_56 : decode cX5_box 56 = .ok (.iload_n 1, 1) := by decide +kernel
theorem dX5_box_57 : decode cX5_box 57 = .ok (.invokevirtual 132, 3) := by decide +kernel
theorem dX5_box_60 : decode cX5_box 60 = .ok (.aload_n 0, 1) := by decide +kernel
theorem dX5_box_61 : decode cX5_box 61 = .ok (.getfield 7, 3) := by decide +kernel
theorem dX5_box_64 : decode cX5_box 64 = .ok (.aload_n 0, 1) := by decide +kernel
theorem dX5_box_65 : decode cX5_box 65 = .ok (.getfield 64, 3) := by decide +kernel
theorem dX5_box_68 : decode cX5_box 68 = .ok (.iload_n 1, 1) := by decide +kernel
theorem dX5_box_69 : decode cX5_box 69 = .ok (.iastore, 1) := by decide +kernel
theorem dX5_box_70 : decode cX5_box 70 = .ok (.aload_n 0, 1) := by decide +kernel
theorem dX5_box_71 : decode cX5_box 71 = .ok (.getfield 13, 3) := by decide +kernel
theorem dX5_box_74 : decode cX5_box 74 = .ok (.aload_n 0, 1) := by decide +kernel
theorem dX5_box_75 : decode cX5_box 75 = .ok (.getfield 64, 3) := by decide +kernel
theorem dX5_box_78 : decode cX5_box 78 = .ok (.iload_n 2, 1) := by decide +kernel
theorem dX5_box_79 : decode cX5_box 79 = .ok (.iastore, 1) := by decide +kernel
theorem dX5_box_80 : decode cX5_box 80 = .ok (.aload_n 0, 1) := by decide +kernel
theorem dX5_box_81 : decode cX5_box 81 = .ok (.getfield 16, 3) := by decide +kernel
theorem dX5_box_84 : decode cX5_box 84 = .ok (.aload_n 0, 1) := by decide +kernel
theorem dX5_box_85 : decode cX5_box 85 = .ok (.getfield 64, 3) := by decide +kernel
theorem dX5_box_88 : decode cX5_box 88 = .ok (.iload_n 3, 1) := by decide +kernel
theorem dX5_box_89 : decode cX5_box 89 = .ok (.iastore, 1) := by decide +kernel
theorem dX5_box_90 : decode cX5_box 90 = .ok (.aload_n 0, 1) := by decide +kernel
theorem dX5_box_91 : decode cX5_box 91 = .ok (.getfield 19, 3) := by decide +kernel
theorem dX5_box_94 : decode cX5_box 94 = .ok (.aload_n 0, 1) := by decide +kernel
theorem dX5_box_95 : decode cX5_box 95 = .ok (.getfield 64, 3) := by decide +kernel
theorem dX5_box_98 : decode cX5_box 98 = .ok (.iload 4, 2) := by decide +kernel
theorem dX5_box_100 : decode cX5_box 100 = .ok (.iastore, 1) := by decide +kernel
theorem dX5_box_101 : decode cX5_box 101 = .ok (.aload_n 0, 1) := by decide +kernel
theorem dX5_box_102 : decode cX5_box 102 = .ok (.getfield 22, 3) := by decide +kernel
theorem dX5_box_105 : decode cX5_box 105 = .ok (.aload_n 0, 1) := by decide +kernel
theorem dX5_box_106 : decode cX5_box 106 = .ok (.getfield 64, 3) := by decide +kernel
theorem dX5_box_109 : decode cX5_box 109 = .ok (.iload 5, 2) := by decide +kernel
theorem dX5_box_111 : decode cX5_box 111 = .ok (.iastore, 1) := by decide +kernel
theorem dX5_box_112 : decode cX5_box 112 = .ok (.aload_n 0, 1) := by decide +kernel
theorem dX5_box_113 : decode cX5_box 113 = .ok (.getfield 25, 3) := by decide +kernel
theorem dX5_box_116 : decode cX5_box 116 = .ok (.aload_n 0, 1) := by decide +kernel
theorem dX5_box_117 : decode cX5_box 117 = .ok (.getfield 64, 3) := by decide +kernel
theorem dX5_box_120 : decode cX5_box 120 = .ok (.iload 6, 2) := by decide +kernel
theorem dX5_box_122 : decode cX5_box 122 = .ok (.iastore, 1) := by decide +kernel
theorem dX5_box_123 : decode cX5_box 123 = .ok (.aload_n 0, 1) := by decide +kernel
theorem dX5_box_124 : decode cX5_box 124 = .ok (.getfield 28, 3) := by decide +kernel
theorem dX5_box_127 : decode cX5_box 127 = .ok (.aload_n 0, 1) := by decide +kernel
theorem dX5_box_128 : decode cX5_box 128 = .ok (.getfield 64, 3) := by decide +kernel
theorem dX5_box_131 : decode cX5_box 131 = .ok (.iconst (-1), 1) := by decide +kernel
theorem dX5_box_132 : decode cX5_box 132 = .ok (.iastore, 1) := by decide +kernel
theorem dX5_box_133 : decode cX5_box 133 = .ok (.aload_n 0, 1) := by decide +kernel
theorem dX5_box_134 : decode cX5_box 134 = .ok (.getfield 31, 3) := by decide +kernel
theorem dX5_box_137 : decode cX5_box 137 = .ok (.aload_n 0, 1) := by decide +kernel
theorem dX5_box_138 : decode cX5_box 138 = .ok (.getfield 64, 3) := by decide +kernel
theorem dX5_box_141 : decode cX5_box 141 = .ok (.iconst (-1), 1) := by decide +kernel
theorem dX5_box_142 : decode cX5_box 142 = .ok (.iastore, 1) := by decide +kernel
theorem dX5_box_143 : decode cX5_box 143 = .ok (.aload_n 0, 1) := by decide +kernel
theorem dX5_box_144 : decode cX5_box 144 = .ok (.dup, 1) := by decide +kernel
theorem dX5_box_145 : decode cX5_box 145 = .ok (.getfield 64, 3) := by decide +kernel
theorem dX5_box_148 : decode cX5_box 148 = .ok (.iconst 1, 1) := by decide +kernel
theorem dX5_box_149 : decode cX5_box 149 = .ok (.iadd, 1) := by decide +kernel
theorem dX5_box_150 : decode cX5_box 150 = .ok (.putfield 64, 3) := by decide +kernel
theorem dX5_box_153 : decode cX5_box 153 = .ok (.aload_n 0, 1) := by decide +kernel
theorem dX5_box_154 : decode cX5_box 154 = .ok (.iload_n 1, 1) := by decide +kernel
theorem dX5_box_155 : decode cX5_box 155 = .ok (.invokevirtual 135, 3) := by decide +kernel
theorem dX5_box_158 : decode cX5_box 158 = .ok (.istore 7, 2) := by decide +kernel
theorem dX5_box_160 : decode cX5_box 160 = .ok (.aload_n 0, 1) := by decide +kernel
theorem dX5_box_161 : decode cX5_box 161 = .ok (.getfield 64, 3) := by decide +kernel
theorem dX5_box_164 : decode cX5_box 164 = .ok (.iconst 1, 1) := by decide +kernel
theorem dX5_box_165 : decode cX5_box 165 = .ok (.isub, 1) := by decide +kernel
theorem dX5_box_166 : decode cX5_box 166 = .ok (.ireturn, 1) := by decide +kernel
set_option maxRecDepth 20000 in
theorem ggX5_move_X5_isBox : GoodIn wsX5_move wsX5_isBox := goodIn_r _ [10, 11, 12, 13, 14, 9, 15, 90, 91, 92, 93, 94, 95, 96, 97, 98, 99, 100, 101, 102, 103, 104, 105, 106, 107, 108, 109, 110] (by decide +kernel) (by decide +kernel)
set_option maxRecDepth 20000 in
theorem gX5_move_X5_isBox : GoodIn wsX5_move (wsV RX5 138 RX5 yX5_isBox wsX5_isBox) := goodIn_app (goodIn_of _ (by decide +kernel)) ggX5_move_X5_isBox
set_option maxRecDepth 20000 in
theorem ggX5_move_X5_isWithin : GoodIn wsX5_move wsX5_isWithin := goodIn_r _ [18] (by decide +kernel) (by decide +kernel)
set_option maxRecDepth 20000 in
theorem gX5_move_X5_isWithin : GoodIn wsX5_move (va_wsS RX5 124 yX5_isWithin wsX5_isWithin) := goodIn_app (goodIn_of _ (by decide +kernel)) ggX5_move_X5_isWithin
set_option maxRecDepth 20000 in
theorem ggX5_move_X5_goes : GoodIn wsX5_move wsX5_goes := goodIn_r _ [22, 23, 90, 91, 92, 93, 94, 95, 96, 97, 98, 99, 100, 101, 102, 103, 104, 105, 106, 107, 108, 109, 110] (by decide +kernel) (by decide +kernel)
set_option maxRecDepth 20000 in
theorem gX5_move_X5_goes : GoodIn wsX5_move (wsV RX5 128 RX5 yX5_goes wsX5_goes) := goodIn_app (goodIn_of _ (by decide +kernel)) ggX5_move_X5_goes
set_option maxRecDepth 20000 in
theorem ggX5_move_X5_keeps : GoodIn wsX5_move wsX5_keeps := goodIn_r _ [27, 28, 29, 30, 31, 32, 33, 34, 9, 35, 11, 3, 12, 36, 37, 38, 39, 40, 41, 42, 43, 44, 45, 46, 47, 48, 49, 50, 51, 52, 53, 54, 55, 56, 57, 5, 2, 4, 1, 58, 59, 60, 61, 62, 63, 64, 65, 66, 67, 68, 69, 70, 71, 72, 73, 74, 90, 91, 92, 93, 94, 95, 96, 97, 98, 99, 100, 101, 102, 103, 104, 105, 106, 107, 108, 109, 110] (by decide +kernel) (by decide +kernel)
set_option maxRecDepth 20000 in
theorem gX5_move_X5_keeps : GoodIn wsX5_move (wsV RX5 132 RX5 yX5_keeps wsX5_keeps) := goodIn_app (goodIn_of _ (by decide +kernel)) ggX5_move_X5_keeps
set_option maxRecDepth 20000 in
theorem ggX5_move_X5_falls : GoodIn wsX5_move wsX5_falls := goodIn_r _ [78, 79, 80, 81, 82, 83, 84, 9, 85, 28, 29, 31, 30, 32, 33, 34, 35, 11, 3, 12, 36, 37, 38, 39, 40, 41, 42, 43, 44, 45, 46, 47, 48, 49, 50, 51, 52, 53, 54, 55, 56, 57, 5, 2, 4, 1, 58, 59, 60, 61, 62, 63, 64, 65, 66, 67, 68, 69, 70, 71, 72, 73, 74, 86, 87, 88, 89, 90, 91, 92, 93, 94, 95, 96, 97, 98, 99, 100, 101, 102, 103, 104, 105, 106, 107, 108, 109, 110] (by decide +kernel) (by decide +kernel)
set_option maxRecDepth 20000 in
theorem gX5_move_X5_falls : GoodIn wsX5_move (wsV RX5 135 RX5 yX5_falls wsX5_falls) := goodIn_app (goodIn_of _ (by decide +kernel)) ggX5_move_X5_falls
theorem dX5_move_0 : decode cX5_move 0 = .ok (.aload_n 0, 1) := by decide +kernel
theorem dX5_move_1 : decode cX5_move 1 = .ok (.iload_n 1, 1) := by decide +kernel
theorem dX5_move_2 : decode cX5_move 2 = .ok (.invokevirtual 138, 3) := by decide +kernel
theorem dX5_move_5 : decode cX5_move 5 = .ok (.istore 4, 2) := by decide +kernel
theorem dX5_move_7 : decode cX5_move 7 = .ok (.aload_n 0, 1) := by decide +kernel
theorem dX5_move_8 : decode cX5_move 8 = .ok (.iload 4, 2) := by decide +kernel
theorem dX5_move_10 : decode cX5_move 10 = .ok (.iload 4, 2) := by decide +kernel
theorem dX5_move_12 : decode cX5_move 12 = .ok (.ifCond .eq 27, 3) := by decide +kernel
theorem dX5_move_15 : decode cX5_move 15 = .ok (.iload_n 2, 1) := by decide +kernel
theorem dX5_move_16 : decode cX5_move 16 = .ok (.iload_n 3, 1) := by decide +kernel
theorem dX5_move_17 : decode cX5_move 17 = .ok (.aload_n 0, 1) := by decide +kernel
theorem dX5_move_18 : decode cX5_move 18 = .ok (.getfield 19, 3) := by decide +kernel
theorem dX5_move_21 : decode cX5_move 21 = .ok (.iload_n 1, 1) := by decide +kernel
theorem dX5_move_22 : decode cX5_move 22 = .ok (.iaload, 1) := by decide +kernel
theorem dX5_move_23 : decode cX5_move 23 = .ok (.aload_n 0, 1) := by decide +kernel
theorem dX5_move_24 : decode cX5_move 24 = .ok (.getfield 22, 3) := by decide +kernel
theorem dX5_move_27 : decode cX5_move 27 = .ok (.iload_n 1, 1) := by decide +kernel
theorem dX5_move_28 : decode cX5_move 28 = .ok (.iaload, 1) := by decide +kernel
theorem dX5_move_29 : decode cX5_move 29 = .ok (.invokestatic 124, 3) := by decide +kernel
theorem dX5_move_32 : decode cX5_move 32 = .ok (.ifCond .eq 7, 3) := by decide +kernel
theorem dX5_move_35 : decode cX5_move 35 = .ok (.iconst 1, 1) := by decide +kernel
theorem dX5_move_36 : decode cX5_move 36 = .ok (.goto 4, 3) := by decide +kernel
theorem dX5_move_39 : decode cX5_move 39 = .ok (.iconst 0, 1) := by decide +kernel
theorem dX5_move_40 : decode cX5_move 40 = .ok (.iconst 1, 1) := by decide +kernel
theorem dX5_move_41 : decode cX5_move 41 = .ok (.invokevirtual 128, 3) := by decide +kernel
theorem dX5_move_44 : decode cX5_move 44 = .ok (.ifCond .ne 5, 3) := by decide +kernel
theorem dX5_move_47 : decode cX5_move 47 = .ok (.iconst 0, 1) := by decide +kernel
theorem dX5_move_48 : decode cX5_move 48 = .ok (.ireturn, 1) := by decide +kernel
theorem dX5_move_49 : decode cX5_move 49 = .ok (.aload_n 0, 1) := by decide +kernel
theorem dX5_move_50 : decode cX5_move 50 = .ok (.aload_n 0, 1) := by decide +kernel
theorem dX5_move_51 : decode cX5_move 51 = .ok (.getfield 7, 3) := by decide +kernel
theorem dX5_move_54 : decode cX5_move 54 = .ok (.iload_n 1, 1) := by decide +kernel
theorem dX5_move_55 : decode cX5_move 55 = .ok (.iaload, 1) := by decide +kernel
theorem dX5_move_56 : decode cX5_move 56 = .ok (.invokevirtual 132, 3) := by decide +kernel
theorem dX5_move_59 : decode cX5_move 59 = .ok (.aload_n 0, 1) := by decide +kernel
theorem dX5_move_60 : decode cX5_move 60 = .ok (.getfield 13, 3) := by decide +kernel
theorem dX5_move_63 : decode cX5_move 63 = .ok (.iload_n 1, 1) := by decide +kernel
theorem dX5_move_64 : decode cX5_move 64 = .ok (.iload_n 2, 1) := by decide +kernel
theorem dX5_move_65 : decode cX5_move 65 = .ok (.iastore, 1) := by decide +kernel
theorem dX5_move_66 : decode cX5_move 66 = .ok (.aload_n 0, 1) := by decide +kernel
theorem dX5_move_67 : decode cX5_move 67 = .ok (.getfield 16, 3) := by decide +kernel
theorem dX5_move_70 : decode cX5_move 70 = .ok (.iload_n 1, 1) := by decide +kernel
theorem dX5_move_71 : decode cX5_move 71 = .ok (.iload_n 3, 1) := by decide +kernel
theorem dX5_move_72 : decode cX5_move 72 = .ok (.iastore, 1) := by decide +kernel
theorem dX5_move_73 : decode cX5_move 73 = .ok (.aload_n 0, 1) := by decide +kernel
theorem dX5_move_74 : decode cX5_move 74 = .ok (.aload_n 0, 1) := by decide +kernel
theorem dX5_move_75 : decode cX5_move 75 = .ok (.getfield 7, 3) := by decide +kernel
theorem dX5_move_78 : decode cX5_move 78 = .ok (.iload_n 1, 1) := by decide +kernel
theorem dX5_move_79 : decode cX5_move 79 = .ok (.iaload, 1) := by decide +kernel
theorem dX5_move_80 : decode cX5_move 80 = .ok (.invokevirtual 135, 3) := by decide +kernel
theorem dX5_move_83 : decode cX5_move 83 = .ok (.ireturn, 1) := by decide +kernel
set_option maxRecDepth 20000 in
theorem ggX5_resize_X5_isBox : GoodIn wsX5_resize wsX5_isBox := goodIn_r _ [10, 11, 12, 13, 14, 9, 15, 90, 91, 92, 93, 94, 95, 96, 97, 98, 99, 100, 101, 102, 103, 104, 105, 106, 107, 108, 109, 110] (by decide +kernel) (by decide +kernel)
set_option maxRecDepth 20000 in
theorem gX5_resize_X5_isBox : GoodIn wsX5_resize (wsV RX5 138 RX5 yX5_isBox wsX5_isBox) := goodIn_app (goodIn_of _ (by decide +kernel)) ggX5_resize_X5_isBox
set_option maxRecDepth 20000 in
theorem ggX5_resize_X5_isWithin : GoodIn wsX5_resize wsX5_isWithin := goodIn_r _ [18] (by decide +kernel) (by decide +kernel)
set_option maxRecDepth 20000 in
theorem gX5_resize_X5_isWithin : GoodIn wsX5_resize (va_wsS RX5 124 yX5_isWithin wsX5_isWithin) := goodIn_app (goodIn_of _ (by decide +kernel)) ggX5_resize_X5_isWithin
set_option maxRecDepth 20000 in
theorem ggX5_resize_X5_goes : GoodIn wsX5_resize wsX5_goes := goodIn_r _ [22, 23, 90, 91, 92, 93, 94, 95, 96, 97, 98, 99, 100, 101, 102, 103, 104, 105, 106, 107, 108, 109, 110] (by decide +kernel) (by decide +kernel)
set_option maxRecDepth 20000 in
theorem gX5_resize_X5_goes : GoodIn wsX5_resize (wsV RX5 128 RX5 yX5_goes wsX5_goes) := goodIn_app (goodIn_of _ (by decide +kernel)) ggX5_resize_X5_goes
set_option maxRecDepth 20000 in
theorem ggX5_resize_X5_keeps : GoodIn wsX5_resize wsX5_keeps := goodIn_r _ [27, 28, 29, 30, 31, 32, 33, 34, 9, 35, 11, 3, 12, 36, 37, 38, 39, 40, 41, 42, 43, 44, 45, 46, 47, 48, 49, 50, 51, 52, 53, 54, 55, 56, 57, 2, 5, 1, 4, 58, 59, 60, 61, 62, 63, 64, 65, 66, 67, 68, 69, 70, 71, 72, 73, 74, 90, 91, 92, 93, 94, 95, 96, 97, 98, 99, 100, 101, 102, 103, 104, 105, 106, 107, 108, 109, 110] (by decide +kernel) (by decide +kernel)
set_option maxRecDepth 20000 in
theorem gX5_resize_X5_keeps : GoodIn wsX5_resize (wsV RX5 132 RX5 yX5_keeps wsX5_keeps) := goodIn_app (goodIn_of _ (by decide +kernel)) ggX5_resize_X5_keeps
set_option maxRecDepth 20000 in
theorem ggX5_resize_X5_falls : GoodIn wsX5_resize wsX5_falls := goodIn_r _ [78, 79, 80, 81, 82, 83, 84, 9, 85, 28, 29, 31, 30, 32, 33, 34, 35, 11, 3, 12, 36, 37, 38, 39, 40, 41, 42, 43, 44, 45, 46, 47, 48, 49, 50, 51, 52, 53, 54, 55, 56, 57, 2, 5, 1, 4, 58, 59, 60, 61, 62, 63, 64, 65, 66, 67, 68, 69, 70, 71, 72, 73, 74, 86, 87, 88, 89, 90, 91, 92, 93, 94, 95, 96, 97, 98, 99, 100, 101, 102, 103, 104, 105, 106, 107, 108, 109, 110] (by decide +kernel) (by decide +kernel)
set_option maxRecDepth 20000 in
theorem gX5_resize_X5_falls : GoodIn wsX5_resize (wsV RX5 135 RX5 yX5_falls wsX5_falls) := goodIn_app (goodIn_of _ (by decide +kernel)) ggX5_resize_X5_falls
theorem dX5_resize_0 : decode cX5_resize 0 = .ok (.aload_n 0, 1) := by decide +kernel
theorem dX5_resize_1 : decode cX5_resize 1 = .ok (.iload_n 1, 1) := by decide +kernel
theorem dX5_resize_2 : decode cX5_resize 2 = .ok (.invokevirtual 138, 3) := by decide +kernel
theorem dX5_resize_5 : decode cX5_resize 5 = .ok (.istore 4, 2) := by decide +kernel
theorem dX5_resize_7 : decode cX5_resize 7 = .ok (.aload_n 0, 1) := by decide +kernel
theorem dX5_resize_8 : decode cX5_resize 8 = .ok (.iload 4, 2) := by decide +kernel
theorem dX5_resize_10 : decode cX5_resize 10 = .ok (.iload 4, 2) := by decide +kernel
theorem dX5_resize_12 : decode cX5_resize 12 = .ok (.ifCond .eq 27, 3) := by decide +kernel
theorem dX5_resize_15 : decode cX5_resize 15 = .ok (.aload_n 0, 1) := by decide +kernel
theorem dX5_resize_16 : decode cX5_resize 16 = .ok (.getfield 13, 3) := by decide +kernel
theorem dX5_resize_19 : decode cX5_resize 19 = .ok (.iload_n 1, 1) := by decide +kernel
theorem dX5_resize_20 : decode cX5_resize 20 = .ok (.iaload, 1) := by decide +kernel
theorem dX5_resize_21 : decode cX5_resize 21 = .ok (.aload_n 0, 1) := by decide +kernel
theorem dX5_resize_22 : decode cX5_resize 22 = .ok (.getfield 16, 3) := by decide +kernel
theorem dX5_resize_25 : decode cX5_resize 25 = .ok (.iload_n 1, 1) := by decide +kernel
theorem dX5_resize_26 : decode cX5_resize 26 = .ok (.iaload, 1) := by decide +kernel
theorem dX5_resize_27 : decode cX5_resize 27 = .ok (.iload_n 2, 1) := by decide +kernel
theorem dX5_resize_28 : decode cX5_resize 28 = .ok (.iload_n 3, 1) := by decide +kernel
theorem dX5_resize_29 : decode cX5_resize 29 = .ok (.invokestatic 124, 3) := by decide +kernel
theorem dX5_resize_32 : decode cX5_resize 32 = .ok (.ifCond .eq 7, 3) := by decide +kernel
theorem dX5_resize_35 : decode cX5_resize 35 = .ok (.iconst 1, 1) := by decide +kernel
theorem dX5_resize_36 : decode cX5_resize 36 = .ok (.goto 4, 3) := by decide +kernel
theorem dX5_resize_39 : decode cX5_resize 39 = .ok (.iconst 0, 1) := by decide +kernel
theorem dX5_resize_40 : decode cX5_resize 40 = .ok (.iconst 1, 1) := by decide +kernel
theorem dX5_resize_41 : decode cX5_resize 41 = .ok (.invokevirtual 128, 3) := by decide +kernel
theorem dX5_resize_44 : decode cX5_resize 44 = .ok (.ifCond .ne 5, 3) := by decide +kernel
theorem dX5_resize_47 : decode cX5_resize 47 = .ok (.iconst 0, 1) := by decide +kernel
theorem dX5_resize_48 : decode cX5_resize 48 = .ok (.ireturn, 1) := by decide +kernel
theorem dX5_resize_49 : decode cX5_resize 49 = .ok (.aload_n 0, 1) := by decide +kernel
theorem dX5_resize_50 : decode cX5_resize 50 = .ok (.aload_n 0, 1) := by decide +kernel
theorem dX5_resize_51 : decode cX5_resize 51 = .ok (.getfield 7, 3) := by decide +kernel
theorem dX5_resize_54 : decode cX5_resize 54 = .ok (.iload_n 1, 1) := by decide +kernel
theorem dX5_resize_55 : decode cX5_resize 55 = .ok (.iaload, 1) := by decide +kernel
theorem dX5_resize_56 : decode cX5_resize 56 = .ok (.invokevirtual 132, 3) := by decide +kernel
theorem dX5_resize_59 : decode cX5_resize 59 = .ok (.aload_n 0, 1) := by decide +kernel
theorem dX5_resize_60 : decode cX5_resize 60 = .ok (.getfield 19, 3) := by decide +kernel
theorem dX5_resize_63 : decode cX5_resize 63 = .ok (.iload_n 1, 1) := by decide +kernel
theorem dX5_resize_64 : decode cX5_resize 64 = .ok (.iload_n 2, 1) := by decide +kernel
theorem dX5_resize_65 : decode cX5_resize 65 = .ok (.iastore, 1) := by decide +kernel
theorem dX5_resize_66 : decode cX5_resize 66 = .ok (.aload_n 0, 1) := by decide +kernel
theorem dX5_resize_67 : decode cX5_resize 67 = .ok (.getfield 22, 3) := by decide +kernel
theorem dX5_resize_70 : decode cX5_resize 70 = .ok (.iload_n 1, 1) := by decide +kernel
theorem dX5_resize_71 : decode cX5_resize 71 = .ok (.iload_n 3, 1) := by decide +kernel
theorem dX5_resize_72 : decode cX5_resize 72 = .ok (.iastore, 1) := by decide +kernel
theorem dX5_resize_73 : decode cX5_resize 73 = .ok (.aload_n 0, 1) := by decide +kernel
theorem dX5_resize_74 : decode cX5_resize 74 = .ok (.aload_n 0, 1) := by decide +kernel
theorem dX5_resize_75 : decode cX5_resize 75 = .ok (.getfield 7, 3) := by decide +kernel
theorem dX5_resize_78 : decode cX5_resize 78 = .ok (.iload_n 1, 1) := by decide +kernel
theorem dX5_resize_79 : decode cX5_resize 79 = .ok (.iaload, 1) := by decide +kernel
theorem dX5_resize_80 : decode cX5_resize 80 = .ok (.invokevirtual 135, 3) := by decide +kernel
theorem dX5_resize_83 : decode cX5_resize 83 = .ok (.ireturn, 1) := by decide +kernel
theorem dX5_unties_0 : decode cX5_unties 0 = .ok (.aload_n 0, 1) := by decide +kernel
theorem dX5_unties_1 : decode cX5_unties 1 = .ok (.getfield 28, 3) := by decide +kernel
theorem dX5_unties_4 : decode cX5_unties 4 = .ok (.iload_n 1, 1) := by decide +kernel
theorem dX5_unties_5 : decode cX5_unties 5 = .ok (.iaload, 1) := by decide +kernel
theorem dX5_unties_6 : decode cX5_unties 6 = .ok (.iconst (-1), 1) := by decide +kernel
theorem dX5_unties_7 : decode cX5_unties 7 = .ok (.if_icmp .eq 22, 3) := by decide +kernel
theorem dX5_unties_10 : decode cX5_unties 10 = .ok (.aload_n 0, 1) := by decide +kernel
theorem dX5_unties_11 : decode cX5_unties 11 = .ok (.getfield 31, 3) := by decide +kernel
theorem dX5_unties_14 : decode cX5_unties 14 = .ok (.aload_n 0, 1) := by decide +kernel
theorem dX5_unties_15 : decode cX5_unties 15 = .ok (.getfield 28, 3) := by decide +kernel
theorem dX5_unties_18 : decode cX5_unties 18 = .ok (.iload_n 1, 1) := by decide +kernel
theorem dX5_unties_19 : decode cX5_unties 19 = .ok (.iaload, 1) := by decide +kernel
theorem dX5_unties_20 : decode cX5_unties 20 = .ok (.iconst (-1), 1) := by decide +kernel
theorem dX5_unties_21 : decode cX5_unties 21 = .ok (.iastore, 1) := by decide +kernel
theorem dX5_unties_22 : decode cX5_unties 22 = .ok (.aload_n 0, 1) := by decide +kernel
theorem dX5_unties_23 : decode cX5_unties 23 = .ok (.getfield 28, 3) := by decide +kernel
theorem dX5_unties_26 : decode cX5_unties 26 = .ok (.iload_n 1, 1) := by decide +kernel
theorem dX5_unties_27 : decode cX5_unties 27 = .ok (.iconst (-1), 1) := by decide +kernel
theorem dX5_unties_28 : decode cX5_unties 28 = .ok (.iastore, 1) := by decide +kernel
theorem dX5_unties_29 : decode cX5_unties 29 = .ok (.return_, 1) := by decide +kernel
set_option maxRecDepth 20000 in
theorem ggX5_remove_X5_isBox : GoodIn wsX5_remove wsX5_isBox := goodIn_r _ [8, 9, 3, 10, 11, 7, 12, 91, 92, 93, 94, 95, 96, 97, 98, 99, 100, 101, 102, 103, 104, 105, 106, 107, 108, 109, 110, 111] (by decide +kernel) (by decide +kernel)
set_option maxRecDepth 20000 in
theorem gX5_remove_X5_isBox : GoodIn wsX5_remove (wsV RX5 138 RX5 yX5_isBox wsX5_isBox) := goodIn_app (goodIn_of _ (by decide +kernel)) ggX5_remove_X5_isBox
set_option maxRecDepth 20000 in
theorem ggX5_remove_X5_goes : GoodIn wsX5_remove wsX5_goes := goodIn_r _ [16, 17, 91, 92, 93, 94, 95, 96, 97, 98, 99, 100, 101, 102, 103, 104, 105, 106, 107, 108, 109, 110, 111] (by decide +kernel) (by decide +kernel)
set_option maxRecDepth 20000 in
theorem gX5_remove_X5_goes : GoodIn wsX5_remove (wsV RX5 128 RX5 yX5_goes wsX5_goes) := goodIn_app (goodIn_of _ (by decide +kernel)) ggX5_remove_X5_goes
set_option maxRecDepth 20000 in
theorem ggX5_remove_X5_keeps : GoodIn wsX5_remove wsX5_keeps := goodIn_r _ [21, 22, 23, 24, 25, 26, 27, 28, 7, 29, 9, 1, 3, 30, 31, 32, 33, 34, 35, 36, 37, 38, 39, 40, 41, 42, 43, 44, 45, 46, 47, 48, 49, 50, 51, 52, 53, 54, 55, 56, 57, 58, 59, 60, 61, 62, 63, 64, 65, 66, 67, 68, 69, 70, 71, 2, 91, 92, 93, 94, 95, 96, 97, 98, 99, 100, 101, 102, 103, 104, 105, 106, 107, 108, 109, 110, 111] (by decide +kernel) (by decide +kernel)
set_option maxRecDepth 20000 in
theorem gX5_remove_X5_keeps : GoodIn wsX5_remove (wsV RX5 132 RX5 yX5_keeps wsX5_keeps) := goodIn_app (goodIn_of _ (by decide +kernel)) ggX5_remove_X5_keeps
set_option maxRecDepth 20000 in
theorem ggX5_remove_X5_unties : GoodIn wsX5_remove wsX5_unties := goodIn_r _ [75, 30, 2, 91, 92, 93, 94, 95, 96, 97, 98, 99, 100, 101, 102, 103, 104, 105, 106, 107, 108, 109, 110, 111] (by decide +kernel) (by decide +kernel)
set_option maxRecDepth 20000 in
theorem gX5_remove_X5_unties : GoodIn wsX5_remove (wsV RX5 141 RX5 yX5_unties wsX5_unties) := goodIn_app (goodIn_of _ (by decide +kernel)) ggX5_remove_X5_unties
set_option maxRecDepth 20000 in
theorem ggX5_remove_X5_falls : GoodIn wsX5_remove wsX5_falls := goodIn_r _ [79, 80, 81, 82, 83, 84, 85, 7, 86, 22, 23, 25, 24, 26, 27, 28, 29, 9, 1, 3, 30, 31, 32, 33, 34, 35, 36, 37, 38, 39, 40, 41, 42, 43, 44, 45, 46, 47, 48, 49, 50, 51, 52, 53, 54, 55, 56, 57, 58, 59, 60, 61, 62, 63, 64, 65, 66, 67, 68, 69, 70, 71, 2, 87, 88, 89, 90, 91, 92, 93, 94, 95, 96, 97, 98, 99, 100, 101, 102, 103, 104, 105, 106, 107, 108, 109, 110, 111] (by decide +kernel) (by decide +kernel)
set_option maxRecDepth 20000 in
theorem gX5_remove_X5_falls : GoodIn wsX5_remove (wsV RX5 135 RX5 yX5_falls wsX5_falls) := goodIn_app (goodIn_of _ (by decide +kernel)) ggX5_remove_X5_falls
theorem dX5_remove_0 : decode cX5_remove 0 = .ok (.aload_n 0, 1) := by decide +kernel
theorem dX5_remove_1 : decode cX5_remove 1 = .ok (.aload_n 0, 1) := by decide +kernel
theorem dX5_remove_2 : decode cX5_remove 2 = .ok (.iload_n 1, 1) := by decide +kernel
theorem dX5_remove_3 : decode cX5_remove 3 = .ok (.invokevirtual 138, 3) := by decide +kernel
theorem dX5_remove_6 : decode cX5_remove 6 = .ok (.iconst 1, 1) := by decide +kernel
theorem dX5_remove_7 : decode cX5_remove 7 = .ok (.iconst 1, 1) := by decide +kernel
theorem dX5_remove_8 : decode cX5_remove 8 = .ok (.invokevirtual 128, 3) := by decide +kernel
theorem dX5_remove_11 : decode cX5_remove 11 = .ok (.ifCond .ne 5, 3) := by decide +kernel
theorem dX5_remove_14 : decode cX5_remove 14 = .ok (.iconst 0, 1) := by decide +kernel
theorem dX5_remove_15 : decode cX5_remove 15 = .ok (.ireturn, 1) := by decide +kernel
theorem dX5_remove_16 : decode cX5_remove 16 = .ok (.aload_n 0, 1) := by decide +kernel
theorem dX5_remove_17 : decode cX5_remove 17 = .ok (.aload_n 0, 1) := by decide +kernel
theorem dX5_remove_18 : decode cX5_remove 18 = .ok (.getfield 7, 3) := by decide +kernel
theorem dX5_remove_21 : decode cX5_remove 21 = .ok (.iload_n 1, 1) := by decide +kernel
theorem dX5_remove_22 : decode cX5_remove 22 = .ok (.iaload, 1) := by decide +kernel
theorem dX5_remove_23 : decode cX5_remove 23 = .ok (.invokevirtual 132, 3) := by decide +kernel
theorem dX5_remove_26 : decode cX5_remove 26 = .ok (.aload_n 0, 1) := by decide +kernel
theorem dX5_remove_27 : decode cX5_remove 27 = .ok (.getfield 31, 3) := by decide +kernel
theorem dX5_remove_30 : decode cX5_remove 30 = .ok (.iload_n 1, 1) := by decide +kernel
theorem dX5_remove_31 : decode cX5_remove 31 = .ok (.iaload, 1) := by decide +kernel
theorem dX5_remove_32 : decode cX5_remove 32 = .ok (.iconst (-1), 1) := by decide +kernel
theorem dX5_remove_33 : decode cX5_remove 33 = .ok (.if_icmp .eq 13, 3) := by decide +kernel
theorem dX5_remove_36 : decode cX5_remove 36 = .ok (.aload_n 0, 1) := by decide +kernel
theorem dX5_remove_37 : decode cX5_remove 37 = .ok (.aload_n 0, 1) := by decide +kernel
theorem dX5_remove_38 : decode cX5_remove 38 = .ok (.getfield 31, 3) := by decide +kernel
theorem dX5_remove_41 : decode cX5_remove 41 = .ok (.iload_n 1, 1) := by decide +kernel
theorem dX5_remove_42 : decode cX5_remove 42 = .ok (.iaload, 1) := by decide +kernel
theorem dX5_remove_43 : decode cX5_remove 43 = .ok (.invokevirtual 141, 3) := by decide +kernel
theorem dX5_remove_46 : decode cX5_remove 46 = .ok (.aload_n 0, 1) := by decide +kernel
theorem dX5_remove_47 : decode cX5_remove 47 = .ok (.iload_n 1, 1) := by decide +kernel
theorem dX5_remove_48 : decode cX5_remove 48 = .ok (.invokevirtual 141, 3) := by decide +kernel
theorem dX5_remove_51 : decode cX5_remove 51 = .ok (.aload_n 0, 1) := by decide +kernel
theorem dX5_remove_52 : decode cX5_remove 52 = .ok (.getfield 34, 3) := by decide +kernel
theorem dX5_remove_55 : decode cX5_remove 55 = .ok (.iload_n 1, 1) := by decide +kernel
theorem dX5_remove_56 : decode cX5_remove 56 = .ok (.iconst 1, 1) := by decide +kernel
theorem dX5_remove_57 : decode cX5_remove 57 = .ok (.bastore, 1) := by decide +kernel
theorem dX5_remove_58 : decode cX5_remove 58 = .ok (.aload_n 0, 1) := by decide +kernel
theorem dX5_remove_59 : decode cX5_remove 59 = .ok (.aload_n 0, 1) := by decide +kernel
theorem dX5_remove_60 : decode cX5_remove 60 = .ok (.getfield 7, 3) := by decide +kernel
theorem dX5_remove_63 : decode cX5_remove 63 = .ok (.iload_n 1, 1) := by decide +kernel
theorem dX5_remove_64 : decode cX5_remove 64 = .ok (.iaload, 1) := by decide +kernel
theorem dX5_remove_65 : decode cX5_remove 65 = .ok (.invokevirtual 135, 3) := by decide +kernel
theorem dX5_remove_68 : decode cX5_remove 68 = .ok (.ireturn, 1) := by decide +kernel
theorem dX5_comesBehind_0 : decode cX5_comesBehind 0 = .ok (.iload_n 1, 1) := by decide +kernel
theorem dX5_comesBehind_1 : decode cX5_comesBehind 1 = .ok (.istore_n 3, 1) := by decide +kernel
theorem dX5_comesBehind_2 : decode cX5_comesBehind 2 = .ok (.iload_n 3, 1) := by decide +kernel
theorem dX5_comesBehind_3 : decode cX5_comesBehind 3 = .ok (.iconst (-1), 1) := by decide +kernel
theorem dX5_comesBehind_4 : decode cX5_comesBehind 4 = .ok (.if_icmp .eq 18, 3) := by decide +kernel
theorem dX5_comesBehind_7 : decode cX5_comesBehind 7 = .ok (.iload_n 3, 1) := by decide +kernel
theorem dX5_comesBehind_8 : decode cX5_comesBehind 8 = .ok (.iload_n 2, 1) := by decide +kernel
theorem dX5_comesBehind_9 : decode cX5_comesBehind 9 = .ok (.if_icmp .eq 13, 3) := by decide +kernel
theorem dX5_comesBehind_12 : decode cX5_comesBehind 12 = .ok (.aload_n 0, 1) := by decide +kernel
theorem dX5_comesBehind_13 : decode cX5_comesBehind 13 = .ok (.getfield 28, 3) := by decide +kernel
theorem dX5_comesBehind_16 : decode cX5_comesBehind 16 = .ok (.iload_n 3, 1) := by decide +kernel
theorem dX5_comesBehind_17 : decode cX5_comesBehind 17 = .ok (.iaload, 1) := by decide +kernel
theorem dX5_comesBehind_18 : decode cX5_comesBehind 18 = .ok (.istore_n 3, 1) := by decide +kernel
theorem dX5_comesBehind_19 : decode cX5_comesBehind 19 = .ok (.goto (-17), 3) := by decide +kernel
theorem dX5_comesBehind_22 : decode cX5_comesBehind 22 = .ok (.iload_n 3, 1) := by decide +kernel
theorem dX5_comesBehind_23 : decode cX5_comesBehind 23 = .ok (.iload_n 2, 1) := by decide +kernel
theorem dX5_comesBehind_24 : decode cX5_comesBehind 24 = .ok (.if_icmp .ne 7, 3) := by decide +kernel
theorem dX5_comesBehind_27 : decode cX5_comesBehind 27 = .ok (.iconst 1, 1) := by decide +kernel
theorem dX5_comesBehind_28 : decode cX5_comesBehind 28 = .ok (.goto 4, 3) := by decide +kernel
theorem dX5_comesBehind_31 : decode cX5_comesBehind 31 = .ok (.iconst 0, 1) := by decide +kernel
theorem dX5_comesBehind_32 : decode cX5_comesBehind 32 = .ok (.ireturn, 1) := by decide +kernel
set_option maxRecDepth 20000 in
theorem ggX5_tie_X5_isBox : GoodIn wsX5_tie wsX5_isBox := goodIn_r _ [8, 9, 10, 11, 12, 7, 13, 91, 92, 93, 94, 95, 96, 97, 98, 99, 100, 101, 102, 103, 104, 105, 106, 107, 108, 109, 110, 111] (by decide +kernel) (by decide +kernel)
set_option maxRecDepth 20000 in
theorem gX5_tie_X5_isBox : GoodIn wsX5_tie (wsV RX5 138 RX5 yX5_isBox wsX5_isBox) := goodIn_app (goodIn_of _ (by decide +kernel)) ggX5_tie_X5_isBox
set_option maxRecDepth 20000 in
theorem ggX5_tie_X5_comesBehind : GoodIn wsX5_tie wsX5_comesBehind := goodIn_r _ [17, 3, 91, 92, 93, 94, 95, 96, 97, 98, 99, 100, 101, 102, 103, 104, 105, 106, 107, 108, 109, 110, 111] (by decide +kernel) (by decide +kernel)
set_option maxRecDepth 20000 in
theorem gX5_tie_X5_comesBehind : GoodIn wsX5_tie (wsV RX5 144 RX5 yX5_comesBehind wsX5_comesBehind) := goodIn_app (goodIn_of _ (by decide +kernel)) ggX5_tie_X5_comesBehind
set_option maxRecDepth 20000 in
theorem ggX5_tie_X5_goes : GoodIn wsX5_tie wsX5_goes := goodIn_r _ [21, 22, 91, 92, 93, 94, 95, 96, 97, 98, 99, 100, 101, 102, 103, 104, 105, 106, 107, 108, 109, 110, 111] (by decide +kernel) (by decide +kernel)
set_option maxRecDepth 20000 in
theorem gX5_tie_X5_goes : GoodIn wsX5_tie (wsV RX5 128 RX5 yX5_goes wsX5_goes) := goodIn_app (goodIn_of _ (by decide +kernel)) ggX5_tie_X5_goes
set_option maxRecDepth 20000 in
theorem ggX5_tie_X5_keeps : GoodIn wsX5_tie wsX5_keeps := goodIn_r _ [26, 27, 28, 29, 30, 31, 32, 33, 7, 34, 9, 1, 10, 3, 35, 36, 37, 38, 39, 40, 41, 42, 43, 44, 45, 46, 47, 48, 49, 50, 51, 52, 53, 54, 55, 56, 57, 58, 59, 60, 61, 62, 63, 64, 65, 66, 67, 68, 69, 70, 71, 72, 73, 74, 75, 2, 91, 92, 93, 94, 95, 96, 97, 98, 99, 100, 101, 102, 103, 104, 105, 106, 107, 108, 109, 110, 111] (by decide +kernel) (by decide +kernel)
set_option maxRecDepth 20000 in
theorem gX5_tie_X5_keeps : GoodIn wsX5_tie (wsV RX5 132 RX5 yX5_keeps wsX5_keeps) := goodIn_app (goodIn_of _ (by decide +kernel)) ggX5_tie_X5_keeps
set_option maxRecDepth 20000 in
theorem ggX5_tie_X5_falls : GoodIn wsX5_tie wsX5_falls := goodIn_r _ [79, 80, 81, 82, 83, 84, 85, 7, 86, 27, 28, 30, 29, 31, 32, 33, 34, 9, 1, 10, 3, 35, 36, 37, 38, 39, 40, 41, 42, 43, 44, 45, 46, 47, 48, 49, 50, 51, 52, 53, 54, 55, 56, 57, 58, 59, 60, 61, 62, 63, 64, 65, 66, 67, 68, 69, 70, 71, 72, 73, 74, 75, 2, 87, 88, 89, 90, 91, 92, 93, 94, 95, 96, 97, 98, 99, 100, 101, 102, 103, 104, 105, 106, 107, 108, 109, 110, 111] (by decide +kernel) (by decide +kernel)
set_option maxRecDepth 20000 in
theorem gX5_tie_X5_falls : GoodIn wsX5_tie (wsV RX5 135 RX5 yX5_falls wsX5_falls) := goodIn_app (goodIn_of _ (by decide +kernel)) ggX5_tie_X5_falls
theorem dX5_tie_0 : decode cX5_tie 0 = .ok (.aload_n 0, 1) := by decide +kernel
theorem dX5_tie_1 : decode cX5_tie 1 = .ok (.iload_n 1, 1) := by decide +kernel
theorem dX5_tie_2 : decode cX5_tie 2 = .ok (.invokevirtual 138, 3) := by decide +kernel
theorem dX5_tie_5 : decode cX5_tie 5 = .ok (.ifCond .eq 15, 3) := by decide +kernel
theorem dX5_tie_8 : decode cX5_tie 8 = .ok (.aload_n 0, 1) := by decide +kernel
theorem dX5_tie_9 : decode cX5_tie 9 = .ok (.iload_n 2, 1) := by decide +kernel
theorem dX5_tie_10 : decode cX5_tie 10 = .ok (.invokevirtual 138, 3) := by decide +kernel
theorem dX5_tie_13 : decode cX5_tie 13 = .ok (.ifCond .eq 7, 3) := by decide +kernel
theorem dX5_tie_16 : decode cX5_tie 16 = .ok (.iconst 1, 1) := by decide +kernel
theorem dX5_tie_17 : decode cX5_tie 17 = .ok (.goto 4, 3) := by decide +kernel
theorem dX5_tie_20 : decode cX5_tie 20 = .ok (.iconst 0, 1) := by decide +kernel
theorem dX5_tie_21 : decode cX5_tie 21 = .ok (.istore_n 3, 1) := by decide +kernel
theorem dX5_tie_22 : decode cX5_tie 22 = .ok (.iload_n 3, 1) := by decide +kernel
theorem dX5_tie_23 : decode cX5_tie 23 = .ok (.ifCond .eq 27, 3) := by decide +kernel
theorem dX5_tie_26 : decode cX5_tie 26 = .ok (.aload_n 0, 1) := by decide +kernel
theorem dX5_tie_27 : decode cX5_tie 27 = .ok (.getfield 7, 3) := by decide +kernel
theorem dX5_tie_30 : decode cX5_tie 30 = .ok (.iload_n 1, 1) := by decide +kernel
theorem dX5_tie_31 : decode cX5_tie 31 = .ok (.iaload, 1) := by decide +kernel
theorem dX5_tie_32 : decode cX5_tie 32 = .ok (.aload_n 0, 1) := by decide +kernel
theorem dX5_tie_33 : decode cX5_tie 33 = .ok (.getfield 7, 3) := by decide +kernel
theorem dX5_tie_36 : decode cX5_tie 36 = .ok (.iload_n 2, 1) := by decide +kernel
theorem dX5_tie_37 : decode cX5_tie 37 = .ok (.iaload, 1) := by decide +kernel
theorem dX5_tie_38 : decode cX5_tie 38 = .ok (.if_icmp .ne 12, 3) := by decide +kernel
theorem dX5_tie_41 : decode cX5_tie 41 = .ok (.iload_n 1, 1) := by decide +kernel
theorem dX5_tie_42 : decode cX5_tie 42 = .ok (.iload_n 2, 1) := by decide +kernel
theorem dX5_tie_43 : decode cX5_tie 43 = .ok (.if_icmp .eq 7, 3) := by decide +kernel
theorem dX5_tie_46 : decode cX5_tie 46 = .ok (.iconst 1, 1) := by decide +kernel
theorem dX5_tie_47 : decode cX5_tie 47 = .ok (.goto 4, 3) := by decide +kernel
theorem dX5_tie_50 : decode cX5_tie 50 = .ok (.iconst 0, 1) := by decide +kernel
theorem dX5_tie_51 : decode cX5_tie 51 = .ok (.istore 4, 2) := by decide +kernel
theorem dX5_tie_53 : decode cX5_tie 53 = .ok (.aload_n 0, 1) := by decide +kernel
theorem dX5_tie_54 : decode cX5_tie 54 = .ok (.iload_n 3, 1) := by decide +kernel
theorem dX5_tie_55 : decode cX5_tie 55 = .ok (.iload 4, 2) := by decide +kernel
theorem dX5_tie_57 : decode cX5_tie 57 = .ok (.iload 4, 2) := by decide +kernel
theorem dX5_tie_59 : decode cX5_tie 59 = .ok (.ifCond .eq 36, 3) := by decide +kernel
theorem dX5_tie_62 : decode cX5_tie 62 = .ok (.aload_n 0, 1) := by decide +kernel
theorem dX5_tie_63 : decode cX5_tie 63 = .ok (.getfield 31, 3) := by decide +kernel
theorem dX5_tie_66 : decode cX5_tie 66 = .ok (.iload_n 1, 1) := by decide +kernel
theorem dX5_tie_67 : decode cX5_tie 67 = .ok (.iaload, 1) := by decide +kernel
theorem dX5_tie_68 : decode cX5_tie 68 = .ok (.iconst (-1), 1) := by decide +kernel
theorem dX5_tie_69 : decode cX5_tie 69 = .ok (.if_icmp .ne 26, 3) := by decide +kernel
theorem dX5_tie_72 : decode cX5_tie 72 = .ok (.aload_n 0, 1) := by decide +kernel
theorem dX5_tie_73 : decode cX5_tie 73 = .ok (.getfield 28, 3) := by decide +kernel
theorem dX5_tie_76 : decode cX5_tie 76 = .ok (.iload_n 2, 1) := by decide +kernel
theorem dX5_tie_77 : decode cX5_tie 77 = .ok (.iaload, 1) := by decide +kernel
theorem dX5_tie_78 : decode cX5_tie 78 = .ok (.iconst (-1), 1) := by decide +kernel
theorem dX5_tie_79 : decode cX5_tie 79 = .ok (.if_icmp .ne 16, 3) := by decide +kernel
theorem dX5_tie_82 : decode cX5_tie 82 = .ok (.aload_n 0, 1) := by decide +kernel
theorem dX5_tie_83 : decode cX5_tie 83 = .ok (.iload_n 1, 1) := by decide +kernel
theorem dX5_tie_84 : decode cX5_tie 84 = .ok (.iload_n 2, 1) := by decide +kernel
theorem dX5_tie_85 : decode cX5_tie 85 = .ok (.invokevirtual 144, 3) := by decide +kernel
theorem dX5_tie_88 : decode cX5_tie 88 = .ok (.ifCond .ne 7, 3) := by decide +kernel
theorem dX5_tie_91 : decode cX5_tie 91 = .ok (.iconst 1, 1) := by decide +kernel
theorem dX5_tie_92 : decode cX5_tie 92 = .ok (.goto 4, 3) := by decide +kernel
theorem dX5_tie_95 : decode cX5_tie 95 = .ok (.iconst 0, 1) := by decide +kernel
theorem dX5_tie_96 : decode cX5_tie 96 = .ok (.invokevirtual 128, 3) := by decide +kernel
theorem dX5_tie_99 : decode cX5_tie 99 = .ok (.ifCond .ne 5, 3) := by decide +kernel
theorem dX5_tie_102 : decode cX5_tie 102 = .ok (.iconst 0, 1) := by decide +kernel
theorem dX5_tie_103 : decode cX5_tie 103 = .ok (.ireturn, 1) := by decide +kernel
theorem dX5_tie_104 : decode cX5_tie 104 = .ok (.aload_n 0, 1) := by decide +kernel
theorem dX5_tie_105 : decode cX5_tie 105 = .ok (.aload_n 0, 1) := by decide +kernel
theorem dX5_tie_106 : decode cX5_tie 106 = .ok (.getfield 7, 3) := by decide +kernel
theorem dX5_tie_109 : decode cX5_tie 109 = .ok (.iload_n 1, 1) := by decide +kernel
theorem dX5_tie_110 : decode cX5_tie 110 = .ok (.iaload, 1) := by decide +kernel
theorem dX5_tie_111 : decode cX5_tie 111 = .ok (.invokevirtual 132, 3) := by decide +kernel
theorem dX5_tie_114 : decode cX5_tie 114 = .ok (.aload_n 0, 1) := by decide +kernel
theorem dX5_tie_115 : decode cX5_tie 115 = .ok (.getfield 31, 3) := by decide +kernel
theorem dX5_tie_118 : decode cX5_tie 118 = .ok (.iload_n 1, 1) := by decide +kernel
theorem dX5_tie_119 : decode cX5_tie 119 = .ok (.iload_n 2, 1) := by decide +kernel
theorem dX5_tie_120 : decode cX5_tie 120 = .ok (.iastore, 1) := by decide +kernel
theorem dX5_tie_121 : decode cX5_tie 121 = .ok (.aload_n 0, 1) := by decide +kernel
theorem dX5_tie_122 : decode cX5_tie 122 = .ok (.getfield 28, 3) := by decide +kernel
theorem dX5_tie_125 : decode cX5_tie 125 = .ok (.iload_n 2, 1) := by decide +kernel
theorem dX5_tie_126 : decode cX5_tie 126 = .ok (.iload_n 1, 1) := by decide +kernel
theorem dX5_tie_127 : decode cX5_tie 127 = .ok (.iastore, 1) := by decide +kernel
theorem dX5_tie_128 : decode cX5_tie 128 = .ok (.aload_n 0, 1) := by decide +kernel
theorem dX5_tie_129 : decode cX5_tie 129 = .ok (.aload_n 0, 1) := by decide +kernel
theorem dX5_tie_130 : decode cX5_tie 130 = .ok (.getfield 7, 3) := by decide +kernel
theorem dX5_tie_133 : decode cX5_tie 133 = .ok (.iload_n 1, 1) := by decide +kernel
theorem dX5_tie_134 : decode cX5_tie 134 = .ok (.iaload, 1) := by decide +kernel
theorem dX5_tie_135 : decode cX5_tie 135 = .ok (.invokevirtual 135, 3) := by decide +kernel
theorem dX5_tie_138 : decode cX5_tie 138 = .ok (.ireturn, 1) := by decide +kernel
set_option maxRecDepth 20000 in
theorem ggX5_untie_X5_isBox : GoodIn wsX5_untie wsX5_isBox := goodIn_r _ [7, 8, 9, 10, 11, 6, 12, 91, 92, 93, 94, 95, 96, 97, 98, 99, 100, 101, 102, 103, 104, 105, 106, 107, 108, 109, 110, 111] (by decide +kernel) (by decide +kernel)
set_option maxRecDepth 20000 in
theorem gX5_untie_X5_isBox : GoodIn wsX5_untie (wsV RX5 138 RX5 yX5_isBox wsX5_isBox) := goodIn_app (goodIn_of _ (by decide +kernel)) ggX5_untie_X5_isBox
set_option maxRecDepth 20000 in
theorem ggX5_untie_X5_goes : GoodIn wsX5_untie wsX5_goes := goodIn_r _ [16, 17, 91, 92, 93, 94, 95, 96, 97, 98, 99, 100, 101, 102, 103, 104, 105, 106, 107, 108, 109, 110, 111] (by decide +kernel) (by decide +kernel)
set_option maxRecDepth 20000 in
theorem gX5_untie_X5_goes : GoodIn wsX5_untie (wsV RX5 128 RX5 yX5_goes wsX5_goes) := goodIn_app (goodIn_of _ (by decide +kernel)) ggX5_untie_X5_goes
set_option maxRecDepth 20000 in
theorem ggX5_untie_X5_keeps : GoodIn wsX5_untie wsX5_keeps := goodIn_r _ [21, 22, 23, 24, 25, 26, 27, 28, 6, 29, 8, 2, 9, 1, 30, 31, 32, 33, 34, 35, 36, 37, 38, 39, 40, 41, 42, 43, 44, 45, 46, 47, 48, 49, 50, 51, 52, 53, 54, 55, 56, 57, 58, 59, 60, 61, 62, 63, 64, 65, 66, 67, 68, 69, 70, 71, 91, 92, 93, 94, 95, 96, 97, 98, 99, 100, 101, 102, 103, 104, 105, 106, 107, 108, 109, 110, 111] (by decide +kernel) (by decide +kernel)
set_option maxRecDepth 20000 in
theorem gX5_untie_X5_keeps : GoodIn wsX5_untie (wsV RX5 132 RX5 yX5_keeps wsX5_keeps) := goodIn_app (goodIn_of _ (by decide +kernel)) ggX5_untie_X5_keeps
set_option maxRecDepth 20000 in
theorem ggX5_untie_X5_unties : GoodIn wsX5_untie wsX5_unties := goodIn_r _ [75, 1, 71, 91, 92, 93, 94, 95, 96, 97, 98, 99, 100, 101, 102, 103, 104, 105, 106, 107, 108, 109, 110, 111] (by decide +kernel) (by decide +kernel)
set_option maxRecDepth 20000 in
theorem gX5_untie_X5_unties : GoodIn wsX5_untie (wsV RX5 141 RX5 yX5_unties wsX5_unties) := goodIn_app (goodIn_of _ (by decide +kernel)) ggX5_untie_X5_unties
set_option maxRecDepth 20000 in
theorem ggX5_untie_X5_falls : GoodIn wsX5_untie wsX5_falls := goodIn_r _ [79, 80, 81, 82, 83, 84, 85, 6, 86, 22, 23, 25, 24, 26, 27, 28, 29, 8, 2, 9, 1, 30, 31, 32, 33, 34, 35, 36, 37, 38, 39, 40, 41, 42, 43, 44, 45, 46, 47, 48, 49, 50, 51, 52, 53, 54, 55, 56, 57, 58, 59, 60, 61, 62, 63, 64, 65, 66, 67, 68, 69, 70, 71, 87, 88, 89, 90, 91, 92, 93, 94, 95, 96, 97, 98, 99, 100, 101, 102, 103, 104, 105, 106, 107, 108, 109, 110, 111] (by decide +kernel) (by decide +kernel)
set_option maxRecDepth 20000 in
theorem gX5_untie_X5_falls : GoodIn wsX5_untie (wsV RX5 135 RX5 yX5_falls wsX5_falls) := goodIn_app (goodIn_of _ (by decide +kernel)) ggX5_untie_X5_falls
theorem dX5_untie_0 : decode cX5_untie 0 = .ok (.aload_n 0, 1) := by decide +kernel
theorem dX5_untie_1 : decode cX5_untie 1 = .ok (.aload_n 0, 1) := by decide +kernel
theorem dX5_untie_2 : decode cX5_untie 2 = .ok (.iload_n 1, 1) := by decide +kernel
theorem dX5_untie_3 : decode cX5_untie 3 = .ok (.invokevirtual 138, 3) := by decide +kernel
theorem dX5_untie_6 : decode cX5_untie 6 = .ok (.aload_n 0, 1) := by decide +kernel
theorem dX5_untie_7 : decode cX5_untie 7 = .ok (.iload_n 1, 1) := by decide +kernel
theorem dX5_untie_8 : decode cX5_untie 8 = .ok (.invokevirtual 138, 3) := by decide +kernel
theorem dX5_untie_11 : decode cX5_untie 11 = .ok (.ifCond .eq 17, 3) := by decide +kernel
theorem dX5_untie_14 : decode cX5_untie 14 = .ok (.aload_n 0, 1) := by decide +kernel
theorem dX5_untie_15 : decode cX5_untie 15 = .ok (.getfield 28, 3) := by decide +kernel
theorem dX5_untie_18 : decode cX5_untie 18 = .ok (.iload_n 1, 1) := by decide +kernel
theorem dX5_untie_19 : decode cX5_untie 19 = .ok (.iaload, 1) := by decide +kernel
theorem dX5_untie_20 : decode cX5_untie 20 = .ok (.iconst (-1), 1) := by decide +kernel
theorem dX5_untie_21 : decode cX5_untie 21 = .ok (.if_icmp .eq 7, 3) := by decide +kernel
theorem dX5_untie_24 : decode cX5_untie 24 = .ok (.iconst 1, 1) := by decide +kernel
theorem dX5_untie_25 : decode cX5_untie 25 = .ok (.goto 4, 3) := by decide +kernel
theorem dX5_untie_28 : decode cX5_untie 28 = .ok (.iconst 0, 1) := by decide +kernel
theorem dX5_untie_29 : decode cX5_untie 29 = .ok (.iconst 1, 1) := by decide +kernel
theorem dX5_untie_30 : decode cX5_untie 30 = .ok (.invokevirtual 128, 3) := by decide +kernel
theorem dX5_untie_33 : decode cX5_untie 33 = .ok (.ifCond .ne 5, 3) := by decide +kernel
theorem dX5_untie_36 : decode cX5_untie 36 = .ok (.iconst 0, 1) := by decide +kernel
theorem dX5_untie_37 : decode cX5_untie 37 = .ok (.ireturn, 1) := by decide +kernel
theorem dX5_untie_38 : decode cX5_untie 38 = .ok (.aload_n 0, 1) := by decide +kernel
theorem dX5_untie_39 : decode cX5_untie 39 = .ok (.aload_n 0, 1) := by decide +kernel
theorem dX5_untie_40 : decode cX5_untie 40 = .ok (.getfield 7, 3) := by decide +kernel
theorem dX5_untie_43 : decode cX5_untie 43 = .ok (.iload_n 1, 1) := by decide +kernel
theorem dX5_untie_44 : decode cX5_untie 44 = .ok (.iaload, 1) := by decide +kernel
theorem dX5_untie_45 : decode cX5_untie 45 = .ok (.invokevirtual 132, 3) := by decide +kernel
theorem dX5_untie_48 : decode cX5_untie 48 = .ok (.aload_n 0, 1) := by decide +kernel
theorem dX5_untie_49 : decode cX5_untie 49 = .ok (.iload_n 1, 1) := by decide +kernel
theorem dX5_untie_50 : decode cX5_untie 50 = .ok (.invokevirtual 141, 3) := by decide +kernel
theorem dX5_untie_53 : decode cX5_untie 53 = .ok (.aload_n 0, 1) := by decide +kernel
theorem dX5_untie_54 : decode cX5_untie 54 = .ok (.aload_n 0, 1) := by decide +kernel
theorem dX5_untie_55 : decode cX5_untie 55 = .ok (.getfield 7, 3) := by decide +kernel
theorem dX5_untie_58 : decode cX5_untie 58 = .ok (.iload_n 1, 1) := by decide +kernel
theorem dX5_untie_59 : decode cX5_untie 59 = .ok (.iaload, 1) := by decide +kernel
theorem dX5_untie_60 : decode cX5_untie 60 = .ok (.invokevirtual 135, 3) := by decide +kernel
theorem dX5_untie_63 : decode cX5_untie 63 = .ok (.ireturn, 1) := by decide +kernel
set_option maxRecDepth 20000 in
theorem ggX5_order_X5_isPage : GoodIn wsX5_order wsX5_isPage := goodIn_r _ [6, 7, 8, 5, 9] (by decide +kernel) (by decide +kernel)
set_option maxRecDepth 20000 in
theorem gX5_order_X5_isPage : GoodIn wsX5_order (va_wsS RX5 121 yX5_isPage wsX5_isPage) := goodIn_app (goodIn_of _ (by decide +kernel)) ggX5_order_X5_isPage
set_option maxRecDepth 20000 in
theorem ggX5_order_X5_goes : GoodIn wsX5_order wsX5_goes := goodIn_r _ [13, 14, 65, 66, 67, 68, 69, 70, 71, 72, 73, 74, 75, 76, 77, 78, 79, 80, 81, 82, 83, 84, 85] (by decide +kernel) (by decide +kernel)
set_option maxRecDepth 20000 in
theorem gX5_order_X5_goes : GoodIn wsX5_order (wsV RX5 128 RX5 yX5_goes wsX5_goes) := goodIn_app (goodIn_of _ (by decide +kernel)) ggX5_order_X5_goes
set_option maxRecDepth 20000 in
theorem ggX5_order_X5_finds : GoodIn wsX5_order wsX5_finds := goodIn_r _ [18, 19, 20, 21, 22, 1, 23, 24, 25, 26, 27, 5, 28, 29, 30, 31, 32, 33, 34, 35, 36, 37, 38, 39, 40, 41, 42, 43, 44, 45, 46, 47, 48, 49, 50, 51, 52, 53, 54, 55, 56, 57, 58, 59, 60, 61, 62, 63, 2, 64, 65, 66, 67, 68, 69, 70, 71, 72, 73, 74, 75, 76, 77, 78, 79, 80, 81, 82, 83, 84, 85] (by decide +kernel) (by decide +kernel)
set_option maxRecDepth 20000 in
theorem gX5_order_X5_finds : GoodIn wsX5_order (wsV RX5 104 RX5 yX5_finds wsX5_finds) := goodIn_app (goodIn_of _ (by decide +kernel)) ggX5_order_X5_finds
theorem dX5_order_0 : decode cX5_order 0 = .ok (.aload_n 0, 1) := by decide +kernel
theorem dX5_order_1 : decode cX5_order 1 = .ok (.iload_n 1, 1) := by decide +kernel
theorem dX5_order_2 : decode cX5_order 2 = .ok (.invokestatic 121, 3) := by decide +kernel
theorem dX5_order_5 : decode cX5_order 5 = .ok (.ifCond .eq 11, 3) := by decide +kernel
theorem dX5_order_8 : decode cX5_order 8 = .ok (.iload_n 2, 1) := by decide +kernel
theorem dX5_order_9 : decode cX5_order 9 = .ok (.ifCond .lt 7, 3) := by decide +kernel
theorem dX5_order_12 : decode cX5_order 12 = .ok (.iconst 1, 1) := by decide +kernel
theorem dX5_order_13 : decode cX5_order 13 = .ok (.goto 4, 3) := by decide +kernel
theorem dX5_order_16 : decode cX5_order 16 = .ok (.iconst 0, 1) := by decide +kernel
theorem dX5_order_17 : decode cX5_order 17 = .ok (.iconst 1, 1) := by decide +kernel
theorem dX5_order_18 : decode cX5_order 18 = .ok (.iconst 1, 1) := by decide +kernel
theorem dX5_order_19 : decode cX5_order 19 = .ok (.invokevirtual 128, 3) := by decide +kernel
theorem dX5_order_22 : decode cX5_order 22 = .ok (.ifCond .ne 5, 3) := by decide +kernel
theorem dX5_order_25 : decode cX5_order 25 = .ok (.iconst 0, 1) := by decide +kernel
theorem dX5_order_26 : decode cX5_order 26 = .ok (.ireturn, 1) := by decide +kernel
theorem dX5_order_27 : decode cX5_order 27 = .ok (.aload_n 0, 1) := by decide +kernel
theorem dX5_order_28 : decode cX5_order 28 = .ok (.iload_n 1, 1) := by decide +kernel
theorem dX5_order_29 : decode cX5_order 29 = .ok (.invokevirtual 104, 3) := by decide +kernel
theorem dX5_order_32 : decode cX5_order 32 = .ok (.iload_n 2, 1) := by decide +kernel
theorem dX5_order_33 : decode cX5_order 33 = .ok (.aload_n 0, 1) := by decide +kernel
theorem dX5_order_34 : decode cX5_order 34 = .ok (.getfield 82, 3) := by decide +kernel
theorem dX5_order_37 : decode cX5_order 37 = .ok (.if_icmp .ge 12, 3) := by decide +kernel
theorem dX5_order_40 : decode cX5_order 40 = .ok (.aload_n 0, 1) := by decide +kernel
theorem dX5_order_41 : decode cX5_order 41 = .ok (.getfield 47, 3) := by decide +kernel
theorem dX5_order_44 : decode cX5_order 44 = .ok (.iload_n 2, 1) := by decide +kernel
theorem dX5_order_45 : decode cX5_order 45 = .ok (.iaload, 1) := by decide +kernel
theorem dX5_order_46 : decode cX5_order 46 = .ok (.goto 4, 3) := by decide +kernel
theorem dX5_order_49 : decode cX5_order 49 = .ok (.iconst (-1), 1) := by decide +kernel
theorem dX5_order_50 : decode cX5_order 50 = .ok (.ireturn, 1) := by decide +kernel
set_option maxRecDepth 20000 in
theorem ggX5_orderAnew_X5_order : GoodIn wsX5_orderAnew wsX5_order := goodIn_r _ [5, 6, 7, 8, 9, 4, 10, 11, 12, 13, 14, 15, 16, 17, 18, 19, 20, 21, 22, 23, 24, 25, 26, 27, 28, 29, 30, 31, 32, 33, 34, 35, 36, 37, 38, 39, 40, 41, 42, 43, 44, 45, 46, 47, 48, 49, 50, 51, 52, 53, 54, 55, 56, 57, 58, 59, 60, 61, 62, 63, 64, 65, 66, 67, 68, 69, 70, 71, 72, 73, 74, 75, 76, 77, 78, 79, 80, 81, 82, 83, 84, 85, 86, 87, 88, 89] (by decide +kernel) (by decide +kernel)
set_option maxRecDepth 20000 in
theorem gX5_orderAnew_X5_order : GoodIn wsX5_orderAnew (wsV RX5 147 RX5 yX5_order wsX5_order) := goodIn_app (goodIn_of _ (by decide +kernel)) ggX5_orderAnew_X5_order
theorem dX5_orderAnew_0 : decode cX5_orderAnew 0 = .ok (.aload_n 0, 1) := by decide +kernel
theorem dX5_orderAnew_1 : decode cX5_orderAnew 1 = .ok (.iload_n 1, 1) := by decide +kernel
theorem dX5_orderAnew_2 : decode cX5_orderAnew 2 = .ok (.iload_n 2, 1) := by decide +kernel
theorem dX5_orderAnew_3 : decode cX5_orderAnew 3 = .ok (.invokevirtual 147, 3) := by decide +kernel
theorem dX5_orderAnew_6 : decode cX5_orderAnew 6 = .ok (.ireturn, 1) := by decide +kernel
set_option maxRecDepth 20000 in
theorem ggX5_place_X5_finds : GoodIn wsX5_place wsX5_finds := goodIn_r _ [8, 9, 1, 10, 11, 2, 12, 13, 14, 15, 16, 7, 17, 18, 19, 20, 21, 22, 23, 24, 25, 26, 27, 28, 29, 30, 31, 32, 33, 34, 35, 36, 37, 38, 39, 40, 41, 42, 43, 44, 45, 46, 47, 48, 49, 50, 51, 52, 3, 53, 54, 55, 56, 57, 58, 59, 60, 61, 62, 63, 64, 65, 66, 67, 68, 69, 70, 71, 72, 73, 74] (by decide +kernel) (by decide +kernel)
set_option maxRecDepth 20000 in
theorem gX5_place_X5_finds : GoodIn wsX5_place (wsV RX5 104 RX5 yX5_finds wsX5_finds) := goodIn_app (goodIn_of _ (by decide +kernel)) ggX5_place_X5_finds
theorem dX5_place_0 : decode cX5_place 0 = .ok (.aload_n 0, 1) := by decide +kernel
theorem dX5_place_1 : decode cX5_place 1 = .ok (.aload_n 0, 1) := by decide +kernel
theorem dX5_place_2 : decode cX5_place 2 = .ok (.getfield 7, 3) := by decide +kernel
theorem dX5_place_5 : decode cX5_place 5 = .ok (.iload_n 1, 1) := by decide +kernel
theorem dX5_place_6 : decode cX5_place 6 = .ok (.iaload, 1) := by decide +kernel
theorem dX5_place_7 : decode cX5_place 7 = .ok (.invokevirtual 104, 3) := by decide +kernel
theorem dX5_place_10 : decode cX5_place 10 = .ok (.iconst (-1), 1) := by decide +kernel
theorem dX5_place_11 : decode cX5_place 11 = .ok (.istore_n 2, 1) := by decide +kernel
theorem dX5_place_12 : decode cX5_place 12 = .ok (.iconst 0, 1) := by decide +kernel
theorem dX5_place_13 : decode cX5_place 13 = .ok (.istore_n 3, 1) := by decide +kernel
theorem dX5_place_14 : decode cX5_place 14 = .ok (.iload_n 3, 1) := by decide +kernel
theorem dX5_place_15 : decode cX5_place 15 = .ok (.aload_n 0, 1) := by decide +kernel
theorem dX5_place_16 : decode cX5_place 16 = .ok (.getfield 82, 3) := by decide +kernel
theorem dX5_place_19 : decode cX5_place 19 = .ok (.if_icmp .ge 25, 3) := by decide +kernel
theorem dX5_place_22 : decode cX5_place 22 = .ok (.aload_n 0, 1) := by decide +kernel
theorem dX5_place_23 : decode cX5_place 23 = .ok (.getfield 47, 3) := by decide +kernel
theorem dX5_place_26 : decode cX5_place 26 = .ok (.iload_n 3, 1) := by decide +kernel
theorem dX5_place_27 : decode cX5_place 27 = .ok (.iaload, 1) := by decide +kernel
theorem dX5_place_28 : decode cX5_place 28 = .ok (.iload_n 1, 1) := by decide +kernel
theorem dX5_place_29 : decode cX5_place 29 = .ok (.if_icmp .ne 7, 3) := by decide +kernel
theorem dX5_place_32 : decode cX5_place 32 = .ok (.iload_n 3, 1) := by decide +kernel
theorem dX5_place_33 : decode cX5_place 33 = .ok (.goto 4, 3) := by decide +kernel
theorem dX5_place_36 : decode cX5_place 36 = .ok (.iload_n 2, 1) := by decide +kernel
theorem dX5_place_37 : decode cX5_place 37 = .ok (.istore_n 2, 1) := by decide +kernel
theorem dX5_place_38 : decode cX5_place 38 = .ok (.iinc 3 1, 3) := by decide +kernel
theorem dX5_place_41 : decode cX5_place 41 = .ok (.goto (-27), 3) := by decide +kernel
theorem dX5_place_44 : decode cX5_place 44 = .ok (.iload_n 2, 1) := by decide +kernel
theorem dX5_place_45 : decode cX5_place 45 = .ok (.ireturn, 1) := by decide +kernel
set_option maxRecDepth 20000 in
theorem ggX5_placeOf_X5_isBox : GoodIn wsX5_placeOf wsX5_isBox := goodIn_r _ [5, 6, 7, 8, 9, 4, 10, 70, 71, 72, 73, 74, 75, 76, 77, 78, 79, 80, 81, 82, 83, 84, 85, 86, 87, 88, 89, 90] (by decide +kernel) (by decide +kernel)
set_option maxRecDepth 20000 in
theorem gX5_placeOf_X5_isBox : GoodIn wsX5_placeOf (wsV RX5 138 RX5 yX5_isBox wsX5_isBox) := goodIn_app (goodIn_of _ (by decide +kernel)) ggX5_placeOf_X5_isBox
set_option maxRecDepth 20000 in
theorem ggX5_placeOf_X5_goes : GoodIn wsX5_placeOf wsX5_goes := goodIn_r _ [14, 15, 70, 71, 72, 73, 74, 75, 76, 77, 78, 79, 80, 81, 82, 83, 84, 85, 86, 87, 88, 89, 90] (by decide +kernel) (by decide +kernel)
set_option maxRecDepth 20000 in
theorem gX5_placeOf_X5_goes : GoodIn wsX5_placeOf (wsV RX5 128 RX5 yX5_goes wsX5_goes) := goodIn_app (goodIn_of _ (by decide +kernel)) ggX5_placeOf_X5_goes
set_option maxRecDepth 20000 in
theorem ggX5_placeOf_X5_place : GoodIn wsX5_placeOf wsX5_place := goodIn_r _ [19, 20, 21, 22, 23, 24, 25, 4, 26, 6, 7, 27, 28, 29, 30, 31, 32, 33, 34, 35, 36, 37, 38, 39, 40, 41, 42, 43, 44, 45, 46, 47, 48, 49, 50, 51, 52, 53, 54, 55, 56, 57, 58, 59, 60, 61, 62, 63, 64, 65, 66, 67, 68, 69, 70, 71, 72, 73, 74, 75, 76, 77, 78, 79, 80, 81, 82, 83, 84, 85, 86, 87, 88, 89, 90] (by decide +kernel) (by decide +kernel)
set_option maxRecDepth 20000 in
theorem gX5_placeOf_X5_place : GoodIn wsX5_placeOf (wsV RX5 150 RX5 yX5_place wsX5_place) := goodIn_app (goodIn_of _ (by decide +kernel)) ggX5_placeOf_X5_place
theorem dX5_placeOf_0 : decode cX5_placeOf 0 = .ok (.aload_n 0, 1) := by decide +kernel
theorem dX5_placeOf_1 : decode cX5_placeOf 1 = .ok (.aload_n 0, 1) := by decide +kernel
theorem dX5_placeOf_2 : decode cX5_placeOf 2 = .ok (.iload_n 1, 1) := by decide +kernel
theorem dX5_placeOf_3 : decode cX5_placeOf 3 = .ok (.invokevirtual 138, 3) := by decide +kernel
theorem dX5_placeOf_6 : decode cX5_placeOf 6 = .ok (.iconst 1, 1) := by decide +kernel
theorem dX5_placeOf_7 : decode cX5_placeOf 7 = .ok (.iconst 1, 1) := by decide +kernel
theorem dX5_placeOf_8 : decode cX5_placeOf 8 = .ok (.invokevirtual 128, 3) := by decide +kernel
theorem dX5_placeOf_11 : decode cX5_placeOf 11 = .ok (.ifCond .eq 11, 3) := by decide +kernel
theorem dX5_placeOf_14 : decode cX5_placeOf 14 = .ok (.aload_n 0, 1) := by decide +kernel
theorem dX5_placeOf_15 : decode cX5_placeOf 15 = .ok (.iload_n 1, 1) := by decide +kernel
theorem dX5_placeOf_16 : decode cX5_placeOf 16 = .ok (.invokevirtual 150, 3) := by decide +kernel
theorem dX5_placeOf_19 : decode cX5_placeOf 19 = .ok (.goto 4, 3) := by decide +kernel
theorem dX5_placeOf_22 : decode cX5_placeOf 22 = .ok (.iconst 0, 1) := by decide +kernel
theorem dX5_placeOf_23 : decode cX5_placeOf 23 = .ok (.ireturn, 1) := by decide +kernel
set_option maxRecDepth 20000 in
theorem ggX5_boxes_X5_isPage : GoodIn wsX5_boxes wsX5_isPage := goodIn_r _ [5, 6, 7, 4, 8] (by decide +kernel) (by decide +kernel)
set_option maxRecDepth 20000 in
theorem gX5_boxes_X5_isPage : GoodIn wsX5_boxes (va_wsS RX5 121 yX5_isPage wsX5_isPage) := goodIn_app (goodIn_of _ (by decide +kernel)) ggX5_boxes_X5_isPage
set_option maxRecDepth 20000 in
theorem ggX5_boxes_X5_goes : GoodIn wsX5_boxes wsX5_goes := goodIn_r _ [12, 13, 65, 66, 67, 68, 69, 70, 71, 72, 73, 74, 75, 76, 77, 78, 79, 80, 81, 82, 83, 84, 85] (by decide +kernel) (by decide +kernel)
set_option maxRecDepth 20000 in
theorem gX5_boxes_X5_goes : GoodIn wsX5_boxes (wsV RX5 128 RX5 yX5_goes wsX5_goes) := goodIn_app (goodIn_of _ (by decide +kernel)) ggX5_boxes_X5_goes
set_option maxRecDepth 20000 in
theorem ggX5_boxes_X5_finds : GoodIn wsX5_boxes wsX5_finds := goodIn_r _ [17, 18, 19, 20, 21, 1, 22, 23, 24, 25, 26, 4, 27, 28, 29, 30, 31, 32, 33, 34, 35, 36, 37, 38, 39, 40, 41, 42, 43, 44, 45, 46, 47, 48, 49, 50, 51, 52, 53, 54, 55, 56, 57, 58, 59, 60, 61, 62, 63, 64, 65, 66, 67, 68, 69, 70, 71, 72, 73, 74, 75, 76, 77, 78, 79, 80, 81, 82, 83, 84, 85] (by decide +kernel) (by decide +kernel)
set_option maxRecDepth 20000 in
theorem gX5_boxes_X5_finds : GoodIn wsX5_boxes (wsV RX5 104 RX5 yX5_finds wsX5_finds) := goodIn_app (goodIn_of _ (by decide +kernel)) ggX5_boxes_X5_finds
theorem dX5_boxes_0 : decode cX5_boxes 0 = .ok (.aload_n 0, 1) := by decide +kernel
theorem dX5_boxes_1 : decode cX5_boxes 1 = .ok (.iload_n 1, 1) := by decide +kernel
theorem dX5_boxes_2 : decode cX5_boxes 2 = .ok (.invokestatic 121, 3) := by decide +kernel
theorem dX5_boxes_5 : decode cX5_boxes 5 = .ok (.iconst 1, 1) := by decide +kernel
theorem dX5_boxes_6 : decode cX5_boxes 6 = .ok (.iconst 1, 1) := by decide +kernel
theorem dX5_boxes_7 : decode cX5_boxes 7 = .ok (.invokevirtual 128, 3) := by decide +kernel
theorem dX5_boxes_10 : decode cX5_boxes 10 = .ok (.ifCond .ne 5, 3) := by decide +kernel
theorem dX5_boxes_13 : decode cX5_boxes 13 = .ok (.iconst 0, 1) := by decide +kernel
theorem dX5_boxes_14 : decode cX5_boxes 14 = .ok (.ireturn, 1) := by decide +kernel
theorem dX5_boxes_15 : decode cX5_boxes 15 = .ok (.aload_n 0, 1) := by decide +kernel
theorem dX5_boxes_16 : decode cX5_boxes 16 = .ok (.iload_n 1, 1) := by decide +kernel
theorem dX5_boxes_17 : decode cX5_boxes 17 = .ok (.invokevirtual 104, 3) := by decide +kernel
theorem dX5_boxes_20 : decode cX5_boxes 20 = .ok (.aload_n 0, 1) := by decide +kernel
theorem dX5_boxes_21 : decode cX5_boxes 21 = .ok (.getfield 82, 3) := by decide +kernel
theorem dX5_boxes_24 : decode cX5_boxes 24 = .ok (.ireturn, 1) := by decide +kernel
set_option maxRecDepth 20000 in
theorem ggX5_about_X5_in : GoodIn wsX5_about wsX5_in := goodIn_r _ [14] (by decide +kernel) (by decide +kernel)
set_option maxRecDepth 20000 in
theorem gX5_about_X5_in : GoodIn wsX5_about (va_wsS RX5 60 yX5_in wsX5_in) := goodIn_app (goodIn_of _ (by decide +kernel)) ggX5_about_X5_in
set_option maxRecDepth 20000 in
theorem ggX5_about_X5_goes : GoodIn wsX5_about wsX5_goes := goodIn_r _ [18, 19, 20, 21, 22, 23, 24, 25, 26, 27, 28, 29, 30, 31, 32, 33, 34, 35, 36, 37, 38, 39, 40] (by decide +kernel) (by decide +kernel)
set_option maxRecDepth 20000 in
theorem gX5_about_X5_goes : GoodIn wsX5_about (wsV RX5 128 RX5 yX5_goes wsX5_goes) := goodIn_app (goodIn_of _ (by decide +kernel)) ggX5_about_X5_goes
theorem dX5_about_0 : decode cX5_about 0 = .ok (.aload_n 0, 1) := by decide +kernel
theorem dX5_about_1 : decode cX5_about 1 = .ok (.iload_n 1, 1) := by decide +kernel
theorem dX5_about_2 : decode cX5_about 2 = .ok (.iconst 0, 1) := by decide +kernel
theorem dX5_about_3 : decode cX5_about 3 = .ok (.aload_n 0, 1) := by decide +kernel
theorem dX5_about_4 : decode cX5_about 4 = .ok (.getfield 64, 3) := by decide +kernel
theorem dX5_about_7 : decode cX5_about 7 = .ok (.iconst 1, 1) := by decide +kernel
theorem dX5_about_8 : decode cX5_about 8 = .ok (.isub, 1) := by decide +kernel
theorem dX5_about_9 : decode cX5_about 9 = .ok (.invokestatic 60, 3) := by decide +kernel
theorem dX5_about_12 : decode cX5_about 12 = .ok (.iload_n 2, 1) := by decide +kernel
theorem dX5_about_13 : decode cX5_about 13 = .ok (.iconst 0, 1) := by decide +kernel
theorem dX5_about_14 : decode cX5_about 14 = .ok (.bipush 8, 2) := by decide +kernel
theorem dX5_about_16 : decode cX5_about 16 = .ok (.invokestatic 60, 3) := by decide +kernel
theorem dX5_about_19 : decode cX5_about 19 = .ok (.iconst 1, 1) := by decide +kernel
theorem dX5_about_20 : decode cX5_about 20 = .ok (.invokevirtual 128, 3) := by decide +kernel
theorem dX5_about_23 : decode cX5_about 23 = .ok (.ifCond .ne 5, 3) := by decide +kernel
theorem dX5_about_26 : decode cX5_about 26 = .ok (.iconst 0, 1) := by decide +kernel
theorem dX5_about_27 : decode cX5_about 27 = .ok (.ireturn, 1) := by decide +kernel
theorem dX5_about_28 : decode cX5_about 28 = .ok (.iload_n 2, 1) := by decide +kernel
theorem dX5_about_29 : decode cX5_about 29 = .ok (.tableswitch 129 0 7 #[47, 54, 61, 68, 75, 82, 89, 109], 47) := by decide +kernel
theorem dX5_about_76 : decode cX5_about 76 = .ok (.aload_n 0, 1) := by decide +kernel
theorem dX5_about_77 : decode cX5_about 77 = .ok (.getfield 7, 3) := by decide +kernel
theorem dX5_about_80 : decode cX5_about 80 = .ok (.iload_n 1, 1) := by decide +kernel
theorem dX5_about_81 : decode cX5_about 81 = .ok (.iaload, 1) := by decide +kernel
theorem dX5_about_82 : decode cX5_about 82 = .ok (.ireturn, 1) := by decide +kernel
theorem dX5_about_83 : decode cX5_about 83 = .ok (.aload_n 0, 1) := by decide +kernel
theorem dX5_about_84 : decode cX5_about 84 = .ok (.getfield 13, 3) := by decide +kernel
theorem dX5_about_87 : decode cX5_about 87 = .ok (.iload_n 1, 1) := by decide +kernel
theorem dX5_about_88 : decode cX5_about 88 = .ok (.iaload, 1) := by decide +kernel
theorem dX5_about_89 : decode cX5_about 89 = .ok (.ireturn, 1) := by decide +kernel
theorem dX5_about_90 : decode cX5_about 90 = .ok (.aload_n 0, 1) := by decide +kernel
theorem dX5_about_91 : decode cX5_about 91 = .ok (.getfield 16, 3) := by decide +kernel
theorem dX5_about_94 : decode cX5_about 94 = .ok (.iload_n 1, 1) := by decide +kernel
theorem dX5_about_95 : decode cX5_about 95 = .ok (.iaload, 1) := by decide +kernel
theorem dX5_about_96 : decode cX5_about 96 = .ok (.ireturn, 1) := by decide +kernel
theorem dX5_about_97 : decode cX5_about 97 = .ok (.aload_n 0, 1) := by decide +kernel
theorem dX5_about_98 : decode cX5_about 98 = .ok (.getfield 19, 3) := by decide +kernel
theorem dX5_about_101 : decode cX5_about 101 = .ok (.iload_n 1, 1) := by decide +kernel
theorem dX5_about_102 : decode cX5_about 102 = .ok (.iaload, 1) := by decide +kernel
theorem dX5_about_103 : decode cX5_about 103 = .ok (.ireturn, 1) := by decide +kernel
theorem dX5_about_104 : decode cX5_about 104 = .ok (.aload_n 0, 1) := by decide +kernel
theorem dX5_about_105 : decode cX5_about 105 = .ok (.getfield 22, 3) := by decide +kernel
theorem dX5_about_108 : decode cX5_about 108 = .ok (.iload_n 1, 1) := by decide +kernel
theorem dX5_about_109 : decode cX5_about 109 = .ok (.iaload, 1) := by decide +kernel
theorem dX5_about_110 : decode cX5_about 110 = .ok (.ireturn, 1) := by decide +kernel
theorem dX5_about_111 : decode cX5_about 111 = .ok (.aload_n 0, 1) := by decide +kernel
theorem dX5_about_112 : decode cX5_about 112 = .ok (.getfield 25, 3) := by decide +kernel
theorem dX5_about_115 : decode cX5_about 115 = .ok (.iload_n 1, 1) := by decide +kernel
theorem dX5_about_116 : decode cX5_about 116 = .ok (.iaload, 1) := by decide +kernel
theorem dX5_about_117 : decode cX5_about 117 = .ok (.ireturn, 1) := by decide +kernel
theorem dX5_about_118 : decode cX5_about 118 = .ok (.aload_n 0, 1) := by decide +kernel
theorem dX5_about_119 : decode cX5_about 119 = .ok (.getfield 34, 3) := by decide +kernel
theorem dX5_about_122 : decode cX5_about 122 = .ok (.iload_n 1, 1) := by decide +kernel
theorem dX5_about_123 : decode cX5_about 123 = .ok (.baload, 1) := by decide +kernel
theorem dX5_about_124 : decode cX5_about 124 = .ok (.ifCond .eq 7, 3) := by decide +kernel
theorem dX5_about_127 : decode cX5_about 127 = .ok (.iconst (-1), 1) := by decide +kernel
theorem dX5_about_128 : decode cX5_about 128 = .ok (.goto 9, 3) := by decide +kernel
theorem dX5_about_131 : decode cX5_about 131 = .ok (.aload_n 0, 1) := by decide +kernel
theorem dX5_about_132 : decode cX5_about 132 = .ok (.getfield 28, 3) := by decide +kernel
theorem dX5_about_135 : decode cX5_about 135 = .ok (.iload_n 1, 1) := by decide +kernel
theorem dX5_about_136 : decode cX5_about 136 = .ok (.iaload, 1) := by decide +kernel
theorem dX5_about_137 : decode cX5_about 137 = .ok (.ireturn, 1) := by decide +kernel
theorem dX5_about_138 : decode cX5_about 138 = .ok (.aload_n 0, 1) := by decide +kernel
theorem dX5_about_139 : decode cX5_about 139 = .ok (.getfield 34, 3) := by decide +kernel
theorem dX5_about_142 : decode cX5_about 142 = .ok (.iload_n 1, 1) := by decide +kernel
theorem dX5_about_143 : decode cX5_about 143 = .ok (.baload, 1) := by decide +kernel
theorem dX5_about_144 : decode cX5_about 144 = .ok (.ifCond .eq 7, 3) := by decide +kernel
theorem dX5_about_147 : decode cX5_about 147 = .ok (.iconst (-1), 1) := by decide +kernel
theorem dX5_about_148 : decode cX5_about 148 = .ok (.goto 9, 3) := by decide +kernel
theorem dX5_about_151 : decode cX5_about 151 = .ok (.aload_n 0, 1) := by decide +kernel
theorem dX5_about_152 : decode cX5_about 152 = .ok (.getfield 31, 3) := by decide +kernel
theorem dX5_about_155 : decode cX5_about 155 = .ok (.iload_n 1, 1) := by decide +kernel
theorem dX5_about_156 : decode cX5_about 156 = .ok (.iaload, 1) := by decide +kernel
theorem dX5_about_157 : decode cX5_about 157 = .ok (.ireturn, 1) := by decide +kernel
theorem dX5_about_158 : decode cX5_about 158 = .ok (.aload_n 0, 1) := by decide +kernel
theorem dX5_about_159 : decode cX5_about 159 = .ok (.getfield 34, 3) := by decide +kernel
theorem dX5_about_162 : decode cX5_about 162 = .ok (.iload_n 1, 1) := by decide +kernel
theorem dX5_about_163 : decode cX5_about 163 = .ok (.baload, 1) := by decide +kernel
theorem dX5_about_164 : decode cX5_about 164 = .ok (.ifCond .eq 7, 3) := by decide +kernel
theorem dX5_about_167 : decode cX5_about 167 = .ok (.iconst 1, 1) := by decide +kernel
theorem dX5_about_168 : decode cX5_about 168 = .ok (.goto 4, 3) := by decide +kernel
theorem dX5_about_171 : decode cX5_about 171 = .ok (.iconst 0, 1) := by decide +kernel
theorem dX5_about_172 : decode cX5_about 172 = .ok (.ireturn, 1) := by decide +kernel
theorem dX5_between_0 : decode cX5_between 0 = .ok (.iload_n 0, 1) := by decide +kernel
theorem dX5_between_1 : decode cX5_between 1 = .ok (.iload_n 1, 1) := by decide +kernel
theorem dX5_between_2 : decode cX5_between 2 = .ok (.if_icmp .ge 9, 3) := by decide +kernel
theorem dX5_between_5 : decode cX5_between 5 = .ok (.iload_n 1, 1) := by decide +kernel
theorem dX5_between_6 : decode cX5_between 6 = .ok (.iload_n 0, 1) := by decide +kernel
theorem dX5_between_7 : decode cX5_between 7 = .ok (.isub, 1) := by decide +kernel
theorem dX5_between_8 : decode cX5_between 8 = .ok (.goto 6, 3) := by decide +kernel
theorem dX5_between_11 : decode cX5_between 11 = .ok (.iload_n 0, 1) := by decide +kernel
theorem dX5_between_12 : decode cX5_between 12 = .ok (.iload_n 1, 1) := by decide +kernel
theorem dX5_between_13 : decode cX5_between 13 = .ok (.isub, 1) := by decide +kernel
theorem dX5_between_14 : decode cX5_between 14 = .ok (.ireturn, 1) := by decide +kernel
set_option maxRecDepth 20000 in
theorem ggX5_way_X5_isPage : GoodIn wsX5_way wsX5_isPage := goodIn_r _ [10, 11, 12, 9, 13] (by decide +kernel) (by decide +kernel)
set_option maxRecDepth 20000 in
theorem gX5_way_X5_isPage : GoodIn wsX5_way (va_wsS RX5 121 yX5_isPage wsX5_isPage) := goodIn_app (goodIn_of _ (by decide +kernel)) ggX5_way_X5_isPage
set_option maxRecDepth 20000 in
theorem ggX5_way_X5_goes : GoodIn wsX5_way wsX5_goes := goodIn_r _ [17, 18, 68, 69, 70, 71, 72, 73, 74, 75, 76, 77, 78, 79, 80, 81, 82, 83, 84, 85, 86, 87, 88] (by decide +kernel) (by decide +kernel)
set_option maxRecDepth 20000 in
theorem gX5_way_X5_goes : GoodIn wsX5_way (wsV RX5 128 RX5 yX5_goes wsX5_goes) := goodIn_app (goodIn_of _ (by decide +kernel)) ggX5_way_X5_goes
set_option maxRecDepth 20000 in
theorem ggX5_way_X5_finds : GoodIn wsX5_way wsX5_finds := goodIn_r _ [22, 23, 24, 25, 26, 1, 27, 28, 29, 30, 31, 9, 32, 33, 34, 35, 36, 37, 38, 39, 40, 41, 42, 43, 44, 45, 46, 47, 5, 6, 3, 4, 48, 49, 50, 51, 52, 53, 54, 55, 56, 57, 58, 59, 60, 61, 62, 63, 2, 64, 68, 69, 70, 71, 72, 73, 74, 75, 76, 77, 78, 79, 80, 81, 82, 83, 84, 85, 86, 87, 88] (by decide +kernel) (by decide +kernel)
set_option maxRecDepth 20000 in
theorem gX5_way_X5_finds : GoodIn wsX5_way (wsV RX5 104 RX5 yX5_finds wsX5_finds) := goodIn_app (goodIn_of _ (by decide +kernel)) ggX5_way_X5_finds
set_option maxRecDepth 20000 in
theorem ggX5_way_X5_between : GoodIn wsX5_way wsX5_between := goodIn_r _ [67] (by decide +kernel) (by decide +kernel)
set_option maxRecDepth 20000 in
theorem gX5_way_X5_between : GoodIn wsX5_way (va_wsS RX5 153 yX5_between wsX5_between) := goodIn_app (goodIn_of _ (by decide +kernel)) ggX5_way_X5_between
theorem dX5_way_0 : decode cX5_way 0 = .ok (.aload_n 0, 1) := by decide +kernel
theorem dX5_way_1 : decode cX5_way 1 = .ok (.iload_n 1, 1) := by decide +kernel
theorem dX5_way_2 : decode cX5_way 2 = .ok (.invokestatic 121, 3) := by decide +kernel
theorem dX5_way_5 : decode cX5_way 5 = .ok (.iconst 1, 1) := by decide +kernel
theorem dX5_way_6 : decode cX5_way 6 = .ok (.iconst 1, 1) := by decide +kernel
theorem dX5_way_7 : decode cX5_way 7 = .ok (.invokevirtual 128, 3) := by decide +kernel
theorem dX5_way_10 : decode cX5_way 10 = .ok (.ifCond .ne 5, 3) := by decide +kernel
theorem dX5_way_13 : decode cX5_way 13 = .ok (.iconst 0, 1) := by decide +kernel
theorem dX5_way_14 : decode cX5_way 14 = .ok (.ireturn, 1) := by decide +kernel
theorem dX5_way_15 : decode cX5_way 15 = .ok (.aload_n 0, 1) := by decide +kernel
theorem dX5_way_16 : decode cX5_way 16 = .ok (.iload_n 1, 1) := by decide +kernel
theorem dX5_way_17 : decode cX5_way 17 = .ok (.invokevirtual 104, 3) := by decide +kernel
theorem dX5_way_20 : decode cX5_way 20 = .ok (.iconst 0, 1) := by decide +kernel
theorem dX5_way_21 : decode cX5_way 21 = .ok (.istore_n 2, 1) := by decide +kernel
theorem dX5_way_22 : decode cX5_way 22 = .ok (.iconst 1, 1) := by decide +kernel
theorem dX5_way_23 : decode cX5_way 23 = .ok (.istore_n 3, 1) := by decide +kernel
theorem dX5_way_24 : decode cX5_way 24 = .ok (.iload_n 3, 1) := by decide +kernel
theorem dX5_way_25 : decode cX5_way 25 = .ok (.aload_n 0, 1) := by decide +kernel
theorem dX5_way_26 : decode cX5_way 26 = .ok (.getfield 82, 3) := by decide +kernel
theorem dX5_way_29 : decode cX5_way 29 = .ok (.if_icmp .ge 105, 3) := by decide +kernel
theorem dX5_way_32 : decode cX5_way 32 = .ok (.aload_n 0, 1) := by decide +kernel
theorem dX5_way_33 : decode cX5_way 33 = .ok (.getfield 47, 3) := by decide +kernel
theorem dX5_way_36 : decode cX5_way 36 = .ok (.iload_n 3, 1) := by decide +kernel
theorem dX5_way_37 : decode cX5_way 37 = .ok (.iconst 1, 1) := by decide +kernel
theorem dX5_way_38 : decode cX5_way 38 = .ok (.isub, 1) := by decide +kernel
theorem dX5_way_39 : decode cX5_way 39 = .ok (.iaload, 1) := by decide +kernel
theorem dX5_way_40 : decode cX5_way 40 = .ok (.istore 4, 2) := by decide +kernel
theorem dX5_way_42 : decode cX5_way 42 = .ok (.aload_n 0, 1) := by decide +kernel
theorem dX5_way_43 : decode cX5_way 43 = .ok (.getfield 47, 3) := by decide +kernel
theorem dX5_way_46 : decode cX5_way 46 = .ok (.iload_n 3, 1) := by decide +kernel
theorem dX5_way_47 : decode cX5_way 47 = .ok (.iaload, 1) := by decide +kernel
theorem dX5_way_48 : decode cX5_way 48 = .ok (.istore 5, 2) := by decide +kernel
theorem dX5_way_50 : decode cX5_way 50 = .ok (.iload_n 2, 1) := by decide +kernel
theorem dX5_way_51 : decode cX5_way 51 = .ok (.aload_n 0, 1) := by decide +kernel
theorem dX5_way_52 : decode cX5_way 52 = .ok (.getfield 13, 3) := by decide +kernel
theorem dX5_way_55 : decode cX5_way 55 = .ok (.iload 4, 2) := by decide +kernel
theorem dX5_way_57 : decode cX5_way 57 = .ok (.iaload, 1) := by decide +kernel
theorem dX5_way_58 : decode cX5_way 58 = .ok (.aload_n 0, 1) := by decide +kernel
theorem dX5_way_59 : decode cX5_way 59 = .ok (.getfield 19, 3) := by decide +kernel
theorem dX5_way_62 : decode cX5_way 62 = .ok (.iload 4, 2) := by decide +kernel
theorem dX5_way_64 : decode cX5_way 64 = .ok (.iaload, 1) := by decide +kernel
theorem dX5_way_65 : decode cX5_way 65 = .ok (.iconst 2, 1) := by decide +kernel
theorem dX5_way_66 : decode cX5_way 66 = .ok (.idiv, 1) := by decide +kernel
theorem dX5_way_67 : decode cX5_way 67 = .ok (.iadd, 1) := by decide +kernel
theorem dX5_way_68 : decode cX5_way 68 = .ok (.aload_n 0, 1) := by decide +kernel
theorem dX5_way_69 : decode cX5_way 69 = .ok (.getfield 13, 3) := by decide +kernel
theorem dX5_way_72 : decode cX5_way 72 = .ok (.iload 5, 2) := by decide +kernel
theorem dX5_way_74 : decode cX5_way 74 = .ok (.iaload, 1) := by decide +kernel
theorem dX5_way_75 : decode cX5_way 75 = .ok (.aload_n 0, 1) := by decide +kernel
theorem dX5_way_76 : decode cX5_way 76 = .ok (.getfield 19, 3) := by decide +kernel
theorem dX5_way_79 : decode cX5_way 79 = .ok (.iload 5, 2) := by decide +kernel
theorem dX5_way_81 : decode cX5_way 81 = .ok (.iaload, 1) := by decide +kernel
theorem dX5_way_82 : decode cX5_way 82 = .ok (.iconst 2, 1) := by decide +kernel
theorem dX5_way_83 : decode cX5_way 83 = .ok (.idiv, 1) := by decide +kernel
theorem dX5_way_84 : decode cX5_way 84 = .ok (.iadd, 1) := by decide +kernel
theorem dX5_way_85 : decode cX5_way 85 = .ok (.invokestatic 153, 3) := by decide +kernel
theorem dX5_way_88 : decode cX5_way 88 = .ok (.aload_n 0, 1) := by decide +kernel
theorem dX5_way_89 : decode cX5_way 89 = .ok (.getfield 16, 3) := by decide +kernel
theorem dX5_way_92 : decode cX5_way 92 = .ok (.iload 4, 2) := by decide +kernel
theorem dX5_way_94 : decode cX5_way 94 = .ok (.iaload, 1) := by decide +kernel
theorem dX5_way_95 : decode cX5_way 95 = .ok (.aload_n 0, 1) := by decide +kernel
theorem dX5_way_96 : decode cX5_way 96 = .ok (.getfield 22, 3) := by decide +kernel
theorem dX5_way_99 : decode cX5_way 99 = .ok (.iload 4, 2) := by decide +kernel
theorem dX5_way_101 : decode cX5_way 101 = .ok (.iaload, 1) := by decide +kernel
theorem dX5_way_102 : decode cX5_way 102 = .ok (.iconst 2, 1) := by decide +kernel
theorem dX5_way_103 : decode cX5_way 103 = .ok (.idiv, 1) := by decide +kernel
theorem dX5_way_104 : decode cX5_way 104 = .ok (.iadd, 1) := by decide +kernel
theorem dX5_way_105 : decode cX5_way 105 = .ok (.aload_n 0, 1) := by decide +kernel
theorem dX5_way_106 : decode cX5_way 106 = .ok (.getfield 16, 3) := by decide +kernel
theorem dX5_way_109 : decode cX5_way 109 = .ok (.iload 5, 2) := by decide +kernel
theorem dX5_way_111 : decode cX5_way 111 = .ok (.iaload, 1) := by decide +kernel
theorem dX5_way_112 : decode cX5_way 112 = .ok (.aload_n 0, 1) := by decide +kernel
theorem dX5_way_113 : decode cX5_way 113 = .ok (.getfield 22, 3) := by decide +kernel
theorem dX5_way_116 : decode cX5_way 116 = .ok (.iload 5, 2) := by decide +kernel
theorem dX5_way_118 : decode cX5_way 118 = .ok (.iaload, 1) := by decide +kernel
theorem dX5_way_119 : decode cX5_way 119 = .ok (.iconst 2, 1) := by decide +kernel
theorem dX5_way_120 : decode cX5_way 120 = .ok (.idiv, 1) := by decide +kernel
theorem dX5_way_121 : decode cX5_way 121 = .ok (.iadd, 1) := by decide +kernel
theorem dX5_way_122 : decode cX5_way 122 = .ok (.invokestatic 153, 3) := by decide +kernel
theorem dX5_way_125 : decode cX5_way 125 = .ok (.iadd, 1) := by decide +kernel
theorem dX5_way_126 : decode cX5_way 126 = .ok (.iadd, 1) := by decide +kernel
theorem dX5_way_127 : decode cX5_way 127 = .ok (.istore_n 2, 1) := by decide +kernel
theorem dX5_way_128 : decode cX5_way 128 = .ok (.iinc 3 1, 3) := by decide +kernel
theorem dX5_way_131 : decode cX5_way 131 = .ok (.goto (-107), 3) := by decide +kernel
theorem dX5_way_134 : decode cX5_way 134 = .ok (.iload_n 2, 1) := by decide +kernel
theorem dX5_way_135 : decode cX5_way 135 = .ok (.ireturn, 1) := by decide +kernel
theorem dX5_isHead_0 : decode cX5_isHead 0 = .ok (.aload_n 0, 1) := by decide +kernel
theorem dX5_isHead_1 : decode cX5_isHead 1 = .ok (.getfield 25, 3) := by decide +kernel
theorem dX5_isHead_4 : decode cX5_isHead 4 = .ok (.aload_n 0, 1) := by decide +kernel
theorem dX5_isHead_5 : decode cX5_isHead 5 = .ok (.getfield 47, 3) := by decide +kernel
theorem dX5_isHead_8 : decode cX5_isHead 8 = .ok (.iload_n 1, 1) := by decide +kernel
theorem dX5_isHead_9 : decode cX5_isHead 9 = .ok (.iaload, 1) := by decide +kernel
theorem dX5_isHead_10 : decode cX5_isHead 10 = .ok (.iaload, 1) := by decide +kernel
theorem dX5_isHead_11 : decode cX5_isHead 11 = .ok (.iconst 4, 1) := by decide +kernel
theorem dX5_isHead_12 : decode cX5_isHead 12 = .ok (.if_icmp .lt 7, 3) := by decide +kernel
theorem dX5_isHead_15 : decode cX5_isHead 15 = .ok (.iconst 1, 1) := by decide +kernel
theorem dX5_isHead_16 : decode cX5_isHead 16 = .ok (.goto 4, 3) := by decide +kernel
theorem dX5_isHead_19 : decode cX5_isHead 19 = .ok (.iconst 0, 1) := by decide +kernel
theorem dX5_isHead_20 : decode cX5_isHead 20 = .ok (.ireturn, 1) := by decide +kernel
set_option maxRecDepth 20000 in
theorem ggX5_skips_X5_isHead : GoodIn wsX5_skips wsX5_isHead := goodIn_r _ [7, 1, 2, 8, 9, 10, 11, 12, 13, 14, 15, 16, 17, 18, 19, 20, 21, 22, 23, 24, 25, 26, 27, 28] (by decide +kernel) (by decide +kernel)
set_option maxRecDepth 20000 in
theorem gX5_skips_X5_isHead : GoodIn wsX5_skips (wsV RX5 156 RX5 yX5_isHead wsX5_isHead) := goodIn_app (goodIn_of _ (by decide +kernel)) ggX5_skips_X5_isHead
theorem dX5_skips_0 : decode cX5_skips 0 = .ok (.iconst 0, 1) := by decide +kernel
theorem dX5_skips_1 : decode cX5_skips 1 = .ok (.istore_n 2, 1) := by decide +kernel
theorem dX5_skips_2 : decode cX5_skips 2 = .ok (.iconst 0, 1) := by decide +kernel
theorem dX5_skips_3 : decode cX5_skips 3 = .ok (.istore_n 3, 1) := by decide +kernel
theorem dX5_skips_4 : decode cX5_skips 4 = .ok (.iload_n 3, 1) := by decide +kernel
theorem dX5_skips_5 : decode cX5_skips 5 = .ok (.iload_n 1, 1) := by decide +kernel
theorem dX5_skips_6 : decode cX5_skips 6 = .ok (.if_icmp .ge 37, 3) := by decide +kernel
theorem dX5_skips_9 : decode cX5_skips 9 = .ok (.aload_n 0, 1) := by decide +kernel
theorem dX5_skips_10 : decode cX5_skips 10 = .ok (.iload_n 3, 1) := by decide +kernel
theorem dX5_skips_11 : decode cX5_skips 11 = .ok (.invokevirtual 156, 3) := by decide +kernel
theorem dX5_skips_14 : decode cX5_skips 14 = .ok (.ifCond .eq 21, 3) := by decide +kernel
theorem dX5_skips_17 : decode cX5_skips 17 = .ok (.aload_n 0, 1) := by decide +kernel
theorem dX5_skips_18 : decode cX5_skips 18 = .ok (.getfield 25, 3) := by decide +kernel
theorem dX5_skips_21 : decode cX5_skips 21 = .ok (.aload_n 0, 1) := by decide +kernel
theorem dX5_skips_22 : decode cX5_skips 22 = .ok (.getfield 47, 3) := by decide +kernel
theorem dX5_skips_25 : decode cX5_skips 25 = .ok (.iload_n 3, 1) := by decide +kernel
theorem dX5_skips_26 : decode cX5_skips 26 = .ok (.iaload, 1) := by decide +kernel
theorem dX5_skips_27 : decode cX5_skips 27 = .ok (.iaload, 1) := by decide +kernel
theorem dX5_skips_28 : decode cX5_skips 28 = .ok (.iconst 4, 1) := by decide +kernel
theorem dX5_skips_29 : decode cX5_skips 29 = .ok (.isub, 1) := by decide +kernel
theorem dX5_skips_30 : decode cX5_skips 30 = .ok (.iconst 1, 1) := by decide +kernel
theorem dX5_skips_31 : decode cX5_skips 31 = .ok (.iadd, 1) := by decide +kernel
theorem dX5_skips_32 : decode cX5_skips 32 = .ok (.goto 4, 3) := by decide +kernel
theorem dX5_skips_35 : decode cX5_skips 35 = .ok (.iload_n 2, 1) := by decide +kernel
theorem dX5_skips_36 : decode cX5_skips 36 = .ok (.istore_n 2, 1) := by decide +kernel
theorem dX5_skips_37 : decode cX5_skips 37 = .ok (.iinc 3 1, 3) := by decide +kernel
theorem dX5_skips_40 : decode cX5_skips 40 = .ok (.goto (-36), 3) := by decide +kernel
theorem dX5_skips_43 : decode cX5_skips 43 = .ok (.aload_n 0, 1) := by decide +kernel
theorem dX5_skips_44 : decode cX5_skips 44 = .ok (.iload_n 1, 1) := by decide +kernel
theorem dX5_skips_45 : decode cX5_skips 45 = .ok (.invokevirtual 156, 3) := by decide +kernel
theorem dX5_skips_48 : decode cX5_skips 48 = .ok (.ifCond .eq 28, 3) := by decide +kernel
theorem dX5_skips_51 : decode cX5_skips 51 = .ok (.aload_n 0, 1) := by decide +kernel
theorem dX5_skips_52 : decode cX5_skips 52 = .ok (.getfield 25, 3) := by decide +kernel
theorem dX5_skips_55 : decode cX5_skips 55 = .ok (.aload_n 0, 1) := by decide +kernel
theorem dX5_skips_56 : decode cX5_skips 56 = .ok (.getfield 47, 3) := by decide +kernel
theorem dX5_skips_59 : decode cX5_skips 59 = .ok (.iload_n 1, 1) := by decide +kernel
theorem dX5_skips_60 : decode cX5_skips 60 = .ok (.iaload, 1) := by decide +kernel
theorem dX5_skips_61 : decode cX5_skips 61 = .ok (.iaload, 1) := by decide +kernel
theorem dX5_skips_62 : decode cX5_skips 62 = .ok (.iconst 4, 1) := by decide +kernel
theorem dX5_skips_63 : decode cX5_skips 63 = .ok (.isub, 1) := by decide +kernel
theorem dX5_skips_64 : decode cX5_skips 64 = .ok (.iconst 1, 1) := by decide +kernel
theorem dX5_skips_65 : decode cX5_skips 65 = .ok (.iadd, 1) := by decide +kernel
theorem dX5_skips_66 : decode cX5_skips 66 = .ok (.iload_n 2, 1) := by decide +kernel
theorem dX5_skips_67 : decode cX5_skips 67 = .ok (.iconst 1, 1) := by decide +kernel
theorem dX5_skips_68 : decode cX5_skips 68 = .ok (.iadd, 1) := by decide +kernel
theorem dX5_skips_69 : decode cX5_skips 69 = .ok (.if_icmp .le 7, 3) := by decide +kernel
theorem dX5_skips_72 : decode cX5_skips 72 = .ok (.iconst 1, 1) := by decide +kernel
theorem dX5_skips_73 : decode cX5_skips 73 = .ok (.goto 4, 3) := by decide +kernel
theorem dX5_skips_76 : decode cX5_skips 76 = .ok (.iconst 0, 1) := by decide +kernel
theorem dX5_skips_77 : decode cX5_skips 77 = .ok (.ireturn, 1) := by decide +kernel
set_option maxRecDepth 20000 in
theorem ggX5_isKind_X5_in : GoodIn wsX5_isKind wsX5_in := goodIn_r _ [7] (by decide +kernel) (by decide +kernel)
set_option maxRecDepth 20000 in
theorem gX5_isKind_X5_in : GoodIn wsX5_isKind (va_wsS RX5 60 yX5_in wsX5_in) := goodIn_app (goodIn_of _ (by decide +kernel)) ggX5_isKind_X5_in
theorem dX5_isKind_0 : decode cX5_isKind 0 = .ok (.iload_n 1, 1) := by decide +kernel
theorem dX5_isKind_1 : decode cX5_isKind 1 = .ok (.iconst 0, 1) := by decide +kernel
theorem dX5_isKind_2 : decode cX5_isKind 2 = .ok (.aload_n 0, 1) := by decide +kernel
theorem dX5_isKind_3 : decode cX5_isKind 3 = .ok (.getfield 82, 3) := by decide +kernel
theorem dX5_isKind_6 : decode cX5_isKind 6 = .ok (.iconst 1, 1) := by decide +kernel
theorem dX5_isKind_7 : decode cX5_isKind 7 = .ok (.isub, 1) := by decide +kernel
theorem dX5_isKind_8 : decode cX5_isKind 8 = .ok (.invokestatic 60, 3) := by decide +kernel
theorem dX5_isKind_11 : decode cX5_isKind 11 = .ok (.ifCond .eq 22, 3) := by decide +kernel
theorem dX5_isKind_14 : decode cX5_isKind 14 = .ok (.aload_n 0, 1) := by decide +kernel
theorem dX5_isKind_15 : decode cX5_isKind 15 = .ok (.getfield 25, 3) := by decide +kernel
theorem dX5_isKind_18 : decode cX5_isKind 18 = .ok (.aload_n 0, 1) := by decide +kernel
theorem dX5_isKind_19 : decode cX5_isKind 19 = .ok (.getfield 47, 3) := by decide +kernel
theorem dX5_isKind_22 : decode cX5_isKind 22 = .ok (.iload_n 1, 1) := by decide +kernel
theorem dX5_isKind_23 : decode cX5_isKind 23 = .ok (.iaload, 1) := by decide +kernel
theorem dX5_isKind_24 : decode cX5_isKind 24 = .ok (.iaload, 1) := by decide +kernel
theorem dX5_isKind_25 : decode cX5_isKind 25 = .ok (.iload_n 2, 1) := by decide +kernel
theorem dX5_isKind_26 : decode cX5_isKind 26 = .ok (.if_icmp .ne 7, 3) := by decide +kernel
theorem dX5_isKind_29 : decode cX5_isKind 29 = .ok (.iconst 1, 1) := by decide +kernel
theorem dX5_isKind_30 : decode cX5_isKind 30 = .ok (.goto 4, 3) := by decide +kernel
theorem dX5_isKind_33 : decode cX5_isKind 33 = .ok (.iconst 0, 1) := by decide +kernel
theorem dX5_isKind_34 : decode cX5_isKind 34 = .ok (.ireturn, 1) := by decide +kernel
theorem dX5_meet_0 : decode cX5_meet 0 = .ok (.aload_n 0, 1) := by decide +kernel
theorem dX5_meet_1 : decode cX5_meet 1 = .ok (.getfield 13, 3) := by decide +kernel
theorem dX5_meet_4 : decode cX5_meet 4 = .ok (.iload_n 1, 1) := by decide +kernel
theorem dX5_meet_5 : decode cX5_meet 5 = .ok (.iaload, 1) := by decide +kernel
theorem dX5_meet_6 : decode cX5_meet 6 = .ok (.aload_n 0, 1) := by decide +kernel
theorem dX5_meet_7 : decode cX5_meet 7 = .ok (.getfield 13, 3) := by decide +kernel
theorem dX5_meet_10 : decode cX5_meet 10 = .ok (.iload_n 2, 1) := by decide +kernel
theorem dX5_meet_11 : decode cX5_meet 11 = .ok (.iaload, 1) := by decide +kernel
theorem dX5_meet_12 : decode cX5_meet 12 = .ok (.aload_n 0, 1) := by decide +kernel
theorem dX5_meet_13 : decode cX5_meet 13 = .ok (.getfield 19, 3) := by decide +kernel
theorem dX5_meet_16 : decode cX5_meet 16 = .ok (.iload_n 2, 1) := by decide +kernel
theorem dX5_meet_17 : decode cX5_meet 17 = .ok (.iaload, 1) := by decide +kernel
theorem dX5_meet_18 : decode cX5_meet 18 = .ok (.iadd, 1) := by decide +kernel
theorem dX5_meet_19 : decode cX5_meet 19 = .ok (.if_icmp .ge 73, 3) := by decide +kernel
theorem dX5_meet_22 : decode cX5_meet 22 = .ok (.aload_n 0, 1) := by decide +kernel
theorem dX5_meet_23 : decode cX5_meet 23 = .ok (.getfield 13, 3) := by decide +kernel
theorem dX5_meet_26 : decode cX5_meet 26 = .ok (.iload_n 2, 1) := by decide +kernel
theorem dX5_meet_27 : decode cX5_meet 27 = .ok (.iaload, 1) := by decide +kernel
theorem dX5_meet_28 : decode cX5_meet 28 = .ok (.aload_n 0, 1) := by decide +kernel
theorem dX5_meet_29 : decode cX5_meet 29 = .ok (.getfield 13, 3) := by decide +kernel
theorem dX5_meet_32 : decode cX5_meet 32 = .ok (.iload_n 1, 1) := by decide +kernel
theorem dX5_meet_33 : decode cX5_meet 33 = .ok (.iaload, 1) := by decide +kernel
theorem dX5_meet_34 : decode cX5_meet 34 = .ok (.aload_n 0, 1) := by decide +kernel
theorem dX5_meet_35 : decode cX5_meet 35 = .ok (.getfield 19, 3) := by decide +kernel
theorem dX5_meet_38 : decode cX5_meet 38 = .ok (.iload_n 1, 1) := by decide +kernel
theorem dX5_meet_39 : decode cX5_meet 39 = .ok (.iaload, 1) := by decide +kernel
theorem dX5_meet_40 : decode cX5_meet 40 = .ok (.iadd, 1) := by decide +kernel
theorem dX5_meet_41 : decode cX5_meet 41 = .ok (.if_icmp .ge 51, 3) := by decide +kernel
theorem dX5_meet_44 : decode cX5_meet 44 = .ok (.aload_n 0, 1) := by decide +kernel
theorem dX5_meet_45 : decode cX5_meet 45 = .ok (.getfield 16, 3) := by decide +kernel
theorem dX5_meet_48 : decode cX5_meet 48 = .ok (.iload_n 1, 1) := by decide +kernel
theorem dX5_meet_49 : decode cX5_meet 49 = .ok (.iaload, 1) := by decide +kernel
theorem dX5_meet_50 : decode cX5_meet 50 = .ok (.aload_n 0, 1) := by decide +kernel
theorem dX5_meet_51 : decode cX5_meet 51 = .ok (.getfield 16, 3) := by decide +kernel
theorem dX5_meet_54 : decode cX5_meet 54 = .ok (.iload_n 2, 1) := by decide +kernel
theorem dX5_meet_55 : decode cX5_meet 55 = .ok (.iaload, 1) := by decide +kernel
theorem dX5_meet_56 : decode cX5_meet 56 = .ok (.aload_n 0, 1) := by decide +kernel
theorem dX5_meet_57 : decode cX5_meet 57 = .ok (.getfield 22, 3) := by decide +kernel
theorem dX5_meet_60 : decode cX5_meet 60 = .ok (.iload_n 2, 1) := by decide +kernel
theorem dX5_meet_61 : decode cX5_meet 61 = .ok (.iaload, 1) := by decide +kernel
theorem dX5_meet_62 : decode cX5_meet 62 = .ok (.iadd, 1) := by decide +kernel
theorem dX5_meet_63 : decode cX5_meet 63 = .ok (.if_icmp .ge 29, 3) := by decide +kernel
theorem dX5_meet_66 : decode cX5_meet 66 = .ok (.aload_n 0, 1) := by decide +kernel
theorem dX5_meet_67 : decode cX5_meet 67 = .ok (.getfield 16, 3) := by decide +kernel
theorem dX5_meet_70 : decode cX5_meet 70 = .ok (.iload_n 2, 1) := by decide +kernel
theorem dX5_meet_71 : decode cX5_meet 71 = .ok (.iaload, 1) := by decide +kernel
theorem dX5_meet_72 : decode cX5_meet 72 = .ok (.aload_n 0, 1) := by decide +kernel
theorem dX5_meet_73 : decode cX5_meet 73 = .ok (.getfield 16, 3) := by decide +kernel
theorem dX5_meet_76 : decode cX5_meet 76 = .ok (.iload_n 1, 1) := by decide +kernel
theorem dX5_meet_77 : decode cX5_meet 77 = .ok (.iaload, 1) := by decide +kernel
theorem dX5_meet_78 : decode cX5_meet 78 = .ok (.aload_n 0, 1) := by decide +kernel
theorem dX5_meet_79 : decode cX5_meet 79 = .ok (.getfield 22, 3) := by decide +kernel
theorem dX5_meet_82 : decode cX5_meet 82 = .ok (.iload_n 1, 1) := by decide +kernel
theorem dX5_meet_83 : decode cX5_meet 83 = .ok (.iaload, 1) := by decide +kernel
theorem dX5_meet_84 : decode cX5_meet 84 = .ok (.iadd, 1) := by decide +kernel
theorem dX5_meet_85 : decode cX5_meet 85 = .ok (.if_icmp .ge 7, 3) := by decide +kernel
theorem dX5_meet_88 : decode cX5_meet 88 = .ok (.iconst 1, 1) := by decide +kernel
theorem dX5_meet_89 : decode cX5_meet 89 = .ok (.goto 4, 3) := by decide +kernel
theorem dX5_meet_92 : decode cX5_meet 92 = .ok (.iconst 0, 1) := by decide +kernel
theorem dX5_meet_93 : decode cX5_meet 93 = .ok (.ireturn, 1) := by decide +kernel
set_option maxRecDepth 20000 in
theorem ggX5_meetsAny_X5_meet : GoodIn wsX5_meetsAny wsX5_meet := goodIn_r _ [7, 8, 9, 10, 11, 12, 13, 14, 15, 16, 17, 18, 19, 20, 21, 22, 23, 24, 25, 26, 27, 28, 29, 30, 31, 32] (by decide +kernel) (by decide +kernel)
set_option maxRecDepth 20000 in
theorem gX5_meetsAny_X5_meet : GoodIn wsX5_meetsAny (wsV RX5 159 RX5 yX5_meet wsX5_meet) := goodIn_app (goodIn_of _ (by decide +kernel)) ggX5_meetsAny_X5_meet
theorem dX5_meetsAny_0 : decode cX5_meetsAny 0 = .ok (.iconst 0, 1) := by decide +kernel
theorem dX5_meetsAny_1 : decode cX5_meetsAny 1 = .ok (.istore_n 2, 1) := by decide +kernel
theorem dX5_meetsAny_2 : decode cX5_meetsAny 2 = .ok (.iconst 0, 1) := by decide +kernel
theorem dX5_meetsAny_3 : decode cX5_meetsAny 3 = .ok (.istore_n 3, 1) := by decide +kernel
theorem dX5_meetsAny_4 : decode cX5_meetsAny 4 = .ok (.iload_n 3, 1) := by decide +kernel
theorem dX5_meetsAny_5 : decode cX5_meetsAny 5 = .ok (.aload_n 0, 1) := by decide +kernel
theorem dX5_meetsAny_6 : decode cX5_meetsAny 6 = .ok (.getfield 82, 3) := by decide +kernel
theorem dX5_meetsAny_9 : decode cX5_meetsAny 9 = .ok (.if_icmp .ge 43, 3) := by decide +kernel
theorem dX5_meetsAny_12 : decode cX5_meetsAny 12 = .ok (.iload_n 2, 1) := by decide +kernel
theorem dX5_meetsAny_13 : decode cX5_meetsAny 13 = .ok (.ifCond .ne 27, 3) := by decide +kernel
theorem dX5_meetsAny_16 : decode cX5_meetsAny 16 = .ok (.iload_n 3, 1) := by decide +kernel
theorem dX5_meetsAny_17 : decode cX5_meetsAny 17 = .ok (.iload_n 1, 1) := by decide +kernel
theorem dX5_meetsAny_18 : decode cX5_meetsAny 18 = .ok (.if_icmp .eq 26, 3) := by decide +kernel
theorem dX5_meetsAny_21 : decode cX5_meetsAny 21 = .ok (.aload_n 0, 1) := by decide +kernel
theorem dX5_meetsAny_22 : decode cX5_meetsAny 22 = .ok (.aload_n 0, 1) := by decide +kernel
theorem dX5_meetsAny_23 : decode cX5_meetsAny 23 = .ok (.getfield 47, 3) := by decide +kernel
theorem dX5_meetsAny_26 : decode cX5_meetsAny 26 = .ok (.iload_n 3, 1) := by decide +kernel
theorem dX5_meetsAny_27 : decode cX5_meetsAny 27 = .ok (.iaload, 1) := by decide +kernel
theorem dX5_meetsAny_28 : decode cX5_meetsAny 28 = .ok (.aload_n 0, 1) := by decide +kernel
theorem dX5_meetsAny_29 : decode cX5_meetsAny 29 = .ok (.getfield 47, 3) := by decide +kernel
theorem dX5_meetsAny_32 : decode cX5_meetsAny 32 = .ok (.iload_n 1, 1) := by decide +kernel
theorem dX5_meetsAny_33 : decode cX5_meetsAny 33 = .ok (.iaload, 1) := by decide +kernel
theorem dX5_meetsAny_34 : decode cX5_meetsAny 34 = .ok (.invokevirtual 159, 3) := by decide +kernel
theorem dX5_meetsAny_37 : decode cX5_meetsAny 37 = .ok (.ifCond .eq 7, 3) := by decide +kernel
theorem dX5_meetsAny_40 : decode cX5_meetsAny 40 = .ok (.iconst 1, 1) := by decide +kernel
theorem dX5_meetsAny_41 : decode cX5_meetsAny 41 = .ok (.goto 4, 3) := by decide +kernel
theorem dX5_meetsAny_44 : decode cX5_meetsAny 44 = .ok (.iconst 0, 1) := by decide +kernel
theorem dX5_meetsAny_45 : decode cX5_meetsAny 45 = .ok (.istore_n 2, 1) := by decide +kernel
theorem dX5_meetsAny_46 : decode cX5_meetsAny 46 = .ok (.iinc 3 1, 3) := by decide +kernel
theorem dX5_meetsAny_49 : decode cX5_meetsAny 49 = .ok (.goto (-45), 3) := by decide +kernel
theorem dX5_meetsAny_52 : decode cX5_meetsAny 52 = .ok (.iload_n 2, 1) := by decide +kernel
theorem dX5_meetsAny_53 : decode cX5_meetsAny 53 = .ok (.ireturn, 1) := by decide +kernel
set_option maxRecDepth 20000 in
theorem ggX5_faultsAt_X5_skips : GoodIn wsX5_faultsAt wsX5_skips := goodIn_r _ [8, 9, 1, 10, 11, 12, 7, 13, 32, 33, 34, 35, 36, 37, 38, 39, 40, 41, 42, 43, 44, 45, 46, 47, 48, 49, 50, 51, 52] (by decide +kernel) (by decide +kernel)
set_option maxRecDepth 20000 in
theorem gX5_faultsAt_X5_skips : GoodIn wsX5_faultsAt (wsV RX5 162 RX5 yX5_skips wsX5_skips) := goodIn_app (goodIn_of _ (by decide +kernel)) ggX5_faultsAt_X5_skips
set_option maxRecDepth 20000 in
theorem ggX5_faultsAt_X5_isKind : GoodIn wsX5_faultsAt wsX5_isKind := goodIn_r _ [17, 18, 9, 1, 19, 20, 7, 21, 32, 33, 34, 35, 36, 37, 38, 39, 40, 41, 42, 43, 44, 45, 46, 47, 48, 49, 50, 51, 52] (by decide +kernel) (by decide +kernel)
set_option maxRecDepth 20000 in
theorem gX5_faultsAt_X5_isKind : GoodIn wsX5_faultsAt (wsV RX5 165 RX5 yX5_isKind wsX5_isKind) := goodIn_app (goodIn_of _ (by decide +kernel)) ggX5_faultsAt_X5_isKind
set_option maxRecDepth 20000 in
theorem ggX5_faultsAt_X5_meetsAny : GoodIn wsX5_faultsAt wsX5_meetsAny := goodIn_r _ [25, 18, 1, 26, 27, 28, 7, 29, 30, 31, 2, 3, 32, 33, 34, 35, 36, 37, 38, 39, 40, 41, 42, 43, 44, 45, 46, 47, 48, 49, 50, 51, 52] (by decide +kernel) (by decide +kernel)
set_option maxRecDepth 20000 in
theorem gX5_faultsAt_X5_meetsAny : GoodIn wsX5_faultsAt (wsV RX5 168 RX5 yX5_meetsAny wsX5_meetsAny) := goodIn_app (goodIn_of _ (by decide +kernel)) ggX5_faultsAt_X5_meetsAny
theorem dX5_faultsAt_0 : decode cX5_faultsAt 0 = .ok (.aload_n 0, 1) := by decide +kernel
theorem dX5_faultsAt_1 : decode cX5_faultsAt 1 = .ok (.iload_n 1, 1) := by decide +kernel
theorem dX5_faultsAt_2 : decode cX5_faultsAt 2 = .ok (.invokevirtual 162, 3) := by decide +kernel
theorem dX5_faultsAt_5 : decode cX5_faultsAt 5 = .ok (.ifCond .eq 7, 3) := by decide +kernel
theorem dX5_faultsAt_8 : decode cX5_faultsAt 8 = .ok (.iconst 1, 1) := by decide +kernel
theorem dX5_faultsAt_9 : decode cX5_faultsAt 9 = .ok (.goto 4, 3) := by decide +kernel
theorem dX5_faultsAt_12 : decode cX5_faultsAt 12 = .ok (.iconst 0, 1) := by decide +kernel
theorem dX5_faultsAt_13 : decode cX5_faultsAt 13 = .ok (.istore_n 2, 1) := by decide +kernel
theorem dX5_faultsAt_14 : decode cX5_faultsAt 14 = .ok (.iload_n 2, 1) := by decide +kernel
theorem dX5_faultsAt_15 : decode cX5_faultsAt 15 = .ok (.aload_n 0, 1) := by decide +kernel
theorem dX5_faultsAt_16 : decode cX5_faultsAt 16 = .ok (.iload_n 1, 1) := by decide +kernel
theorem dX5_faultsAt_17 : decode cX5_faultsAt 17 = .ok (.iconst 1, 1) := by decide +kernel
theorem dX5_faultsAt_18 : decode cX5_faultsAt 18 = .ok (.invokevirtual 165, 3) := by decide +kernel
theorem dX5_faultsAt_21 : decode cX5_faultsAt 21 = .ok (.ifCond .eq 29, 3) := by decide +kernel
theorem dX5_faultsAt_24 : decode cX5_faultsAt 24 = .ok (.aload_n 0, 1) := by decide +kernel
theorem dX5_faultsAt_25 : decode cX5_faultsAt 25 = .ok (.iload_n 1, 1) := by decide +kernel
theorem dX5_faultsAt_26 : decode cX5_faultsAt 26 = .ok (.iconst 1, 1) := by decide +kernel
theorem dX5_faultsAt_27 : decode cX5_faultsAt 27 = .ok (.isub, 1) := by decide +kernel
theorem dX5_faultsAt_28 : decode cX5_faultsAt 28 = .ok (.iconst 1, 1) := by decide +kernel
theorem dX5_faultsAt_29 : decode cX5_faultsAt 29 = .ok (.invokevirtual 165, 3) := by decide +kernel
theorem dX5_faultsAt_32 : decode cX5_faultsAt 32 = .ok (.ifCond .ne 18, 3) := by decide +kernel
theorem dX5_faultsAt_35 : decode cX5_faultsAt 35 = .ok (.aload_n 0, 1) := by decide +kernel
theorem dX5_faultsAt_36 : decode cX5_faultsAt 36 = .ok (.iload_n 1, 1) := by decide +kernel
theorem dX5_faultsAt_37 : decode cX5_faultsAt 37 = .ok (.iconst 1, 1) := by decide +kernel
theorem dX5_faultsAt_38 : decode cX5_faultsAt 38 = .ok (.iadd, 1) := by decide +kernel
theorem dX5_faultsAt_39 : decode cX5_faultsAt 39 = .ok (.iconst 1, 1) := by decide +kernel
theorem dX5_faultsAt_40 : decode cX5_faultsAt 40 = .ok (.invokevirtual 165, 3) := by decide +kernel
theorem dX5_faultsAt_43 : decode cX5_faultsAt 43 = .ok (.ifCond .ne 7, 3) := by decide +kernel
theorem dX5_faultsAt_46 : decode cX5_faultsAt 46 = .ok (.iconst 2, 1) := by decide +kernel
theorem dX5_faultsAt_47 : decode cX5_faultsAt 47 = .ok (.goto 4, 3) := by decide +kernel
theorem dX5_faultsAt_50 : decode cX5_faultsAt 50 = .ok (.iconst 0, 1) := by decide +kernel
theorem dX5_faultsAt_51 : decode cX5_faultsAt 51 = .ok (.ior, 1) := by decide +kernel
theorem dX5_faultsAt_52 : decode cX5_faultsAt 52 = .ok (.istore_n 2, 1) := by decide +kernel
theorem dX5_faultsAt_53 : decode cX5_faultsAt 53 = .ok (.iload_n 2, 1) := by decide +kernel
theorem dX5_faultsAt_54 : decode cX5_faultsAt 54 = .ok (.aload_n 0, 1) := by decide +kernel
theorem dX5_faultsAt_55 : decode cX5_faultsAt 55 = .ok (.iload_n 1, 1) := by decide +kernel
theorem dX5_faultsAt_56 : decode cX5_faultsAt 56 = .ok (.iconst 3, 1) := by decide +kernel
theorem dX5_faultsAt_57 : decode cX5_faultsAt 57 = .ok (.invokevirtual 165, 3) := by decide +kernel
theorem dX5_faultsAt_60 : decode cX5_faultsAt 60 = .ok (.ifCond .eq 18, 3) := by decide +kernel
theorem dX5_faultsAt_63 : decode cX5_faultsAt 63 = .ok (.aload_n 0, 1) := by decide +kernel
theorem dX5_faultsAt_64 : decode cX5_faultsAt 64 = .ok (.iload_n 1, 1) := by decide +kernel
theorem dX5_faultsAt_65 : decode cX5_faultsAt 65 = .ok (.iconst 1, 1) := by decide +kernel
theorem dX5_faultsAt_66 : decode cX5_faultsAt 66 = .ok (.isub, 1) := by decide +kernel
theorem dX5_faultsAt_67 : decode cX5_faultsAt 67 = .ok (.iconst 2, 1) := by decide +kernel
theorem dX5_faultsAt_68 : decode cX5_faultsAt 68 = .ok (.invokevirtual 165, 3) := by decide +kernel
theorem dX5_faultsAt_71 : decode cX5_faultsAt 71 = .ok (.ifCond .ne 7, 3) := by decide +kernel
theorem dX5_faultsAt_74 : decode cX5_faultsAt 74 = .ok (.iconst 4, 1) := by decide +kernel
theorem dX5_faultsAt_75 : decode cX5_faultsAt 75 = .ok (.goto 4, 3) := by decide +kernel
theorem dX5_faultsAt_78 : decode cX5_faultsAt 78 = .ok (.iconst 0, 1) := by decide +kernel
theorem dX5_faultsAt_79 : decode cX5_faultsAt 79 = .ok (.ior, 1) := by decide +kernel
theorem dX5_faultsAt_80 : decode cX5_faultsAt 80 = .ok (.istore_n 2, 1) := by decide +kernel
theorem dX5_faultsAt_81 : decode cX5_faultsAt 81 = .ok (.iload_n 2, 1) := by decide +kernel
theorem dX5_faultsAt_82 : decode cX5_faultsAt 82 = .ok (.aload_n 0, 1) := by decide +kernel
theorem dX5_faultsAt_83 : decode cX5_faultsAt 83 = .ok (.iload_n 1, 1) := by decide +kernel
theorem dX5_faultsAt_84 : decode cX5_faultsAt 84 = .ok (.invokevirtual 168, 3) := by decide +kernel
theorem dX5_faultsAt_87 : decode cX5_faultsAt 87 = .ok (.ifCond .eq 8, 3) := by decide +kernel
theorem dX5_faultsAt_90 : decode cX5_faultsAt 90 = .ok (.bipush 8, 2) := by decide +kernel
theorem dX5_faultsAt_92 : decode cX5_faultsAt 92 = .ok (.goto 4, 3) := by decide +kernel
theorem dX5_faultsAt_95 : decode cX5_faultsAt 95 = .ok (.iconst 0, 1) := by decide +kernel
theorem dX5_faultsAt_96 : decode cX5_faultsAt 96 = .ok (.ior, 1) := by decide +kernel
theorem dX5_faultsAt_97 : decode cX5_faultsAt 97 = .ok (.istore_n 2, 1) := by decide +kernel
theorem dX5_faultsAt_98 : decode cX5_faultsAt 98 = .ok (.aload_n 0, 1) := by decide +kernel
theorem dX5_faultsAt_99 : decode cX5_faultsAt 99 = .ok (.getfield 47, 3) := by decide +kernel
theorem dX5_faultsAt_102 : decode cX5_faultsAt 102 = .ok (.iload_n 1, 1) := by decide +kernel
theorem dX5_faultsAt_103 : decode cX5_faultsAt 103 = .ok (.iaload, 1) := by decide +kernel
theorem dX5_faultsAt_104 : decode cX5_faultsAt 104 = .ok (.istore_n 3, 1) := by decide +kernel
theorem dX5_faultsAt_105 : decode cX5_faultsAt 105 = .ok (.iload_n 1, 1) := by decide +kernel
theorem dX5_faultsAt_106 : decode cX5_faultsAt 106 = .ok (.ifCond .ne 7, 3) := by decide +kernel
theorem dX5_faultsAt_109 : decode cX5_faultsAt 109 = .ok (.iload_n 3, 1) := by decide +kernel
theorem dX5_faultsAt_110 : decode cX5_faultsAt 110 = .ok (.goto 11, 3) := by decide +kernel
theorem dX5_faultsAt_113 : decode cX5_faultsAt 113 = .ok (.aload_n 0, 1) := by decide +kernel
theorem dX5_faultsAt_114 : decode cX5_faultsAt 114 = .ok (.getfield 47, 3) := by decide +kernel
theorem dX5_faultsAt_117 : decode cX5_faultsAt 117 = .ok (.iload_n 1, 1) := by decide +kernel
theorem dX5_faultsAt_118 : decode cX5_faultsAt 118 = .ok (.iconst 1, 1) := by decide +kernel
theorem dX5_faultsAt_119 : decode cX5_faultsAt 119 = .ok (.isub, 1) := by decide +kernel
theorem dX5_faultsAt_120 : decode cX5_faultsAt 120 = .ok (.iaload, 1) := by decide +kernel
theorem dX5_faultsAt_121 : decode cX5_faultsAt 121 = .ok (.istore 4, 2) := by decide +kernel
theorem dX5_faultsAt_123 : decode cX5_faultsAt 123 = .ok (.iload_n 2, 1) := by decide +kernel
theorem dX5_faultsAt_124 : decode cX5_faultsAt 124 = .ok (.iload_n 1, 1) := by decide +kernel
theorem dX5_faultsAt_125 : decode cX5_faultsAt 125 = .ok (.ifCond .le 35, 3) := by decide +kernel
theorem dX5_faultsAt_128 : decode cX5_faultsAt 128 = .ok (.aload_n 0, 1) := by decide +kernel
theorem dX5_faultsAt_129 : decode cX5_faultsAt 129 = .ok (.getfield 16, 3) := by decide +kernel
theorem dX5_faultsAt_132 : decode cX5_faultsAt 132 = .ok (.iload_n 3, 1) := by decide +kernel
theorem dX5_faultsAt_133 : decode cX5_faultsAt 133 = .ok (.iaload, 1) := by decide +kernel
theorem dX5_faultsAt_134 : decode cX5_faultsAt 134 = .ok (.aload_n 0, 1) := by decide +kernel
theorem dX5_faultsAt_135 : decode cX5_faultsAt 135 = .ok (.getfield 16, 3) := by decide +kernel
theorem dX5_faultsAt_138 : decode cX5_faultsAt 138 = .ok (.iload 4, 2) := by decide +kernel
theorem dX5_faultsAt_140 : decode cX5_faultsAt 140 = .ok (.iaload, 1) := by decide +kernel
theorem dX5_faultsAt_141 : decode cX5_faultsAt 141 = .ok (.aload_n 0, 1) := by decide +kernel
theorem dX5_faultsAt_142 : decode cX5_faultsAt 142 = .ok (.getfield 22, 3) := by decide +kernel
theorem dX5_faultsAt_145 : decode cX5_faultsAt 145 = .ok (.iload 4, 2) := by decide +kernel
theorem dX5_faultsAt_147 : decode cX5_faultsAt 147 = .ok (.iaload, 1) := by decide +kernel
theorem dX5_faultsAt_148 : decode cX5_faultsAt 148 = .ok (.iadd, 1) := by decide +kernel
theorem dX5_faultsAt_149 : decode cX5_faultsAt 149 = .ok (.bipush 20, 2) := by decide +kernel
theorem dX5_faultsAt_151 : decode cX5_faultsAt 151 = .ok (.iadd, 1) := by decide +kernel
theorem dX5_faultsAt_152 : decode cX5_faultsAt 152 = .ok (.if_icmp .le 8, 3) := by decide +kernel
theorem dX5_faultsAt_155 : decode cX5_faultsAt 155 = .ok (.bipush 16, 2) := by decide +kernel
theorem dX5_faultsAt_157 : decode cX5_faultsAt 157 = .ok (.goto 4, 3) := by decide +kernel
theorem dX5_faultsAt_160 : decode cX5_faultsAt 160 = .ok (.iconst 0, 1) := by decide +kernel
theorem dX5_faultsAt_161 : decode cX5_faultsAt 161 = .ok (.ior, 1) := by decide +kernel
theorem dX5_faultsAt_162 : decode cX5_faultsAt 162 = .ok (.ireturn, 1) := by decide +kernel
set_option maxRecDepth 20000 in
theorem ggX5_faults_X5_isBox : GoodIn wsX5_faults wsX5_isBox := goodIn_r _ [5, 6, 7, 8, 9, 4, 10, 95, 96, 97, 98, 99, 100, 101, 102, 103, 104, 105, 106, 107, 108, 109, 110, 111, 112, 113, 114, 115] (by decide +kernel) (by decide +kernel)
set_option maxRecDepth 20000 in
theorem gX5_faults_X5_isBox : GoodIn wsX5_faults (wsV RX5 138 RX5 yX5_isBox wsX5_isBox) := goodIn_app (goodIn_of _ (by decide +kernel)) ggX5_faults_X5_isBox
set_option maxRecDepth 20000 in
theorem ggX5_faults_X5_goes : GoodIn wsX5_faults wsX5_goes := goodIn_r _ [14, 15, 95, 96, 97, 98, 99, 100, 101, 102, 103, 104, 105, 106, 107, 108, 109, 110, 111, 112, 113, 114, 115] (by decide +kernel) (by decide +kernel)
set_option maxRecDepth 20000 in
theorem gX5_faults_X5_goes : GoodIn wsX5_faults (wsV RX5 128 RX5 yX5_goes wsX5_goes) := goodIn_app (goodIn_of _ (by decide +kernel)) ggX5_faults_X5_goes
set_option maxRecDepth 20000 in
theorem ggX5_faults_X5_place : GoodIn wsX5_faults wsX5_place := goodIn_r _ [19, 20, 21, 22, 23, 24, 25, 4, 26, 6, 7, 27, 28, 29, 30, 31, 32, 33, 34, 35, 36, 37, 38, 39, 40, 41, 42, 43, 44, 45, 46, 47, 48, 49, 50, 51, 52, 53, 54, 55, 56, 57, 58, 59, 60, 61, 62, 63, 64, 65, 66, 67, 68, 69, 95, 96, 97, 98, 99, 100, 101, 102, 103, 104, 105, 106, 107, 108, 109, 110, 111, 112, 113, 114, 115] (by decide +kernel) (by decide +kernel)
set_option maxRecDepth 20000 in
theorem gX5_faults_X5_place : GoodIn wsX5_faults (wsV RX5 150 RX5 yX5_place wsX5_place) := goodIn_app (goodIn_of _ (by decide +kernel)) ggX5_faults_X5_place
set_option maxRecDepth 20000 in
theorem ggX5_faults_X5_faultsAt : GoodIn wsX5_faults wsX5_faultsAt := goodIn_r _ [73, 22, 49, 50, 74, 75, 76, 4, 77, 78, 79, 80, 81, 82, 83, 84, 85, 86, 21, 8, 9, 10, 87, 88, 89, 90, 91, 92, 93, 94, 51, 52, 95, 96, 97, 98, 99, 100, 101, 102, 103, 104, 105, 106, 107, 108, 109, 110, 111, 112, 113, 114, 115] (by decide +kernel) (by decide +kernel)
set_option maxRecDepth 20000 in
theorem gX5_faults_X5_faultsAt : GoodIn wsX5_faults (wsV RX5 171 RX5 yX5_faultsAt wsX5_faultsAt) := goodIn_app (goodIn_of _ (by decide +kernel)) ggX5_faults_X5_faultsAt
theorem dX5_faults_0 : decode cX5_faults 0 = .ok (.aload_n 0, 1) := by decide +kernel
theorem dX5_faults_1 : decode cX5_faults 1 = .ok (.aload_n 0, 1) := by decide +kernel
theorem dX5_faults_2 : decode cX5_faults 2 = .ok (.iload_n 1, 1) := by decide +kernel
theorem dX5_faults_3 : decode cX5_faults 3 = .ok (.invokevirtual 138, 3) := by decide +kernel
theorem dX5_faults_6 : decode cX5_faults 6 = .ok (.iconst 1, 1) := by decide +kernel
theorem dX5_faults_7 : decode cX5_faults 7 = .ok (.iconst 1, 1) := by decide +kernel
theorem dX5_faults_8 : decode cX5_faults 8 = .ok (.invokevirtual 128, 3) := by decide +kernel
theorem dX5_faults_11 : decode cX5_faults 11 = .ok (.ifCond .eq 15, 3) := by decide +kernel
theorem dX5_faults_14 : decode cX5_faults 14 = .ok (.aload_n 0, 1) := by decide +kernel
theorem dX5_faults_15 : decode cX5_faults 15 = .ok (.aload_n 0, 1) := by decide +kernel
theorem dX5_faults_16 : decode cX5_faults 16 = .ok (.iload_n 1, 1) := by decide +kernel
theorem dX5_faults_17 : decode cX5_faults 17 = .ok (.invokevirtual 150, 3) := by decide +kernel
theorem dX5_faults_20 : decode cX5_faults 20 = .ok (.invokevirtual 171, 3) := by decide +kernel
theorem dX5_faults_23 : decode cX5_faults 23 = .ok (.goto 4, 3) := by decide +kernel
theorem dX5_faults_26 : decode cX5_faults 26 = .ok (.iconst 0, 1) := by decide +kernel
theorem dX5_faults_27 : decode cX5_faults 27 = .ok (.ireturn, 1) := by decide +kernel
set_option maxRecDepth 20000 in
theorem ggX5_faulty_X5_isPage : GoodIn wsX5_faulty wsX5_isPage := goodIn_r _ [5, 6, 7, 4, 8] (by decide +kernel) (by decide +kernel)
set_option maxRecDepth 20000 in
theorem gX5_faulty_X5_isPage : GoodIn wsX5_faulty (va_wsS RX5 121 yX5_isPage wsX5_isPage) := goodIn_app (goodIn_of _ (by decide +kernel)) ggX5_faulty_X5_isPage
set_option maxRecDepth 20000 in
theorem ggX5_faulty_X5_goes : GoodIn wsX5_faulty wsX5_goes := goodIn_r _ [12, 13, 90, 91, 92, 93, 94, 95, 96, 97, 98, 99, 100, 101, 102, 103, 104, 105, 106, 107, 108, 109, 110] (by decide +kernel) (by decide +kernel)
set_option maxRecDepth 20000 in
theorem gX5_faulty_X5_goes : GoodIn wsX5_faulty (wsV RX5 128 RX5 yX5_goes wsX5_goes) := goodIn_app (goodIn_of _ (by decide +kernel)) ggX5_faulty_X5_goes
set_option maxRecDepth 20000 in
theorem ggX5_faulty_X5_finds : GoodIn wsX5_faulty wsX5_finds := goodIn_r _ [17, 18, 19, 20, 21, 1, 22, 23, 24, 25, 26, 4, 27, 28, 29, 30, 31, 32, 33, 34, 35, 36, 37, 38, 39, 40, 41, 42, 43, 44, 45, 46, 47, 48, 49, 50, 51, 52, 53, 54, 55, 56, 57, 58, 59, 60, 61, 62, 63, 64, 90, 91, 92, 93, 94, 95, 96, 97, 98, 99, 100, 101, 102, 103, 104, 105, 106, 107, 108, 109, 110] (by decide +kernel) (by decide +kernel)
set_option maxRecDepth 20000 in
theorem gX5_faulty_X5_finds : GoodIn wsX5_faulty (wsV RX5 104 RX5 yX5_finds wsX5_finds) := goodIn_app (goodIn_of _ (by decide +kernel)) ggX5_faulty_X5_finds
set_option maxRecDepth 20000 in
theorem ggX5_faulty_X5_faultsAt : GoodIn wsX5_faulty wsX5_faultsAt := goodIn_r _ [68, 63, 43, 44, 69, 70, 71, 4, 72, 73, 74, 75, 76, 77, 78, 79, 80, 81, 1, 6, 7, 8, 82, 83, 84, 85, 86, 87, 88, 89, 45, 46, 90, 91, 92, 93, 94, 95, 96, 97, 98, 99, 100, 101, 102, 103, 104, 105, 106, 107, 108, 109, 110] (by decide +kernel) (by decide +kernel)
set_option maxRecDepth 20000 in
theorem gX5_faulty_X5_faultsAt : GoodIn wsX5_faulty (wsV RX5 171 RX5 yX5_faultsAt wsX5_faultsAt) := goodIn_app (goodIn_of _ (by decide +kernel)) ggX5_faulty_X5_faultsAt
theorem dX5_faulty_0 : decode cX5_faulty 0 = .ok (.aload_n 0, 1) := by decide +kernel
theorem dX5_faulty_1 : decode cX5_faulty 1 = .ok (.iload_n 1, 1) := by decide +kernel
theorem dX5_faulty_2 : decode cX5_faulty 2 = .ok (.invokestatic 121, 3) := by decide +kernel
theorem dX5_faulty_5 : decode cX5_faulty 5 = .ok (.iconst 1, 1) := by decide +kernel
theorem dX5_faulty_6 : decode cX5_faulty 6 = .ok (.iconst 1, 1) := by decide +kernel
theorem dX5_faulty_7 : decode cX5_faulty 7 = .ok (.invokevirtual 128, 3) := by decide +kernel
theorem dX5_faulty_10 : decode cX5_faulty 10 = .ok (.ifCond .ne 5, 3) := by decide +kernel
theorem dX5_faulty_13 : decode cX5_faulty 13 = .ok (.iconst 0, 1) := by decide +kernel
theorem dX5_faulty_14 : decode cX5_faulty 14 = .ok (.ireturn, 1) := by decide +kernel
theorem dX5_faulty_15 : decode cX5_faulty 15 = .ok (.aload_n 0, 1) := by decide +kernel
theorem dX5_faulty_16 : decode cX5_faulty 16 = .ok (.iload_n 1, 1) := by decide +kernel
theorem dX5_faulty_17 : decode cX5_faulty 17 = .ok (.invokevirtual 104, 3) := by decide +kernel
theorem dX5_faulty_20 : decode cX5_faulty 20 = .ok (.iconst 0, 1) := by decide +kernel
theorem dX5_faulty_21 : decode cX5_faulty 21 = .ok (.istore_n 2, 1) := by decide +kernel
theorem dX5_faulty_22 : decode cX5_faulty 22 = .ok (.iconst 0, 1) := by decide +kernel
theorem dX5_faulty_23 : decode cX5_faulty 23 = .ok (.istore_n 3, 1) := by decide +kernel
theorem dX5_faulty_24 : decode cX5_faulty 24 = .ok (.iload_n 3, 1) := by decide +kernel
theorem dX5_faulty_25 : decode cX5_faulty 25 = .ok (.aload_n 0, 1) := by decide +kernel
theorem dX5_faulty_26 : decode cX5_faulty 26 = .ok (.getfield 82, 3) := by decide +kernel
theorem dX5_faulty_29 : decode cX5_faulty 29 = .ok (.if_icmp .ge 25, 3) := by decide +kernel
theorem dX5_faulty_32 : decode cX5_faulty 32 = .ok (.iload_n 2, 1) := by decide +kernel
theorem dX5_faulty_33 : decode cX5_faulty 33 = .ok (.aload_n 0, 1) := by decide +kernel
theorem dX5_faulty_34 : decode cX5_faulty 34 = .ok (.iload_n 3, 1) := by decide +kernel
theorem dX5_faulty_35 : decode cX5_faulty 35 = .ok (.invokevirtual 171, 3) := by decide +kernel
theorem dX5_faulty_38 : decode cX5_faulty 38 = .ok (.ifCond .le 7, 3) := by decide +kernel
theorem dX5_faulty_41 : decode cX5_faulty 41 = .ok (.iconst 1, 1) := by decide +kernel
theorem dX5_faulty_42 : decode cX5_faulty 42 = .ok (.goto 4, 3) := by decide +kernel
theorem dX5_faulty_45 : decode cX5_faulty 45 = .ok (.iconst 0, 1) := by decide +kernel
theorem dX5_faulty_46 : decode cX5_faulty 46 = .ok (.iadd, 1) := by decide +kernel
theorem dX5_faulty_47 : decode cX5_faulty 47 = .ok (.istore_n 2, 1) := by decide +kernel
theorem dX5_faulty_48 : decode cX5_faulty 48 = .ok (.iinc 3 1, 3) := by decide +kernel
theorem dX5_faulty_51 : decode cX5_faulty 51 = .ok (.goto (-27), 3) := by decide +kernel
theorem dX5_faulty_54 : decode cX5_faulty 54 = .ok (.iload_n 2, 1) := by decide +kernel
theorem dX5_faulty_55 : decode cX5_faulty 55 = .ok (.ireturn, 1) := by decide +kernel
set_option maxRecDepth 20000 in
theorem ggX5_hasBox_X5_finds : GoodIn wsX5_hasBox wsX5_finds := goodIn_r _ [6, 7, 8, 9, 10, 1, 11, 12, 13, 14, 15, 5, 16, 17, 18, 19, 20, 21, 22, 23, 24, 25, 26, 27, 28, 29, 30, 31, 32, 33, 34, 35, 36, 37, 38, 39, 40, 41, 42, 43, 44, 45, 46, 47, 48, 49, 50, 51, 52, 53, 54, 55, 56, 57, 58, 59, 60, 61, 62, 63, 64, 65, 66, 67, 68, 69, 70, 71, 72, 73, 74] (by decide +kernel) (by decide +kernel)
set_option maxRecDepth 20000 in
theorem gX5_hasBox_X5_finds : GoodIn wsX5_hasBox (wsV RX5 104 RX5 yX5_finds wsX5_finds) := goodIn_app (goodIn_of _ (by decide +kernel)) ggX5_hasBox_X5_finds
theorem dX5_hasBox_0 : decode cX5_hasBox 0 = .ok (.aload_n 0, 1) := by decide +kernel
theorem dX5_hasBox_1 : decode cX5_hasBox 1 = .ok (.iload_n 1, 1) := by decide +kernel
theorem dX5_hasBox_2 : decode cX5_hasBox 2 = .ok (.invokevirtual 104, 3) := by decide +kernel
theorem dX5_hasBox_5 : decode cX5_hasBox 5 = .ok (.aload_n 0, 1) := by decide +kernel
theorem dX5_hasBox_6 : decode cX5_hasBox 6 = .ok (.getfield 82, 3) := by decide +kernel
theorem dX5_hasBox_9 : decode cX5_hasBox 9 = .ok (.ifCond .le 7, 3) := by decide +kernel
theorem dX5_hasBox_12 : decode cX5_hasBox 12 = .ok (.iconst 1, 1) := by decide +kernel
theorem dX5_hasBox_13 : decode cX5_hasBox 13 = .ok (.goto 4, 3) := by decide +kernel
theorem dX5_hasBox_16 : decode cX5_hasBox 16 = .ok (.iconst 0, 1) := by decide +kernel
theorem dX5_hasBox_17 : decode cX5_hasBox 17 = .ok (.ireturn, 1) := by decide +kernel
set_option maxRecDepth 20000 in
theorem ggX5_approve_X5_in : GoodIn wsX5_approve wsX5_in := goodIn_r _ [7] (by decide +kernel) (by decide +kernel)
set_option maxRecDepth 20000 in
theorem gX5_approve_X5_in : GoodIn wsX5_approve (va_wsS RX5 60 yX5_in wsX5_in) := goodIn_app (goodIn_of _ (by decide +kernel)) ggX5_approve_X5_in
set_option maxRecDepth 20000 in
theorem ggX5_approve_X5_isPage : GoodIn wsX5_approve wsX5_isPage := goodIn_r _ [10, 4, 5, 6, 7] (by decide +kernel) (by decide +kernel)
set_option maxRecDepth 20000 in
theorem gX5_approve_X5_isPage : GoodIn wsX5_approve (va_wsS RX5 121 yX5_isPage wsX5_isPage) := goodIn_app (goodIn_of _ (by decide +kernel)) ggX5_approve_X5_isPage
set_option maxRecDepth 20000 in
theorem ggX5_approve_X5_hasBox : GoodIn wsX5_approve wsX5_hasBox := goodIn_r _ [14, 15, 16, 17, 18, 6, 19, 20, 21, 22, 23, 24, 25, 26, 27, 28, 29, 30, 31, 32, 33, 34, 35, 36, 37, 38, 39, 40, 41, 42, 43, 44, 45, 46, 47, 48, 49, 50, 51, 52, 53, 54, 55, 56, 57, 58, 59, 60, 61, 62, 63, 64, 65, 66, 72, 73, 74, 75, 76, 77, 78, 79, 80, 81, 82, 83, 84, 85, 86, 87, 88, 89, 90, 91, 92] (by decide +kernel) (by decide +kernel)
set_option maxRecDepth 20000 in
theorem gX5_approve_X5_hasBox : GoodIn wsX5_approve (wsV RX5 174 RX5 yX5_hasBox wsX5_hasBox) := goodIn_app (goodIn_of _ (by decide +kernel)) ggX5_approve_X5_hasBox
set_option maxRecDepth 20000 in
theorem ggX5_approve_X5_goes : GoodIn wsX5_approve wsX5_goes := goodIn_r _ [70, 71, 72, 73, 74, 75, 76, 77, 78, 79, 80, 81, 82, 83, 84, 85, 86, 87, 88, 89, 90, 91, 92] (by decide +kernel) (by decide +kernel)
set_option maxRecDepth 20000 in
theorem gX5_approve_X5_goes : GoodIn wsX5_approve (wsV RX5 128 RX5 yX5_goes wsX5_goes) := goodIn_app (goodIn_of _ (by decide +kernel)) ggX5_approve_X5_goes
theorem dX5_approve_0 : decode cX5_approve 0 = .ok (.iload_n 1, 1) := by decide +kernel
theorem dX5_approve_1 : decode cX5_approve 1 = .ok (.iconst 0, 1) := by decide +kernel
theorem dX5_approve_2 : decode cX5_approve 2 = .ok (.iconst 5, 1) := by decide +kernel
theorem dX5_approve_3 : decode cX5_approve 3 = .ok (.invokestatic 60, 3) := by decide +kernel
theorem dX5_approve_6 : decode cX5_approve 6 = .ok (.ifCond .eq 14, 3) := by decide +kernel
theorem dX5_approve_9 : decode cX5_approve 9 = .ok (.iload_n 2, 1) := by decide +kernel
theorem dX5_approve_10 : decode cX5_approve 10 = .ok (.invokestatic 121, 3) := by decide +kernel
theorem dX5_approve_13 : decode cX5_approve 13 = .ok (.ifCond .eq 7, 3) := by decide +kernel
theorem dX5_approve_16 : decode cX5_approve 16 = .ok (.iconst 1, 1) := by decide +kernel
theorem dX5_approve_17 : decode cX5_approve 17 = .ok (.goto 4, 3) := by decide +kernel
theorem dX5_approve_20 : decode cX5_approve 20 = .ok (.iconst 0, 1) := by decide +kernel
theorem dX5_approve_21 : decode cX5_approve 21 = .ok (.istore_n 3, 1) := by decide +kernel
theorem dX5_approve_22 : decode cX5_approve 22 = .ok (.aload_n 0, 1) := by decide +kernel
theorem dX5_approve_23 : decode cX5_approve 23 = .ok (.iload_n 3, 1) := by decide +kernel
theorem dX5_approve_24 : decode cX5_approve 24 = .ok (.iload_n 3, 1) := by decide +kernel
theorem dX5_approve_25 : decode cX5_approve 25 = .ok (.ifCond .eq 24, 3) := by decide +kernel
theorem dX5_approve_28 : decode cX5_approve 28 = .ok (.aload_n 0, 1) := by decide +kernel
theorem dX5_approve_29 : decode cX5_approve 29 = .ok (.iload_n 2, 1) := by decide +kernel
theorem dX5_approve_30 : decode cX5_approve 30 = .ok (.invokevirtual 174, 3) := by decide +kernel
theorem dX5_approve_33 : decode cX5_approve 33 = .ok (.ifCond .eq 16, 3) := by decide +kernel
theorem dX5_approve_36 : decode cX5_approve 36 = .ok (.aload_n 0, 1) := by decide +kernel
theorem dX5_approve_37 : decode cX5_approve 37 = .ok (.getfield 110, 3) := by decide +kernel
theorem dX5_approve_40 : decode cX5_approve 40 = .ok (.bipush 20, 2) := by decide +kernel
theorem dX5_approve_42 : decode cX5_approve 42 = .ok (.if_icmp .ge 7, 3) := by decide +kernel
theorem dX5_approve_45 : decode cX5_approve 45 = .ok (.iconst 1, 1) := by decide +kernel
theorem dX5_approve_46 : decode cX5_approve 46 = .ok (.goto 4, 3) := by decide +kernel
theorem dX5_approve_49 : decode cX5_approve 49 = .ok (.iconst 0, 1) := by decide +kernel
theorem dX5_approve_50 : decode cX5_approve 50 = .ok (.iconst 1, 1) := by decide +kernel
theorem dX5_approve_51 : decode cX5_approve 51 = .ok (.invokevirtual 128, 3) := by decide +kernel
theorem dX5_approve_54 : decode cX5_approve 54 = .ok (.ifCond .ne 5, 3) := by decide +kernel
theorem dX5_approve_57 : decode cX5_approve 57 = .ok (.iconst 0, 1) := by decide +kernel
theorem dX5_approve_58 : decode cX5_approve 58 = .ok (.ireturn, 1) := by decide +kernel
theorem dX5_approve_59 : decode cX5_approve 59 = .ok (.aload_n 0, 1) := by decide +kernel
theorem dX5_approve_60 : decode cX5_approve 60 = .ok (.getfield 38, 3) := by decide +kernel
theorem dX5_approve_63 : decode cX5_approve 63 = .ok (.aload_n 0, 1) := by decide +kernel
theorem dX5_approve_64 : decode cX5_approve 64 = .ok (.getfield 110, 3) := by decide +kernel
theorem dX5_approve_67 : decode cX5_approve 67 = .ok (.iload_n 1, 1) := by decide +kernel
theorem dX5_approve_68 : decode cX5_approve 68 = .ok (.iastore, 1) := by decide +kernel
theorem dX5_approve_69 : decode cX5_approve 69 = .ok (.aload_n 0, 1) := by decide +kernel
theorem dX5_approve_70 : decode cX5_approve 70 = .ok (.getfield 41, 3) := by decide +kernel
theorem dX5_approve_73 : decode cX5_approve 73 = .ok (.aload_n 0, 1) := by decide +kernel
theorem dX5_approve_74 : decode cX5_approve 74 = .ok (.getfield 110, 3) := by decide +kernel
theorem dX5_approve_77 : decode cX5_approve 77 = .ok (.iload_n 2, 1) := by decide +kernel
theorem dX5_approve_78 : decode cX5_approve 78 = .ok (.iastore, 1) := by decide +kernel
theorem dX5_approve_79 : decode cX5_approve 79 = .ok (.aload_n 0, 1) := by decide +kernel
theorem dX5_approve_80 : decode cX5_approve 80 = .ok (.dup, 1) := by decide +kernel
theorem dX5_approve_81 : decode cX5_approve 81 = .ok (.getfield 110, 3) := by decide +kernel
theorem dX5_approve_84 : decode cX5_approve 84 = .ok (.iconst 1, 1) := by decide +kernel
theorem dX5_approve_85 : decode cX5_approve 85 = .ok (.iadd, 1) := by decide +kernel
theorem dX5_approve_86 : decode cX5_approve 86 = .ok (.putfield 110, 3) := by decide +kernel
theorem dX5_approve_89 : decode cX5_approve 89 = .ok (.aload_n 0, 1) := by decide +kernel
theorem dX5_approve_90 : decode cX5_approve 90 = .ok (.getfield 110, 3) := by decide +kernel
theorem dX5_approve_93 : decode cX5_approve 93 = .ok (.iconst 1, 1) := by decide +kernel
theorem dX5_approve_94 : decode cX5_approve 94 = .ok (.isub, 1) := by decide +kernel
theorem dX5_approve_95 : decode cX5_approve 95 = .ok (.ireturn, 1) := by decide +kernel
set_option maxRecDepth 20000 in
theorem ggX5_stands_X5_in : GoodIn wsX5_stands wsX5_in := goodIn_r _ [6] (by decide +kernel) (by decide +kernel)
set_option maxRecDepth 20000 in
theorem gX5_stands_X5_in : GoodIn wsX5_stands (va_wsS RX5 60 yX5_in wsX5_in) := goodIn_app (goodIn_of _ (by decide +kernel)) ggX5_stands_X5_in
set_option maxRecDepth 20000 in
theorem ggX5_stands_X5_goes : GoodIn wsX5_stands wsX5_goes := goodIn_r _ [10, 11, 12, 13, 14, 15, 16, 17, 18, 19, 20, 21, 22, 23, 24, 25, 26, 27, 28, 29, 30, 31, 32] (by decide +kernel) (by decide +kernel)
set_option maxRecDepth 20000 in
theorem gX5_stands_X5_goes : GoodIn wsX5_stands (wsV RX5 128 RX5 yX5_goes wsX5_goes) := goodIn_app (goodIn_of _ (by decide +kernel)) ggX5_stands_X5_goes
theorem dX5_stands_0 : decode cX5_stands 0 = .ok (.aload_n 0, 1) := by decide +kernel
theorem dX5_stands_1 : decode cX5_stands 1 = .ok (.iload_n 1, 1) := by decide +kernel
theorem dX5_stands_2 : decode cX5_stands 2 = .ok (.iconst 0, 1) := by decide +kernel
theorem dX5_stands_3 : decode cX5_stands 3 = .ok (.aload_n 0, 1) := by decide +kernel
theorem dX5_stands_4 : decode cX5_stands 4 = .ok (.getfield 110, 3) := by decide +kernel
theorem dX5_stands_7 : decode cX5_stands 7 = .ok (.iconst 1, 1) := by decide +kernel
theorem dX5_stands_8 : decode cX5_stands 8 = .ok (.isub, 1) := by decide +kernel
theorem dX5_stands_9 : decode cX5_stands 9 = .ok (.invokestatic 60, 3) := by decide +kernel
theorem dX5_stands_12 : decode cX5_stands 12 = .ok (.iconst 1, 1) := by decide +kernel
theorem dX5_stands_13 : decode cX5_stands 13 = .ok (.iconst 1, 1) := by decide +kernel
theorem dX5_stands_14 : decode cX5_stands 14 = .ok (.invokevirtual 128, 3) := by decide +kernel
theorem dX5_stands_17 : decode cX5_stands 17 = .ok (.ifCond .eq 16, 3) := by decide +kernel
theorem dX5_stands_20 : decode cX5_stands 20 = .ok (.aload_n 0, 1) := by decide +kernel
theorem dX5_stands_21 : decode cX5_stands 21 = .ok (.getfield 44, 3) := by decide +kernel
theorem dX5_stands_24 : decode cX5_stands 24 = .ok (.iload_n 1, 1) := by decide +kernel
theorem dX5_stands_25 : decode cX5_stands 25 = .ok (.baload, 1) := by decide +kernel
theorem dX5_stands_26 : decode cX5_stands 26 = .ok (.ifCond .ne 7, 3) := by decide +kernel
theorem dX5_stands_29 : decode cX5_stands 29 = .ok (.iconst 1, 1) := by decide +kernel
theorem dX5_stands_30 : decode cX5_stands 30 = .ok (.goto 4, 3) := by decide +kernel
theorem dX5_stands_33 : decode cX5_stands 33 = .ok (.iconst 0, 1) := by decide +kernel
theorem dX5_stands_34 : decode cX5_stands 34 = .ok (.ireturn, 1) := by decide +kernel
set_option maxRecDepth 20000 in
theorem ggX5_approvers_X5_isPage : GoodIn wsX5_approvers wsX5_isPage := goodIn_r _ [8, 9, 10, 7, 11] (by decide +kernel) (by decide +kernel)
set_option maxRecDepth 20000 in
theorem gX5_approvers_X5_isPage : GoodIn wsX5_approvers (va_wsS RX5 121 yX5_isPage wsX5_isPage) := goodIn_app (goodIn_of _ (by decide +kernel)) ggX5_approvers_X5_isPage
set_option maxRecDepth 20000 in
theorem ggX5_approvers_X5_goes : GoodIn wsX5_approvers wsX5_goes := goodIn_r _ [15, 16, 17, 18, 19, 20, 21, 22, 23, 24, 25, 26, 27, 28, 29, 30, 31, 32, 33, 34, 35, 36, 37] (by decide +kernel) (by decide +kernel)
set_option maxRecDepth 20000 in
theorem gX5_approvers_X5_goes : GoodIn wsX5_approvers (wsV RX5 128 RX5 yX5_goes wsX5_goes) := goodIn_app (goodIn_of _ (by decide +kernel)) ggX5_approvers_X5_goes
theorem dX5_approvers_0 : decode cX5_approvers 0 = .ok (.aload_n 0, 1) := by decide +kernel
theorem dX5_approvers_1 : decode cX5_approvers 1 = .ok (.iload_n 1, 1) := by decide +kernel
theorem dX5_approvers_2 : decode cX5_approvers 2 = .ok (.invokestatic 121, 3) := by decide +kernel
theorem dX5_approvers_5 : decode cX5_approvers 5 = .ok (.iconst 1, 1) := by decide +kernel
theorem dX5_approvers_6 : decode cX5_approvers 6 = .ok (.iconst 1, 1) := by decide +kernel
theorem dX5_approvers_7 : decode cX5_approvers 7 = .ok (.invokevirtual 128, 3) := by decide +kernel
theorem dX5_approvers_10 : decode cX5_approvers 10 = .ok (.ifCond .ne 5, 3) := by decide +kernel
theorem dX5_approvers_13 : decode cX5_approvers 13 = .ok (.iconst 0, 1) := by decide +kernel
theorem dX5_approvers_14 : decode cX5_approvers 14 = .ok (.ireturn, 1) := by decide +kernel
theorem dX5_approvers_15 : decode cX5_approvers 15 = .ok (.iconst 0, 1) := by decide +kernel
theorem dX5_approvers_16 : decode cX5_approvers 16 = .ok (.istore_n 2, 1) := by decide +kernel
theorem dX5_approvers_17 : decode cX5_approvers 17 = .ok (.iconst 0, 1) := by decide +kernel
theorem dX5_approvers_18 : decode cX5_approvers 18 = .ok (.istore_n 3, 1) := by decide +kernel
theorem dX5_approvers_19 : decode cX5_approvers 19 = .ok (.iload_n 3, 1) := by decide +kernel
theorem dX5_approvers_20 : decode cX5_approvers 20 = .ok (.aload_n 0, 1) := by decide +kernel
theorem dX5_approvers_21 : decode cX5_approvers 21 = .ok (.getfield 110, 3) := by decide +kernel
theorem dX5_approvers_24 : decode cX5_approvers 24 = .ok (.if_icmp .ge 43, 3) := by decide +kernel
theorem dX5_approvers_27 : decode cX5_approvers 27 = .ok (.iload_n 2, 1) := by decide +kernel
theorem dX5_approvers_28 : decode cX5_approvers 28 = .ok (.aload_n 0, 1) := by decide +kernel
theorem dX5_approvers_29 : decode cX5_approvers 29 = .ok (.getfield 41, 3) := by decide +kernel
theorem dX5_approvers_32 : decode cX5_approvers 32 = .ok (.iload_n 3, 1) := by decide +kernel
theorem dX5_approvers_33 : decode cX5_approvers 33 = .ok (.iaload, 1) := by decide +kernel
theorem dX5_approvers_34 : decode cX5_approvers 34 = .ok (.iload_n 1, 1) := by decide +kernel
theorem dX5_approvers_35 : decode cX5_approvers 35 = .ok (.if_icmp .ne 23, 3) := by decide +kernel
theorem dX5_approvers_38 : decode cX5_approvers 38 = .ok (.aload_n 0, 1) := by decide +kernel
theorem dX5_approvers_39 : decode cX5_approvers 39 = .ok (.getfield 44, 3) := by decide +kernel
theorem dX5_approvers_42 : decode cX5_approvers 42 = .ok (.iload_n 3, 1) := by decide +kernel
theorem dX5_approvers_43 : decode cX5_approvers 43 = .ok (.baload, 1) := by decide +kernel
theorem dX5_approvers_44 : decode cX5_approvers 44 = .ok (.ifCond .ne 14, 3) := by decide +kernel
theorem dX5_approvers_47 : decode cX5_approvers 47 = .ok (.iconst 1, 1) := by decide +kernel
theorem dX5_approvers_48 : decode cX5_approvers 48 = .ok (.aload_n 0, 1) := by decide +kernel
theorem dX5_approvers_49 : decode cX5_approvers 49 = .ok (.getfield 38, 3) := by decide +kernel
theorem dX5_approvers_52 : decode cX5_approvers 52 = .ok (.iload_n 3, 1) := by decide +kernel
theorem dX5_approvers_53 : decode cX5_approvers 53 = .ok (.iaload, 1) := by decide +kernel
theorem dX5_approvers_54 : decode cX5_approvers 54 = .ok (.ishl, 1) := by decide +kernel
theorem dX5_approvers_55 : decode cX5_approvers 55 = .ok (.goto 4, 3) := by decide +kernel
theorem dX5_approvers_58 : decode cX5_approvers 58 = .ok (.iconst 0, 1) := by decide +kernel
theorem dX5_approvers_59 : decode cX5_approvers 59 = .ok (.ior, 1) := by decide +kernel
theorem dX5_approvers_60 : decode cX5_approvers 60 = .ok (.istore_n 2, 1) := by decide +kernel
theorem dX5_approvers_61 : decode cX5_approvers 61 = .ok (.iinc 3 1, 3) := by decide +kernel
theorem dX5_approvers_64 : decode cX5_approvers 64 = .ok (.goto (-45), 3) := by decide +kernel
theorem dX5_approvers_67 : decode cX5_approvers 67 = .ok (.iload_n 2, 1) := by decide +kernel
theorem dX5_approvers_68 : decode cX5_approvers 68 = .ok (.ireturn, 1) := by decide +kernel
set_option maxRecDepth 20000 in
theorem ggX5_breaks_X5_isBox : GoodIn wsX5_breaks wsX5_isBox := goodIn_r _ [10, 11, 12, 13, 14, 9, 15, 86, 87, 88, 89, 90, 91, 92, 93, 94, 95, 96, 97, 98, 99, 100, 101, 102, 103, 104, 105, 106] (by decide +kernel) (by decide +kernel)
set_option maxRecDepth 20000 in
theorem gX5_breaks_X5_isBox : GoodIn wsX5_breaks (wsV RX5 138 RX5 yX5_isBox wsX5_isBox) := goodIn_app (goodIn_of _ (by decide +kernel)) ggX5_breaks_X5_isBox
set_option maxRecDepth 20000 in
theorem ggX5_breaks_X5_isWithin : GoodIn wsX5_breaks wsX5_isWithin := goodIn_r _ [18] (by decide +kernel) (by decide +kernel)
set_option maxRecDepth 20000 in
theorem gX5_breaks_X5_isWithin : GoodIn wsX5_breaks (va_wsS RX5 124 yX5_isWithin wsX5_isWithin) := goodIn_app (goodIn_of _ (by decide +kernel)) ggX5_breaks_X5_isWithin
set_option maxRecDepth 20000 in
theorem ggX5_breaks_X5_goes : GoodIn wsX5_breaks wsX5_goes := goodIn_r _ [22, 23, 86, 87, 88, 89, 90, 91, 92, 93, 94, 95, 96, 97, 98, 99, 100, 101, 102, 103, 104, 105, 106] (by decide +kernel) (by decide +kernel)
set_option maxRecDepth 20000 in
theorem gX5_breaks_X5_goes : GoodIn wsX5_breaks (wsV RX5 128 RX5 yX5_goes wsX5_goes) := goodIn_app (goodIn_of _ (by decide +kernel)) ggX5_breaks_X5_goes
set_option maxRecDepth 20000 in
theorem ggX5_breaks_X5_keeps : GoodIn wsX5_breaks wsX5_keeps := goodIn_r _ [27, 28, 29, 30, 31, 32, 33, 34, 9, 35, 11, 5, 12, 36, 37, 38, 39, 40, 41, 42, 43, 44, 45, 46, 47, 48, 49, 50, 51, 52, 53, 54, 55, 56, 57, 4, 2, 3, 1, 58, 59, 60, 61, 62, 63, 64, 65, 66, 67, 68, 69, 70, 71, 72, 73, 74, 86, 87, 88, 89, 90, 91, 92, 93, 94, 95, 96, 97, 98, 99, 100, 101, 102, 103, 104, 105, 106] (by decide +kernel) (by decide +kernel)
set_option maxRecDepth 20000 in
theorem gX5_breaks_X5_keeps : GoodIn wsX5_breaks (wsV RX5 132 RX5 yX5_keeps wsX5_keeps) := goodIn_app (goodIn_of _ (by decide +kernel)) ggX5_breaks_X5_keeps
set_option maxRecDepth 20000 in
theorem ggX5_breaks_X5_isOther : GoodIn wsX5_breaks wsX5_isOther := goodIn_r _ [78, 28, 29, 31, 30, 32, 33, 34, 9, 35, 11, 5, 12, 36, 37, 38, 39, 40, 41, 42, 43, 44, 45, 46, 47, 48, 49, 50, 51, 52, 53, 54, 55, 56, 57, 4, 2, 3, 1, 58, 59, 60, 61, 62, 63, 64, 65, 66, 67, 68, 69, 70, 71, 72, 73, 74, 86, 87, 88, 89, 90, 91, 92, 93, 94, 95, 96, 97, 98, 99, 100, 101, 102, 103, 104, 105, 106] (by decide +kernel) (by decide +kernel)
set_option maxRecDepth 20000 in
theorem gX5_breaks_X5_isOther : GoodIn wsX5_breaks (wsV RX5 113 RX5 yX5_isOther wsX5_isOther) := goodIn_app (goodIn_of _ (by decide +kernel)) ggX5_breaks_X5_isOther
set_option maxRecDepth 20000 in
theorem ggX5_breaks_X5_standing : GoodIn wsX5_breaks wsX5_standing := goodIn_r _ [82, 83, 84, 85, 86, 87, 88, 89, 90, 91, 92, 93, 94, 95, 96, 97, 98, 99, 100, 101, 102, 103, 104, 105, 106] (by decide +kernel) (by decide +kernel)
set_option maxRecDepth 20000 in
theorem gX5_breaks_X5_standing : GoodIn wsX5_breaks (wsV RX5 117 RX5 yX5_standing wsX5_standing) := goodIn_app (goodIn_of _ (by decide +kernel)) ggX5_breaks_X5_standing
theorem dX5_breaks_0 : decode cX5_breaks 0 = .ok (.aload_n 0, 1) := by decide +kernel
theorem dX5_breaks_1 : decode cX5_breaks 1 = .ok (.iload_n 1, 1) := by decide +kernel
theorem dX5_breaks_2 : decode cX5_breaks 2 = .ok (.invokevirtual 138, 3) := by decide +kernel
theorem dX5_breaks_5 : decode cX5_breaks 5 = .ok (.istore 4, 2) := by decide +kernel
theorem dX5_breaks_7 : decode cX5_breaks 7 = .ok (.aload_n 0, 1) := by decide +kernel
theorem dX5_breaks_8 : decode cX5_breaks 8 = .ok (.iload 4, 2) := by decide +kernel
theorem dX5_breaks_10 : decode cX5_breaks 10 = .ok (.iload 4, 2) := by decide +kernel
theorem dX5_breaks_12 : decode cX5_breaks 12 = .ok (.ifCond .eq 27, 3) := by decide +kernel
theorem dX5_breaks_15 : decode cX5_breaks 15 = .ok (.iload_n 2, 1) := by decide +kernel
theorem dX5_breaks_16 : decode cX5_breaks 16 = .ok (.iload_n 3, 1) := by decide +kernel
theorem dX5_breaks_17 : decode cX5_breaks 17 = .ok (.aload_n 0, 1) := by decide +kernel
theorem dX5_breaks_18 : decode cX5_breaks 18 = .ok (.getfield 19, 3) := by decide +kernel
theorem dX5_breaks_21 : decode cX5_breaks 21 = .ok (.iload_n 1, 1) := by decide +kernel
theorem dX5_breaks_22 : decode cX5_breaks 22 = .ok (.iaload, 1) := by decide +kernel
theorem dX5_breaks_23 : decode cX5_breaks 23 = .ok (.aload_n 0, 1) := by decide +kernel
theorem dX5_breaks_24 : decode cX5_breaks 24 = .ok (.getfield 22, 3) := by decide +kernel
theorem dX5_breaks_27 : decode cX5_breaks 27 = .ok (.iload_n 1, 1) := by decide +kernel
theorem dX5_breaks_28 : decode cX5_breaks 28 = .ok (.iaload, 1) := by decide +kernel
theorem dX5_breaks_29 : decode cX5_breaks 29 = .ok (.invokestatic 124, 3) := by decide +kernel
theorem dX5_breaks_32 : decode cX5_breaks 32 = .ok (.ifCond .eq 7, 3) := by decide +kernel
theorem dX5_breaks_35 : decode cX5_breaks 35 = .ok (.iconst 1, 1) := by decide +kernel
theorem dX5_breaks_36 : decode cX5_breaks 36 = .ok (.goto 4, 3) := by decide +kernel
theorem dX5_breaks_39 : decode cX5_breaks 39 = .ok (.iconst 0, 1) := by decide +kernel
theorem dX5_breaks_40 : decode cX5_breaks 40 = .ok (.iconst 1, 1) := by decide +kernel
theorem dX5_breaks_41 : decode cX5_breaks 41 = .ok (.invokevirtual 128, 3) := by decide +kernel
theorem dX5_breaks_44 : decode cX5_breaks 44 = .ok (.ifCond .ne 5, 3) := by decide +kernel
theorem dX5_breaks_47 : decode cX5_breaks 47 = .ok (.iconst 0, 1) := by decide +kernel
theorem dX5_breaks_48 : decode cX5_breaks 48 = .ok (.ireturn, 1) := by decide +kernel
theorem dX5_breaks_49 : decode cX5_breaks 49 = .ok (.aload_n 0, 1) := by decide +kernel
theorem dX5_breaks_50 : decode cX5_breaks 50 = .ok (.getfield 13, 3) := by decide +kernel
theorem dX5_breaks_53 : decode cX5_breaks 53 = .ok (.iload_n 1, 1) := by decide +kernel
theorem dX5_breaks_54 : decode cX5_breaks 54 = .ok (.iaload, 1) := by decide +kernel
theorem dX5_breaks_55 : decode cX5_breaks 55 = .ok (.istore 5, 2) := by decide +kernel
theorem dX5_breaks_57 : decode cX5_breaks 57 = .ok (.aload_n 0, 1) := by decide +kernel
theorem dX5_breaks_58 : decode cX5_breaks 58 = .ok (.getfield 16, 3) := by decide +kernel
theorem dX5_breaks_61 : decode cX5_breaks 61 = .ok (.iload_n 1, 1) := by decide +kernel
theorem dX5_breaks_62 : decode cX5_breaks 62 = .ok (.iaload, 1) := by decide +kernel
theorem dX5_breaks_63 : decode cX5_breaks 63 = .ok (.istore 6, 2) := by decide +kernel
theorem dX5_breaks_65 : decode cX5_breaks 65 = .ok (.aload_n 0, 1) := by decide +kernel
theorem dX5_breaks_66 : decode cX5_breaks 66 = .ok (.aload_n 0, 1) := by decide +kernel
theorem dX5_breaks_67 : decode cX5_breaks 67 = .ok (.getfield 7, 3) := by decide +kernel
theorem dX5_breaks_70 : decode cX5_breaks 70 = .ok (.iload_n 1, 1) := by decide +kernel
theorem dX5_breaks_71 : decode cX5_breaks 71 = .ok (.iaload, 1) := by decide +kernel
theorem dX5_breaks_72 : decode cX5_breaks 72 = .ok (.invokevirtual 132, 3) := by decide +kernel
theorem dX5_breaks_75 : decode cX5_breaks 75 = .ok (.aload_n 0, 1) := by decide +kernel
theorem dX5_breaks_76 : decode cX5_breaks 76 = .ok (.getfield 13, 3) := by decide +kernel
theorem dX5_breaks_79 : decode cX5_breaks 79 = .ok (.iload_n 1, 1) := by decide +kernel
theorem dX5_breaks_80 : decode cX5_breaks 80 = .ok (.iload_n 2, 1) := by decide +kernel
theorem dX5_breaks_81 : decode cX5_breaks 81 = .ok (.iastore, 1) := by decide +kernel
theorem dX5_breaks_82 : decode cX5_breaks 82 = .ok (.aload_n 0, 1) := by decide +kernel
theorem dX5_breaks_83 : decode cX5_breaks 83 = .ok (.getfield 16, 3) := by decide +kernel
theorem dX5_breaks_86 : decode cX5_breaks 86 = .ok (.iload_n 1, 1) := by decide +kernel
theorem dX5_breaks_87 : decode cX5_breaks 87 = .ok (.iload_n 3, 1) := by decide +kernel
theorem dX5_breaks_88 : decode cX5_breaks 88 = .ok (.iastore, 1) := by decide +kernel
theorem dX5_breaks_89 : decode cX5_breaks 89 = .ok (.aload_n 0, 1) := by decide +kernel
theorem dX5_breaks_90 : decode cX5_breaks 90 = .ok (.aload_n 0, 1) := by decide +kernel
theorem dX5_breaks_91 : decode cX5_breaks 91 = .ok (.getfield 7, 3) := by decide +kernel
theorem dX5_breaks_94 : decode cX5_breaks 94 = .ok (.iload_n 1, 1) := by decide +kernel
theorem dX5_breaks_95 : decode cX5_breaks 95 = .ok (.iaload, 1) := by decide +kernel
theorem dX5_breaks_96 : decode cX5_breaks 96 = .ok (.invokevirtual 113, 3) := by decide +kernel
theorem dX5_breaks_99 : decode cX5_breaks 99 = .ok (.ifCond .eq 16, 3) := by decide +kernel
theorem dX5_breaks_102 : decode cX5_breaks 102 = .ok (.aload_n 0, 1) := by decide +kernel
theorem dX5_breaks_103 : decode cX5_breaks 103 = .ok (.aload_n 0, 1) := by decide +kernel
theorem dX5_breaks_104 : decode cX5_breaks 104 = .ok (.getfield 7, 3) := by decide +kernel
theorem dX5_breaks_107 : decode cX5_breaks 107 = .ok (.iload_n 1, 1) := by decide +kernel
theorem dX5_breaks_108 : decode cX5_breaks 108 = .ok (.iaload, 1) := by decide +kernel
theorem dX5_breaks_109 : decode cX5_breaks 109 = .ok (.invokevirtual 117, 3) := by decide +kernel
theorem dX5_breaks_112 : decode cX5_breaks 112 = .ok (.goto 4, 3) := by decide +kernel
theorem dX5_breaks_115 : decode cX5_breaks 115 = .ok (.iconst 0, 1) := by decide +kernel
theorem dX5_breaks_116 : decode cX5_breaks 116 = .ok (.istore 7, 2) := by decide +kernel
theorem dX5_breaks_118 : decode cX5_breaks 118 = .ok (.aload_n 0, 1) := by decide +kernel
theorem dX5_breaks_119 : decode cX5_breaks 119 = .ok (.getfield 13, 3) := by decide +kernel
theorem dX5_breaks_122 : decode cX5_breaks 122 = .ok (.iload_n 1, 1) := by decide +kernel
theorem dX5_breaks_123 : decode cX5_breaks 123 = .ok (.iload 5, 2) := by decide +kernel
theorem dX5_breaks_125 : decode cX5_breaks 125 = .ok (.iastore, 1) := by decide +kernel
theorem dX5_breaks_126 : decode cX5_breaks 126 = .ok (.aload_n 0, 1) := by decide +kernel
theorem dX5_breaks_127 : decode cX5_breaks 127 = .ok (.getfield 16, 3) := by decide +kernel
theorem dX5_breaks_130 : decode cX5_breaks 130 = .ok (.iload_n 1, 1) := by decide +kernel
theorem dX5_breaks_131 : decode cX5_breaks 131 = .ok (.iload 6, 2) := by decide +kernel
theorem dX5_breaks_133 : decode cX5_breaks 133 = .ok (.iastore, 1) := by decide +kernel
theorem dX5_breaks_134 : decode cX5_breaks 134 = .ok (.iload 7, 2) := by decide +kernel
theorem dX5_breaks_136 : decode cX5_breaks 136 = .ok (.ireturn, 1) := by decide +kernel
theorem dJ9_abs_0f7a4_0 : decode cJ9_abs_0f7a4 0 = .ok (.iload_n 0, 1) := by decide +kernel
theorem dJ9_abs_0f7a4_1 : decode cJ9_abs_0f7a4 1 = .ok (.ifCond .ge 8, 3) := by decide +kernel
theorem dJ9_abs_0f7a4_4 : decode cJ9_abs_0f7a4 4 = .ok (.iload_n 0, 1) := by decide +kernel
theorem dJ9_abs_0f7a4_5 : decode cJ9_abs_0f7a4 5 = .ok (.ineg, 1) := by decide +kernel
theorem dJ9_abs_0f7a4_6 : decode cJ9_abs_0f7a4 6 = .ok (.goto 4, 3) := by decide +kernel
theorem dJ9_abs_0f7a4_9 : decode cJ9_abs_0f7a4 9 = .ok (.iload_n 0, 1) := by decide +kernel
theorem dJ9_abs_0f7a4_10 : decode cJ9_abs_0f7a4 10 = .ok (.ireturn, 1) := by decide +kernel
theorem dJ9_min_7cf53_0 : decode cJ9_min_7cf53 0 = .ok (.iload_n 0, 1) := by decide +kernel
theorem dJ9_min_7cf53_1 : decode cJ9_min_7cf53 1 = .ok (.iload_n 1, 1) := by decide +kernel
theorem dJ9_min_7cf53_2 : decode cJ9_min_7cf53 2 = .ok (.if_icmp .gt 7, 3) := by decide +kernel
theorem dJ9_min_7cf53_5 : decode cJ9_min_7cf53 5 = .ok (.iload_n 0, 1) := by decide +kernel
theorem dJ9_min_7cf53_6 : decode cJ9_min_7cf53 6 = .ok (.goto 4, 3) := by decide +kernel
theorem dJ9_min_7cf53_9 : decode cJ9_min_7cf53 9 = .ok (.iload_n 1, 1) := by decide +kernel
theorem dJ9_min_7cf53_10 : decode cJ9_min_7cf53 10 = .ok (.ireturn, 1) := by decide +kernel
