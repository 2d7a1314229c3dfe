theorem dX0_init_0 : decode cX0_init 0 = .ok (.aload_n 0, 1) := by decide +kernel
theorem dX0_init_1 : decode cX0_init 1 = .ok (.invokespecial 1, 3) := by decide +kernel
theorem dX0_init_4 : decode cX0_init 4 = .ok (.aload_n 0, 1) := by decide +kernel
theorem dX0_init_5 : decode cX0_init 5 = .ok (.iconst 1, 1) := by decide +kernel
theorem dX0_init_6 : decode cX0_init 6 = .ok (.putfield 7, 3) := by decide +kernel
theorem dX0_init_9 : decode cX0_init 9 = .ok (.aload_n 0, 1) := by decide +kernel
theorem dX0_init_10 : decode cX0_init 10 = .ok (.iload_n 1, 1) := by decide +kernel
theorem dX0_init_11 : decode cX0_init 11 = .ok (.putfield 13, 3) := by decide +kernel
theorem dX0_init_14 : decode cX0_init 14 = .ok (.aload_n 0, 1) := by decide +kernel
theorem dX0_init_15 : decode cX0_init 15 = .ok (.iload_n 2, 1) := by decide +kernel
theorem dX0_init_16 : decode cX0_init 16 = .ok (.putfield 17, 3) := by decide +kernel
theorem dX0_init_19 : decode cX0_init 19 = .ok (.return_, 1) := by decide +kernel
theorem dX0_holdsFor_0 : decode cX0_holdsFor 0 = .ok (.aload_n 0, 1) := by decide +kernel
theorem dX0_holdsFor_1 : decode cX0_holdsFor 1 = .ok (.getfield 7, 3) := by decide +kernel
theorem dX0_holdsFor_4 : decode cX0_holdsFor 4 = .ok (.ifCond .eq 15, 3) := by decide +kernel
theorem dX0_holdsFor_7 : decode cX0_holdsFor 7 = .ok (.aload_n 0, 1) := by decide +kernel
theorem dX0_holdsFor_8 : decode cX0_holdsFor 8 = .ok (.getfield 17, 3) := by decide +kernel
theorem dX0_holdsFor_11 : decode cX0_holdsFor 11 = .ok (.iload_n 1, 1) := by decide +kernel
theorem dX0_holdsFor_12 : decode cX0_holdsFor 12 = .ok (.if_icmp .ne 7, 3) := by decide +kernel
theorem dX0_holdsFor_15 : decode cX0_holdsFor 15 = .ok (.iconst 1, 1) := by decide +kernel
theorem dX0_holdsFor_16 : decode cX0_holdsFor 16 = .ok (.goto 4, 3) := by decide +kernel
theorem dX0_holdsFor_19 : decode cX0_holdsFor 19 = .ok (.iconst 0, 1) := by decide +kernel
theorem dX0_holdsFor_20 : decode cX0_holdsFor 20 = .ok (.ireturn, 1) := by decide +kernel
theorem dX1_init_0 : decode cX1_init 0 = .ok (.aload_n 0, 1) := by decide +kernel
theorem dX1_init_1 : decode cX1_init 1 = .ok (.invokespecial 3, 3) := by decide +kernel
theorem dX1_init_4 : decode cX1_init 4 = .ok (.aload_n 0, 1) := by decide +kernel
theorem dX1_init_5 : decode cX1_init 5 = .ok (.iconst 0, 1) := by decide +kernel
theorem dX1_init_6 : decode cX1_init 6 = .ok (.putfield 9, 3) := by decide +kernel
theorem dX1_init_9 : decode cX1_init 9 = .ok (.aload_n 0, 1) := by decide +kernel
theorem dX1_init_10 : decode cX1_init 10 = .ok (.aconst_null, 1) := by decide +kernel
theorem dX1_init_11 : decode cX1_init 11 = .ok (.putfield 15, 3) := by decide +kernel
theorem dX1_init_14 : decode cX1_init 14 = .ok (.aload_n 0, 1) := by decide +kernel
theorem dX1_init_15 : decode cX1_init 15 = .ok (.aconst_null, 1) := by decide +kernel
theorem dX1_init_16 : decode cX1_init 16 = .ok (.putfield 19, 3) := by decide +kernel
theorem dX1_init_19 : decode cX1_init 19 = .ok (.aload_n 0, 1) := by decide +kernel
theorem dX1_init_20 : decode cX1_init 20 = .ok (.iload_n 1, 1) := by decide +kernel
theorem dX1_init_21 : decode cX1_init 21 = .ok (.putfield 22, 3) := by decide +kernel
theorem dX1_init_24 : decode cX1_init 24 = .ok (.aload_n 0, 1) := by decide +kernel
theorem dX1_init_25 : decode cX1_init 25 = .ok (.iload_n 2, 1) := by decide +kernel
theorem dX1_init_26 : decode cX1_init 26 = .ok (.putfield 26, 3) := by decide +kernel
theorem dX1_init_29 : decode cX1_init 29 = .ok (.aload_n 0, 1) := by decide +kernel
theorem dX1_init_30 : decode cX1_init 30 = .ok (.iload_n 3, 1) := by decide +kernel
theorem dX1_init_31 : decode cX1_init 31 = .ok (.putfield 29, 3) := by decide +kernel
theorem dX1_init_34 : decode cX1_init 34 = .ok (.aload_n 0, 1) := by decide +kernel
theorem dX1_init_35 : decode cX1_init 35 = .ok (.iload 4, 2) := by decide +kernel
theorem dX1_init_37 : decode cX1_init 37 = .ok (.putfield 32, 3) := by decide +kernel
theorem dX1_init_40 : decode cX1_init 40 = .ok (.aload_n 0, 1) := by decide +kernel
theorem dX1_init_41 : decode cX1_init 41 = .ok (.iload 5, 2) := by decide +kernel
theorem dX1_init_43 : decode cX1_init 43 = .ok (.putfield 35, 3) := by decide +kernel
theorem dX1_init_46 : decode cX1_init 46 = .ok (.aload_n 0, 1) := by decide +kernel
theorem dX1_init_47 : decode cX1_init 47 = .ok (.iload 6, 2) := by decide +kernel
theorem dX1_init_49 : decode cX1_init 49 = .ok (.putfield 38, 3) := by decide +kernel
theorem dX1_init_52 : decode cX1_init 52 = .ok (.aload_n 0, 1) := by decide +kernel
theorem dX1_init_53 : decode cX1_init 53 = .ok (.iload 7, 2) := by decide +kernel
theorem dX1_init_55 : decode cX1_init 55 = .ok (.putfield 41, 3) := by decide +kernel
theorem dX1_init_58 : decode cX1_init 58 = .ok (.return_, 1) := by decide +kernel
theorem dX1_bottom_0 : decode cX1_bottom 0 = .ok (.aload_n 0, 1) := by decide +kernel
theorem dX1_bottom_1 : decode cX1_bottom 1 = .ok (.getfield 32, 3) := by decide +kernel
theorem dX1_bottom_4 : decode cX1_bottom 4 = .ok (.aload_n 0, 1) := by decide +kernel
theorem dX1_bottom_5 : decode cX1_bottom 5 = .ok (.getfield 38, 3) := by decide +kernel
theorem dX1_bottom_8 : decode cX1_bottom 8 = .ok (.iadd, 1) := by decide +kernel
theorem dX1_bottom_9 : decode cX1_bottom 9 = .ok (.ireturn, 1) := by decide +kernel
theorem dX1_begin_0 : decode cX1_begin 0 = .ok (.iload_n 1, 1) := by decide +kernel
theorem dX1_begin_1 : decode cX1_begin 1 = .ok (.ifCond .eq 10, 3) := by decide +kernel
theorem dX1_begin_4 : decode cX1_begin 4 = .ok (.aload_n 0, 1) := by decide +kernel
theorem dX1_begin_5 : decode cX1_begin 5 = .ok (.getfield 32, 3) := by decide +kernel
theorem dX1_begin_8 : decode cX1_begin 8 = .ok (.goto 7, 3) := by decide +kernel
theorem dX1_begin_11 : decode cX1_begin 11 = .ok (.aload_n 0, 1) := by decide +kernel
theorem dX1_begin_12 : decode cX1_begin 12 = .ok (.getfield 29, 3) := by decide +kernel
theorem dX1_begin_15 : decode cX1_begin 15 = .ok (.ireturn, 1) := by decide +kernel
theorem dX1_end_0 : decode cX1_end 0 = .ok (.iload_n 1, 1) := by decide +kernel
theorem dX1_end_1 : decode cX1_end 1 = .ok (.ifCond .eq 15, 3) := by decide +kernel
theorem dX1_end_4 : decode cX1_end 4 = .ok (.aload_n 0, 1) := by decide +kernel
theorem dX1_end_5 : decode cX1_end 5 = .ok (.getfield 32, 3) := by decide +kernel
theorem dX1_end_8 : decode cX1_end 8 = .ok (.aload_n 0, 1) := by decide +kernel
theorem dX1_end_9 : decode cX1_end 9 = .ok (.getfield 38, 3) := by decide +kernel
theorem dX1_end_12 : decode cX1_end 12 = .ok (.iadd, 1) := by decide +kernel
theorem dX1_end_13 : decode cX1_end 13 = .ok (.goto 12, 3) := by decide +kernel
theorem dX1_end_16 : decode cX1_end 16 = .ok (.aload_n 0, 1) := by decide +kernel
theorem dX1_end_17 : decode cX1_end 17 = .ok (.getfield 29, 3) := by decide +kernel
theorem dX1_end_20 : decode cX1_end 20 = .ok (.aload_n 0, 1) := by decide +kernel
theorem dX1_end_21 : decode cX1_end 21 = .ok (.getfield 35, 3) := by decide +kernel
theorem dX1_end_24 : decode cX1_end 24 = .ok (.iadd, 1) := by decide +kernel
theorem dX1_end_25 : decode cX1_end 25 = .ok (.ireturn, 1) := by decide +kernel
theorem dX1_middleAcross_0 : decode cX1_middleAcross 0 = .ok (.aload_n 0, 1) := by decide +kernel
theorem dX1_middleAcross_1 : decode cX1_middleAcross 1 = .ok (.getfield 29, 3) := by decide +kernel
theorem dX1_middleAcross_4 : decode cX1_middleAcross 4 = .ok (.aload_n 0, 1) := by decide +kernel
theorem dX1_middleAcross_5 : decode cX1_middleAcross 5 = .ok (.getfield 35, 3) := by decide +kernel
theorem dX1_middleAcross_8 : decode cX1_middleAcross 8 = .ok (.iconst 2, 1) := by decide +kernel
theorem dX1_middleAcross_9 : decode cX1_middleAcross 9 = .ok (.idiv, 1) := by decide +kernel
theorem dX1_middleAcross_10 : decode cX1_middleAcross 10 = .ok (.iadd, 1) := by decide +kernel
theorem dX1_middleAcross_11 : decode cX1_middleAcross 11 = .ok (.ireturn, 1) := by decide +kernel
theorem dX1_middleDown_0 : decode cX1_middleDown 0 = .ok (.aload_n 0, 1) := by decide +kernel
theorem dX1_middleDown_1 : decode cX1_middleDown 1 = .ok (.getfield 32, 3) := by decide +kernel
theorem dX1_middleDown_4 : decode cX1_middleDown 4 = .ok (.aload_n 0, 1) := by decide +kernel
theorem dX1_middleDown_5 : decode cX1_middleDown 5 = .ok (.getfield 38, 3) := by decide +kernel
theorem dX1_middleDown_8 : decode cX1_middleDown 8 = .ok (.iconst 2, 1) := by decide +kernel
theorem dX1_middleDown_9 : decode cX1_middleDown 9 = .ok (.idiv, 1) := by decide +kernel
theorem dX1_middleDown_10 : decode cX1_middleDown 10 = .ok (.iadd, 1) := by decide +kernel
theorem dX1_middleDown_11 : decode cX1_middleDown 11 = .ok (.ireturn, 1) := by decide +kernel
theorem dX1_isHead_0 : decode cX1_isHead 0 = .ok (.aload_n 0, 1) := by decide +kernel
theorem dX1_isHead_1 : decode cX1_isHead 1 = .ok (.getfield 41, 3) := by decide +kernel
theorem dX1_isHead_4 : decode cX1_isHead 4 = .ok (.iconst 4, 1) := by decide +kernel
theorem dX1_isHead_5 : decode cX1_isHead 5 = .ok (.if_icmp .lt 7, 3) := by decide +kernel
theorem dX1_isHead_8 : decode cX1_isHead 8 = .ok (.iconst 1, 1) := by decide +kernel
theorem dX1_isHead_9 : decode cX1_isHead 9 = .ok (.goto 4, 3) := by decide +kernel
theorem dX1_isHead_12 : decode cX1_isHead 12 = .ok (.iconst 0, 1) := by decide +kernel
theorem dX1_isHead_13 : decode cX1_isHead 13 = .ok (.ireturn, 1) := by decide +kernel
theorem dX1_level_0 : decode cX1_level 0 = .ok (.aload_n 0, 1) := by decide +kernel
theorem dX1_level_1 : decode cX1_level 1 = .ok (.getfield 41, 3) := by decide +kernel
theorem dX1_level_4 : decode cX1_level 4 = .ok (.iconst 4, 1) := by decide +kernel
theorem dX1_level_5 : decode cX1_level 5 = .ok (.isub, 1) := by decide +kernel
theorem dX1_level_6 : decode cX1_level 6 = .ok (.iconst 1, 1) := by decide +kernel
theorem dX1_level_7 : decode cX1_level 7 = .ok (.iadd, 1) := by decide +kernel
theorem dX1_level_8 : decode cX1_level 8 = .ok (.ireturn, 1) := by decide +kernel
set_option maxRecDepth 20000 in
theorem ggX1_overlaps_X1_bottom : GoodIn wsX1_overlaps wsX1_bottom := goodIn_r _ [8, 3, 9, 10, 11, 12, 13, 14, 15, 16, 17, 18, 19] (by decide +kernel) (by decide +kernel)
set_option maxRecDepth 20000 in
theorem gX1_overlaps_X1_bottom : GoodIn wsX1_overlaps (wsV RX1 44 RX1 yX1_bottom wsX1_bottom) := goodIn_app (goodIn_of _ (by decide +kernel)) ggX1_overlaps_X1_bottom
theorem dX1_overlaps_0 : decode cX1_overlaps 0 = .ok (.aload_n 0, 1) := by decide +kernel
theorem dX1_overlaps_1 : decode cX1_overlaps 1 = .ok (.getfield 29, 3) := by decide +kernel
theorem dX1_overlaps_4 : decode cX1_overlaps 4 = .ok (.aload_n 1, 1) := by decide +kernel
theorem dX1_overlaps_5 : decode cX1_overlaps 5 = .ok (.getfield 29, 3) := by decide +kernel
theorem dX1_overlaps_8 : decode cX1_overlaps 8 = .ok (.aload_n 1, 1) := by decide +kernel
theorem dX1_overlaps_9 : decode cX1_overlaps 9 = .ok (.getfield 35, 3) := by decide +kernel
theorem dX1_overlaps_12 : decode cX1_overlaps 12 = .ok (.iadd, 1) := by decide +kernel
theorem dX1_overlaps_13 : decode cX1_overlaps 13 = .ok (.if_icmp .ge 45, 3) := by decide +kernel
theorem dX1_overlaps_16 : decode cX1_overlaps 16 = .ok (.aload_n 1, 1) := by decide +kernel
theorem dX1_overlaps_17 : decode cX1_overlaps 17 = .ok (.getfield 29, 3) := by decide +kernel
theorem dX1_overlaps_20 : decode cX1_overlaps 20 = .ok (.aload_n 0, 1) := by decide +kernel
theorem dX1_overlaps_21 : decode cX1_overlaps 21 = .ok (.getfield 29, 3) := by decide +kernel
theorem dX1_overlaps_24 : decode cX1_overlaps 24 = .ok (.aload_n 0, 1) := by decide +kernel
theorem dX1_overlaps_25 : decode cX1_overlaps 25 = .ok (.getfield 35, 3) := by decide +kernel
theorem dX1_overlaps_28 : decode cX1_overlaps 28 = .ok (.iadd, 1) := by decide +kernel
theorem dX1_overlaps_29 : decode cX1_overlaps 29 = .ok (.if_icmp .ge 29, 3) := by decide +kernel
theorem dX1_overlaps_32 : decode cX1_overlaps 32 = .ok (.aload_n 0, 1) := by decide +kernel
theorem dX1_overlaps_33 : decode cX1_overlaps 33 = .ok (.getfield 32, 3) := by decide +kernel
theorem dX1_overlaps_36 : decode cX1_overlaps 36 = .ok (.aload_n 1, 1) := by decide +kernel
theorem dX1_overlaps_37 : decode cX1_overlaps 37 = .ok (.invokevirtual 44, 3) := by decide +kernel
theorem dX1_overlaps_40 : decode cX1_overlaps 40 = .ok (.if_icmp .ge 18, 3) := by decide +kernel
theorem dX1_overlaps_43 : decode cX1_overlaps 43 = .ok (.aload_n 1, 1) := by decide +kernel
theorem dX1_overlaps_44 : decode cX1_overlaps 44 = .ok (.getfield 32, 3) := by decide +kernel
theorem dX1_overlaps_47 : decode cX1_overlaps 47 = .ok (.aload_n 0, 1) := by decide +kernel
theorem dX1_overlaps_48 : decode cX1_overlaps 48 = .ok (.invokevirtual 44, 3) := by decide +kernel
theorem dX1_overlaps_51 : decode cX1_overlaps 51 = .ok (.if_icmp .ge 7, 3) := by decide +kernel
theorem dX1_overlaps_54 : decode cX1_overlaps 54 = .ok (.iconst 1, 1) := by decide +kernel
theorem dX1_overlaps_55 : decode cX1_overlaps 55 = .ok (.goto 4, 3) := by decide +kernel
theorem dX1_overlaps_58 : decode cX1_overlaps 58 = .ok (.iconst 0, 1) := by decide +kernel
theorem dX1_overlaps_59 : decode cX1_overlaps 59 = .ok (.ireturn, 1) := by decide +kernel
theorem dX1_isAheadByEdges_0 : decode cX1_isAheadByEdges 0 = .ok (.aload_n 0, 1) := by decide +kernel
theorem dX1_isAheadByEdges_1 : decode cX1_isAheadByEdges 1 = .ok (.getfield 32, 3) := by decide +kernel
theorem dX1_isAheadByEdges_4 : decode cX1_isAheadByEdges 4 = .ok (.aload_n 1, 1) := by decide +kernel
theorem dX1_isAheadByEdges_5 : decode cX1_isAheadByEdges 5 = .ok (.getfield 32, 3) := by decide +kernel
theorem dX1_isAheadByEdges_8 : decode cX1_isAheadByEdges 8 = .ok (.if_icmp .eq 20, 3) := by decide +kernel
theorem dX1_isAheadByEdges_11 : decode cX1_isAheadByEdges 11 = .ok (.aload_n 0, 1) := by decide +kernel
theorem dX1_isAheadByEdges_12 : decode cX1_isAheadByEdges 12 = .ok (.getfield 32, 3) := by decide +kernel
theorem dX1_isAheadByEdges_15 : decode cX1_isAheadByEdges 15 = .ok (.aload_n 1, 1) := by decide +kernel
theorem dX1_isAheadByEdges_16 : decode cX1_isAheadByEdges 16 = .ok (.getfield 32, 3) := by decide +kernel
theorem dX1_isAheadByEdges_19 : decode cX1_isAheadByEdges 19 = .ok (.if_icmp .ge 7, 3) := by decide +kernel
theorem dX1_isAheadByEdges_22 : decode cX1_isAheadByEdges 22 = .ok (.iconst 1, 1) := by decide +kernel
theorem dX1_isAheadByEdges_23 : decode cX1_isAheadByEdges 23 = .ok (.goto 4, 3) := by decide +kernel
theorem dX1_isAheadByEdges_26 : decode cX1_isAheadByEdges 26 = .ok (.iconst 0, 1) := by decide +kernel
theorem dX1_isAheadByEdges_27 : decode cX1_isAheadByEdges 27 = .ok (.ireturn, 1) := by decide +kernel
theorem dX1_isAheadByEdges_28 : decode cX1_isAheadByEdges 28 = .ok (.aload_n 0, 1) := by decide +kernel
theorem dX1_isAheadByEdges_29 : decode cX1_isAheadByEdges 29 = .ok (.getfield 29, 3) := by decide +kernel
theorem dX1_isAheadByEdges_32 : decode cX1_isAheadByEdges 32 = .ok (.aload_n 1, 1) := by decide +kernel
theorem dX1_isAheadByEdges_33 : decode cX1_isAheadByEdges 33 = .ok (.getfield 29, 3) := by decide +kernel
theorem dX1_isAheadByEdges_36 : decode cX1_isAheadByEdges 36 = .ok (.if_icmp .eq 20, 3) := by decide +kernel
theorem dX1_isAheadByEdges_39 : decode cX1_isAheadByEdges 39 = .ok (.aload_n 0, 1) := by decide +kernel
theorem dX1_isAheadByEdges_40 : decode cX1_isAheadByEdges 40 = .ok (.getfield 29, 3) := by decide +kernel
theorem dX1_isAheadByEdges_43 : decode cX1_isAheadByEdges 43 = .ok (.aload_n 1, 1) := by decide +kernel
theorem dX1_isAheadByEdges_44 : decode cX1_isAheadByEdges 44 = .ok (.getfield 29, 3) := by decide +kernel
theorem dX1_isAheadByEdges_47 : decode cX1_isAheadByEdges 47 = .ok (.if_icmp .ge 7, 3) := by decide +kernel
theorem dX1_isAheadByEdges_50 : decode cX1_isAheadByEdges 50 = .ok (.iconst 1, 1) := by decide +kernel
theorem dX1_isAheadByEdges_51 : decode cX1_isAheadByEdges 51 = .ok (.goto 4, 3) := by decide +kernel
theorem dX1_isAheadByEdges_54 : decode cX1_isAheadByEdges 54 = .ok (.iconst 0, 1) := by decide +kernel
theorem dX1_isAheadByEdges_55 : decode cX1_isAheadByEdges 55 = .ok (.ireturn, 1) := by decide +kernel
theorem dX1_isAheadByEdges_56 : decode cX1_isAheadByEdges 56 = .ok (.aload_n 0, 1) := by decide +kernel
theorem dX1_isAheadByEdges_57 : decode cX1_isAheadByEdges 57 = .ok (.getfield 22, 3) := by decide +kernel
theorem dX1_isAheadByEdges_60 : decode cX1_isAheadByEdges 60 = .ok (.aload_n 1, 1) := by decide +kernel
theorem dX1_isAheadByEdges_61 : decode cX1_isAheadByEdges 61 = .ok (.getfield 22, 3) := by decide +kernel
theorem dX1_isAheadByEdges_64 : decode cX1_isAheadByEdges 64 = .ok (.if_icmp .ge 7, 3) := by decide +kernel
theorem dX1_isAheadByEdges_67 : decode cX1_isAheadByEdges 67 = .ok (.iconst 1, 1) := by decide +kernel
theorem dX1_isAheadByEdges_68 : decode cX1_isAheadByEdges 68 = .ok (.goto 4, 3) := by decide +kernel
theorem dX1_isAheadByEdges_71 : decode cX1_isAheadByEdges 71 = .ok (.iconst 0, 1) := by decide +kernel
theorem dX1_isAheadByEdges_72 : decode cX1_isAheadByEdges 72 = .ok (.ireturn, 1) := by decide +kernel
theorem dX1_comesBehind_0 : decode cX1_comesBehind 0 = .ok (.aload_n 0, 1) := by decide +kernel
theorem dX1_comesBehind_1 : decode cX1_comesBehind 1 = .ok (.getfield 15, 3) := by decide +kernel
theorem dX1_comesBehind_4 : decode cX1_comesBehind 4 = .ok (.astore_n 2, 1) := by decide +kernel
theorem dX1_comesBehind_5 : decode cX1_comesBehind 5 = .ok (.aload_n 2, 1) := by decide +kernel
theorem dX1_comesBehind_6 : decode cX1_comesBehind 6 = .ok (.ifnull 18, 3) := by decide +kernel
theorem dX1_comesBehind_9 : decode cX1_comesBehind 9 = .ok (.aload_n 2, 1) := by decide +kernel
theorem dX1_comesBehind_10 : decode cX1_comesBehind 10 = .ok (.aload_n 1, 1) := by decide +kernel
theorem dX1_comesBehind_11 : decode cX1_comesBehind 11 = .ok (.if_acmp .ne 5, 3) := by decide +kernel
theorem dX1_comesBehind_14 : decode cX1_comesBehind 14 = .ok (.iconst 1, 1) := by decide +kernel
theorem dX1_comesBehind_15 : decode cX1_comesBehind 15 = .ok (.ireturn, 1) := by decide +kernel
theorem dX1_comesBehind_16 : decode cX1_comesBehind 16 = .ok (.aload_n 2, 1) := by decide +kernel
theorem dX1_comesBehind_17 : decode cX1_comesBehind 17 = .ok (.getfield 15, 3) := by decide +kernel
theorem dX1_comesBehind_20 : decode cX1_comesBehind 20 = .ok (.astore_n 2, 1) := by decide +kernel
theorem dX1_comesBehind_21 : decode cX1_comesBehind 21 = .ok (.goto (-16), 3) := by decide +kernel
theorem dX1_comesBehind_24 : decode cX1_comesBehind 24 = .ok (.iconst 0, 1) := by decide +kernel
theorem dX1_comesBehind_25 : decode cX1_comesBehind 25 = .ok (.ireturn, 1) := by decide +kernel
theorem dX1_loosenFromLeader_0 : decode cX1_loosenFromLeader 0 = .ok (.aload_n 0, 1) := by decide +kernel
theorem dX1_loosenFromLeader_1 : decode cX1_loosenFromLeader 1 = .ok (.getfield 15, 3) := by decide +kernel
theorem dX1_loosenFromLeader_4 : decode cX1_loosenFromLeader 4 = .ok (.ifnull 16, 3) := by decide +kernel
theorem dX1_loosenFromLeader_7 : decode cX1_loosenFromLeader 7 = .ok (.aload_n 0, 1) := by decide +kernel
theorem dX1_loosenFromLeader_8 : decode cX1_loosenFromLeader 8 = .ok (.getfield 15, 3) := by decide +kernel
theorem dX1_loosenFromLeader_11 : decode cX1_loosenFromLeader 11 = .ok (.aconst_null, 1) := by decide +kernel
theorem dX1_loosenFromLeader_12 : decode cX1_loosenFromLeader 12 = .ok (.putfield 19, 3) := by decide +kernel
theorem dX1_loosenFromLeader_15 : decode cX1_loosenFromLeader 15 = .ok (.aload_n 0, 1) := by decide +kernel
theorem dX1_loosenFromLeader_16 : decode cX1_loosenFromLeader 16 = .ok (.aconst_null, 1) := by decide +kernel
theorem dX1_loosenFromLeader_17 : decode cX1_loosenFromLeader 17 = .ok (.putfield 15, 3) := by decide +kernel
theorem dX1_loosenFromLeader_20 : decode cX1_loosenFromLeader 20 = .ok (.return_, 1) := by decide +kernel
theorem dX1_loosenFromFollower_0 : decode cX1_loosenFromFollower 0 = .ok (.aload_n 0, 1) := by decide +kernel
theorem dX1_loosenFromFollower_1 : decode cX1_loosenFromFollower 1 = .ok (.getfield 19, 3) := by decide +kernel
theorem dX1_loosenFromFollower_4 : decode cX1_loosenFromFollower 4 = .ok (.ifnull 16, 3) := by decide +kernel
theorem dX1_loosenFromFollower_7 : decode cX1_loosenFromFollower 7 = .ok (.aload_n 0, 1) := by decide +kernel
theorem dX1_loosenFromFollower_8 : decode cX1_loosenFromFollower 8 = .ok (.getfield 19, 3) := by decide +kernel
theorem dX1_loosenFromFollower_11 : decode cX1_loosenFromFollower 11 = .ok (.aconst_null, 1) := by decide +kernel
theorem dX1_loosenFromFollower_12 : decode cX1_loosenFromFollower 12 = .ok (.putfield 15, 3) := by decide +kernel
theorem dX1_loosenFromFollower_15 : decode cX1_loosenFromFollower 15 = .ok (.aload_n 0, 1) := by decide +kernel
theorem dX1_loosenFromFollower_16 : decode cX1_loosenFromFollower 16 = .ok (.aconst_null, 1) := by decide +kernel
theorem dX1_loosenFromFollower_17 : decode cX1_loosenFromFollower 17 = .ok (.putfield 19, 3) := by decide +kernel
theorem dX1_loosenFromFollower_20 : decode cX1_loosenFromFollower 20 = .ok (.return_, 1) := by decide +kernel
theorem dX2_init_0 : decode cX2_init 0 = .ok (.aload_n 0, 1) := by decide +kernel
theorem dX2_init_1 : decode cX2_init 1 = .ok (.invokespecial 3, 3) := by decide +kernel
theorem dX2_init_4 : decode cX2_init 4 = .ok (.aload_n 0, 1) := by decide +kernel
theorem dX2_init_5 : decode cX2_init 5 = .ok (.bipush 24, 2) := by decide +kernel
theorem dX2_init_7 : decode cX2_init 7 = .ok (.newarray .int, 2) := by decide +kernel
theorem dX2_init_9 : decode cX2_init 9 = .ok (.putfield 9, 3) := by decide +kernel
theorem dX2_init_12 : decode cX2_init 12 = .ok (.aload_n 0, 1) := by decide +kernel
theorem dX2_init_13 : decode cX2_init 13 = .ok (.iconst 0, 1) := by decide +kernel
theorem dX2_init_14 : decode cX2_init 14 = .ok (.putfield 15, 3) := by decide +kernel
theorem dX2_init_17 : decode cX2_init 17 = .ok (.return_, 1) := by decide +kernel
theorem dX2_put_0 : decode cX2_put 0 = .ok (.aload_n 0, 1) := by decide +kernel
theorem dX2_put_1 : decode cX2_put 1 = .ok (.getfield 15, 3) := by decide +kernel
theorem dX2_put_4 : decode cX2_put 4 = .ok (.ifCond .lt 35, 3) := by decide +kernel
theorem dX2_put_7 : decode cX2_put 7 = .ok (.aload_n 0, 1) := by decide +kernel
theorem dX2_put_8 : decode cX2_put 8 = .ok (.getfield 15, 3) := by decide +kernel
theorem dX2_put_11 : decode cX2_put 11 = .ok (.aload_n 0, 1) := by decide +kernel
theorem dX2_put_12 : decode cX2_put 12 = .ok (.getfield 9, 3) := by decide +kernel
theorem dX2_put_15 : decode cX2_put 15 = .ok (.arraylength, 1) := by decide +kernel
theorem dX2_put_16 : decode cX2_put 16 = .ok (.if_icmp .ge 23, 3) := by decide +kernel
theorem dX2_put_19 : decode cX2_put 19 = .ok (.aload_n 0, 1) := by decide +kernel
theorem dX2_put_20 : decode cX2_put 20 = .ok (.getfield 9, 3) := by decide +kernel
theorem dX2_put_23 : decode cX2_put 23 = .ok (.aload_n 0, 1) := by decide +kernel
theorem dX2_put_24 : decode cX2_put 24 = .ok (.getfield 15, 3) := by decide +kernel
theorem dX2_put_27 : decode cX2_put 27 = .ok (.iload_n 1, 1) := by decide +kernel
theorem dX2_put_28 : decode cX2_put 28 = .ok (.iastore, 1) := by decide +kernel
theorem dX2_put_29 : decode cX2_put 29 = .ok (.aload_n 0, 1) := by decide +kernel
theorem dX2_put_30 : decode cX2_put 30 = .ok (.dup, 1) := by decide +kernel
theorem dX2_put_31 : decode cX2_put 31 = .ok (.getfield 15, 3) := by decide +kernel
theorem dX2_put_34 : decode cX2_put 34 = .ok (.iconst 1, 1) := by decide +kernel
theorem dX2_put_35 : decode cX2_put 35 = .ok (.iadd, 1) := by decide +kernel
theorem dX2_put_36 : decode cX2_put 36 = .ok (.putfield 15, 3) := by decide +kernel
theorem dX2_put_39 : decode cX2_put 39 = .ok (.return_, 1) := by decide +kernel
theorem dX2_take_0 : decode cX2_take 0 = .ok (.aload_n 0, 1) := by decide +kernel
theorem dX2_take_1 : decode cX2_take 1 = .ok (.getfield 15, 3) := by decide +kernel
theorem dX2_take_4 : decode cX2_take 4 = .ok (.iconst 1, 1) := by decide +kernel
theorem dX2_take_5 : decode cX2_take 5 = .ok (.isub, 1) := by decide +kernel
theorem dX2_take_6 : decode cX2_take 6 = .ok (.istore_n 1, 1) := by decide +kernel
theorem dX2_take_7 : decode cX2_take 7 = .ok (.iload_n 1, 1) := by decide +kernel
theorem dX2_take_8 : decode cX2_take 8 = .ok (.ifCond .lt 12, 3) := by decide +kernel
theorem dX2_take_11 : decode cX2_take 11 = .ok (.iload_n 1, 1) := by decide +kernel
theorem dX2_take_12 : decode cX2_take 12 = .ok (.aload_n 0, 1) := by decide +kernel
theorem dX2_take_13 : decode cX2_take 13 = .ok (.getfield 9, 3) := by decide +kernel
theorem dX2_take_16 : decode cX2_take 16 = .ok (.arraylength, 1) := by decide +kernel
theorem dX2_take_17 : decode cX2_take 17 = .ok (.if_icmp .lt 5, 3) := by decide +kernel
theorem dX2_take_20 : decode cX2_take 20 = .ok (.iconst 0, 1) := by decide +kernel
theorem dX2_take_21 : decode cX2_take 21 = .ok (.ireturn, 1) := by decide +kernel
theorem dX2_take_22 : decode cX2_take 22 = .ok (.aload_n 0, 1) := by decide +kernel
theorem dX2_take_23 : decode cX2_take 23 = .ok (.iload_n 1, 1) := by decide +kernel
theorem dX2_take_24 : decode cX2_take 24 = .ok (.putfield 15, 3) := by decide +kernel
theorem dX2_take_27 : decode cX2_take 27 = .ok (.aload_n 0, 1) := by decide +kernel
theorem dX2_take_28 : decode cX2_take 28 = .ok (.getfield 9, 3) := by decide +kernel
theorem dX2_take_31 : decode cX2_take 31 = .ok (.iload_n 1, 1) := by decide +kernel
theorem dX2_take_32 : decode cX2_take 32 = .ok (.iaload, 1) := by decide +kernel
theorem dX2_take_33 : decode cX2_take 33 = .ok (.ireturn, 1) := by decide +kernel
theorem dX3_init_0 : decode cX3_init 0 = .ok (.aload_n 0, 1) := by decide +kernel
theorem dX3_init_1 : decode cX3_init 1 = .ok (.invokespecial 3, 3) := by decide +kernel
theorem dX3_init_4 : decode cX3_init 4 = .ok (.aload_n 0, 1) := by decide +kernel
theorem dX3_init_5 : decode cX3_init 5 = .ok (.bipush 24, 2) := by decide +kernel
theorem dX3_init_7 : decode cX3_init 7 = .ok (.newarray .int, 2) := by decide +kernel
theorem dX3_init_9 : decode cX3_init 9 = .ok (.putfield 9, 3) := by decide +kernel
theorem dX3_init_12 : decode cX3_init 12 = .ok (.aload_n 0, 1) := by decide +kernel
theorem dX3_init_13 : decode cX3_init 13 = .ok (.iconst 0, 1) := by decide +kernel
theorem dX3_init_14 : decode cX3_init 14 = .ok (.putfield 15, 3) := by decide +kernel
theorem dX3_init_17 : decode cX3_init 17 = .ok (.return_, 1) := by decide +kernel
theorem dX3_add_0 : decode cX3_add 0 = .ok (.aload_n 0, 1) := by decide +kernel
theorem dX3_add_1 : decode cX3_add 1 = .ok (.getfield 15, 3) := by decide +kernel
theorem dX3_add_4 : decode cX3_add 4 = .ok (.ifCond .lt 35, 3) := by decide +kernel
theorem dX3_add_7 : decode cX3_add 7 = .ok (.aload_n 0, 1) := by decide +kernel
theorem dX3_add_8 : decode cX3_add 8 = .ok (.getfield 15, 3) := by decide +kernel
theorem dX3_add_11 : decode cX3_add 11 = .ok (.aload_n 0, 1) := by decide +kernel
theorem dX3_add_12 : decode cX3_add 12 = .ok (.getfield 9, 3) := by decide +kernel
theorem dX3_add_15 : decode cX3_add 15 = .ok (.arraylength, 1) := by decide +kernel
theorem dX3_add_16 : decode cX3_add 16 = .ok (.if_icmp .ge 23, 3) := by decide +kernel
theorem dX3_add_19 : decode cX3_add 19 = .ok (.aload_n 0, 1) := by decide +kernel
theorem dX3_add_20 : decode cX3_add 20 = .ok (.getfield 9, 3) := by decide +kernel
theorem dX3_add_23 : decode cX3_add 23 = .ok (.aload_n 0, 1) := by decide +kernel
theorem dX3_add_24 : decode cX3_add 24 = .ok (.getfield 15, 3) := by decide +kernel
theorem dX3_add_27 : decode cX3_add 27 = .ok (.iload_n 1, 1) := by decide +kernel
theorem dX3_add_28 : decode cX3_add 28 = .ok (.iastore, 1) := by decide +kernel
theorem dX3_add_29 : decode cX3_add 29 = .ok (.aload_n 0, 1) := by decide +kernel
theorem dX3_add_30 : decode cX3_add 30 = .ok (.dup, 1) := by decide +kernel
theorem dX3_add_31 : decode cX3_add 31 = .ok (.getfield 15, 3) := by decide +kernel
theorem dX3_add_34 : decode cX3_add 34 = .ok (.iconst 1, 1) := by decide +kernel
theorem dX3_add_35 : decode cX3_add 35 = .ok (.iadd, 1) := by decide +kernel
theorem dX3_add_36 : decode cX3_add 36 = .ok (.putfield 15, 3) := by decide +kernel
theorem dX3_add_39 : decode cX3_add 39 = .ok (.return_, 1) := by decide +kernel
theorem dX3_at_0 : decode cX3_at 0 = .ok (.iload_n 1, 1) := by decide +kernel
theorem dX3_at_1 : decode cX3_at 1 = .ok (.ifCond .lt 29, 3) := by decide +kernel
theorem dX3_at_4 : decode cX3_at 4 = .ok (.iload_n 1, 1) := by decide +kernel
theorem dX3_at_5 : decode cX3_at 5 = .ok (.aload_n 0, 1) := by decide +kernel
theorem dX3_at_6 : decode cX3_at 6 = .ok (.getfield 15, 3) := by decide +kernel
theorem dX3_at_9 : decode cX3_at 9 = .ok (.if_icmp .ge 21, 3) := by decide +kernel
theorem dX3_at_12 : decode cX3_at 12 = .ok (.iload_n 1, 1) := by decide +kernel
theorem dX3_at_13 : decode cX3_at 13 = .ok (.aload_n 0, 1) := by decide +kernel
theorem dX3_at_14 : decode cX3_at 14 = .ok (.getfield 9, 3) := by decide +kernel
theorem dX3_at_17 : decode cX3_at 17 = .ok (.arraylength, 1) := by decide +kernel
theorem dX3_at_18 : decode cX3_at 18 = .ok (.if_icmp .ge 12, 3) := by decide +kernel
theorem dX3_at_21 : decode cX3_at 21 = .ok (.aload_n 0, 1) := by decide +kernel
theorem dX3_at_22 : decode cX3_at 22 = .ok (.getfield 9, 3) := by decide +kernel
theorem dX3_at_25 : decode cX3_at 25 = .ok (.iload_n 1, 1) := by decide +kernel
theorem dX3_at_26 : decode cX3_at 26 = .ok (.iaload, 1) := by decide +kernel
theorem dX3_at_27 : decode cX3_at 27 = .ok (.goto 4, 3) := by decide +kernel
theorem dX3_at_30 : decode cX3_at 30 = .ok (.iconst (-1), 1) := by decide +kernel
theorem dX3_at_31 : decode cX3_at 31 = .ok (.ireturn, 1) := by decide +kernel
set_option maxRecDepth 20000 in
theorem ggX3_placeFor_X3_at : GoodIn wsX3_placeFor wsX3_at := goodIn_r _ [6, 1, 7, 8, 9] (by decide +kernel) (by decide +kernel)
set_option maxRecDepth 20000 in
theorem gX3_placeFor_X3_at : GoodIn wsX3_placeFor (wsV RX3 19 RX3 yX3_at wsX3_at) := goodIn_app (goodIn_of _ (by decide +kernel)) ggX3_placeFor_X3_at
theorem dX3_placeFor_0 : decode cX3_placeFor 0 = .ok (.iconst 0, 1) := by decide +kernel
theorem dX3_placeFor_1 : decode cX3_placeFor 1 = .ok (.istore_n 2, 1) := by decide +kernel
theorem dX3_placeFor_2 : decode cX3_placeFor 2 = .ok (.iload_n 2, 1) := by decide +kernel
theorem dX3_placeFor_3 : decode cX3_placeFor 3 = .ok (.aload_n 0, 1) := by decide +kernel
theorem dX3_placeFor_4 : decode cX3_placeFor 4 = .ok (.getfield 15, 3) := by decide +kernel
theorem dX3_placeFor_7 : decode cX3_placeFor 7 = .ok (.if_icmp .ge 20, 3) := by decide +kernel
theorem dX3_placeFor_10 : decode cX3_placeFor 10 = .ok (.aload_n 0, 1) := by decide +kernel
theorem dX3_placeFor_11 : decode cX3_placeFor 11 = .ok (.iload_n 2, 1) := by decide +kernel
theorem dX3_placeFor_12 : decode cX3_placeFor 12 = .ok (.invokevirtual 19, 3) := by decide +kernel
theorem dX3_placeFor_15 : decode cX3_placeFor 15 = .ok (.iload_n 1, 1) := by decide +kernel
theorem dX3_placeFor_16 : decode cX3_placeFor 16 = .ok (.if_icmp .ne 5, 3) := by decide +kernel
theorem dX3_placeFor_19 : decode cX3_placeFor 19 = .ok (.iload_n 2, 1) := by decide +kernel
theorem dX3_placeFor_20 : decode cX3_placeFor 20 = .ok (.ireturn, 1) := by decide +kernel
theorem dX3_placeFor_21 : decode cX3_placeFor 21 = .ok (.iinc 2 1, 3) := by decide +kernel
theorem dX3_placeFor_24 : decode cX3_placeFor 24 = .ok (.goto (-22), 3) := by decide +kernel
theorem dX3_placeFor_27 : decode cX3_placeFor 27 = .ok (.iconst (-1), 1) := by decide +kernel
theorem dX3_placeFor_28 : decode cX3_placeFor 28 = .ok (.ireturn, 1) := by decide +kernel
set_option maxRecDepth 20000 in
theorem ggX3_isSameAs_X3_at : GoodIn wsX3_isSameAs wsX3_at := goodIn_r _ [6, 1, 7, 8, 9] (by decide +kernel) (by decide +kernel)
set_option maxRecDepth 20000 in
theorem gX3_isSameAs_X3_at : GoodIn wsX3_isSameAs (wsV RX3 19 RX3 yX3_at wsX3_at) := goodIn_app (goodIn_of _ (by decide +kernel)) ggX3_isSameAs_X3_at
theorem dX3_isSameAs_0 : decode cX3_isSameAs 0 = .ok (.aload_n 0, 1) := by decide +kernel
theorem dX3_isSameAs_1 : decode cX3_isSameAs 1 = .ok (.getfield 15, 3) := by decide +kernel
theorem dX3_isSameAs_4 : decode cX3_isSameAs 4 = .ok (.aload_n 1, 1) := by decide +kernel
theorem dX3_isSameAs_5 : decode cX3_isSameAs 5 = .ok (.getfield 15, 3) := by decide +kernel
theorem dX3_isSameAs_8 : decode cX3_isSameAs 8 = .ok (.if_icmp .eq 5, 3) := by decide +kernel
theorem dX3_isSameAs_11 : decode cX3_isSameAs 11 = .ok (.iconst 0, 1) := by decide +kernel
theorem dX3_isSameAs_12 : decode cX3_isSameAs 12 = .ok (.ireturn, 1) := by decide +kernel
theorem dX3_isSameAs_13 : decode cX3_isSameAs 13 = .ok (.iconst 0, 1) := by decide +kernel
theorem dX3_isSameAs_14 : decode cX3_isSameAs 14 = .ok (.istore_n 2, 1) := by decide +kernel
theorem dX3_isSameAs_15 : decode cX3_isSameAs 15 = .ok (.iload_n 2, 1) := by decide +kernel
theorem dX3_isSameAs_16 : decode cX3_isSameAs 16 = .ok (.aload_n 0, 1) := by decide +kernel
theorem dX3_isSameAs_17 : decode cX3_isSameAs 17 = .ok (.getfield 15, 3) := by decide +kernel
theorem dX3_isSameAs_20 : decode cX3_isSameAs 20 = .ok (.if_icmp .ge 24, 3) := by decide +kernel
theorem dX3_isSameAs_23 : decode cX3_isSameAs 23 = .ok (.aload_n 0, 1) := by decide +kernel
theorem dX3_isSameAs_24 : decode cX3_isSameAs 24 = .ok (.iload_n 2, 1) := by decide +kernel
theorem dX3_isSameAs_25 : decode cX3_isSameAs 25 = .ok (.invokevirtual 19, 3) := by decide +kernel
theorem dX3_isSameAs_28 : decode cX3_isSameAs 28 = .ok (.aload_n 1, 1) := by decide +kernel
theorem dX3_isSameAs_29 : decode cX3_isSameAs 29 = .ok (.iload_n 2, 1) := by decide +kernel
theorem dX3_isSameAs_30 : decode cX3_isSameAs 30 = .ok (.invokevirtual 19, 3) := by decide +kernel
theorem dX3_isSameAs_33 : decode cX3_isSameAs 33 = .ok (.if_icmp .eq 5, 3) := by decide +kernel
theorem dX3_isSameAs_36 : decode cX3_isSameAs 36 = .ok (.iconst 0, 1) := by decide +kernel
theorem dX3_isSameAs_37 : decode cX3_isSameAs 37 = .ok (.ireturn, 1) := by decide +kernel
theorem dX3_isSameAs_38 : decode cX3_isSameAs 38 = .ok (.iinc 2 1, 3) := by decide +kernel
theorem dX3_isSameAs_41 : decode cX3_isSameAs 41 = .ok (.goto (-26), 3) := by decide +kernel
theorem dX3_isSameAs_44 : decode cX3_isSameAs 44 = .ok (.iconst 1, 1) := by decide +kernel
theorem dX3_isSameAs_45 : decode cX3_isSameAs 45 = .ok (.ireturn, 1) := by decide +kernel
set_option maxRecDepth 20000 in
theorem ggX3_become_X3_at : GoodIn wsX3_become wsX3_at := goodIn_r _ [6, 1, 7, 12, 13] (by decide +kernel) (by decide +kernel)
set_option maxRecDepth 20000 in
theorem gX3_become_X3_at : GoodIn wsX3_become (wsV RX3 19 RX3 yX3_at wsX3_at) := goodIn_app (goodIn_of _ (by decide +kernel)) ggX3_become_X3_at
set_option maxRecDepth 20000 in
theorem ggX3_become_X3_add : GoodIn wsX3_become wsX3_add := goodIn_r _ [11, 1, 7, 12, 13] (by decide +kernel) (by decide +kernel)
set_option maxRecDepth 20000 in
theorem gX3_become_X3_add : GoodIn wsX3_become (wsV RX3 23 RX3 yX3_add wsX3_add) := goodIn_app (goodIn_of _ (by decide +kernel)) ggX3_become_X3_add
theorem dX3_become_0 : decode cX3_become 0 = .ok (.aload_n 0, 1) := by decide +kernel
theorem dX3_become_1 : decode cX3_become 1 = .ok (.iconst 0, 1) := by decide +kernel
theorem dX3_become_2 : decode cX3_become 2 = .ok (.putfield 15, 3) := by decide +kernel
theorem dX3_become_5 : decode cX3_become 5 = .ok (.iconst 0, 1) := by decide +kernel
theorem dX3_become_6 : decode cX3_become 6 = .ok (.istore_n 2, 1) := by decide +kernel
theorem dX3_become_7 : decode cX3_become 7 = .ok (.iload_n 2, 1) := by decide +kernel
theorem dX3_become_8 : decode cX3_become 8 = .ok (.aload_n 1, 1) := by decide +kernel
theorem dX3_become_9 : decode cX3_become 9 = .ok (.getfield 15, 3) := by decide +kernel
theorem dX3_become_12 : decode cX3_become 12 = .ok (.if_icmp .ge 18, 3) := by decide +kernel
theorem dX3_become_15 : decode cX3_become 15 = .ok (.aload_n 0, 1) := by decide +kernel
theorem dX3_become_16 : decode cX3_become 16 = .ok (.aload_n 1, 1) := by decide +kernel
theorem dX3_become_17 : decode cX3_become 17 = .ok (.iload_n 2, 1) := by decide +kernel
theorem dX3_become_18 : decode cX3_become 18 = .ok (.invokevirtual 19, 3) := by decide +kernel
theorem dX3_become_21 : decode cX3_become 21 = .ok (.invokevirtual 23, 3) := by decide +kernel
theorem dX3_become_24 : decode cX3_become 24 = .ok (.iinc 2 1, 3) := by decide +kernel
theorem dX3_become_27 : decode cX3_become 27 = .ok (.goto (-20), 3) := by decide +kernel
theorem dX3_become_30 : decode cX3_become 30 = .ok (.return_, 1) := by decide +kernel
